theorem d_Md_register__0 : decode b_Md_register_ 0 = .ok (.aload_n 0, 1) := by decide +kernel
theorem d_Md_register__1 : decode b_Md_register_ 1 = .ok (.iconst 0, 1) := by decide +kernel
theorem d_Md_register__2 : decode b_Md_register_ 2 = .ok (.invokevirtual 97, 3) := by decide +kernel
theorem d_Md_register__5 : decode b_Md_register_ 5 = .ok (.istore_n 1, 1) := by decide +kernel
theorem d_Md_register__6 : decode b_Md_register_ 6 = .ok (.aload_n 0, 1) := by decide +kernel
theorem d_Md_register__7 : decode b_Md_register_ 7 = .ok (.aload_n 0, 1) := by decide +kernel
theorem d_Md_register__8 : decode b_Md_register_ 8 = .ok (.getfield 85, 3) := by decide +kernel
theorem d_Md_register__11 : decode b_Md_register_ 11 = .ok (.ifCond .ne 13, 3) := by decide +kernel
theorem d_Md_register__14 : decode b_Md_register_ 14 = .ok (.iload_n 1, 1) := by decide +kernel
theorem d_Md_register__15 : decode b_Md_register_ 15 = .ok (.iconst 0, 1) := by decide +kernel
theorem d_Md_register__16 : decode b_Md_register_ 16 = .ok (.bipush 7, 2) := by decide +kernel
theorem d_Md_register__18 : decode b_Md_register_ 18 = .ok (.invokestatic 75, 3) := by decide +kernel
theorem d_Md_register__21 : decode b_Md_register_ 21 = .ok (.ifCond .ne 7, 3) := by decide +kernel
theorem d_Md_register__24 : decode b_Md_register_ 24 = .ok (.iconst 1, 1) := by decide +kernel
theorem d_Md_register__25 : decode b_Md_register_ 25 = .ok (.goto 4, 3) := by decide +kernel
theorem d_Md_register__28 : decode b_Md_register_ 28 = .ok (.iconst 0, 1) := by decide +kernel
theorem d_Md_register__29 : decode b_Md_register_ 29 = .ok (.putfield 85, 3) := by decide +kernel
theorem d_Md_register__32 : decode b_Md_register_ 32 = .ok (.iload_n 1, 1) := by decide +kernel
theorem d_Md_register__33 : decode b_Md_register_ 33 = .ok (.ireturn, 1) := by decide +kernel
theorem d_Md_block_0 : decode b_Md_block 0 = .ok (.aload_n 0, 1) := by decide +kernel
theorem d_Md_block_1 : decode b_Md_block 1 = .ok (.getfield 79, 3) := by decide +kernel
theorem d_Md_block_4 : decode b_Md_block 4 = .ok (.istore_n 2, 1) := by decide +kernel
theorem d_Md_block_5 : decode b_Md_block 5 = .ok (.iload_n 1, 1) := by decide +kernel
theorem d_Md_block_6 : decode b_Md_block 6 = .ok (.ifCond .lt 16, 3) := by decide +kernel
theorem d_Md_block_9 : decode b_Md_block 9 = .ok (.iload_n 1, 1) := by decide +kernel
theorem d_Md_block_10 : decode b_Md_block 10 = .ok (.aload_n 0, 1) := by decide +kernel
theorem d_Md_block_11 : decode b_Md_block 11 = .ok (.getfield 82, 3) := by decide +kernel
theorem d_Md_block_14 : decode b_Md_block 14 = .ok (.aload_n 0, 1) := by decide +kernel
theorem d_Md_block_15 : decode b_Md_block 15 = .ok (.getfield 79, 3) := by decide +kernel
theorem d_Md_block_18 : decode b_Md_block 18 = .ok (.isub, 1) := by decide +kernel
theorem d_Md_block_19 : decode b_Md_block 19 = .ok (.if_icmp .le 11, 3) := by decide +kernel
theorem d_Md_block_22 : decode b_Md_block 22 = .ok (.aload_n 0, 1) := by decide +kernel
theorem d_Md_block_23 : decode b_Md_block 23 = .ok (.iconst 1, 1) := by decide +kernel
theorem d_Md_block_24 : decode b_Md_block 24 = .ok (.putfield 85, 3) := by decide +kernel
theorem d_Md_block_27 : decode b_Md_block 27 = .ok (.goto 13, 3) := by decide +kernel
theorem d_Md_block_30 : decode b_Md_block 30 = .ok (.aload_n 0, 1) := by decide +kernel
theorem d_Md_block_31 : decode b_Md_block 31 = .ok (.dup, 1) := by decide +kernel
theorem d_Md_block_32 : decode b_Md_block 32 = .ok (.getfield 79, 3) := by decide +kernel
theorem d_Md_block_35 : decode b_Md_block 35 = .ok (.iload_n 1, 1) := by decide +kernel
theorem d_Md_block_36 : decode b_Md_block 36 = .ok (.iadd, 1) := by decide +kernel
theorem d_Md_block_37 : decode b_Md_block 37 = .ok (.putfield 79, 3) := by decide +kernel
theorem d_Md_block_40 : decode b_Md_block 40 = .ok (.iload_n 2, 1) := by decide +kernel
theorem d_Md_block_41 : decode b_Md_block 41 = .ok (.ireturn, 1) := by decide +kernel
theorem d_Md_keepRow_0 : decode b_Md_keepRow 0 = .ok (.aload_n 0, 1) := by decide +kernel
theorem d_Md_keepRow_1 : decode b_Md_keepRow 1 = .ok (.getfield 101, 3) := by decide +kernel
theorem d_Md_keepRow_4 : decode b_Md_keepRow 4 = .ok (.iconst 4, 1) := by decide +kernel
theorem d_Md_keepRow_5 : decode b_Md_keepRow 5 = .ok (.if_icmp .ne 9, 3) := by decide +kernel
theorem d_Md_keepRow_8 : decode b_Md_keepRow 8 = .ok (.aload_n 0, 1) := by decide +kernel
theorem d_Md_keepRow_9 : decode b_Md_keepRow 9 = .ok (.iconst 1, 1) := by decide +kernel
theorem d_Md_keepRow_10 : decode b_Md_keepRow 10 = .ok (.putfield 85, 3) := by decide +kernel
theorem d_Md_keepRow_13 : decode b_Md_keepRow 13 = .ok (.return_, 1) := by decide +kernel
theorem d_Md_keepRow_14 : decode b_Md_keepRow 14 = .ok (.iconst 0, 1) := by decide +kernel
theorem d_Md_keepRow_15 : decode b_Md_keepRow 15 = .ok (.istore_n 1, 1) := by decide +kernel
theorem d_Md_keepRow_16 : decode b_Md_keepRow 16 = .ok (.iload_n 1, 1) := by decide +kernel
theorem d_Md_keepRow_17 : decode b_Md_keepRow 17 = .ok (.bipush 27, 2) := by decide +kernel
theorem d_Md_keepRow_19 : decode b_Md_keepRow 19 = .ok (.if_icmp .ge 29, 3) := by decide +kernel
theorem d_Md_keepRow_22 : decode b_Md_keepRow 22 = .ok (.aload_n 0, 1) := by decide +kernel
theorem d_Md_keepRow_23 : decode b_Md_keepRow 23 = .ok (.getfield 50, 3) := by decide +kernel
theorem d_Md_keepRow_26 : decode b_Md_keepRow 26 = .ok (.bipush 27, 2) := by decide +kernel
theorem d_Md_keepRow_28 : decode b_Md_keepRow 28 = .ok (.aload_n 0, 1) := by decide +kernel
theorem d_Md_keepRow_29 : decode b_Md_keepRow 29 = .ok (.getfield 101, 3) := by decide +kernel
theorem d_Md_keepRow_32 : decode b_Md_keepRow 32 = .ok (.imul, 1) := by decide +kernel
theorem d_Md_keepRow_33 : decode b_Md_keepRow 33 = .ok (.iload_n 1, 1) := by decide +kernel
theorem d_Md_keepRow_34 : decode b_Md_keepRow 34 = .ok (.iadd, 1) := by decide +kernel
theorem d_Md_keepRow_35 : decode b_Md_keepRow 35 = .ok (.aload_n 0, 1) := by decide +kernel
theorem d_Md_keepRow_36 : decode b_Md_keepRow 36 = .ok (.getfield 44, 3) := by decide +kernel
theorem d_Md_keepRow_39 : decode b_Md_keepRow 39 = .ok (.iload_n 1, 1) := by decide +kernel
theorem d_Md_keepRow_40 : decode b_Md_keepRow 40 = .ok (.iaload, 1) := by decide +kernel
theorem d_Md_keepRow_41 : decode b_Md_keepRow 41 = .ok (.iastore, 1) := by decide +kernel
theorem d_Md_keepRow_42 : decode b_Md_keepRow 42 = .ok (.iinc 1 1, 3) := by decide +kernel
theorem d_Md_keepRow_45 : decode b_Md_keepRow 45 = .ok (.goto (-29), 3) := by decide +kernel
theorem d_Md_keepRow_48 : decode b_Md_keepRow 48 = .ok (.aload_n 0, 1) := by decide +kernel
theorem d_Md_keepRow_49 : decode b_Md_keepRow 49 = .ok (.dup, 1) := by decide +kernel
theorem d_Md_keepRow_50 : decode b_Md_keepRow 50 = .ok (.getfield 101, 3) := by decide +kernel
theorem d_Md_keepRow_53 : decode b_Md_keepRow 53 = .ok (.iconst 1, 1) := by decide +kernel
theorem d_Md_keepRow_54 : decode b_Md_keepRow 54 = .ok (.iadd, 1) := by decide +kernel
theorem d_Md_keepRow_55 : decode b_Md_keepRow 55 = .ok (.putfield 101, 3) := by decide +kernel
theorem d_Md_keepRow_58 : decode b_Md_keepRow 58 = .ok (.return_, 1) := by decide +kernel
theorem d_Md_bringBack_0 : decode b_Md_bringBack 0 = .ok (.aload_n 0, 1) := by decide +kernel
theorem d_Md_bringBack_1 : decode b_Md_bringBack 1 = .ok (.getfield 101, 3) := by decide +kernel
theorem d_Md_bringBack_4 : decode b_Md_bringBack 4 = .ok (.ifCond .ne 9, 3) := by decide +kernel
theorem d_Md_bringBack_7 : decode b_Md_bringBack 7 = .ok (.aload_n 0, 1) := by decide +kernel
theorem d_Md_bringBack_8 : decode b_Md_bringBack 8 = .ok (.iconst 1, 1) := by decide +kernel
theorem d_Md_bringBack_9 : decode b_Md_bringBack 9 = .ok (.putfield 85, 3) := by decide +kernel
theorem d_Md_bringBack_12 : decode b_Md_bringBack 12 = .ok (.return_, 1) := by decide +kernel
theorem d_Md_bringBack_13 : decode b_Md_bringBack 13 = .ok (.aload_n 0, 1) := by decide +kernel
theorem d_Md_bringBack_14 : decode b_Md_bringBack 14 = .ok (.dup, 1) := by decide +kernel
theorem d_Md_bringBack_15 : decode b_Md_bringBack 15 = .ok (.getfield 101, 3) := by decide +kernel
theorem d_Md_bringBack_18 : decode b_Md_bringBack 18 = .ok (.iconst 1, 1) := by decide +kernel
theorem d_Md_bringBack_19 : decode b_Md_bringBack 19 = .ok (.isub, 1) := by decide +kernel
theorem d_Md_bringBack_20 : decode b_Md_bringBack 20 = .ok (.putfield 101, 3) := by decide +kernel
theorem d_Md_bringBack_23 : decode b_Md_bringBack 23 = .ok (.iconst 0, 1) := by decide +kernel
theorem d_Md_bringBack_24 : decode b_Md_bringBack 24 = .ok (.istore_n 1, 1) := by decide +kernel
theorem d_Md_bringBack_25 : decode b_Md_bringBack 25 = .ok (.iload_n 1, 1) := by decide +kernel
theorem d_Md_bringBack_26 : decode b_Md_bringBack 26 = .ok (.bipush 27, 2) := by decide +kernel
theorem d_Md_bringBack_28 : decode b_Md_bringBack 28 = .ok (.if_icmp .ge 29, 3) := by decide +kernel
theorem d_Md_bringBack_31 : decode b_Md_bringBack 31 = .ok (.aload_n 0, 1) := by decide +kernel
theorem d_Md_bringBack_32 : decode b_Md_bringBack 32 = .ok (.getfield 44, 3) := by decide +kernel
theorem d_Md_bringBack_35 : decode b_Md_bringBack 35 = .ok (.iload_n 1, 1) := by decide +kernel
theorem d_Md_bringBack_36 : decode b_Md_bringBack 36 = .ok (.aload_n 0, 1) := by decide +kernel
theorem d_Md_bringBack_37 : decode b_Md_bringBack 37 = .ok (.getfield 50, 3) := by decide +kernel
theorem d_Md_bringBack_40 : decode b_Md_bringBack 40 = .ok (.bipush 27, 2) := by decide +kernel
theorem d_Md_bringBack_42 : decode b_Md_bringBack 42 = .ok (.aload_n 0, 1) := by decide +kernel
theorem d_Md_bringBack_43 : decode b_Md_bringBack 43 = .ok (.getfield 101, 3) := by decide +kernel
theorem d_Md_bringBack_46 : decode b_Md_bringBack 46 = .ok (.imul, 1) := by decide +kernel
theorem d_Md_bringBack_47 : decode b_Md_bringBack 47 = .ok (.iload_n 1, 1) := by decide +kernel
theorem d_Md_bringBack_48 : decode b_Md_bringBack 48 = .ok (.iadd, 1) := by decide +kernel
theorem d_Md_bringBack_49 : decode b_Md_bringBack 49 = .ok (.iaload, 1) := by decide +kernel
theorem d_Md_bringBack_50 : decode b_Md_bringBack 50 = .ok (.iastore, 1) := by decide +kernel
theorem d_Md_bringBack_51 : decode b_Md_bringBack 51 = .ok (.iinc 1 1, 3) := by decide +kernel
theorem d_Md_bringBack_54 : decode b_Md_bringBack 54 = .ok (.goto (-29), 3) := by decide +kernel
theorem d_Md_bringBack_57 : decode b_Md_bringBack 57 = .ok (.return_, 1) := by decide +kernel
