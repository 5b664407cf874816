theorem d_Rd_open_0 : decode b_Rd_open 0 = .ok (.aload_n 0, 1) := by decide +kernel
theorem d_Rd_open_1 : decode b_Rd_open 1 = .ok (.iload_n 1, 1) := by decide +kernel
theorem d_Rd_open_2 : decode b_Rd_open 2 = .ok (.putfield 13, 3) := by decide +kernel
theorem d_Rd_open_5 : decode b_Rd_open 5 = .ok (.aload_n 0, 1) := by decide +kernel
theorem d_Rd_open_6 : decode b_Rd_open 6 = .ok (.iload_n 2, 1) := by decide +kernel
theorem d_Rd_open_7 : decode b_Rd_open 7 = .ok (.putfield 17, 3) := by decide +kernel
theorem d_Rd_open_10 : decode b_Rd_open 10 = .ok (.aload_n 0, 1) := by decide +kernel
theorem d_Rd_open_11 : decode b_Rd_open 11 = .ok (.iconst 0, 1) := by decide +kernel
theorem d_Rd_open_12 : decode b_Rd_open 12 = .ok (.putfield 20, 3) := by decide +kernel
theorem d_Rd_open_15 : decode b_Rd_open 15 = .ok (.return_, 1) := by decide +kernel
theorem d_Rd_unsigned_0 : decode b_Rd_unsigned 0 = .ok (.aload_n 0, 1) := by decide +kernel
theorem d_Rd_unsigned_1 : decode b_Rd_unsigned 1 = .ok (.getfield 20, 3) := by decide +kernel
theorem d_Rd_unsigned_4 : decode b_Rd_unsigned 4 = .ok (.ifCond .ne 16, 3) := by decide +kernel
theorem d_Rd_unsigned_7 : decode b_Rd_unsigned 7 = .ok (.iload_n 1, 1) := by decide +kernel
theorem d_Rd_unsigned_8 : decode b_Rd_unsigned 8 = .ok (.aload_n 0, 1) := by decide +kernel
theorem d_Rd_unsigned_9 : decode b_Rd_unsigned 9 = .ok (.getfield 17, 3) := by decide +kernel
theorem d_Rd_unsigned_12 : decode b_Rd_unsigned 12 = .ok (.aload_n 0, 1) := by decide +kernel
theorem d_Rd_unsigned_13 : decode b_Rd_unsigned 13 = .ok (.getfield 13, 3) := by decide +kernel
theorem d_Rd_unsigned_16 : decode b_Rd_unsigned 16 = .ok (.isub, 1) := by decide +kernel
theorem d_Rd_unsigned_17 : decode b_Rd_unsigned 17 = .ok (.if_icmp .le 10, 3) := by decide +kernel
theorem d_Rd_unsigned_20 : decode b_Rd_unsigned 20 = .ok (.aload_n 0, 1) := by decide +kernel
theorem d_Rd_unsigned_21 : decode b_Rd_unsigned 21 = .ok (.iconst 1, 1) := by decide +kernel
theorem d_Rd_unsigned_22 : decode b_Rd_unsigned 22 = .ok (.putfield 20, 3) := by decide +kernel
theorem d_Rd_unsigned_25 : decode b_Rd_unsigned 25 = .ok (.iconst 0, 1) := by decide +kernel
theorem d_Rd_unsigned_26 : decode b_Rd_unsigned 26 = .ok (.ireturn, 1) := by decide +kernel
theorem d_Rd_unsigned_27 : decode b_Rd_unsigned 27 = .ok (.iconst 0, 1) := by decide +kernel
theorem d_Rd_unsigned_28 : decode b_Rd_unsigned 28 = .ok (.istore_n 2, 1) := by decide +kernel
theorem d_Rd_unsigned_29 : decode b_Rd_unsigned 29 = .ok (.iconst 0, 1) := by decide +kernel
theorem d_Rd_unsigned_30 : decode b_Rd_unsigned 30 = .ok (.istore_n 3, 1) := by decide +kernel
theorem d_Rd_unsigned_31 : decode b_Rd_unsigned 31 = .ok (.iload_n 3, 1) := by decide +kernel
theorem d_Rd_unsigned_32 : decode b_Rd_unsigned 32 = .ok (.iload_n 1, 1) := by decide +kernel
theorem d_Rd_unsigned_33 : decode b_Rd_unsigned 33 = .ok (.if_icmp .ge 32, 3) := by decide +kernel
theorem d_Rd_unsigned_36 : decode b_Rd_unsigned 36 = .ok (.iload_n 2, 1) := by decide +kernel
theorem d_Rd_unsigned_37 : decode b_Rd_unsigned 37 = .ok (.aload_n 0, 1) := by decide +kernel
theorem d_Rd_unsigned_38 : decode b_Rd_unsigned 38 = .ok (.getfield 7, 3) := by decide +kernel
theorem d_Rd_unsigned_41 : decode b_Rd_unsigned 41 = .ok (.aload_n 0, 1) := by decide +kernel
theorem d_Rd_unsigned_42 : decode b_Rd_unsigned 42 = .ok (.getfield 13, 3) := by decide +kernel
theorem d_Rd_unsigned_45 : decode b_Rd_unsigned 45 = .ok (.iload_n 3, 1) := by decide +kernel
theorem d_Rd_unsigned_46 : decode b_Rd_unsigned 46 = .ok (.iadd, 1) := by decide +kernel
theorem d_Rd_unsigned_47 : decode b_Rd_unsigned 47 = .ok (.baload, 1) := by decide +kernel
theorem d_Rd_unsigned_48 : decode b_Rd_unsigned 48 = .ok (.sipush 255, 3) := by decide +kernel
theorem d_Rd_unsigned_51 : decode b_Rd_unsigned 51 = .ok (.iand, 1) := by decide +kernel
theorem d_Rd_unsigned_52 : decode b_Rd_unsigned 52 = .ok (.bipush 8, 2) := by decide +kernel
theorem d_Rd_unsigned_54 : decode b_Rd_unsigned 54 = .ok (.iload_n 3, 1) := by decide +kernel
theorem d_Rd_unsigned_55 : decode b_Rd_unsigned 55 = .ok (.imul, 1) := by decide +kernel
theorem d_Rd_unsigned_56 : decode b_Rd_unsigned 56 = .ok (.ishl, 1) := by decide +kernel
theorem d_Rd_unsigned_57 : decode b_Rd_unsigned 57 = .ok (.ior, 1) := by decide +kernel
theorem d_Rd_unsigned_58 : decode b_Rd_unsigned 58 = .ok (.istore_n 2, 1) := by decide +kernel
theorem d_Rd_unsigned_59 : decode b_Rd_unsigned 59 = .ok (.iinc 3 1, 3) := by decide +kernel
theorem d_Rd_unsigned_62 : decode b_Rd_unsigned 62 = .ok (.goto (-31), 3) := by decide +kernel
theorem d_Rd_unsigned_65 : decode b_Rd_unsigned 65 = .ok (.aload_n 0, 1) := by decide +kernel
theorem d_Rd_unsigned_66 : decode b_Rd_unsigned 66 = .ok (.dup, 1) := by decide +kernel
theorem d_Rd_unsigned_67 : decode b_Rd_unsigned 67 = .ok (.getfield 13, 3) := by decide +kernel
theorem d_Rd_unsigned_70 : decode b_Rd_unsigned 70 = .ok (.iload_n 1, 1) := by decide +kernel
theorem d_Rd_unsigned_71 : decode b_Rd_unsigned 71 = .ok (.iadd, 1) := by decide +kernel
theorem d_Rd_unsigned_72 : decode b_Rd_unsigned 72 = .ok (.putfield 13, 3) := by decide +kernel
theorem d_Rd_unsigned_75 : decode b_Rd_unsigned 75 = .ok (.iload_n 2, 1) := by decide +kernel
theorem d_Rd_unsigned_76 : decode b_Rd_unsigned 76 = .ok (.ireturn, 1) := by decide +kernel
theorem d_Rd_signed_0 : decode b_Rd_signed 0 = .ok (.bipush 32, 2) := by decide +kernel
theorem d_Rd_signed_2 : decode b_Rd_signed 2 = .ok (.bipush 8, 2) := by decide +kernel
theorem d_Rd_signed_4 : decode b_Rd_signed 4 = .ok (.iload_n 1, 1) := by decide +kernel
theorem d_Rd_signed_5 : decode b_Rd_signed 5 = .ok (.imul, 1) := by decide +kernel
theorem d_Rd_signed_6 : decode b_Rd_signed 6 = .ok (.isub, 1) := by decide +kernel
theorem d_Rd_signed_7 : decode b_Rd_signed 7 = .ok (.istore_n 2, 1) := by decide +kernel
theorem d_Rd_signed_8 : decode b_Rd_signed 8 = .ok (.aload_n 0, 1) := by decide +kernel
theorem d_Rd_signed_9 : decode b_Rd_signed 9 = .ok (.iload_n 1, 1) := by decide +kernel
theorem d_Rd_signed_10 : decode b_Rd_signed 10 = .ok (.invokevirtual 24, 3) := by decide +kernel
theorem d_Rd_signed_13 : decode b_Rd_signed 13 = .ok (.iload_n 2, 1) := by decide +kernel
theorem d_Rd_signed_14 : decode b_Rd_signed 14 = .ok (.ishl, 1) := by decide +kernel
theorem d_Rd_signed_15 : decode b_Rd_signed 15 = .ok (.iload_n 2, 1) := by decide +kernel
theorem d_Rd_signed_16 : decode b_Rd_signed 16 = .ok (.ishr, 1) := by decide +kernel
theorem d_Rd_signed_17 : decode b_Rd_signed 17 = .ok (.ireturn, 1) := by decide +kernel
theorem d_Rd_uleb_0 : decode b_Rd_uleb 0 = .ok (.iconst 0, 1) := by decide +kernel
theorem d_Rd_uleb_1 : decode b_Rd_uleb 1 = .ok (.istore_n 1, 1) := by decide +kernel
theorem d_Rd_uleb_2 : decode b_Rd_uleb 2 = .ok (.iconst 0, 1) := by decide +kernel
theorem d_Rd_uleb_3 : decode b_Rd_uleb 3 = .ok (.istore_n 2, 1) := by decide +kernel
theorem d_Rd_uleb_4 : decode b_Rd_uleb 4 = .ok (.iload_n 2, 1) := by decide +kernel
theorem d_Rd_uleb_5 : decode b_Rd_uleb 5 = .ok (.iconst 5, 1) := by decide +kernel
theorem d_Rd_uleb_6 : decode b_Rd_uleb 6 = .ok (.if_icmp .ge 69, 3) := by decide +kernel
theorem d_Rd_uleb_9 : decode b_Rd_uleb 9 = .ok (.aload_n 0, 1) := by decide +kernel
theorem d_Rd_uleb_10 : decode b_Rd_uleb 10 = .ok (.getfield 20, 3) := by decide +kernel
theorem d_Rd_uleb_13 : decode b_Rd_uleb 13 = .ok (.ifCond .ne 62, 3) := by decide +kernel
theorem d_Rd_uleb_16 : decode b_Rd_uleb 16 = .ok (.aload_n 0, 1) := by decide +kernel
theorem d_Rd_uleb_17 : decode b_Rd_uleb 17 = .ok (.getfield 13, 3) := by decide +kernel
theorem d_Rd_uleb_20 : decode b_Rd_uleb 20 = .ok (.aload_n 0, 1) := by decide +kernel
theorem d_Rd_uleb_21 : decode b_Rd_uleb 21 = .ok (.getfield 17, 3) := by decide +kernel
theorem d_Rd_uleb_24 : decode b_Rd_uleb 24 = .ok (.if_icmp .ge 51, 3) := by decide +kernel
theorem d_Rd_uleb_27 : decode b_Rd_uleb 27 = .ok (.aload_n 0, 1) := by decide +kernel
theorem d_Rd_uleb_28 : decode b_Rd_uleb 28 = .ok (.getfield 7, 3) := by decide +kernel
theorem d_Rd_uleb_31 : decode b_Rd_uleb 31 = .ok (.aload_n 0, 1) := by decide +kernel
theorem d_Rd_uleb_32 : decode b_Rd_uleb 32 = .ok (.getfield 13, 3) := by decide +kernel
theorem d_Rd_uleb_35 : decode b_Rd_uleb 35 = .ok (.baload, 1) := by decide +kernel
theorem d_Rd_uleb_36 : decode b_Rd_uleb 36 = .ok (.istore_n 3, 1) := by decide +kernel
theorem d_Rd_uleb_37 : decode b_Rd_uleb 37 = .ok (.aload_n 0, 1) := by decide +kernel
theorem d_Rd_uleb_38 : decode b_Rd_uleb 38 = .ok (.dup, 1) := by decide +kernel
theorem d_Rd_uleb_39 : decode b_Rd_uleb 39 = .ok (.getfield 13, 3) := by decide +kernel
theorem d_Rd_uleb_42 : decode b_Rd_uleb 42 = .ok (.iconst 1, 1) := by decide +kernel
theorem d_Rd_uleb_43 : decode b_Rd_uleb 43 = .ok (.iadd, 1) := by decide +kernel
theorem d_Rd_uleb_44 : decode b_Rd_uleb 44 = .ok (.putfield 13, 3) := by decide +kernel
theorem d_Rd_uleb_47 : decode b_Rd_uleb 47 = .ok (.iload_n 1, 1) := by decide +kernel
theorem d_Rd_uleb_48 : decode b_Rd_uleb 48 = .ok (.iload_n 3, 1) := by decide +kernel
theorem d_Rd_uleb_49 : decode b_Rd_uleb 49 = .ok (.bipush 127, 2) := by decide +kernel
theorem d_Rd_uleb_51 : decode b_Rd_uleb 51 = .ok (.iand, 1) := by decide +kernel
theorem d_Rd_uleb_52 : decode b_Rd_uleb 52 = .ok (.bipush 7, 2) := by decide +kernel
theorem d_Rd_uleb_54 : decode b_Rd_uleb 54 = .ok (.iload_n 2, 1) := by decide +kernel
theorem d_Rd_uleb_55 : decode b_Rd_uleb 55 = .ok (.imul, 1) := by decide +kernel
theorem d_Rd_uleb_56 : decode b_Rd_uleb 56 = .ok (.ishl, 1) := by decide +kernel
theorem d_Rd_uleb_57 : decode b_Rd_uleb 57 = .ok (.ior, 1) := by decide +kernel
theorem d_Rd_uleb_58 : decode b_Rd_uleb 58 = .ok (.istore_n 1, 1) := by decide +kernel
theorem d_Rd_uleb_59 : decode b_Rd_uleb 59 = .ok (.iload_n 3, 1) := by decide +kernel
theorem d_Rd_uleb_60 : decode b_Rd_uleb 60 = .ok (.sipush 128, 3) := by decide +kernel
theorem d_Rd_uleb_63 : decode b_Rd_uleb 63 = .ok (.iand, 1) := by decide +kernel
theorem d_Rd_uleb_64 : decode b_Rd_uleb 64 = .ok (.ifCond .ne 5, 3) := by decide +kernel
theorem d_Rd_uleb_67 : decode b_Rd_uleb 67 = .ok (.iload_n 1, 1) := by decide +kernel
theorem d_Rd_uleb_68 : decode b_Rd_uleb 68 = .ok (.ireturn, 1) := by decide +kernel
theorem d_Rd_uleb_69 : decode b_Rd_uleb 69 = .ok (.iinc 2 1, 3) := by decide +kernel
theorem d_Rd_uleb_72 : decode b_Rd_uleb 72 = .ok (.goto (-68), 3) := by decide +kernel
theorem d_Rd_uleb_75 : decode b_Rd_uleb 75 = .ok (.aload_n 0, 1) := by decide +kernel
theorem d_Rd_uleb_76 : decode b_Rd_uleb 76 = .ok (.iconst 1, 1) := by decide +kernel
theorem d_Rd_uleb_77 : decode b_Rd_uleb 77 = .ok (.putfield 20, 3) := by decide +kernel
theorem d_Rd_uleb_80 : decode b_Rd_uleb 80 = .ok (.iconst 0, 1) := by decide +kernel
theorem d_Rd_uleb_81 : decode b_Rd_uleb 81 = .ok (.ireturn, 1) := by decide +kernel
theorem d_Rd_sleb_0 : decode b_Rd_sleb 0 = .ok (.aload_n 0, 1) := by decide +kernel
theorem d_Rd_sleb_1 : decode b_Rd_sleb 1 = .ok (.getfield 13, 3) := by decide +kernel
theorem d_Rd_sleb_4 : decode b_Rd_sleb 4 = .ok (.istore_n 1, 1) := by decide +kernel
theorem d_Rd_sleb_5 : decode b_Rd_sleb 5 = .ok (.aload_n 0, 1) := by decide +kernel
theorem d_Rd_sleb_6 : decode b_Rd_sleb 6 = .ok (.invokevirtual 28, 3) := by decide +kernel
theorem d_Rd_sleb_9 : decode b_Rd_sleb 9 = .ok (.istore_n 2, 1) := by decide +kernel
theorem d_Rd_sleb_10 : decode b_Rd_sleb 10 = .ok (.bipush 7, 2) := by decide +kernel
theorem d_Rd_sleb_12 : decode b_Rd_sleb 12 = .ok (.aload_n 0, 1) := by decide +kernel
theorem d_Rd_sleb_13 : decode b_Rd_sleb 13 = .ok (.getfield 13, 3) := by decide +kernel
theorem d_Rd_sleb_16 : decode b_Rd_sleb 16 = .ok (.iload_n 1, 1) := by decide +kernel
theorem d_Rd_sleb_17 : decode b_Rd_sleb 17 = .ok (.isub, 1) := by decide +kernel
theorem d_Rd_sleb_18 : decode b_Rd_sleb 18 = .ok (.imul, 1) := by decide +kernel
theorem d_Rd_sleb_19 : decode b_Rd_sleb 19 = .ok (.istore_n 3, 1) := by decide +kernel
theorem d_Rd_sleb_20 : decode b_Rd_sleb 20 = .ok (.aload_n 0, 1) := by decide +kernel
theorem d_Rd_sleb_21 : decode b_Rd_sleb 21 = .ok (.getfield 20, 3) := by decide +kernel
theorem d_Rd_sleb_24 : decode b_Rd_sleb 24 = .ok (.ifCond .ne 26, 3) := by decide +kernel
theorem d_Rd_sleb_27 : decode b_Rd_sleb 27 = .ok (.iload_n 3, 1) := by decide +kernel
theorem d_Rd_sleb_28 : decode b_Rd_sleb 28 = .ok (.bipush 32, 2) := by decide +kernel
theorem d_Rd_sleb_30 : decode b_Rd_sleb 30 = .ok (.if_icmp .ge 20, 3) := by decide +kernel
theorem d_Rd_sleb_33 : decode b_Rd_sleb 33 = .ok (.aload_n 0, 1) := by decide +kernel
theorem d_Rd_sleb_34 : decode b_Rd_sleb 34 = .ok (.getfield 7, 3) := by decide +kernel
theorem d_Rd_sleb_37 : decode b_Rd_sleb 37 = .ok (.aload_n 0, 1) := by decide +kernel
theorem d_Rd_sleb_38 : decode b_Rd_sleb 38 = .ok (.getfield 13, 3) := by decide +kernel
theorem d_Rd_sleb_41 : decode b_Rd_sleb 41 = .ok (.iconst 1, 1) := by decide +kernel
theorem d_Rd_sleb_42 : decode b_Rd_sleb 42 = .ok (.isub, 1) := by decide +kernel
theorem d_Rd_sleb_43 : decode b_Rd_sleb 43 = .ok (.baload, 1) := by decide +kernel
theorem d_Rd_sleb_44 : decode b_Rd_sleb 44 = .ok (.bipush 64, 2) := by decide +kernel
theorem d_Rd_sleb_46 : decode b_Rd_sleb 46 = .ok (.iand, 1) := by decide +kernel
theorem d_Rd_sleb_47 : decode b_Rd_sleb 47 = .ok (.ifCond .ne 5, 3) := by decide +kernel
theorem d_Rd_sleb_50 : decode b_Rd_sleb 50 = .ok (.iload_n 2, 1) := by decide +kernel
theorem d_Rd_sleb_51 : decode b_Rd_sleb 51 = .ok (.ireturn, 1) := by decide +kernel
theorem d_Rd_sleb_52 : decode b_Rd_sleb 52 = .ok (.iload_n 2, 1) := by decide +kernel
theorem d_Rd_sleb_53 : decode b_Rd_sleb 53 = .ok (.iconst (-1), 1) := by decide +kernel
theorem d_Rd_sleb_54 : decode b_Rd_sleb 54 = .ok (.iload_n 3, 1) := by decide +kernel
theorem d_Rd_sleb_55 : decode b_Rd_sleb 55 = .ok (.ishl, 1) := by decide +kernel
theorem d_Rd_sleb_56 : decode b_Rd_sleb 56 = .ok (.ior, 1) := by decide +kernel
theorem d_Rd_sleb_57 : decode b_Rd_sleb 57 = .ok (.ireturn, 1) := by decide +kernel
