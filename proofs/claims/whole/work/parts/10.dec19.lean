theorem d_Md_feed_0 : decode b_Md_feed 0 = .ok (.aload_n 0, 1) := by decide +kernel
theorem d_Md_feed_1 : decode b_Md_feed 1 = .ok (.aload_n 0, 1) := by decide +kernel
theorem d_Md_feed_2 : decode b_Md_feed 2 = .ok (.getfield 72, 3) := by decide +kernel
theorem d_Md_feed_5 : decode b_Md_feed 5 = .ok (.iconst 4, 1) := by decide +kernel
theorem d_Md_feed_6 : decode b_Md_feed 6 = .ok (.iadd, 1) := by decide +kernel
theorem d_Md_feed_7 : decode b_Md_feed 7 = .ok (.sipush 512, 3) := by decide +kernel
theorem d_Md_feed_10 : decode b_Md_feed 10 = .ok (.if_icmp .le 7, 3) := by decide +kernel
theorem d_Md_feed_13 : decode b_Md_feed 13 = .ok (.iconst 1, 1) := by decide +kernel
theorem d_Md_feed_14 : decode b_Md_feed 14 = .ok (.goto 4, 3) := by decide +kernel
theorem d_Md_feed_17 : decode b_Md_feed 17 = .ok (.iconst 0, 1) := by decide +kernel
theorem d_Md_feed_18 : decode b_Md_feed 18 = .ok (.putfield 69, 3) := by decide +kernel
theorem d_Md_feed_21 : decode b_Md_feed 21 = .ok (.aload_n 0, 1) := by decide +kernel
theorem d_Md_feed_22 : decode b_Md_feed 22 = .ok (.getfield 69, 3) := by decide +kernel
theorem d_Md_feed_25 : decode b_Md_feed 25 = .ok (.ifCond .eq 5, 3) := by decide +kernel
theorem d_Md_feed_28 : decode b_Md_feed 28 = .ok (.iconst 0, 1) := by decide +kernel
theorem d_Md_feed_29 : decode b_Md_feed 29 = .ok (.ireturn, 1) := by decide +kernel
theorem d_Md_feed_30 : decode b_Md_feed 30 = .ok (.iconst 0, 1) := by decide +kernel
theorem d_Md_feed_31 : decode b_Md_feed 31 = .ok (.istore_n 2, 1) := by decide +kernel
theorem d_Md_feed_32 : decode b_Md_feed 32 = .ok (.iload_n 2, 1) := by decide +kernel
theorem d_Md_feed_33 : decode b_Md_feed 33 = .ok (.iconst 4, 1) := by decide +kernel
theorem d_Md_feed_34 : decode b_Md_feed 34 = .ok (.if_icmp .ge 38, 3) := by decide +kernel
theorem d_Md_feed_37 : decode b_Md_feed 37 = .ok (.aload_n 0, 1) := by decide +kernel
theorem d_Md_feed_38 : decode b_Md_feed 38 = .ok (.getfield 7, 3) := by decide +kernel
theorem d_Md_feed_41 : decode b_Md_feed 41 = .ok (.aload_n 0, 1) := by decide +kernel
theorem d_Md_feed_42 : decode b_Md_feed 42 = .ok (.getfield 72, 3) := by decide +kernel
theorem d_Md_feed_45 : decode b_Md_feed 45 = .ok (.iload_n 1, 1) := by decide +kernel
theorem d_Md_feed_46 : decode b_Md_feed 46 = .ok (.bipush 8, 2) := by decide +kernel
theorem d_Md_feed_48 : decode b_Md_feed 48 = .ok (.iload_n 2, 1) := by decide +kernel
theorem d_Md_feed_49 : decode b_Md_feed 49 = .ok (.imul, 1) := by decide +kernel
theorem d_Md_feed_50 : decode b_Md_feed 50 = .ok (.ishr, 1) := by decide +kernel
theorem d_Md_feed_51 : decode b_Md_feed 51 = .ok (.sipush 255, 3) := by decide +kernel
theorem d_Md_feed_54 : decode b_Md_feed 54 = .ok (.iand, 1) := by decide +kernel
theorem d_Md_feed_55 : decode b_Md_feed 55 = .ok (.iastore, 1) := by decide +kernel
theorem d_Md_feed_56 : decode b_Md_feed 56 = .ok (.aload_n 0, 1) := by decide +kernel
theorem d_Md_feed_57 : decode b_Md_feed 57 = .ok (.dup, 1) := by decide +kernel
theorem d_Md_feed_58 : decode b_Md_feed 58 = .ok (.getfield 72, 3) := by decide +kernel
theorem d_Md_feed_61 : decode b_Md_feed 61 = .ok (.iconst 1, 1) := by decide +kernel
theorem d_Md_feed_62 : decode b_Md_feed 62 = .ok (.iadd, 1) := by decide +kernel
theorem d_Md_feed_63 : decode b_Md_feed 63 = .ok (.putfield 72, 3) := by decide +kernel
theorem d_Md_feed_66 : decode b_Md_feed 66 = .ok (.iinc 2 1, 3) := by decide +kernel
theorem d_Md_feed_69 : decode b_Md_feed 69 = .ok (.goto (-37), 3) := by decide +kernel
theorem d_Md_feed_72 : decode b_Md_feed 72 = .ok (.aload_n 0, 1) := by decide +kernel
theorem d_Md_feed_73 : decode b_Md_feed 73 = .ok (.getfield 72, 3) := by decide +kernel
theorem d_Md_feed_76 : decode b_Md_feed 76 = .ok (.ireturn, 1) := by decide +kernel
theorem d_Md_end_0 : decode b_Md_end 0 = .ok (.aload_n 0, 1) := by decide +kernel
theorem d_Md_end_1 : decode b_Md_end 1 = .ok (.iload_n 1, 1) := by decide +kernel
theorem d_Md_end_2 : decode b_Md_end 2 = .ok (.iconst 0, 1) := by decide +kernel
theorem d_Md_end_3 : decode b_Md_end 3 = .ok (.aload_n 0, 1) := by decide +kernel
theorem d_Md_end_4 : decode b_Md_end 4 = .ok (.getfield 72, 3) := by decide +kernel
theorem d_Md_end_7 : decode b_Md_end 7 = .ok (.invokestatic 75, 3) := by decide +kernel
theorem d_Md_end_10 : decode b_Md_end 10 = .ok (.ifCond .eq 7, 3) := by decide +kernel
theorem d_Md_end_13 : decode b_Md_end 13 = .ok (.iconst 0, 1) := by decide +kernel
theorem d_Md_end_14 : decode b_Md_end 14 = .ok (.goto 4, 3) := by decide +kernel
theorem d_Md_end_17 : decode b_Md_end 17 = .ok (.iconst 1, 1) := by decide +kernel
theorem d_Md_end_18 : decode b_Md_end 18 = .ok (.putfield 69, 3) := by decide +kernel
theorem d_Md_end_21 : decode b_Md_end 21 = .ok (.aload_n 0, 1) := by decide +kernel
theorem d_Md_end_22 : decode b_Md_end 22 = .ok (.getfield 69, 3) := by decide +kernel
theorem d_Md_end_25 : decode b_Md_end 25 = .ok (.ifCond .ne 8, 3) := by decide +kernel
theorem d_Md_end_28 : decode b_Md_end 28 = .ok (.aload_n 0, 1) := by decide +kernel
theorem d_Md_end_29 : decode b_Md_end 29 = .ok (.iload_n 1, 1) := by decide +kernel
theorem d_Md_end_30 : decode b_Md_end 30 = .ok (.putfield 72, 3) := by decide +kernel
theorem d_Md_end_33 : decode b_Md_end 33 = .ok (.return_, 1) := by decide +kernel
theorem d_Md_spoil_0 : decode b_Md_spoil 0 = .ok (.aload_n 0, 1) := by decide +kernel
theorem d_Md_spoil_1 : decode b_Md_spoil 1 = .ok (.iload_n 1, 1) := by decide +kernel
theorem d_Md_spoil_2 : decode b_Md_spoil 2 = .ok (.iconst 0, 1) := by decide +kernel
theorem d_Md_spoil_3 : decode b_Md_spoil 3 = .ok (.aload_n 0, 1) := by decide +kernel
theorem d_Md_spoil_4 : decode b_Md_spoil 4 = .ok (.getfield 72, 3) := by decide +kernel
theorem d_Md_spoil_7 : decode b_Md_spoil 7 = .ok (.iconst 1, 1) := by decide +kernel
theorem d_Md_spoil_8 : decode b_Md_spoil 8 = .ok (.isub, 1) := by decide +kernel
theorem d_Md_spoil_9 : decode b_Md_spoil 9 = .ok (.invokestatic 75, 3) := by decide +kernel
theorem d_Md_spoil_12 : decode b_Md_spoil 12 = .ok (.ifCond .eq 7, 3) := by decide +kernel
theorem d_Md_spoil_15 : decode b_Md_spoil 15 = .ok (.iconst 0, 1) := by decide +kernel
theorem d_Md_spoil_16 : decode b_Md_spoil 16 = .ok (.goto 4, 3) := by decide +kernel
theorem d_Md_spoil_19 : decode b_Md_spoil 19 = .ok (.iconst 1, 1) := by decide +kernel
theorem d_Md_spoil_20 : decode b_Md_spoil 20 = .ok (.putfield 69, 3) := by decide +kernel
theorem d_Md_spoil_23 : decode b_Md_spoil 23 = .ok (.aload_n 0, 1) := by decide +kernel
theorem d_Md_spoil_24 : decode b_Md_spoil 24 = .ok (.getfield 69, 3) := by decide +kernel
theorem d_Md_spoil_27 : decode b_Md_spoil 27 = .ok (.ifCond .eq 5, 3) := by decide +kernel
theorem d_Md_spoil_30 : decode b_Md_spoil 30 = .ok (.iconst 0, 1) := by decide +kernel
theorem d_Md_spoil_31 : decode b_Md_spoil 31 = .ok (.ireturn, 1) := by decide +kernel
theorem d_Md_spoil_32 : decode b_Md_spoil 32 = .ok (.aload_n 0, 1) := by decide +kernel
theorem d_Md_spoil_33 : decode b_Md_spoil 33 = .ok (.getfield 7, 3) := by decide +kernel
theorem d_Md_spoil_36 : decode b_Md_spoil 36 = .ok (.iload_n 1, 1) := by decide +kernel
theorem d_Md_spoil_37 : decode b_Md_spoil 37 = .ok (.iaload, 1) := by decide +kernel
theorem d_Md_spoil_38 : decode b_Md_spoil 38 = .ok (.istore_n 3, 1) := by decide +kernel
theorem d_Md_spoil_39 : decode b_Md_spoil 39 = .ok (.aload_n 0, 1) := by decide +kernel
theorem d_Md_spoil_40 : decode b_Md_spoil 40 = .ok (.getfield 7, 3) := by decide +kernel
theorem d_Md_spoil_43 : decode b_Md_spoil 43 = .ok (.iload_n 1, 1) := by decide +kernel
theorem d_Md_spoil_44 : decode b_Md_spoil 44 = .ok (.iload_n 2, 1) := by decide +kernel
theorem d_Md_spoil_45 : decode b_Md_spoil 45 = .ok (.sipush 255, 3) := by decide +kernel
theorem d_Md_spoil_48 : decode b_Md_spoil 48 = .ok (.iand, 1) := by decide +kernel
theorem d_Md_spoil_49 : decode b_Md_spoil 49 = .ok (.iastore, 1) := by decide +kernel
theorem d_Md_spoil_50 : decode b_Md_spoil 50 = .ok (.iload_n 3, 1) := by decide +kernel
theorem d_Md_spoil_51 : decode b_Md_spoil 51 = .ok (.ireturn, 1) := by decide +kernel
theorem d_Md_unsigned_0 : decode b_Md_unsigned 0 = .ok (.aload_n 0, 1) := by decide +kernel
theorem d_Md_unsigned_1 : decode b_Md_unsigned 1 = .ok (.getfield 79, 3) := by decide +kernel
theorem d_Md_unsigned_4 : decode b_Md_unsigned 4 = .ok (.iload_n 1, 1) := by decide +kernel
theorem d_Md_unsigned_5 : decode b_Md_unsigned 5 = .ok (.iadd, 1) := by decide +kernel
theorem d_Md_unsigned_6 : decode b_Md_unsigned 6 = .ok (.aload_n 0, 1) := by decide +kernel
theorem d_Md_unsigned_7 : decode b_Md_unsigned 7 = .ok (.getfield 82, 3) := by decide +kernel
theorem d_Md_unsigned_10 : decode b_Md_unsigned 10 = .ok (.if_icmp .le 10, 3) := by decide +kernel
theorem d_Md_unsigned_13 : decode b_Md_unsigned 13 = .ok (.aload_n 0, 1) := by decide +kernel
theorem d_Md_unsigned_14 : decode b_Md_unsigned 14 = .ok (.iconst 1, 1) := by decide +kernel
theorem d_Md_unsigned_15 : decode b_Md_unsigned 15 = .ok (.putfield 85, 3) := by decide +kernel
theorem d_Md_unsigned_18 : decode b_Md_unsigned 18 = .ok (.iconst 0, 1) := by decide +kernel
theorem d_Md_unsigned_19 : decode b_Md_unsigned 19 = .ok (.ireturn, 1) := by decide +kernel
theorem d_Md_unsigned_20 : decode b_Md_unsigned 20 = .ok (.iconst 0, 1) := by decide +kernel
theorem d_Md_unsigned_21 : decode b_Md_unsigned 21 = .ok (.istore_n 2, 1) := by decide +kernel
theorem d_Md_unsigned_22 : decode b_Md_unsigned 22 = .ok (.iconst 0, 1) := by decide +kernel
theorem d_Md_unsigned_23 : decode b_Md_unsigned 23 = .ok (.istore_n 3, 1) := by decide +kernel
theorem d_Md_unsigned_24 : decode b_Md_unsigned 24 = .ok (.iload_n 3, 1) := by decide +kernel
theorem d_Md_unsigned_25 : decode b_Md_unsigned 25 = .ok (.iload_n 1, 1) := by decide +kernel
theorem d_Md_unsigned_26 : decode b_Md_unsigned 26 = .ok (.if_icmp .ge 28, 3) := by decide +kernel
theorem d_Md_unsigned_29 : decode b_Md_unsigned 29 = .ok (.iload_n 2, 1) := by decide +kernel
theorem d_Md_unsigned_30 : decode b_Md_unsigned 30 = .ok (.aload_n 0, 1) := by decide +kernel
theorem d_Md_unsigned_31 : decode b_Md_unsigned 31 = .ok (.getfield 7, 3) := by decide +kernel
theorem d_Md_unsigned_34 : decode b_Md_unsigned 34 = .ok (.aload_n 0, 1) := by decide +kernel
theorem d_Md_unsigned_35 : decode b_Md_unsigned 35 = .ok (.getfield 79, 3) := by decide +kernel
theorem d_Md_unsigned_38 : decode b_Md_unsigned 38 = .ok (.iload_n 3, 1) := by decide +kernel
theorem d_Md_unsigned_39 : decode b_Md_unsigned 39 = .ok (.iadd, 1) := by decide +kernel
theorem d_Md_unsigned_40 : decode b_Md_unsigned 40 = .ok (.iaload, 1) := by decide +kernel
theorem d_Md_unsigned_41 : decode b_Md_unsigned 41 = .ok (.bipush 8, 2) := by decide +kernel
theorem d_Md_unsigned_43 : decode b_Md_unsigned 43 = .ok (.iload_n 3, 1) := by decide +kernel
theorem d_Md_unsigned_44 : decode b_Md_unsigned 44 = .ok (.imul, 1) := by decide +kernel
theorem d_Md_unsigned_45 : decode b_Md_unsigned 45 = .ok (.ishl, 1) := by decide +kernel
theorem d_Md_unsigned_46 : decode b_Md_unsigned 46 = .ok (.ior, 1) := by decide +kernel
theorem d_Md_unsigned_47 : decode b_Md_unsigned 47 = .ok (.istore_n 2, 1) := by decide +kernel
theorem d_Md_unsigned_48 : decode b_Md_unsigned 48 = .ok (.iinc 3 1, 3) := by decide +kernel
theorem d_Md_unsigned_51 : decode b_Md_unsigned 51 = .ok (.goto (-27), 3) := by decide +kernel
theorem d_Md_unsigned_54 : decode b_Md_unsigned 54 = .ok (.aload_n 0, 1) := by decide +kernel
theorem d_Md_unsigned_55 : decode b_Md_unsigned 55 = .ok (.dup, 1) := by decide +kernel
theorem d_Md_unsigned_56 : decode b_Md_unsigned 56 = .ok (.getfield 79, 3) := by decide +kernel
theorem d_Md_unsigned_59 : decode b_Md_unsigned 59 = .ok (.iload_n 1, 1) := by decide +kernel
theorem d_Md_unsigned_60 : decode b_Md_unsigned 60 = .ok (.iadd, 1) := by decide +kernel
theorem d_Md_unsigned_61 : decode b_Md_unsigned 61 = .ok (.putfield 79, 3) := by decide +kernel
theorem d_Md_unsigned_64 : decode b_Md_unsigned 64 = .ok (.iload_n 2, 1) := by decide +kernel
theorem d_Md_unsigned_65 : decode b_Md_unsigned 65 = .ok (.ireturn, 1) := by decide +kernel
theorem d_Md_signed_0 : decode b_Md_signed 0 = .ok (.aload_n 0, 1) := by decide +kernel
theorem d_Md_signed_1 : decode b_Md_signed 1 = .ok (.iload_n 1, 1) := by decide +kernel
theorem d_Md_signed_2 : decode b_Md_signed 2 = .ok (.invokevirtual 89, 3) := by decide +kernel
theorem d_Md_signed_5 : decode b_Md_signed 5 = .ok (.istore_n 2, 1) := by decide +kernel
theorem d_Md_signed_6 : decode b_Md_signed 6 = .ok (.iload_n 1, 1) := by decide +kernel
theorem d_Md_signed_7 : decode b_Md_signed 7 = .ok (.iconst 1, 1) := by decide +kernel
theorem d_Md_signed_8 : decode b_Md_signed 8 = .ok (.if_icmp .ne 8, 3) := by decide +kernel
theorem d_Md_signed_11 : decode b_Md_signed 11 = .ok (.iload_n 2, 1) := by decide +kernel
theorem d_Md_signed_12 : decode b_Md_signed 12 = .ok (.i2b, 1) := by decide +kernel
theorem d_Md_signed_13 : decode b_Md_signed 13 = .ok (.goto 14, 3) := by decide +kernel
theorem d_Md_signed_16 : decode b_Md_signed 16 = .ok (.iload_n 1, 1) := by decide +kernel
theorem d_Md_signed_17 : decode b_Md_signed 17 = .ok (.iconst 2, 1) := by decide +kernel
theorem d_Md_signed_18 : decode b_Md_signed 18 = .ok (.if_icmp .ne 8, 3) := by decide +kernel
theorem d_Md_signed_21 : decode b_Md_signed 21 = .ok (.iload_n 2, 1) := by decide +kernel
theorem d_Md_signed_22 : decode b_Md_signed 22 = .ok (.i2s, 1) := by decide +kernel
theorem d_Md_signed_23 : decode b_Md_signed 23 = .ok (.goto 4, 3) := by decide +kernel
theorem d_Md_signed_26 : decode b_Md_signed 26 = .ok (.iload_n 2, 1) := by decide +kernel
theorem d_Md_signed_27 : decode b_Md_signed 27 = .ok (.ireturn, 1) := by decide +kernel
