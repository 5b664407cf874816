theorem d_Ro_part_0 : decode b_Ro_part 0 = .ok (.iload_n 2, 1) := by decide +kernel
theorem d_Ro_part_1 : decode b_Ro_part 1 = .ok (.lookupswitch 41 #[(0, 27), (1, 34)], 27) := by decide +kernel
theorem d_Ro_part_28 : decode b_Ro_part 28 = .ok (.aload_n 0, 1) := by decide +kernel
theorem d_Ro_part_29 : decode b_Ro_part 29 = .ok (.getfield 11, 3) := by decide +kernel
theorem d_Ro_part_32 : decode b_Ro_part 32 = .ok (.iload_n 1, 1) := by decide +kernel
theorem d_Ro_part_33 : decode b_Ro_part 33 = .ok (.iaload, 1) := by decide +kernel
theorem d_Ro_part_34 : decode b_Ro_part 34 = .ok (.ireturn, 1) := by decide +kernel
theorem d_Ro_part_35 : decode b_Ro_part 35 = .ok (.aload_n 0, 1) := by decide +kernel
theorem d_Ro_part_36 : decode b_Ro_part 36 = .ok (.getfield 15, 3) := by decide +kernel
theorem d_Ro_part_39 : decode b_Ro_part 39 = .ok (.iload_n 1, 1) := by decide +kernel
theorem d_Ro_part_40 : decode b_Ro_part 40 = .ok (.iaload, 1) := by decide +kernel
theorem d_Ro_part_41 : decode b_Ro_part 41 = .ok (.ireturn, 1) := by decide +kernel
theorem d_Ro_part_42 : decode b_Ro_part 42 = .ok (.aload_n 0, 1) := by decide +kernel
theorem d_Ro_part_43 : decode b_Ro_part 43 = .ok (.getfield 18, 3) := by decide +kernel
theorem d_Ro_part_46 : decode b_Ro_part 46 = .ok (.iload_n 1, 1) := by decide +kernel
theorem d_Ro_part_47 : decode b_Ro_part 47 = .ok (.iaload, 1) := by decide +kernel
theorem d_Ro_part_48 : decode b_Ro_part 48 = .ok (.ireturn, 1) := by decide +kernel
theorem d_Ro_copyFrom_0 : decode b_Ro_copyFrom 0 = .ok (.aload_n 1, 1) := by decide +kernel
theorem d_Ro_copyFrom_1 : decode b_Ro_copyFrom 1 = .ok (.getfield 11, 3) := by decide +kernel
theorem d_Ro_copyFrom_4 : decode b_Ro_copyFrom 4 = .ok (.iconst 0, 1) := by decide +kernel
theorem d_Ro_copyFrom_5 : decode b_Ro_copyFrom 5 = .ok (.aload_n 0, 1) := by decide +kernel
theorem d_Ro_copyFrom_6 : decode b_Ro_copyFrom 6 = .ok (.getfield 11, 3) := by decide +kernel
theorem d_Ro_copyFrom_9 : decode b_Ro_copyFrom 9 = .ok (.iconst 0, 1) := by decide +kernel
theorem d_Ro_copyFrom_10 : decode b_Ro_copyFrom 10 = .ok (.bipush 9, 2) := by decide +kernel
theorem d_Ro_copyFrom_12 : decode b_Ro_copyFrom 12 = .ok (.invokestatic 25, 3) := by decide +kernel
theorem d_Ro_copyFrom_15 : decode b_Ro_copyFrom 15 = .ok (.aload_n 1, 1) := by decide +kernel
theorem d_Ro_copyFrom_16 : decode b_Ro_copyFrom 16 = .ok (.getfield 15, 3) := by decide +kernel
theorem d_Ro_copyFrom_19 : decode b_Ro_copyFrom 19 = .ok (.iconst 0, 1) := by decide +kernel
theorem d_Ro_copyFrom_20 : decode b_Ro_copyFrom 20 = .ok (.aload_n 0, 1) := by decide +kernel
theorem d_Ro_copyFrom_21 : decode b_Ro_copyFrom 21 = .ok (.getfield 15, 3) := by decide +kernel
theorem d_Ro_copyFrom_24 : decode b_Ro_copyFrom 24 = .ok (.iconst 0, 1) := by decide +kernel
theorem d_Ro_copyFrom_25 : decode b_Ro_copyFrom 25 = .ok (.bipush 9, 2) := by decide +kernel
theorem d_Ro_copyFrom_27 : decode b_Ro_copyFrom 27 = .ok (.invokestatic 25, 3) := by decide +kernel
theorem d_Ro_copyFrom_30 : decode b_Ro_copyFrom 30 = .ok (.aload_n 1, 1) := by decide +kernel
theorem d_Ro_copyFrom_31 : decode b_Ro_copyFrom 31 = .ok (.getfield 18, 3) := by decide +kernel
theorem d_Ro_copyFrom_34 : decode b_Ro_copyFrom 34 = .ok (.iconst 0, 1) := by decide +kernel
theorem d_Ro_copyFrom_35 : decode b_Ro_copyFrom 35 = .ok (.aload_n 0, 1) := by decide +kernel
theorem d_Ro_copyFrom_36 : decode b_Ro_copyFrom 36 = .ok (.getfield 18, 3) := by decide +kernel
theorem d_Ro_copyFrom_39 : decode b_Ro_copyFrom 39 = .ok (.iconst 0, 1) := by decide +kernel
theorem d_Ro_copyFrom_40 : decode b_Ro_copyFrom 40 = .ok (.bipush 9, 2) := by decide +kernel
theorem d_Ro_copyFrom_42 : decode b_Ro_copyFrom 42 = .ok (.invokestatic 25, 3) := by decide +kernel
theorem d_Ro_copyFrom_45 : decode b_Ro_copyFrom 45 = .ok (.return_, 1) := by decide +kernel
theorem d_Ro_copyRule_0 : decode b_Ro_copyRule 0 = .ok (.aload_n 0, 1) := by decide +kernel
theorem d_Ro_copyRule_1 : decode b_Ro_copyRule 1 = .ok (.iload_n 2, 1) := by decide +kernel
theorem d_Ro_copyRule_2 : decode b_Ro_copyRule 2 = .ok (.aload_n 1, 1) := by decide +kernel
theorem d_Ro_copyRule_3 : decode b_Ro_copyRule 3 = .ok (.getfield 11, 3) := by decide +kernel
theorem d_Ro_copyRule_6 : decode b_Ro_copyRule 6 = .ok (.iload_n 2, 1) := by decide +kernel
theorem d_Ro_copyRule_7 : decode b_Ro_copyRule 7 = .ok (.iaload, 1) := by decide +kernel
theorem d_Ro_copyRule_8 : decode b_Ro_copyRule 8 = .ok (.aload_n 1, 1) := by decide +kernel
theorem d_Ro_copyRule_9 : decode b_Ro_copyRule 9 = .ok (.getfield 15, 3) := by decide +kernel
theorem d_Ro_copyRule_12 : decode b_Ro_copyRule 12 = .ok (.iload_n 2, 1) := by decide +kernel
theorem d_Ro_copyRule_13 : decode b_Ro_copyRule 13 = .ok (.iaload, 1) := by decide +kernel
theorem d_Ro_copyRule_14 : decode b_Ro_copyRule 14 = .ok (.aload_n 1, 1) := by decide +kernel
theorem d_Ro_copyRule_15 : decode b_Ro_copyRule 15 = .ok (.getfield 18, 3) := by decide +kernel
theorem d_Ro_copyRule_18 : decode b_Ro_copyRule 18 = .ok (.iload_n 2, 1) := by decide +kernel
theorem d_Ro_copyRule_19 : decode b_Ro_copyRule 19 = .ok (.iaload, 1) := by decide +kernel
theorem d_Ro_copyRule_20 : decode b_Ro_copyRule 20 = .ok (.invokevirtual 21, 3) := by decide +kernel
theorem d_Ro_copyRule_23 : decode b_Ro_copyRule 23 = .ok (.return_, 1) := by decide +kernel
theorem d_Rk_isSmall_0 : decode b_Rk_isSmall 0 = .ok (.iload_n 0, 1) := by decide +kernel
theorem d_Rk_isSmall_1 : decode b_Rk_isSmall 1 = .ok (.bipush 48, 2) := by decide +kernel
theorem d_Rk_isSmall_3 : decode b_Rk_isSmall 3 = .ok (.if_icmp .lt 13, 3) := by decide +kernel
theorem d_Rk_isSmall_6 : decode b_Rk_isSmall 6 = .ok (.iload_n 0, 1) := by decide +kernel
theorem d_Rk_isSmall_7 : decode b_Rk_isSmall 7 = .ok (.bipush 79, 2) := by decide +kernel
theorem d_Rk_isSmall_9 : decode b_Rk_isSmall 9 = .ok (.if_icmp .gt 7, 3) := by decide +kernel
theorem d_Rk_isSmall_12 : decode b_Rk_isSmall 12 = .ok (.iconst 1, 1) := by decide +kernel
theorem d_Rk_isSmall_13 : decode b_Rk_isSmall 13 = .ok (.goto 4, 3) := by decide +kernel
theorem d_Rk_isSmall_16 : decode b_Rk_isSmall 16 = .ok (.iconst 0, 1) := by decide +kernel
theorem d_Rk_isSmall_17 : decode b_Rk_isSmall 17 = .ok (.ireturn, 1) := by decide +kernel
theorem d_Rk_isRegister_0 : decode b_Rk_isRegister 0 = .ok (.iload_n 0, 1) := by decide +kernel
theorem d_Rk_isRegister_1 : decode b_Rk_isRegister 1 = .ok (.bipush 112, 2) := by decide +kernel
theorem d_Rk_isRegister_3 : decode b_Rk_isRegister 3 = .ok (.if_icmp .lt 13, 3) := by decide +kernel
theorem d_Rk_isRegister_6 : decode b_Rk_isRegister 6 = .ok (.iload_n 0, 1) := by decide +kernel
theorem d_Rk_isRegister_7 : decode b_Rk_isRegister 7 = .ok (.bipush 119, 2) := by decide +kernel
theorem d_Rk_isRegister_9 : decode b_Rk_isRegister 9 = .ok (.if_icmp .gt 7, 3) := by decide +kernel
theorem d_Rk_isRegister_12 : decode b_Rk_isRegister 12 = .ok (.iconst 1, 1) := by decide +kernel
theorem d_Rk_isRegister_13 : decode b_Rk_isRegister 13 = .ok (.goto 4, 3) := by decide +kernel
theorem d_Rk_isRegister_16 : decode b_Rk_isRegister 16 = .ok (.iconst 0, 1) := by decide +kernel
theorem d_Rk_isRegister_17 : decode b_Rk_isRegister 17 = .ok (.ireturn, 1) := by decide +kernel
theorem d_Rk_depthOfCopy_0 : decode b_Rk_depthOfCopy 0 = .ok (.iload_n 0, 1) := by decide +kernel
theorem d_Rk_depthOfCopy_1 : decode b_Rk_depthOfCopy 1 = .ok (.tableswitch 37 18 21 #[31, 37, 33, 35], 31) := by decide +kernel
theorem d_Rk_depthOfCopy_32 : decode b_Rk_depthOfCopy 32 = .ok (.iconst 0, 1) := by decide +kernel
theorem d_Rk_depthOfCopy_33 : decode b_Rk_depthOfCopy 33 = .ok (.ireturn, 1) := by decide +kernel
theorem d_Rk_depthOfCopy_34 : decode b_Rk_depthOfCopy 34 = .ok (.iconst 1, 1) := by decide +kernel
theorem d_Rk_depthOfCopy_35 : decode b_Rk_depthOfCopy 35 = .ok (.ireturn, 1) := by decide +kernel
theorem d_Rk_depthOfCopy_36 : decode b_Rk_depthOfCopy 36 = .ok (.iload_n 1, 1) := by decide +kernel
theorem d_Rk_depthOfCopy_37 : decode b_Rk_depthOfCopy 37 = .ok (.ireturn, 1) := by decide +kernel
theorem d_Rk_depthOfCopy_38 : decode b_Rk_depthOfCopy 38 = .ok (.iconst (-1), 1) := by decide +kernel
theorem d_Rk_depthOfCopy_39 : decode b_Rk_depthOfCopy 39 = .ok (.ireturn, 1) := by decide +kernel
theorem d_Rk_neededBy_0 : decode b_Rk_neededBy 0 = .ok (.iload_n 1, 1) := by decide +kernel
theorem d_Rk_neededBy_1 : decode b_Rk_neededBy 1 = .ok (.tableswitch 81 2 6 #[35, 43, 45, 47, 69], 35) := by decide +kernel
theorem d_Rk_neededBy_36 : decode b_Rk_neededBy 36 = .ok (.iload_n 0, 1) := by decide +kernel
theorem d_Rk_neededBy_37 : decode b_Rk_neededBy 37 = .ok (.iload_n 2, 1) := by decide +kernel
theorem d_Rk_neededBy_38 : decode b_Rk_neededBy 38 = .ok (.invokestatic 110, 3) := by decide +kernel
theorem d_Rk_neededBy_41 : decode b_Rk_neededBy 41 = .ok (.iconst 1, 1) := by decide +kernel
theorem d_Rk_neededBy_42 : decode b_Rk_neededBy 42 = .ok (.iadd, 1) := by decide +kernel
theorem d_Rk_neededBy_43 : decode b_Rk_neededBy 43 = .ok (.ireturn, 1) := by decide +kernel
theorem d_Rk_neededBy_44 : decode b_Rk_neededBy 44 = .ok (.iconst 1, 1) := by decide +kernel
theorem d_Rk_neededBy_45 : decode b_Rk_neededBy 45 = .ok (.ireturn, 1) := by decide +kernel
theorem d_Rk_neededBy_46 : decode b_Rk_neededBy 46 = .ok (.iconst 2, 1) := by decide +kernel
theorem d_Rk_neededBy_47 : decode b_Rk_neededBy 47 = .ok (.ireturn, 1) := by decide +kernel
theorem d_Rk_neededBy_48 : decode b_Rk_neededBy 48 = .ok (.iload_n 0, 1) := by decide +kernel
theorem d_Rk_neededBy_49 : decode b_Rk_neededBy 49 = .ok (.bipush 19, 2) := by decide +kernel
theorem d_Rk_neededBy_51 : decode b_Rk_neededBy 51 = .ok (.if_icmp .ne 7, 3) := by decide +kernel
theorem d_Rk_neededBy_54 : decode b_Rk_neededBy 54 = .ok (.iconst 1, 1) := by decide +kernel
theorem d_Rk_neededBy_55 : decode b_Rk_neededBy 55 = .ok (.goto 14, 3) := by decide +kernel
theorem d_Rk_neededBy_58 : decode b_Rk_neededBy 58 = .ok (.iload_n 0, 1) := by decide +kernel
theorem d_Rk_neededBy_59 : decode b_Rk_neededBy 59 = .ok (.bipush 22, 2) := by decide +kernel
theorem d_Rk_neededBy_61 : decode b_Rk_neededBy 61 = .ok (.if_icmp .ne 7, 3) := by decide +kernel
theorem d_Rk_neededBy_64 : decode b_Rk_neededBy 64 = .ok (.iconst 2, 1) := by decide +kernel
theorem d_Rk_neededBy_65 : decode b_Rk_neededBy 65 = .ok (.goto 4, 3) := by decide +kernel
theorem d_Rk_neededBy_68 : decode b_Rk_neededBy 68 = .ok (.iconst 3, 1) := by decide +kernel
theorem d_Rk_neededBy_69 : decode b_Rk_neededBy 69 = .ok (.ireturn, 1) := by decide +kernel
theorem d_Rk_neededBy_70 : decode b_Rk_neededBy 70 = .ok (.iload_n 0, 1) := by decide +kernel
theorem d_Rk_neededBy_71 : decode b_Rk_neededBy 71 = .ok (.bipush 47, 2) := by decide +kernel
theorem d_Rk_neededBy_73 : decode b_Rk_neededBy 73 = .ok (.if_icmp .ne 7, 3) := by decide +kernel
theorem d_Rk_neededBy_76 : decode b_Rk_neededBy 76 = .ok (.iconst 0, 1) := by decide +kernel
theorem d_Rk_neededBy_77 : decode b_Rk_neededBy 77 = .ok (.goto 4, 3) := by decide +kernel
theorem d_Rk_neededBy_80 : decode b_Rk_neededBy 80 = .ok (.iconst 1, 1) := by decide +kernel
theorem d_Rk_neededBy_81 : decode b_Rk_neededBy 81 = .ok (.ireturn, 1) := by decide +kernel
theorem d_Rk_neededBy_82 : decode b_Rk_neededBy 82 = .ok (.iconst 0, 1) := by decide +kernel
theorem d_Rk_neededBy_83 : decode b_Rk_neededBy 83 = .ok (.ireturn, 1) := by decide +kernel
theorem d_Rk_shifted_0 : decode b_Rk_shifted 0 = .ok (.iload_n 2, 1) := by decide +kernel
theorem d_Rk_shifted_1 : decode b_Rk_shifted 1 = .ok (.ifCond .lt 9, 3) := by decide +kernel
theorem d_Rk_shifted_4 : decode b_Rk_shifted 4 = .ok (.iload_n 2, 1) := by decide +kernel
theorem d_Rk_shifted_5 : decode b_Rk_shifted 5 = .ok (.bipush 31, 2) := by decide +kernel
theorem d_Rk_shifted_7 : decode b_Rk_shifted 7 = .ok (.if_icmp .le 19, 3) := by decide +kernel
theorem d_Rk_shifted_10 : decode b_Rk_shifted 10 = .ok (.iload_n 0, 1) := by decide +kernel
theorem d_Rk_shifted_11 : decode b_Rk_shifted 11 = .ok (.bipush 38, 2) := by decide +kernel
theorem d_Rk_shifted_13 : decode b_Rk_shifted 13 = .ok (.if_icmp .ne 11, 3) := by decide +kernel
theorem d_Rk_shifted_16 : decode b_Rk_shifted 16 = .ok (.iload_n 1, 1) := by decide +kernel
theorem d_Rk_shifted_17 : decode b_Rk_shifted 17 = .ok (.ifCond .ge 7, 3) := by decide +kernel
theorem d_Rk_shifted_20 : decode b_Rk_shifted 20 = .ok (.iconst (-1), 1) := by decide +kernel
theorem d_Rk_shifted_21 : decode b_Rk_shifted 21 = .ok (.goto 4, 3) := by decide +kernel
theorem d_Rk_shifted_24 : decode b_Rk_shifted 24 = .ok (.iconst 0, 1) := by decide +kernel
theorem d_Rk_shifted_25 : decode b_Rk_shifted 25 = .ok (.ireturn, 1) := by decide +kernel
theorem d_Rk_shifted_26 : decode b_Rk_shifted 26 = .ok (.iload_n 0, 1) := by decide +kernel
theorem d_Rk_shifted_27 : decode b_Rk_shifted 27 = .ok (.lookupswitch 33 #[(36, 25), (37, 29)], 25) := by decide +kernel
theorem d_Rk_shifted_52 : decode b_Rk_shifted 52 = .ok (.iload_n 1, 1) := by decide +kernel
theorem d_Rk_shifted_53 : decode b_Rk_shifted 53 = .ok (.iload_n 2, 1) := by decide +kernel
theorem d_Rk_shifted_54 : decode b_Rk_shifted 54 = .ok (.ishl, 1) := by decide +kernel
theorem d_Rk_shifted_55 : decode b_Rk_shifted 55 = .ok (.ireturn, 1) := by decide +kernel
theorem d_Rk_shifted_56 : decode b_Rk_shifted 56 = .ok (.iload_n 1, 1) := by decide +kernel
theorem d_Rk_shifted_57 : decode b_Rk_shifted 57 = .ok (.iload_n 2, 1) := by decide +kernel
theorem d_Rk_shifted_58 : decode b_Rk_shifted 58 = .ok (.iushr, 1) := by decide +kernel
theorem d_Rk_shifted_59 : decode b_Rk_shifted 59 = .ok (.ireturn, 1) := by decide +kernel
theorem d_Rk_shifted_60 : decode b_Rk_shifted 60 = .ok (.iload_n 1, 1) := by decide +kernel
theorem d_Rk_shifted_61 : decode b_Rk_shifted 61 = .ok (.iload_n 2, 1) := by decide +kernel
theorem d_Rk_shifted_62 : decode b_Rk_shifted 62 = .ok (.ishr, 1) := by decide +kernel
theorem d_Rk_shifted_63 : decode b_Rk_shifted 63 = .ok (.ireturn, 1) := by decide +kernel
