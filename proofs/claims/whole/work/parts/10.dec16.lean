theorem d_Fu_reckonCfa_0 : decode b_Fu_reckonCfa 0 = .ok (.aload_n 1, 1) := by decide +kernel
theorem d_Fu_reckonCfa_1 : decode b_Fu_reckonCfa 1 = .ok (.getfield 185, 3) := by decide +kernel
theorem d_Fu_reckonCfa_4 : decode b_Fu_reckonCfa 4 = .ok (.bipush 8, 2) := by decide +kernel
theorem d_Fu_reckonCfa_6 : decode b_Fu_reckonCfa 6 = .ok (.iaload, 1) := by decide +kernel
theorem d_Fu_reckonCfa_7 : decode b_Fu_reckonCfa 7 = .ok (.istore_n 3, 1) := by decide +kernel
theorem d_Fu_reckonCfa_8 : decode b_Fu_reckonCfa 8 = .ok (.aload_n 1, 1) := by decide +kernel
theorem d_Fu_reckonCfa_9 : decode b_Fu_reckonCfa 9 = .ok (.getfield 188, 3) := by decide +kernel
theorem d_Fu_reckonCfa_12 : decode b_Fu_reckonCfa 12 = .ok (.bipush 8, 2) := by decide +kernel
theorem d_Fu_reckonCfa_14 : decode b_Fu_reckonCfa 14 = .ok (.iaload, 1) := by decide +kernel
theorem d_Fu_reckonCfa_15 : decode b_Fu_reckonCfa 15 = .ok (.istore 4, 2) := by decide +kernel
theorem d_Fu_reckonCfa_17 : decode b_Fu_reckonCfa 17 = .ok (.aload_n 0, 1) := by decide +kernel
theorem d_Fu_reckonCfa_18 : decode b_Fu_reckonCfa 18 = .ok (.getfield 65, 3) := by decide +kernel
theorem d_Fu_reckonCfa_21 : decode b_Fu_reckonCfa 21 = .ok (.invokevirtual 148, 3) := by decide +kernel
theorem d_Fu_reckonCfa_24 : decode b_Fu_reckonCfa 24 = .ok (.aload_n 1, 1) := by decide +kernel
theorem d_Fu_reckonCfa_25 : decode b_Fu_reckonCfa 25 = .ok (.getfield 161, 3) := by decide +kernel
theorem d_Fu_reckonCfa_28 : decode b_Fu_reckonCfa 28 = .ok (.bipush 8, 2) := by decide +kernel
theorem d_Fu_reckonCfa_30 : decode b_Fu_reckonCfa 30 = .ok (.iaload, 1) := by decide +kernel
theorem d_Fu_reckonCfa_31 : decode b_Fu_reckonCfa 31 = .ok (.lookupswitch 74 #[(1, 25), (2, 60)], 25) := by decide +kernel
theorem d_Fu_reckonCfa_56 : decode b_Fu_reckonCfa 56 = .ok (.aload_n 0, 1) := by decide +kernel
theorem d_Fu_reckonCfa_57 : decode b_Fu_reckonCfa 57 = .ok (.getfield 53, 3) := by decide +kernel
theorem d_Fu_reckonCfa_60 : decode b_Fu_reckonCfa 60 = .ok (.iload 4, 2) := by decide +kernel
theorem d_Fu_reckonCfa_62 : decode b_Fu_reckonCfa 62 = .ok (.invokevirtual 191, 3) := by decide +kernel
theorem d_Fu_reckonCfa_65 : decode b_Fu_reckonCfa 65 = .ok (.ifCond .ne 5, 3) := by decide +kernel
theorem d_Fu_reckonCfa_68 : decode b_Fu_reckonCfa 68 = .ok (.iconst 4, 1) := by decide +kernel
theorem d_Fu_reckonCfa_69 : decode b_Fu_reckonCfa 69 = .ok (.ireturn, 1) := by decide +kernel
theorem d_Fu_reckonCfa_70 : decode b_Fu_reckonCfa 70 = .ok (.aload_n 0, 1) := by decide +kernel
theorem d_Fu_reckonCfa_71 : decode b_Fu_reckonCfa 71 = .ok (.getfield 65, 3) := by decide +kernel
theorem d_Fu_reckonCfa_74 : decode b_Fu_reckonCfa 74 = .ok (.aload_n 0, 1) := by decide +kernel
theorem d_Fu_reckonCfa_75 : decode b_Fu_reckonCfa 75 = .ok (.getfield 53, 3) := by decide +kernel
theorem d_Fu_reckonCfa_78 : decode b_Fu_reckonCfa 78 = .ok (.getfield 182, 3) := by decide +kernel
theorem d_Fu_reckonCfa_81 : decode b_Fu_reckonCfa 81 = .ok (.iload 4, 2) := by decide +kernel
theorem d_Fu_reckonCfa_83 : decode b_Fu_reckonCfa 83 = .ok (.iaload, 1) := by decide +kernel
theorem d_Fu_reckonCfa_84 : decode b_Fu_reckonCfa 84 = .ok (.iload_n 3, 1) := by decide +kernel
theorem d_Fu_reckonCfa_85 : decode b_Fu_reckonCfa 85 = .ok (.iadd, 1) := by decide +kernel
theorem d_Fu_reckonCfa_86 : decode b_Fu_reckonCfa 86 = .ok (.invokevirtual 194, 3) := by decide +kernel
theorem d_Fu_reckonCfa_89 : decode b_Fu_reckonCfa 89 = .ok (.iconst 0, 1) := by decide +kernel
theorem d_Fu_reckonCfa_90 : decode b_Fu_reckonCfa 90 = .ok (.ireturn, 1) := by decide +kernel
theorem d_Fu_reckonCfa_91 : decode b_Fu_reckonCfa 91 = .ok (.aload_n 0, 1) := by decide +kernel
theorem d_Fu_reckonCfa_92 : decode b_Fu_reckonCfa 92 = .ok (.getfield 65, 3) := by decide +kernel
theorem d_Fu_reckonCfa_95 : decode b_Fu_reckonCfa 95 = .ok (.iload_n 3, 1) := by decide +kernel
theorem d_Fu_reckonCfa_96 : decode b_Fu_reckonCfa 96 = .ok (.iload_n 3, 1) := by decide +kernel
theorem d_Fu_reckonCfa_97 : decode b_Fu_reckonCfa 97 = .ok (.iload 4, 2) := by decide +kernel
theorem d_Fu_reckonCfa_99 : decode b_Fu_reckonCfa 99 = .ok (.iadd, 1) := by decide +kernel
theorem d_Fu_reckonCfa_100 : decode b_Fu_reckonCfa 100 = .ok (.iload_n 2, 1) := by decide +kernel
theorem d_Fu_reckonCfa_101 : decode b_Fu_reckonCfa 101 = .ok (.invokevirtual 151, 3) := by decide +kernel
theorem d_Fu_reckonCfa_104 : decode b_Fu_reckonCfa 104 = .ok (.ireturn, 1) := by decide +kernel
theorem d_Fu_reckonCfa_105 : decode b_Fu_reckonCfa 105 = .ok (.bipush 6, 2) := by decide +kernel
theorem d_Fu_reckonCfa_107 : decode b_Fu_reckonCfa 107 = .ok (.ireturn, 1) := by decide +kernel
theorem d_Fu_recoverRegister_0 : decode b_Fu_recoverRegister 0 = .ok (.aload_n 0, 1) := by decide +kernel
theorem d_Fu_recoverRegister_1 : decode b_Fu_recoverRegister 1 = .ok (.getfield 53, 3) := by decide +kernel
theorem d_Fu_recoverRegister_4 : decode b_Fu_recoverRegister 4 = .ok (.iload_n 2, 1) := by decide +kernel
theorem d_Fu_recoverRegister_5 : decode b_Fu_recoverRegister 5 = .ok (.invokevirtual 191, 3) := by decide +kernel
theorem d_Fu_recoverRegister_8 : decode b_Fu_recoverRegister 8 = .ok (.ifCond .eq 23, 3) := by decide +kernel
theorem d_Fu_recoverRegister_11 : decode b_Fu_recoverRegister 11 = .ok (.aload_n 0, 1) := by decide +kernel
theorem d_Fu_recoverRegister_12 : decode b_Fu_recoverRegister 12 = .ok (.getfield 57, 3) := by decide +kernel
theorem d_Fu_recoverRegister_15 : decode b_Fu_recoverRegister 15 = .ok (.iload_n 1, 1) := by decide +kernel
theorem d_Fu_recoverRegister_16 : decode b_Fu_recoverRegister 16 = .ok (.aload_n 0, 1) := by decide +kernel
theorem d_Fu_recoverRegister_17 : decode b_Fu_recoverRegister 17 = .ok (.getfield 53, 3) := by decide +kernel
theorem d_Fu_recoverRegister_20 : decode b_Fu_recoverRegister 20 = .ok (.getfield 182, 3) := by decide +kernel
theorem d_Fu_recoverRegister_23 : decode b_Fu_recoverRegister 23 = .ok (.iload_n 2, 1) := by decide +kernel
theorem d_Fu_recoverRegister_24 : decode b_Fu_recoverRegister 24 = .ok (.iaload, 1) := by decide +kernel
theorem d_Fu_recoverRegister_25 : decode b_Fu_recoverRegister 25 = .ok (.invokevirtual 136, 3) := by decide +kernel
theorem d_Fu_recoverRegister_28 : decode b_Fu_recoverRegister 28 = .ok (.goto 11, 3) := by decide +kernel
theorem d_Fu_recoverRegister_31 : decode b_Fu_recoverRegister 31 = .ok (.aload_n 0, 1) := by decide +kernel
theorem d_Fu_recoverRegister_32 : decode b_Fu_recoverRegister 32 = .ok (.getfield 57, 3) := by decide +kernel
theorem d_Fu_recoverRegister_35 : decode b_Fu_recoverRegister 35 = .ok (.iload_n 1, 1) := by decide +kernel
theorem d_Fu_recoverRegister_36 : decode b_Fu_recoverRegister 36 = .ok (.invokevirtual 209, 3) := by decide +kernel
theorem d_Fu_recoverRegister_39 : decode b_Fu_recoverRegister 39 = .ok (.iconst 0, 1) := by decide +kernel
theorem d_Fu_recoverRegister_40 : decode b_Fu_recoverRegister 40 = .ok (.ireturn, 1) := by decide +kernel
theorem d_Fu_recoverWord_0 : decode b_Fu_recoverWord 0 = .ok (.aload_n 0, 1) := by decide +kernel
theorem d_Fu_recoverWord_1 : decode b_Fu_recoverWord 1 = .ok (.getfield 46, 3) := by decide +kernel
theorem d_Fu_recoverWord_4 : decode b_Fu_recoverWord 4 = .ok (.iload_n 2, 1) := by decide +kernel
theorem d_Fu_recoverWord_5 : decode b_Fu_recoverWord 5 = .ok (.invokevirtual 128, 3) := by decide +kernel
theorem d_Fu_recoverWord_8 : decode b_Fu_recoverWord 8 = .ok (.ifCond .ne 5, 3) := by decide +kernel
theorem d_Fu_recoverWord_11 : decode b_Fu_recoverWord 11 = .ok (.iconst 4, 1) := by decide +kernel
theorem d_Fu_recoverWord_12 : decode b_Fu_recoverWord 12 = .ok (.ireturn, 1) := by decide +kernel
theorem d_Fu_recoverWord_13 : decode b_Fu_recoverWord 13 = .ok (.aload_n 0, 1) := by decide +kernel
theorem d_Fu_recoverWord_14 : decode b_Fu_recoverWord 14 = .ok (.getfield 57, 3) := by decide +kernel
theorem d_Fu_recoverWord_17 : decode b_Fu_recoverWord 17 = .ok (.iload_n 1, 1) := by decide +kernel
theorem d_Fu_recoverWord_18 : decode b_Fu_recoverWord 18 = .ok (.aload_n 0, 1) := by decide +kernel
theorem d_Fu_recoverWord_19 : decode b_Fu_recoverWord 19 = .ok (.getfield 46, 3) := by decide +kernel
theorem d_Fu_recoverWord_22 : decode b_Fu_recoverWord 22 = .ok (.iload_n 2, 1) := by decide +kernel
theorem d_Fu_recoverWord_23 : decode b_Fu_recoverWord 23 = .ok (.invokevirtual 212, 3) := by decide +kernel
theorem d_Fu_recoverWord_26 : decode b_Fu_recoverWord 26 = .ok (.invokevirtual 136, 3) := by decide +kernel
theorem d_Fu_recoverWord_29 : decode b_Fu_recoverWord 29 = .ok (.iconst 0, 1) := by decide +kernel
theorem d_Fu_recoverWord_30 : decode b_Fu_recoverWord 30 = .ok (.ireturn, 1) := by decide +kernel
theorem d_Fu_recoverReckoned_0 : decode b_Fu_recoverReckoned 0 = .ok (.iload_n 2, 1) := by decide +kernel
theorem d_Fu_recoverReckoned_1 : decode b_Fu_recoverReckoned 1 = .ok (.iconst 5, 1) := by decide +kernel
theorem d_Fu_recoverReckoned_2 : decode b_Fu_recoverReckoned 2 = .ok (.if_icmp .ne 16, 3) := by decide +kernel
theorem d_Fu_recoverReckoned_5 : decode b_Fu_recoverReckoned 5 = .ok (.aload_n 0, 1) := by decide +kernel
theorem d_Fu_recoverReckoned_6 : decode b_Fu_recoverReckoned 6 = .ok (.iload_n 1, 1) := by decide +kernel
theorem d_Fu_recoverReckoned_7 : decode b_Fu_recoverReckoned 7 = .ok (.aload_n 0, 1) := by decide +kernel
theorem d_Fu_recoverReckoned_8 : decode b_Fu_recoverReckoned 8 = .ok (.getfield 65, 3) := by decide +kernel
theorem d_Fu_recoverReckoned_11 : decode b_Fu_recoverReckoned 11 = .ok (.invokevirtual 155, 3) := by decide +kernel
theorem d_Fu_recoverReckoned_14 : decode b_Fu_recoverReckoned 14 = .ok (.invokevirtual 200, 3) := by decide +kernel
theorem d_Fu_recoverReckoned_17 : decode b_Fu_recoverReckoned 17 = .ok (.ireturn, 1) := by decide +kernel
theorem d_Fu_recoverReckoned_18 : decode b_Fu_recoverReckoned 18 = .ok (.aload_n 0, 1) := by decide +kernel
theorem d_Fu_recoverReckoned_19 : decode b_Fu_recoverReckoned 19 = .ok (.getfield 57, 3) := by decide +kernel
theorem d_Fu_recoverReckoned_22 : decode b_Fu_recoverReckoned 22 = .ok (.iload_n 1, 1) := by decide +kernel
theorem d_Fu_recoverReckoned_23 : decode b_Fu_recoverReckoned 23 = .ok (.aload_n 0, 1) := by decide +kernel
theorem d_Fu_recoverReckoned_24 : decode b_Fu_recoverReckoned 24 = .ok (.getfield 65, 3) := by decide +kernel
theorem d_Fu_recoverReckoned_27 : decode b_Fu_recoverReckoned 27 = .ok (.invokevirtual 155, 3) := by decide +kernel
theorem d_Fu_recoverReckoned_30 : decode b_Fu_recoverReckoned 30 = .ok (.invokevirtual 136, 3) := by decide +kernel
theorem d_Fu_recoverReckoned_33 : decode b_Fu_recoverReckoned 33 = .ok (.iconst 0, 1) := by decide +kernel
theorem d_Fu_recoverReckoned_34 : decode b_Fu_recoverReckoned 34 = .ok (.ireturn, 1) := by decide +kernel
