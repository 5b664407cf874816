theorem d_Rk_move_0 : decode b_Rk_move 0 = .ok (.aload_n 0, 1) := by decide +kernel
theorem d_Rk_move_1 : decode b_Rk_move 1 = .ok (.getfield 23, 3) := by decide +kernel
theorem d_Rk_move_4 : decode b_Rk_move 4 = .ok (.aload_n 0, 1) := by decide +kernel
theorem d_Rk_move_5 : decode b_Rk_move 5 = .ok (.getfield 27, 3) := by decide +kernel
theorem d_Rk_move_8 : decode b_Rk_move 8 = .ok (.iconst 1, 1) := by decide +kernel
theorem d_Rk_move_9 : decode b_Rk_move 9 = .ok (.isub, 1) := by decide +kernel
theorem d_Rk_move_10 : decode b_Rk_move 10 = .ok (.iaload, 1) := by decide +kernel
theorem d_Rk_move_11 : decode b_Rk_move 11 = .ok (.istore_n 2, 1) := by decide +kernel
theorem d_Rk_move_12 : decode b_Rk_move 12 = .ok (.iload_n 1, 1) := by decide +kernel
theorem d_Rk_move_13 : decode b_Rk_move 13 = .ok (.bipush 19, 2) := by decide +kernel
theorem d_Rk_move_15 : decode b_Rk_move 15 = .ok (.if_icmp .ne 16, 3) := by decide +kernel
theorem d_Rk_move_18 : decode b_Rk_move 18 = .ok (.aload_n 0, 1) := by decide +kernel
theorem d_Rk_move_19 : decode b_Rk_move 19 = .ok (.dup, 1) := by decide +kernel
theorem d_Rk_move_20 : decode b_Rk_move 20 = .ok (.getfield 27, 3) := by decide +kernel
theorem d_Rk_move_23 : decode b_Rk_move 23 = .ok (.iconst 1, 1) := by decide +kernel
theorem d_Rk_move_24 : decode b_Rk_move 24 = .ok (.isub, 1) := by decide +kernel
theorem d_Rk_move_25 : decode b_Rk_move 25 = .ok (.putfield 27, 3) := by decide +kernel
theorem d_Rk_move_28 : decode b_Rk_move 28 = .ok (.goto 102, 3) := by decide +kernel
theorem d_Rk_move_31 : decode b_Rk_move 31 = .ok (.iload_n 1, 1) := by decide +kernel
theorem d_Rk_move_32 : decode b_Rk_move 32 = .ok (.bipush 22, 2) := by decide +kernel
theorem d_Rk_move_34 : decode b_Rk_move 34 = .ok (.if_icmp .ne 40, 3) := by decide +kernel
theorem d_Rk_move_37 : decode b_Rk_move 37 = .ok (.aload_n 0, 1) := by decide +kernel
theorem d_Rk_move_38 : decode b_Rk_move 38 = .ok (.getfield 23, 3) := by decide +kernel
theorem d_Rk_move_41 : decode b_Rk_move 41 = .ok (.aload_n 0, 1) := by decide +kernel
theorem d_Rk_move_42 : decode b_Rk_move 42 = .ok (.getfield 27, 3) := by decide +kernel
theorem d_Rk_move_45 : decode b_Rk_move 45 = .ok (.iconst 1, 1) := by decide +kernel
theorem d_Rk_move_46 : decode b_Rk_move 46 = .ok (.isub, 1) := by decide +kernel
theorem d_Rk_move_47 : decode b_Rk_move 47 = .ok (.aload_n 0, 1) := by decide +kernel
theorem d_Rk_move_48 : decode b_Rk_move 48 = .ok (.getfield 23, 3) := by decide +kernel
theorem d_Rk_move_51 : decode b_Rk_move 51 = .ok (.aload_n 0, 1) := by decide +kernel
theorem d_Rk_move_52 : decode b_Rk_move 52 = .ok (.getfield 27, 3) := by decide +kernel
theorem d_Rk_move_55 : decode b_Rk_move 55 = .ok (.iconst 2, 1) := by decide +kernel
theorem d_Rk_move_56 : decode b_Rk_move 56 = .ok (.isub, 1) := by decide +kernel
theorem d_Rk_move_57 : decode b_Rk_move 57 = .ok (.iaload, 1) := by decide +kernel
theorem d_Rk_move_58 : decode b_Rk_move 58 = .ok (.iastore, 1) := by decide +kernel
theorem d_Rk_move_59 : decode b_Rk_move 59 = .ok (.aload_n 0, 1) := by decide +kernel
theorem d_Rk_move_60 : decode b_Rk_move 60 = .ok (.getfield 23, 3) := by decide +kernel
theorem d_Rk_move_63 : decode b_Rk_move 63 = .ok (.aload_n 0, 1) := by decide +kernel
theorem d_Rk_move_64 : decode b_Rk_move 64 = .ok (.getfield 27, 3) := by decide +kernel
theorem d_Rk_move_67 : decode b_Rk_move 67 = .ok (.iconst 2, 1) := by decide +kernel
theorem d_Rk_move_68 : decode b_Rk_move 68 = .ok (.isub, 1) := by decide +kernel
theorem d_Rk_move_69 : decode b_Rk_move 69 = .ok (.iload_n 2, 1) := by decide +kernel
theorem d_Rk_move_70 : decode b_Rk_move 70 = .ok (.iastore, 1) := by decide +kernel
theorem d_Rk_move_71 : decode b_Rk_move 71 = .ok (.goto 59, 3) := by decide +kernel
theorem d_Rk_move_74 : decode b_Rk_move 74 = .ok (.aload_n 0, 1) := by decide +kernel
theorem d_Rk_move_75 : decode b_Rk_move 75 = .ok (.getfield 23, 3) := by decide +kernel
theorem d_Rk_move_78 : decode b_Rk_move 78 = .ok (.aload_n 0, 1) := by decide +kernel
theorem d_Rk_move_79 : decode b_Rk_move 79 = .ok (.getfield 27, 3) := by decide +kernel
theorem d_Rk_move_82 : decode b_Rk_move 82 = .ok (.iconst 1, 1) := by decide +kernel
theorem d_Rk_move_83 : decode b_Rk_move 83 = .ok (.isub, 1) := by decide +kernel
theorem d_Rk_move_84 : decode b_Rk_move 84 = .ok (.aload_n 0, 1) := by decide +kernel
theorem d_Rk_move_85 : decode b_Rk_move 85 = .ok (.getfield 23, 3) := by decide +kernel
theorem d_Rk_move_88 : decode b_Rk_move 88 = .ok (.aload_n 0, 1) := by decide +kernel
theorem d_Rk_move_89 : decode b_Rk_move 89 = .ok (.getfield 27, 3) := by decide +kernel
theorem d_Rk_move_92 : decode b_Rk_move 92 = .ok (.iconst 2, 1) := by decide +kernel
theorem d_Rk_move_93 : decode b_Rk_move 93 = .ok (.isub, 1) := by decide +kernel
theorem d_Rk_move_94 : decode b_Rk_move 94 = .ok (.iaload, 1) := by decide +kernel
theorem d_Rk_move_95 : decode b_Rk_move 95 = .ok (.iastore, 1) := by decide +kernel
theorem d_Rk_move_96 : decode b_Rk_move 96 = .ok (.aload_n 0, 1) := by decide +kernel
theorem d_Rk_move_97 : decode b_Rk_move 97 = .ok (.getfield 23, 3) := by decide +kernel
theorem d_Rk_move_100 : decode b_Rk_move 100 = .ok (.aload_n 0, 1) := by decide +kernel
theorem d_Rk_move_101 : decode b_Rk_move 101 = .ok (.getfield 27, 3) := by decide +kernel
theorem d_Rk_move_104 : decode b_Rk_move 104 = .ok (.iconst 2, 1) := by decide +kernel
theorem d_Rk_move_105 : decode b_Rk_move 105 = .ok (.isub, 1) := by decide +kernel
theorem d_Rk_move_106 : decode b_Rk_move 106 = .ok (.aload_n 0, 1) := by decide +kernel
theorem d_Rk_move_107 : decode b_Rk_move 107 = .ok (.getfield 23, 3) := by decide +kernel
theorem d_Rk_move_110 : decode b_Rk_move 110 = .ok (.aload_n 0, 1) := by decide +kernel
theorem d_Rk_move_111 : decode b_Rk_move 111 = .ok (.getfield 27, 3) := by decide +kernel
theorem d_Rk_move_114 : decode b_Rk_move 114 = .ok (.iconst 3, 1) := by decide +kernel
theorem d_Rk_move_115 : decode b_Rk_move 115 = .ok (.isub, 1) := by decide +kernel
theorem d_Rk_move_116 : decode b_Rk_move 116 = .ok (.iaload, 1) := by decide +kernel
theorem d_Rk_move_117 : decode b_Rk_move 117 = .ok (.iastore, 1) := by decide +kernel
theorem d_Rk_move_118 : decode b_Rk_move 118 = .ok (.aload_n 0, 1) := by decide +kernel
theorem d_Rk_move_119 : decode b_Rk_move 119 = .ok (.getfield 23, 3) := by decide +kernel
theorem d_Rk_move_122 : decode b_Rk_move 122 = .ok (.aload_n 0, 1) := by decide +kernel
theorem d_Rk_move_123 : decode b_Rk_move 123 = .ok (.getfield 27, 3) := by decide +kernel
theorem d_Rk_move_126 : decode b_Rk_move 126 = .ok (.iconst 3, 1) := by decide +kernel
theorem d_Rk_move_127 : decode b_Rk_move 127 = .ok (.isub, 1) := by decide +kernel
theorem d_Rk_move_128 : decode b_Rk_move 128 = .ok (.iload_n 2, 1) := by decide +kernel
theorem d_Rk_move_129 : decode b_Rk_move 129 = .ok (.iastore, 1) := by decide +kernel
theorem d_Rk_move_130 : decode b_Rk_move 130 = .ok (.iconst 0, 1) := by decide +kernel
theorem d_Rk_move_131 : decode b_Rk_move 131 = .ok (.ireturn, 1) := by decide +kernel
theorem d_Rk_jump_0 : decode b_Rk_jump 0 = .ok (.iload_n 1, 1) := by decide +kernel
theorem d_Rk_jump_1 : decode b_Rk_jump 1 = .ok (.bipush 40, 2) := by decide +kernel
theorem d_Rk_jump_3 : decode b_Rk_jump 3 = .ok (.if_icmp .ne 27, 3) := by decide +kernel
theorem d_Rk_jump_6 : decode b_Rk_jump 6 = .ok (.aload_n 0, 1) := by decide +kernel
theorem d_Rk_jump_7 : decode b_Rk_jump 7 = .ok (.dup, 1) := by decide +kernel
theorem d_Rk_jump_8 : decode b_Rk_jump 8 = .ok (.getfield 27, 3) := by decide +kernel
theorem d_Rk_jump_11 : decode b_Rk_jump 11 = .ok (.iconst 1, 1) := by decide +kernel
theorem d_Rk_jump_12 : decode b_Rk_jump 12 = .ok (.isub, 1) := by decide +kernel
theorem d_Rk_jump_13 : decode b_Rk_jump 13 = .ok (.putfield 27, 3) := by decide +kernel
theorem d_Rk_jump_16 : decode b_Rk_jump 16 = .ok (.aload_n 0, 1) := by decide +kernel
theorem d_Rk_jump_17 : decode b_Rk_jump 17 = .ok (.getfield 23, 3) := by decide +kernel
theorem d_Rk_jump_20 : decode b_Rk_jump 20 = .ok (.aload_n 0, 1) := by decide +kernel
theorem d_Rk_jump_21 : decode b_Rk_jump 21 = .ok (.getfield 27, 3) := by decide +kernel
theorem d_Rk_jump_24 : decode b_Rk_jump 24 = .ok (.iaload, 1) := by decide +kernel
theorem d_Rk_jump_25 : decode b_Rk_jump 25 = .ok (.ifCond .ne 5, 3) := by decide +kernel
theorem d_Rk_jump_28 : decode b_Rk_jump 28 = .ok (.iconst 0, 1) := by decide +kernel
theorem d_Rk_jump_29 : decode b_Rk_jump 29 = .ok (.ireturn, 1) := by decide +kernel
theorem d_Rk_jump_30 : decode b_Rk_jump 30 = .ok (.aload_n 0, 1) := by decide +kernel
theorem d_Rk_jump_31 : decode b_Rk_jump 31 = .ok (.getfield 9, 3) := by decide +kernel
theorem d_Rk_jump_34 : decode b_Rk_jump 34 = .ok (.getfield 51, 3) := by decide +kernel
theorem d_Rk_jump_37 : decode b_Rk_jump 37 = .ok (.iload_n 2, 1) := by decide +kernel
theorem d_Rk_jump_38 : decode b_Rk_jump 38 = .ok (.iadd, 1) := by decide +kernel
theorem d_Rk_jump_39 : decode b_Rk_jump 39 = .ok (.istore_n 3, 1) := by decide +kernel
theorem d_Rk_jump_40 : decode b_Rk_jump 40 = .ok (.iload_n 3, 1) := by decide +kernel
theorem d_Rk_jump_41 : decode b_Rk_jump 41 = .ok (.aload_n 0, 1) := by decide +kernel
theorem d_Rk_jump_42 : decode b_Rk_jump 42 = .ok (.getfield 42, 3) := by decide +kernel
theorem d_Rk_jump_45 : decode b_Rk_jump 45 = .ok (.if_icmp .lt 14, 3) := by decide +kernel
theorem d_Rk_jump_48 : decode b_Rk_jump 48 = .ok (.iload_n 3, 1) := by decide +kernel
theorem d_Rk_jump_49 : decode b_Rk_jump 49 = .ok (.aload_n 0, 1) := by decide +kernel
theorem d_Rk_jump_50 : decode b_Rk_jump 50 = .ok (.getfield 9, 3) := by decide +kernel
theorem d_Rk_jump_53 : decode b_Rk_jump 53 = .ok (.getfield 54, 3) := by decide +kernel
theorem d_Rk_jump_56 : decode b_Rk_jump 56 = .ok (.if_icmp .le 5, 3) := by decide +kernel
theorem d_Rk_jump_59 : decode b_Rk_jump 59 = .ok (.iconst 2, 1) := by decide +kernel
theorem d_Rk_jump_60 : decode b_Rk_jump 60 = .ok (.ireturn, 1) := by decide +kernel
theorem d_Rk_jump_61 : decode b_Rk_jump 61 = .ok (.aload_n 0, 1) := by decide +kernel
theorem d_Rk_jump_62 : decode b_Rk_jump 62 = .ok (.getfield 9, 3) := by decide +kernel
theorem d_Rk_jump_65 : decode b_Rk_jump 65 = .ok (.iload_n 3, 1) := by decide +kernel
theorem d_Rk_jump_66 : decode b_Rk_jump 66 = .ok (.putfield 51, 3) := by decide +kernel
theorem d_Rk_jump_69 : decode b_Rk_jump 69 = .ok (.iconst 0, 1) := by decide +kernel
theorem d_Rk_jump_70 : decode b_Rk_jump 70 = .ok (.ireturn, 1) := by decide +kernel
