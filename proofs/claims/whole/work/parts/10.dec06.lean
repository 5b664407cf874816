theorem d_Rk_joined_0 : decode b_Rk_joined 0 = .ok (.iload_n 0, 1) := by decide +kernel
theorem d_Rk_joined_1 : decode b_Rk_joined 1 = .ok (.tableswitch 119 26 39 #[71, 75, 87, 91, 103, 119, 119, 107, 111, 119, 119, 119, 119, 115], 71) := by decide +kernel
theorem d_Rk_joined_72 : decode b_Rk_joined 72 = .ok (.iload_n 1, 1) := by decide +kernel
theorem d_Rk_joined_73 : decode b_Rk_joined 73 = .ok (.iload_n 2, 1) := by decide +kernel
theorem d_Rk_joined_74 : decode b_Rk_joined 74 = .ok (.iand, 1) := by decide +kernel
theorem d_Rk_joined_75 : decode b_Rk_joined 75 = .ok (.ireturn, 1) := by decide +kernel
theorem d_Rk_joined_76 : decode b_Rk_joined 76 = .ok (.iload_n 2, 1) := by decide +kernel
theorem d_Rk_joined_77 : decode b_Rk_joined 77 = .ok (.ifCond .ne 7, 3) := by decide +kernel
theorem d_Rk_joined_80 : decode b_Rk_joined 80 = .ok (.iconst 0, 1) := by decide +kernel
theorem d_Rk_joined_81 : decode b_Rk_joined 81 = .ok (.goto 6, 3) := by decide +kernel
theorem d_Rk_joined_84 : decode b_Rk_joined 84 = .ok (.iload_n 1, 1) := by decide +kernel
theorem d_Rk_joined_85 : decode b_Rk_joined 85 = .ok (.iload_n 2, 1) := by decide +kernel
theorem d_Rk_joined_86 : decode b_Rk_joined 86 = .ok (.idiv, 1) := by decide +kernel
theorem d_Rk_joined_87 : decode b_Rk_joined 87 = .ok (.ireturn, 1) := by decide +kernel
theorem d_Rk_joined_88 : decode b_Rk_joined 88 = .ok (.iload_n 1, 1) := by decide +kernel
theorem d_Rk_joined_89 : decode b_Rk_joined 89 = .ok (.iload_n 2, 1) := by decide +kernel
theorem d_Rk_joined_90 : decode b_Rk_joined 90 = .ok (.isub, 1) := by decide +kernel
theorem d_Rk_joined_91 : decode b_Rk_joined 91 = .ok (.ireturn, 1) := by decide +kernel
theorem d_Rk_joined_92 : decode b_Rk_joined 92 = .ok (.iload_n 2, 1) := by decide +kernel
theorem d_Rk_joined_93 : decode b_Rk_joined 93 = .ok (.ifCond .ne 7, 3) := by decide +kernel
theorem d_Rk_joined_96 : decode b_Rk_joined 96 = .ok (.iconst 0, 1) := by decide +kernel
theorem d_Rk_joined_97 : decode b_Rk_joined 97 = .ok (.goto 6, 3) := by decide +kernel
theorem d_Rk_joined_100 : decode b_Rk_joined 100 = .ok (.iload_n 1, 1) := by decide +kernel
theorem d_Rk_joined_101 : decode b_Rk_joined 101 = .ok (.iload_n 2, 1) := by decide +kernel
theorem d_Rk_joined_102 : decode b_Rk_joined 102 = .ok (.irem, 1) := by decide +kernel
theorem d_Rk_joined_103 : decode b_Rk_joined 103 = .ok (.ireturn, 1) := by decide +kernel
theorem d_Rk_joined_104 : decode b_Rk_joined 104 = .ok (.iload_n 1, 1) := by decide +kernel
theorem d_Rk_joined_105 : decode b_Rk_joined 105 = .ok (.iload_n 2, 1) := by decide +kernel
theorem d_Rk_joined_106 : decode b_Rk_joined 106 = .ok (.imul, 1) := by decide +kernel
theorem d_Rk_joined_107 : decode b_Rk_joined 107 = .ok (.ireturn, 1) := by decide +kernel
theorem d_Rk_joined_108 : decode b_Rk_joined 108 = .ok (.iload_n 1, 1) := by decide +kernel
theorem d_Rk_joined_109 : decode b_Rk_joined 109 = .ok (.iload_n 2, 1) := by decide +kernel
theorem d_Rk_joined_110 : decode b_Rk_joined 110 = .ok (.ior, 1) := by decide +kernel
theorem d_Rk_joined_111 : decode b_Rk_joined 111 = .ok (.ireturn, 1) := by decide +kernel
theorem d_Rk_joined_112 : decode b_Rk_joined 112 = .ok (.iload_n 1, 1) := by decide +kernel
theorem d_Rk_joined_113 : decode b_Rk_joined 113 = .ok (.iload_n 2, 1) := by decide +kernel
theorem d_Rk_joined_114 : decode b_Rk_joined 114 = .ok (.iadd, 1) := by decide +kernel
theorem d_Rk_joined_115 : decode b_Rk_joined 115 = .ok (.ireturn, 1) := by decide +kernel
theorem d_Rk_joined_116 : decode b_Rk_joined 116 = .ok (.iload_n 1, 1) := by decide +kernel
theorem d_Rk_joined_117 : decode b_Rk_joined 117 = .ok (.iload_n 2, 1) := by decide +kernel
theorem d_Rk_joined_118 : decode b_Rk_joined 118 = .ok (.ixor, 1) := by decide +kernel
theorem d_Rk_joined_119 : decode b_Rk_joined 119 = .ok (.ireturn, 1) := by decide +kernel
theorem d_Rk_joined_120 : decode b_Rk_joined 120 = .ok (.iload_n 0, 1) := by decide +kernel
theorem d_Rk_joined_121 : decode b_Rk_joined 121 = .ok (.iload_n 1, 1) := by decide +kernel
theorem d_Rk_joined_122 : decode b_Rk_joined 122 = .ok (.iload_n 2, 1) := by decide +kernel
theorem d_Rk_joined_123 : decode b_Rk_joined 123 = .ok (.invokestatic 135, 3) := by decide +kernel
theorem d_Rk_joined_126 : decode b_Rk_joined 126 = .ok (.ireturn, 1) := by decide +kernel
theorem d_Rk_compared_0 : decode b_Rk_compared 0 = .ok (.iload_n 0, 1) := by decide +kernel
theorem d_Rk_compared_1 : decode b_Rk_compared 1 = .ok (.tableswitch 90 41 45 #[35, 46, 57, 68, 79], 35) := by decide +kernel
theorem d_Rk_compared_36 : decode b_Rk_compared 36 = .ok (.iload_n 1, 1) := by decide +kernel
theorem d_Rk_compared_37 : decode b_Rk_compared 37 = .ok (.iload_n 2, 1) := by decide +kernel
theorem d_Rk_compared_38 : decode b_Rk_compared 38 = .ok (.if_icmp .ne 7, 3) := by decide +kernel
theorem d_Rk_compared_41 : decode b_Rk_compared 41 = .ok (.iconst 1, 1) := by decide +kernel
theorem d_Rk_compared_42 : decode b_Rk_compared 42 = .ok (.goto 4, 3) := by decide +kernel
theorem d_Rk_compared_45 : decode b_Rk_compared 45 = .ok (.iconst 0, 1) := by decide +kernel
theorem d_Rk_compared_46 : decode b_Rk_compared 46 = .ok (.ireturn, 1) := by decide +kernel
theorem d_Rk_compared_47 : decode b_Rk_compared 47 = .ok (.iload_n 1, 1) := by decide +kernel
theorem d_Rk_compared_48 : decode b_Rk_compared 48 = .ok (.iload_n 2, 1) := by decide +kernel
theorem d_Rk_compared_49 : decode b_Rk_compared 49 = .ok (.if_icmp .lt 7, 3) := by decide +kernel
theorem d_Rk_compared_52 : decode b_Rk_compared 52 = .ok (.iconst 1, 1) := by decide +kernel
theorem d_Rk_compared_53 : decode b_Rk_compared 53 = .ok (.goto 4, 3) := by decide +kernel
theorem d_Rk_compared_56 : decode b_Rk_compared 56 = .ok (.iconst 0, 1) := by decide +kernel
theorem d_Rk_compared_57 : decode b_Rk_compared 57 = .ok (.ireturn, 1) := by decide +kernel
theorem d_Rk_compared_58 : decode b_Rk_compared 58 = .ok (.iload_n 1, 1) := by decide +kernel
theorem d_Rk_compared_59 : decode b_Rk_compared 59 = .ok (.iload_n 2, 1) := by decide +kernel
theorem d_Rk_compared_60 : decode b_Rk_compared 60 = .ok (.if_icmp .le 7, 3) := by decide +kernel
theorem d_Rk_compared_63 : decode b_Rk_compared 63 = .ok (.iconst 1, 1) := by decide +kernel
theorem d_Rk_compared_64 : decode b_Rk_compared 64 = .ok (.goto 4, 3) := by decide +kernel
theorem d_Rk_compared_67 : decode b_Rk_compared 67 = .ok (.iconst 0, 1) := by decide +kernel
theorem d_Rk_compared_68 : decode b_Rk_compared 68 = .ok (.ireturn, 1) := by decide +kernel
theorem d_Rk_compared_69 : decode b_Rk_compared 69 = .ok (.iload_n 1, 1) := by decide +kernel
theorem d_Rk_compared_70 : decode b_Rk_compared 70 = .ok (.iload_n 2, 1) := by decide +kernel
theorem d_Rk_compared_71 : decode b_Rk_compared 71 = .ok (.if_icmp .gt 7, 3) := by decide +kernel
theorem d_Rk_compared_74 : decode b_Rk_compared 74 = .ok (.iconst 1, 1) := by decide +kernel
theorem d_Rk_compared_75 : decode b_Rk_compared 75 = .ok (.goto 4, 3) := by decide +kernel
theorem d_Rk_compared_78 : decode b_Rk_compared 78 = .ok (.iconst 0, 1) := by decide +kernel
theorem d_Rk_compared_79 : decode b_Rk_compared 79 = .ok (.ireturn, 1) := by decide +kernel
theorem d_Rk_compared_80 : decode b_Rk_compared 80 = .ok (.iload_n 1, 1) := by decide +kernel
theorem d_Rk_compared_81 : decode b_Rk_compared 81 = .ok (.iload_n 2, 1) := by decide +kernel
theorem d_Rk_compared_82 : decode b_Rk_compared 82 = .ok (.if_icmp .ge 7, 3) := by decide +kernel
theorem d_Rk_compared_85 : decode b_Rk_compared 85 = .ok (.iconst 1, 1) := by decide +kernel
theorem d_Rk_compared_86 : decode b_Rk_compared 86 = .ok (.goto 4, 3) := by decide +kernel
theorem d_Rk_compared_89 : decode b_Rk_compared 89 = .ok (.iconst 0, 1) := by decide +kernel
theorem d_Rk_compared_90 : decode b_Rk_compared 90 = .ok (.ireturn, 1) := by decide +kernel
theorem d_Rk_compared_91 : decode b_Rk_compared 91 = .ok (.iload_n 1, 1) := by decide +kernel
theorem d_Rk_compared_92 : decode b_Rk_compared 92 = .ok (.iload_n 2, 1) := by decide +kernel
theorem d_Rk_compared_93 : decode b_Rk_compared 93 = .ok (.if_icmp .eq 7, 3) := by decide +kernel
theorem d_Rk_compared_96 : decode b_Rk_compared 96 = .ok (.iconst 1, 1) := by decide +kernel
theorem d_Rk_compared_97 : decode b_Rk_compared 97 = .ok (.goto 4, 3) := by decide +kernel
theorem d_Rk_compared_100 : decode b_Rk_compared 100 = .ok (.iconst 0, 1) := by decide +kernel
theorem d_Rk_compared_101 : decode b_Rk_compared 101 = .ok (.ireturn, 1) := by decide +kernel
theorem d_Rk_clear_0 : decode b_Rk_clear 0 = .ok (.aload_n 0, 1) := by decide +kernel
theorem d_Rk_clear_1 : decode b_Rk_clear 1 = .ok (.iconst 0, 1) := by decide +kernel
theorem d_Rk_clear_2 : decode b_Rk_clear 2 = .ok (.putfield 27, 3) := by decide +kernel
theorem d_Rk_clear_5 : decode b_Rk_clear 5 = .ok (.aload_n 0, 1) := by decide +kernel
theorem d_Rk_clear_6 : decode b_Rk_clear 6 = .ok (.iconst 0, 1) := by decide +kernel
theorem d_Rk_clear_7 : decode b_Rk_clear 7 = .ok (.putfield 31, 3) := by decide +kernel
theorem d_Rk_clear_10 : decode b_Rk_clear 10 = .ok (.return_, 1) := by decide +kernel
theorem d_Rk_push_0 : decode b_Rk_push 0 = .ok (.aload_n 0, 1) := by decide +kernel
theorem d_Rk_push_1 : decode b_Rk_push 1 = .ok (.getfield 27, 3) := by decide +kernel
theorem d_Rk_push_4 : decode b_Rk_push 4 = .ok (.bipush 16, 2) := by decide +kernel
theorem d_Rk_push_6 : decode b_Rk_push 6 = .ok (.if_icmp .ge 23, 3) := by decide +kernel
theorem d_Rk_push_9 : decode b_Rk_push 9 = .ok (.aload_n 0, 1) := by decide +kernel
theorem d_Rk_push_10 : decode b_Rk_push 10 = .ok (.getfield 23, 3) := by decide +kernel
theorem d_Rk_push_13 : decode b_Rk_push 13 = .ok (.aload_n 0, 1) := by decide +kernel
theorem d_Rk_push_14 : decode b_Rk_push 14 = .ok (.getfield 27, 3) := by decide +kernel
theorem d_Rk_push_17 : decode b_Rk_push 17 = .ok (.iload_n 1, 1) := by decide +kernel
theorem d_Rk_push_18 : decode b_Rk_push 18 = .ok (.iastore, 1) := by decide +kernel
theorem d_Rk_push_19 : decode b_Rk_push 19 = .ok (.aload_n 0, 1) := by decide +kernel
theorem d_Rk_push_20 : decode b_Rk_push 20 = .ok (.dup, 1) := by decide +kernel
theorem d_Rk_push_21 : decode b_Rk_push 21 = .ok (.getfield 27, 3) := by decide +kernel
theorem d_Rk_push_24 : decode b_Rk_push 24 = .ok (.iconst 1, 1) := by decide +kernel
theorem d_Rk_push_25 : decode b_Rk_push 25 = .ok (.iadd, 1) := by decide +kernel
theorem d_Rk_push_26 : decode b_Rk_push 26 = .ok (.putfield 27, 3) := by decide +kernel
theorem d_Rk_push_29 : decode b_Rk_push 29 = .ok (.return_, 1) := by decide +kernel
theorem d_Rk_giveCfa_0 : decode b_Rk_giveCfa 0 = .ok (.aload_n 0, 1) := by decide +kernel
theorem d_Rk_giveCfa_1 : decode b_Rk_giveCfa 1 = .ok (.iconst 1, 1) := by decide +kernel
theorem d_Rk_giveCfa_2 : decode b_Rk_giveCfa 2 = .ok (.putfield 31, 3) := by decide +kernel
theorem d_Rk_giveCfa_5 : decode b_Rk_giveCfa 5 = .ok (.aload_n 0, 1) := by decide +kernel
theorem d_Rk_giveCfa_6 : decode b_Rk_giveCfa 6 = .ok (.iload_n 1, 1) := by decide +kernel
theorem d_Rk_giveCfa_7 : decode b_Rk_giveCfa 7 = .ok (.putfield 35, 3) := by decide +kernel
theorem d_Rk_giveCfa_10 : decode b_Rk_giveCfa 10 = .ok (.aload_n 0, 1) := by decide +kernel
theorem d_Rk_giveCfa_11 : decode b_Rk_giveCfa 11 = .ok (.iload_n 1, 1) := by decide +kernel
theorem d_Rk_giveCfa_12 : decode b_Rk_giveCfa 12 = .ok (.invokevirtual 38, 3) := by decide +kernel
theorem d_Rk_giveCfa_15 : decode b_Rk_giveCfa 15 = .ok (.return_, 1) := by decide +kernel
theorem d_Rk_top_0 : decode b_Rk_top 0 = .ok (.aload_n 0, 1) := by decide +kernel
theorem d_Rk_top_1 : decode b_Rk_top 1 = .ok (.getfield 27, 3) := by decide +kernel
theorem d_Rk_top_4 : decode b_Rk_top 4 = .ok (.ifCond .le 17, 3) := by decide +kernel
theorem d_Rk_top_7 : decode b_Rk_top 7 = .ok (.aload_n 0, 1) := by decide +kernel
theorem d_Rk_top_8 : decode b_Rk_top 8 = .ok (.getfield 23, 3) := by decide +kernel
theorem d_Rk_top_11 : decode b_Rk_top 11 = .ok (.aload_n 0, 1) := by decide +kernel
theorem d_Rk_top_12 : decode b_Rk_top 12 = .ok (.getfield 27, 3) := by decide +kernel
theorem d_Rk_top_15 : decode b_Rk_top 15 = .ok (.iconst 1, 1) := by decide +kernel
theorem d_Rk_top_16 : decode b_Rk_top 16 = .ok (.isub, 1) := by decide +kernel
theorem d_Rk_top_17 : decode b_Rk_top 17 = .ok (.iaload, 1) := by decide +kernel
theorem d_Rk_top_18 : decode b_Rk_top 18 = .ok (.goto 4, 3) := by decide +kernel
theorem d_Rk_top_21 : decode b_Rk_top 21 = .ok (.iconst 0, 1) := by decide +kernel
theorem d_Rk_top_22 : decode b_Rk_top 22 = .ok (.ireturn, 1) := by decide +kernel
