theorem d_Rk_changeTop_0 : decode b_Rk_changeTop 0 = .ok (.aload_n 0, 1) := by decide +kernel
theorem d_Rk_changeTop_1 : decode b_Rk_changeTop 1 = .ok (.getfield 23, 3) := by decide +kernel
theorem d_Rk_changeTop_4 : decode b_Rk_changeTop 4 = .ok (.aload_n 0, 1) := by decide +kernel
theorem d_Rk_changeTop_5 : decode b_Rk_changeTop 5 = .ok (.getfield 27, 3) := by decide +kernel
theorem d_Rk_changeTop_8 : decode b_Rk_changeTop 8 = .ok (.iconst 1, 1) := by decide +kernel
theorem d_Rk_changeTop_9 : decode b_Rk_changeTop 9 = .ok (.isub, 1) := by decide +kernel
theorem d_Rk_changeTop_10 : decode b_Rk_changeTop 10 = .ok (.iaload, 1) := by decide +kernel
theorem d_Rk_changeTop_11 : decode b_Rk_changeTop 11 = .ok (.istore_n 3, 1) := by decide +kernel
theorem d_Rk_changeTop_12 : decode b_Rk_changeTop 12 = .ok (.iload_n 1, 1) := by decide +kernel
theorem d_Rk_changeTop_13 : decode b_Rk_changeTop 13 = .ok (.lookupswitch 95 #[(6, 43), (25, 68), (31, 82), (32, 88)], 43) := by decide +kernel
theorem d_Rk_changeTop_56 : decode b_Rk_changeTop 56 = .ok (.aload_n 0, 1) := by decide +kernel
theorem d_Rk_changeTop_57 : decode b_Rk_changeTop 57 = .ok (.getfield 15, 3) := by decide +kernel
theorem d_Rk_changeTop_60 : decode b_Rk_changeTop 60 = .ok (.iload_n 3, 1) := by decide +kernel
theorem d_Rk_changeTop_61 : decode b_Rk_changeTop 61 = .ok (.invokevirtual 121, 3) := by decide +kernel
theorem d_Rk_changeTop_64 : decode b_Rk_changeTop 64 = .ok (.ifCond .ne 5, 3) := by decide +kernel
theorem d_Rk_changeTop_67 : decode b_Rk_changeTop 67 = .ok (.iconst 4, 1) := by decide +kernel
theorem d_Rk_changeTop_68 : decode b_Rk_changeTop 68 = .ok (.ireturn, 1) := by decide +kernel
theorem d_Rk_changeTop_69 : decode b_Rk_changeTop 69 = .ok (.aload_n 0, 1) := by decide +kernel
theorem d_Rk_changeTop_70 : decode b_Rk_changeTop 70 = .ok (.getfield 15, 3) := by decide +kernel
theorem d_Rk_changeTop_73 : decode b_Rk_changeTop 73 = .ok (.iload_n 3, 1) := by decide +kernel
theorem d_Rk_changeTop_74 : decode b_Rk_changeTop 74 = .ok (.invokevirtual 126, 3) := by decide +kernel
theorem d_Rk_changeTop_77 : decode b_Rk_changeTop 77 = .ok (.istore_n 3, 1) := by decide +kernel
theorem d_Rk_changeTop_78 : decode b_Rk_changeTop 78 = .ok (.goto 34, 3) := by decide +kernel
theorem d_Rk_changeTop_81 : decode b_Rk_changeTop 81 = .ok (.iload_n 3, 1) := by decide +kernel
theorem d_Rk_changeTop_82 : decode b_Rk_changeTop 82 = .ok (.ifCond .ge 8, 3) := by decide +kernel
theorem d_Rk_changeTop_85 : decode b_Rk_changeTop 85 = .ok (.iload_n 3, 1) := by decide +kernel
theorem d_Rk_changeTop_86 : decode b_Rk_changeTop 86 = .ok (.ineg, 1) := by decide +kernel
theorem d_Rk_changeTop_87 : decode b_Rk_changeTop 87 = .ok (.goto 4, 3) := by decide +kernel
theorem d_Rk_changeTop_90 : decode b_Rk_changeTop 90 = .ok (.iload_n 3, 1) := by decide +kernel
theorem d_Rk_changeTop_91 : decode b_Rk_changeTop 91 = .ok (.istore_n 3, 1) := by decide +kernel
theorem d_Rk_changeTop_92 : decode b_Rk_changeTop 92 = .ok (.goto 20, 3) := by decide +kernel
theorem d_Rk_changeTop_95 : decode b_Rk_changeTop 95 = .ok (.iload_n 3, 1) := by decide +kernel
theorem d_Rk_changeTop_96 : decode b_Rk_changeTop 96 = .ok (.ineg, 1) := by decide +kernel
theorem d_Rk_changeTop_97 : decode b_Rk_changeTop 97 = .ok (.istore_n 3, 1) := by decide +kernel
theorem d_Rk_changeTop_98 : decode b_Rk_changeTop 98 = .ok (.goto 14, 3) := by decide +kernel
theorem d_Rk_changeTop_101 : decode b_Rk_changeTop 101 = .ok (.iload_n 3, 1) := by decide +kernel
theorem d_Rk_changeTop_102 : decode b_Rk_changeTop 102 = .ok (.iconst (-1), 1) := by decide +kernel
theorem d_Rk_changeTop_103 : decode b_Rk_changeTop 103 = .ok (.ixor, 1) := by decide +kernel
theorem d_Rk_changeTop_104 : decode b_Rk_changeTop 104 = .ok (.istore_n 3, 1) := by decide +kernel
theorem d_Rk_changeTop_105 : decode b_Rk_changeTop 105 = .ok (.goto 7, 3) := by decide +kernel
theorem d_Rk_changeTop_108 : decode b_Rk_changeTop 108 = .ok (.iload_n 3, 1) := by decide +kernel
theorem d_Rk_changeTop_109 : decode b_Rk_changeTop 109 = .ok (.iload_n 2, 1) := by decide +kernel
theorem d_Rk_changeTop_110 : decode b_Rk_changeTop 110 = .ok (.iadd, 1) := by decide +kernel
theorem d_Rk_changeTop_111 : decode b_Rk_changeTop 111 = .ok (.istore_n 3, 1) := by decide +kernel
theorem d_Rk_changeTop_112 : decode b_Rk_changeTop 112 = .ok (.aload_n 0, 1) := by decide +kernel
theorem d_Rk_changeTop_113 : decode b_Rk_changeTop 113 = .ok (.getfield 23, 3) := by decide +kernel
theorem d_Rk_changeTop_116 : decode b_Rk_changeTop 116 = .ok (.aload_n 0, 1) := by decide +kernel
theorem d_Rk_changeTop_117 : decode b_Rk_changeTop 117 = .ok (.getfield 27, 3) := by decide +kernel
theorem d_Rk_changeTop_120 : decode b_Rk_changeTop 120 = .ok (.iconst 1, 1) := by decide +kernel
theorem d_Rk_changeTop_121 : decode b_Rk_changeTop 121 = .ok (.isub, 1) := by decide +kernel
theorem d_Rk_changeTop_122 : decode b_Rk_changeTop 122 = .ok (.iload_n 3, 1) := by decide +kernel
theorem d_Rk_changeTop_123 : decode b_Rk_changeTop 123 = .ok (.iastore, 1) := by decide +kernel
theorem d_Rk_changeTop_124 : decode b_Rk_changeTop 124 = .ok (.iconst 0, 1) := by decide +kernel
theorem d_Rk_changeTop_125 : decode b_Rk_changeTop 125 = .ok (.ireturn, 1) := by decide +kernel
theorem d_Rk_joinTwo_0 : decode b_Rk_joinTwo 0 = .ok (.aload_n 0, 1) := by decide +kernel
theorem d_Rk_joinTwo_1 : decode b_Rk_joinTwo 1 = .ok (.getfield 23, 3) := by decide +kernel
theorem d_Rk_joinTwo_4 : decode b_Rk_joinTwo 4 = .ok (.aload_n 0, 1) := by decide +kernel
theorem d_Rk_joinTwo_5 : decode b_Rk_joinTwo 5 = .ok (.getfield 27, 3) := by decide +kernel
theorem d_Rk_joinTwo_8 : decode b_Rk_joinTwo 8 = .ok (.iconst 1, 1) := by decide +kernel
theorem d_Rk_joinTwo_9 : decode b_Rk_joinTwo 9 = .ok (.isub, 1) := by decide +kernel
theorem d_Rk_joinTwo_10 : decode b_Rk_joinTwo 10 = .ok (.iaload, 1) := by decide +kernel
theorem d_Rk_joinTwo_11 : decode b_Rk_joinTwo 11 = .ok (.istore_n 2, 1) := by decide +kernel
theorem d_Rk_joinTwo_12 : decode b_Rk_joinTwo 12 = .ok (.aload_n 0, 1) := by decide +kernel
theorem d_Rk_joinTwo_13 : decode b_Rk_joinTwo 13 = .ok (.getfield 23, 3) := by decide +kernel
theorem d_Rk_joinTwo_16 : decode b_Rk_joinTwo 16 = .ok (.aload_n 0, 1) := by decide +kernel
theorem d_Rk_joinTwo_17 : decode b_Rk_joinTwo 17 = .ok (.getfield 27, 3) := by decide +kernel
theorem d_Rk_joinTwo_20 : decode b_Rk_joinTwo 20 = .ok (.iconst 2, 1) := by decide +kernel
theorem d_Rk_joinTwo_21 : decode b_Rk_joinTwo 21 = .ok (.isub, 1) := by decide +kernel
theorem d_Rk_joinTwo_22 : decode b_Rk_joinTwo 22 = .ok (.iaload, 1) := by decide +kernel
theorem d_Rk_joinTwo_23 : decode b_Rk_joinTwo 23 = .ok (.istore_n 3, 1) := by decide +kernel
theorem d_Rk_joinTwo_24 : decode b_Rk_joinTwo 24 = .ok (.iload_n 2, 1) := by decide +kernel
theorem d_Rk_joinTwo_25 : decode b_Rk_joinTwo 25 = .ok (.ifCond .ne 17, 3) := by decide +kernel
theorem d_Rk_joinTwo_28 : decode b_Rk_joinTwo 28 = .ok (.iload_n 1, 1) := by decide +kernel
theorem d_Rk_joinTwo_29 : decode b_Rk_joinTwo 29 = .ok (.bipush 27, 2) := by decide +kernel
theorem d_Rk_joinTwo_31 : decode b_Rk_joinTwo 31 = .ok (.if_icmp .eq 9, 3) := by decide +kernel
theorem d_Rk_joinTwo_34 : decode b_Rk_joinTwo 34 = .ok (.iload_n 1, 1) := by decide +kernel
theorem d_Rk_joinTwo_35 : decode b_Rk_joinTwo 35 = .ok (.bipush 29, 2) := by decide +kernel
theorem d_Rk_joinTwo_37 : decode b_Rk_joinTwo 37 = .ok (.if_icmp .ne 5, 3) := by decide +kernel
theorem d_Rk_joinTwo_40 : decode b_Rk_joinTwo 40 = .ok (.iconst 5, 1) := by decide +kernel
theorem d_Rk_joinTwo_41 : decode b_Rk_joinTwo 41 = .ok (.ireturn, 1) := by decide +kernel
theorem d_Rk_joinTwo_42 : decode b_Rk_joinTwo 42 = .ok (.aload_n 0, 1) := by decide +kernel
theorem d_Rk_joinTwo_43 : decode b_Rk_joinTwo 43 = .ok (.dup, 1) := by decide +kernel
theorem d_Rk_joinTwo_44 : decode b_Rk_joinTwo 44 = .ok (.getfield 27, 3) := by decide +kernel
theorem d_Rk_joinTwo_47 : decode b_Rk_joinTwo 47 = .ok (.iconst 1, 1) := by decide +kernel
theorem d_Rk_joinTwo_48 : decode b_Rk_joinTwo 48 = .ok (.isub, 1) := by decide +kernel
theorem d_Rk_joinTwo_49 : decode b_Rk_joinTwo 49 = .ok (.putfield 27, 3) := by decide +kernel
theorem d_Rk_joinTwo_52 : decode b_Rk_joinTwo 52 = .ok (.aload_n 0, 1) := by decide +kernel
theorem d_Rk_joinTwo_53 : decode b_Rk_joinTwo 53 = .ok (.getfield 23, 3) := by decide +kernel
theorem d_Rk_joinTwo_56 : decode b_Rk_joinTwo 56 = .ok (.aload_n 0, 1) := by decide +kernel
theorem d_Rk_joinTwo_57 : decode b_Rk_joinTwo 57 = .ok (.getfield 27, 3) := by decide +kernel
theorem d_Rk_joinTwo_60 : decode b_Rk_joinTwo 60 = .ok (.iconst 1, 1) := by decide +kernel
theorem d_Rk_joinTwo_61 : decode b_Rk_joinTwo 61 = .ok (.isub, 1) := by decide +kernel
theorem d_Rk_joinTwo_62 : decode b_Rk_joinTwo 62 = .ok (.iload_n 1, 1) := by decide +kernel
theorem d_Rk_joinTwo_63 : decode b_Rk_joinTwo 63 = .ok (.bipush 41, 2) := by decide +kernel
theorem d_Rk_joinTwo_65 : decode b_Rk_joinTwo 65 = .ok (.if_icmp .lt 12, 3) := by decide +kernel
theorem d_Rk_joinTwo_68 : decode b_Rk_joinTwo 68 = .ok (.iload_n 1, 1) := by decide +kernel
theorem d_Rk_joinTwo_69 : decode b_Rk_joinTwo 69 = .ok (.iload_n 3, 1) := by decide +kernel
theorem d_Rk_joinTwo_70 : decode b_Rk_joinTwo 70 = .ok (.iload_n 2, 1) := by decide +kernel
theorem d_Rk_joinTwo_71 : decode b_Rk_joinTwo 71 = .ok (.invokestatic 129, 3) := by decide +kernel
theorem d_Rk_joinTwo_74 : decode b_Rk_joinTwo 74 = .ok (.goto 9, 3) := by decide +kernel
theorem d_Rk_joinTwo_77 : decode b_Rk_joinTwo 77 = .ok (.iload_n 1, 1) := by decide +kernel
theorem d_Rk_joinTwo_78 : decode b_Rk_joinTwo 78 = .ok (.iload_n 3, 1) := by decide +kernel
theorem d_Rk_joinTwo_79 : decode b_Rk_joinTwo 79 = .ok (.iload_n 2, 1) := by decide +kernel
theorem d_Rk_joinTwo_80 : decode b_Rk_joinTwo 80 = .ok (.invokestatic 132, 3) := by decide +kernel
theorem d_Rk_joinTwo_83 : decode b_Rk_joinTwo 83 = .ok (.iastore, 1) := by decide +kernel
theorem d_Rk_joinTwo_84 : decode b_Rk_joinTwo 84 = .ok (.iconst 0, 1) := by decide +kernel
theorem d_Rk_joinTwo_85 : decode b_Rk_joinTwo 85 = .ok (.ireturn, 1) := by decide +kernel
