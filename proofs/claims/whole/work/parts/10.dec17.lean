theorem d_Fu_recover_0 : decode b_Fu_recover 0 = .ok (.aload_n 1, 1) := by decide +kernel
theorem d_Fu_recover_1 : decode b_Fu_recover 1 = .ok (.getfield 185, 3) := by decide +kernel
theorem d_Fu_recover_4 : decode b_Fu_recover 4 = .ok (.iload_n 2, 1) := by decide +kernel
theorem d_Fu_recover_5 : decode b_Fu_recover 5 = .ok (.iaload, 1) := by decide +kernel
theorem d_Fu_recover_6 : decode b_Fu_recover 6 = .ok (.istore 5, 2) := by decide +kernel
theorem d_Fu_recover_8 : decode b_Fu_recover 8 = .ok (.aload_n 1, 1) := by decide +kernel
theorem d_Fu_recover_9 : decode b_Fu_recover 9 = .ok (.getfield 161, 3) := by decide +kernel
theorem d_Fu_recover_12 : decode b_Fu_recover 12 = .ok (.iload_n 2, 1) := by decide +kernel
theorem d_Fu_recover_13 : decode b_Fu_recover 13 = .ok (.iaload, 1) := by decide +kernel
theorem d_Fu_recover_14 : decode b_Fu_recover 14 = .ok (.tableswitch 136 1 6 #[38, 45, 55, 69, 77, 77], 38) := by decide +kernel
theorem d_Fu_recover_52 : decode b_Fu_recover 52 = .ok (.aload_n 0, 1) := by decide +kernel
theorem d_Fu_recover_53 : decode b_Fu_recover 53 = .ok (.iload_n 2, 1) := by decide +kernel
theorem d_Fu_recover_54 : decode b_Fu_recover 54 = .ok (.iload_n 2, 1) := by decide +kernel
theorem d_Fu_recover_55 : decode b_Fu_recover 55 = .ok (.invokevirtual 197, 3) := by decide +kernel
theorem d_Fu_recover_58 : decode b_Fu_recover 58 = .ok (.ireturn, 1) := by decide +kernel
theorem d_Fu_recover_59 : decode b_Fu_recover 59 = .ok (.aload_n 0, 1) := by decide +kernel
theorem d_Fu_recover_60 : decode b_Fu_recover 60 = .ok (.iload_n 2, 1) := by decide +kernel
theorem d_Fu_recover_61 : decode b_Fu_recover 61 = .ok (.iload_n 3, 1) := by decide +kernel
theorem d_Fu_recover_62 : decode b_Fu_recover 62 = .ok (.iload 5, 2) := by decide +kernel
theorem d_Fu_recover_64 : decode b_Fu_recover 64 = .ok (.iadd, 1) := by decide +kernel
theorem d_Fu_recover_65 : decode b_Fu_recover 65 = .ok (.invokevirtual 200, 3) := by decide +kernel
theorem d_Fu_recover_68 : decode b_Fu_recover 68 = .ok (.ireturn, 1) := by decide +kernel
theorem d_Fu_recover_69 : decode b_Fu_recover 69 = .ok (.aload_n 0, 1) := by decide +kernel
theorem d_Fu_recover_70 : decode b_Fu_recover 70 = .ok (.getfield 57, 3) := by decide +kernel
theorem d_Fu_recover_73 : decode b_Fu_recover 73 = .ok (.iload_n 2, 1) := by decide +kernel
theorem d_Fu_recover_74 : decode b_Fu_recover 74 = .ok (.iload_n 3, 1) := by decide +kernel
theorem d_Fu_recover_75 : decode b_Fu_recover 75 = .ok (.iload 5, 2) := by decide +kernel
theorem d_Fu_recover_77 : decode b_Fu_recover 77 = .ok (.iadd, 1) := by decide +kernel
theorem d_Fu_recover_78 : decode b_Fu_recover 78 = .ok (.invokevirtual 136, 3) := by decide +kernel
theorem d_Fu_recover_81 : decode b_Fu_recover 81 = .ok (.iconst 0, 1) := by decide +kernel
theorem d_Fu_recover_82 : decode b_Fu_recover 82 = .ok (.ireturn, 1) := by decide +kernel
theorem d_Fu_recover_83 : decode b_Fu_recover 83 = .ok (.aload_n 0, 1) := by decide +kernel
theorem d_Fu_recover_84 : decode b_Fu_recover 84 = .ok (.iload_n 2, 1) := by decide +kernel
theorem d_Fu_recover_85 : decode b_Fu_recover 85 = .ok (.iload 5, 2) := by decide +kernel
theorem d_Fu_recover_87 : decode b_Fu_recover 87 = .ok (.invokevirtual 197, 3) := by decide +kernel
theorem d_Fu_recover_90 : decode b_Fu_recover 90 = .ok (.ireturn, 1) := by decide +kernel
theorem d_Fu_recover_91 : decode b_Fu_recover 91 = .ok (.aload_n 0, 1) := by decide +kernel
theorem d_Fu_recover_92 : decode b_Fu_recover 92 = .ok (.getfield 65, 3) := by decide +kernel
theorem d_Fu_recover_95 : decode b_Fu_recover 95 = .ok (.invokevirtual 148, 3) := by decide +kernel
theorem d_Fu_recover_98 : decode b_Fu_recover 98 = .ok (.aload_n 0, 1) := by decide +kernel
theorem d_Fu_recover_99 : decode b_Fu_recover 99 = .ok (.getfield 65, 3) := by decide +kernel
theorem d_Fu_recover_102 : decode b_Fu_recover 102 = .ok (.iload_n 3, 1) := by decide +kernel
theorem d_Fu_recover_103 : decode b_Fu_recover 103 = .ok (.invokevirtual 203, 3) := by decide +kernel
theorem d_Fu_recover_106 : decode b_Fu_recover 106 = .ok (.aload_n 0, 1) := by decide +kernel
theorem d_Fu_recover_107 : decode b_Fu_recover 107 = .ok (.getfield 65, 3) := by decide +kernel
theorem d_Fu_recover_110 : decode b_Fu_recover 110 = .ok (.iload 5, 2) := by decide +kernel
theorem d_Fu_recover_112 : decode b_Fu_recover 112 = .ok (.iload 5, 2) := by decide +kernel
theorem d_Fu_recover_114 : decode b_Fu_recover 114 = .ok (.aload_n 1, 1) := by decide +kernel
theorem d_Fu_recover_115 : decode b_Fu_recover 115 = .ok (.getfield 188, 3) := by decide +kernel
theorem d_Fu_recover_118 : decode b_Fu_recover 118 = .ok (.iload_n 2, 1) := by decide +kernel
theorem d_Fu_recover_119 : decode b_Fu_recover 119 = .ok (.iaload, 1) := by decide +kernel
theorem d_Fu_recover_120 : decode b_Fu_recover 120 = .ok (.iadd, 1) := by decide +kernel
theorem d_Fu_recover_121 : decode b_Fu_recover 121 = .ok (.iload 4, 2) := by decide +kernel
theorem d_Fu_recover_123 : decode b_Fu_recover 123 = .ok (.invokevirtual 151, 3) := by decide +kernel
theorem d_Fu_recover_126 : decode b_Fu_recover 126 = .ok (.istore 6, 2) := by decide +kernel
theorem d_Fu_recover_128 : decode b_Fu_recover 128 = .ok (.iload 6, 2) := by decide +kernel
theorem d_Fu_recover_130 : decode b_Fu_recover 130 = .ok (.ifCond .ne 17, 3) := by decide +kernel
theorem d_Fu_recover_133 : decode b_Fu_recover 133 = .ok (.aload_n 0, 1) := by decide +kernel
theorem d_Fu_recover_134 : decode b_Fu_recover 134 = .ok (.iload_n 2, 1) := by decide +kernel
theorem d_Fu_recover_135 : decode b_Fu_recover 135 = .ok (.aload_n 1, 1) := by decide +kernel
theorem d_Fu_recover_136 : decode b_Fu_recover 136 = .ok (.getfield 161, 3) := by decide +kernel
theorem d_Fu_recover_139 : decode b_Fu_recover 139 = .ok (.iload_n 2, 1) := by decide +kernel
theorem d_Fu_recover_140 : decode b_Fu_recover 140 = .ok (.iaload, 1) := by decide +kernel
theorem d_Fu_recover_141 : decode b_Fu_recover 141 = .ok (.invokevirtual 206, 3) := by decide +kernel
theorem d_Fu_recover_144 : decode b_Fu_recover 144 = .ok (.goto 5, 3) := by decide +kernel
theorem d_Fu_recover_147 : decode b_Fu_recover 147 = .ok (.iload 6, 2) := by decide +kernel
theorem d_Fu_recover_149 : decode b_Fu_recover 149 = .ok (.ireturn, 1) := by decide +kernel
theorem d_Fu_recover_150 : decode b_Fu_recover 150 = .ok (.aload_n 0, 1) := by decide +kernel
theorem d_Fu_recover_151 : decode b_Fu_recover 151 = .ok (.getfield 57, 3) := by decide +kernel
theorem d_Fu_recover_154 : decode b_Fu_recover 154 = .ok (.iload_n 2, 1) := by decide +kernel
theorem d_Fu_recover_155 : decode b_Fu_recover 155 = .ok (.invokevirtual 209, 3) := by decide +kernel
theorem d_Fu_recover_158 : decode b_Fu_recover 158 = .ok (.iconst 0, 1) := by decide +kernel
theorem d_Fu_recover_159 : decode b_Fu_recover 159 = .ok (.ireturn, 1) := by decide +kernel
theorem d_Fu_goToCaller_0 : decode b_Fu_goToCaller 0 = .ok (.aload_n 0, 1) := by decide +kernel
theorem d_Fu_goToCaller_1 : decode b_Fu_goToCaller 1 = .ok (.getfield 57, 3) := by decide +kernel
theorem d_Fu_goToCaller_4 : decode b_Fu_goToCaller 4 = .ok (.iload_n 1, 1) := by decide +kernel
theorem d_Fu_goToCaller_5 : decode b_Fu_goToCaller 5 = .ok (.invokevirtual 191, 3) := by decide +kernel
theorem d_Fu_goToCaller_8 : decode b_Fu_goToCaller 8 = .ok (.ifCond .ne 5, 3) := by decide +kernel
theorem d_Fu_goToCaller_11 : decode b_Fu_goToCaller 11 = .ok (.iconst 4, 1) := by decide +kernel
theorem d_Fu_goToCaller_12 : decode b_Fu_goToCaller 12 = .ok (.ireturn, 1) := by decide +kernel
theorem d_Fu_goToCaller_13 : decode b_Fu_goToCaller 13 = .ok (.aload_n 0, 1) := by decide +kernel
theorem d_Fu_goToCaller_14 : decode b_Fu_goToCaller 14 = .ok (.getfield 53, 3) := by decide +kernel
theorem d_Fu_goToCaller_17 : decode b_Fu_goToCaller 17 = .ok (.aload_n 0, 1) := by decide +kernel
theorem d_Fu_goToCaller_18 : decode b_Fu_goToCaller 18 = .ok (.getfield 57, 3) := by decide +kernel
theorem d_Fu_goToCaller_21 : decode b_Fu_goToCaller 21 = .ok (.invokevirtual 215, 3) := by decide +kernel
theorem d_Fu_goToCaller_24 : decode b_Fu_goToCaller 24 = .ok (.aload_n 0, 1) := by decide +kernel
theorem d_Fu_goToCaller_25 : decode b_Fu_goToCaller 25 = .ok (.getfield 53, 3) := by decide +kernel
theorem d_Fu_goToCaller_28 : decode b_Fu_goToCaller 28 = .ok (.aload_n 0, 1) := by decide +kernel
theorem d_Fu_goToCaller_29 : decode b_Fu_goToCaller 29 = .ok (.getfield 53, 3) := by decide +kernel
theorem d_Fu_goToCaller_32 : decode b_Fu_goToCaller 32 = .ok (.getfield 182, 3) := by decide +kernel
theorem d_Fu_goToCaller_35 : decode b_Fu_goToCaller 35 = .ok (.iload_n 1, 1) := by decide +kernel
theorem d_Fu_goToCaller_36 : decode b_Fu_goToCaller 36 = .ok (.iaload, 1) := by decide +kernel
theorem d_Fu_goToCaller_37 : decode b_Fu_goToCaller 37 = .ok (.putfield 139, 3) := by decide +kernel
theorem d_Fu_goToCaller_40 : decode b_Fu_goToCaller 40 = .ok (.aload_n 0, 1) := by decide +kernel
theorem d_Fu_goToCaller_41 : decode b_Fu_goToCaller 41 = .ok (.getfield 53, 3) := by decide +kernel
theorem d_Fu_goToCaller_44 : decode b_Fu_goToCaller 44 = .ok (.dup, 1) := by decide +kernel
theorem d_Fu_goToCaller_45 : decode b_Fu_goToCaller 45 = .ok (.getfield 142, 3) := by decide +kernel
theorem d_Fu_goToCaller_48 : decode b_Fu_goToCaller 48 = .ok (.iconst 1, 1) := by decide +kernel
theorem d_Fu_goToCaller_49 : decode b_Fu_goToCaller 49 = .ok (.iadd, 1) := by decide +kernel
theorem d_Fu_goToCaller_50 : decode b_Fu_goToCaller 50 = .ok (.putfield 142, 3) := by decide +kernel
theorem d_Fu_goToCaller_53 : decode b_Fu_goToCaller 53 = .ok (.iconst 0, 1) := by decide +kernel
theorem d_Fu_goToCaller_54 : decode b_Fu_goToCaller 54 = .ok (.ireturn, 1) := by decide +kernel
theorem d_Md_within_0 : decode b_Md_within 0 = .ok (.iload_n 0, 1) := by decide +kernel
theorem d_Md_within_1 : decode b_Md_within 1 = .ok (.iload_n 1, 1) := by decide +kernel
theorem d_Md_within_2 : decode b_Md_within 2 = .ok (.if_icmp .lt 12, 3) := by decide +kernel
theorem d_Md_within_5 : decode b_Md_within 5 = .ok (.iload_n 0, 1) := by decide +kernel
theorem d_Md_within_6 : decode b_Md_within 6 = .ok (.iload_n 2, 1) := by decide +kernel
theorem d_Md_within_7 : decode b_Md_within 7 = .ok (.if_icmp .gt 7, 3) := by decide +kernel
theorem d_Md_within_10 : decode b_Md_within 10 = .ok (.iconst 1, 1) := by decide +kernel
theorem d_Md_within_11 : decode b_Md_within 11 = .ok (.goto 4, 3) := by decide +kernel
theorem d_Md_within_14 : decode b_Md_within 14 = .ok (.iconst 0, 1) := by decide +kernel
theorem d_Md_within_15 : decode b_Md_within 15 = .ok (.ireturn, 1) := by decide +kernel
theorem d_Md_isAddress_0 : decode b_Md_isAddress 0 = .ok (.iload_n 0, 1) := by decide +kernel
theorem d_Md_isAddress_1 : decode b_Md_isAddress 1 = .ok (.iconst 0, 1) := by decide +kernel
theorem d_Md_isAddress_2 : decode b_Md_isAddress 2 = .ok (.sipush 1020, 3) := by decide +kernel
theorem d_Md_isAddress_5 : decode b_Md_isAddress 5 = .ok (.invokestatic 75, 3) := by decide +kernel
theorem d_Md_isAddress_8 : decode b_Md_isAddress 8 = .ok (.ifCond .eq 13, 3) := by decide +kernel
theorem d_Md_isAddress_11 : decode b_Md_isAddress 11 = .ok (.iload_n 0, 1) := by decide +kernel
theorem d_Md_isAddress_12 : decode b_Md_isAddress 12 = .ok (.iconst 4, 1) := by decide +kernel
theorem d_Md_isAddress_13 : decode b_Md_isAddress 13 = .ok (.irem, 1) := by decide +kernel
theorem d_Md_isAddress_14 : decode b_Md_isAddress 14 = .ok (.ifCond .ne 7, 3) := by decide +kernel
theorem d_Md_isAddress_17 : decode b_Md_isAddress 17 = .ok (.iconst 1, 1) := by decide +kernel
theorem d_Md_isAddress_18 : decode b_Md_isAddress 18 = .ok (.goto 4, 3) := by decide +kernel
theorem d_Md_isAddress_21 : decode b_Md_isAddress 21 = .ok (.iconst 0, 1) := by decide +kernel
theorem d_Md_isAddress_22 : decode b_Md_isAddress 22 = .ok (.ireturn, 1) := by decide +kernel
