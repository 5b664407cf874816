theorem d_Md_callers_0 : decode b_Md_callers 0 = .ok (.aload_n 0, 1) := by decide +kernel
theorem d_Md_callers_1 : decode b_Md_callers 1 = .ok (.getfield 44, 3) := by decide +kernel
theorem d_Md_callers_4 : decode b_Md_callers 4 = .ok (.bipush 8, 2) := by decide +kernel
theorem d_Md_callers_6 : decode b_Md_callers 6 = .ok (.iload_n 1, 1) := by decide +kernel
theorem d_Md_callers_7 : decode b_Md_callers 7 = .ok (.iadd, 1) := by decide +kernel
theorem d_Md_callers_8 : decode b_Md_callers 8 = .ok (.iaload, 1) := by decide +kernel
theorem d_Md_callers_9 : decode b_Md_callers 9 = .ok (.istore 4, 2) := by decide +kernel
theorem d_Md_callers_11 : decode b_Md_callers 11 = .ok (.aload_n 0, 1) := by decide +kernel
theorem d_Md_callers_12 : decode b_Md_callers 12 = .ok (.getfield 44, 3) := by decide +kernel
theorem d_Md_callers_15 : decode b_Md_callers 15 = .ok (.iload_n 1, 1) := by decide +kernel
theorem d_Md_callers_16 : decode b_Md_callers 16 = .ok (.iaload, 1) := by decide +kernel
theorem d_Md_callers_17 : decode b_Md_callers 17 = .ok (.tableswitch 139 1 6 #[39, 51, 60, 70, 83, 121], 39) := by decide +kernel
theorem d_Md_callers_56 : decode b_Md_callers 56 = .ok (.aload_n 0, 1) := by decide +kernel
theorem d_Md_callers_57 : decode b_Md_callers 57 = .ok (.aload_n 0, 1) := by decide +kernel
theorem d_Md_callers_58 : decode b_Md_callers 58 = .ok (.getfield 59, 3) := by decide +kernel
theorem d_Md_callers_61 : decode b_Md_callers 61 = .ok (.iload_n 1, 1) := by decide +kernel
theorem d_Md_callers_62 : decode b_Md_callers 62 = .ok (.iaload, 1) := by decide +kernel
theorem d_Md_callers_63 : decode b_Md_callers 63 = .ok (.putfield 201, 3) := by decide +kernel
theorem d_Md_callers_66 : decode b_Md_callers 66 = .ok (.iconst 0, 1) := by decide +kernel
theorem d_Md_callers_67 : decode b_Md_callers 67 = .ok (.ireturn, 1) := by decide +kernel
theorem d_Md_callers_68 : decode b_Md_callers 68 = .ok (.aload_n 0, 1) := by decide +kernel
theorem d_Md_callers_69 : decode b_Md_callers 69 = .ok (.iload_n 3, 1) := by decide +kernel
theorem d_Md_callers_70 : decode b_Md_callers 70 = .ok (.iload 4, 2) := by decide +kernel
theorem d_Md_callers_72 : decode b_Md_callers 72 = .ok (.iadd, 1) := by decide +kernel
theorem d_Md_callers_73 : decode b_Md_callers 73 = .ok (.invokevirtual 217, 3) := by decide +kernel
theorem d_Md_callers_76 : decode b_Md_callers 76 = .ok (.ireturn, 1) := by decide +kernel
theorem d_Md_callers_77 : decode b_Md_callers 77 = .ok (.aload_n 0, 1) := by decide +kernel
theorem d_Md_callers_78 : decode b_Md_callers 78 = .ok (.iload_n 3, 1) := by decide +kernel
theorem d_Md_callers_79 : decode b_Md_callers 79 = .ok (.iload 4, 2) := by decide +kernel
theorem d_Md_callers_81 : decode b_Md_callers 81 = .ok (.iadd, 1) := by decide +kernel
theorem d_Md_callers_82 : decode b_Md_callers 82 = .ok (.putfield 201, 3) := by decide +kernel
theorem d_Md_callers_85 : decode b_Md_callers 85 = .ok (.iconst 0, 1) := by decide +kernel
theorem d_Md_callers_86 : decode b_Md_callers 86 = .ok (.ireturn, 1) := by decide +kernel
theorem d_Md_callers_87 : decode b_Md_callers 87 = .ok (.aload_n 0, 1) := by decide +kernel
theorem d_Md_callers_88 : decode b_Md_callers 88 = .ok (.aload_n 0, 1) := by decide +kernel
theorem d_Md_callers_89 : decode b_Md_callers 89 = .ok (.getfield 59, 3) := by decide +kernel
theorem d_Md_callers_92 : decode b_Md_callers 92 = .ok (.iload 4, 2) := by decide +kernel
theorem d_Md_callers_94 : decode b_Md_callers 94 = .ok (.iaload, 1) := by decide +kernel
theorem d_Md_callers_95 : decode b_Md_callers 95 = .ok (.putfield 201, 3) := by decide +kernel
theorem d_Md_callers_98 : decode b_Md_callers 98 = .ok (.iconst 0, 1) := by decide +kernel
theorem d_Md_callers_99 : decode b_Md_callers 99 = .ok (.ireturn, 1) := by decide +kernel
theorem d_Md_callers_100 : decode b_Md_callers 100 = .ok (.aload_n 0, 1) := by decide +kernel
theorem d_Md_callers_101 : decode b_Md_callers 101 = .ok (.iload 4, 2) := by decide +kernel
theorem d_Md_callers_103 : decode b_Md_callers 103 = .ok (.aload_n 0, 1) := by decide +kernel
theorem d_Md_callers_104 : decode b_Md_callers 104 = .ok (.getfield 44, 3) := by decide +kernel
theorem d_Md_callers_107 : decode b_Md_callers 107 = .ok (.bipush 16, 2) := by decide +kernel
theorem d_Md_callers_109 : decode b_Md_callers 109 = .ok (.iload_n 1, 1) := by decide +kernel
theorem d_Md_callers_110 : decode b_Md_callers 110 = .ok (.iadd, 1) := by decide +kernel
theorem d_Md_callers_111 : decode b_Md_callers 111 = .ok (.iaload, 1) := by decide +kernel
theorem d_Md_callers_112 : decode b_Md_callers 112 = .ok (.iload_n 2, 1) := by decide +kernel
theorem d_Md_callers_113 : decode b_Md_callers 113 = .ok (.iload_n 3, 1) := by decide +kernel
theorem d_Md_callers_114 : decode b_Md_callers 114 = .ok (.invokevirtual 220, 3) := by decide +kernel
theorem d_Md_callers_117 : decode b_Md_callers 117 = .ok (.istore 5, 2) := by decide +kernel
theorem d_Md_callers_119 : decode b_Md_callers 119 = .ok (.iload 5, 2) := by decide +kernel
theorem d_Md_callers_121 : decode b_Md_callers 121 = .ok (.ifCond .eq 8, 3) := by decide +kernel
theorem d_Md_callers_124 : decode b_Md_callers 124 = .ok (.iload 5, 2) := by decide +kernel
theorem d_Md_callers_126 : decode b_Md_callers 126 = .ok (.goto 11, 3) := by decide +kernel
theorem d_Md_callers_129 : decode b_Md_callers 129 = .ok (.aload_n 0, 1) := by decide +kernel
theorem d_Md_callers_130 : decode b_Md_callers 130 = .ok (.aload_n 0, 1) := by decide +kernel
theorem d_Md_callers_131 : decode b_Md_callers 131 = .ok (.getfield 201, 3) := by decide +kernel
theorem d_Md_callers_134 : decode b_Md_callers 134 = .ok (.invokevirtual 217, 3) := by decide +kernel
theorem d_Md_callers_137 : decode b_Md_callers 137 = .ok (.ireturn, 1) := by decide +kernel
theorem d_Md_callers_138 : decode b_Md_callers 138 = .ok (.aload_n 0, 1) := by decide +kernel
theorem d_Md_callers_139 : decode b_Md_callers 139 = .ok (.iload 4, 2) := by decide +kernel
theorem d_Md_callers_141 : decode b_Md_callers 141 = .ok (.aload_n 0, 1) := by decide +kernel
theorem d_Md_callers_142 : decode b_Md_callers 142 = .ok (.getfield 44, 3) := by decide +kernel
theorem d_Md_callers_145 : decode b_Md_callers 145 = .ok (.bipush 16, 2) := by decide +kernel
theorem d_Md_callers_147 : decode b_Md_callers 147 = .ok (.iload_n 1, 1) := by decide +kernel
theorem d_Md_callers_148 : decode b_Md_callers 148 = .ok (.iadd, 1) := by decide +kernel
theorem d_Md_callers_149 : decode b_Md_callers 149 = .ok (.iaload, 1) := by decide +kernel
theorem d_Md_callers_150 : decode b_Md_callers 150 = .ok (.iload_n 2, 1) := by decide +kernel
theorem d_Md_callers_151 : decode b_Md_callers 151 = .ok (.iload_n 3, 1) := by decide +kernel
theorem d_Md_callers_152 : decode b_Md_callers 152 = .ok (.invokevirtual 220, 3) := by decide +kernel
theorem d_Md_callers_155 : decode b_Md_callers 155 = .ok (.ireturn, 1) := by decide +kernel
theorem d_Md_callers_156 : decode b_Md_callers 156 = .ok (.aload_n 0, 1) := by decide +kernel
theorem d_Md_callers_157 : decode b_Md_callers 157 = .ok (.iconst 0, 1) := by decide +kernel
theorem d_Md_callers_158 : decode b_Md_callers 158 = .ok (.putfield 201, 3) := by decide +kernel
theorem d_Md_callers_161 : decode b_Md_callers 161 = .ok (.iconst 0, 1) := by decide +kernel
theorem d_Md_callers_162 : decode b_Md_callers 162 = .ok (.ireturn, 1) := by decide +kernel
theorem d_Md_isKnownThen_0 : decode b_Md_isKnownThen 0 = .ok (.aload_n 0, 1) := by decide +kernel
theorem d_Md_isKnownThen_1 : decode b_Md_isKnownThen 1 = .ok (.getfield 44, 3) := by decide +kernel
theorem d_Md_isKnownThen_4 : decode b_Md_isKnownThen 4 = .ok (.iload_n 1, 1) := by decide +kernel
theorem d_Md_isKnownThen_5 : decode b_Md_isKnownThen 5 = .ok (.iaload, 1) := by decide +kernel
theorem d_Md_isKnownThen_6 : decode b_Md_isKnownThen 6 = .ok (.ifCond .ne 5, 3) := by decide +kernel
theorem d_Md_isKnownThen_9 : decode b_Md_isKnownThen 9 = .ok (.iconst 0, 1) := by decide +kernel
theorem d_Md_isKnownThen_10 : decode b_Md_isKnownThen 10 = .ok (.ireturn, 1) := by decide +kernel
theorem d_Md_isKnownThen_11 : decode b_Md_isKnownThen 11 = .ok (.aload_n 0, 1) := by decide +kernel
theorem d_Md_isKnownThen_12 : decode b_Md_isKnownThen 12 = .ok (.getfield 44, 3) := by decide +kernel
theorem d_Md_isKnownThen_15 : decode b_Md_isKnownThen 15 = .ok (.iload_n 1, 1) := by decide +kernel
theorem d_Md_isKnownThen_16 : decode b_Md_isKnownThen 16 = .ok (.iaload, 1) := by decide +kernel
theorem d_Md_isKnownThen_17 : decode b_Md_isKnownThen 17 = .ok (.iconst 1, 1) := by decide +kernel
theorem d_Md_isKnownThen_18 : decode b_Md_isKnownThen 18 = .ok (.if_icmp .ne 21, 3) := by decide +kernel
theorem d_Md_isKnownThen_21 : decode b_Md_isKnownThen 21 = .ok (.aload_n 0, 1) := by decide +kernel
theorem d_Md_isKnownThen_22 : decode b_Md_isKnownThen 22 = .ok (.getfield 62, 3) := by decide +kernel
theorem d_Md_isKnownThen_25 : decode b_Md_isKnownThen 25 = .ok (.iload_n 1, 1) := by decide +kernel
theorem d_Md_isKnownThen_26 : decode b_Md_isKnownThen 26 = .ok (.ishr, 1) := by decide +kernel
theorem d_Md_isKnownThen_27 : decode b_Md_isKnownThen 27 = .ok (.iconst 1, 1) := by decide +kernel
theorem d_Md_isKnownThen_28 : decode b_Md_isKnownThen 28 = .ok (.iand, 1) := by decide +kernel
theorem d_Md_isKnownThen_29 : decode b_Md_isKnownThen 29 = .ok (.iconst 1, 1) := by decide +kernel
theorem d_Md_isKnownThen_30 : decode b_Md_isKnownThen 30 = .ok (.if_icmp .ne 7, 3) := by decide +kernel
theorem d_Md_isKnownThen_33 : decode b_Md_isKnownThen 33 = .ok (.iconst 1, 1) := by decide +kernel
theorem d_Md_isKnownThen_34 : decode b_Md_isKnownThen 34 = .ok (.goto 4, 3) := by decide +kernel
theorem d_Md_isKnownThen_37 : decode b_Md_isKnownThen 37 = .ok (.iconst 0, 1) := by decide +kernel
theorem d_Md_isKnownThen_38 : decode b_Md_isKnownThen 38 = .ok (.ireturn, 1) := by decide +kernel
theorem d_Md_isKnownThen_39 : decode b_Md_isKnownThen 39 = .ok (.aload_n 0, 1) := by decide +kernel
theorem d_Md_isKnownThen_40 : decode b_Md_isKnownThen 40 = .ok (.getfield 44, 3) := by decide +kernel
theorem d_Md_isKnownThen_43 : decode b_Md_isKnownThen 43 = .ok (.iload_n 1, 1) := by decide +kernel
theorem d_Md_isKnownThen_44 : decode b_Md_isKnownThen 44 = .ok (.iaload, 1) := by decide +kernel
theorem d_Md_isKnownThen_45 : decode b_Md_isKnownThen 45 = .ok (.iconst 4, 1) := by decide +kernel
theorem d_Md_isKnownThen_46 : decode b_Md_isKnownThen 46 = .ok (.if_icmp .ne 23, 3) := by decide +kernel
theorem d_Md_isKnownThen_49 : decode b_Md_isKnownThen 49 = .ok (.aload_n 0, 1) := by decide +kernel
theorem d_Md_isKnownThen_50 : decode b_Md_isKnownThen 50 = .ok (.getfield 62, 3) := by decide +kernel
theorem d_Md_isKnownThen_53 : decode b_Md_isKnownThen 53 = .ok (.aload_n 0, 1) := by decide +kernel
theorem d_Md_isKnownThen_54 : decode b_Md_isKnownThen 54 = .ok (.getfield 44, 3) := by decide +kernel
theorem d_Md_isKnownThen_57 : decode b_Md_isKnownThen 57 = .ok (.bipush 8, 2) := by decide +kernel
theorem d_Md_isKnownThen_59 : decode b_Md_isKnownThen 59 = .ok (.iload_n 1, 1) := by decide +kernel
theorem d_Md_isKnownThen_60 : decode b_Md_isKnownThen 60 = .ok (.iadd, 1) := by decide +kernel
theorem d_Md_isKnownThen_61 : decode b_Md_isKnownThen 61 = .ok (.iaload, 1) := by decide +kernel
theorem d_Md_isKnownThen_62 : decode b_Md_isKnownThen 62 = .ok (.ishr, 1) := by decide +kernel
theorem d_Md_isKnownThen_63 : decode b_Md_isKnownThen 63 = .ok (.iconst 1, 1) := by decide +kernel
theorem d_Md_isKnownThen_64 : decode b_Md_isKnownThen 64 = .ok (.iand, 1) := by decide +kernel
theorem d_Md_isKnownThen_65 : decode b_Md_isKnownThen 65 = .ok (.iconst 1, 1) := by decide +kernel
theorem d_Md_isKnownThen_66 : decode b_Md_isKnownThen 66 = .ok (.if_icmp .ne 7, 3) := by decide +kernel
theorem d_Md_isKnownThen_69 : decode b_Md_isKnownThen 69 = .ok (.iconst 1, 1) := by decide +kernel
theorem d_Md_isKnownThen_70 : decode b_Md_isKnownThen 70 = .ok (.goto 4, 3) := by decide +kernel
theorem d_Md_isKnownThen_73 : decode b_Md_isKnownThen 73 = .ok (.iconst 0, 1) := by decide +kernel
theorem d_Md_isKnownThen_74 : decode b_Md_isKnownThen 74 = .ok (.ireturn, 1) := by decide +kernel
