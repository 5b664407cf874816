theorem d_Md_cfaInstruction_0 : decode b_Md_cfaInstruction 0 = .ok (.aload_n 0, 1) := by decide +kernel
theorem d_Md_cfaInstruction_1 : decode b_Md_cfaInstruction 1 = .ok (.getfield 44, 3) := by decide +kernel
theorem d_Md_cfaInstruction_4 : decode b_Md_cfaInstruction 4 = .ok (.bipush 24, 2) := by decide +kernel
theorem d_Md_cfaInstruction_6 : decode b_Md_cfaInstruction 6 = .ok (.iaload, 1) := by decide +kernel
theorem d_Md_cfaInstruction_7 : decode b_Md_cfaInstruction 7 = .ok (.iconst 1, 1) := by decide +kernel
theorem d_Md_cfaInstruction_8 : decode b_Md_cfaInstruction 8 = .ok (.if_icmp .ne 7, 3) := by decide +kernel
theorem d_Md_cfaInstruction_11 : decode b_Md_cfaInstruction 11 = .ok (.iconst 1, 1) := by decide +kernel
theorem d_Md_cfaInstruction_12 : decode b_Md_cfaInstruction 12 = .ok (.goto 4, 3) := by decide +kernel
theorem d_Md_cfaInstruction_15 : decode b_Md_cfaInstruction 15 = .ok (.iconst 0, 1) := by decide +kernel
theorem d_Md_cfaInstruction_16 : decode b_Md_cfaInstruction 16 = .ok (.istore_n 3, 1) := by decide +kernel
theorem d_Md_cfaInstruction_17 : decode b_Md_cfaInstruction 17 = .ok (.iload_n 1, 1) := by decide +kernel
theorem d_Md_cfaInstruction_18 : decode b_Md_cfaInstruction 18 = .ok (.bipush 12, 2) := by decide +kernel
theorem d_Md_cfaInstruction_20 : decode b_Md_cfaInstruction 20 = .ok (.if_icmp .eq 9, 3) := by decide +kernel
theorem d_Md_cfaInstruction_23 : decode b_Md_cfaInstruction 23 = .ok (.iload_n 1, 1) := by decide +kernel
theorem d_Md_cfaInstruction_24 : decode b_Md_cfaInstruction 24 = .ok (.bipush 18, 2) := by decide +kernel
theorem d_Md_cfaInstruction_26 : decode b_Md_cfaInstruction 26 = .ok (.if_icmp .ne 44, 3) := by decide +kernel
theorem d_Md_cfaInstruction_29 : decode b_Md_cfaInstruction 29 = .ok (.aload_n 0, 1) := by decide +kernel
theorem d_Md_cfaInstruction_30 : decode b_Md_cfaInstruction 30 = .ok (.invokevirtual 117, 3) := by decide +kernel
theorem d_Md_cfaInstruction_33 : decode b_Md_cfaInstruction 33 = .ok (.istore 4, 2) := by decide +kernel
theorem d_Md_cfaInstruction_35 : decode b_Md_cfaInstruction 35 = .ok (.iload_n 1, 1) := by decide +kernel
theorem d_Md_cfaInstruction_36 : decode b_Md_cfaInstruction 36 = .ok (.bipush 12, 2) := by decide +kernel
theorem d_Md_cfaInstruction_38 : decode b_Md_cfaInstruction 38 = .ok (.if_icmp .ne 11, 3) := by decide +kernel
theorem d_Md_cfaInstruction_41 : decode b_Md_cfaInstruction 41 = .ok (.aload_n 0, 1) := by decide +kernel
theorem d_Md_cfaInstruction_42 : decode b_Md_cfaInstruction 42 = .ok (.iconst 0, 1) := by decide +kernel
theorem d_Md_cfaInstruction_43 : decode b_Md_cfaInstruction 43 = .ok (.invokevirtual 97, 3) := by decide +kernel
theorem d_Md_cfaInstruction_46 : decode b_Md_cfaInstruction 46 = .ok (.goto 10, 3) := by decide +kernel
theorem d_Md_cfaInstruction_49 : decode b_Md_cfaInstruction 49 = .ok (.aload_n 0, 1) := by decide +kernel
theorem d_Md_cfaInstruction_50 : decode b_Md_cfaInstruction 50 = .ok (.iconst 1, 1) := by decide +kernel
theorem d_Md_cfaInstruction_51 : decode b_Md_cfaInstruction 51 = .ok (.invokevirtual 97, 3) := by decide +kernel
theorem d_Md_cfaInstruction_54 : decode b_Md_cfaInstruction 54 = .ok (.iload_n 2, 1) := by decide +kernel
theorem d_Md_cfaInstruction_55 : decode b_Md_cfaInstruction 55 = .ok (.imul, 1) := by decide +kernel
theorem d_Md_cfaInstruction_56 : decode b_Md_cfaInstruction 56 = .ok (.istore 5, 2) := by decide +kernel
theorem d_Md_cfaInstruction_58 : decode b_Md_cfaInstruction 58 = .ok (.aload_n 0, 1) := by decide +kernel
theorem d_Md_cfaInstruction_59 : decode b_Md_cfaInstruction 59 = .ok (.iconst 1, 1) := by decide +kernel
theorem d_Md_cfaInstruction_60 : decode b_Md_cfaInstruction 60 = .ok (.iload 5, 2) := by decide +kernel
theorem d_Md_cfaInstruction_62 : decode b_Md_cfaInstruction 62 = .ok (.iload 4, 2) := by decide +kernel
theorem d_Md_cfaInstruction_64 : decode b_Md_cfaInstruction 64 = .ok (.invokevirtual 128, 3) := by decide +kernel
theorem d_Md_cfaInstruction_67 : decode b_Md_cfaInstruction 67 = .ok (.goto 118, 3) := by decide +kernel
theorem d_Md_cfaInstruction_70 : decode b_Md_cfaInstruction 70 = .ok (.iload_n 1, 1) := by decide +kernel
theorem d_Md_cfaInstruction_71 : decode b_Md_cfaInstruction 71 = .ok (.bipush 13, 2) := by decide +kernel
theorem d_Md_cfaInstruction_73 : decode b_Md_cfaInstruction 73 = .ok (.if_icmp .ne 34, 3) := by decide +kernel
theorem d_Md_cfaInstruction_76 : decode b_Md_cfaInstruction 76 = .ok (.aload_n 0, 1) := by decide +kernel
theorem d_Md_cfaInstruction_77 : decode b_Md_cfaInstruction 77 = .ok (.invokevirtual 117, 3) := by decide +kernel
theorem d_Md_cfaInstruction_80 : decode b_Md_cfaInstruction 80 = .ok (.istore 4, 2) := by decide +kernel
theorem d_Md_cfaInstruction_82 : decode b_Md_cfaInstruction 82 = .ok (.aload_n 0, 1) := by decide +kernel
theorem d_Md_cfaInstruction_83 : decode b_Md_cfaInstruction 83 = .ok (.iconst 1, 1) := by decide +kernel
theorem d_Md_cfaInstruction_84 : decode b_Md_cfaInstruction 84 = .ok (.iload_n 3, 1) := by decide +kernel
theorem d_Md_cfaInstruction_85 : decode b_Md_cfaInstruction 85 = .ok (.ifCond .eq 13, 3) := by decide +kernel
theorem d_Md_cfaInstruction_88 : decode b_Md_cfaInstruction 88 = .ok (.aload_n 0, 1) := by decide +kernel
theorem d_Md_cfaInstruction_89 : decode b_Md_cfaInstruction 89 = .ok (.getfield 44, 3) := by decide +kernel
theorem d_Md_cfaInstruction_92 : decode b_Md_cfaInstruction 92 = .ok (.bipush 25, 2) := by decide +kernel
theorem d_Md_cfaInstruction_94 : decode b_Md_cfaInstruction 94 = .ok (.iaload, 1) := by decide +kernel
theorem d_Md_cfaInstruction_95 : decode b_Md_cfaInstruction 95 = .ok (.goto 4, 3) := by decide +kernel
theorem d_Md_cfaInstruction_98 : decode b_Md_cfaInstruction 98 = .ok (.iconst 0, 1) := by decide +kernel
theorem d_Md_cfaInstruction_99 : decode b_Md_cfaInstruction 99 = .ok (.iload 4, 2) := by decide +kernel
theorem d_Md_cfaInstruction_101 : decode b_Md_cfaInstruction 101 = .ok (.invokevirtual 128, 3) := by decide +kernel
theorem d_Md_cfaInstruction_104 : decode b_Md_cfaInstruction 104 = .ok (.goto 81, 3) := by decide +kernel
theorem d_Md_cfaInstruction_107 : decode b_Md_cfaInstruction 107 = .ok (.iload_n 1, 1) := by decide +kernel
theorem d_Md_cfaInstruction_108 : decode b_Md_cfaInstruction 108 = .ok (.bipush 15, 2) := by decide +kernel
theorem d_Md_cfaInstruction_110 : decode b_Md_cfaInstruction 110 = .ok (.if_icmp .ne 30, 3) := by decide +kernel
theorem d_Md_cfaInstruction_113 : decode b_Md_cfaInstruction 113 = .ok (.aload_n 0, 1) := by decide +kernel
theorem d_Md_cfaInstruction_114 : decode b_Md_cfaInstruction 114 = .ok (.iconst 0, 1) := by decide +kernel
theorem d_Md_cfaInstruction_115 : decode b_Md_cfaInstruction 115 = .ok (.invokevirtual 97, 3) := by decide +kernel
theorem d_Md_cfaInstruction_118 : decode b_Md_cfaInstruction 118 = .ok (.istore 4, 2) := by decide +kernel
theorem d_Md_cfaInstruction_120 : decode b_Md_cfaInstruction 120 = .ok (.aload_n 0, 1) := by decide +kernel
theorem d_Md_cfaInstruction_121 : decode b_Md_cfaInstruction 121 = .ok (.iload 4, 2) := by decide +kernel
theorem d_Md_cfaInstruction_123 : decode b_Md_cfaInstruction 123 = .ok (.invokevirtual 132, 3) := by decide +kernel
theorem d_Md_cfaInstruction_126 : decode b_Md_cfaInstruction 126 = .ok (.istore 5, 2) := by decide +kernel
theorem d_Md_cfaInstruction_128 : decode b_Md_cfaInstruction 128 = .ok (.aload_n 0, 1) := by decide +kernel
theorem d_Md_cfaInstruction_129 : decode b_Md_cfaInstruction 129 = .ok (.iconst 2, 1) := by decide +kernel
theorem d_Md_cfaInstruction_130 : decode b_Md_cfaInstruction 130 = .ok (.iload 5, 2) := by decide +kernel
theorem d_Md_cfaInstruction_132 : decode b_Md_cfaInstruction 132 = .ok (.iload 4, 2) := by decide +kernel
theorem d_Md_cfaInstruction_134 : decode b_Md_cfaInstruction 134 = .ok (.invokevirtual 128, 3) := by decide +kernel
theorem d_Md_cfaInstruction_137 : decode b_Md_cfaInstruction 137 = .ok (.goto 48, 3) := by decide +kernel
theorem d_Md_cfaInstruction_140 : decode b_Md_cfaInstruction 140 = .ok (.iload_n 1, 1) := by decide +kernel
theorem d_Md_cfaInstruction_141 : decode b_Md_cfaInstruction 141 = .ok (.bipush 14, 2) := by decide +kernel
theorem d_Md_cfaInstruction_143 : decode b_Md_cfaInstruction 143 = .ok (.if_icmp .ne 11, 3) := by decide +kernel
theorem d_Md_cfaInstruction_146 : decode b_Md_cfaInstruction 146 = .ok (.aload_n 0, 1) := by decide +kernel
theorem d_Md_cfaInstruction_147 : decode b_Md_cfaInstruction 147 = .ok (.iconst 0, 1) := by decide +kernel
theorem d_Md_cfaInstruction_148 : decode b_Md_cfaInstruction 148 = .ok (.invokevirtual 97, 3) := by decide +kernel
theorem d_Md_cfaInstruction_151 : decode b_Md_cfaInstruction 151 = .ok (.goto 10, 3) := by decide +kernel
theorem d_Md_cfaInstruction_154 : decode b_Md_cfaInstruction 154 = .ok (.aload_n 0, 1) := by decide +kernel
theorem d_Md_cfaInstruction_155 : decode b_Md_cfaInstruction 155 = .ok (.iconst 1, 1) := by decide +kernel
theorem d_Md_cfaInstruction_156 : decode b_Md_cfaInstruction 156 = .ok (.invokevirtual 97, 3) := by decide +kernel
theorem d_Md_cfaInstruction_159 : decode b_Md_cfaInstruction 159 = .ok (.iload_n 2, 1) := by decide +kernel
theorem d_Md_cfaInstruction_160 : decode b_Md_cfaInstruction 160 = .ok (.imul, 1) := by decide +kernel
theorem d_Md_cfaInstruction_161 : decode b_Md_cfaInstruction 161 = .ok (.istore 4, 2) := by decide +kernel
theorem d_Md_cfaInstruction_163 : decode b_Md_cfaInstruction 163 = .ok (.aload_n 0, 1) := by decide +kernel
theorem d_Md_cfaInstruction_164 : decode b_Md_cfaInstruction 164 = .ok (.iconst 1, 1) := by decide +kernel
theorem d_Md_cfaInstruction_165 : decode b_Md_cfaInstruction 165 = .ok (.iload 4, 2) := by decide +kernel
theorem d_Md_cfaInstruction_167 : decode b_Md_cfaInstruction 167 = .ok (.iload_n 3, 1) := by decide +kernel
theorem d_Md_cfaInstruction_168 : decode b_Md_cfaInstruction 168 = .ok (.ifCond .eq 13, 3) := by decide +kernel
theorem d_Md_cfaInstruction_171 : decode b_Md_cfaInstruction 171 = .ok (.aload_n 0, 1) := by decide +kernel
theorem d_Md_cfaInstruction_172 : decode b_Md_cfaInstruction 172 = .ok (.getfield 44, 3) := by decide +kernel
theorem d_Md_cfaInstruction_175 : decode b_Md_cfaInstruction 175 = .ok (.bipush 26, 2) := by decide +kernel
theorem d_Md_cfaInstruction_177 : decode b_Md_cfaInstruction 177 = .ok (.iaload, 1) := by decide +kernel
theorem d_Md_cfaInstruction_178 : decode b_Md_cfaInstruction 178 = .ok (.goto 4, 3) := by decide +kernel
theorem d_Md_cfaInstruction_181 : decode b_Md_cfaInstruction 181 = .ok (.iconst 0, 1) := by decide +kernel
theorem d_Md_cfaInstruction_182 : decode b_Md_cfaInstruction 182 = .ok (.invokevirtual 128, 3) := by decide +kernel
theorem d_Md_cfaInstruction_185 : decode b_Md_cfaInstruction 185 = .ok (.return_, 1) := by decide +kernel
