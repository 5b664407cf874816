theorem d_Md_registerInstruction_0 : decode b_Md_registerInstruction 0 = .ok (.iload_n 1, 1) := by decide +kernel
theorem d_Md_registerInstruction_1 : decode b_Md_registerInstruction 1 = .ok (.iconst 5, 1) := by decide +kernel
theorem d_Md_registerInstruction_2 : decode b_Md_registerInstruction 2 = .ok (.bipush 9, 2) := by decide +kernel
theorem d_Md_registerInstruction_4 : decode b_Md_registerInstruction 4 = .ok (.invokestatic 75, 3) := by decide +kernel
theorem d_Md_registerInstruction_7 : decode b_Md_registerInstruction 7 = .ok (.ifCond .ne 31, 3) := by decide +kernel
theorem d_Md_registerInstruction_10 : decode b_Md_registerInstruction 10 = .ok (.iload_n 1, 1) := by decide +kernel
theorem d_Md_registerInstruction_11 : decode b_Md_registerInstruction 11 = .ok (.bipush 16, 2) := by decide +kernel
theorem d_Md_registerInstruction_13 : decode b_Md_registerInstruction 13 = .ok (.bipush 17, 2) := by decide +kernel
theorem d_Md_registerInstruction_15 : decode b_Md_registerInstruction 15 = .ok (.invokestatic 75, 3) := by decide +kernel
theorem d_Md_registerInstruction_18 : decode b_Md_registerInstruction 18 = .ok (.ifCond .ne 20, 3) := by decide +kernel
theorem d_Md_registerInstruction_21 : decode b_Md_registerInstruction 21 = .ok (.iload_n 1, 1) := by decide +kernel
theorem d_Md_registerInstruction_22 : decode b_Md_registerInstruction 22 = .ok (.bipush 20, 2) := by decide +kernel
theorem d_Md_registerInstruction_24 : decode b_Md_registerInstruction 24 = .ok (.bipush 22, 2) := by decide +kernel
theorem d_Md_registerInstruction_26 : decode b_Md_registerInstruction 26 = .ok (.invokestatic 75, 3) := by decide +kernel
theorem d_Md_registerInstruction_29 : decode b_Md_registerInstruction 29 = .ok (.ifCond .ne 9, 3) := by decide +kernel
theorem d_Md_registerInstruction_32 : decode b_Md_registerInstruction 32 = .ok (.aload_n 0, 1) := by decide +kernel
theorem d_Md_registerInstruction_33 : decode b_Md_registerInstruction 33 = .ok (.iconst 1, 1) := by decide +kernel
theorem d_Md_registerInstruction_34 : decode b_Md_registerInstruction 34 = .ok (.putfield 85, 3) := by decide +kernel
theorem d_Md_registerInstruction_37 : decode b_Md_registerInstruction 37 = .ok (.return_, 1) := by decide +kernel
theorem d_Md_registerInstruction_38 : decode b_Md_registerInstruction 38 = .ok (.aload_n 0, 1) := by decide +kernel
theorem d_Md_registerInstruction_39 : decode b_Md_registerInstruction 39 = .ok (.invokevirtual 117, 3) := by decide +kernel
theorem d_Md_registerInstruction_42 : decode b_Md_registerInstruction 42 = .ok (.istore_n 3, 1) := by decide +kernel
theorem d_Md_registerInstruction_43 : decode b_Md_registerInstruction 43 = .ok (.iload_n 1, 1) := by decide +kernel
theorem d_Md_registerInstruction_44 : decode b_Md_registerInstruction 44 = .ok (.bipush 7, 2) := by decide +kernel
theorem d_Md_registerInstruction_46 : decode b_Md_registerInstruction 46 = .ok (.if_icmp .eq 9, 3) := by decide +kernel
theorem d_Md_registerInstruction_49 : decode b_Md_registerInstruction 49 = .ok (.iload_n 1, 1) := by decide +kernel
theorem d_Md_registerInstruction_50 : decode b_Md_registerInstruction 50 = .ok (.bipush 8, 2) := by decide +kernel
theorem d_Md_registerInstruction_52 : decode b_Md_registerInstruction 52 = .ok (.if_icmp .ne 14, 3) := by decide +kernel
theorem d_Md_registerInstruction_55 : decode b_Md_registerInstruction 55 = .ok (.aload_n 0, 1) := by decide +kernel
theorem d_Md_registerInstruction_56 : decode b_Md_registerInstruction 56 = .ok (.iload_n 3, 1) := by decide +kernel
theorem d_Md_registerInstruction_57 : decode b_Md_registerInstruction 57 = .ok (.iload_n 1, 1) := by decide +kernel
theorem d_Md_registerInstruction_58 : decode b_Md_registerInstruction 58 = .ok (.bipush 7, 2) := by decide +kernel
theorem d_Md_registerInstruction_60 : decode b_Md_registerInstruction 60 = .ok (.isub, 1) := by decide +kernel
theorem d_Md_registerInstruction_61 : decode b_Md_registerInstruction 61 = .ok (.iconst 0, 1) := by decide +kernel
theorem d_Md_registerInstruction_62 : decode b_Md_registerInstruction 62 = .ok (.iconst 0, 1) := by decide +kernel
theorem d_Md_registerInstruction_63 : decode b_Md_registerInstruction 63 = .ok (.invokevirtual 93, 3) := by decide +kernel
theorem d_Md_registerInstruction_66 : decode b_Md_registerInstruction 66 = .ok (.iload_n 1, 1) := by decide +kernel
theorem d_Md_registerInstruction_67 : decode b_Md_registerInstruction 67 = .ok (.bipush 9, 2) := by decide +kernel
theorem d_Md_registerInstruction_69 : decode b_Md_registerInstruction 69 = .ok (.if_icmp .ne 14, 3) := by decide +kernel
theorem d_Md_registerInstruction_72 : decode b_Md_registerInstruction 72 = .ok (.aload_n 0, 1) := by decide +kernel
theorem d_Md_registerInstruction_73 : decode b_Md_registerInstruction 73 = .ok (.iload_n 3, 1) := by decide +kernel
theorem d_Md_registerInstruction_74 : decode b_Md_registerInstruction 74 = .ok (.iconst 4, 1) := by decide +kernel
theorem d_Md_registerInstruction_75 : decode b_Md_registerInstruction 75 = .ok (.aload_n 0, 1) := by decide +kernel
theorem d_Md_registerInstruction_76 : decode b_Md_registerInstruction 76 = .ok (.invokevirtual 117, 3) := by decide +kernel
theorem d_Md_registerInstruction_79 : decode b_Md_registerInstruction 79 = .ok (.iconst 0, 1) := by decide +kernel
theorem d_Md_registerInstruction_80 : decode b_Md_registerInstruction 80 = .ok (.invokevirtual 93, 3) := by decide +kernel
theorem d_Md_registerInstruction_83 : decode b_Md_registerInstruction 83 = .ok (.iload_n 1, 1) := by decide +kernel
theorem d_Md_registerInstruction_84 : decode b_Md_registerInstruction 84 = .ok (.iconst 5, 1) := by decide +kernel
theorem d_Md_registerInstruction_85 : decode b_Md_registerInstruction 85 = .ok (.if_icmp .eq 9, 3) := by decide +kernel
theorem d_Md_registerInstruction_88 : decode b_Md_registerInstruction 88 = .ok (.iload_n 1, 1) := by decide +kernel
theorem d_Md_registerInstruction_89 : decode b_Md_registerInstruction 89 = .ok (.bipush 17, 2) := by decide +kernel
theorem d_Md_registerInstruction_91 : decode b_Md_registerInstruction 91 = .ok (.if_icmp .ne 27, 3) := by decide +kernel
theorem d_Md_registerInstruction_94 : decode b_Md_registerInstruction 94 = .ok (.aload_n 0, 1) := by decide +kernel
theorem d_Md_registerInstruction_95 : decode b_Md_registerInstruction 95 = .ok (.iload_n 3, 1) := by decide +kernel
theorem d_Md_registerInstruction_96 : decode b_Md_registerInstruction 96 = .ok (.iconst 2, 1) := by decide +kernel
theorem d_Md_registerInstruction_97 : decode b_Md_registerInstruction 97 = .ok (.aload_n 0, 1) := by decide +kernel
theorem d_Md_registerInstruction_98 : decode b_Md_registerInstruction 98 = .ok (.iload_n 1, 1) := by decide +kernel
theorem d_Md_registerInstruction_99 : decode b_Md_registerInstruction 99 = .ok (.bipush 17, 2) := by decide +kernel
theorem d_Md_registerInstruction_101 : decode b_Md_registerInstruction 101 = .ok (.if_icmp .ne 7, 3) := by decide +kernel
theorem d_Md_registerInstruction_104 : decode b_Md_registerInstruction 104 = .ok (.iconst 1, 1) := by decide +kernel
theorem d_Md_registerInstruction_105 : decode b_Md_registerInstruction 105 = .ok (.goto 4, 3) := by decide +kernel
theorem d_Md_registerInstruction_108 : decode b_Md_registerInstruction 108 = .ok (.iconst 0, 1) := by decide +kernel
theorem d_Md_registerInstruction_109 : decode b_Md_registerInstruction 109 = .ok (.invokevirtual 97, 3) := by decide +kernel
theorem d_Md_registerInstruction_112 : decode b_Md_registerInstruction 112 = .ok (.iload_n 2, 1) := by decide +kernel
theorem d_Md_registerInstruction_113 : decode b_Md_registerInstruction 113 = .ok (.imul, 1) := by decide +kernel
theorem d_Md_registerInstruction_114 : decode b_Md_registerInstruction 114 = .ok (.iconst 0, 1) := by decide +kernel
theorem d_Md_registerInstruction_115 : decode b_Md_registerInstruction 115 = .ok (.invokevirtual 93, 3) := by decide +kernel
theorem d_Md_registerInstruction_118 : decode b_Md_registerInstruction 118 = .ok (.iload_n 1, 1) := by decide +kernel
theorem d_Md_registerInstruction_119 : decode b_Md_registerInstruction 119 = .ok (.bipush 20, 2) := by decide +kernel
theorem d_Md_registerInstruction_121 : decode b_Md_registerInstruction 121 = .ok (.if_icmp .eq 9, 3) := by decide +kernel
theorem d_Md_registerInstruction_124 : decode b_Md_registerInstruction 124 = .ok (.iload_n 1, 1) := by decide +kernel
theorem d_Md_registerInstruction_125 : decode b_Md_registerInstruction 125 = .ok (.bipush 21, 2) := by decide +kernel
theorem d_Md_registerInstruction_127 : decode b_Md_registerInstruction 127 = .ok (.if_icmp .ne 27, 3) := by decide +kernel
theorem d_Md_registerInstruction_130 : decode b_Md_registerInstruction 130 = .ok (.aload_n 0, 1) := by decide +kernel
theorem d_Md_registerInstruction_131 : decode b_Md_registerInstruction 131 = .ok (.iload_n 3, 1) := by decide +kernel
theorem d_Md_registerInstruction_132 : decode b_Md_registerInstruction 132 = .ok (.iconst 3, 1) := by decide +kernel
theorem d_Md_registerInstruction_133 : decode b_Md_registerInstruction 133 = .ok (.aload_n 0, 1) := by decide +kernel
theorem d_Md_registerInstruction_134 : decode b_Md_registerInstruction 134 = .ok (.iload_n 1, 1) := by decide +kernel
theorem d_Md_registerInstruction_135 : decode b_Md_registerInstruction 135 = .ok (.bipush 21, 2) := by decide +kernel
theorem d_Md_registerInstruction_137 : decode b_Md_registerInstruction 137 = .ok (.if_icmp .ne 7, 3) := by decide +kernel
theorem d_Md_registerInstruction_140 : decode b_Md_registerInstruction 140 = .ok (.iconst 1, 1) := by decide +kernel
theorem d_Md_registerInstruction_141 : decode b_Md_registerInstruction 141 = .ok (.goto 4, 3) := by decide +kernel
theorem d_Md_registerInstruction_144 : decode b_Md_registerInstruction 144 = .ok (.iconst 0, 1) := by decide +kernel
theorem d_Md_registerInstruction_145 : decode b_Md_registerInstruction 145 = .ok (.invokevirtual 97, 3) := by decide +kernel
theorem d_Md_registerInstruction_148 : decode b_Md_registerInstruction 148 = .ok (.iload_n 2, 1) := by decide +kernel
theorem d_Md_registerInstruction_149 : decode b_Md_registerInstruction 149 = .ok (.imul, 1) := by decide +kernel
theorem d_Md_registerInstruction_150 : decode b_Md_registerInstruction 150 = .ok (.iconst 0, 1) := by decide +kernel
theorem d_Md_registerInstruction_151 : decode b_Md_registerInstruction 151 = .ok (.invokevirtual 93, 3) := by decide +kernel
theorem d_Md_registerInstruction_154 : decode b_Md_registerInstruction 154 = .ok (.iload_n 1, 1) := by decide +kernel
theorem d_Md_registerInstruction_155 : decode b_Md_registerInstruction 155 = .ok (.bipush 16, 2) := by decide +kernel
theorem d_Md_registerInstruction_157 : decode b_Md_registerInstruction 157 = .ok (.if_icmp .eq 10, 3) := by decide +kernel
theorem d_Md_registerInstruction_160 : decode b_Md_registerInstruction 160 = .ok (.iload_n 1, 1) := by decide +kernel
theorem d_Md_registerInstruction_161 : decode b_Md_registerInstruction 161 = .ok (.bipush 22, 2) := by decide +kernel
theorem d_Md_registerInstruction_163 : decode b_Md_registerInstruction 163 = .ok (.if_icmp .eq 4, 3) := by decide +kernel
theorem d_Md_registerInstruction_166 : decode b_Md_registerInstruction 166 = .ok (.return_, 1) := by decide +kernel
theorem d_Md_registerInstruction_167 : decode b_Md_registerInstruction 167 = .ok (.aload_n 0, 1) := by decide +kernel
theorem d_Md_registerInstruction_168 : decode b_Md_registerInstruction 168 = .ok (.iconst 0, 1) := by decide +kernel
theorem d_Md_registerInstruction_169 : decode b_Md_registerInstruction 169 = .ok (.invokevirtual 97, 3) := by decide +kernel
theorem d_Md_registerInstruction_172 : decode b_Md_registerInstruction 172 = .ok (.istore 4, 2) := by decide +kernel
theorem d_Md_registerInstruction_174 : decode b_Md_registerInstruction 174 = .ok (.aload_n 0, 1) := by decide +kernel
theorem d_Md_registerInstruction_175 : decode b_Md_registerInstruction 175 = .ok (.iload 4, 2) := by decide +kernel
theorem d_Md_registerInstruction_177 : decode b_Md_registerInstruction 177 = .ok (.invokevirtual 132, 3) := by decide +kernel
theorem d_Md_registerInstruction_180 : decode b_Md_registerInstruction 180 = .ok (.istore 5, 2) := by decide +kernel
theorem d_Md_registerInstruction_182 : decode b_Md_registerInstruction 182 = .ok (.aload_n 0, 1) := by decide +kernel
theorem d_Md_registerInstruction_183 : decode b_Md_registerInstruction 183 = .ok (.iload_n 3, 1) := by decide +kernel
theorem d_Md_registerInstruction_184 : decode b_Md_registerInstruction 184 = .ok (.iload_n 1, 1) := by decide +kernel
theorem d_Md_registerInstruction_185 : decode b_Md_registerInstruction 185 = .ok (.bipush 16, 2) := by decide +kernel
theorem d_Md_registerInstruction_187 : decode b_Md_registerInstruction 187 = .ok (.if_icmp .ne 7, 3) := by decide +kernel
theorem d_Md_registerInstruction_190 : decode b_Md_registerInstruction 190 = .ok (.iconst 5, 1) := by decide +kernel
theorem d_Md_registerInstruction_191 : decode b_Md_registerInstruction 191 = .ok (.goto 5, 3) := by decide +kernel
theorem d_Md_registerInstruction_194 : decode b_Md_registerInstruction 194 = .ok (.bipush 6, 2) := by decide +kernel
theorem d_Md_registerInstruction_196 : decode b_Md_registerInstruction 196 = .ok (.iload 5, 2) := by decide +kernel
theorem d_Md_registerInstruction_198 : decode b_Md_registerInstruction 198 = .ok (.iload 4, 2) := by decide +kernel
theorem d_Md_registerInstruction_200 : decode b_Md_registerInstruction 200 = .ok (.invokevirtual 93, 3) := by decide +kernel
theorem d_Md_registerInstruction_203 : decode b_Md_registerInstruction 203 = .ok (.return_, 1) := by decide +kernel
