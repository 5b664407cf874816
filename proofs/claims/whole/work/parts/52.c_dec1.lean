theorem d_Lw_law_23 : decode b_Lw_law 23 = .ok (.iload 4, 2) := by decide +kernel
theorem d_Lw_law_25 : decode b_Lw_law 25 = .ok (.aload_n 0, 1) := by decide +kernel
theorem d_Lw_law_26 : decode b_Lw_law 26 = .ok (.arraylength, 1) := by decide +kernel
theorem d_Lw_law_27 : decode b_Lw_law 27 = .ok (.iconst 4, 1) := by decide +kernel
theorem d_Lw_law_28 : decode b_Lw_law 28 = .ok (.isub, 1) := by decide +kernel
theorem d_Lw_law_29 : decode b_Lw_law 29 = .ok (.if_icmp .gt 731, 3) := by decide +kernel
theorem d_Lw_law_32 : decode b_Lw_law 32 = .ok (.aload_n 0, 1) := by decide +kernel
theorem d_Lw_law_33 : decode b_Lw_law 33 = .ok (.iload 4, 2) := by decide +kernel
theorem d_Lw_law_35 : decode b_Lw_law 35 = .ok (.iaload, 1) := by decide +kernel
theorem d_Lw_law_36 : decode b_Lw_law 36 = .ok (.bipush 15, 2) := by decide +kernel
theorem d_Lw_law_38 : decode b_Lw_law 38 = .ok (.iand, 1) := by decide +kernel
theorem d_Lw_law_39 : decode b_Lw_law 39 = .ok (.tableswitch 715 0 13 #[69, 125, 161, 229, 242, 255, 311, 391, 439, 487, 510, 590, 603, 659], 69) := by decide +kernel
theorem d_Lw_law_108 : decode b_Lw_law 108 = .ok (.aload_n 1, 1) := by decide +kernel
theorem d_Lw_law_109 : decode b_Lw_law 109 = .ok (.aload_n 0, 1) := by decide +kernel
theorem d_Lw_law_110 : decode b_Lw_law 110 = .ok (.iload 4, 2) := by decide +kernel
theorem d_Lw_law_112 : decode b_Lw_law 112 = .ok (.iconst 1, 1) := by decide +kernel
theorem d_Lw_law_113 : decode b_Lw_law 113 = .ok (.iadd, 1) := by decide +kernel
theorem d_Lw_law_114 : decode b_Lw_law 114 = .ok (.iaload, 1) := by decide +kernel
theorem d_Lw_law_115 : decode b_Lw_law 115 = .ok (.aload_n 3, 1) := by decide +kernel
theorem d_Lw_law_116 : decode b_Lw_law 116 = .ok (.invokestatic 58, 3) := by decide +kernel
theorem d_Lw_law_119 : decode b_Lw_law 119 = .ok (.istore 5, 2) := by decide +kernel
theorem d_Lw_law_121 : decode b_Lw_law 121 = .ok (.aload_n 2, 1) := by decide +kernel
theorem d_Lw_law_122 : decode b_Lw_law 122 = .ok (.aload_n 0, 1) := by decide +kernel
theorem d_Lw_law_123 : decode b_Lw_law 123 = .ok (.iload 4, 2) := by decide +kernel
theorem d_Lw_law_125 : decode b_Lw_law 125 = .ok (.iconst 1, 1) := by decide +kernel
theorem d_Lw_law_126 : decode b_Lw_law 126 = .ok (.iadd, 1) := by decide +kernel
theorem d_Lw_law_127 : decode b_Lw_law 127 = .ok (.iaload, 1) := by decide +kernel
theorem d_Lw_law_128 : decode b_Lw_law 128 = .ok (.invokevirtual 63, 3) := by decide +kernel
theorem d_Lw_law_131 : decode b_Lw_law 131 = .ok (.istore 6, 2) := by decide +kernel
theorem d_Lw_law_133 : decode b_Lw_law 133 = .ok (.aload_n 2, 1) := by decide +kernel
theorem d_Lw_law_134 : decode b_Lw_law 134 = .ok (.invokevirtual 64, 3) := by decide +kernel
theorem d_Lw_law_137 : decode b_Lw_law 137 = .ok (.iload 5, 2) := by decide +kernel
theorem d_Lw_law_139 : decode b_Lw_law 139 = .ok (.if_icmp .eq 5, 3) := by decide +kernel
theorem d_Lw_law_142 : decode b_Lw_law 142 = .ok (.iconst 0, 1) := by decide +kernel
theorem d_Lw_law_143 : decode b_Lw_law 143 = .ok (.ireturn, 1) := by decide +kernel
theorem d_Lw_law_144 : decode b_Lw_law 144 = .ok (.iload 5, 2) := by decide +kernel
theorem d_Lw_law_146 : decode b_Lw_law 146 = .ok (.ifCond .ne 15, 3) := by decide +kernel
theorem d_Lw_law_149 : decode b_Lw_law 149 = .ok (.aload_n 3, 1) := by decide +kernel
theorem d_Lw_law_150 : decode b_Lw_law 150 = .ok (.iconst 0, 1) := by decide +kernel
theorem d_Lw_law_151 : decode b_Lw_law 151 = .ok (.laload, 1) := by decide +kernel
theorem d_Lw_law_152 : decode b_Lw_law 152 = .ok (.iload 6, 2) := by decide +kernel
theorem d_Lw_law_154 : decode b_Lw_law 154 = .ok (.i2l, 1) := by decide +kernel
theorem d_Lw_law_155 : decode b_Lw_law 155 = .ok (.lcmp, 1) := by decide +kernel
theorem d_Lw_law_156 : decode b_Lw_law 156 = .ok (.ifCond .eq 5, 3) := by decide +kernel
theorem d_Lw_law_159 : decode b_Lw_law 159 = .ok (.iconst 0, 1) := by decide +kernel
theorem d_Lw_law_160 : decode b_Lw_law 160 = .ok (.ireturn, 1) := by decide +kernel
theorem d_Lw_law_161 : decode b_Lw_law 161 = .ok (.goto 593, 3) := by decide +kernel
theorem d_Lw_law_164 : decode b_Lw_law 164 = .ok (.aload_n 1, 1) := by decide +kernel
theorem d_Lw_law_165 : decode b_Lw_law 165 = .ok (.aload_n 0, 1) := by decide +kernel
theorem d_Lw_law_166 : decode b_Lw_law 166 = .ok (.iload 4, 2) := by decide +kernel
theorem d_Lw_law_168 : decode b_Lw_law 168 = .ok (.iconst 1, 1) := by decide +kernel
theorem d_Lw_law_169 : decode b_Lw_law 169 = .ok (.iadd, 1) := by decide +kernel
theorem d_Lw_law_170 : decode b_Lw_law 170 = .ok (.iaload, 1) := by decide +kernel
theorem d_Lw_law_171 : decode b_Lw_law 171 = .ok (.invokestatic 68, 3) := by decide +kernel
theorem d_Lw_law_174 : decode b_Lw_law 174 = .ok (.istore 5, 2) := by decide +kernel
theorem d_Lw_law_176 : decode b_Lw_law 176 = .ok (.aload_n 2, 1) := by decide +kernel
theorem d_Lw_law_177 : decode b_Lw_law 177 = .ok (.aload_n 0, 1) := by decide +kernel
theorem d_Lw_law_178 : decode b_Lw_law 178 = .ok (.iload 4, 2) := by decide +kernel
theorem d_Lw_law_180 : decode b_Lw_law 180 = .ok (.iconst 1, 1) := by decide +kernel
theorem d_Lw_law_181 : decode b_Lw_law 181 = .ok (.iadd, 1) := by decide +kernel
