theorem d_Md_instruction_0 : decode b_Md_instruction 0 = .ok (.aload_n 0, 1) := by decide +kernel
theorem d_Md_instruction_1 : decode b_Md_instruction 1 = .ok (.iconst 1, 1) := by decide +kernel
theorem d_Md_instruction_2 : decode b_Md_instruction 2 = .ok (.invokevirtual 89, 3) := by decide +kernel
theorem d_Md_instruction_5 : decode b_Md_instruction 5 = .ok (.istore_n 2, 1) := by decide +kernel
theorem d_Md_instruction_6 : decode b_Md_instruction 6 = .ok (.iload_n 2, 1) := by decide +kernel
theorem d_Md_instruction_7 : decode b_Md_instruction 7 = .ok (.bipush 63, 2) := by decide +kernel
theorem d_Md_instruction_9 : decode b_Md_instruction 9 = .ok (.iand, 1) := by decide +kernel
theorem d_Md_instruction_10 : decode b_Md_instruction 10 = .ok (.istore_n 3, 1) := by decide +kernel
theorem d_Md_instruction_11 : decode b_Md_instruction 11 = .ok (.aload_n 0, 1) := by decide +kernel
theorem d_Md_instruction_12 : decode b_Md_instruction 12 = .ok (.getfield 20, 3) := by decide +kernel
theorem d_Md_instruction_15 : decode b_Md_instruction 15 = .ok (.iload_n 1, 1) := by decide +kernel
theorem d_Md_instruction_16 : decode b_Md_instruction 16 = .ok (.iaload, 1) := by decide +kernel
theorem d_Md_instruction_17 : decode b_Md_instruction 17 = .ok (.istore 4, 2) := by decide +kernel
theorem d_Md_instruction_19 : decode b_Md_instruction 19 = .ok (.aload_n 0, 1) := by decide +kernel
theorem d_Md_instruction_20 : decode b_Md_instruction 20 = .ok (.getfield 16, 3) := by decide +kernel
theorem d_Md_instruction_23 : decode b_Md_instruction 23 = .ok (.iload_n 1, 1) := by decide +kernel
theorem d_Md_instruction_24 : decode b_Md_instruction 24 = .ok (.baload, 1) := by decide +kernel
theorem d_Md_instruction_25 : decode b_Md_instruction 25 = .ok (.istore 5, 2) := by decide +kernel
theorem d_Md_instruction_27 : decode b_Md_instruction 27 = .ok (.iload_n 2, 1) := by decide +kernel
theorem d_Md_instruction_28 : decode b_Md_instruction 28 = .ok (.sipush 192, 3) := by decide +kernel
theorem d_Md_instruction_31 : decode b_Md_instruction 31 = .ok (.if_icmp .lt 32, 3) := by decide +kernel
theorem d_Md_instruction_34 : decode b_Md_instruction 34 = .ok (.aload_n 0, 1) := by decide +kernel
theorem d_Md_instruction_35 : decode b_Md_instruction 35 = .ok (.aload_n 0, 1) := by decide +kernel
theorem d_Md_instruction_36 : decode b_Md_instruction 36 = .ok (.getfield 85, 3) := by decide +kernel
theorem d_Md_instruction_39 : decode b_Md_instruction 39 = .ok (.ifCond .ne 8, 3) := by decide +kernel
theorem d_Md_instruction_42 : decode b_Md_instruction 42 = .ok (.iload 5, 2) := by decide +kernel
theorem d_Md_instruction_44 : decode b_Md_instruction 44 = .ok (.ifCond .eq 7, 3) := by decide +kernel
theorem d_Md_instruction_47 : decode b_Md_instruction 47 = .ok (.iconst 1, 1) := by decide +kernel
theorem d_Md_instruction_48 : decode b_Md_instruction 48 = .ok (.goto 4, 3) := by decide +kernel
theorem d_Md_instruction_51 : decode b_Md_instruction 51 = .ok (.iconst 0, 1) := by decide +kernel
theorem d_Md_instruction_52 : decode b_Md_instruction 52 = .ok (.putfield 85, 3) := by decide +kernel
theorem d_Md_instruction_55 : decode b_Md_instruction 55 = .ok (.aload_n 0, 1) := by decide +kernel
theorem d_Md_instruction_56 : decode b_Md_instruction 56 = .ok (.iload_n 3, 1) := by decide +kernel
theorem d_Md_instruction_57 : decode b_Md_instruction 57 = .ok (.invokevirtual 104, 3) := by decide +kernel
theorem d_Md_instruction_60 : decode b_Md_instruction 60 = .ok (.goto 326, 3) := by decide +kernel
theorem d_Md_instruction_63 : decode b_Md_instruction 63 = .ok (.iload_n 2, 1) := by decide +kernel
theorem d_Md_instruction_64 : decode b_Md_instruction 64 = .ok (.sipush 128, 3) := by decide +kernel
theorem d_Md_instruction_67 : decode b_Md_instruction 67 = .ok (.if_icmp .lt 30, 3) := by decide +kernel
theorem d_Md_instruction_70 : decode b_Md_instruction 70 = .ok (.aload_n 0, 1) := by decide +kernel
theorem d_Md_instruction_71 : decode b_Md_instruction 71 = .ok (.iconst 0, 1) := by decide +kernel
theorem d_Md_instruction_72 : decode b_Md_instruction 72 = .ok (.invokevirtual 97, 3) := by decide +kernel
theorem d_Md_instruction_75 : decode b_Md_instruction 75 = .ok (.istore 6, 2) := by decide +kernel
theorem d_Md_instruction_77 : decode b_Md_instruction 77 = .ok (.aload_n 0, 1) := by decide +kernel
theorem d_Md_instruction_78 : decode b_Md_instruction 78 = .ok (.iload_n 3, 1) := by decide +kernel
theorem d_Md_instruction_79 : decode b_Md_instruction 79 = .ok (.iconst 2, 1) := by decide +kernel
theorem d_Md_instruction_80 : decode b_Md_instruction 80 = .ok (.iload 6, 2) := by decide +kernel
theorem d_Md_instruction_82 : decode b_Md_instruction 82 = .ok (.aload_n 0, 1) := by decide +kernel
theorem d_Md_instruction_83 : decode b_Md_instruction 83 = .ok (.getfield 26, 3) := by decide +kernel
theorem d_Md_instruction_86 : decode b_Md_instruction 86 = .ok (.iload 4, 2) := by decide +kernel
theorem d_Md_instruction_88 : decode b_Md_instruction 88 = .ok (.iaload, 1) := by decide +kernel
theorem d_Md_instruction_89 : decode b_Md_instruction 89 = .ok (.imul, 1) := by decide +kernel
theorem d_Md_instruction_90 : decode b_Md_instruction 90 = .ok (.iconst 0, 1) := by decide +kernel
theorem d_Md_instruction_91 : decode b_Md_instruction 91 = .ok (.invokevirtual 93, 3) := by decide +kernel
theorem d_Md_instruction_94 : decode b_Md_instruction 94 = .ok (.goto 292, 3) := by decide +kernel
theorem d_Md_instruction_97 : decode b_Md_instruction 97 = .ok (.iload_n 2, 1) := by decide +kernel
theorem d_Md_instruction_98 : decode b_Md_instruction 98 = .ok (.bipush 64, 2) := by decide +kernel
theorem d_Md_instruction_100 : decode b_Md_instruction 100 = .ok (.if_icmp .lt 45, 3) := by decide +kernel
theorem d_Md_instruction_103 : decode b_Md_instruction 103 = .ok (.aload_n 0, 1) := by decide +kernel
theorem d_Md_instruction_104 : decode b_Md_instruction 104 = .ok (.aload_n 0, 1) := by decide +kernel
theorem d_Md_instruction_105 : decode b_Md_instruction 105 = .ok (.getfield 85, 3) := by decide +kernel
theorem d_Md_instruction_108 : decode b_Md_instruction 108 = .ok (.ifCond .ne 8, 3) := by decide +kernel
theorem d_Md_instruction_111 : decode b_Md_instruction 111 = .ok (.iload 5, 2) := by decide +kernel
theorem d_Md_instruction_113 : decode b_Md_instruction 113 = .ok (.ifCond .eq 7, 3) := by decide +kernel
theorem d_Md_instruction_116 : decode b_Md_instruction 116 = .ok (.iconst 1, 1) := by decide +kernel
theorem d_Md_instruction_117 : decode b_Md_instruction 117 = .ok (.goto 4, 3) := by decide +kernel
theorem d_Md_instruction_120 : decode b_Md_instruction 120 = .ok (.iconst 0, 1) := by decide +kernel
theorem d_Md_instruction_121 : decode b_Md_instruction 121 = .ok (.putfield 85, 3) := by decide +kernel
theorem d_Md_instruction_124 : decode b_Md_instruction 124 = .ok (.aload_n 0, 1) := by decide +kernel
theorem d_Md_instruction_125 : decode b_Md_instruction 125 = .ok (.dup, 1) := by decide +kernel
theorem d_Md_instruction_126 : decode b_Md_instruction 126 = .ok (.getfield 108, 3) := by decide +kernel
theorem d_Md_instruction_129 : decode b_Md_instruction 129 = .ok (.iload_n 3, 1) := by decide +kernel
theorem d_Md_instruction_130 : decode b_Md_instruction 130 = .ok (.aload_n 0, 1) := by decide +kernel
theorem d_Md_instruction_131 : decode b_Md_instruction 131 = .ok (.getfield 23, 3) := by decide +kernel
theorem d_Md_instruction_134 : decode b_Md_instruction 134 = .ok (.iload 4, 2) := by decide +kernel
theorem d_Md_instruction_136 : decode b_Md_instruction 136 = .ok (.iaload, 1) := by decide +kernel
theorem d_Md_instruction_137 : decode b_Md_instruction 137 = .ok (.imul, 1) := by decide +kernel
theorem d_Md_instruction_138 : decode b_Md_instruction 138 = .ok (.iadd, 1) := by decide +kernel
theorem d_Md_instruction_139 : decode b_Md_instruction 139 = .ok (.putfield 108, 3) := by decide +kernel
theorem d_Md_instruction_142 : decode b_Md_instruction 142 = .ok (.goto 244, 3) := by decide +kernel
theorem d_Md_instruction_145 : decode b_Md_instruction 145 = .ok (.iload_n 3, 1) := by decide +kernel
theorem d_Md_instruction_146 : decode b_Md_instruction 146 = .ok (.iconst 1, 1) := by decide +kernel
theorem d_Md_instruction_147 : decode b_Md_instruction 147 = .ok (.iconst 4, 1) := by decide +kernel
theorem d_Md_instruction_148 : decode b_Md_instruction 148 = .ok (.invokestatic 75, 3) := by decide +kernel
theorem d_Md_instruction_151 : decode b_Md_instruction 151 = .ok (.ifCond .eq 90, 3) := by decide +kernel
theorem d_Md_instruction_154 : decode b_Md_instruction 154 = .ok (.aload_n 0, 1) := by decide +kernel
theorem d_Md_instruction_155 : decode b_Md_instruction 155 = .ok (.aload_n 0, 1) := by decide +kernel
theorem d_Md_instruction_156 : decode b_Md_instruction 156 = .ok (.getfield 85, 3) := by decide +kernel
theorem d_Md_instruction_159 : decode b_Md_instruction 159 = .ok (.ifCond .ne 8, 3) := by decide +kernel
theorem d_Md_instruction_162 : decode b_Md_instruction 162 = .ok (.iload 5, 2) := by decide +kernel
theorem d_Md_instruction_164 : decode b_Md_instruction 164 = .ok (.ifCond .eq 7, 3) := by decide +kernel
theorem d_Md_instruction_167 : decode b_Md_instruction 167 = .ok (.iconst 1, 1) := by decide +kernel
theorem d_Md_instruction_168 : decode b_Md_instruction 168 = .ok (.goto 4, 3) := by decide +kernel
theorem d_Md_instruction_171 : decode b_Md_instruction 171 = .ok (.iconst 0, 1) := by decide +kernel
theorem d_Md_instruction_172 : decode b_Md_instruction 172 = .ok (.putfield 85, 3) := by decide +kernel
theorem d_Md_instruction_175 : decode b_Md_instruction 175 = .ok (.aload_n 0, 1) := by decide +kernel
theorem d_Md_instruction_176 : decode b_Md_instruction 176 = .ok (.iload_n 3, 1) := by decide +kernel
theorem d_Md_instruction_177 : decode b_Md_instruction 177 = .ok (.iconst 1, 1) := by decide +kernel
theorem d_Md_instruction_178 : decode b_Md_instruction 178 = .ok (.if_icmp .ne 7, 3) := by decide +kernel
theorem d_Md_instruction_181 : decode b_Md_instruction 181 = .ok (.iconst 4, 1) := by decide +kernel
theorem d_Md_instruction_182 : decode b_Md_instruction 182 = .ok (.goto 22, 3) := by decide +kernel
theorem d_Md_instruction_185 : decode b_Md_instruction 185 = .ok (.iload_n 3, 1) := by decide +kernel
theorem d_Md_instruction_186 : decode b_Md_instruction 186 = .ok (.iconst 2, 1) := by decide +kernel
theorem d_Md_instruction_187 : decode b_Md_instruction 187 = .ok (.if_icmp .ne 7, 3) := by decide +kernel
theorem d_Md_instruction_190 : decode b_Md_instruction 190 = .ok (.iconst 1, 1) := by decide +kernel
theorem d_Md_instruction_191 : decode b_Md_instruction 191 = .ok (.goto 13, 3) := by decide +kernel
theorem d_Md_instruction_194 : decode b_Md_instruction 194 = .ok (.iload_n 3, 1) := by decide +kernel
theorem d_Md_instruction_195 : decode b_Md_instruction 195 = .ok (.iconst 3, 1) := by decide +kernel
theorem d_Md_instruction_196 : decode b_Md_instruction 196 = .ok (.if_icmp .ne 7, 3) := by decide +kernel
theorem d_Md_instruction_199 : decode b_Md_instruction 199 = .ok (.iconst 2, 1) := by decide +kernel
theorem d_Md_instruction_200 : decode b_Md_instruction 200 = .ok (.goto 4, 3) := by decide +kernel
theorem d_Md_instruction_203 : decode b_Md_instruction 203 = .ok (.iconst 4, 1) := by decide +kernel
theorem d_Md_instruction_204 : decode b_Md_instruction 204 = .ok (.invokevirtual 89, 3) := by decide +kernel
theorem d_Md_instruction_207 : decode b_Md_instruction 207 = .ok (.istore 6, 2) := by decide +kernel
theorem d_Md_instruction_209 : decode b_Md_instruction 209 = .ok (.aload_n 0, 1) := by decide +kernel
theorem d_Md_instruction_210 : decode b_Md_instruction 210 = .ok (.iload_n 3, 1) := by decide +kernel
theorem d_Md_instruction_211 : decode b_Md_instruction 211 = .ok (.iconst 1, 1) := by decide +kernel
theorem d_Md_instruction_212 : decode b_Md_instruction 212 = .ok (.if_icmp .ne 8, 3) := by decide +kernel
theorem d_Md_instruction_215 : decode b_Md_instruction 215 = .ok (.iload 6, 2) := by decide +kernel
theorem d_Md_instruction_217 : decode b_Md_instruction 217 = .ok (.goto 18, 3) := by decide +kernel
theorem d_Md_instruction_220 : decode b_Md_instruction 220 = .ok (.aload_n 0, 1) := by decide +kernel
theorem d_Md_instruction_221 : decode b_Md_instruction 221 = .ok (.getfield 108, 3) := by decide +kernel
theorem d_Md_instruction_224 : decode b_Md_instruction 224 = .ok (.iload 6, 2) := by decide +kernel
theorem d_Md_instruction_226 : decode b_Md_instruction 226 = .ok (.aload_n 0, 1) := by decide +kernel
theorem d_Md_instruction_227 : decode b_Md_instruction 227 = .ok (.getfield 23, 3) := by decide +kernel
theorem d_Md_instruction_230 : decode b_Md_instruction 230 = .ok (.iload 4, 2) := by decide +kernel
theorem d_Md_instruction_232 : decode b_Md_instruction 232 = .ok (.iaload, 1) := by decide +kernel
theorem d_Md_instruction_233 : decode b_Md_instruction 233 = .ok (.imul, 1) := by decide +kernel
theorem d_Md_instruction_234 : decode b_Md_instruction 234 = .ok (.iadd, 1) := by decide +kernel
theorem d_Md_instruction_235 : decode b_Md_instruction 235 = .ok (.putfield 108, 3) := by decide +kernel
theorem d_Md_instruction_238 : decode b_Md_instruction 238 = .ok (.goto 148, 3) := by decide +kernel
theorem d_Md_instruction_241 : decode b_Md_instruction 241 = .ok (.iload_n 3, 1) := by decide +kernel
theorem d_Md_instruction_242 : decode b_Md_instruction 242 = .ok (.bipush 10, 2) := by decide +kernel
theorem d_Md_instruction_244 : decode b_Md_instruction 244 = .ok (.if_icmp .eq 9, 3) := by decide +kernel
theorem d_Md_instruction_247 : decode b_Md_instruction 247 = .ok (.iload_n 3, 1) := by decide +kernel
theorem d_Md_instruction_248 : decode b_Md_instruction 248 = .ok (.bipush 11, 2) := by decide +kernel
theorem d_Md_instruction_250 : decode b_Md_instruction 250 = .ok (.if_icmp .ne 44, 3) := by decide +kernel
theorem d_Md_instruction_253 : decode b_Md_instruction 253 = .ok (.aload_n 0, 1) := by decide +kernel
theorem d_Md_instruction_254 : decode b_Md_instruction 254 = .ok (.aload_n 0, 1) := by decide +kernel
theorem d_Md_instruction_255 : decode b_Md_instruction 255 = .ok (.getfield 85, 3) := by decide +kernel
theorem d_Md_instruction_258 : decode b_Md_instruction 258 = .ok (.ifCond .ne 8, 3) := by decide +kernel
theorem d_Md_instruction_261 : decode b_Md_instruction 261 = .ok (.iload 5, 2) := by decide +kernel
theorem d_Md_instruction_263 : decode b_Md_instruction 263 = .ok (.ifCond .eq 7, 3) := by decide +kernel
theorem d_Md_instruction_266 : decode b_Md_instruction 266 = .ok (.iconst 1, 1) := by decide +kernel
theorem d_Md_instruction_267 : decode b_Md_instruction 267 = .ok (.goto 4, 3) := by decide +kernel
theorem d_Md_instruction_270 : decode b_Md_instruction 270 = .ok (.iconst 0, 1) := by decide +kernel
theorem d_Md_instruction_271 : decode b_Md_instruction 271 = .ok (.putfield 85, 3) := by decide +kernel
theorem d_Md_instruction_274 : decode b_Md_instruction 274 = .ok (.iload_n 3, 1) := by decide +kernel
theorem d_Md_instruction_275 : decode b_Md_instruction 275 = .ok (.bipush 10, 2) := by decide +kernel
theorem d_Md_instruction_277 : decode b_Md_instruction 277 = .ok (.if_icmp .ne 10, 3) := by decide +kernel
theorem d_Md_instruction_280 : decode b_Md_instruction 280 = .ok (.aload_n 0, 1) := by decide +kernel
