theorem d_Md_unwind_0 : decode b_Md_unwind 0 = .ok (.aload_n 0, 1) := by decide +kernel
theorem d_Md_unwind_1 : decode b_Md_unwind 1 = .ok (.aload_n 0, 1) := by decide +kernel
theorem d_Md_unwind_2 : decode b_Md_unwind 2 = .ok (.invokevirtual 153, 3) := by decide +kernel
theorem d_Md_unwind_5 : decode b_Md_unwind 5 = .ok (.iconst (-1), 1) := by decide +kernel
theorem d_Md_unwind_6 : decode b_Md_unwind 6 = .ok (.if_icmp .eq 7, 3) := by decide +kernel
theorem d_Md_unwind_9 : decode b_Md_unwind 9 = .ok (.iconst 1, 1) := by decide +kernel
theorem d_Md_unwind_10 : decode b_Md_unwind 10 = .ok (.goto 19, 3) := by decide +kernel
theorem d_Md_unwind_13 : decode b_Md_unwind 13 = .ok (.iload_n 1, 1) := by decide +kernel
theorem d_Md_unwind_14 : decode b_Md_unwind 14 = .ok (.iconst 0, 1) := by decide +kernel
theorem d_Md_unwind_15 : decode b_Md_unwind 15 = .ok (.sipush 2000, 3) := by decide +kernel
theorem d_Md_unwind_18 : decode b_Md_unwind 18 = .ok (.invokestatic 75, 3) := by decide +kernel
theorem d_Md_unwind_21 : decode b_Md_unwind 21 = .ok (.ifCond .ne 7, 3) := by decide +kernel
theorem d_Md_unwind_24 : decode b_Md_unwind 24 = .ok (.iconst 2, 1) := by decide +kernel
theorem d_Md_unwind_25 : decode b_Md_unwind 25 = .ok (.goto 4, 3) := by decide +kernel
theorem d_Md_unwind_28 : decode b_Md_unwind 28 = .ok (.iconst 0, 1) := by decide +kernel
theorem d_Md_unwind_29 : decode b_Md_unwind 29 = .ok (.putfield 69, 3) := by decide +kernel
theorem d_Md_unwind_32 : decode b_Md_unwind 32 = .ok (.aload_n 0, 1) := by decide +kernel
theorem d_Md_unwind_33 : decode b_Md_unwind 33 = .ok (.getfield 69, 3) := by decide +kernel
theorem d_Md_unwind_36 : decode b_Md_unwind 36 = .ok (.ifCond .eq 5, 3) := by decide +kernel
theorem d_Md_unwind_39 : decode b_Md_unwind 39 = .ok (.iconst 0, 1) := by decide +kernel
theorem d_Md_unwind_40 : decode b_Md_unwind 40 = .ok (.ireturn, 1) := by decide +kernel
theorem d_Md_unwind_41 : decode b_Md_unwind 41 = .ok (.aload_n 0, 1) := by decide +kernel
theorem d_Md_unwind_42 : decode b_Md_unwind 42 = .ok (.getfield 207, 3) := by decide +kernel
theorem d_Md_unwind_45 : decode b_Md_unwind 45 = .ok (.ifCond .le 12, 3) := by decide +kernel
theorem d_Md_unwind_48 : decode b_Md_unwind 48 = .ok (.aload_n 0, 1) := by decide +kernel
theorem d_Md_unwind_49 : decode b_Md_unwind 49 = .ok (.getfield 204, 3) := by decide +kernel
theorem d_Md_unwind_52 : decode b_Md_unwind 52 = .ok (.iconst 1, 1) := by decide +kernel
theorem d_Md_unwind_53 : decode b_Md_unwind 53 = .ok (.isub, 1) := by decide +kernel
theorem d_Md_unwind_54 : decode b_Md_unwind 54 = .ok (.goto 7, 3) := by decide +kernel
theorem d_Md_unwind_57 : decode b_Md_unwind 57 = .ok (.aload_n 0, 1) := by decide +kernel
theorem d_Md_unwind_58 : decode b_Md_unwind 58 = .ok (.getfield 204, 3) := by decide +kernel
theorem d_Md_unwind_61 : decode b_Md_unwind 61 = .ok (.istore_n 2, 1) := by decide +kernel
theorem d_Md_unwind_62 : decode b_Md_unwind 62 = .ok (.aload_n 0, 1) := by decide +kernel
theorem d_Md_unwind_63 : decode b_Md_unwind 63 = .ok (.iload_n 2, 1) := by decide +kernel
theorem d_Md_unwind_64 : decode b_Md_unwind 64 = .ok (.invokevirtual 158, 3) := by decide +kernel
theorem d_Md_unwind_67 : decode b_Md_unwind 67 = .ok (.istore_n 3, 1) := by decide +kernel
theorem d_Md_unwind_68 : decode b_Md_unwind 68 = .ok (.iload_n 3, 1) := by decide +kernel
theorem d_Md_unwind_69 : decode b_Md_unwind 69 = .ok (.iconst (-1), 1) := by decide +kernel
theorem d_Md_unwind_70 : decode b_Md_unwind 70 = .ok (.if_icmp .ne 6, 3) := by decide +kernel
theorem d_Md_unwind_73 : decode b_Md_unwind 73 = .ok (.bipush 10, 2) := by decide +kernel
theorem d_Md_unwind_75 : decode b_Md_unwind 75 = .ok (.ireturn, 1) := by decide +kernel
theorem d_Md_unwind_76 : decode b_Md_unwind 76 = .ok (.aload_n 0, 1) := by decide +kernel
theorem d_Md_unwind_77 : decode b_Md_unwind 77 = .ok (.iload_n 3, 1) := by decide +kernel
theorem d_Md_unwind_78 : decode b_Md_unwind 78 = .ok (.iload_n 2, 1) := by decide +kernel
theorem d_Md_unwind_79 : decode b_Md_unwind 79 = .ok (.invokevirtual 161, 3) := by decide +kernel
theorem d_Md_unwind_82 : decode b_Md_unwind 82 = .ok (.aload_n 0, 1) := by decide +kernel
theorem d_Md_unwind_83 : decode b_Md_unwind 83 = .ok (.getfield 29, 3) := by decide +kernel
theorem d_Md_unwind_86 : decode b_Md_unwind 86 = .ok (.aload_n 0, 1) := by decide +kernel
theorem d_Md_unwind_87 : decode b_Md_unwind 87 = .ok (.getfield 20, 3) := by decide +kernel
theorem d_Md_unwind_90 : decode b_Md_unwind 90 = .ok (.iload_n 3, 1) := by decide +kernel
theorem d_Md_unwind_91 : decode b_Md_unwind 91 = .ok (.iaload, 1) := by decide +kernel
theorem d_Md_unwind_92 : decode b_Md_unwind 92 = .ok (.iaload, 1) := by decide +kernel
theorem d_Md_unwind_93 : decode b_Md_unwind 93 = .ok (.istore 4, 2) := by decide +kernel
theorem d_Md_unwind_95 : decode b_Md_unwind 95 = .ok (.aload_n 0, 1) := by decide +kernel
theorem d_Md_unwind_96 : decode b_Md_unwind 96 = .ok (.getfield 44, 3) := by decide +kernel
theorem d_Md_unwind_99 : decode b_Md_unwind 99 = .ok (.iload 4, 2) := by decide +kernel
theorem d_Md_unwind_101 : decode b_Md_unwind 101 = .ok (.iaload, 1) := by decide +kernel
theorem d_Md_unwind_102 : decode b_Md_unwind 102 = .ok (.ifCond .ne 6, 3) := by decide +kernel
theorem d_Md_unwind_105 : decode b_Md_unwind 105 = .ok (.bipush 10, 2) := by decide +kernel
theorem d_Md_unwind_107 : decode b_Md_unwind 107 = .ok (.ireturn, 1) := by decide +kernel
theorem d_Md_unwind_108 : decode b_Md_unwind 108 = .ok (.aload_n 0, 1) := by decide +kernel
theorem d_Md_unwind_109 : decode b_Md_unwind 109 = .ok (.iload_n 1, 1) := by decide +kernel
theorem d_Md_unwind_110 : decode b_Md_unwind 110 = .ok (.invokevirtual 224, 3) := by decide +kernel
theorem d_Md_unwind_113 : decode b_Md_unwind 113 = .ok (.istore 5, 2) := by decide +kernel
theorem d_Md_unwind_115 : decode b_Md_unwind 115 = .ok (.iload 5, 2) := by decide +kernel
theorem d_Md_unwind_117 : decode b_Md_unwind 117 = .ok (.ifCond .eq 6, 3) := by decide +kernel
theorem d_Md_unwind_120 : decode b_Md_unwind 120 = .ok (.iload 5, 2) := by decide +kernel
theorem d_Md_unwind_122 : decode b_Md_unwind 122 = .ok (.ireturn, 1) := by decide +kernel
theorem d_Md_unwind_123 : decode b_Md_unwind 123 = .ok (.aload_n 0, 1) := by decide +kernel
theorem d_Md_unwind_124 : decode b_Md_unwind 124 = .ok (.getfield 201, 3) := by decide +kernel
theorem d_Md_unwind_127 : decode b_Md_unwind 127 = .ok (.istore 6, 2) := by decide +kernel
theorem d_Md_unwind_129 : decode b_Md_unwind 129 = .ok (.iconst 0, 1) := by decide +kernel
theorem d_Md_unwind_130 : decode b_Md_unwind 130 = .ok (.istore 7, 2) := by decide +kernel
theorem d_Md_unwind_132 : decode b_Md_unwind 132 = .ok (.iconst 0, 1) := by decide +kernel
theorem d_Md_unwind_133 : decode b_Md_unwind 133 = .ok (.istore 8, 2) := by decide +kernel
theorem d_Md_unwind_135 : decode b_Md_unwind 135 = .ok (.iload 8, 2) := by decide +kernel
theorem d_Md_unwind_137 : decode b_Md_unwind 137 = .ok (.bipush 8, 2) := by decide +kernel
theorem d_Md_unwind_139 : decode b_Md_unwind 139 = .ok (.if_icmp .ge 62, 3) := by decide +kernel
theorem d_Md_unwind_142 : decode b_Md_unwind 142 = .ok (.aload_n 0, 1) := by decide +kernel
theorem d_Md_unwind_143 : decode b_Md_unwind 143 = .ok (.iload 8, 2) := by decide +kernel
theorem d_Md_unwind_145 : decode b_Md_unwind 145 = .ok (.iload_n 1, 1) := by decide +kernel
theorem d_Md_unwind_146 : decode b_Md_unwind 146 = .ok (.iload 6, 2) := by decide +kernel
theorem d_Md_unwind_148 : decode b_Md_unwind 148 = .ok (.invokevirtual 227, 3) := by decide +kernel
theorem d_Md_unwind_151 : decode b_Md_unwind 151 = .ok (.istore 5, 2) := by decide +kernel
theorem d_Md_unwind_153 : decode b_Md_unwind 153 = .ok (.iload 5, 2) := by decide +kernel
theorem d_Md_unwind_155 : decode b_Md_unwind 155 = .ok (.ifCond .eq 6, 3) := by decide +kernel
theorem d_Md_unwind_158 : decode b_Md_unwind 158 = .ok (.iload 5, 2) := by decide +kernel
theorem d_Md_unwind_160 : decode b_Md_unwind 160 = .ok (.ireturn, 1) := by decide +kernel
theorem d_Md_unwind_161 : decode b_Md_unwind 161 = .ok (.aload_n 0, 1) := by decide +kernel
theorem d_Md_unwind_162 : decode b_Md_unwind 162 = .ok (.getfield 66, 3) := by decide +kernel
theorem d_Md_unwind_165 : decode b_Md_unwind 165 = .ok (.iload 8, 2) := by decide +kernel
theorem d_Md_unwind_167 : decode b_Md_unwind 167 = .ok (.aload_n 0, 1) := by decide +kernel
theorem d_Md_unwind_168 : decode b_Md_unwind 168 = .ok (.getfield 201, 3) := by decide +kernel
theorem d_Md_unwind_171 : decode b_Md_unwind 171 = .ok (.iastore, 1) := by decide +kernel
theorem d_Md_unwind_172 : decode b_Md_unwind 172 = .ok (.aload_n 0, 1) := by decide +kernel
theorem d_Md_unwind_173 : decode b_Md_unwind 173 = .ok (.iload 8, 2) := by decide +kernel
theorem d_Md_unwind_175 : decode b_Md_unwind 175 = .ok (.invokevirtual 230, 3) := by decide +kernel
theorem d_Md_unwind_178 : decode b_Md_unwind 178 = .ok (.ifCond .eq 13, 3) := by decide +kernel
theorem d_Md_unwind_181 : decode b_Md_unwind 181 = .ok (.iload 7, 2) := by decide +kernel
theorem d_Md_unwind_183 : decode b_Md_unwind 183 = .ok (.iconst 1, 1) := by decide +kernel
theorem d_Md_unwind_184 : decode b_Md_unwind 184 = .ok (.iload 8, 2) := by decide +kernel
theorem d_Md_unwind_186 : decode b_Md_unwind 186 = .ok (.ishl, 1) := by decide +kernel
theorem d_Md_unwind_187 : decode b_Md_unwind 187 = .ok (.ior, 1) := by decide +kernel
theorem d_Md_unwind_188 : decode b_Md_unwind 188 = .ok (.goto 5, 3) := by decide +kernel
theorem d_Md_unwind_191 : decode b_Md_unwind 191 = .ok (.iload 7, 2) := by decide +kernel
theorem d_Md_unwind_193 : decode b_Md_unwind 193 = .ok (.istore 7, 2) := by decide +kernel
theorem d_Md_unwind_195 : decode b_Md_unwind 195 = .ok (.iinc 8 1, 3) := by decide +kernel
theorem d_Md_unwind_198 : decode b_Md_unwind 198 = .ok (.goto (-63), 3) := by decide +kernel
theorem d_Md_unwind_201 : decode b_Md_unwind 201 = .ok (.iload 7, 2) := by decide +kernel
theorem d_Md_unwind_203 : decode b_Md_unwind 203 = .ok (.iload 4, 2) := by decide +kernel
theorem d_Md_unwind_205 : decode b_Md_unwind 205 = .ok (.ishr, 1) := by decide +kernel
theorem d_Md_unwind_206 : decode b_Md_unwind 206 = .ok (.iconst 1, 1) := by decide +kernel
theorem d_Md_unwind_207 : decode b_Md_unwind 207 = .ok (.iand, 1) := by decide +kernel
theorem d_Md_unwind_208 : decode b_Md_unwind 208 = .ok (.ifCond .ne 5, 3) := by decide +kernel
theorem d_Md_unwind_211 : decode b_Md_unwind 211 = .ok (.iconst 4, 1) := by decide +kernel
theorem d_Md_unwind_212 : decode b_Md_unwind 212 = .ok (.ireturn, 1) := by decide +kernel
theorem d_Md_unwind_213 : decode b_Md_unwind 213 = .ok (.iconst 0, 1) := by decide +kernel
theorem d_Md_unwind_214 : decode b_Md_unwind 214 = .ok (.istore 8, 2) := by decide +kernel
theorem d_Md_unwind_216 : decode b_Md_unwind 216 = .ok (.iload 8, 2) := by decide +kernel
theorem d_Md_unwind_218 : decode b_Md_unwind 218 = .ok (.bipush 8, 2) := by decide +kernel
theorem d_Md_unwind_220 : decode b_Md_unwind 220 = .ok (.if_icmp .ge 23, 3) := by decide +kernel
theorem d_Md_unwind_223 : decode b_Md_unwind 223 = .ok (.aload_n 0, 1) := by decide +kernel
theorem d_Md_unwind_224 : decode b_Md_unwind 224 = .ok (.getfield 59, 3) := by decide +kernel
theorem d_Md_unwind_227 : decode b_Md_unwind 227 = .ok (.iload 8, 2) := by decide +kernel
theorem d_Md_unwind_229 : decode b_Md_unwind 229 = .ok (.aload_n 0, 1) := by decide +kernel
theorem d_Md_unwind_230 : decode b_Md_unwind 230 = .ok (.getfield 66, 3) := by decide +kernel
theorem d_Md_unwind_233 : decode b_Md_unwind 233 = .ok (.iload 8, 2) := by decide +kernel
theorem d_Md_unwind_235 : decode b_Md_unwind 235 = .ok (.iaload, 1) := by decide +kernel
theorem d_Md_unwind_236 : decode b_Md_unwind 236 = .ok (.iastore, 1) := by decide +kernel
theorem d_Md_unwind_237 : decode b_Md_unwind 237 = .ok (.iinc 8 1, 3) := by decide +kernel
theorem d_Md_unwind_240 : decode b_Md_unwind 240 = .ok (.goto (-24), 3) := by decide +kernel
theorem d_Md_unwind_243 : decode b_Md_unwind 243 = .ok (.aload_n 0, 1) := by decide +kernel
theorem d_Md_unwind_244 : decode b_Md_unwind 244 = .ok (.iload 7, 2) := by decide +kernel
theorem d_Md_unwind_246 : decode b_Md_unwind 246 = .ok (.putfield 62, 3) := by decide +kernel
theorem d_Md_unwind_249 : decode b_Md_unwind 249 = .ok (.aload_n 0, 1) := by decide +kernel
theorem d_Md_unwind_250 : decode b_Md_unwind 250 = .ok (.aload_n 0, 1) := by decide +kernel
theorem d_Md_unwind_251 : decode b_Md_unwind 251 = .ok (.getfield 66, 3) := by decide +kernel
theorem d_Md_unwind_254 : decode b_Md_unwind 254 = .ok (.iload 4, 2) := by decide +kernel
theorem d_Md_unwind_256 : decode b_Md_unwind 256 = .ok (.iaload, 1) := by decide +kernel
theorem d_Md_unwind_257 : decode b_Md_unwind 257 = .ok (.putfield 204, 3) := by decide +kernel
theorem d_Md_unwind_260 : decode b_Md_unwind 260 = .ok (.aload_n 0, 1) := by decide +kernel
theorem d_Md_unwind_261 : decode b_Md_unwind 261 = .ok (.dup, 1) := by decide +kernel
theorem d_Md_unwind_262 : decode b_Md_unwind 262 = .ok (.getfield 207, 3) := by decide +kernel
theorem d_Md_unwind_265 : decode b_Md_unwind 265 = .ok (.iconst 1, 1) := by decide +kernel
theorem d_Md_unwind_266 : decode b_Md_unwind 266 = .ok (.iadd, 1) := by decide +kernel
theorem d_Md_unwind_267 : decode b_Md_unwind 267 = .ok (.putfield 207, 3) := by decide +kernel
theorem d_Md_unwind_270 : decode b_Md_unwind 270 = .ok (.iconst 0, 1) := by decide +kernel
theorem d_Md_unwind_271 : decode b_Md_unwind 271 = .ok (.ireturn, 1) := by decide +kernel
