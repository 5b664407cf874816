theorem d_Md_two_0 : decode b_Md_two 0 = .ok (.iload_n 0, 1) := by decide +kernel
theorem d_Md_two_1 : decode b_Md_two 1 = .ok (.tableswitch 264 26 45 #[95, 99, 114, 118, 131, 264, 264, 135, 139, 264, 143, 161, 179, 205, 264, 209, 220, 231, 242, 253], 95) := by decide +kernel
theorem d_Md_two_96 : decode b_Md_two 96 = .ok (.iload_n 1, 1) := by decide +kernel
theorem d_Md_two_97 : decode b_Md_two 97 = .ok (.iload_n 2, 1) := by decide +kernel
theorem d_Md_two_98 : decode b_Md_two 98 = .ok (.iand, 1) := by decide +kernel
theorem d_Md_two_99 : decode b_Md_two 99 = .ok (.ireturn, 1) := by decide +kernel
theorem d_Md_two_100 : decode b_Md_two 100 = .ok (.iload_n 2, 1) := by decide +kernel
theorem d_Md_two_101 : decode b_Md_two 101 = .ok (.iconst (-1), 1) := by decide +kernel
theorem d_Md_two_102 : decode b_Md_two 102 = .ok (.if_icmp .ne 9, 3) := by decide +kernel
theorem d_Md_two_105 : decode b_Md_two 105 = .ok (.iconst 0, 1) := by decide +kernel
theorem d_Md_two_106 : decode b_Md_two 106 = .ok (.iload_n 1, 1) := by decide +kernel
theorem d_Md_two_107 : decode b_Md_two 107 = .ok (.isub, 1) := by decide +kernel
theorem d_Md_two_108 : decode b_Md_two 108 = .ok (.goto 6, 3) := by decide +kernel
theorem d_Md_two_111 : decode b_Md_two 111 = .ok (.iload_n 1, 1) := by decide +kernel
theorem d_Md_two_112 : decode b_Md_two 112 = .ok (.iload_n 2, 1) := by decide +kernel
theorem d_Md_two_113 : decode b_Md_two 113 = .ok (.idiv, 1) := by decide +kernel
theorem d_Md_two_114 : decode b_Md_two 114 = .ok (.ireturn, 1) := by decide +kernel
theorem d_Md_two_115 : decode b_Md_two 115 = .ok (.iload_n 1, 1) := by decide +kernel
theorem d_Md_two_116 : decode b_Md_two 116 = .ok (.iload_n 2, 1) := by decide +kernel
theorem d_Md_two_117 : decode b_Md_two 117 = .ok (.isub, 1) := by decide +kernel
theorem d_Md_two_118 : decode b_Md_two 118 = .ok (.ireturn, 1) := by decide +kernel
theorem d_Md_two_119 : decode b_Md_two 119 = .ok (.iload_n 2, 1) := by decide +kernel
theorem d_Md_two_120 : decode b_Md_two 120 = .ok (.iconst (-1), 1) := by decide +kernel
theorem d_Md_two_121 : decode b_Md_two 121 = .ok (.if_icmp .ne 7, 3) := by decide +kernel
theorem d_Md_two_124 : decode b_Md_two 124 = .ok (.iconst 0, 1) := by decide +kernel
theorem d_Md_two_125 : decode b_Md_two 125 = .ok (.goto 6, 3) := by decide +kernel
theorem d_Md_two_128 : decode b_Md_two 128 = .ok (.iload_n 1, 1) := by decide +kernel
theorem d_Md_two_129 : decode b_Md_two 129 = .ok (.iload_n 2, 1) := by decide +kernel
theorem d_Md_two_130 : decode b_Md_two 130 = .ok (.irem, 1) := by decide +kernel
theorem d_Md_two_131 : decode b_Md_two 131 = .ok (.ireturn, 1) := by decide +kernel
theorem d_Md_two_132 : decode b_Md_two 132 = .ok (.iload_n 1, 1) := by decide +kernel
theorem d_Md_two_133 : decode b_Md_two 133 = .ok (.iload_n 2, 1) := by decide +kernel
theorem d_Md_two_134 : decode b_Md_two 134 = .ok (.imul, 1) := by decide +kernel
theorem d_Md_two_135 : decode b_Md_two 135 = .ok (.ireturn, 1) := by decide +kernel
theorem d_Md_two_136 : decode b_Md_two 136 = .ok (.iload_n 1, 1) := by decide +kernel
theorem d_Md_two_137 : decode b_Md_two 137 = .ok (.iload_n 2, 1) := by decide +kernel
theorem d_Md_two_138 : decode b_Md_two 138 = .ok (.ior, 1) := by decide +kernel
theorem d_Md_two_139 : decode b_Md_two 139 = .ok (.ireturn, 1) := by decide +kernel
theorem d_Md_two_140 : decode b_Md_two 140 = .ok (.iload_n 1, 1) := by decide +kernel
theorem d_Md_two_141 : decode b_Md_two 141 = .ok (.iload_n 2, 1) := by decide +kernel
theorem d_Md_two_142 : decode b_Md_two 142 = .ok (.iadd, 1) := by decide +kernel
theorem d_Md_two_143 : decode b_Md_two 143 = .ok (.ireturn, 1) := by decide +kernel
theorem d_Md_two_144 : decode b_Md_two 144 = .ok (.iload_n 2, 1) := by decide +kernel
theorem d_Md_two_145 : decode b_Md_two 145 = .ok (.iconst 0, 1) := by decide +kernel
theorem d_Md_two_146 : decode b_Md_two 146 = .ok (.bipush 31, 2) := by decide +kernel
theorem d_Md_two_148 : decode b_Md_two 148 = .ok (.invokestatic 75, 3) := by decide +kernel
theorem d_Md_two_151 : decode b_Md_two 151 = .ok (.ifCond .eq 9, 3) := by decide +kernel
theorem d_Md_two_154 : decode b_Md_two 154 = .ok (.iload_n 1, 1) := by decide +kernel
theorem d_Md_two_155 : decode b_Md_two 155 = .ok (.iload_n 2, 1) := by decide +kernel
theorem d_Md_two_156 : decode b_Md_two 156 = .ok (.ishl, 1) := by decide +kernel
theorem d_Md_two_157 : decode b_Md_two 157 = .ok (.goto 4, 3) := by decide +kernel
theorem d_Md_two_160 : decode b_Md_two 160 = .ok (.iconst 0, 1) := by decide +kernel
theorem d_Md_two_161 : decode b_Md_two 161 = .ok (.ireturn, 1) := by decide +kernel
theorem d_Md_two_162 : decode b_Md_two 162 = .ok (.iload_n 2, 1) := by decide +kernel
theorem d_Md_two_163 : decode b_Md_two 163 = .ok (.iconst 0, 1) := by decide +kernel
theorem d_Md_two_164 : decode b_Md_two 164 = .ok (.bipush 31, 2) := by decide +kernel
theorem d_Md_two_166 : decode b_Md_two 166 = .ok (.invokestatic 75, 3) := by decide +kernel
theorem d_Md_two_169 : decode b_Md_two 169 = .ok (.ifCond .eq 9, 3) := by decide +kernel
theorem d_Md_two_172 : decode b_Md_two 172 = .ok (.iload_n 1, 1) := by decide +kernel
theorem d_Md_two_173 : decode b_Md_two 173 = .ok (.iload_n 2, 1) := by decide +kernel
theorem d_Md_two_174 : decode b_Md_two 174 = .ok (.iushr, 1) := by decide +kernel
theorem d_Md_two_175 : decode b_Md_two 175 = .ok (.goto 4, 3) := by decide +kernel
theorem d_Md_two_178 : decode b_Md_two 178 = .ok (.iconst 0, 1) := by decide +kernel
theorem d_Md_two_179 : decode b_Md_two 179 = .ok (.ireturn, 1) := by decide +kernel
theorem d_Md_two_180 : decode b_Md_two 180 = .ok (.iload_n 2, 1) := by decide +kernel
theorem d_Md_two_181 : decode b_Md_two 181 = .ok (.iconst 0, 1) := by decide +kernel
theorem d_Md_two_182 : decode b_Md_two 182 = .ok (.bipush 31, 2) := by decide +kernel
theorem d_Md_two_184 : decode b_Md_two 184 = .ok (.invokestatic 75, 3) := by decide +kernel
theorem d_Md_two_187 : decode b_Md_two 187 = .ok (.ifCond .eq 9, 3) := by decide +kernel
theorem d_Md_two_190 : decode b_Md_two 190 = .ok (.iload_n 1, 1) := by decide +kernel
theorem d_Md_two_191 : decode b_Md_two 191 = .ok (.iload_n 2, 1) := by decide +kernel
theorem d_Md_two_192 : decode b_Md_two 192 = .ok (.ishr, 1) := by decide +kernel
theorem d_Md_two_193 : decode b_Md_two 193 = .ok (.goto 12, 3) := by decide +kernel
theorem d_Md_two_196 : decode b_Md_two 196 = .ok (.iload_n 1, 1) := by decide +kernel
theorem d_Md_two_197 : decode b_Md_two 197 = .ok (.ifCond .ge 7, 3) := by decide +kernel
theorem d_Md_two_200 : decode b_Md_two 200 = .ok (.iconst (-1), 1) := by decide +kernel
theorem d_Md_two_201 : decode b_Md_two 201 = .ok (.goto 4, 3) := by decide +kernel
theorem d_Md_two_204 : decode b_Md_two 204 = .ok (.iconst 0, 1) := by decide +kernel
theorem d_Md_two_205 : decode b_Md_two 205 = .ok (.ireturn, 1) := by decide +kernel
theorem d_Md_two_206 : decode b_Md_two 206 = .ok (.iload_n 1, 1) := by decide +kernel
theorem d_Md_two_207 : decode b_Md_two 207 = .ok (.iload_n 2, 1) := by decide +kernel
theorem d_Md_two_208 : decode b_Md_two 208 = .ok (.ixor, 1) := by decide +kernel
theorem d_Md_two_209 : decode b_Md_two 209 = .ok (.ireturn, 1) := by decide +kernel
theorem d_Md_two_210 : decode b_Md_two 210 = .ok (.iload_n 1, 1) := by decide +kernel
theorem d_Md_two_211 : decode b_Md_two 211 = .ok (.iload_n 2, 1) := by decide +kernel
theorem d_Md_two_212 : decode b_Md_two 212 = .ok (.if_icmp .ne 7, 3) := by decide +kernel
theorem d_Md_two_215 : decode b_Md_two 215 = .ok (.iconst 1, 1) := by decide +kernel
theorem d_Md_two_216 : decode b_Md_two 216 = .ok (.goto 4, 3) := by decide +kernel
theorem d_Md_two_219 : decode b_Md_two 219 = .ok (.iconst 0, 1) := by decide +kernel
theorem d_Md_two_220 : decode b_Md_two 220 = .ok (.ireturn, 1) := by decide +kernel
theorem d_Md_two_221 : decode b_Md_two 221 = .ok (.iload_n 1, 1) := by decide +kernel
theorem d_Md_two_222 : decode b_Md_two 222 = .ok (.iload_n 2, 1) := by decide +kernel
theorem d_Md_two_223 : decode b_Md_two 223 = .ok (.if_icmp .lt 7, 3) := by decide +kernel
theorem d_Md_two_226 : decode b_Md_two 226 = .ok (.iconst 1, 1) := by decide +kernel
theorem d_Md_two_227 : decode b_Md_two 227 = .ok (.goto 4, 3) := by decide +kernel
theorem d_Md_two_230 : decode b_Md_two 230 = .ok (.iconst 0, 1) := by decide +kernel
theorem d_Md_two_231 : decode b_Md_two 231 = .ok (.ireturn, 1) := by decide +kernel
theorem d_Md_two_232 : decode b_Md_two 232 = .ok (.iload_n 1, 1) := by decide +kernel
theorem d_Md_two_233 : decode b_Md_two 233 = .ok (.iload_n 2, 1) := by decide +kernel
theorem d_Md_two_234 : decode b_Md_two 234 = .ok (.if_icmp .le 7, 3) := by decide +kernel
theorem d_Md_two_237 : decode b_Md_two 237 = .ok (.iconst 1, 1) := by decide +kernel
theorem d_Md_two_238 : decode b_Md_two 238 = .ok (.goto 4, 3) := by decide +kernel
theorem d_Md_two_241 : decode b_Md_two 241 = .ok (.iconst 0, 1) := by decide +kernel
theorem d_Md_two_242 : decode b_Md_two 242 = .ok (.ireturn, 1) := by decide +kernel
theorem d_Md_two_243 : decode b_Md_two 243 = .ok (.iload_n 1, 1) := by decide +kernel
theorem d_Md_two_244 : decode b_Md_two 244 = .ok (.iload_n 2, 1) := by decide +kernel
theorem d_Md_two_245 : decode b_Md_two 245 = .ok (.if_icmp .gt 7, 3) := by decide +kernel
theorem d_Md_two_248 : decode b_Md_two 248 = .ok (.iconst 1, 1) := by decide +kernel
theorem d_Md_two_249 : decode b_Md_two 249 = .ok (.goto 4, 3) := by decide +kernel
theorem d_Md_two_252 : decode b_Md_two 252 = .ok (.iconst 0, 1) := by decide +kernel
theorem d_Md_two_253 : decode b_Md_two 253 = .ok (.ireturn, 1) := by decide +kernel
theorem d_Md_two_254 : decode b_Md_two 254 = .ok (.iload_n 1, 1) := by decide +kernel
theorem d_Md_two_255 : decode b_Md_two 255 = .ok (.iload_n 2, 1) := by decide +kernel
theorem d_Md_two_256 : decode b_Md_two 256 = .ok (.if_icmp .ge 7, 3) := by decide +kernel
theorem d_Md_two_259 : decode b_Md_two 259 = .ok (.iconst 1, 1) := by decide +kernel
theorem d_Md_two_260 : decode b_Md_two 260 = .ok (.goto 4, 3) := by decide +kernel
theorem d_Md_two_263 : decode b_Md_two 263 = .ok (.iconst 0, 1) := by decide +kernel
theorem d_Md_two_264 : decode b_Md_two 264 = .ok (.ireturn, 1) := by decide +kernel
theorem d_Md_two_265 : decode b_Md_two 265 = .ok (.iload_n 1, 1) := by decide +kernel
theorem d_Md_two_266 : decode b_Md_two 266 = .ok (.iload_n 2, 1) := by decide +kernel
theorem d_Md_two_267 : decode b_Md_two 267 = .ok (.if_icmp .eq 7, 3) := by decide +kernel
theorem d_Md_two_270 : decode b_Md_two 270 = .ok (.iconst 1, 1) := by decide +kernel
theorem d_Md_two_271 : decode b_Md_two 271 = .ok (.goto 4, 3) := by decide +kernel
theorem d_Md_two_274 : decode b_Md_two 274 = .ok (.iconst 0, 1) := by decide +kernel
theorem d_Md_two_275 : decode b_Md_two 275 = .ok (.ireturn, 1) := by decide +kernel
theorem d_Md_isTwo_0 : decode b_Md_isTwo 0 = .ok (.iload_n 0, 1) := by decide +kernel
theorem d_Md_isTwo_1 : decode b_Md_isTwo 1 = .ok (.bipush 26, 2) := by decide +kernel
theorem d_Md_isTwo_3 : decode b_Md_isTwo 3 = .ok (.bipush 30, 2) := by decide +kernel
theorem d_Md_isTwo_5 : decode b_Md_isTwo 5 = .ok (.invokestatic 75, 3) := by decide +kernel
theorem d_Md_isTwo_8 : decode b_Md_isTwo 8 = .ok (.ifCond .ne 37, 3) := by decide +kernel
theorem d_Md_isTwo_11 : decode b_Md_isTwo 11 = .ok (.iload_n 0, 1) := by decide +kernel
theorem d_Md_isTwo_12 : decode b_Md_isTwo 12 = .ok (.bipush 33, 2) := by decide +kernel
theorem d_Md_isTwo_14 : decode b_Md_isTwo 14 = .ok (.if_icmp .eq 31, 3) := by decide +kernel
theorem d_Md_isTwo_17 : decode b_Md_isTwo 17 = .ok (.iload_n 0, 1) := by decide +kernel
theorem d_Md_isTwo_18 : decode b_Md_isTwo 18 = .ok (.bipush 34, 2) := by decide +kernel
theorem d_Md_isTwo_20 : decode b_Md_isTwo 20 = .ok (.if_icmp .eq 25, 3) := by decide +kernel
theorem d_Md_isTwo_23 : decode b_Md_isTwo 23 = .ok (.iload_n 0, 1) := by decide +kernel
theorem d_Md_isTwo_24 : decode b_Md_isTwo 24 = .ok (.bipush 36, 2) := by decide +kernel
theorem d_Md_isTwo_26 : decode b_Md_isTwo 26 = .ok (.bipush 39, 2) := by decide +kernel
theorem d_Md_isTwo_28 : decode b_Md_isTwo 28 = .ok (.invokestatic 75, 3) := by decide +kernel
theorem d_Md_isTwo_31 : decode b_Md_isTwo 31 = .ok (.ifCond .ne 14, 3) := by decide +kernel
theorem d_Md_isTwo_34 : decode b_Md_isTwo 34 = .ok (.iload_n 0, 1) := by decide +kernel
theorem d_Md_isTwo_35 : decode b_Md_isTwo 35 = .ok (.bipush 41, 2) := by decide +kernel
theorem d_Md_isTwo_37 : decode b_Md_isTwo 37 = .ok (.bipush 46, 2) := by decide +kernel
theorem d_Md_isTwo_39 : decode b_Md_isTwo 39 = .ok (.invokestatic 75, 3) := by decide +kernel
theorem d_Md_isTwo_42 : decode b_Md_isTwo 42 = .ok (.ifCond .eq 7, 3) := by decide +kernel
theorem d_Md_isTwo_45 : decode b_Md_isTwo 45 = .ok (.iconst 1, 1) := by decide +kernel
theorem d_Md_isTwo_46 : decode b_Md_isTwo 46 = .ok (.goto 4, 3) := by decide +kernel
theorem d_Md_isTwo_49 : decode b_Md_isTwo 49 = .ok (.iconst 0, 1) := by decide +kernel
theorem d_Md_isTwo_50 : decode b_Md_isTwo 50 = .ok (.ireturn, 1) := by decide +kernel
theorem d_Md_thrown_0 : decode b_Md_thrown 0 = .ok (.aload_n 0, 1) := by decide +kernel
theorem d_Md_thrown_1 : decode b_Md_thrown 1 = .ok (.getfield 69, 3) := by decide +kernel
theorem d_Md_thrown_4 : decode b_Md_thrown 4 = .ok (.ireturn, 1) := by decide +kernel
