theorem d_Fr_forget_0 : decode b_Fr_forget 0 = .ok (.aload_n 0, 1) := by decide +kernel
theorem d_Fr_forget_1 : decode b_Fr_forget 1 = .ok (.getfield 9, 3) := by decide +kernel
theorem d_Fr_forget_4 : decode b_Fr_forget 4 = .ok (.iload_n 1, 1) := by decide +kernel
theorem d_Fr_forget_5 : decode b_Fr_forget 5 = .ok (.iconst 0, 1) := by decide +kernel
theorem d_Fr_forget_6 : decode b_Fr_forget 6 = .ok (.iastore, 1) := by decide +kernel
theorem d_Fr_forget_7 : decode b_Fr_forget 7 = .ok (.aload_n 0, 1) := by decide +kernel
theorem d_Fr_forget_8 : decode b_Fr_forget 8 = .ok (.dup, 1) := by decide +kernel
theorem d_Fr_forget_9 : decode b_Fr_forget 9 = .ok (.getfield 15, 3) := by decide +kernel
theorem d_Fr_forget_12 : decode b_Fr_forget 12 = .ok (.iconst 1, 1) := by decide +kernel
theorem d_Fr_forget_13 : decode b_Fr_forget 13 = .ok (.iload_n 1, 1) := by decide +kernel
theorem d_Fr_forget_14 : decode b_Fr_forget 14 = .ok (.ishl, 1) := by decide +kernel
theorem d_Fr_forget_15 : decode b_Fr_forget 15 = .ok (.iconst (-1), 1) := by decide +kernel
theorem d_Fr_forget_16 : decode b_Fr_forget 16 = .ok (.ixor, 1) := by decide +kernel
theorem d_Fr_forget_17 : decode b_Fr_forget 17 = .ok (.iand, 1) := by decide +kernel
theorem d_Fr_forget_18 : decode b_Fr_forget 18 = .ok (.putfield 15, 3) := by decide +kernel
theorem d_Fr_forget_21 : decode b_Fr_forget 21 = .ok (.return_, 1) := by decide +kernel
theorem d_Fr_takeRegisters_0 : decode b_Fr_takeRegisters 0 = .ok (.aload_n 1, 1) := by decide +kernel
theorem d_Fr_takeRegisters_1 : decode b_Fr_takeRegisters 1 = .ok (.getfield 9, 3) := by decide +kernel
theorem d_Fr_takeRegisters_4 : decode b_Fr_takeRegisters 4 = .ok (.iconst 0, 1) := by decide +kernel
theorem d_Fr_takeRegisters_5 : decode b_Fr_takeRegisters 5 = .ok (.aload_n 0, 1) := by decide +kernel
theorem d_Fr_takeRegisters_6 : decode b_Fr_takeRegisters 6 = .ok (.getfield 9, 3) := by decide +kernel
theorem d_Fr_takeRegisters_9 : decode b_Fr_takeRegisters 9 = .ok (.iconst 0, 1) := by decide +kernel
theorem d_Fr_takeRegisters_10 : decode b_Fr_takeRegisters 10 = .ok (.bipush 8, 2) := by decide +kernel
theorem d_Fr_takeRegisters_12 : decode b_Fr_takeRegisters 12 = .ok (.invokestatic 25, 3) := by decide +kernel
theorem d_Fr_takeRegisters_15 : decode b_Fr_takeRegisters 15 = .ok (.aload_n 0, 1) := by decide +kernel
theorem d_Fr_takeRegisters_16 : decode b_Fr_takeRegisters 16 = .ok (.aload_n 1, 1) := by decide +kernel
theorem d_Fr_takeRegisters_17 : decode b_Fr_takeRegisters 17 = .ok (.getfield 15, 3) := by decide +kernel
theorem d_Fr_takeRegisters_20 : decode b_Fr_takeRegisters 20 = .ok (.putfield 15, 3) := by decide +kernel
theorem d_Fr_takeRegisters_23 : decode b_Fr_takeRegisters 23 = .ok (.return_, 1) := by decide +kernel
theorem d_In_readBlock_0 : decode b_In_readBlock 0 = .ok (.aload_n 0, 1) := by decide +kernel
theorem d_In_readBlock_1 : decode b_In_readBlock 1 = .ok (.aload_n 1, 1) := by decide +kernel
theorem d_In_readBlock_2 : decode b_In_readBlock 2 = .ok (.invokevirtual 30, 3) := by decide +kernel
theorem d_In_readBlock_5 : decode b_In_readBlock 5 = .ok (.putfield 21, 3) := by decide +kernel
theorem d_In_readBlock_8 : decode b_In_readBlock 8 = .ok (.aload_n 0, 1) := by decide +kernel
theorem d_In_readBlock_9 : decode b_In_readBlock 9 = .ok (.aload_n 1, 1) := by decide +kernel
theorem d_In_readBlock_10 : decode b_In_readBlock 10 = .ok (.getfield 49, 3) := by decide +kernel
theorem d_In_readBlock_13 : decode b_In_readBlock 13 = .ok (.putfield 24, 3) := by decide +kernel
theorem d_In_readBlock_16 : decode b_In_readBlock 16 = .ok (.aload_n 1, 1) := by decide +kernel
theorem d_In_readBlock_17 : decode b_In_readBlock 17 = .ok (.aload_n 0, 1) := by decide +kernel
theorem d_In_readBlock_18 : decode b_In_readBlock 18 = .ok (.getfield 21, 3) := by decide +kernel
theorem d_In_readBlock_21 : decode b_In_readBlock 21 = .ok (.invokevirtual 52, 3) := by decide +kernel
theorem d_In_readBlock_24 : decode b_In_readBlock 24 = .ok (.return_, 1) := by decide +kernel
theorem d_In_readOperands_0 : decode b_In_readOperands 0 = .ok (.aload_n 0, 1) := by decide +kernel
theorem d_In_readOperands_1 : decode b_In_readOperands 1 = .ok (.getfield 27, 3) := by decide +kernel
theorem d_In_readOperands_4 : decode b_In_readOperands 4 = .ok (.tableswitch 269 0 22 #[108, 132, 110, 121, 132, 153, 143, 143, 143, 189, 108, 108, 153, 143, 227, 262, 247, 171, 171, 237, 153, 171, 247], 108) := by decide +kernel
theorem d_In_readOperands_112 : decode b_In_readOperands 112 = .ok (.iconst 1, 1) := by decide +kernel
theorem d_In_readOperands_113 : decode b_In_readOperands 113 = .ok (.ireturn, 1) := by decide +kernel
theorem d_In_readOperands_114 : decode b_In_readOperands 114 = .ok (.aload_n 0, 1) := by decide +kernel
theorem d_In_readOperands_115 : decode b_In_readOperands 115 = .ok (.aload_n 1, 1) := by decide +kernel
theorem d_In_readOperands_116 : decode b_In_readOperands 116 = .ok (.iconst 1, 1) := by decide +kernel
theorem d_In_readOperands_117 : decode b_In_readOperands 117 = .ok (.invokevirtual 9, 3) := by decide +kernel
theorem d_In_readOperands_120 : decode b_In_readOperands 120 = .ok (.putfield 21, 3) := by decide +kernel
theorem d_In_readOperands_123 : decode b_In_readOperands 123 = .ok (.iconst 1, 1) := by decide +kernel
theorem d_In_readOperands_124 : decode b_In_readOperands 124 = .ok (.ireturn, 1) := by decide +kernel
theorem d_In_readOperands_125 : decode b_In_readOperands 125 = .ok (.aload_n 0, 1) := by decide +kernel
theorem d_In_readOperands_126 : decode b_In_readOperands 126 = .ok (.aload_n 1, 1) := by decide +kernel
theorem d_In_readOperands_127 : decode b_In_readOperands 127 = .ok (.iconst 2, 1) := by decide +kernel
theorem d_In_readOperands_128 : decode b_In_readOperands 128 = .ok (.invokevirtual 9, 3) := by decide +kernel
theorem d_In_readOperands_131 : decode b_In_readOperands 131 = .ok (.putfield 21, 3) := by decide +kernel
theorem d_In_readOperands_134 : decode b_In_readOperands 134 = .ok (.iconst 1, 1) := by decide +kernel
theorem d_In_readOperands_135 : decode b_In_readOperands 135 = .ok (.ireturn, 1) := by decide +kernel
theorem d_In_readOperands_136 : decode b_In_readOperands 136 = .ok (.aload_n 0, 1) := by decide +kernel
theorem d_In_readOperands_137 : decode b_In_readOperands 137 = .ok (.aload_n 1, 1) := by decide +kernel
theorem d_In_readOperands_138 : decode b_In_readOperands 138 = .ok (.iconst 4, 1) := by decide +kernel
theorem d_In_readOperands_139 : decode b_In_readOperands 139 = .ok (.invokevirtual 9, 3) := by decide +kernel
theorem d_In_readOperands_142 : decode b_In_readOperands 142 = .ok (.putfield 21, 3) := by decide +kernel
theorem d_In_readOperands_145 : decode b_In_readOperands 145 = .ok (.iconst 1, 1) := by decide +kernel
theorem d_In_readOperands_146 : decode b_In_readOperands 146 = .ok (.ireturn, 1) := by decide +kernel
theorem d_In_readOperands_147 : decode b_In_readOperands 147 = .ok (.aload_n 0, 1) := by decide +kernel
theorem d_In_readOperands_148 : decode b_In_readOperands 148 = .ok (.aload_n 1, 1) := by decide +kernel
theorem d_In_readOperands_149 : decode b_In_readOperands 149 = .ok (.invokevirtual 30, 3) := by decide +kernel
theorem d_In_readOperands_152 : decode b_In_readOperands 152 = .ok (.putfield 15, 3) := by decide +kernel
theorem d_In_readOperands_155 : decode b_In_readOperands 155 = .ok (.iconst 1, 1) := by decide +kernel
theorem d_In_readOperands_156 : decode b_In_readOperands 156 = .ok (.ireturn, 1) := by decide +kernel
theorem d_In_readOperands_157 : decode b_In_readOperands 157 = .ok (.aload_n 0, 1) := by decide +kernel
theorem d_In_readOperands_158 : decode b_In_readOperands 158 = .ok (.aload_n 1, 1) := by decide +kernel
theorem d_In_readOperands_159 : decode b_In_readOperands 159 = .ok (.invokevirtual 30, 3) := by decide +kernel
theorem d_In_readOperands_162 : decode b_In_readOperands 162 = .ok (.putfield 15, 3) := by decide +kernel
theorem d_In_readOperands_165 : decode b_In_readOperands 165 = .ok (.aload_n 0, 1) := by decide +kernel
theorem d_In_readOperands_166 : decode b_In_readOperands 166 = .ok (.aload_n 1, 1) := by decide +kernel
theorem d_In_readOperands_167 : decode b_In_readOperands 167 = .ok (.invokevirtual 30, 3) := by decide +kernel
theorem d_In_readOperands_170 : decode b_In_readOperands 170 = .ok (.putfield 21, 3) := by decide +kernel
theorem d_In_readOperands_173 : decode b_In_readOperands 173 = .ok (.iconst 1, 1) := by decide +kernel
theorem d_In_readOperands_174 : decode b_In_readOperands 174 = .ok (.ireturn, 1) := by decide +kernel
theorem d_In_readOperands_175 : decode b_In_readOperands 175 = .ok (.aload_n 0, 1) := by decide +kernel
theorem d_In_readOperands_176 : decode b_In_readOperands 176 = .ok (.aload_n 1, 1) := by decide +kernel
theorem d_In_readOperands_177 : decode b_In_readOperands 177 = .ok (.invokevirtual 30, 3) := by decide +kernel
theorem d_In_readOperands_180 : decode b_In_readOperands 180 = .ok (.putfield 15, 3) := by decide +kernel
theorem d_In_readOperands_183 : decode b_In_readOperands 183 = .ok (.aload_n 0, 1) := by decide +kernel
theorem d_In_readOperands_184 : decode b_In_readOperands 184 = .ok (.aload_n 1, 1) := by decide +kernel
theorem d_In_readOperands_185 : decode b_In_readOperands 185 = .ok (.invokevirtual 42, 3) := by decide +kernel
theorem d_In_readOperands_188 : decode b_In_readOperands 188 = .ok (.putfield 21, 3) := by decide +kernel
theorem d_In_readOperands_191 : decode b_In_readOperands 191 = .ok (.iconst 1, 1) := by decide +kernel
theorem d_In_readOperands_192 : decode b_In_readOperands 192 = .ok (.ireturn, 1) := by decide +kernel
theorem d_In_readOperands_193 : decode b_In_readOperands 193 = .ok (.aload_n 0, 1) := by decide +kernel
theorem d_In_readOperands_194 : decode b_In_readOperands 194 = .ok (.aload_n 1, 1) := by decide +kernel
theorem d_In_readOperands_195 : decode b_In_readOperands 195 = .ok (.invokevirtual 30, 3) := by decide +kernel
theorem d_In_readOperands_198 : decode b_In_readOperands 198 = .ok (.putfield 15, 3) := by decide +kernel
theorem d_In_readOperands_201 : decode b_In_readOperands 201 = .ok (.aload_n 0, 1) := by decide +kernel
theorem d_In_readOperands_202 : decode b_In_readOperands 202 = .ok (.aload_n 1, 1) := by decide +kernel
theorem d_In_readOperands_203 : decode b_In_readOperands 203 = .ok (.invokevirtual 30, 3) := by decide +kernel
theorem d_In_readOperands_206 : decode b_In_readOperands 206 = .ok (.putfield 21, 3) := by decide +kernel
theorem d_In_readOperands_209 : decode b_In_readOperands 209 = .ok (.aload_n 0, 1) := by decide +kernel
theorem d_In_readOperands_210 : decode b_In_readOperands 210 = .ok (.getfield 21, 3) := by decide +kernel
theorem d_In_readOperands_213 : decode b_In_readOperands 213 = .ok (.ifCond .lt 16, 3) := by decide +kernel
theorem d_In_readOperands_216 : decode b_In_readOperands 216 = .ok (.aload_n 0, 1) := by decide +kernel
theorem d_In_readOperands_217 : decode b_In_readOperands 217 = .ok (.getfield 21, 3) := by decide +kernel
theorem d_In_readOperands_220 : decode b_In_readOperands 220 = .ok (.bipush 8, 2) := by decide +kernel
theorem d_In_readOperands_222 : decode b_In_readOperands 222 = .ok (.if_icmp .ge 7, 3) := by decide +kernel
theorem d_In_readOperands_225 : decode b_In_readOperands 225 = .ok (.iconst 1, 1) := by decide +kernel
theorem d_In_readOperands_226 : decode b_In_readOperands 226 = .ok (.goto 4, 3) := by decide +kernel
theorem d_In_readOperands_229 : decode b_In_readOperands 229 = .ok (.iconst 0, 1) := by decide +kernel
theorem d_In_readOperands_230 : decode b_In_readOperands 230 = .ok (.ireturn, 1) := by decide +kernel
theorem d_In_readOperands_231 : decode b_In_readOperands 231 = .ok (.aload_n 0, 1) := by decide +kernel
theorem d_In_readOperands_232 : decode b_In_readOperands 232 = .ok (.aload_n 1, 1) := by decide +kernel
theorem d_In_readOperands_233 : decode b_In_readOperands 233 = .ok (.invokevirtual 30, 3) := by decide +kernel
theorem d_In_readOperands_236 : decode b_In_readOperands 236 = .ok (.putfield 21, 3) := by decide +kernel
theorem d_In_readOperands_239 : decode b_In_readOperands 239 = .ok (.iconst 1, 1) := by decide +kernel
theorem d_In_readOperands_240 : decode b_In_readOperands 240 = .ok (.ireturn, 1) := by decide +kernel
theorem d_In_readOperands_241 : decode b_In_readOperands 241 = .ok (.aload_n 0, 1) := by decide +kernel
theorem d_In_readOperands_242 : decode b_In_readOperands 242 = .ok (.aload_n 1, 1) := by decide +kernel
theorem d_In_readOperands_243 : decode b_In_readOperands 243 = .ok (.invokevirtual 42, 3) := by decide +kernel
theorem d_In_readOperands_246 : decode b_In_readOperands 246 = .ok (.putfield 21, 3) := by decide +kernel
theorem d_In_readOperands_249 : decode b_In_readOperands 249 = .ok (.iconst 1, 1) := by decide +kernel
theorem d_In_readOperands_250 : decode b_In_readOperands 250 = .ok (.ireturn, 1) := by decide +kernel
theorem d_In_readOperands_251 : decode b_In_readOperands 251 = .ok (.aload_n 0, 1) := by decide +kernel
theorem d_In_readOperands_252 : decode b_In_readOperands 252 = .ok (.aload_n 1, 1) := by decide +kernel
theorem d_In_readOperands_253 : decode b_In_readOperands 253 = .ok (.invokevirtual 30, 3) := by decide +kernel
theorem d_In_readOperands_256 : decode b_In_readOperands 256 = .ok (.putfield 15, 3) := by decide +kernel
theorem d_In_readOperands_259 : decode b_In_readOperands 259 = .ok (.aload_n 0, 1) := by decide +kernel
theorem d_In_readOperands_260 : decode b_In_readOperands 260 = .ok (.aload_n 1, 1) := by decide +kernel
theorem d_In_readOperands_261 : decode b_In_readOperands 261 = .ok (.invokevirtual 45, 3) := by decide +kernel
theorem d_In_readOperands_264 : decode b_In_readOperands 264 = .ok (.iconst 1, 1) := by decide +kernel
theorem d_In_readOperands_265 : decode b_In_readOperands 265 = .ok (.ireturn, 1) := by decide +kernel
theorem d_In_readOperands_266 : decode b_In_readOperands 266 = .ok (.aload_n 0, 1) := by decide +kernel
theorem d_In_readOperands_267 : decode b_In_readOperands 267 = .ok (.aload_n 1, 1) := by decide +kernel
theorem d_In_readOperands_268 : decode b_In_readOperands 268 = .ok (.invokevirtual 45, 3) := by decide +kernel
theorem d_In_readOperands_271 : decode b_In_readOperands 271 = .ok (.iconst 1, 1) := by decide +kernel
theorem d_In_readOperands_272 : decode b_In_readOperands 272 = .ok (.ireturn, 1) := by decide +kernel
theorem d_In_readOperands_273 : decode b_In_readOperands 273 = .ok (.iconst 0, 1) := by decide +kernel
theorem d_In_readOperands_274 : decode b_In_readOperands 274 = .ok (.ireturn, 1) := by decide +kernel
