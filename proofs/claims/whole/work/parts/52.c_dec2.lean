theorem d_Lw_law_182 : decode b_Lw_law 182 = .ok (.iaload, 1) := by decide +kernel
theorem d_Lw_law_183 : decode b_Lw_law 183 = .ok (.invokevirtual 71, 3) := by decide +kernel
theorem d_Lw_law_186 : decode b_Lw_law 186 = .ok (.aload_n 2, 1) := by decide +kernel
theorem d_Lw_law_187 : decode b_Lw_law 187 = .ok (.invokevirtual 64, 3) := by decide +kernel
theorem d_Lw_law_190 : decode b_Lw_law 190 = .ok (.iload 5, 2) := by decide +kernel
theorem d_Lw_law_192 : decode b_Lw_law 192 = .ok (.if_icmp .eq 5, 3) := by decide +kernel
theorem d_Lw_law_195 : decode b_Lw_law 195 = .ok (.iconst 0, 1) := by decide +kernel
theorem d_Lw_law_196 : decode b_Lw_law 196 = .ok (.ireturn, 1) := by decide +kernel
theorem d_Lw_law_197 : decode b_Lw_law 197 = .ok (.goto 557, 3) := by decide +kernel
theorem d_Lw_law_200 : decode b_Lw_law 200 = .ok (.aload_n 1, 1) := by decide +kernel
theorem d_Lw_law_201 : decode b_Lw_law 201 = .ok (.aload_n 0, 1) := by decide +kernel
theorem d_Lw_law_202 : decode b_Lw_law 202 = .ok (.iload 4, 2) := by decide +kernel
theorem d_Lw_law_204 : decode b_Lw_law 204 = .ok (.iconst 1, 1) := by decide +kernel
theorem d_Lw_law_205 : decode b_Lw_law 205 = .ok (.iadd, 1) := by decide +kernel
theorem d_Lw_law_206 : decode b_Lw_law 206 = .ok (.iaload, 1) := by decide +kernel
theorem d_Lw_law_207 : decode b_Lw_law 207 = .ok (.aload_n 0, 1) := by decide +kernel
theorem d_Lw_law_208 : decode b_Lw_law 208 = .ok (.iload 4, 2) := by decide +kernel
theorem d_Lw_law_210 : decode b_Lw_law 210 = .ok (.iconst 2, 1) := by decide +kernel
theorem d_Lw_law_211 : decode b_Lw_law 211 = .ok (.iadd, 1) := by decide +kernel
theorem d_Lw_law_212 : decode b_Lw_law 212 = .ok (.iaload, 1) := by decide +kernel
theorem d_Lw_law_213 : decode b_Lw_law 213 = .ok (.aload_n 3, 1) := by decide +kernel
theorem d_Lw_law_214 : decode b_Lw_law 214 = .ok (.invokestatic 72, 3) := by decide +kernel
theorem d_Lw_law_217 : decode b_Lw_law 217 = .ok (.istore 5, 2) := by decide +kernel
theorem d_Lw_law_219 : decode b_Lw_law 219 = .ok (.aload_n 2, 1) := by decide +kernel
theorem d_Lw_law_220 : decode b_Lw_law 220 = .ok (.aload_n 0, 1) := by decide +kernel
theorem d_Lw_law_221 : decode b_Lw_law 221 = .ok (.iload 4, 2) := by decide +kernel
theorem d_Lw_law_223 : decode b_Lw_law 223 = .ok (.iconst 1, 1) := by decide +kernel
theorem d_Lw_law_224 : decode b_Lw_law 224 = .ok (.iadd, 1) := by decide +kernel
theorem d_Lw_law_225 : decode b_Lw_law 225 = .ok (.iaload, 1) := by decide +kernel
theorem d_Lw_law_226 : decode b_Lw_law 226 = .ok (.aload_n 0, 1) := by decide +kernel
theorem d_Lw_law_227 : decode b_Lw_law 227 = .ok (.iload 4, 2) := by decide +kernel
theorem d_Lw_law_229 : decode b_Lw_law 229 = .ok (.iconst 2, 1) := by decide +kernel
theorem d_Lw_law_230 : decode b_Lw_law 230 = .ok (.iadd, 1) := by decide +kernel
theorem d_Lw_law_231 : decode b_Lw_law 231 = .ok (.iaload, 1) := by decide +kernel
theorem d_Lw_law_232 : decode b_Lw_law 232 = .ok (.invokevirtual 75, 3) := by decide +kernel
theorem d_Lw_law_235 : decode b_Lw_law 235 = .ok (.istore 6, 2) := by decide +kernel
theorem d_Lw_law_237 : decode b_Lw_law 237 = .ok (.aload_n 2, 1) := by decide +kernel
theorem d_Lw_law_238 : decode b_Lw_law 238 = .ok (.invokevirtual 64, 3) := by decide +kernel
theorem d_Lw_law_241 : decode b_Lw_law 241 = .ok (.iload 5, 2) := by decide +kernel
theorem d_Lw_law_243 : decode b_Lw_law 243 = .ok (.if_icmp .eq 5, 3) := by decide +kernel
theorem d_Lw_law_246 : decode b_Lw_law 246 = .ok (.iconst 0, 1) := by decide +kernel
theorem d_Lw_law_247 : decode b_Lw_law 247 = .ok (.ireturn, 1) := by decide +kernel
theorem d_Lw_law_248 : decode b_Lw_law 248 = .ok (.iload 5, 2) := by decide +kernel
theorem d_Lw_law_250 : decode b_Lw_law 250 = .ok (.ifCond .ne 15, 3) := by decide +kernel
theorem d_Lw_law_253 : decode b_Lw_law 253 = .ok (.aload_n 3, 1) := by decide +kernel
theorem d_Lw_law_254 : decode b_Lw_law 254 = .ok (.iconst 0, 1) := by decide +kernel
theorem d_Lw_law_255 : decode b_Lw_law 255 = .ok (.laload, 1) := by decide +kernel
theorem d_Lw_law_256 : decode b_Lw_law 256 = .ok (.iload 6, 2) := by decide +kernel
theorem d_Lw_law_258 : decode b_Lw_law 258 = .ok (.i2l, 1) := by decide +kernel
theorem d_Lw_law_259 : decode b_Lw_law 259 = .ok (.lcmp, 1) := by decide +kernel
theorem d_Lw_law_260 : decode b_Lw_law 260 = .ok (.ifCond .eq 5, 3) := by decide +kernel
theorem d_Lw_law_263 : decode b_Lw_law 263 = .ok (.iconst 0, 1) := by decide +kernel
theorem d_Lw_law_264 : decode b_Lw_law 264 = .ok (.ireturn, 1) := by decide +kernel
theorem d_Lw_law_265 : decode b_Lw_law 265 = .ok (.goto 489, 3) := by decide +kernel
theorem d_Lw_law_268 : decode b_Lw_law 268 = .ok (.aload_n 1, 1) := by decide +kernel
theorem d_Lw_law_269 : decode b_Lw_law 269 = .ok (.invokevirtual 76, 3) := by decide +kernel
theorem d_Lw_law_272 : decode b_Lw_law 272 = .ok (.aload_n 2, 1) := by decide +kernel
theorem d_Lw_law_273 : decode b_Lw_law 273 = .ok (.invokevirtual 79, 3) := by decide +kernel
theorem d_Lw_law_276 : decode b_Lw_law 276 = .ok (.if_icmp .eq 478, 3) := by decide +kernel
theorem d_Lw_law_279 : decode b_Lw_law 279 = .ok (.iconst 0, 1) := by decide +kernel
