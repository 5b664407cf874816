theorem d_Rk_familyOf_0 : decode b_Rk_familyOf 0 = .ok (.iload_n 1, 1) := by decide +kernel
theorem d_Rk_familyOf_1 : decode b_Rk_familyOf 1 = .ok (.invokestatic 94, 3) := by decide +kernel
theorem d_Rk_familyOf_4 : decode b_Rk_familyOf 4 = .ok (.ifCond .ne 10, 3) := by decide +kernel
theorem d_Rk_familyOf_7 : decode b_Rk_familyOf 7 = .ok (.iload_n 1, 1) := by decide +kernel
theorem d_Rk_familyOf_8 : decode b_Rk_familyOf 8 = .ok (.invokestatic 98, 3) := by decide +kernel
theorem d_Rk_familyOf_11 : decode b_Rk_familyOf 11 = .ok (.ifCond .eq 5, 3) := by decide +kernel
theorem d_Rk_familyOf_14 : decode b_Rk_familyOf 14 = .ok (.iconst 2, 1) := by decide +kernel
theorem d_Rk_familyOf_15 : decode b_Rk_familyOf 15 = .ok (.ireturn, 1) := by decide +kernel
theorem d_Rk_familyOf_16 : decode b_Rk_familyOf 16 = .ok (.iload_n 1, 1) := by decide +kernel
theorem d_Rk_familyOf_17 : decode b_Rk_familyOf 17 = .ok (.lookupswitch 219 #[(3, 195), (6, 210), (8, 195), (9, 195), (10, 195), (11, 195), (13, 195), (16, 195), (17, 195), (18, 195), (19, 212), (20, 195), (21, 195), (22, 212), (23, 212), (25, 210), (31, 210), (32, 210), (35, 210), (40, 214), (47, 214), (150, 217), (156, 197)], 195) := by decide +kernel
theorem d_Rk_familyOf_212 : decode b_Rk_familyOf 212 = .ok (.iconst 2, 1) := by decide +kernel
theorem d_Rk_familyOf_213 : decode b_Rk_familyOf 213 = .ok (.ireturn, 1) := by decide +kernel
theorem d_Rk_familyOf_214 : decode b_Rk_familyOf 214 = .ok (.aload_n 0, 1) := by decide +kernel
theorem d_Rk_familyOf_215 : decode b_Rk_familyOf 215 = .ok (.getfield 31, 3) := by decide +kernel
theorem d_Rk_familyOf_218 : decode b_Rk_familyOf 218 = .ok (.ifCond .eq 7, 3) := by decide +kernel
theorem d_Rk_familyOf_221 : decode b_Rk_familyOf 221 = .ok (.iconst 2, 1) := by decide +kernel
theorem d_Rk_familyOf_222 : decode b_Rk_familyOf 222 = .ok (.goto 4, 3) := by decide +kernel
theorem d_Rk_familyOf_225 : decode b_Rk_familyOf 225 = .ok (.iconst 0, 1) := by decide +kernel
theorem d_Rk_familyOf_226 : decode b_Rk_familyOf 226 = .ok (.ireturn, 1) := by decide +kernel
theorem d_Rk_familyOf_227 : decode b_Rk_familyOf 227 = .ok (.iconst 3, 1) := by decide +kernel
theorem d_Rk_familyOf_228 : decode b_Rk_familyOf 228 = .ok (.ireturn, 1) := by decide +kernel
theorem d_Rk_familyOf_229 : decode b_Rk_familyOf 229 = .ok (.iconst 5, 1) := by decide +kernel
theorem d_Rk_familyOf_230 : decode b_Rk_familyOf 230 = .ok (.ireturn, 1) := by decide +kernel
theorem d_Rk_familyOf_231 : decode b_Rk_familyOf 231 = .ok (.bipush 6, 2) := by decide +kernel
theorem d_Rk_familyOf_233 : decode b_Rk_familyOf 233 = .ok (.ireturn, 1) := by decide +kernel
theorem d_Rk_familyOf_234 : decode b_Rk_familyOf 234 = .ok (.iconst 1, 1) := by decide +kernel
theorem d_Rk_familyOf_235 : decode b_Rk_familyOf 235 = .ok (.ireturn, 1) := by decide +kernel
theorem d_Rk_familyOf_236 : decode b_Rk_familyOf 236 = .ok (.iload_n 1, 1) := by decide +kernel
theorem d_Rk_familyOf_237 : decode b_Rk_familyOf 237 = .ok (.bipush 26, 2) := by decide +kernel
theorem d_Rk_familyOf_239 : decode b_Rk_familyOf 239 = .ok (.if_icmp .lt 13, 3) := by decide +kernel
theorem d_Rk_familyOf_242 : decode b_Rk_familyOf 242 = .ok (.iload_n 1, 1) := by decide +kernel
theorem d_Rk_familyOf_243 : decode b_Rk_familyOf 243 = .ok (.bipush 46, 2) := by decide +kernel
theorem d_Rk_familyOf_245 : decode b_Rk_familyOf 245 = .ok (.if_icmp .gt 7, 3) := by decide +kernel
theorem d_Rk_familyOf_248 : decode b_Rk_familyOf 248 = .ok (.iconst 4, 1) := by decide +kernel
theorem d_Rk_familyOf_249 : decode b_Rk_familyOf 249 = .ok (.goto 4, 3) := by decide +kernel
theorem d_Rk_familyOf_252 : decode b_Rk_familyOf 252 = .ok (.iconst 0, 1) := by decide +kernel
theorem d_Rk_familyOf_253 : decode b_Rk_familyOf 253 = .ok (.ireturn, 1) := by decide +kernel
theorem d_Rk_operandOf_0 : decode b_Rk_operandOf 0 = .ok (.iload_n 1, 1) := by decide +kernel
theorem d_Rk_operandOf_1 : decode b_Rk_operandOf 1 = .ok (.invokestatic 98, 3) := by decide +kernel
theorem d_Rk_operandOf_4 : decode b_Rk_operandOf 4 = .ok (.ifCond .eq 11, 3) := by decide +kernel
theorem d_Rk_operandOf_7 : decode b_Rk_operandOf 7 = .ok (.aload_n 0, 1) := by decide +kernel
theorem d_Rk_operandOf_8 : decode b_Rk_operandOf 8 = .ok (.getfield 9, 3) := by decide +kernel
theorem d_Rk_operandOf_11 : decode b_Rk_operandOf 11 = .ok (.invokevirtual 101, 3) := by decide +kernel
theorem d_Rk_operandOf_14 : decode b_Rk_operandOf 14 = .ok (.ireturn, 1) := by decide +kernel
theorem d_Rk_operandOf_15 : decode b_Rk_operandOf 15 = .ok (.iload_n 1, 1) := by decide +kernel
theorem d_Rk_operandOf_16 : decode b_Rk_operandOf 16 = .ok (.tableswitch 257 3 47 #[232, 257, 257, 257, 257, 196, 205, 214, 223, 257, 232, 257, 257, 241, 249, 257, 257, 257, 196, 257, 257, 257, 257, 257, 257, 257, 257, 257, 257, 257, 257, 257, 241, 257, 257, 257, 257, 223, 257, 257, 257, 257, 257, 257, 223], 196) := by decide +kernel
theorem d_Rk_operandOf_212 : decode b_Rk_operandOf 212 = .ok (.aload_n 0, 1) := by decide +kernel
theorem d_Rk_operandOf_213 : decode b_Rk_operandOf 213 = .ok (.getfield 9, 3) := by decide +kernel
theorem d_Rk_operandOf_216 : decode b_Rk_operandOf 216 = .ok (.iconst 1, 1) := by decide +kernel
theorem d_Rk_operandOf_217 : decode b_Rk_operandOf 217 = .ok (.invokevirtual 61, 3) := by decide +kernel
theorem d_Rk_operandOf_220 : decode b_Rk_operandOf 220 = .ok (.ireturn, 1) := by decide +kernel
theorem d_Rk_operandOf_221 : decode b_Rk_operandOf 221 = .ok (.aload_n 0, 1) := by decide +kernel
theorem d_Rk_operandOf_222 : decode b_Rk_operandOf 222 = .ok (.getfield 9, 3) := by decide +kernel
theorem d_Rk_operandOf_225 : decode b_Rk_operandOf 225 = .ok (.iconst 1, 1) := by decide +kernel
theorem d_Rk_operandOf_226 : decode b_Rk_operandOf 226 = .ok (.invokevirtual 104, 3) := by decide +kernel
theorem d_Rk_operandOf_229 : decode b_Rk_operandOf 229 = .ok (.ireturn, 1) := by decide +kernel
theorem d_Rk_operandOf_230 : decode b_Rk_operandOf 230 = .ok (.aload_n 0, 1) := by decide +kernel
theorem d_Rk_operandOf_231 : decode b_Rk_operandOf 231 = .ok (.getfield 9, 3) := by decide +kernel
theorem d_Rk_operandOf_234 : decode b_Rk_operandOf 234 = .ok (.iconst 2, 1) := by decide +kernel
theorem d_Rk_operandOf_235 : decode b_Rk_operandOf 235 = .ok (.invokevirtual 61, 3) := by decide +kernel
theorem d_Rk_operandOf_238 : decode b_Rk_operandOf 238 = .ok (.ireturn, 1) := by decide +kernel
theorem d_Rk_operandOf_239 : decode b_Rk_operandOf 239 = .ok (.aload_n 0, 1) := by decide +kernel
theorem d_Rk_operandOf_240 : decode b_Rk_operandOf 240 = .ok (.getfield 9, 3) := by decide +kernel
theorem d_Rk_operandOf_243 : decode b_Rk_operandOf 243 = .ok (.iconst 2, 1) := by decide +kernel
theorem d_Rk_operandOf_244 : decode b_Rk_operandOf 244 = .ok (.invokevirtual 104, 3) := by decide +kernel
theorem d_Rk_operandOf_247 : decode b_Rk_operandOf 247 = .ok (.ireturn, 1) := by decide +kernel
theorem d_Rk_operandOf_248 : decode b_Rk_operandOf 248 = .ok (.aload_n 0, 1) := by decide +kernel
theorem d_Rk_operandOf_249 : decode b_Rk_operandOf 249 = .ok (.getfield 9, 3) := by decide +kernel
theorem d_Rk_operandOf_252 : decode b_Rk_operandOf 252 = .ok (.iconst 4, 1) := by decide +kernel
theorem d_Rk_operandOf_253 : decode b_Rk_operandOf 253 = .ok (.invokevirtual 61, 3) := by decide +kernel
theorem d_Rk_operandOf_256 : decode b_Rk_operandOf 256 = .ok (.ireturn, 1) := by decide +kernel
theorem d_Rk_operandOf_257 : decode b_Rk_operandOf 257 = .ok (.aload_n 0, 1) := by decide +kernel
theorem d_Rk_operandOf_258 : decode b_Rk_operandOf 258 = .ok (.getfield 9, 3) := by decide +kernel
theorem d_Rk_operandOf_261 : decode b_Rk_operandOf 261 = .ok (.invokevirtual 107, 3) := by decide +kernel
theorem d_Rk_operandOf_264 : decode b_Rk_operandOf 264 = .ok (.ireturn, 1) := by decide +kernel
theorem d_Rk_operandOf_265 : decode b_Rk_operandOf 265 = .ok (.aload_n 0, 1) := by decide +kernel
theorem d_Rk_operandOf_266 : decode b_Rk_operandOf 266 = .ok (.getfield 9, 3) := by decide +kernel
theorem d_Rk_operandOf_269 : decode b_Rk_operandOf 269 = .ok (.invokevirtual 101, 3) := by decide +kernel
theorem d_Rk_operandOf_272 : decode b_Rk_operandOf 272 = .ok (.ireturn, 1) := by decide +kernel
theorem d_Rk_operandOf_273 : decode b_Rk_operandOf 273 = .ok (.iconst 0, 1) := by decide +kernel
theorem d_Rk_operandOf_274 : decode b_Rk_operandOf 274 = .ok (.ireturn, 1) := by decide +kernel
theorem d_Rk_pushFor_0 : decode b_Rk_pushFor 0 = .ok (.iload_n 1, 1) := by decide +kernel
theorem d_Rk_pushFor_1 : decode b_Rk_pushFor 1 = .ok (.iload_n 2, 1) := by decide +kernel
theorem d_Rk_pushFor_2 : decode b_Rk_pushFor 2 = .ok (.invokestatic 110, 3) := by decide +kernel
theorem d_Rk_pushFor_5 : decode b_Rk_pushFor 5 = .ok (.istore_n 3, 1) := by decide +kernel
theorem d_Rk_pushFor_6 : decode b_Rk_pushFor 6 = .ok (.iload_n 3, 1) := by decide +kernel
theorem d_Rk_pushFor_7 : decode b_Rk_pushFor 7 = .ok (.ifCond .lt 23, 3) := by decide +kernel
theorem d_Rk_pushFor_10 : decode b_Rk_pushFor 10 = .ok (.aload_n 0, 1) := by decide +kernel
theorem d_Rk_pushFor_11 : decode b_Rk_pushFor 11 = .ok (.aload_n 0, 1) := by decide +kernel
theorem d_Rk_pushFor_12 : decode b_Rk_pushFor 12 = .ok (.getfield 23, 3) := by decide +kernel
theorem d_Rk_pushFor_15 : decode b_Rk_pushFor 15 = .ok (.aload_n 0, 1) := by decide +kernel
theorem d_Rk_pushFor_16 : decode b_Rk_pushFor 16 = .ok (.getfield 27, 3) := by decide +kernel
theorem d_Rk_pushFor_19 : decode b_Rk_pushFor 19 = .ok (.iconst 1, 1) := by decide +kernel
theorem d_Rk_pushFor_20 : decode b_Rk_pushFor 20 = .ok (.isub, 1) := by decide +kernel
theorem d_Rk_pushFor_21 : decode b_Rk_pushFor 21 = .ok (.iload_n 3, 1) := by decide +kernel
theorem d_Rk_pushFor_22 : decode b_Rk_pushFor 22 = .ok (.isub, 1) := by decide +kernel
theorem d_Rk_pushFor_23 : decode b_Rk_pushFor 23 = .ok (.iaload, 1) := by decide +kernel
theorem d_Rk_pushFor_24 : decode b_Rk_pushFor 24 = .ok (.invokevirtual 38, 3) := by decide +kernel
theorem d_Rk_pushFor_27 : decode b_Rk_pushFor 27 = .ok (.goto 90, 3) := by decide +kernel
theorem d_Rk_pushFor_30 : decode b_Rk_pushFor 30 = .ok (.iload_n 1, 1) := by decide +kernel
theorem d_Rk_pushFor_31 : decode b_Rk_pushFor 31 = .ok (.invokestatic 94, 3) := by decide +kernel
theorem d_Rk_pushFor_34 : decode b_Rk_pushFor 34 = .ok (.ifCond .eq 14, 3) := by decide +kernel
theorem d_Rk_pushFor_37 : decode b_Rk_pushFor 37 = .ok (.aload_n 0, 1) := by decide +kernel
theorem d_Rk_pushFor_38 : decode b_Rk_pushFor 38 = .ok (.iload_n 1, 1) := by decide +kernel
theorem d_Rk_pushFor_39 : decode b_Rk_pushFor 39 = .ok (.bipush 48, 2) := by decide +kernel
theorem d_Rk_pushFor_41 : decode b_Rk_pushFor 41 = .ok (.isub, 1) := by decide +kernel
theorem d_Rk_pushFor_42 : decode b_Rk_pushFor 42 = .ok (.invokevirtual 38, 3) := by decide +kernel
theorem d_Rk_pushFor_45 : decode b_Rk_pushFor 45 = .ok (.goto 72, 3) := by decide +kernel
theorem d_Rk_pushFor_48 : decode b_Rk_pushFor 48 = .ok (.iload_n 1, 1) := by decide +kernel
theorem d_Rk_pushFor_49 : decode b_Rk_pushFor 49 = .ok (.sipush 156, 3) := by decide +kernel
theorem d_Rk_pushFor_52 : decode b_Rk_pushFor 52 = .ok (.if_icmp .ne 14, 3) := by decide +kernel
theorem d_Rk_pushFor_55 : decode b_Rk_pushFor 55 = .ok (.aload_n 0, 1) := by decide +kernel
theorem d_Rk_pushFor_56 : decode b_Rk_pushFor 56 = .ok (.aload_n 0, 1) := by decide +kernel
theorem d_Rk_pushFor_57 : decode b_Rk_pushFor 57 = .ok (.getfield 35, 3) := by decide +kernel
theorem d_Rk_pushFor_60 : decode b_Rk_pushFor 60 = .ok (.invokevirtual 38, 3) := by decide +kernel
theorem d_Rk_pushFor_63 : decode b_Rk_pushFor 63 = .ok (.goto 54, 3) := by decide +kernel
theorem d_Rk_pushFor_66 : decode b_Rk_pushFor 66 = .ok (.iload_n 1, 1) := by decide +kernel
theorem d_Rk_pushFor_67 : decode b_Rk_pushFor 67 = .ok (.invokestatic 98, 3) := by decide +kernel
theorem d_Rk_pushFor_70 : decode b_Rk_pushFor 70 = .ok (.ifCond .eq 42, 3) := by decide +kernel
theorem d_Rk_pushFor_73 : decode b_Rk_pushFor 73 = .ok (.iload_n 1, 1) := by decide +kernel
theorem d_Rk_pushFor_74 : decode b_Rk_pushFor 74 = .ok (.bipush 112, 2) := by decide +kernel
theorem d_Rk_pushFor_76 : decode b_Rk_pushFor 76 = .ok (.isub, 1) := by decide +kernel
theorem d_Rk_pushFor_77 : decode b_Rk_pushFor 77 = .ok (.istore 4, 2) := by decide +kernel
theorem d_Rk_pushFor_79 : decode b_Rk_pushFor 79 = .ok (.aload_n 0, 1) := by decide +kernel
theorem d_Rk_pushFor_80 : decode b_Rk_pushFor 80 = .ok (.getfield 19, 3) := by decide +kernel
theorem d_Rk_pushFor_83 : decode b_Rk_pushFor 83 = .ok (.iload 4, 2) := by decide +kernel
theorem d_Rk_pushFor_85 : decode b_Rk_pushFor 85 = .ok (.invokevirtual 113, 3) := by decide +kernel
theorem d_Rk_pushFor_88 : decode b_Rk_pushFor 88 = .ok (.ifCond .ne 5, 3) := by decide +kernel
theorem d_Rk_pushFor_91 : decode b_Rk_pushFor 91 = .ok (.iconst 4, 1) := by decide +kernel
theorem d_Rk_pushFor_92 : decode b_Rk_pushFor 92 = .ok (.ireturn, 1) := by decide +kernel
theorem d_Rk_pushFor_93 : decode b_Rk_pushFor 93 = .ok (.aload_n 0, 1) := by decide +kernel
theorem d_Rk_pushFor_94 : decode b_Rk_pushFor 94 = .ok (.aload_n 0, 1) := by decide +kernel
theorem d_Rk_pushFor_95 : decode b_Rk_pushFor 95 = .ok (.getfield 19, 3) := by decide +kernel
theorem d_Rk_pushFor_98 : decode b_Rk_pushFor 98 = .ok (.getfield 118, 3) := by decide +kernel
theorem d_Rk_pushFor_101 : decode b_Rk_pushFor 101 = .ok (.iload 4, 2) := by decide +kernel
theorem d_Rk_pushFor_103 : decode b_Rk_pushFor 103 = .ok (.iaload, 1) := by decide +kernel
theorem d_Rk_pushFor_104 : decode b_Rk_pushFor 104 = .ok (.iload_n 2, 1) := by decide +kernel
theorem d_Rk_pushFor_105 : decode b_Rk_pushFor 105 = .ok (.iadd, 1) := by decide +kernel
theorem d_Rk_pushFor_106 : decode b_Rk_pushFor 106 = .ok (.invokevirtual 38, 3) := by decide +kernel
theorem d_Rk_pushFor_109 : decode b_Rk_pushFor 109 = .ok (.goto 8, 3) := by decide +kernel
theorem d_Rk_pushFor_112 : decode b_Rk_pushFor 112 = .ok (.aload_n 0, 1) := by decide +kernel
theorem d_Rk_pushFor_113 : decode b_Rk_pushFor 113 = .ok (.iload_n 2, 1) := by decide +kernel
theorem d_Rk_pushFor_114 : decode b_Rk_pushFor 114 = .ok (.invokevirtual 38, 3) := by decide +kernel
theorem d_Rk_pushFor_117 : decode b_Rk_pushFor 117 = .ok (.iconst 0, 1) := by decide +kernel
theorem d_Rk_pushFor_118 : decode b_Rk_pushFor 118 = .ok (.ireturn, 1) := by decide +kernel
