theorem d_Md_entry_0 : decode b_Md_entry 0 = .ok (.aload_n 0, 1) := by decide +kernel
theorem d_Md_entry_1 : decode b_Md_entry 1 = .ok (.getfield 135, 3) := by decide +kernel
theorem d_Md_entry_4 : decode b_Md_entry 4 = .ok (.istore_n 2, 1) := by decide +kernel
theorem d_Md_entry_5 : decode b_Md_entry 5 = .ok (.aload_n 0, 1) := by decide +kernel
theorem d_Md_entry_6 : decode b_Md_entry 6 = .ok (.iconst 4, 1) := by decide +kernel
theorem d_Md_entry_7 : decode b_Md_entry 7 = .ok (.invokevirtual 89, 3) := by decide +kernel
theorem d_Md_entry_10 : decode b_Md_entry 10 = .ok (.istore_n 3, 1) := by decide +kernel
theorem d_Md_entry_11 : decode b_Md_entry 11 = .ok (.aload_n 0, 1) := by decide +kernel
theorem d_Md_entry_12 : decode b_Md_entry 12 = .ok (.getfield 13, 3) := by decide +kernel
theorem d_Md_entry_15 : decode b_Md_entry 15 = .ok (.iload_n 2, 1) := by decide +kernel
theorem d_Md_entry_16 : decode b_Md_entry 16 = .ok (.iload_n 1, 1) := by decide +kernel
theorem d_Md_entry_17 : decode b_Md_entry 17 = .ok (.iastore, 1) := by decide +kernel
theorem d_Md_entry_18 : decode b_Md_entry 18 = .ok (.aload_n 0, 1) := by decide +kernel
theorem d_Md_entry_19 : decode b_Md_entry 19 = .ok (.getfield 16, 3) := by decide +kernel
theorem d_Md_entry_22 : decode b_Md_entry 22 = .ok (.iload_n 2, 1) := by decide +kernel
theorem d_Md_entry_23 : decode b_Md_entry 23 = .ok (.iload_n 3, 1) := by decide +kernel
theorem d_Md_entry_24 : decode b_Md_entry 24 = .ok (.iconst (-1), 1) := by decide +kernel
theorem d_Md_entry_25 : decode b_Md_entry 25 = .ok (.if_icmp .ne 7, 3) := by decide +kernel
theorem d_Md_entry_28 : decode b_Md_entry 28 = .ok (.iconst 1, 1) := by decide +kernel
theorem d_Md_entry_29 : decode b_Md_entry 29 = .ok (.goto 4, 3) := by decide +kernel
theorem d_Md_entry_32 : decode b_Md_entry 32 = .ok (.iconst 0, 1) := by decide +kernel
theorem d_Md_entry_33 : decode b_Md_entry 33 = .ok (.bastore, 1) := by decide +kernel
theorem d_Md_entry_34 : decode b_Md_entry 34 = .ok (.aload_n 0, 1) := by decide +kernel
theorem d_Md_entry_35 : decode b_Md_entry 35 = .ok (.getfield 20, 3) := by decide +kernel
theorem d_Md_entry_38 : decode b_Md_entry 38 = .ok (.iload_n 2, 1) := by decide +kernel
theorem d_Md_entry_39 : decode b_Md_entry 39 = .ok (.iconst (-1), 1) := by decide +kernel
theorem d_Md_entry_40 : decode b_Md_entry 40 = .ok (.iastore, 1) := by decide +kernel
theorem d_Md_entry_41 : decode b_Md_entry 41 = .ok (.iload_n 3, 1) := by decide +kernel
theorem d_Md_entry_42 : decode b_Md_entry 42 = .ok (.iconst (-1), 1) := by decide +kernel
theorem d_Md_entry_43 : decode b_Md_entry 43 = .ok (.if_icmp .ne 10, 3) := by decide +kernel
theorem d_Md_entry_46 : decode b_Md_entry 46 = .ok (.aload_n 0, 1) := by decide +kernel
theorem d_Md_entry_47 : decode b_Md_entry 47 = .ok (.getfield 20, 3) := by decide +kernel
theorem d_Md_entry_50 : decode b_Md_entry 50 = .ok (.iload_n 2, 1) := by decide +kernel
theorem d_Md_entry_51 : decode b_Md_entry 51 = .ok (.iload_n 2, 1) := by decide +kernel
theorem d_Md_entry_52 : decode b_Md_entry 52 = .ok (.iastore, 1) := by decide +kernel
theorem d_Md_entry_53 : decode b_Md_entry 53 = .ok (.iconst 0, 1) := by decide +kernel
theorem d_Md_entry_54 : decode b_Md_entry 54 = .ok (.istore 4, 2) := by decide +kernel
theorem d_Md_entry_56 : decode b_Md_entry 56 = .ok (.iload 4, 2) := by decide +kernel
theorem d_Md_entry_58 : decode b_Md_entry 58 = .ok (.iload_n 2, 1) := by decide +kernel
theorem d_Md_entry_59 : decode b_Md_entry 59 = .ok (.if_icmp .ge 38, 3) := by decide +kernel
theorem d_Md_entry_62 : decode b_Md_entry 62 = .ok (.aload_n 0, 1) := by decide +kernel
theorem d_Md_entry_63 : decode b_Md_entry 63 = .ok (.getfield 16, 3) := by decide +kernel
theorem d_Md_entry_66 : decode b_Md_entry 66 = .ok (.iload 4, 2) := by decide +kernel
theorem d_Md_entry_68 : decode b_Md_entry 68 = .ok (.baload, 1) := by decide +kernel
theorem d_Md_entry_69 : decode b_Md_entry 69 = .ok (.ifCond .eq 22, 3) := by decide +kernel
theorem d_Md_entry_72 : decode b_Md_entry 72 = .ok (.aload_n 0, 1) := by decide +kernel
theorem d_Md_entry_73 : decode b_Md_entry 73 = .ok (.getfield 13, 3) := by decide +kernel
theorem d_Md_entry_76 : decode b_Md_entry 76 = .ok (.iload 4, 2) := by decide +kernel
theorem d_Md_entry_78 : decode b_Md_entry 78 = .ok (.iaload, 1) := by decide +kernel
theorem d_Md_entry_79 : decode b_Md_entry 79 = .ok (.iload_n 3, 1) := by decide +kernel
theorem d_Md_entry_80 : decode b_Md_entry 80 = .ok (.if_icmp .ne 11, 3) := by decide +kernel
theorem d_Md_entry_83 : decode b_Md_entry 83 = .ok (.aload_n 0, 1) := by decide +kernel
theorem d_Md_entry_84 : decode b_Md_entry 84 = .ok (.getfield 20, 3) := by decide +kernel
theorem d_Md_entry_87 : decode b_Md_entry 87 = .ok (.iload_n 2, 1) := by decide +kernel
theorem d_Md_entry_88 : decode b_Md_entry 88 = .ok (.iload 4, 2) := by decide +kernel
theorem d_Md_entry_90 : decode b_Md_entry 90 = .ok (.iastore, 1) := by decide +kernel
theorem d_Md_entry_91 : decode b_Md_entry 91 = .ok (.iinc 4 1, 3) := by decide +kernel
theorem d_Md_entry_94 : decode b_Md_entry 94 = .ok (.goto (-38), 3) := by decide +kernel
theorem d_Md_entry_97 : decode b_Md_entry 97 = .ok (.aload_n 0, 1) := by decide +kernel
theorem d_Md_entry_98 : decode b_Md_entry 98 = .ok (.getfield 20, 3) := by decide +kernel
theorem d_Md_entry_101 : decode b_Md_entry 101 = .ok (.iload_n 2, 1) := by decide +kernel
theorem d_Md_entry_102 : decode b_Md_entry 102 = .ok (.iaload, 1) := by decide +kernel
theorem d_Md_entry_103 : decode b_Md_entry 103 = .ok (.iconst (-1), 1) := by decide +kernel
theorem d_Md_entry_104 : decode b_Md_entry 104 = .ok (.if_icmp .ne 7, 3) := by decide +kernel
theorem d_Md_entry_107 : decode b_Md_entry 107 = .ok (.iload_n 1, 1) := by decide +kernel
theorem d_Md_entry_108 : decode b_Md_entry 108 = .ok (.iconst 4, 1) := by decide +kernel
theorem d_Md_entry_109 : decode b_Md_entry 109 = .ok (.iadd, 1) := by decide +kernel
theorem d_Md_entry_110 : decode b_Md_entry 110 = .ok (.ireturn, 1) := by decide +kernel
theorem d_Md_entry_111 : decode b_Md_entry 111 = .ok (.aload_n 0, 1) := by decide +kernel
theorem d_Md_entry_112 : decode b_Md_entry 112 = .ok (.getfield 16, 3) := by decide +kernel
theorem d_Md_entry_115 : decode b_Md_entry 115 = .ok (.iload_n 2, 1) := by decide +kernel
theorem d_Md_entry_116 : decode b_Md_entry 116 = .ok (.baload, 1) := by decide +kernel
theorem d_Md_entry_117 : decode b_Md_entry 117 = .ok (.ifCond .eq 11, 3) := by decide +kernel
theorem d_Md_entry_120 : decode b_Md_entry 120 = .ok (.aload_n 0, 1) := by decide +kernel
theorem d_Md_entry_121 : decode b_Md_entry 121 = .ok (.iload_n 2, 1) := by decide +kernel
theorem d_Md_entry_122 : decode b_Md_entry 122 = .ok (.invokevirtual 141, 3) := by decide +kernel
theorem d_Md_entry_125 : decode b_Md_entry 125 = .ok (.goto 8, 3) := by decide +kernel
theorem d_Md_entry_128 : decode b_Md_entry 128 = .ok (.aload_n 0, 1) := by decide +kernel
theorem d_Md_entry_129 : decode b_Md_entry 129 = .ok (.iload_n 2, 1) := by decide +kernel
theorem d_Md_entry_130 : decode b_Md_entry 130 = .ok (.invokevirtual 144, 3) := by decide +kernel
theorem d_Md_entry_133 : decode b_Md_entry 133 = .ok (.istore 4, 2) := by decide +kernel
theorem d_Md_entry_135 : decode b_Md_entry 135 = .ok (.iload 4, 2) := by decide +kernel
theorem d_Md_entry_137 : decode b_Md_entry 137 = .ok (.iconst (-1), 1) := by decide +kernel
theorem d_Md_entry_138 : decode b_Md_entry 138 = .ok (.if_icmp .eq 6, 3) := by decide +kernel
theorem d_Md_entry_141 : decode b_Md_entry 141 = .ok (.iload 4, 2) := by decide +kernel
theorem d_Md_entry_143 : decode b_Md_entry 143 = .ok (.ireturn, 1) := by decide +kernel
theorem d_Md_entry_144 : decode b_Md_entry 144 = .ok (.aload_n 0, 1) := by decide +kernel
theorem d_Md_entry_145 : decode b_Md_entry 145 = .ok (.getfield 38, 3) := by decide +kernel
theorem d_Md_entry_148 : decode b_Md_entry 148 = .ok (.iload_n 2, 1) := by decide +kernel
theorem d_Md_entry_149 : decode b_Md_entry 149 = .ok (.aload_n 0, 1) := by decide +kernel
theorem d_Md_entry_150 : decode b_Md_entry 150 = .ok (.getfield 79, 3) := by decide +kernel
theorem d_Md_entry_153 : decode b_Md_entry 153 = .ok (.iastore, 1) := by decide +kernel
theorem d_Md_entry_154 : decode b_Md_entry 154 = .ok (.aload_n 0, 1) := by decide +kernel
theorem d_Md_entry_155 : decode b_Md_entry 155 = .ok (.getfield 41, 3) := by decide +kernel
theorem d_Md_entry_158 : decode b_Md_entry 158 = .ok (.iload_n 2, 1) := by decide +kernel
theorem d_Md_entry_159 : decode b_Md_entry 159 = .ok (.aload_n 0, 1) := by decide +kernel
theorem d_Md_entry_160 : decode b_Md_entry 160 = .ok (.getfield 82, 3) := by decide +kernel
theorem d_Md_entry_163 : decode b_Md_entry 163 = .ok (.iastore, 1) := by decide +kernel
theorem d_Md_entry_164 : decode b_Md_entry 164 = .ok (.aload_n 0, 1) := by decide +kernel
theorem d_Md_entry_165 : decode b_Md_entry 165 = .ok (.iload_n 2, 1) := by decide +kernel
theorem d_Md_entry_166 : decode b_Md_entry 166 = .ok (.invokevirtual 147, 3) := by decide +kernel
theorem d_Md_entry_169 : decode b_Md_entry 169 = .ok (.aload_n 0, 1) := by decide +kernel
theorem d_Md_entry_170 : decode b_Md_entry 170 = .ok (.getfield 79, 3) := by decide +kernel
theorem d_Md_entry_173 : decode b_Md_entry 173 = .ok (.aload_n 0, 1) := by decide +kernel
theorem d_Md_entry_174 : decode b_Md_entry 174 = .ok (.getfield 82, 3) := by decide +kernel
theorem d_Md_entry_177 : decode b_Md_entry 177 = .ok (.if_icmp .ge 27, 3) := by decide +kernel
theorem d_Md_entry_180 : decode b_Md_entry 180 = .ok (.aload_n 0, 1) := by decide +kernel
theorem d_Md_entry_181 : decode b_Md_entry 181 = .ok (.getfield 79, 3) := by decide +kernel
theorem d_Md_entry_184 : decode b_Md_entry 184 = .ok (.istore 5, 2) := by decide +kernel
theorem d_Md_entry_186 : decode b_Md_entry 186 = .ok (.aload_n 0, 1) := by decide +kernel
theorem d_Md_entry_187 : decode b_Md_entry 187 = .ok (.iload_n 2, 1) := by decide +kernel
theorem d_Md_entry_188 : decode b_Md_entry 188 = .ok (.invokevirtual 150, 3) := by decide +kernel
theorem d_Md_entry_191 : decode b_Md_entry 191 = .ok (.aload_n 0, 1) := by decide +kernel
theorem d_Md_entry_192 : decode b_Md_entry 192 = .ok (.getfield 85, 3) := by decide +kernel
theorem d_Md_entry_195 : decode b_Md_entry 195 = .ok (.ifCond .eq 6, 3) := by decide +kernel
theorem d_Md_entry_198 : decode b_Md_entry 198 = .ok (.iload 5, 2) := by decide +kernel
theorem d_Md_entry_200 : decode b_Md_entry 200 = .ok (.ireturn, 1) := by decide +kernel
theorem d_Md_entry_201 : decode b_Md_entry 201 = .ok (.goto (-32), 3) := by decide +kernel
theorem d_Md_entry_204 : decode b_Md_entry 204 = .ok (.iconst (-1), 1) := by decide +kernel
theorem d_Md_entry_205 : decode b_Md_entry 205 = .ok (.ireturn, 1) := by decide +kernel
