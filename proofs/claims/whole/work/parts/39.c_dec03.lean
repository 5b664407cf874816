theorem d_Fu_unwind_0 : decode b_Fu_unwind 0 = .ok (.aload_n 0, 1) := by decide +kernel
theorem d_Fu_unwind_1 : decode b_Fu_unwind 1 = .ok (.getfield 30, 3) := by decide +kernel
theorem d_Fu_unwind_4 : decode b_Fu_unwind 4 = .ok (.invokevirtual 93, 3) := by decide +kernel
theorem d_Fu_unwind_7 : decode b_Fu_unwind 7 = .ok (.iconst (-1), 1) := by decide +kernel
theorem d_Fu_unwind_8 : decode b_Fu_unwind 8 = .ok (.if_icmp .eq 11, 3) := by decide +kernel
theorem d_Fu_unwind_11 : decode b_Fu_unwind 11 = .ok (.new 100, 3) := by decide +kernel
theorem d_Fu_unwind_14 : decode b_Fu_unwind 14 = .ok (.dup, 1) := by decide +kernel
theorem d_Fu_unwind_15 : decode b_Fu_unwind 15 = .ok (.invokespecial 102, 3) := by decide +kernel
theorem d_Fu_unwind_18 : decode b_Fu_unwind 18 = .ok (.athrow, 1) := by decide +kernel
theorem d_Fu_unwind_19 : decode b_Fu_unwind 19 = .ok (.iload_n 1, 1) := by decide +kernel
theorem d_Fu_unwind_20 : decode b_Fu_unwind 20 = .ok (.invokestatic 145, 3) := by decide +kernel
theorem d_Fu_unwind_23 : decode b_Fu_unwind 23 = .ok (.ifCond .ne 11, 3) := by decide +kernel
theorem d_Fu_unwind_26 : decode b_Fu_unwind 26 = .ok (.new 83, 3) := by decide +kernel
theorem d_Fu_unwind_29 : decode b_Fu_unwind 29 = .ok (.dup, 1) := by decide +kernel
theorem d_Fu_unwind_30 : decode b_Fu_unwind 30 = .ok (.invokespecial 85, 3) := by decide +kernel
theorem d_Fu_unwind_33 : decode b_Fu_unwind 33 = .ok (.athrow, 1) := by decide +kernel
theorem d_Fu_unwind_34 : decode b_Fu_unwind 34 = .ok (.aload_n 0, 1) := by decide +kernel
theorem d_Fu_unwind_35 : decode b_Fu_unwind 35 = .ok (.getfield 53, 3) := by decide +kernel
theorem d_Fu_unwind_38 : decode b_Fu_unwind 38 = .ok (.invokevirtual 158, 3) := by decide +kernel
theorem d_Fu_unwind_41 : decode b_Fu_unwind 41 = .ok (.istore_n 2, 1) := by decide +kernel
theorem d_Fu_unwind_42 : decode b_Fu_unwind 42 = .ok (.aload_n 0, 1) := by decide +kernel
theorem d_Fu_unwind_43 : decode b_Fu_unwind 43 = .ok (.getfield 30, 3) := by decide +kernel
theorem d_Fu_unwind_46 : decode b_Fu_unwind 46 = .ok (.iload_n 2, 1) := by decide +kernel
theorem d_Fu_unwind_47 : decode b_Fu_unwind 47 = .ok (.invokevirtual 103, 3) := by decide +kernel
theorem d_Fu_unwind_50 : decode b_Fu_unwind 50 = .ok (.istore_n 3, 1) := by decide +kernel
theorem d_Fu_unwind_51 : decode b_Fu_unwind 51 = .ok (.iload_n 3, 1) := by decide +kernel
theorem d_Fu_unwind_52 : decode b_Fu_unwind 52 = .ok (.iconst (-1), 1) := by decide +kernel
theorem d_Fu_unwind_53 : decode b_Fu_unwind 53 = .ok (.if_icmp .ne 6, 3) := by decide +kernel
theorem d_Fu_unwind_56 : decode b_Fu_unwind 56 = .ok (.bipush 10, 2) := by decide +kernel
theorem d_Fu_unwind_58 : decode b_Fu_unwind 58 = .ok (.ireturn, 1) := by decide +kernel
theorem d_Fu_unwind_59 : decode b_Fu_unwind 59 = .ok (.aload_n 0, 1) := by decide +kernel
theorem d_Fu_unwind_60 : decode b_Fu_unwind 60 = .ok (.getfield 30, 3) := by decide +kernel
theorem d_Fu_unwind_63 : decode b_Fu_unwind 63 = .ok (.getfield 110, 3) := by decide +kernel
theorem d_Fu_unwind_66 : decode b_Fu_unwind 66 = .ok (.iload_n 3, 1) := by decide +kernel
theorem d_Fu_unwind_67 : decode b_Fu_unwind 67 = .ok (.aaload, 1) := by decide +kernel
theorem d_Fu_unwind_68 : decode b_Fu_unwind 68 = .ok (.astore 4, 2) := by decide +kernel
theorem d_Fu_unwind_70 : decode b_Fu_unwind 70 = .ok (.aload_n 0, 1) := by decide +kernel
theorem d_Fu_unwind_71 : decode b_Fu_unwind 71 = .ok (.getfield 30, 3) := by decide +kernel
theorem d_Fu_unwind_74 : decode b_Fu_unwind 74 = .ok (.getfield 110, 3) := by decide +kernel
theorem d_Fu_unwind_77 : decode b_Fu_unwind 77 = .ok (.aload 4, 2) := by decide +kernel
theorem d_Fu_unwind_79 : decode b_Fu_unwind 79 = .ok (.getfield 114, 3) := by decide +kernel
theorem d_Fu_unwind_82 : decode b_Fu_unwind 82 = .ok (.aaload, 1) := by decide +kernel
theorem d_Fu_unwind_83 : decode b_Fu_unwind 83 = .ok (.astore 5, 2) := by decide +kernel
theorem d_Fu_unwind_85 : decode b_Fu_unwind 85 = .ok (.aload_n 0, 1) := by decide +kernel
theorem d_Fu_unwind_86 : decode b_Fu_unwind 86 = .ok (.getfield 39, 3) := by decide +kernel
theorem d_Fu_unwind_89 : decode b_Fu_unwind 89 = .ok (.aload 4, 2) := by decide +kernel
theorem d_Fu_unwind_91 : decode b_Fu_unwind 91 = .ok (.aload 5, 2) := by decide +kernel
theorem d_Fu_unwind_93 : decode b_Fu_unwind 93 = .ok (.iload_n 2, 1) := by decide +kernel
theorem d_Fu_unwind_94 : decode b_Fu_unwind 94 = .ok (.invokevirtual 119, 3) := by decide +kernel
theorem d_Fu_unwind_97 : decode b_Fu_unwind 97 = .ok (.astore 6, 2) := by decide +kernel
theorem d_Fu_unwind_99 : decode b_Fu_unwind 99 = .ok (.aload 6, 2) := by decide +kernel
theorem d_Fu_unwind_101 : decode b_Fu_unwind 101 = .ok (.getfield 161, 3) := by decide +kernel
theorem d_Fu_unwind_104 : decode b_Fu_unwind 104 = .ok (.aload 5, 2) := by decide +kernel
theorem d_Fu_unwind_106 : decode b_Fu_unwind 106 = .ok (.getfield 165, 3) := by decide +kernel
theorem d_Fu_unwind_109 : decode b_Fu_unwind 109 = .ok (.iaload, 1) := by decide +kernel
theorem d_Fu_unwind_110 : decode b_Fu_unwind 110 = .ok (.ifCond .ne 6, 3) := by decide +kernel
theorem d_Fu_unwind_113 : decode b_Fu_unwind 113 = .ok (.bipush 10, 2) := by decide +kernel
theorem d_Fu_unwind_115 : decode b_Fu_unwind 115 = .ok (.ireturn, 1) := by decide +kernel
theorem d_Fu_unwind_116 : decode b_Fu_unwind 116 = .ok (.aload_n 0, 1) := by decide +kernel
theorem d_Fu_unwind_117 : decode b_Fu_unwind 117 = .ok (.aload 6, 2) := by decide +kernel
theorem d_Fu_unwind_119 : decode b_Fu_unwind 119 = .ok (.iload_n 1, 1) := by decide +kernel
theorem d_Fu_unwind_120 : decode b_Fu_unwind 120 = .ok (.invokevirtual 168, 3) := by decide +kernel
theorem d_Fu_unwind_123 : decode b_Fu_unwind 123 = .ok (.istore 7, 2) := by decide +kernel
theorem d_Fu_unwind_125 : decode b_Fu_unwind 125 = .ok (.aload_n 0, 1) := by decide +kernel
theorem d_Fu_unwind_126 : decode b_Fu_unwind 126 = .ok (.getfield 65, 3) := by decide +kernel
theorem d_Fu_unwind_129 : decode b_Fu_unwind 129 = .ok (.invokevirtual 155, 3) := by decide +kernel
theorem d_Fu_unwind_132 : decode b_Fu_unwind 132 = .ok (.istore 8, 2) := by decide +kernel
theorem d_Fu_unwind_134 : decode b_Fu_unwind 134 = .ok (.iconst 0, 1) := by decide +kernel
theorem d_Fu_unwind_135 : decode b_Fu_unwind 135 = .ok (.istore 9, 2) := by decide +kernel
theorem d_Fu_unwind_137 : decode b_Fu_unwind 137 = .ok (.iload 9, 2) := by decide +kernel
theorem d_Fu_unwind_139 : decode b_Fu_unwind 139 = .ok (.bipush 8, 2) := by decide +kernel
theorem d_Fu_unwind_141 : decode b_Fu_unwind 141 = .ok (.if_icmp .ge 27, 3) := by decide +kernel
theorem d_Fu_unwind_144 : decode b_Fu_unwind 144 = .ok (.iload 7, 2) := by decide +kernel
theorem d_Fu_unwind_146 : decode b_Fu_unwind 146 = .ok (.ifCond .ne 22, 3) := by decide +kernel
theorem d_Fu_unwind_149 : decode b_Fu_unwind 149 = .ok (.aload_n 0, 1) := by decide +kernel
theorem d_Fu_unwind_150 : decode b_Fu_unwind 150 = .ok (.aload 6, 2) := by decide +kernel
theorem d_Fu_unwind_152 : decode b_Fu_unwind 152 = .ok (.iload 9, 2) := by decide +kernel
theorem d_Fu_unwind_154 : decode b_Fu_unwind 154 = .ok (.iload 8, 2) := by decide +kernel
theorem d_Fu_unwind_156 : decode b_Fu_unwind 156 = .ok (.iload_n 1, 1) := by decide +kernel
theorem d_Fu_unwind_157 : decode b_Fu_unwind 157 = .ok (.invokevirtual 172, 3) := by decide +kernel
theorem d_Fu_unwind_160 : decode b_Fu_unwind 160 = .ok (.istore 7, 2) := by decide +kernel
theorem d_Fu_unwind_162 : decode b_Fu_unwind 162 = .ok (.iinc 9 1, 3) := by decide +kernel
theorem d_Fu_unwind_165 : decode b_Fu_unwind 165 = .ok (.goto (-28), 3) := by decide +kernel
theorem d_Fu_unwind_168 : decode b_Fu_unwind 168 = .ok (.iload 7, 2) := by decide +kernel
theorem d_Fu_unwind_170 : decode b_Fu_unwind 170 = .ok (.ifCond .ne 15, 3) := by decide +kernel
theorem d_Fu_unwind_173 : decode b_Fu_unwind 173 = .ok (.aload_n 0, 1) := by decide +kernel
theorem d_Fu_unwind_174 : decode b_Fu_unwind 174 = .ok (.aload 5, 2) := by decide +kernel
theorem d_Fu_unwind_176 : decode b_Fu_unwind 176 = .ok (.getfield 165, 3) := by decide +kernel
theorem d_Fu_unwind_179 : decode b_Fu_unwind 179 = .ok (.invokevirtual 176, 3) := by decide +kernel
theorem d_Fu_unwind_182 : decode b_Fu_unwind 182 = .ok (.goto 5, 3) := by decide +kernel
theorem d_Fu_unwind_185 : decode b_Fu_unwind 185 = .ok (.iload 7, 2) := by decide +kernel
theorem d_Fu_unwind_187 : decode b_Fu_unwind 187 = .ok (.ireturn, 1) := by decide +kernel
