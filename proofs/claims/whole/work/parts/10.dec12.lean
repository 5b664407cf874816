theorem d_La_headFault_0 : decode b_La_headFault 0 = .ok (.aload_n 0, 1) := by decide +kernel
theorem d_La_headFault_1 : decode b_La_headFault 1 = .ok (.getfield 15, 3) := by decide +kernel
theorem d_La_headFault_4 : decode b_La_headFault 4 = .ok (.iload_n 2, 1) := by decide +kernel
theorem d_La_headFault_5 : decode b_La_headFault 5 = .ok (.aload_n 0, 1) := by decide +kernel
theorem d_La_headFault_6 : decode b_La_headFault 6 = .ok (.getfield 9, 3) := by decide +kernel
theorem d_La_headFault_9 : decode b_La_headFault 9 = .ok (.getfield 37, 3) := by decide +kernel
theorem d_La_headFault_12 : decode b_La_headFault 12 = .ok (.invokevirtual 57, 3) := by decide +kernel
theorem d_La_headFault_15 : decode b_La_headFault 15 = .ok (.aload_n 0, 1) := by decide +kernel
theorem d_La_headFault_16 : decode b_La_headFault 16 = .ok (.getfield 15, 3) := by decide +kernel
theorem d_La_headFault_19 : decode b_La_headFault 19 = .ok (.iconst 4, 1) := by decide +kernel
theorem d_La_headFault_20 : decode b_La_headFault 20 = .ok (.invokevirtual 63, 3) := by decide +kernel
theorem d_La_headFault_23 : decode b_La_headFault 23 = .ok (.istore_n 3, 1) := by decide +kernel
theorem d_La_headFault_24 : decode b_La_headFault 24 = .ok (.aload_n 0, 1) := by decide +kernel
theorem d_La_headFault_25 : decode b_La_headFault 25 = .ok (.getfield 15, 3) := by decide +kernel
theorem d_La_headFault_28 : decode b_La_headFault 28 = .ok (.getfield 67, 3) := by decide +kernel
theorem d_La_headFault_31 : decode b_La_headFault 31 = .ok (.ifCond .ne 27, 3) := by decide +kernel
theorem d_La_headFault_34 : decode b_La_headFault 34 = .ok (.iload_n 3, 1) := by decide +kernel
theorem d_La_headFault_35 : decode b_La_headFault 35 = .ok (.iconst 4, 1) := by decide +kernel
theorem d_La_headFault_36 : decode b_La_headFault 36 = .ok (.if_icmp .lt 22, 3) := by decide +kernel
theorem d_La_headFault_39 : decode b_La_headFault 39 = .ok (.iload_n 3, 1) := by decide +kernel
theorem d_La_headFault_40 : decode b_La_headFault 40 = .ok (.aload_n 0, 1) := by decide +kernel
theorem d_La_headFault_41 : decode b_La_headFault 41 = .ok (.getfield 9, 3) := by decide +kernel
theorem d_La_headFault_44 : decode b_La_headFault 44 = .ok (.getfield 37, 3) := by decide +kernel
theorem d_La_headFault_47 : decode b_La_headFault 47 = .ok (.aload_n 0, 1) := by decide +kernel
theorem d_La_headFault_48 : decode b_La_headFault 48 = .ok (.getfield 15, 3) := by decide +kernel
theorem d_La_headFault_51 : decode b_La_headFault 51 = .ok (.getfield 71, 3) := by decide +kernel
theorem d_La_headFault_54 : decode b_La_headFault 54 = .ok (.isub, 1) := by decide +kernel
theorem d_La_headFault_55 : decode b_La_headFault 55 = .ok (.if_icmp .le 5, 3) := by decide +kernel
theorem d_La_headFault_58 : decode b_La_headFault 58 = .ok (.iload_n 2, 1) := by decide +kernel
theorem d_La_headFault_59 : decode b_La_headFault 59 = .ok (.ireturn, 1) := by decide +kernel
theorem d_La_headFault_60 : decode b_La_headFault 60 = .ok (.aload_n 1, 1) := by decide +kernel
theorem d_La_headFault_61 : decode b_La_headFault 61 = .ok (.iload_n 2, 1) := by decide +kernel
theorem d_La_headFault_62 : decode b_La_headFault 62 = .ok (.putfield 74, 3) := by decide +kernel
theorem d_La_headFault_65 : decode b_La_headFault 65 = .ok (.aload_n 1, 1) := by decide +kernel
theorem d_La_headFault_66 : decode b_La_headFault 66 = .ok (.aload_n 0, 1) := by decide +kernel
theorem d_La_headFault_67 : decode b_La_headFault 67 = .ok (.getfield 15, 3) := by decide +kernel
theorem d_La_headFault_70 : decode b_La_headFault 70 = .ok (.getfield 71, 3) := by decide +kernel
theorem d_La_headFault_73 : decode b_La_headFault 73 = .ok (.iload_n 3, 1) := by decide +kernel
theorem d_La_headFault_74 : decode b_La_headFault 74 = .ok (.iadd, 1) := by decide +kernel
theorem d_La_headFault_75 : decode b_La_headFault 75 = .ok (.putfield 50, 3) := by decide +kernel
theorem d_La_headFault_78 : decode b_La_headFault 78 = .ok (.aload_n 0, 1) := by decide +kernel
theorem d_La_headFault_79 : decode b_La_headFault 79 = .ok (.getfield 15, 3) := by decide +kernel
theorem d_La_headFault_82 : decode b_La_headFault 82 = .ok (.aload_n 0, 1) := by decide +kernel
theorem d_La_headFault_83 : decode b_La_headFault 83 = .ok (.getfield 15, 3) := by decide +kernel
theorem d_La_headFault_86 : decode b_La_headFault 86 = .ok (.getfield 71, 3) := by decide +kernel
theorem d_La_headFault_89 : decode b_La_headFault 89 = .ok (.aload_n 1, 1) := by decide +kernel
theorem d_La_headFault_90 : decode b_La_headFault 90 = .ok (.getfield 50, 3) := by decide +kernel
theorem d_La_headFault_93 : decode b_La_headFault 93 = .ok (.invokevirtual 57, 3) := by decide +kernel
theorem d_La_headFault_96 : decode b_La_headFault 96 = .ok (.aload_n 0, 1) := by decide +kernel
theorem d_La_headFault_97 : decode b_La_headFault 97 = .ok (.getfield 15, 3) := by decide +kernel
theorem d_La_headFault_100 : decode b_La_headFault 100 = .ok (.getfield 71, 3) := by decide +kernel
theorem d_La_headFault_103 : decode b_La_headFault 103 = .ok (.istore 4, 2) := by decide +kernel
theorem d_La_headFault_105 : decode b_La_headFault 105 = .ok (.aload_n 0, 1) := by decide +kernel
theorem d_La_headFault_106 : decode b_La_headFault 106 = .ok (.getfield 15, 3) := by decide +kernel
theorem d_La_headFault_109 : decode b_La_headFault 109 = .ok (.iconst 4, 1) := by decide +kernel
theorem d_La_headFault_110 : decode b_La_headFault 110 = .ok (.invokevirtual 63, 3) := by decide +kernel
theorem d_La_headFault_113 : decode b_La_headFault 113 = .ok (.istore 5, 2) := by decide +kernel
theorem d_La_headFault_115 : decode b_La_headFault 115 = .ok (.aload_n 1, 1) := by decide +kernel
theorem d_La_headFault_116 : decode b_La_headFault 116 = .ok (.iload 5, 2) := by decide +kernel
theorem d_La_headFault_118 : decode b_La_headFault 118 = .ok (.iconst (-1), 1) := by decide +kernel
theorem d_La_headFault_119 : decode b_La_headFault 119 = .ok (.if_icmp .eq 7, 3) := by decide +kernel
theorem d_La_headFault_122 : decode b_La_headFault 122 = .ok (.iconst 1, 1) := by decide +kernel
theorem d_La_headFault_123 : decode b_La_headFault 123 = .ok (.goto 4, 3) := by decide +kernel
theorem d_La_headFault_126 : decode b_La_headFault 126 = .ok (.iconst 0, 1) := by decide +kernel
theorem d_La_headFault_127 : decode b_La_headFault 127 = .ok (.putfield 77, 3) := by decide +kernel
theorem d_La_headFault_130 : decode b_La_headFault 130 = .ok (.aload_n 1, 1) := by decide +kernel
theorem d_La_headFault_131 : decode b_La_headFault 131 = .ok (.getfield 77, 3) := by decide +kernel
theorem d_La_headFault_134 : decode b_La_headFault 134 = .ok (.ifCond .ne 9, 3) := by decide +kernel
theorem d_La_headFault_137 : decode b_La_headFault 137 = .ok (.aload_n 0, 1) := by decide +kernel
theorem d_La_headFault_138 : decode b_La_headFault 138 = .ok (.aload_n 1, 1) := by decide +kernel
theorem d_La_headFault_139 : decode b_La_headFault 139 = .ok (.invokevirtual 80, 3) := by decide +kernel
theorem d_La_headFault_142 : decode b_La_headFault 142 = .ok (.ireturn, 1) := by decide +kernel
theorem d_La_headFault_143 : decode b_La_headFault 143 = .ok (.aload_n 0, 1) := by decide +kernel
theorem d_La_headFault_144 : decode b_La_headFault 144 = .ok (.iload 5, 2) := by decide +kernel
theorem d_La_headFault_146 : decode b_La_headFault 146 = .ok (.invokevirtual 83, 3) := by decide +kernel
theorem d_La_headFault_149 : decode b_La_headFault 149 = .ok (.istore 6, 2) := by decide +kernel
theorem d_La_headFault_151 : decode b_La_headFault 151 = .ok (.iload 6, 2) := by decide +kernel
theorem d_La_headFault_153 : decode b_La_headFault 153 = .ok (.iconst (-1), 1) := by decide +kernel
theorem d_La_headFault_154 : decode b_La_headFault 154 = .ok (.if_icmp .ne 6, 3) := by decide +kernel
theorem d_La_headFault_157 : decode b_La_headFault 157 = .ok (.iload 4, 2) := by decide +kernel
theorem d_La_headFault_159 : decode b_La_headFault 159 = .ok (.ireturn, 1) := by decide +kernel
theorem d_La_headFault_160 : decode b_La_headFault 160 = .ok (.aload_n 1, 1) := by decide +kernel
theorem d_La_headFault_161 : decode b_La_headFault 161 = .ok (.iload 6, 2) := by decide +kernel
theorem d_La_headFault_163 : decode b_La_headFault 163 = .ok (.putfield 86, 3) := by decide +kernel
theorem d_La_headFault_166 : decode b_La_headFault 166 = .ok (.aload_n 0, 1) := by decide +kernel
theorem d_La_headFault_167 : decode b_La_headFault 167 = .ok (.aload_n 1, 1) := by decide +kernel
theorem d_La_headFault_168 : decode b_La_headFault 168 = .ok (.invokevirtual 89, 3) := by decide +kernel
theorem d_La_headFault_171 : decode b_La_headFault 171 = .ok (.ireturn, 1) := by decide +kernel
theorem d_La_instructionsFault_0 : decode b_La_instructionsFault 0 = .ok (.iconst 0, 1) := by decide +kernel
theorem d_La_instructionsFault_1 : decode b_La_instructionsFault 1 = .ok (.istore_n 2, 1) := by decide +kernel
theorem d_La_instructionsFault_2 : decode b_La_instructionsFault 2 = .ok (.aload_n 0, 1) := by decide +kernel
theorem d_La_instructionsFault_3 : decode b_La_instructionsFault 3 = .ok (.getfield 15, 3) := by decide +kernel
theorem d_La_instructionsFault_6 : decode b_La_instructionsFault 6 = .ok (.aload_n 1, 1) := by decide +kernel
theorem d_La_instructionsFault_7 : decode b_La_instructionsFault 7 = .ok (.getfield 108, 3) := by decide +kernel
theorem d_La_instructionsFault_10 : decode b_La_instructionsFault 10 = .ok (.aload_n 1, 1) := by decide +kernel
theorem d_La_instructionsFault_11 : decode b_La_instructionsFault 11 = .ok (.getfield 50, 3) := by decide +kernel
theorem d_La_instructionsFault_14 : decode b_La_instructionsFault 14 = .ok (.invokevirtual 57, 3) := by decide +kernel
theorem d_La_instructionsFault_17 : decode b_La_instructionsFault 17 = .ok (.iconst 0, 1) := by decide +kernel
theorem d_La_instructionsFault_18 : decode b_La_instructionsFault 18 = .ok (.istore_n 3, 1) := by decide +kernel
theorem d_La_instructionsFault_19 : decode b_La_instructionsFault 19 = .ok (.iload_n 3, 1) := by decide +kernel
theorem d_La_instructionsFault_20 : decode b_La_instructionsFault 20 = .ok (.sipush 512, 3) := by decide +kernel
theorem d_La_instructionsFault_23 : decode b_La_instructionsFault 23 = .ok (.if_icmp .ge 117, 3) := by decide +kernel
theorem d_La_instructionsFault_26 : decode b_La_instructionsFault 26 = .ok (.aload_n 0, 1) := by decide +kernel
theorem d_La_instructionsFault_27 : decode b_La_instructionsFault 27 = .ok (.getfield 15, 3) := by decide +kernel
theorem d_La_instructionsFault_30 : decode b_La_instructionsFault 30 = .ok (.getfield 71, 3) := by decide +kernel
theorem d_La_instructionsFault_33 : decode b_La_instructionsFault 33 = .ok (.aload_n 0, 1) := by decide +kernel
theorem d_La_instructionsFault_34 : decode b_La_instructionsFault 34 = .ok (.getfield 15, 3) := by decide +kernel
theorem d_La_instructionsFault_37 : decode b_La_instructionsFault 37 = .ok (.getfield 117, 3) := by decide +kernel
theorem d_La_instructionsFault_40 : decode b_La_instructionsFault 40 = .ok (.if_icmp .ge 100, 3) := by decide +kernel
theorem d_La_instructionsFault_43 : decode b_La_instructionsFault 43 = .ok (.aload_n 0, 1) := by decide +kernel
theorem d_La_instructionsFault_44 : decode b_La_instructionsFault 44 = .ok (.getfield 15, 3) := by decide +kernel
theorem d_La_instructionsFault_47 : decode b_La_instructionsFault 47 = .ok (.getfield 71, 3) := by decide +kernel
theorem d_La_instructionsFault_50 : decode b_La_instructionsFault 50 = .ok (.istore 4, 2) := by decide +kernel
theorem d_La_instructionsFault_52 : decode b_La_instructionsFault 52 = .ok (.aload_n 0, 1) := by decide +kernel
theorem d_La_instructionsFault_53 : decode b_La_instructionsFault 53 = .ok (.getfield 22, 3) := by decide +kernel
theorem d_La_instructionsFault_56 : decode b_La_instructionsFault 56 = .ok (.aload_n 0, 1) := by decide +kernel
theorem d_La_instructionsFault_57 : decode b_La_instructionsFault 57 = .ok (.getfield 15, 3) := by decide +kernel
theorem d_La_instructionsFault_60 : decode b_La_instructionsFault 60 = .ok (.invokevirtual 120, 3) := by decide +kernel
theorem d_La_instructionsFault_63 : decode b_La_instructionsFault 63 = .ok (.ifCond .ne 6, 3) := by decide +kernel
theorem d_La_instructionsFault_66 : decode b_La_instructionsFault 66 = .ok (.iload 4, 2) := by decide +kernel
theorem d_La_instructionsFault_68 : decode b_La_instructionsFault 68 = .ok (.ireturn, 1) := by decide +kernel
theorem d_La_instructionsFault_69 : decode b_La_instructionsFault 69 = .ok (.aload_n 1, 1) := by decide +kernel
theorem d_La_instructionsFault_70 : decode b_La_instructionsFault 70 = .ok (.getfield 77, 3) := by decide +kernel
theorem d_La_instructionsFault_73 : decode b_La_instructionsFault 73 = .ok (.ifCond .ne 16, 3) := by decide +kernel
theorem d_La_instructionsFault_76 : decode b_La_instructionsFault 76 = .ok (.aload_n 0, 1) := by decide +kernel
theorem d_La_instructionsFault_77 : decode b_La_instructionsFault 77 = .ok (.getfield 22, 3) := by decide +kernel
theorem d_La_instructionsFault_80 : decode b_La_instructionsFault 80 = .ok (.invokevirtual 124, 3) := by decide +kernel
theorem d_La_instructionsFault_83 : decode b_La_instructionsFault 83 = .ok (.ifCond .ne 6, 3) := by decide +kernel
theorem d_La_instructionsFault_86 : decode b_La_instructionsFault 86 = .ok (.iload 4, 2) := by decide +kernel
theorem d_La_instructionsFault_88 : decode b_La_instructionsFault 88 = .ok (.ireturn, 1) := by decide +kernel
theorem d_La_instructionsFault_89 : decode b_La_instructionsFault 89 = .ok (.aload_n 0, 1) := by decide +kernel
theorem d_La_instructionsFault_90 : decode b_La_instructionsFault 90 = .ok (.getfield 22, 3) := by decide +kernel
theorem d_La_instructionsFault_93 : decode b_La_instructionsFault 93 = .ok (.getfield 128, 3) := by decide +kernel
theorem d_La_instructionsFault_96 : decode b_La_instructionsFault 96 = .ok (.bipush 10, 2) := by decide +kernel
theorem d_La_instructionsFault_98 : decode b_La_instructionsFault 98 = .ok (.if_icmp .ne 9, 3) := by decide +kernel
theorem d_La_instructionsFault_101 : decode b_La_instructionsFault 101 = .ok (.iinc 2 1, 3) := by decide +kernel
theorem d_La_instructionsFault_104 : decode b_La_instructionsFault 104 = .ok (.goto 18, 3) := by decide +kernel
theorem d_La_instructionsFault_107 : decode b_La_instructionsFault 107 = .ok (.aload_n 0, 1) := by decide +kernel
theorem d_La_instructionsFault_108 : decode b_La_instructionsFault 108 = .ok (.getfield 22, 3) := by decide +kernel
theorem d_La_instructionsFault_111 : decode b_La_instructionsFault 111 = .ok (.getfield 128, 3) := by decide +kernel
theorem d_La_instructionsFault_114 : decode b_La_instructionsFault 114 = .ok (.bipush 11, 2) := by decide +kernel
theorem d_La_instructionsFault_116 : decode b_La_instructionsFault 116 = .ok (.if_icmp .ne 6, 3) := by decide +kernel
theorem d_La_instructionsFault_119 : decode b_La_instructionsFault 119 = .ok (.iinc 2 (-1), 3) := by decide +kernel
theorem d_La_instructionsFault_122 : decode b_La_instructionsFault 122 = .ok (.iload_n 2, 1) := by decide +kernel
theorem d_La_instructionsFault_123 : decode b_La_instructionsFault 123 = .ok (.ifCond .lt 8, 3) := by decide +kernel
theorem d_La_instructionsFault_126 : decode b_La_instructionsFault 126 = .ok (.iload_n 2, 1) := by decide +kernel
theorem d_La_instructionsFault_127 : decode b_La_instructionsFault 127 = .ok (.iconst 4, 1) := by decide +kernel
theorem d_La_instructionsFault_128 : decode b_La_instructionsFault 128 = .ok (.if_icmp .le 6, 3) := by decide +kernel
theorem d_La_instructionsFault_131 : decode b_La_instructionsFault 131 = .ok (.iload 4, 2) := by decide +kernel
theorem d_La_instructionsFault_133 : decode b_La_instructionsFault 133 = .ok (.ireturn, 1) := by decide +kernel
theorem d_La_instructionsFault_134 : decode b_La_instructionsFault 134 = .ok (.iinc 3 1, 3) := by decide +kernel
theorem d_La_instructionsFault_137 : decode b_La_instructionsFault 137 = .ok (.goto (-118), 3) := by decide +kernel
theorem d_La_instructionsFault_140 : decode b_La_instructionsFault 140 = .ok (.iconst (-1), 1) := by decide +kernel
theorem d_La_instructionsFault_141 : decode b_La_instructionsFault 141 = .ok (.ireturn, 1) := by decide +kernel
