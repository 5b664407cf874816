theorem d_Md_rowAt_0 : decode b_Md_rowAt 0 = .ok (.aload_n 0, 1) := by decide +kernel
theorem d_Md_rowAt_1 : decode b_Md_rowAt 1 = .ok (.getfield 20, 3) := by decide +kernel
theorem d_Md_rowAt_4 : decode b_Md_rowAt 4 = .ok (.iload_n 1, 1) := by decide +kernel
theorem d_Md_rowAt_5 : decode b_Md_rowAt 5 = .ok (.iaload, 1) := by decide +kernel
theorem d_Md_rowAt_6 : decode b_Md_rowAt 6 = .ok (.istore_n 3, 1) := by decide +kernel
theorem d_Md_rowAt_7 : decode b_Md_rowAt 7 = .ok (.aload_n 0, 1) := by decide +kernel
theorem d_Md_rowAt_8 : decode b_Md_rowAt 8 = .ok (.iload_n 3, 1) := by decide +kernel
theorem d_Md_rowAt_9 : decode b_Md_rowAt 9 = .ok (.invokevirtual 147, 3) := by decide +kernel
theorem d_Md_rowAt_12 : decode b_Md_rowAt 12 = .ok (.aload_n 0, 1) := by decide +kernel
theorem d_Md_rowAt_13 : decode b_Md_rowAt 13 = .ok (.iconst 0, 1) := by decide +kernel
theorem d_Md_rowAt_14 : decode b_Md_rowAt 14 = .ok (.putfield 85, 3) := by decide +kernel
theorem d_Md_rowAt_17 : decode b_Md_rowAt 17 = .ok (.aload_n 0, 1) := by decide +kernel
theorem d_Md_rowAt_18 : decode b_Md_rowAt 18 = .ok (.aload_n 0, 1) := by decide +kernel
theorem d_Md_rowAt_19 : decode b_Md_rowAt 19 = .ok (.getfield 38, 3) := by decide +kernel
theorem d_Md_rowAt_22 : decode b_Md_rowAt 22 = .ok (.iload_n 3, 1) := by decide +kernel
theorem d_Md_rowAt_23 : decode b_Md_rowAt 23 = .ok (.iaload, 1) := by decide +kernel
theorem d_Md_rowAt_24 : decode b_Md_rowAt 24 = .ok (.putfield 79, 3) := by decide +kernel
theorem d_Md_rowAt_27 : decode b_Md_rowAt 27 = .ok (.aload_n 0, 1) := by decide +kernel
theorem d_Md_rowAt_28 : decode b_Md_rowAt 28 = .ok (.aload_n 0, 1) := by decide +kernel
theorem d_Md_rowAt_29 : decode b_Md_rowAt 29 = .ok (.getfield 41, 3) := by decide +kernel
theorem d_Md_rowAt_32 : decode b_Md_rowAt 32 = .ok (.iload_n 3, 1) := by decide +kernel
theorem d_Md_rowAt_33 : decode b_Md_rowAt 33 = .ok (.iaload, 1) := by decide +kernel
theorem d_Md_rowAt_34 : decode b_Md_rowAt 34 = .ok (.putfield 82, 3) := by decide +kernel
theorem d_Md_rowAt_37 : decode b_Md_rowAt 37 = .ok (.aload_n 0, 1) := by decide +kernel
theorem d_Md_rowAt_38 : decode b_Md_rowAt 38 = .ok (.getfield 79, 3) := by decide +kernel
theorem d_Md_rowAt_41 : decode b_Md_rowAt 41 = .ok (.aload_n 0, 1) := by decide +kernel
theorem d_Md_rowAt_42 : decode b_Md_rowAt 42 = .ok (.getfield 82, 3) := by decide +kernel
theorem d_Md_rowAt_45 : decode b_Md_rowAt 45 = .ok (.if_icmp .ge 11, 3) := by decide +kernel
theorem d_Md_rowAt_48 : decode b_Md_rowAt 48 = .ok (.aload_n 0, 1) := by decide +kernel
theorem d_Md_rowAt_49 : decode b_Md_rowAt 49 = .ok (.iload_n 3, 1) := by decide +kernel
theorem d_Md_rowAt_50 : decode b_Md_rowAt 50 = .ok (.invokevirtual 150, 3) := by decide +kernel
theorem d_Md_rowAt_53 : decode b_Md_rowAt 53 = .ok (.goto (-16), 3) := by decide +kernel
theorem d_Md_rowAt_56 : decode b_Md_rowAt 56 = .ok (.iconst 0, 1) := by decide +kernel
theorem d_Md_rowAt_57 : decode b_Md_rowAt 57 = .ok (.istore 4, 2) := by decide +kernel
theorem d_Md_rowAt_59 : decode b_Md_rowAt 59 = .ok (.iload 4, 2) := by decide +kernel
theorem d_Md_rowAt_61 : decode b_Md_rowAt 61 = .ok (.bipush 27, 2) := by decide +kernel
theorem d_Md_rowAt_63 : decode b_Md_rowAt 63 = .ok (.if_icmp .ge 23, 3) := by decide +kernel
theorem d_Md_rowAt_66 : decode b_Md_rowAt 66 = .ok (.aload_n 0, 1) := by decide +kernel
theorem d_Md_rowAt_67 : decode b_Md_rowAt 67 = .ok (.getfield 47, 3) := by decide +kernel
theorem d_Md_rowAt_70 : decode b_Md_rowAt 70 = .ok (.iload 4, 2) := by decide +kernel
theorem d_Md_rowAt_72 : decode b_Md_rowAt 72 = .ok (.aload_n 0, 1) := by decide +kernel
theorem d_Md_rowAt_73 : decode b_Md_rowAt 73 = .ok (.getfield 44, 3) := by decide +kernel
theorem d_Md_rowAt_76 : decode b_Md_rowAt 76 = .ok (.iload 4, 2) := by decide +kernel
theorem d_Md_rowAt_78 : decode b_Md_rowAt 78 = .ok (.iaload, 1) := by decide +kernel
theorem d_Md_rowAt_79 : decode b_Md_rowAt 79 = .ok (.iastore, 1) := by decide +kernel
theorem d_Md_rowAt_80 : decode b_Md_rowAt 80 = .ok (.iinc 4 1, 3) := by decide +kernel
theorem d_Md_rowAt_83 : decode b_Md_rowAt 83 = .ok (.goto (-24), 3) := by decide +kernel
theorem d_Md_rowAt_86 : decode b_Md_rowAt 86 = .ok (.aload_n 0, 1) := by decide +kernel
theorem d_Md_rowAt_87 : decode b_Md_rowAt 87 = .ok (.aload_n 0, 1) := by decide +kernel
theorem d_Md_rowAt_88 : decode b_Md_rowAt 88 = .ok (.getfield 38, 3) := by decide +kernel
theorem d_Md_rowAt_91 : decode b_Md_rowAt 91 = .ok (.iload_n 1, 1) := by decide +kernel
theorem d_Md_rowAt_92 : decode b_Md_rowAt 92 = .ok (.iaload, 1) := by decide +kernel
theorem d_Md_rowAt_93 : decode b_Md_rowAt 93 = .ok (.putfield 79, 3) := by decide +kernel
theorem d_Md_rowAt_96 : decode b_Md_rowAt 96 = .ok (.aload_n 0, 1) := by decide +kernel
theorem d_Md_rowAt_97 : decode b_Md_rowAt 97 = .ok (.aload_n 0, 1) := by decide +kernel
theorem d_Md_rowAt_98 : decode b_Md_rowAt 98 = .ok (.getfield 41, 3) := by decide +kernel
theorem d_Md_rowAt_101 : decode b_Md_rowAt 101 = .ok (.iload_n 1, 1) := by decide +kernel
theorem d_Md_rowAt_102 : decode b_Md_rowAt 102 = .ok (.iaload, 1) := by decide +kernel
theorem d_Md_rowAt_103 : decode b_Md_rowAt 103 = .ok (.putfield 82, 3) := by decide +kernel
theorem d_Md_rowAt_106 : decode b_Md_rowAt 106 = .ok (.aload_n 0, 1) := by decide +kernel
theorem d_Md_rowAt_107 : decode b_Md_rowAt 107 = .ok (.aload_n 0, 1) := by decide +kernel
theorem d_Md_rowAt_108 : decode b_Md_rowAt 108 = .ok (.getfield 32, 3) := by decide +kernel
theorem d_Md_rowAt_111 : decode b_Md_rowAt 111 = .ok (.iload_n 1, 1) := by decide +kernel
theorem d_Md_rowAt_112 : decode b_Md_rowAt 112 = .ok (.iaload, 1) := by decide +kernel
theorem d_Md_rowAt_113 : decode b_Md_rowAt 113 = .ok (.putfield 108, 3) := by decide +kernel
theorem d_Md_rowAt_116 : decode b_Md_rowAt 116 = .ok (.aload_n 0, 1) := by decide +kernel
theorem d_Md_rowAt_117 : decode b_Md_rowAt 117 = .ok (.getfield 79, 3) := by decide +kernel
theorem d_Md_rowAt_120 : decode b_Md_rowAt 120 = .ok (.aload_n 0, 1) := by decide +kernel
theorem d_Md_rowAt_121 : decode b_Md_rowAt 121 = .ok (.getfield 82, 3) := by decide +kernel
theorem d_Md_rowAt_124 : decode b_Md_rowAt 124 = .ok (.if_icmp .ge 30, 3) := by decide +kernel
theorem d_Md_rowAt_127 : decode b_Md_rowAt 127 = .ok (.aload_n 0, 1) := by decide +kernel
theorem d_Md_rowAt_128 : decode b_Md_rowAt 128 = .ok (.getfield 108, 3) := by decide +kernel
theorem d_Md_rowAt_131 : decode b_Md_rowAt 131 = .ok (.i2l, 1) := by decide +kernel
theorem d_Md_rowAt_132 : decode b_Md_rowAt 132 = .ok (.ldc2_w 156, 3) := by decide +kernel
theorem d_Md_rowAt_135 : decode b_Md_rowAt 135 = .ok (.land, 1) := by decide +kernel
theorem d_Md_rowAt_136 : decode b_Md_rowAt 136 = .ok (.iload_n 2, 1) := by decide +kernel
theorem d_Md_rowAt_137 : decode b_Md_rowAt 137 = .ok (.i2l, 1) := by decide +kernel
theorem d_Md_rowAt_138 : decode b_Md_rowAt 138 = .ok (.ldc2_w 156, 3) := by decide +kernel
theorem d_Md_rowAt_141 : decode b_Md_rowAt 141 = .ok (.land, 1) := by decide +kernel
theorem d_Md_rowAt_142 : decode b_Md_rowAt 142 = .ok (.lcmp, 1) := by decide +kernel
theorem d_Md_rowAt_143 : decode b_Md_rowAt 143 = .ok (.ifCond .gt 11, 3) := by decide +kernel
theorem d_Md_rowAt_146 : decode b_Md_rowAt 146 = .ok (.aload_n 0, 1) := by decide +kernel
theorem d_Md_rowAt_147 : decode b_Md_rowAt 147 = .ok (.iload_n 1, 1) := by decide +kernel
theorem d_Md_rowAt_148 : decode b_Md_rowAt 148 = .ok (.invokevirtual 150, 3) := by decide +kernel
theorem d_Md_rowAt_151 : decode b_Md_rowAt 151 = .ok (.goto (-35), 3) := by decide +kernel
theorem d_Md_rowAt_154 : decode b_Md_rowAt 154 = .ok (.return_, 1) := by decide +kernel
theorem d_Md_row_0 : decode b_Md_row 0 = .ok (.aload_n 0, 1) := by decide +kernel
theorem d_Md_row_1 : decode b_Md_row 1 = .ok (.aload_n 0, 1) := by decide +kernel
theorem d_Md_row_2 : decode b_Md_row 2 = .ok (.invokevirtual 153, 3) := by decide +kernel
theorem d_Md_row_5 : decode b_Md_row 5 = .ok (.iconst (-1), 1) := by decide +kernel
theorem d_Md_row_6 : decode b_Md_row 6 = .ok (.if_icmp .ne 7, 3) := by decide +kernel
theorem d_Md_row_9 : decode b_Md_row 9 = .ok (.iconst 0, 1) := by decide +kernel
theorem d_Md_row_10 : decode b_Md_row 10 = .ok (.goto 4, 3) := by decide +kernel
theorem d_Md_row_13 : decode b_Md_row 13 = .ok (.iconst 1, 1) := by decide +kernel
theorem d_Md_row_14 : decode b_Md_row 14 = .ok (.putfield 69, 3) := by decide +kernel
theorem d_Md_row_17 : decode b_Md_row 17 = .ok (.aload_n 0, 1) := by decide +kernel
theorem d_Md_row_18 : decode b_Md_row 18 = .ok (.getfield 69, 3) := by decide +kernel
theorem d_Md_row_21 : decode b_Md_row 21 = .ok (.ifCond .eq 5, 3) := by decide +kernel
theorem d_Md_row_24 : decode b_Md_row 24 = .ok (.iconst 0, 1) := by decide +kernel
theorem d_Md_row_25 : decode b_Md_row 25 = .ok (.ireturn, 1) := by decide +kernel
theorem d_Md_row_26 : decode b_Md_row 26 = .ok (.aload_n 0, 1) := by decide +kernel
theorem d_Md_row_27 : decode b_Md_row 27 = .ok (.iload_n 1, 1) := by decide +kernel
theorem d_Md_row_28 : decode b_Md_row 28 = .ok (.invokevirtual 158, 3) := by decide +kernel
theorem d_Md_row_31 : decode b_Md_row 31 = .ok (.istore 4, 2) := by decide +kernel
theorem d_Md_row_33 : decode b_Md_row 33 = .ok (.aload_n 0, 1) := by decide +kernel
theorem d_Md_row_34 : decode b_Md_row 34 = .ok (.iload 4, 2) := by decide +kernel
theorem d_Md_row_36 : decode b_Md_row 36 = .ok (.iconst (-1), 1) := by decide +kernel
theorem d_Md_row_37 : decode b_Md_row 37 = .ok (.if_icmp .ne 7, 3) := by decide +kernel
theorem d_Md_row_40 : decode b_Md_row 40 = .ok (.iconst 2, 1) := by decide +kernel
theorem d_Md_row_41 : decode b_Md_row 41 = .ok (.goto 27, 3) := by decide +kernel
theorem d_Md_row_44 : decode b_Md_row 44 = .ok (.iload_n 2, 1) := by decide +kernel
theorem d_Md_row_45 : decode b_Md_row 45 = .ok (.iconst (-1), 1) := by decide +kernel
theorem d_Md_row_46 : decode b_Md_row 46 = .ok (.bipush 7, 2) := by decide +kernel
theorem d_Md_row_48 : decode b_Md_row 48 = .ok (.invokestatic 75, 3) := by decide +kernel
theorem d_Md_row_51 : decode b_Md_row 51 = .ok (.ifCond .eq 12, 3) := by decide +kernel
theorem d_Md_row_54 : decode b_Md_row 54 = .ok (.iload_n 3, 1) := by decide +kernel
theorem d_Md_row_55 : decode b_Md_row 55 = .ok (.iconst 0, 1) := by decide +kernel
theorem d_Md_row_56 : decode b_Md_row 56 = .ok (.iconst 2, 1) := by decide +kernel
theorem d_Md_row_57 : decode b_Md_row 57 = .ok (.invokestatic 75, 3) := by decide +kernel
theorem d_Md_row_60 : decode b_Md_row 60 = .ok (.ifCond .ne 7, 3) := by decide +kernel
theorem d_Md_row_63 : decode b_Md_row 63 = .ok (.iconst 3, 1) := by decide +kernel
theorem d_Md_row_64 : decode b_Md_row 64 = .ok (.goto 4, 3) := by decide +kernel
theorem d_Md_row_67 : decode b_Md_row 67 = .ok (.iconst 0, 1) := by decide +kernel
theorem d_Md_row_68 : decode b_Md_row 68 = .ok (.putfield 69, 3) := by decide +kernel
theorem d_Md_row_71 : decode b_Md_row 71 = .ok (.aload_n 0, 1) := by decide +kernel
theorem d_Md_row_72 : decode b_Md_row 72 = .ok (.getfield 69, 3) := by decide +kernel
theorem d_Md_row_75 : decode b_Md_row 75 = .ok (.ifCond .eq 5, 3) := by decide +kernel
theorem d_Md_row_78 : decode b_Md_row 78 = .ok (.iconst 0, 1) := by decide +kernel
theorem d_Md_row_79 : decode b_Md_row 79 = .ok (.ireturn, 1) := by decide +kernel
theorem d_Md_row_80 : decode b_Md_row 80 = .ok (.aload_n 0, 1) := by decide +kernel
theorem d_Md_row_81 : decode b_Md_row 81 = .ok (.iload 4, 2) := by decide +kernel
theorem d_Md_row_83 : decode b_Md_row 83 = .ok (.iload_n 1, 1) := by decide +kernel
theorem d_Md_row_84 : decode b_Md_row 84 = .ok (.invokevirtual 161, 3) := by decide +kernel
theorem d_Md_row_87 : decode b_Md_row 87 = .ok (.iload_n 2, 1) := by decide +kernel
theorem d_Md_row_88 : decode b_Md_row 88 = .ok (.iconst (-1), 1) := by decide +kernel
theorem d_Md_row_89 : decode b_Md_row 89 = .ok (.if_icmp .ne 15, 3) := by decide +kernel
theorem d_Md_row_92 : decode b_Md_row 92 = .ok (.aload_n 0, 1) := by decide +kernel
theorem d_Md_row_93 : decode b_Md_row 93 = .ok (.getfield 44, 3) := by decide +kernel
theorem d_Md_row_96 : decode b_Md_row 96 = .ok (.bipush 24, 2) := by decide +kernel
theorem d_Md_row_98 : decode b_Md_row 98 = .ok (.iload_n 3, 1) := by decide +kernel
theorem d_Md_row_99 : decode b_Md_row 99 = .ok (.iadd, 1) := by decide +kernel
theorem d_Md_row_100 : decode b_Md_row 100 = .ok (.iaload, 1) := by decide +kernel
theorem d_Md_row_101 : decode b_Md_row 101 = .ok (.goto 14, 3) := by decide +kernel
theorem d_Md_row_104 : decode b_Md_row 104 = .ok (.aload_n 0, 1) := by decide +kernel
theorem d_Md_row_105 : decode b_Md_row 105 = .ok (.getfield 44, 3) := by decide +kernel
theorem d_Md_row_108 : decode b_Md_row 108 = .ok (.bipush 8, 2) := by decide +kernel
theorem d_Md_row_110 : decode b_Md_row 110 = .ok (.iload_n 3, 1) := by decide +kernel
theorem d_Md_row_111 : decode b_Md_row 111 = .ok (.imul, 1) := by decide +kernel
theorem d_Md_row_112 : decode b_Md_row 112 = .ok (.iload_n 2, 1) := by decide +kernel
theorem d_Md_row_113 : decode b_Md_row 113 = .ok (.iadd, 1) := by decide +kernel
theorem d_Md_row_114 : decode b_Md_row 114 = .ok (.iaload, 1) := by decide +kernel
theorem d_Md_row_115 : decode b_Md_row 115 = .ok (.ireturn, 1) := by decide +kernel
theorem d_Md_lacks_0 : decode b_Md_lacks 0 = .ok (.aload_n 0, 1) := by decide +kernel
theorem d_Md_lacks_1 : decode b_Md_lacks 1 = .ok (.getfield 164, 3) := by decide +kernel
theorem d_Md_lacks_4 : decode b_Md_lacks 4 = .ok (.iload_n 1, 1) := by decide +kernel
theorem d_Md_lacks_5 : decode b_Md_lacks 5 = .ok (.if_icmp .ge 7, 3) := by decide +kernel
theorem d_Md_lacks_8 : decode b_Md_lacks 8 = .ok (.iconst 1, 1) := by decide +kernel
theorem d_Md_lacks_9 : decode b_Md_lacks 9 = .ok (.goto 4, 3) := by decide +kernel
theorem d_Md_lacks_12 : decode b_Md_lacks 12 = .ok (.iconst 0, 1) := by decide +kernel
theorem d_Md_lacks_13 : decode b_Md_lacks 13 = .ok (.ireturn, 1) := by decide +kernel
