theorem d_Rk_doOne_0 : decode b_Rk_doOne 0 = .ok (.aload_n 0, 1) := by decide +kernel
theorem d_Rk_doOne_1 : decode b_Rk_doOne 1 = .ok (.getfield 9, 3) := by decide +kernel
theorem d_Rk_doOne_4 : decode b_Rk_doOne 4 = .ok (.iconst 1, 1) := by decide +kernel
theorem d_Rk_doOne_5 : decode b_Rk_doOne 5 = .ok (.invokevirtual 61, 3) := by decide +kernel
theorem d_Rk_doOne_8 : decode b_Rk_doOne 8 = .ok (.istore_n 1, 1) := by decide +kernel
theorem d_Rk_doOne_9 : decode b_Rk_doOne 9 = .ok (.aload_n 0, 1) := by decide +kernel
theorem d_Rk_doOne_10 : decode b_Rk_doOne 10 = .ok (.iload_n 1, 1) := by decide +kernel
theorem d_Rk_doOne_11 : decode b_Rk_doOne 11 = .ok (.invokevirtual 65, 3) := by decide +kernel
theorem d_Rk_doOne_14 : decode b_Rk_doOne 14 = .ok (.istore_n 2, 1) := by decide +kernel
theorem d_Rk_doOne_15 : decode b_Rk_doOne 15 = .ok (.aload_n 0, 1) := by decide +kernel
theorem d_Rk_doOne_16 : decode b_Rk_doOne 16 = .ok (.iload_n 1, 1) := by decide +kernel
theorem d_Rk_doOne_17 : decode b_Rk_doOne 17 = .ok (.invokevirtual 68, 3) := by decide +kernel
theorem d_Rk_doOne_20 : decode b_Rk_doOne 20 = .ok (.istore_n 3, 1) := by decide +kernel
theorem d_Rk_doOne_21 : decode b_Rk_doOne 21 = .ok (.iload_n 2, 1) := by decide +kernel
theorem d_Rk_doOne_22 : decode b_Rk_doOne 22 = .ok (.ifCond .eq 13, 3) := by decide +kernel
theorem d_Rk_doOne_25 : decode b_Rk_doOne 25 = .ok (.aload_n 0, 1) := by decide +kernel
theorem d_Rk_doOne_26 : decode b_Rk_doOne 26 = .ok (.getfield 9, 3) := by decide +kernel
theorem d_Rk_doOne_29 : decode b_Rk_doOne 29 = .ok (.getfield 71, 3) := by decide +kernel
theorem d_Rk_doOne_32 : decode b_Rk_doOne 32 = .ok (.ifCond .eq 5, 3) := by decide +kernel
theorem d_Rk_doOne_35 : decode b_Rk_doOne 35 = .ok (.iconst 2, 1) := by decide +kernel
theorem d_Rk_doOne_36 : decode b_Rk_doOne 36 = .ok (.ireturn, 1) := by decide +kernel
theorem d_Rk_doOne_37 : decode b_Rk_doOne 37 = .ok (.iload_n 2, 1) := by decide +kernel
theorem d_Rk_doOne_38 : decode b_Rk_doOne 38 = .ok (.iconst 2, 1) := by decide +kernel
theorem d_Rk_doOne_39 : decode b_Rk_doOne 39 = .ok (.if_icmp .ne 16, 3) := by decide +kernel
theorem d_Rk_doOne_42 : decode b_Rk_doOne 42 = .ok (.aload_n 0, 1) := by decide +kernel
theorem d_Rk_doOne_43 : decode b_Rk_doOne 43 = .ok (.getfield 27, 3) := by decide +kernel
theorem d_Rk_doOne_46 : decode b_Rk_doOne 46 = .ok (.bipush 16, 2) := by decide +kernel
theorem d_Rk_doOne_48 : decode b_Rk_doOne 48 = .ok (.if_icmp .lt 7, 3) := by decide +kernel
theorem d_Rk_doOne_51 : decode b_Rk_doOne 51 = .ok (.iconst 1, 1) := by decide +kernel
theorem d_Rk_doOne_52 : decode b_Rk_doOne 52 = .ok (.goto 4, 3) := by decide +kernel
theorem d_Rk_doOne_55 : decode b_Rk_doOne 55 = .ok (.iconst 0, 1) := by decide +kernel
theorem d_Rk_doOne_56 : decode b_Rk_doOne 56 = .ok (.istore 4, 2) := by decide +kernel
theorem d_Rk_doOne_58 : decode b_Rk_doOne 58 = .ok (.iload 4, 2) := by decide +kernel
theorem d_Rk_doOne_60 : decode b_Rk_doOne 60 = .ok (.ifCond .ne 16, 3) := by decide +kernel
theorem d_Rk_doOne_63 : decode b_Rk_doOne 63 = .ok (.aload_n 0, 1) := by decide +kernel
theorem d_Rk_doOne_64 : decode b_Rk_doOne 64 = .ok (.getfield 27, 3) := by decide +kernel
theorem d_Rk_doOne_67 : decode b_Rk_doOne 67 = .ok (.iload_n 1, 1) := by decide +kernel
theorem d_Rk_doOne_68 : decode b_Rk_doOne 68 = .ok (.iload_n 2, 1) := by decide +kernel
theorem d_Rk_doOne_69 : decode b_Rk_doOne 69 = .ok (.iload_n 3, 1) := by decide +kernel
theorem d_Rk_doOne_70 : decode b_Rk_doOne 70 = .ok (.invokestatic 74, 3) := by decide +kernel
theorem d_Rk_doOne_73 : decode b_Rk_doOne 73 = .ok (.if_icmp .ge 5, 3) := by decide +kernel
theorem d_Rk_doOne_76 : decode b_Rk_doOne 76 = .ok (.iconst 3, 1) := by decide +kernel
theorem d_Rk_doOne_77 : decode b_Rk_doOne 77 = .ok (.ireturn, 1) := by decide +kernel
theorem d_Rk_doOne_78 : decode b_Rk_doOne 78 = .ok (.iload_n 2, 1) := by decide +kernel
theorem d_Rk_doOne_79 : decode b_Rk_doOne 79 = .ok (.tableswitch 66 2 6 #[33, 40, 47, 53, 59], 33) := by decide +kernel
theorem d_Rk_doOne_112 : decode b_Rk_doOne 112 = .ok (.aload_n 0, 1) := by decide +kernel
theorem d_Rk_doOne_113 : decode b_Rk_doOne 113 = .ok (.iload_n 1, 1) := by decide +kernel
theorem d_Rk_doOne_114 : decode b_Rk_doOne 114 = .ok (.iload_n 3, 1) := by decide +kernel
theorem d_Rk_doOne_115 : decode b_Rk_doOne 115 = .ok (.invokevirtual 78, 3) := by decide +kernel
theorem d_Rk_doOne_118 : decode b_Rk_doOne 118 = .ok (.ireturn, 1) := by decide +kernel
theorem d_Rk_doOne_119 : decode b_Rk_doOne 119 = .ok (.aload_n 0, 1) := by decide +kernel
theorem d_Rk_doOne_120 : decode b_Rk_doOne 120 = .ok (.iload_n 1, 1) := by decide +kernel
theorem d_Rk_doOne_121 : decode b_Rk_doOne 121 = .ok (.iload_n 3, 1) := by decide +kernel
theorem d_Rk_doOne_122 : decode b_Rk_doOne 122 = .ok (.invokevirtual 82, 3) := by decide +kernel
theorem d_Rk_doOne_125 : decode b_Rk_doOne 125 = .ok (.ireturn, 1) := by decide +kernel
theorem d_Rk_doOne_126 : decode b_Rk_doOne 126 = .ok (.aload_n 0, 1) := by decide +kernel
theorem d_Rk_doOne_127 : decode b_Rk_doOne 127 = .ok (.iload_n 1, 1) := by decide +kernel
theorem d_Rk_doOne_128 : decode b_Rk_doOne 128 = .ok (.invokevirtual 85, 3) := by decide +kernel
theorem d_Rk_doOne_131 : decode b_Rk_doOne 131 = .ok (.ireturn, 1) := by decide +kernel
theorem d_Rk_doOne_132 : decode b_Rk_doOne 132 = .ok (.aload_n 0, 1) := by decide +kernel
theorem d_Rk_doOne_133 : decode b_Rk_doOne 133 = .ok (.iload_n 1, 1) := by decide +kernel
theorem d_Rk_doOne_134 : decode b_Rk_doOne 134 = .ok (.invokevirtual 88, 3) := by decide +kernel
theorem d_Rk_doOne_137 : decode b_Rk_doOne 137 = .ok (.ireturn, 1) := by decide +kernel
theorem d_Rk_doOne_138 : decode b_Rk_doOne 138 = .ok (.aload_n 0, 1) := by decide +kernel
theorem d_Rk_doOne_139 : decode b_Rk_doOne 139 = .ok (.iload_n 1, 1) := by decide +kernel
theorem d_Rk_doOne_140 : decode b_Rk_doOne 140 = .ok (.iload_n 3, 1) := by decide +kernel
theorem d_Rk_doOne_141 : decode b_Rk_doOne 141 = .ok (.invokevirtual 91, 3) := by decide +kernel
theorem d_Rk_doOne_144 : decode b_Rk_doOne 144 = .ok (.ireturn, 1) := by decide +kernel
theorem d_Rk_doOne_145 : decode b_Rk_doOne 145 = .ok (.iconst 0, 1) := by decide +kernel
theorem d_Rk_doOne_146 : decode b_Rk_doOne 146 = .ok (.ireturn, 1) := by decide +kernel
theorem d_Rk_run_0 : decode b_Rk_run 0 = .ok (.aload_n 0, 1) := by decide +kernel
theorem d_Rk_run_1 : decode b_Rk_run 1 = .ok (.iload_n 1, 1) := by decide +kernel
theorem d_Rk_run_2 : decode b_Rk_run 2 = .ok (.putfield 42, 3) := by decide +kernel
theorem d_Rk_run_5 : decode b_Rk_run 5 = .ok (.aload_n 0, 1) := by decide +kernel
theorem d_Rk_run_6 : decode b_Rk_run 6 = .ok (.getfield 9, 3) := by decide +kernel
theorem d_Rk_run_9 : decode b_Rk_run 9 = .ok (.iload_n 1, 1) := by decide +kernel
theorem d_Rk_run_10 : decode b_Rk_run 10 = .ok (.iload_n 2, 1) := by decide +kernel
theorem d_Rk_run_11 : decode b_Rk_run 11 = .ok (.invokevirtual 45, 3) := by decide +kernel
theorem d_Rk_run_14 : decode b_Rk_run 14 = .ok (.iload_n 3, 1) := by decide +kernel
theorem d_Rk_run_15 : decode b_Rk_run 15 = .ok (.istore 4, 2) := by decide +kernel
theorem d_Rk_run_17 : decode b_Rk_run 17 = .ok (.aload_n 0, 1) := by decide +kernel
theorem d_Rk_run_18 : decode b_Rk_run 18 = .ok (.getfield 9, 3) := by decide +kernel
theorem d_Rk_run_21 : decode b_Rk_run 21 = .ok (.getfield 51, 3) := by decide +kernel
theorem d_Rk_run_24 : decode b_Rk_run 24 = .ok (.aload_n 0, 1) := by decide +kernel
theorem d_Rk_run_25 : decode b_Rk_run 25 = .ok (.getfield 9, 3) := by decide +kernel
theorem d_Rk_run_28 : decode b_Rk_run 28 = .ok (.getfield 54, 3) := by decide +kernel
theorem d_Rk_run_31 : decode b_Rk_run 31 = .ok (.if_icmp .ge 30, 3) := by decide +kernel
theorem d_Rk_run_34 : decode b_Rk_run 34 = .ok (.iload 4, 2) := by decide +kernel
theorem d_Rk_run_36 : decode b_Rk_run 36 = .ok (.ifCond .gt 5, 3) := by decide +kernel
theorem d_Rk_run_39 : decode b_Rk_run 39 = .ok (.iconst 1, 1) := by decide +kernel
theorem d_Rk_run_40 : decode b_Rk_run 40 = .ok (.ireturn, 1) := by decide +kernel
theorem d_Rk_run_41 : decode b_Rk_run 41 = .ok (.aload_n 0, 1) := by decide +kernel
theorem d_Rk_run_42 : decode b_Rk_run 42 = .ok (.invokevirtual 57, 3) := by decide +kernel
theorem d_Rk_run_45 : decode b_Rk_run 45 = .ok (.istore 5, 2) := by decide +kernel
theorem d_Rk_run_47 : decode b_Rk_run 47 = .ok (.iload 5, 2) := by decide +kernel
theorem d_Rk_run_49 : decode b_Rk_run 49 = .ok (.ifCond .eq 6, 3) := by decide +kernel
theorem d_Rk_run_52 : decode b_Rk_run 52 = .ok (.iload 5, 2) := by decide +kernel
theorem d_Rk_run_54 : decode b_Rk_run 54 = .ok (.ireturn, 1) := by decide +kernel
theorem d_Rk_run_55 : decode b_Rk_run 55 = .ok (.iinc 4 (-1), 3) := by decide +kernel
theorem d_Rk_run_58 : decode b_Rk_run 58 = .ok (.goto (-41), 3) := by decide +kernel
theorem d_Rk_run_61 : decode b_Rk_run 61 = .ok (.aload_n 0, 1) := by decide +kernel
theorem d_Rk_run_62 : decode b_Rk_run 62 = .ok (.getfield 27, 3) := by decide +kernel
theorem d_Rk_run_65 : decode b_Rk_run 65 = .ok (.ifCond .le 7, 3) := by decide +kernel
theorem d_Rk_run_68 : decode b_Rk_run 68 = .ok (.iconst 0, 1) := by decide +kernel
theorem d_Rk_run_69 : decode b_Rk_run 69 = .ok (.goto 4, 3) := by decide +kernel
theorem d_Rk_run_72 : decode b_Rk_run 72 = .ok (.iconst 3, 1) := by decide +kernel
theorem d_Rk_run_73 : decode b_Rk_run 73 = .ok (.ireturn, 1) := by decide +kernel
theorem d_La_indexAt_0 : decode b_La_indexAt 0 = .ok (.iconst 0, 1) := by decide +kernel
theorem d_La_indexAt_1 : decode b_La_indexAt 1 = .ok (.istore_n 2, 1) := by decide +kernel
theorem d_La_indexAt_2 : decode b_La_indexAt 2 = .ok (.iload_n 2, 1) := by decide +kernel
theorem d_La_indexAt_3 : decode b_La_indexAt 3 = .ok (.aload_n 0, 1) := by decide +kernel
theorem d_La_indexAt_4 : decode b_La_indexAt 4 = .ok (.getfield 33, 3) := by decide +kernel
theorem d_La_indexAt_7 : decode b_La_indexAt 7 = .ok (.if_icmp .ge 24, 3) := by decide +kernel
theorem d_La_indexAt_10 : decode b_La_indexAt 10 = .ok (.aload_n 0, 1) := by decide +kernel
theorem d_La_indexAt_11 : decode b_La_indexAt 11 = .ok (.getfield 28, 3) := by decide +kernel
theorem d_La_indexAt_14 : decode b_La_indexAt 14 = .ok (.iload_n 2, 1) := by decide +kernel
theorem d_La_indexAt_15 : decode b_La_indexAt 15 = .ok (.aaload, 1) := by decide +kernel
theorem d_La_indexAt_16 : decode b_La_indexAt 16 = .ok (.iload_n 1, 1) := by decide +kernel
theorem d_La_indexAt_17 : decode b_La_indexAt 17 = .ok (.invokevirtual 53, 3) := by decide +kernel
theorem d_La_indexAt_20 : decode b_La_indexAt 20 = .ok (.ifCond .eq 5, 3) := by decide +kernel
theorem d_La_indexAt_23 : decode b_La_indexAt 23 = .ok (.iload_n 2, 1) := by decide +kernel
theorem d_La_indexAt_24 : decode b_La_indexAt 24 = .ok (.ireturn, 1) := by decide +kernel
theorem d_La_indexAt_25 : decode b_La_indexAt 25 = .ok (.iinc 2 1, 3) := by decide +kernel
theorem d_La_indexAt_28 : decode b_La_indexAt 28 = .ok (.goto (-26), 3) := by decide +kernel
theorem d_La_indexAt_31 : decode b_La_indexAt 31 = .ok (.iconst (-1), 1) := by decide +kernel
theorem d_La_indexAt_32 : decode b_La_indexAt 32 = .ok (.ireturn, 1) := by decide +kernel
theorem d_La_commonAt_0 : decode b_La_commonAt 0 = .ok (.iconst 0, 1) := by decide +kernel
theorem d_La_commonAt_1 : decode b_La_commonAt 1 = .ok (.istore_n 2, 1) := by decide +kernel
theorem d_La_commonAt_2 : decode b_La_commonAt 2 = .ok (.iload_n 2, 1) := by decide +kernel
theorem d_La_commonAt_3 : decode b_La_commonAt 3 = .ok (.aload_n 0, 1) := by decide +kernel
theorem d_La_commonAt_4 : decode b_La_commonAt 4 = .ok (.getfield 33, 3) := by decide +kernel
theorem d_La_commonAt_7 : decode b_La_commonAt 7 = .ok (.if_icmp .ge 36, 3) := by decide +kernel
theorem d_La_commonAt_10 : decode b_La_commonAt 10 = .ok (.aload_n 0, 1) := by decide +kernel
theorem d_La_commonAt_11 : decode b_La_commonAt 11 = .ok (.getfield 28, 3) := by decide +kernel
theorem d_La_commonAt_14 : decode b_La_commonAt 14 = .ok (.iload_n 2, 1) := by decide +kernel
theorem d_La_commonAt_15 : decode b_La_commonAt 15 = .ok (.aaload, 1) := by decide +kernel
theorem d_La_commonAt_16 : decode b_La_commonAt 16 = .ok (.getfield 74, 3) := by decide +kernel
theorem d_La_commonAt_19 : decode b_La_commonAt 19 = .ok (.iload_n 1, 1) := by decide +kernel
theorem d_La_commonAt_20 : decode b_La_commonAt 20 = .ok (.if_icmp .ne 17, 3) := by decide +kernel
theorem d_La_commonAt_23 : decode b_La_commonAt 23 = .ok (.aload_n 0, 1) := by decide +kernel
theorem d_La_commonAt_24 : decode b_La_commonAt 24 = .ok (.getfield 28, 3) := by decide +kernel
theorem d_La_commonAt_27 : decode b_La_commonAt 27 = .ok (.iload_n 2, 1) := by decide +kernel
theorem d_La_commonAt_28 : decode b_La_commonAt 28 = .ok (.aaload, 1) := by decide +kernel
theorem d_La_commonAt_29 : decode b_La_commonAt 29 = .ok (.getfield 77, 3) := by decide +kernel
theorem d_La_commonAt_32 : decode b_La_commonAt 32 = .ok (.ifCond .ne 5, 3) := by decide +kernel
theorem d_La_commonAt_35 : decode b_La_commonAt 35 = .ok (.iload_n 2, 1) := by decide +kernel
theorem d_La_commonAt_36 : decode b_La_commonAt 36 = .ok (.ireturn, 1) := by decide +kernel
theorem d_La_commonAt_37 : decode b_La_commonAt 37 = .ok (.iinc 2 1, 3) := by decide +kernel
theorem d_La_commonAt_40 : decode b_La_commonAt 40 = .ok (.goto (-38), 3) := by decide +kernel
theorem d_La_commonAt_43 : decode b_La_commonAt 43 = .ok (.iconst (-1), 1) := by decide +kernel
theorem d_La_commonAt_44 : decode b_La_commonAt 44 = .ok (.ireturn, 1) := by decide +kernel
