theorem d_Fu_reckon_0 : decode b_Fu_reckon 0 = .ok (.iload_n 1, 1) := by decide +kernel
theorem d_Fu_reckon_1 : decode b_Fu_reckon 1 = .ok (.ifCond .lt 26, 3) := by decide +kernel
theorem d_Fu_reckon_4 : decode b_Fu_reckon 4 = .ok (.iload_n 2, 1) := by decide +kernel
theorem d_Fu_reckon_5 : decode b_Fu_reckon 5 = .ok (.iload_n 1, 1) := by decide +kernel
theorem d_Fu_reckon_6 : decode b_Fu_reckon 6 = .ok (.if_icmp .lt 21, 3) := by decide +kernel
theorem d_Fu_reckon_9 : decode b_Fu_reckon 9 = .ok (.iload_n 2, 1) := by decide +kernel
theorem d_Fu_reckon_10 : decode b_Fu_reckon 10 = .ok (.aload_n 0, 1) := by decide +kernel
theorem d_Fu_reckon_11 : decode b_Fu_reckon 11 = .ok (.getfield 10, 3) := by decide +kernel
theorem d_Fu_reckon_14 : decode b_Fu_reckon 14 = .ok (.getfield 73, 3) := by decide +kernel
theorem d_Fu_reckon_17 : decode b_Fu_reckon 17 = .ok (.if_icmp .gt 10, 3) := by decide +kernel
theorem d_Fu_reckon_20 : decode b_Fu_reckon 20 = .ok (.iload_n 3, 1) := by decide +kernel
theorem d_Fu_reckon_21 : decode b_Fu_reckon 21 = .ok (.invokestatic 145, 3) := by decide +kernel
theorem d_Fu_reckon_24 : decode b_Fu_reckon 24 = .ok (.ifCond .ne 11, 3) := by decide +kernel
theorem d_Fu_reckon_27 : decode b_Fu_reckon 27 = .ok (.new 83, 3) := by decide +kernel
theorem d_Fu_reckon_30 : decode b_Fu_reckon 30 = .ok (.dup, 1) := by decide +kernel
theorem d_Fu_reckon_31 : decode b_Fu_reckon 31 = .ok (.invokespecial 85, 3) := by decide +kernel
theorem d_Fu_reckon_34 : decode b_Fu_reckon 34 = .ok (.athrow, 1) := by decide +kernel
theorem d_Fu_reckon_35 : decode b_Fu_reckon 35 = .ok (.aload_n 0, 1) := by decide +kernel
theorem d_Fu_reckon_36 : decode b_Fu_reckon 36 = .ok (.getfield 65, 3) := by decide +kernel
theorem d_Fu_reckon_39 : decode b_Fu_reckon 39 = .ok (.invokevirtual 148, 3) := by decide +kernel
theorem d_Fu_reckon_42 : decode b_Fu_reckon 42 = .ok (.aload_n 0, 1) := by decide +kernel
theorem d_Fu_reckon_43 : decode b_Fu_reckon 43 = .ok (.getfield 65, 3) := by decide +kernel
theorem d_Fu_reckon_46 : decode b_Fu_reckon 46 = .ok (.iload_n 1, 1) := by decide +kernel
theorem d_Fu_reckon_47 : decode b_Fu_reckon 47 = .ok (.iload_n 2, 1) := by decide +kernel
theorem d_Fu_reckon_48 : decode b_Fu_reckon 48 = .ok (.iload_n 3, 1) := by decide +kernel
theorem d_Fu_reckon_49 : decode b_Fu_reckon 49 = .ok (.invokevirtual 151, 3) := by decide +kernel
theorem d_Fu_reckon_52 : decode b_Fu_reckon 52 = .ok (.istore 4, 2) := by decide +kernel
theorem d_Fu_reckon_54 : decode b_Fu_reckon 54 = .ok (.aload_n 0, 1) := by decide +kernel
theorem d_Fu_reckon_55 : decode b_Fu_reckon 55 = .ok (.iload 4, 2) := by decide +kernel
theorem d_Fu_reckon_57 : decode b_Fu_reckon 57 = .ok (.ifCond .ne 13, 3) := by decide +kernel
theorem d_Fu_reckon_60 : decode b_Fu_reckon 60 = .ok (.aload_n 0, 1) := by decide +kernel
theorem d_Fu_reckon_61 : decode b_Fu_reckon 61 = .ok (.getfield 65, 3) := by decide +kernel
theorem d_Fu_reckon_64 : decode b_Fu_reckon 64 = .ok (.invokevirtual 155, 3) := by decide +kernel
theorem d_Fu_reckon_67 : decode b_Fu_reckon 67 = .ok (.goto 4, 3) := by decide +kernel
theorem d_Fu_reckon_70 : decode b_Fu_reckon 70 = .ok (.iconst 0, 1) := by decide +kernel
theorem d_Fu_reckon_71 : decode b_Fu_reckon 71 = .ok (.putfield 69, 3) := by decide +kernel
theorem d_Fu_reckon_74 : decode b_Fu_reckon 74 = .ok (.iload 4, 2) := by decide +kernel
theorem d_Fu_reckon_76 : decode b_Fu_reckon 76 = .ok (.ireturn, 1) := by decide +kernel
theorem d_Fu_row_0 : decode b_Fu_row 0 = .ok (.aload_n 0, 1) := by decide +kernel
theorem d_Fu_row_1 : decode b_Fu_row 1 = .ok (.getfield 30, 3) := by decide +kernel
theorem d_Fu_row_4 : decode b_Fu_row 4 = .ok (.invokevirtual 93, 3) := by decide +kernel
theorem d_Fu_row_7 : decode b_Fu_row 7 = .ok (.iconst (-1), 1) := by decide +kernel
theorem d_Fu_row_8 : decode b_Fu_row 8 = .ok (.if_icmp .eq 11, 3) := by decide +kernel
theorem d_Fu_row_11 : decode b_Fu_row 11 = .ok (.new 100, 3) := by decide +kernel
theorem d_Fu_row_14 : decode b_Fu_row 14 = .ok (.dup, 1) := by decide +kernel
theorem d_Fu_row_15 : decode b_Fu_row 15 = .ok (.invokespecial 102, 3) := by decide +kernel
theorem d_Fu_row_18 : decode b_Fu_row 18 = .ok (.athrow, 1) := by decide +kernel
theorem d_Fu_row_19 : decode b_Fu_row 19 = .ok (.aload_n 0, 1) := by decide +kernel
theorem d_Fu_row_20 : decode b_Fu_row 20 = .ok (.getfield 30, 3) := by decide +kernel
theorem d_Fu_row_23 : decode b_Fu_row 23 = .ok (.iload_n 1, 1) := by decide +kernel
theorem d_Fu_row_24 : decode b_Fu_row 24 = .ok (.invokevirtual 103, 3) := by decide +kernel
theorem d_Fu_row_27 : decode b_Fu_row 27 = .ok (.istore 4, 2) := by decide +kernel
theorem d_Fu_row_29 : decode b_Fu_row 29 = .ok (.iload 4, 2) := by decide +kernel
theorem d_Fu_row_31 : decode b_Fu_row 31 = .ok (.iconst (-1), 1) := by decide +kernel
theorem d_Fu_row_32 : decode b_Fu_row 32 = .ok (.if_icmp .ne 11, 3) := by decide +kernel
theorem d_Fu_row_35 : decode b_Fu_row 35 = .ok (.new 107, 3) := by decide +kernel
theorem d_Fu_row_38 : decode b_Fu_row 38 = .ok (.dup, 1) := by decide +kernel
theorem d_Fu_row_39 : decode b_Fu_row 39 = .ok (.invokespecial 109, 3) := by decide +kernel
theorem d_Fu_row_42 : decode b_Fu_row 42 = .ok (.athrow, 1) := by decide +kernel
theorem d_Fu_row_43 : decode b_Fu_row 43 = .ok (.iload_n 2, 1) := by decide +kernel
theorem d_Fu_row_44 : decode b_Fu_row 44 = .ok (.iconst (-1), 1) := by decide +kernel
theorem d_Fu_row_45 : decode b_Fu_row 45 = .ok (.if_icmp .lt 18, 3) := by decide +kernel
theorem d_Fu_row_48 : decode b_Fu_row 48 = .ok (.iload_n 2, 1) := by decide +kernel
theorem d_Fu_row_49 : decode b_Fu_row 49 = .ok (.bipush 8, 2) := by decide +kernel
theorem d_Fu_row_51 : decode b_Fu_row 51 = .ok (.if_icmp .ge 12, 3) := by decide +kernel
theorem d_Fu_row_54 : decode b_Fu_row 54 = .ok (.iload_n 3, 1) := by decide +kernel
theorem d_Fu_row_55 : decode b_Fu_row 55 = .ok (.ifCond .lt 8, 3) := by decide +kernel
theorem d_Fu_row_58 : decode b_Fu_row 58 = .ok (.iload_n 3, 1) := by decide +kernel
theorem d_Fu_row_59 : decode b_Fu_row 59 = .ok (.iconst 2, 1) := by decide +kernel
theorem d_Fu_row_60 : decode b_Fu_row 60 = .ok (.if_icmp .le 11, 3) := by decide +kernel
theorem d_Fu_row_63 : decode b_Fu_row 63 = .ok (.new 83, 3) := by decide +kernel
theorem d_Fu_row_66 : decode b_Fu_row 66 = .ok (.dup, 1) := by decide +kernel
theorem d_Fu_row_67 : decode b_Fu_row 67 = .ok (.invokespecial 85, 3) := by decide +kernel
theorem d_Fu_row_70 : decode b_Fu_row 70 = .ok (.athrow, 1) := by decide +kernel
theorem d_Fu_row_71 : decode b_Fu_row 71 = .ok (.aload_n 0, 1) := by decide +kernel
theorem d_Fu_row_72 : decode b_Fu_row 72 = .ok (.getfield 30, 3) := by decide +kernel
theorem d_Fu_row_75 : decode b_Fu_row 75 = .ok (.getfield 110, 3) := by decide +kernel
theorem d_Fu_row_78 : decode b_Fu_row 78 = .ok (.iload 4, 2) := by decide +kernel
theorem d_Fu_row_80 : decode b_Fu_row 80 = .ok (.aaload, 1) := by decide +kernel
theorem d_Fu_row_81 : decode b_Fu_row 81 = .ok (.astore 5, 2) := by decide +kernel
theorem d_Fu_row_83 : decode b_Fu_row 83 = .ok (.aload_n 0, 1) := by decide +kernel
theorem d_Fu_row_84 : decode b_Fu_row 84 = .ok (.getfield 39, 3) := by decide +kernel
theorem d_Fu_row_87 : decode b_Fu_row 87 = .ok (.aload 5, 2) := by decide +kernel
theorem d_Fu_row_89 : decode b_Fu_row 89 = .ok (.aload_n 0, 1) := by decide +kernel
theorem d_Fu_row_90 : decode b_Fu_row 90 = .ok (.getfield 30, 3) := by decide +kernel
theorem d_Fu_row_93 : decode b_Fu_row 93 = .ok (.getfield 110, 3) := by decide +kernel
theorem d_Fu_row_96 : decode b_Fu_row 96 = .ok (.aload 5, 2) := by decide +kernel
theorem d_Fu_row_98 : decode b_Fu_row 98 = .ok (.getfield 114, 3) := by decide +kernel
theorem d_Fu_row_101 : decode b_Fu_row 101 = .ok (.aaload, 1) := by decide +kernel
theorem d_Fu_row_102 : decode b_Fu_row 102 = .ok (.iload_n 1, 1) := by decide +kernel
theorem d_Fu_row_103 : decode b_Fu_row 103 = .ok (.invokevirtual 119, 3) := by decide +kernel
theorem d_Fu_row_106 : decode b_Fu_row 106 = .ok (.astore 6, 2) := by decide +kernel
theorem d_Fu_row_108 : decode b_Fu_row 108 = .ok (.aload 6, 2) := by decide +kernel
theorem d_Fu_row_110 : decode b_Fu_row 110 = .ok (.iload_n 2, 1) := by decide +kernel
theorem d_Fu_row_111 : decode b_Fu_row 111 = .ok (.iconst (-1), 1) := by decide +kernel
theorem d_Fu_row_112 : decode b_Fu_row 112 = .ok (.if_icmp .ne 8, 3) := by decide +kernel
theorem d_Fu_row_115 : decode b_Fu_row 115 = .ok (.bipush 8, 2) := by decide +kernel
theorem d_Fu_row_117 : decode b_Fu_row 117 = .ok (.goto 4, 3) := by decide +kernel
theorem d_Fu_row_120 : decode b_Fu_row 120 = .ok (.iload_n 2, 1) := by decide +kernel
theorem d_Fu_row_121 : decode b_Fu_row 121 = .ok (.iload_n 3, 1) := by decide +kernel
theorem d_Fu_row_122 : decode b_Fu_row 122 = .ok (.invokevirtual 125, 3) := by decide +kernel
theorem d_Fu_row_125 : decode b_Fu_row 125 = .ok (.ireturn, 1) := by decide +kernel
