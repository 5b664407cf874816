theorem d_Tr_apply_0 : decode b_Tr_apply 0 = .ok (.aload_n 0, 1) := by decide +kernel
theorem d_Tr_apply_1 : decode b_Tr_apply 1 = .ok (.getfield 18, 3) := by decide +kernel
theorem d_Tr_apply_4 : decode b_Tr_apply 4 = .ok (.getfield 100, 3) := by decide +kernel
theorem d_Tr_apply_7 : decode b_Tr_apply 7 = .ok (.istore_n 3, 1) := by decide +kernel
theorem d_Tr_apply_8 : decode b_Tr_apply 8 = .ok (.aload_n 0, 1) := by decide +kernel
theorem d_Tr_apply_9 : decode b_Tr_apply 9 = .ok (.getfield 18, 3) := by decide +kernel
theorem d_Tr_apply_12 : decode b_Tr_apply 12 = .ok (.getfield 103, 3) := by decide +kernel
theorem d_Tr_apply_15 : decode b_Tr_apply 15 = .ok (.tableswitch 141 0 19 #[93, 96, 104, 104, 104, 141, 141, 141, 141, 141, 119, 126, 133, 133, 133, 133, 141, 141, 133, 133], 93) := by decide +kernel
theorem d_Tr_apply_108 : decode b_Tr_apply 108 = .ok (.goto 53, 3) := by decide +kernel
theorem d_Tr_apply_111 : decode b_Tr_apply 111 = .ok (.aload_n 0, 1) := by decide +kernel
theorem d_Tr_apply_112 : decode b_Tr_apply 112 = .ok (.iload_n 3, 1) := by decide +kernel
theorem d_Tr_apply_113 : decode b_Tr_apply 113 = .ok (.putfield 40, 3) := by decide +kernel
theorem d_Tr_apply_116 : decode b_Tr_apply 116 = .ok (.goto 45, 3) := by decide +kernel
theorem d_Tr_apply_119 : decode b_Tr_apply 119 = .ok (.aload_n 0, 1) := by decide +kernel
theorem d_Tr_apply_120 : decode b_Tr_apply 120 = .ok (.dup, 1) := by decide +kernel
theorem d_Tr_apply_121 : decode b_Tr_apply 121 = .ok (.getfield 40, 3) := by decide +kernel
theorem d_Tr_apply_124 : decode b_Tr_apply 124 = .ok (.iload_n 3, 1) := by decide +kernel
theorem d_Tr_apply_125 : decode b_Tr_apply 125 = .ok (.iload_n 1, 1) := by decide +kernel
theorem d_Tr_apply_126 : decode b_Tr_apply 126 = .ok (.imul, 1) := by decide +kernel
theorem d_Tr_apply_127 : decode b_Tr_apply 127 = .ok (.iadd, 1) := by decide +kernel
theorem d_Tr_apply_128 : decode b_Tr_apply 128 = .ok (.putfield 40, 3) := by decide +kernel
theorem d_Tr_apply_131 : decode b_Tr_apply 131 = .ok (.goto 30, 3) := by decide +kernel
theorem d_Tr_apply_134 : decode b_Tr_apply 134 = .ok (.aload_n 0, 1) := by decide +kernel
theorem d_Tr_apply_135 : decode b_Tr_apply 135 = .ok (.invokevirtual 106, 3) := by decide +kernel
theorem d_Tr_apply_138 : decode b_Tr_apply 138 = .ok (.goto 23, 3) := by decide +kernel
theorem d_Tr_apply_141 : decode b_Tr_apply 141 = .ok (.aload_n 0, 1) := by decide +kernel
theorem d_Tr_apply_142 : decode b_Tr_apply 142 = .ok (.invokevirtual 109, 3) := by decide +kernel
theorem d_Tr_apply_145 : decode b_Tr_apply 145 = .ok (.goto 16, 3) := by decide +kernel
theorem d_Tr_apply_148 : decode b_Tr_apply 148 = .ok (.aload_n 0, 1) := by decide +kernel
theorem d_Tr_apply_149 : decode b_Tr_apply 149 = .ok (.iload_n 2, 1) := by decide +kernel
theorem d_Tr_apply_150 : decode b_Tr_apply 150 = .ok (.invokevirtual 112, 3) := by decide +kernel
theorem d_Tr_apply_153 : decode b_Tr_apply 153 = .ok (.goto 8, 3) := by decide +kernel
theorem d_Tr_apply_156 : decode b_Tr_apply 156 = .ok (.aload_n 0, 1) := by decide +kernel
theorem d_Tr_apply_157 : decode b_Tr_apply 157 = .ok (.iload_n 2, 1) := by decide +kernel
theorem d_Tr_apply_158 : decode b_Tr_apply 158 = .ok (.invokevirtual 115, 3) := by decide +kernel
theorem d_Tr_apply_161 : decode b_Tr_apply 161 = .ok (.return_, 1) := by decide +kernel
theorem d_Tr_follow_0 : decode b_Tr_follow 0 = .ok (.aload_n 0, 1) := by decide +kernel
theorem d_Tr_follow_1 : decode b_Tr_follow 1 = .ok (.getfield 9, 3) := by decide +kernel
theorem d_Tr_follow_4 : decode b_Tr_follow 4 = .ok (.aload_n 1, 1) := by decide +kernel
theorem d_Tr_follow_5 : decode b_Tr_follow 5 = .ok (.getfield 63, 3) := by decide +kernel
theorem d_Tr_follow_8 : decode b_Tr_follow 8 = .ok (.aload_n 1, 1) := by decide +kernel
theorem d_Tr_follow_9 : decode b_Tr_follow 9 = .ok (.getfield 66, 3) := by decide +kernel
theorem d_Tr_follow_12 : decode b_Tr_follow 12 = .ok (.invokevirtual 69, 3) := by decide +kernel
theorem d_Tr_follow_15 : decode b_Tr_follow 15 = .ok (.iconst 0, 1) := by decide +kernel
theorem d_Tr_follow_16 : decode b_Tr_follow 16 = .ok (.istore 4, 2) := by decide +kernel
theorem d_Tr_follow_18 : decode b_Tr_follow 18 = .ok (.iload 4, 2) := by decide +kernel
theorem d_Tr_follow_20 : decode b_Tr_follow 20 = .ok (.sipush 512, 3) := by decide +kernel
theorem d_Tr_follow_23 : decode b_Tr_follow 23 = .ok (.if_icmp .ge 64, 3) := by decide +kernel
theorem d_Tr_follow_26 : decode b_Tr_follow 26 = .ok (.aload_n 0, 1) := by decide +kernel
theorem d_Tr_follow_27 : decode b_Tr_follow 27 = .ok (.getfield 9, 3) := by decide +kernel
theorem d_Tr_follow_30 : decode b_Tr_follow 30 = .ok (.getfield 75, 3) := by decide +kernel
theorem d_Tr_follow_33 : decode b_Tr_follow 33 = .ok (.aload_n 0, 1) := by decide +kernel
theorem d_Tr_follow_34 : decode b_Tr_follow 34 = .ok (.getfield 9, 3) := by decide +kernel
theorem d_Tr_follow_37 : decode b_Tr_follow 37 = .ok (.getfield 78, 3) := by decide +kernel
theorem d_Tr_follow_40 : decode b_Tr_follow 40 = .ok (.if_icmp .ge 47, 3) := by decide +kernel
theorem d_Tr_follow_43 : decode b_Tr_follow 43 = .ok (.aload_n 0, 1) := by decide +kernel
theorem d_Tr_follow_44 : decode b_Tr_follow 44 = .ok (.getfield 40, 3) := by decide +kernel
theorem d_Tr_follow_47 : decode b_Tr_follow 47 = .ok (.iload_n 3, 1) := by decide +kernel
theorem d_Tr_follow_48 : decode b_Tr_follow 48 = .ok (.invokestatic 81, 3) := by decide +kernel
theorem d_Tr_follow_51 : decode b_Tr_follow 51 = .ok (.ifCond .gt 17, 3) := by decide +kernel
theorem d_Tr_follow_54 : decode b_Tr_follow 54 = .ok (.aload_n 0, 1) := by decide +kernel
theorem d_Tr_follow_55 : decode b_Tr_follow 55 = .ok (.getfield 18, 3) := by decide +kernel
theorem d_Tr_follow_58 : decode b_Tr_follow 58 = .ok (.aload_n 0, 1) := by decide +kernel
theorem d_Tr_follow_59 : decode b_Tr_follow 59 = .ok (.getfield 9, 3) := by decide +kernel
theorem d_Tr_follow_62 : decode b_Tr_follow 62 = .ok (.invokevirtual 87, 3) := by decide +kernel
theorem d_Tr_follow_65 : decode b_Tr_follow 65 = .ok (.ifCond .ne 4, 3) := by decide +kernel
theorem d_Tr_follow_68 : decode b_Tr_follow 68 = .ok (.return_, 1) := by decide +kernel
theorem d_Tr_follow_69 : decode b_Tr_follow 69 = .ok (.aload_n 0, 1) := by decide +kernel
theorem d_Tr_follow_70 : decode b_Tr_follow 70 = .ok (.aload_n 2, 1) := by decide +kernel
theorem d_Tr_follow_71 : decode b_Tr_follow 71 = .ok (.getfield 91, 3) := by decide +kernel
theorem d_Tr_follow_74 : decode b_Tr_follow 74 = .ok (.aload_n 2, 1) := by decide +kernel
theorem d_Tr_follow_75 : decode b_Tr_follow 75 = .ok (.getfield 94, 3) := by decide +kernel
theorem d_Tr_follow_78 : decode b_Tr_follow 78 = .ok (.invokevirtual 97, 3) := by decide +kernel
theorem d_Tr_follow_81 : decode b_Tr_follow 81 = .ok (.iinc 4 1, 3) := by decide +kernel
theorem d_Tr_follow_84 : decode b_Tr_follow 84 = .ok (.goto (-66), 3) := by decide +kernel
theorem d_Tr_follow_87 : decode b_Tr_follow 87 = .ok (.return_, 1) := by decide +kernel
theorem d_Tr_rowAt_0 : decode b_Tr_rowAt 0 = .ok (.aload_n 0, 1) := by decide +kernel
theorem d_Tr_rowAt_1 : decode b_Tr_rowAt 1 = .ok (.iconst 0, 1) := by decide +kernel
theorem d_Tr_rowAt_2 : decode b_Tr_rowAt 2 = .ok (.putfield 36, 3) := by decide +kernel
theorem d_Tr_rowAt_5 : decode b_Tr_rowAt 5 = .ok (.aload_n 0, 1) := by decide +kernel
theorem d_Tr_rowAt_6 : decode b_Tr_rowAt 6 = .ok (.iconst 0, 1) := by decide +kernel
theorem d_Tr_rowAt_7 : decode b_Tr_rowAt 7 = .ok (.putfield 40, 3) := by decide +kernel
theorem d_Tr_rowAt_10 : decode b_Tr_rowAt 10 = .ok (.aload_n 0, 1) := by decide +kernel
theorem d_Tr_rowAt_11 : decode b_Tr_rowAt 11 = .ok (.getfield 25, 3) := by decide +kernel
theorem d_Tr_rowAt_14 : decode b_Tr_rowAt 14 = .ok (.aload_n 2, 1) := by decide +kernel
theorem d_Tr_rowAt_15 : decode b_Tr_rowAt 15 = .ok (.getfield 43, 3) := by decide +kernel
theorem d_Tr_rowAt_18 : decode b_Tr_rowAt 18 = .ok (.invokevirtual 48, 3) := by decide +kernel
theorem d_Tr_rowAt_21 : decode b_Tr_rowAt 21 = .ok (.aload_n 0, 1) := by decide +kernel
theorem d_Tr_rowAt_22 : decode b_Tr_rowAt 22 = .ok (.aload_n 2, 1) := by decide +kernel
theorem d_Tr_rowAt_23 : decode b_Tr_rowAt 23 = .ok (.aload_n 2, 1) := by decide +kernel
theorem d_Tr_rowAt_24 : decode b_Tr_rowAt 24 = .ok (.iload_n 3, 1) := by decide +kernel
theorem d_Tr_rowAt_25 : decode b_Tr_rowAt 25 = .ok (.invokevirtual 52, 3) := by decide +kernel
theorem d_Tr_rowAt_28 : decode b_Tr_rowAt 28 = .ok (.aload_n 0, 1) := by decide +kernel
theorem d_Tr_rowAt_29 : decode b_Tr_rowAt 29 = .ok (.getfield 29, 3) := by decide +kernel
theorem d_Tr_rowAt_32 : decode b_Tr_rowAt 32 = .ok (.aload_n 0, 1) := by decide +kernel
theorem d_Tr_rowAt_33 : decode b_Tr_rowAt 33 = .ok (.getfield 25, 3) := by decide +kernel
theorem d_Tr_rowAt_36 : decode b_Tr_rowAt 36 = .ok (.invokevirtual 56, 3) := by decide +kernel
theorem d_Tr_rowAt_39 : decode b_Tr_rowAt 39 = .ok (.aload_n 0, 1) := by decide +kernel
theorem d_Tr_rowAt_40 : decode b_Tr_rowAt 40 = .ok (.aload_n 1, 1) := by decide +kernel
theorem d_Tr_rowAt_41 : decode b_Tr_rowAt 41 = .ok (.getfield 60, 3) := by decide +kernel
theorem d_Tr_rowAt_44 : decode b_Tr_rowAt 44 = .ok (.putfield 40, 3) := by decide +kernel
theorem d_Tr_rowAt_47 : decode b_Tr_rowAt 47 = .ok (.aload_n 0, 1) := by decide +kernel
theorem d_Tr_rowAt_48 : decode b_Tr_rowAt 48 = .ok (.aload_n 1, 1) := by decide +kernel
theorem d_Tr_rowAt_49 : decode b_Tr_rowAt 49 = .ok (.aload_n 2, 1) := by decide +kernel
theorem d_Tr_rowAt_50 : decode b_Tr_rowAt 50 = .ok (.iload_n 3, 1) := by decide +kernel
theorem d_Tr_rowAt_51 : decode b_Tr_rowAt 51 = .ok (.invokevirtual 52, 3) := by decide +kernel
theorem d_Tr_rowAt_54 : decode b_Tr_rowAt 54 = .ok (.aload_n 0, 1) := by decide +kernel
theorem d_Tr_rowAt_55 : decode b_Tr_rowAt 55 = .ok (.getfield 25, 3) := by decide +kernel
theorem d_Tr_rowAt_58 : decode b_Tr_rowAt 58 = .ok (.areturn, 1) := by decide +kernel
theorem d_Fu_isFuel_0 : decode b_Fu_isFuel 0 = .ok (.iload_n 0, 1) := by decide +kernel
theorem d_Fu_isFuel_1 : decode b_Fu_isFuel 1 = .ok (.ifCond .lt 14, 3) := by decide +kernel
theorem d_Fu_isFuel_4 : decode b_Fu_isFuel 4 = .ok (.iload_n 0, 1) := by decide +kernel
theorem d_Fu_isFuel_5 : decode b_Fu_isFuel 5 = .ok (.sipush 2000, 3) := by decide +kernel
theorem d_Fu_isFuel_8 : decode b_Fu_isFuel 8 = .ok (.if_icmp .gt 7, 3) := by decide +kernel
theorem d_Fu_isFuel_11 : decode b_Fu_isFuel 11 = .ok (.iconst 1, 1) := by decide +kernel
theorem d_Fu_isFuel_12 : decode b_Fu_isFuel 12 = .ok (.goto 4, 3) := by decide +kernel
theorem d_Fu_isFuel_15 : decode b_Fu_isFuel 15 = .ok (.iconst 0, 1) := by decide +kernel
theorem d_Fu_isFuel_16 : decode b_Fu_isFuel 16 = .ok (.ireturn, 1) := by decide +kernel
theorem d_Fu_fault_0 : decode b_Fu_fault 0 = .ok (.aload_n 0, 1) := by decide +kernel
theorem d_Fu_fault_1 : decode b_Fu_fault 1 = .ok (.getfield 30, 3) := by decide +kernel
theorem d_Fu_fault_4 : decode b_Fu_fault 4 = .ok (.invokevirtual 93, 3) := by decide +kernel
theorem d_Fu_fault_7 : decode b_Fu_fault 7 = .ok (.ireturn, 1) := by decide +kernel
theorem d_Fu_entries_0 : decode b_Fu_entries 0 = .ok (.aload_n 0, 1) := by decide +kernel
theorem d_Fu_entries_1 : decode b_Fu_entries 1 = .ok (.getfield 30, 3) := by decide +kernel
theorem d_Fu_entries_4 : decode b_Fu_entries 4 = .ok (.invokevirtual 93, 3) := by decide +kernel
theorem d_Fu_entries_7 : decode b_Fu_entries 7 = .ok (.iconst (-1), 1) := by decide +kernel
theorem d_Fu_entries_8 : decode b_Fu_entries 8 = .ok (.if_icmp .ne 13, 3) := by decide +kernel
theorem d_Fu_entries_11 : decode b_Fu_entries 11 = .ok (.aload_n 0, 1) := by decide +kernel
theorem d_Fu_entries_12 : decode b_Fu_entries 12 = .ok (.getfield 30, 3) := by decide +kernel
theorem d_Fu_entries_15 : decode b_Fu_entries 15 = .ok (.getfield 97, 3) := by decide +kernel
theorem d_Fu_entries_18 : decode b_Fu_entries 18 = .ok (.goto 4, 3) := by decide +kernel
theorem d_Fu_entries_21 : decode b_Fu_entries 21 = .ok (.iconst (-1), 1) := by decide +kernel
theorem d_Fu_entries_22 : decode b_Fu_entries 22 = .ok (.ireturn, 1) := by decide +kernel
theorem d_Fu_start_0 : decode b_Fu_start 0 = .ok (.aload_n 0, 1) := by decide +kernel
theorem d_Fu_start_1 : decode b_Fu_start 1 = .ok (.getfield 53, 3) := by decide +kernel
theorem d_Fu_start_4 : decode b_Fu_start 4 = .ok (.iload_n 1, 1) := by decide +kernel
theorem d_Fu_start_5 : decode b_Fu_start 5 = .ok (.putfield 139, 3) := by decide +kernel
theorem d_Fu_start_8 : decode b_Fu_start 8 = .ok (.aload_n 0, 1) := by decide +kernel
theorem d_Fu_start_9 : decode b_Fu_start 9 = .ok (.getfield 53, 3) := by decide +kernel
theorem d_Fu_start_12 : decode b_Fu_start 12 = .ok (.iconst 0, 1) := by decide +kernel
theorem d_Fu_start_13 : decode b_Fu_start 13 = .ok (.putfield 142, 3) := by decide +kernel
theorem d_Fu_start_16 : decode b_Fu_start 16 = .ok (.return_, 1) := by decide +kernel
theorem d_Fu_value_0 : decode b_Fu_value 0 = .ok (.aload_n 0, 1) := by decide +kernel
theorem d_Fu_value_1 : decode b_Fu_value 1 = .ok (.getfield 69, 3) := by decide +kernel
theorem d_Fu_value_4 : decode b_Fu_value 4 = .ok (.ireturn, 1) := by decide +kernel
