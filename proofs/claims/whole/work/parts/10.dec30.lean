theorem d_Md_push_0 : decode b_Md_push 0 = .ok (.aload_n 0, 1) := by decide +kernel
theorem d_Md_push_1 : decode b_Md_push 1 = .ok (.getfield 164, 3) := by decide +kernel
theorem d_Md_push_4 : decode b_Md_push 4 = .ok (.bipush 16, 2) := by decide +kernel
theorem d_Md_push_6 : decode b_Md_push 6 = .ok (.if_icmp .ne 5, 3) := by decide +kernel
theorem d_Md_push_9 : decode b_Md_push 9 = .ok (.iconst 0, 1) := by decide +kernel
theorem d_Md_push_10 : decode b_Md_push 10 = .ok (.ireturn, 1) := by decide +kernel
theorem d_Md_push_11 : decode b_Md_push 11 = .ok (.aload_n 0, 1) := by decide +kernel
theorem d_Md_push_12 : decode b_Md_push 12 = .ok (.getfield 53, 3) := by decide +kernel
theorem d_Md_push_15 : decode b_Md_push 15 = .ok (.aload_n 0, 1) := by decide +kernel
theorem d_Md_push_16 : decode b_Md_push 16 = .ok (.getfield 164, 3) := by decide +kernel
theorem d_Md_push_19 : decode b_Md_push 19 = .ok (.iload_n 1, 1) := by decide +kernel
theorem d_Md_push_20 : decode b_Md_push 20 = .ok (.iastore, 1) := by decide +kernel
theorem d_Md_push_21 : decode b_Md_push 21 = .ok (.aload_n 0, 1) := by decide +kernel
theorem d_Md_push_22 : decode b_Md_push 22 = .ok (.dup, 1) := by decide +kernel
theorem d_Md_push_23 : decode b_Md_push 23 = .ok (.getfield 164, 3) := by decide +kernel
theorem d_Md_push_26 : decode b_Md_push 26 = .ok (.iconst 1, 1) := by decide +kernel
theorem d_Md_push_27 : decode b_Md_push 27 = .ok (.iadd, 1) := by decide +kernel
theorem d_Md_push_28 : decode b_Md_push 28 = .ok (.putfield 164, 3) := by decide +kernel
theorem d_Md_push_31 : decode b_Md_push 31 = .ok (.iconst 1, 1) := by decide +kernel
theorem d_Md_push_32 : decode b_Md_push 32 = .ok (.ireturn, 1) := by decide +kernel
theorem d_Md_pushed_0 : decode b_Md_pushed 0 = .ok (.aload_n 0, 1) := by decide +kernel
theorem d_Md_pushed_1 : decode b_Md_pushed 1 = .ok (.getfield 85, 3) := by decide +kernel
theorem d_Md_pushed_4 : decode b_Md_pushed 4 = .ok (.ifCond .eq 7, 3) := by decide +kernel
theorem d_Md_pushed_7 : decode b_Md_pushed 7 = .ok (.iconst 2, 1) := by decide +kernel
theorem d_Md_pushed_8 : decode b_Md_pushed 8 = .ok (.goto 16, 3) := by decide +kernel
theorem d_Md_pushed_11 : decode b_Md_pushed 11 = .ok (.aload_n 0, 1) := by decide +kernel
theorem d_Md_pushed_12 : decode b_Md_pushed 12 = .ok (.iload_n 1, 1) := by decide +kernel
theorem d_Md_pushed_13 : decode b_Md_pushed 13 = .ok (.invokevirtual 167, 3) := by decide +kernel
theorem d_Md_pushed_16 : decode b_Md_pushed 16 = .ok (.ifCond .eq 7, 3) := by decide +kernel
theorem d_Md_pushed_19 : decode b_Md_pushed 19 = .ok (.iconst 0, 1) := by decide +kernel
theorem d_Md_pushed_20 : decode b_Md_pushed 20 = .ok (.goto 4, 3) := by decide +kernel
theorem d_Md_pushed_23 : decode b_Md_pushed 23 = .ok (.iconst 3, 1) := by decide +kernel
theorem d_Md_pushed_24 : decode b_Md_pushed 24 = .ok (.ireturn, 1) := by decide +kernel
theorem d_Md_jump_0 : decode b_Md_jump 0 = .ok (.aload_n 0, 1) := by decide +kernel
theorem d_Md_jump_1 : decode b_Md_jump 1 = .ok (.iconst 2, 1) := by decide +kernel
theorem d_Md_jump_2 : decode b_Md_jump 2 = .ok (.invokevirtual 184, 3) := by decide +kernel
theorem d_Md_jump_5 : decode b_Md_jump 5 = .ok (.istore_n 3, 1) := by decide +kernel
theorem d_Md_jump_6 : decode b_Md_jump 6 = .ok (.aload_n 0, 1) := by decide +kernel
theorem d_Md_jump_7 : decode b_Md_jump 7 = .ok (.getfield 85, 3) := by decide +kernel
theorem d_Md_jump_10 : decode b_Md_jump 10 = .ok (.ifCond .eq 5, 3) := by decide +kernel
theorem d_Md_jump_13 : decode b_Md_jump 13 = .ok (.iconst 2, 1) := by decide +kernel
theorem d_Md_jump_14 : decode b_Md_jump 14 = .ok (.ireturn, 1) := by decide +kernel
theorem d_Md_jump_15 : decode b_Md_jump 15 = .ok (.iconst 1, 1) := by decide +kernel
theorem d_Md_jump_16 : decode b_Md_jump 16 = .ok (.istore 4, 2) := by decide +kernel
theorem d_Md_jump_18 : decode b_Md_jump 18 = .ok (.iload_n 1, 1) := by decide +kernel
theorem d_Md_jump_19 : decode b_Md_jump 19 = .ok (.bipush 40, 2) := by decide +kernel
theorem d_Md_jump_21 : decode b_Md_jump 21 = .ok (.if_icmp .ne 42, 3) := by decide +kernel
theorem d_Md_jump_24 : decode b_Md_jump 24 = .ok (.aload_n 0, 1) := by decide +kernel
theorem d_Md_jump_25 : decode b_Md_jump 25 = .ok (.iconst 1, 1) := by decide +kernel
theorem d_Md_jump_26 : decode b_Md_jump 26 = .ok (.invokevirtual 174, 3) := by decide +kernel
theorem d_Md_jump_29 : decode b_Md_jump 29 = .ok (.ifCond .eq 5, 3) := by decide +kernel
theorem d_Md_jump_32 : decode b_Md_jump 32 = .ok (.iconst 3, 1) := by decide +kernel
theorem d_Md_jump_33 : decode b_Md_jump 33 = .ok (.ireturn, 1) := by decide +kernel
theorem d_Md_jump_34 : decode b_Md_jump 34 = .ok (.aload_n 0, 1) := by decide +kernel
theorem d_Md_jump_35 : decode b_Md_jump 35 = .ok (.dup, 1) := by decide +kernel
theorem d_Md_jump_36 : decode b_Md_jump 36 = .ok (.getfield 164, 3) := by decide +kernel
theorem d_Md_jump_39 : decode b_Md_jump 39 = .ok (.iconst 1, 1) := by decide +kernel
theorem d_Md_jump_40 : decode b_Md_jump 40 = .ok (.isub, 1) := by decide +kernel
theorem d_Md_jump_41 : decode b_Md_jump 41 = .ok (.putfield 164, 3) := by decide +kernel
theorem d_Md_jump_44 : decode b_Md_jump 44 = .ok (.aload_n 0, 1) := by decide +kernel
theorem d_Md_jump_45 : decode b_Md_jump 45 = .ok (.getfield 53, 3) := by decide +kernel
theorem d_Md_jump_48 : decode b_Md_jump 48 = .ok (.aload_n 0, 1) := by decide +kernel
theorem d_Md_jump_49 : decode b_Md_jump 49 = .ok (.getfield 164, 3) := by decide +kernel
theorem d_Md_jump_52 : decode b_Md_jump 52 = .ok (.iaload, 1) := by decide +kernel
theorem d_Md_jump_53 : decode b_Md_jump 53 = .ok (.ifCond .eq 7, 3) := by decide +kernel
theorem d_Md_jump_56 : decode b_Md_jump 56 = .ok (.iconst 1, 1) := by decide +kernel
theorem d_Md_jump_57 : decode b_Md_jump 57 = .ok (.goto 4, 3) := by decide +kernel
theorem d_Md_jump_60 : decode b_Md_jump 60 = .ok (.iconst 0, 1) := by decide +kernel
theorem d_Md_jump_61 : decode b_Md_jump 61 = .ok (.istore 4, 2) := by decide +kernel
theorem d_Md_jump_63 : decode b_Md_jump 63 = .ok (.iload 4, 2) := by decide +kernel
theorem d_Md_jump_65 : decode b_Md_jump 65 = .ok (.ifCond .ne 5, 3) := by decide +kernel
theorem d_Md_jump_68 : decode b_Md_jump 68 = .ok (.iconst 0, 1) := by decide +kernel
theorem d_Md_jump_69 : decode b_Md_jump 69 = .ok (.ireturn, 1) := by decide +kernel
theorem d_Md_jump_70 : decode b_Md_jump 70 = .ok (.aload_n 0, 1) := by decide +kernel
theorem d_Md_jump_71 : decode b_Md_jump 71 = .ok (.getfield 79, 3) := by decide +kernel
theorem d_Md_jump_74 : decode b_Md_jump 74 = .ok (.iload_n 3, 1) := by decide +kernel
theorem d_Md_jump_75 : decode b_Md_jump 75 = .ok (.iadd, 1) := by decide +kernel
theorem d_Md_jump_76 : decode b_Md_jump 76 = .ok (.iload_n 2, 1) := by decide +kernel
theorem d_Md_jump_77 : decode b_Md_jump 77 = .ok (.aload_n 0, 1) := by decide +kernel
theorem d_Md_jump_78 : decode b_Md_jump 78 = .ok (.getfield 82, 3) := by decide +kernel
theorem d_Md_jump_81 : decode b_Md_jump 81 = .ok (.invokestatic 75, 3) := by decide +kernel
theorem d_Md_jump_84 : decode b_Md_jump 84 = .ok (.ifCond .ne 5, 3) := by decide +kernel
theorem d_Md_jump_87 : decode b_Md_jump 87 = .ok (.iconst 2, 1) := by decide +kernel
theorem d_Md_jump_88 : decode b_Md_jump 88 = .ok (.ireturn, 1) := by decide +kernel
theorem d_Md_jump_89 : decode b_Md_jump 89 = .ok (.aload_n 0, 1) := by decide +kernel
theorem d_Md_jump_90 : decode b_Md_jump 90 = .ok (.dup, 1) := by decide +kernel
theorem d_Md_jump_91 : decode b_Md_jump 91 = .ok (.getfield 79, 3) := by decide +kernel
theorem d_Md_jump_94 : decode b_Md_jump 94 = .ok (.iload_n 3, 1) := by decide +kernel
theorem d_Md_jump_95 : decode b_Md_jump 95 = .ok (.iadd, 1) := by decide +kernel
theorem d_Md_jump_96 : decode b_Md_jump 96 = .ok (.putfield 79, 3) := by decide +kernel
theorem d_Md_jump_99 : decode b_Md_jump 99 = .ok (.iconst 0, 1) := by decide +kernel
theorem d_Md_jump_100 : decode b_Md_jump 100 = .ok (.ireturn, 1) := by decide +kernel
