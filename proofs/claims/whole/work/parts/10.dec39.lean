theorem d_Md_get_0 : decode b_Md_get 0 = .ok (.aload_n 0, 1) := by decide +kernel
theorem d_Md_get_1 : decode b_Md_get 1 = .ok (.iload_n 1, 1) := by decide +kernel
theorem d_Md_get_2 : decode b_Md_get 2 = .ok (.iconst 0, 1) := by decide +kernel
theorem d_Md_get_3 : decode b_Md_get 3 = .ok (.bipush 10, 2) := by decide +kernel
theorem d_Md_get_5 : decode b_Md_get 5 = .ok (.invokestatic 75, 3) := by decide +kernel
theorem d_Md_get_8 : decode b_Md_get 8 = .ok (.ifCond .eq 7, 3) := by decide +kernel
theorem d_Md_get_11 : decode b_Md_get 11 = .ok (.iconst 0, 1) := by decide +kernel
theorem d_Md_get_12 : decode b_Md_get 12 = .ok (.goto 4, 3) := by decide +kernel
theorem d_Md_get_15 : decode b_Md_get 15 = .ok (.iconst 1, 1) := by decide +kernel
theorem d_Md_get_16 : decode b_Md_get 16 = .ok (.putfield 69, 3) := by decide +kernel
theorem d_Md_get_19 : decode b_Md_get 19 = .ok (.aload_n 0, 1) := by decide +kernel
theorem d_Md_get_20 : decode b_Md_get 20 = .ok (.getfield 69, 3) := by decide +kernel
theorem d_Md_get_23 : decode b_Md_get 23 = .ok (.ifCond .eq 5, 3) := by decide +kernel
theorem d_Md_get_26 : decode b_Md_get 26 = .ok (.iconst 0, 1) := by decide +kernel
theorem d_Md_get_27 : decode b_Md_get 27 = .ok (.ireturn, 1) := by decide +kernel
theorem d_Md_get_28 : decode b_Md_get 28 = .ok (.iload_n 1, 1) := by decide +kernel
theorem d_Md_get_29 : decode b_Md_get 29 = .ok (.bipush 8, 2) := by decide +kernel
theorem d_Md_get_31 : decode b_Md_get 31 = .ok (.if_icmp .ne 8, 3) := by decide +kernel
theorem d_Md_get_34 : decode b_Md_get 34 = .ok (.aload_n 0, 1) := by decide +kernel
theorem d_Md_get_35 : decode b_Md_get 35 = .ok (.getfield 204, 3) := by decide +kernel
theorem d_Md_get_38 : decode b_Md_get 38 = .ok (.ireturn, 1) := by decide +kernel
theorem d_Md_get_39 : decode b_Md_get 39 = .ok (.iload_n 1, 1) := by decide +kernel
theorem d_Md_get_40 : decode b_Md_get 40 = .ok (.bipush 9, 2) := by decide +kernel
theorem d_Md_get_42 : decode b_Md_get 42 = .ok (.if_icmp .ne 8, 3) := by decide +kernel
theorem d_Md_get_45 : decode b_Md_get 45 = .ok (.aload_n 0, 1) := by decide +kernel
theorem d_Md_get_46 : decode b_Md_get 46 = .ok (.getfield 62, 3) := by decide +kernel
theorem d_Md_get_49 : decode b_Md_get 49 = .ok (.ireturn, 1) := by decide +kernel
theorem d_Md_get_50 : decode b_Md_get 50 = .ok (.iload_n 1, 1) := by decide +kernel
theorem d_Md_get_51 : decode b_Md_get 51 = .ok (.bipush 10, 2) := by decide +kernel
theorem d_Md_get_53 : decode b_Md_get 53 = .ok (.if_icmp .ne 8, 3) := by decide +kernel
theorem d_Md_get_56 : decode b_Md_get 56 = .ok (.aload_n 0, 1) := by decide +kernel
theorem d_Md_get_57 : decode b_Md_get 57 = .ok (.getfield 207, 3) := by decide +kernel
theorem d_Md_get_60 : decode b_Md_get 60 = .ok (.ireturn, 1) := by decide +kernel
theorem d_Md_get_61 : decode b_Md_get 61 = .ok (.aload_n 0, 1) := by decide +kernel
theorem d_Md_get_62 : decode b_Md_get 62 = .ok (.getfield 62, 3) := by decide +kernel
theorem d_Md_get_65 : decode b_Md_get 65 = .ok (.iload_n 1, 1) := by decide +kernel
theorem d_Md_get_66 : decode b_Md_get 66 = .ok (.ishr, 1) := by decide +kernel
theorem d_Md_get_67 : decode b_Md_get 67 = .ok (.iconst 1, 1) := by decide +kernel
theorem d_Md_get_68 : decode b_Md_get 68 = .ok (.iand, 1) := by decide +kernel
theorem d_Md_get_69 : decode b_Md_get 69 = .ok (.iconst 1, 1) := by decide +kernel
theorem d_Md_get_70 : decode b_Md_get 70 = .ok (.if_icmp .ne 12, 3) := by decide +kernel
theorem d_Md_get_73 : decode b_Md_get 73 = .ok (.aload_n 0, 1) := by decide +kernel
theorem d_Md_get_74 : decode b_Md_get 74 = .ok (.getfield 59, 3) := by decide +kernel
theorem d_Md_get_77 : decode b_Md_get 77 = .ok (.iload_n 1, 1) := by decide +kernel
theorem d_Md_get_78 : decode b_Md_get 78 = .ok (.iaload, 1) := by decide +kernel
theorem d_Md_get_79 : decode b_Md_get 79 = .ok (.goto 4, 3) := by decide +kernel
theorem d_Md_get_82 : decode b_Md_get 82 = .ok (.iconst 0, 1) := by decide +kernel
theorem d_Md_get_83 : decode b_Md_get 83 = .ok (.ireturn, 1) := by decide +kernel
