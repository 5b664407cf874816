theorem d_Md_look_0 : decode b_Md_look 0 = .ok (.aload_n 0, 1) := by decide +kernel
theorem d_Md_look_1 : decode b_Md_look 1 = .ok (.iconst 0, 1) := by decide +kernel
theorem d_Md_look_2 : decode b_Md_look 2 = .ok (.putfield 135, 3) := by decide +kernel
theorem d_Md_look_5 : decode b_Md_look 5 = .ok (.iconst 0, 1) := by decide +kernel
theorem d_Md_look_6 : decode b_Md_look 6 = .ok (.istore_n 1, 1) := by decide +kernel
theorem d_Md_look_7 : decode b_Md_look 7 = .ok (.iload_n 1, 1) := by decide +kernel
theorem d_Md_look_8 : decode b_Md_look 8 = .ok (.aload_n 0, 1) := by decide +kernel
theorem d_Md_look_9 : decode b_Md_look 9 = .ok (.getfield 72, 3) := by decide +kernel
theorem d_Md_look_12 : decode b_Md_look 12 = .ok (.if_icmp .ge 104, 3) := by decide +kernel
theorem d_Md_look_15 : decode b_Md_look 15 = .ok (.aload_n 0, 1) := by decide +kernel
theorem d_Md_look_16 : decode b_Md_look 16 = .ok (.aload_n 0, 1) := by decide +kernel
theorem d_Md_look_17 : decode b_Md_look 17 = .ok (.getfield 72, 3) := by decide +kernel
theorem d_Md_look_20 : decode b_Md_look 20 = .ok (.putfield 82, 3) := by decide +kernel
theorem d_Md_look_23 : decode b_Md_look 23 = .ok (.aload_n 0, 1) := by decide +kernel
theorem d_Md_look_24 : decode b_Md_look 24 = .ok (.iload_n 1, 1) := by decide +kernel
theorem d_Md_look_25 : decode b_Md_look 25 = .ok (.putfield 79, 3) := by decide +kernel
theorem d_Md_look_28 : decode b_Md_look 28 = .ok (.aload_n 0, 1) := by decide +kernel
theorem d_Md_look_29 : decode b_Md_look 29 = .ok (.iconst 0, 1) := by decide +kernel
theorem d_Md_look_30 : decode b_Md_look 30 = .ok (.putfield 85, 3) := by decide +kernel
theorem d_Md_look_33 : decode b_Md_look 33 = .ok (.aload_n 0, 1) := by decide +kernel
theorem d_Md_look_34 : decode b_Md_look 34 = .ok (.iconst 4, 1) := by decide +kernel
theorem d_Md_look_35 : decode b_Md_look 35 = .ok (.invokevirtual 89, 3) := by decide +kernel
theorem d_Md_look_38 : decode b_Md_look 38 = .ok (.istore_n 2, 1) := by decide +kernel
theorem d_Md_look_39 : decode b_Md_look 39 = .ok (.aload_n 0, 1) := by decide +kernel
theorem d_Md_look_40 : decode b_Md_look 40 = .ok (.getfield 85, 3) := by decide +kernel
theorem d_Md_look_43 : decode b_Md_look 43 = .ok (.ifCond .ne 30, 3) := by decide +kernel
theorem d_Md_look_46 : decode b_Md_look 46 = .ok (.iload_n 2, 1) := by decide +kernel
theorem d_Md_look_47 : decode b_Md_look 47 = .ok (.iconst 4, 1) := by decide +kernel
theorem d_Md_look_48 : decode b_Md_look 48 = .ok (.if_icmp .lt 25, 3) := by decide +kernel
theorem d_Md_look_51 : decode b_Md_look 51 = .ok (.iload_n 2, 1) := by decide +kernel
theorem d_Md_look_52 : decode b_Md_look 52 = .ok (.aload_n 0, 1) := by decide +kernel
theorem d_Md_look_53 : decode b_Md_look 53 = .ok (.getfield 72, 3) := by decide +kernel
theorem d_Md_look_56 : decode b_Md_look 56 = .ok (.aload_n 0, 1) := by decide +kernel
theorem d_Md_look_57 : decode b_Md_look 57 = .ok (.getfield 79, 3) := by decide +kernel
theorem d_Md_look_60 : decode b_Md_look 60 = .ok (.isub, 1) := by decide +kernel
theorem d_Md_look_61 : decode b_Md_look 61 = .ok (.if_icmp .gt 12, 3) := by decide +kernel
theorem d_Md_look_64 : decode b_Md_look 64 = .ok (.aload_n 0, 1) := by decide +kernel
theorem d_Md_look_65 : decode b_Md_look 65 = .ok (.getfield 135, 3) := by decide +kernel
theorem d_Md_look_68 : decode b_Md_look 68 = .ok (.bipush 16, 2) := by decide +kernel
theorem d_Md_look_70 : decode b_Md_look 70 = .ok (.if_icmp .ne 5, 3) := by decide +kernel
theorem d_Md_look_73 : decode b_Md_look 73 = .ok (.iload_n 1, 1) := by decide +kernel
theorem d_Md_look_74 : decode b_Md_look 74 = .ok (.ireturn, 1) := by decide +kernel
theorem d_Md_look_75 : decode b_Md_look 75 = .ok (.aload_n 0, 1) := by decide +kernel
theorem d_Md_look_76 : decode b_Md_look 76 = .ok (.aload_n 0, 1) := by decide +kernel
theorem d_Md_look_77 : decode b_Md_look 77 = .ok (.getfield 79, 3) := by decide +kernel
theorem d_Md_look_80 : decode b_Md_look 80 = .ok (.iload_n 2, 1) := by decide +kernel
theorem d_Md_look_81 : decode b_Md_look 81 = .ok (.iadd, 1) := by decide +kernel
theorem d_Md_look_82 : decode b_Md_look 82 = .ok (.putfield 82, 3) := by decide +kernel
theorem d_Md_look_85 : decode b_Md_look 85 = .ok (.aload_n 0, 1) := by decide +kernel
theorem d_Md_look_86 : decode b_Md_look 86 = .ok (.iload_n 1, 1) := by decide +kernel
theorem d_Md_look_87 : decode b_Md_look 87 = .ok (.invokevirtual 138, 3) := by decide +kernel
theorem d_Md_look_90 : decode b_Md_look 90 = .ok (.istore_n 3, 1) := by decide +kernel
theorem d_Md_look_91 : decode b_Md_look 91 = .ok (.iload_n 3, 1) := by decide +kernel
theorem d_Md_look_92 : decode b_Md_look 92 = .ok (.iconst (-1), 1) := by decide +kernel
theorem d_Md_look_93 : decode b_Md_look 93 = .ok (.if_icmp .eq 5, 3) := by decide +kernel
theorem d_Md_look_96 : decode b_Md_look 96 = .ok (.iload_n 3, 1) := by decide +kernel
theorem d_Md_look_97 : decode b_Md_look 97 = .ok (.ireturn, 1) := by decide +kernel
theorem d_Md_look_98 : decode b_Md_look 98 = .ok (.aload_n 0, 1) := by decide +kernel
theorem d_Md_look_99 : decode b_Md_look 99 = .ok (.dup, 1) := by decide +kernel
theorem d_Md_look_100 : decode b_Md_look 100 = .ok (.getfield 135, 3) := by decide +kernel
theorem d_Md_look_103 : decode b_Md_look 103 = .ok (.iconst 1, 1) := by decide +kernel
theorem d_Md_look_104 : decode b_Md_look 104 = .ok (.iadd, 1) := by decide +kernel
theorem d_Md_look_105 : decode b_Md_look 105 = .ok (.putfield 135, 3) := by decide +kernel
theorem d_Md_look_108 : decode b_Md_look 108 = .ok (.aload_n 0, 1) := by decide +kernel
theorem d_Md_look_109 : decode b_Md_look 109 = .ok (.getfield 82, 3) := by decide +kernel
theorem d_Md_look_112 : decode b_Md_look 112 = .ok (.istore_n 1, 1) := by decide +kernel
theorem d_Md_look_113 : decode b_Md_look 113 = .ok (.goto (-106), 3) := by decide +kernel
theorem d_Md_look_116 : decode b_Md_look 116 = .ok (.iconst (-1), 1) := by decide +kernel
theorem d_Md_look_117 : decode b_Md_look 117 = .ok (.ireturn, 1) := by decide +kernel
theorem d_Md_fault_0 : decode b_Md_fault 0 = .ok (.aload_n 0, 1) := by decide +kernel
theorem d_Md_fault_1 : decode b_Md_fault 1 = .ok (.iconst 0, 1) := by decide +kernel
theorem d_Md_fault_2 : decode b_Md_fault 2 = .ok (.putfield 69, 3) := by decide +kernel
theorem d_Md_fault_5 : decode b_Md_fault 5 = .ok (.aload_n 0, 1) := by decide +kernel
theorem d_Md_fault_6 : decode b_Md_fault 6 = .ok (.invokevirtual 153, 3) := by decide +kernel
theorem d_Md_fault_9 : decode b_Md_fault 9 = .ok (.ireturn, 1) := by decide +kernel
theorem d_Md_entries_0 : decode b_Md_entries 0 = .ok (.aload_n 0, 1) := by decide +kernel
theorem d_Md_entries_1 : decode b_Md_entries 1 = .ok (.iconst 0, 1) := by decide +kernel
theorem d_Md_entries_2 : decode b_Md_entries 2 = .ok (.putfield 69, 3) := by decide +kernel
theorem d_Md_entries_5 : decode b_Md_entries 5 = .ok (.aload_n 0, 1) := by decide +kernel
theorem d_Md_entries_6 : decode b_Md_entries 6 = .ok (.invokevirtual 153, 3) := by decide +kernel
theorem d_Md_entries_9 : decode b_Md_entries 9 = .ok (.iconst (-1), 1) := by decide +kernel
theorem d_Md_entries_10 : decode b_Md_entries 10 = .ok (.if_icmp .ne 10, 3) := by decide +kernel
theorem d_Md_entries_13 : decode b_Md_entries 13 = .ok (.aload_n 0, 1) := by decide +kernel
theorem d_Md_entries_14 : decode b_Md_entries 14 = .ok (.getfield 135, 3) := by decide +kernel
theorem d_Md_entries_17 : decode b_Md_entries 17 = .ok (.goto 4, 3) := by decide +kernel
theorem d_Md_entries_20 : decode b_Md_entries 20 = .ok (.iconst (-1), 1) := by decide +kernel
theorem d_Md_entries_21 : decode b_Md_entries 21 = .ok (.ireturn, 1) := by decide +kernel
theorem d_Md_entryOf_0 : decode b_Md_entryOf 0 = .ok (.iload_n 1, 1) := by decide +kernel
theorem d_Md_entryOf_1 : decode b_Md_entryOf 1 = .ok (.i2l, 1) := by decide +kernel
theorem d_Md_entryOf_2 : decode b_Md_entryOf 2 = .ok (.ldc2_w 156, 3) := by decide +kernel
theorem d_Md_entryOf_5 : decode b_Md_entryOf 5 = .ok (.land, 1) := by decide +kernel
theorem d_Md_entryOf_6 : decode b_Md_entryOf 6 = .ok (.lstore_n 2, 1) := by decide +kernel
theorem d_Md_entryOf_7 : decode b_Md_entryOf 7 = .ok (.iconst 0, 1) := by decide +kernel
theorem d_Md_entryOf_8 : decode b_Md_entryOf 8 = .ok (.istore 4, 2) := by decide +kernel
theorem d_Md_entryOf_10 : decode b_Md_entryOf 10 = .ok (.iload 4, 2) := by decide +kernel
theorem d_Md_entryOf_12 : decode b_Md_entryOf 12 = .ok (.aload_n 0, 1) := by decide +kernel
theorem d_Md_entryOf_13 : decode b_Md_entryOf 13 = .ok (.getfield 135, 3) := by decide +kernel
theorem d_Md_entryOf_16 : decode b_Md_entryOf 16 = .ok (.if_icmp .ge 57, 3) := by decide +kernel
theorem d_Md_entryOf_19 : decode b_Md_entryOf 19 = .ok (.aload_n 0, 1) := by decide +kernel
theorem d_Md_entryOf_20 : decode b_Md_entryOf 20 = .ok (.getfield 16, 3) := by decide +kernel
theorem d_Md_entryOf_23 : decode b_Md_entryOf 23 = .ok (.iload 4, 2) := by decide +kernel
theorem d_Md_entryOf_25 : decode b_Md_entryOf 25 = .ok (.baload, 1) := by decide +kernel
theorem d_Md_entryOf_26 : decode b_Md_entryOf 26 = .ok (.ifCond .ne 41, 3) := by decide +kernel
theorem d_Md_entryOf_29 : decode b_Md_entryOf 29 = .ok (.lload_n 2, 1) := by decide +kernel
theorem d_Md_entryOf_30 : decode b_Md_entryOf 30 = .ok (.aload_n 0, 1) := by decide +kernel
theorem d_Md_entryOf_31 : decode b_Md_entryOf 31 = .ok (.getfield 32, 3) := by decide +kernel
theorem d_Md_entryOf_34 : decode b_Md_entryOf 34 = .ok (.iload 4, 2) := by decide +kernel
theorem d_Md_entryOf_36 : decode b_Md_entryOf 36 = .ok (.iaload, 1) := by decide +kernel
theorem d_Md_entryOf_37 : decode b_Md_entryOf 37 = .ok (.i2l, 1) := by decide +kernel
theorem d_Md_entryOf_38 : decode b_Md_entryOf 38 = .ok (.lcmp, 1) := by decide +kernel
theorem d_Md_entryOf_39 : decode b_Md_entryOf 39 = .ok (.ifCond .lt 28, 3) := by decide +kernel
theorem d_Md_entryOf_42 : decode b_Md_entryOf 42 = .ok (.lload_n 2, 1) := by decide +kernel
theorem d_Md_entryOf_43 : decode b_Md_entryOf 43 = .ok (.aload_n 0, 1) := by decide +kernel
theorem d_Md_entryOf_44 : decode b_Md_entryOf 44 = .ok (.getfield 32, 3) := by decide +kernel
theorem d_Md_entryOf_47 : decode b_Md_entryOf 47 = .ok (.iload 4, 2) := by decide +kernel
theorem d_Md_entryOf_49 : decode b_Md_entryOf 49 = .ok (.iaload, 1) := by decide +kernel
theorem d_Md_entryOf_50 : decode b_Md_entryOf 50 = .ok (.i2l, 1) := by decide +kernel
theorem d_Md_entryOf_51 : decode b_Md_entryOf 51 = .ok (.aload_n 0, 1) := by decide +kernel
theorem d_Md_entryOf_52 : decode b_Md_entryOf 52 = .ok (.getfield 35, 3) := by decide +kernel
theorem d_Md_entryOf_55 : decode b_Md_entryOf 55 = .ok (.iload 4, 2) := by decide +kernel
theorem d_Md_entryOf_57 : decode b_Md_entryOf 57 = .ok (.iaload, 1) := by decide +kernel
theorem d_Md_entryOf_58 : decode b_Md_entryOf 58 = .ok (.i2l, 1) := by decide +kernel
theorem d_Md_entryOf_59 : decode b_Md_entryOf 59 = .ok (.ladd, 1) := by decide +kernel
theorem d_Md_entryOf_60 : decode b_Md_entryOf 60 = .ok (.lcmp, 1) := by decide +kernel
theorem d_Md_entryOf_61 : decode b_Md_entryOf 61 = .ok (.ifCond .ge 6, 3) := by decide +kernel
theorem d_Md_entryOf_64 : decode b_Md_entryOf 64 = .ok (.iload 4, 2) := by decide +kernel
theorem d_Md_entryOf_66 : decode b_Md_entryOf 66 = .ok (.ireturn, 1) := by decide +kernel
theorem d_Md_entryOf_67 : decode b_Md_entryOf 67 = .ok (.iinc 4 1, 3) := by decide +kernel
theorem d_Md_entryOf_70 : decode b_Md_entryOf 70 = .ok (.goto (-60), 3) := by decide +kernel
theorem d_Md_entryOf_73 : decode b_Md_entryOf 73 = .ok (.iconst (-1), 1) := by decide +kernel
theorem d_Md_entryOf_74 : decode b_Md_entryOf 74 = .ok (.ireturn, 1) := by decide +kernel
theorem d_Md_find_0 : decode b_Md_find 0 = .ok (.aload_n 0, 1) := by decide +kernel
theorem d_Md_find_1 : decode b_Md_find 1 = .ok (.aload_n 0, 1) := by decide +kernel
theorem d_Md_find_2 : decode b_Md_find 2 = .ok (.invokevirtual 153, 3) := by decide +kernel
theorem d_Md_find_5 : decode b_Md_find 5 = .ok (.iconst (-1), 1) := by decide +kernel
theorem d_Md_find_6 : decode b_Md_find 6 = .ok (.if_icmp .ne 7, 3) := by decide +kernel
theorem d_Md_find_9 : decode b_Md_find 9 = .ok (.iconst 0, 1) := by decide +kernel
theorem d_Md_find_10 : decode b_Md_find 10 = .ok (.goto 4, 3) := by decide +kernel
theorem d_Md_find_13 : decode b_Md_find 13 = .ok (.iconst 1, 1) := by decide +kernel
theorem d_Md_find_14 : decode b_Md_find 14 = .ok (.putfield 69, 3) := by decide +kernel
theorem d_Md_find_17 : decode b_Md_find 17 = .ok (.aload_n 0, 1) := by decide +kernel
theorem d_Md_find_18 : decode b_Md_find 18 = .ok (.getfield 69, 3) := by decide +kernel
theorem d_Md_find_21 : decode b_Md_find 21 = .ok (.ifCond .eq 7, 3) := by decide +kernel
theorem d_Md_find_24 : decode b_Md_find 24 = .ok (.iconst 0, 1) := by decide +kernel
theorem d_Md_find_25 : decode b_Md_find 25 = .ok (.goto 8, 3) := by decide +kernel
theorem d_Md_find_28 : decode b_Md_find 28 = .ok (.aload_n 0, 1) := by decide +kernel
theorem d_Md_find_29 : decode b_Md_find 29 = .ok (.iload_n 1, 1) := by decide +kernel
theorem d_Md_find_30 : decode b_Md_find 30 = .ok (.invokevirtual 158, 3) := by decide +kernel
theorem d_Md_find_33 : decode b_Md_find 33 = .ok (.ireturn, 1) := by decide +kernel
