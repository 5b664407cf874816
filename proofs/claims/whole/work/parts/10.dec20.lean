theorem d_Md_leb_0 : decode b_Md_leb 0 = .ok (.iconst 0, 1) := by decide +kernel
theorem d_Md_leb_1 : decode b_Md_leb 1 = .ok (.istore_n 2, 1) := by decide +kernel
theorem d_Md_leb_2 : decode b_Md_leb 2 = .ok (.iconst 0, 1) := by decide +kernel
theorem d_Md_leb_3 : decode b_Md_leb 3 = .ok (.istore_n 3, 1) := by decide +kernel
theorem d_Md_leb_4 : decode b_Md_leb 4 = .ok (.iconst 1, 1) := by decide +kernel
theorem d_Md_leb_5 : decode b_Md_leb 5 = .ok (.istore 4, 2) := by decide +kernel
theorem d_Md_leb_7 : decode b_Md_leb 7 = .ok (.iload 4, 2) := by decide +kernel
theorem d_Md_leb_9 : decode b_Md_leb 9 = .ok (.ifCond .eq 106, 3) := by decide +kernel
theorem d_Md_leb_12 : decode b_Md_leb 12 = .ok (.aload_n 0, 1) := by decide +kernel
theorem d_Md_leb_13 : decode b_Md_leb 13 = .ok (.getfield 79, 3) := by decide +kernel
theorem d_Md_leb_16 : decode b_Md_leb 16 = .ok (.aload_n 0, 1) := by decide +kernel
theorem d_Md_leb_17 : decode b_Md_leb 17 = .ok (.getfield 82, 3) := by decide +kernel
theorem d_Md_leb_20 : decode b_Md_leb 20 = .ok (.if_icmp .eq 9, 3) := by decide +kernel
theorem d_Md_leb_23 : decode b_Md_leb 23 = .ok (.iload_n 3, 1) := by decide +kernel
theorem d_Md_leb_24 : decode b_Md_leb 24 = .ok (.bipush 35, 2) := by decide +kernel
theorem d_Md_leb_26 : decode b_Md_leb 26 = .ok (.if_icmp .ne 10, 3) := by decide +kernel
theorem d_Md_leb_29 : decode b_Md_leb 29 = .ok (.aload_n 0, 1) := by decide +kernel
theorem d_Md_leb_30 : decode b_Md_leb 30 = .ok (.iconst 1, 1) := by decide +kernel
theorem d_Md_leb_31 : decode b_Md_leb 31 = .ok (.putfield 85, 3) := by decide +kernel
theorem d_Md_leb_34 : decode b_Md_leb 34 = .ok (.iconst 0, 1) := by decide +kernel
theorem d_Md_leb_35 : decode b_Md_leb 35 = .ok (.ireturn, 1) := by decide +kernel
theorem d_Md_leb_36 : decode b_Md_leb 36 = .ok (.aload_n 0, 1) := by decide +kernel
theorem d_Md_leb_37 : decode b_Md_leb 37 = .ok (.getfield 7, 3) := by decide +kernel
theorem d_Md_leb_40 : decode b_Md_leb 40 = .ok (.aload_n 0, 1) := by decide +kernel
theorem d_Md_leb_41 : decode b_Md_leb 41 = .ok (.getfield 79, 3) := by decide +kernel
theorem d_Md_leb_44 : decode b_Md_leb 44 = .ok (.iaload, 1) := by decide +kernel
theorem d_Md_leb_45 : decode b_Md_leb 45 = .ok (.istore 5, 2) := by decide +kernel
theorem d_Md_leb_47 : decode b_Md_leb 47 = .ok (.aload_n 0, 1) := by decide +kernel
theorem d_Md_leb_48 : decode b_Md_leb 48 = .ok (.dup, 1) := by decide +kernel
theorem d_Md_leb_49 : decode b_Md_leb 49 = .ok (.getfield 79, 3) := by decide +kernel
theorem d_Md_leb_52 : decode b_Md_leb 52 = .ok (.iconst 1, 1) := by decide +kernel
theorem d_Md_leb_53 : decode b_Md_leb 53 = .ok (.iadd, 1) := by decide +kernel
theorem d_Md_leb_54 : decode b_Md_leb 54 = .ok (.putfield 79, 3) := by decide +kernel
theorem d_Md_leb_57 : decode b_Md_leb 57 = .ok (.iload_n 2, 1) := by decide +kernel
theorem d_Md_leb_58 : decode b_Md_leb 58 = .ok (.iload 5, 2) := by decide +kernel
theorem d_Md_leb_60 : decode b_Md_leb 60 = .ok (.bipush 127, 2) := by decide +kernel
theorem d_Md_leb_62 : decode b_Md_leb 62 = .ok (.iand, 1) := by decide +kernel
theorem d_Md_leb_63 : decode b_Md_leb 63 = .ok (.iload_n 3, 1) := by decide +kernel
theorem d_Md_leb_64 : decode b_Md_leb 64 = .ok (.ishl, 1) := by decide +kernel
theorem d_Md_leb_65 : decode b_Md_leb 65 = .ok (.ior, 1) := by decide +kernel
theorem d_Md_leb_66 : decode b_Md_leb 66 = .ok (.istore_n 2, 1) := by decide +kernel
theorem d_Md_leb_67 : decode b_Md_leb 67 = .ok (.iinc 3 7, 3) := by decide +kernel
theorem d_Md_leb_70 : decode b_Md_leb 70 = .ok (.iload 5, 2) := by decide +kernel
theorem d_Md_leb_72 : decode b_Md_leb 72 = .ok (.bipush 127, 2) := by decide +kernel
theorem d_Md_leb_74 : decode b_Md_leb 74 = .ok (.if_icmp .le 7, 3) := by decide +kernel
theorem d_Md_leb_77 : decode b_Md_leb 77 = .ok (.iconst 1, 1) := by decide +kernel
theorem d_Md_leb_78 : decode b_Md_leb 78 = .ok (.goto 4, 3) := by decide +kernel
theorem d_Md_leb_81 : decode b_Md_leb 81 = .ok (.iconst 0, 1) := by decide +kernel
theorem d_Md_leb_82 : decode b_Md_leb 82 = .ok (.istore 4, 2) := by decide +kernel
theorem d_Md_leb_84 : decode b_Md_leb 84 = .ok (.iload 4, 2) := by decide +kernel
theorem d_Md_leb_86 : decode b_Md_leb 86 = .ok (.ifCond .ne 26, 3) := by decide +kernel
theorem d_Md_leb_89 : decode b_Md_leb 89 = .ok (.iload_n 1, 1) := by decide +kernel
theorem d_Md_leb_90 : decode b_Md_leb 90 = .ok (.ifCond .eq 22, 3) := by decide +kernel
theorem d_Md_leb_93 : decode b_Md_leb 93 = .ok (.iload 5, 2) := by decide +kernel
theorem d_Md_leb_95 : decode b_Md_leb 95 = .ok (.bipush 63, 2) := by decide +kernel
theorem d_Md_leb_97 : decode b_Md_leb 97 = .ok (.if_icmp .le 15, 3) := by decide +kernel
theorem d_Md_leb_100 : decode b_Md_leb 100 = .ok (.iload_n 3, 1) := by decide +kernel
theorem d_Md_leb_101 : decode b_Md_leb 101 = .ok (.bipush 32, 2) := by decide +kernel
theorem d_Md_leb_103 : decode b_Md_leb 103 = .ok (.if_icmp .ge 9, 3) := by decide +kernel
theorem d_Md_leb_106 : decode b_Md_leb 106 = .ok (.iload_n 2, 1) := by decide +kernel
theorem d_Md_leb_107 : decode b_Md_leb 107 = .ok (.iconst (-1), 1) := by decide +kernel
theorem d_Md_leb_108 : decode b_Md_leb 108 = .ok (.iload_n 3, 1) := by decide +kernel
theorem d_Md_leb_109 : decode b_Md_leb 109 = .ok (.ishl, 1) := by decide +kernel
theorem d_Md_leb_110 : decode b_Md_leb 110 = .ok (.ior, 1) := by decide +kernel
theorem d_Md_leb_111 : decode b_Md_leb 111 = .ok (.istore_n 2, 1) := by decide +kernel
theorem d_Md_leb_112 : decode b_Md_leb 112 = .ok (.goto (-105), 3) := by decide +kernel
theorem d_Md_leb_115 : decode b_Md_leb 115 = .ok (.iload_n 2, 1) := by decide +kernel
theorem d_Md_leb_116 : decode b_Md_leb 116 = .ok (.ireturn, 1) := by decide +kernel
theorem d_Md_rule_0 : decode b_Md_rule 0 = .ok (.iload_n 1, 1) := by decide +kernel
theorem d_Md_rule_1 : decode b_Md_rule 1 = .ok (.iconst 0, 1) := by decide +kernel
theorem d_Md_rule_2 : decode b_Md_rule 2 = .ok (.bipush 7, 2) := by decide +kernel
theorem d_Md_rule_4 : decode b_Md_rule 4 = .ok (.invokestatic 75, 3) := by decide +kernel
theorem d_Md_rule_7 : decode b_Md_rule 7 = .ok (.ifCond .ne 9, 3) := by decide +kernel
theorem d_Md_rule_10 : decode b_Md_rule 10 = .ok (.aload_n 0, 1) := by decide +kernel
theorem d_Md_rule_11 : decode b_Md_rule 11 = .ok (.iconst 1, 1) := by decide +kernel
theorem d_Md_rule_12 : decode b_Md_rule 12 = .ok (.putfield 85, 3) := by decide +kernel
theorem d_Md_rule_15 : decode b_Md_rule 15 = .ok (.return_, 1) := by decide +kernel
theorem d_Md_rule_16 : decode b_Md_rule 16 = .ok (.aload_n 0, 1) := by decide +kernel
theorem d_Md_rule_17 : decode b_Md_rule 17 = .ok (.getfield 44, 3) := by decide +kernel
theorem d_Md_rule_20 : decode b_Md_rule 20 = .ok (.iload_n 1, 1) := by decide +kernel
theorem d_Md_rule_21 : decode b_Md_rule 21 = .ok (.iload_n 2, 1) := by decide +kernel
theorem d_Md_rule_22 : decode b_Md_rule 22 = .ok (.iastore, 1) := by decide +kernel
theorem d_Md_rule_23 : decode b_Md_rule 23 = .ok (.aload_n 0, 1) := by decide +kernel
theorem d_Md_rule_24 : decode b_Md_rule 24 = .ok (.getfield 44, 3) := by decide +kernel
theorem d_Md_rule_27 : decode b_Md_rule 27 = .ok (.bipush 8, 2) := by decide +kernel
theorem d_Md_rule_29 : decode b_Md_rule 29 = .ok (.iload_n 1, 1) := by decide +kernel
theorem d_Md_rule_30 : decode b_Md_rule 30 = .ok (.iadd, 1) := by decide +kernel
theorem d_Md_rule_31 : decode b_Md_rule 31 = .ok (.iload_n 3, 1) := by decide +kernel
theorem d_Md_rule_32 : decode b_Md_rule 32 = .ok (.iastore, 1) := by decide +kernel
theorem d_Md_rule_33 : decode b_Md_rule 33 = .ok (.aload_n 0, 1) := by decide +kernel
theorem d_Md_rule_34 : decode b_Md_rule 34 = .ok (.getfield 44, 3) := by decide +kernel
theorem d_Md_rule_37 : decode b_Md_rule 37 = .ok (.bipush 16, 2) := by decide +kernel
theorem d_Md_rule_39 : decode b_Md_rule 39 = .ok (.iload_n 1, 1) := by decide +kernel
theorem d_Md_rule_40 : decode b_Md_rule 40 = .ok (.iadd, 1) := by decide +kernel
theorem d_Md_rule_41 : decode b_Md_rule 41 = .ok (.iload 4, 2) := by decide +kernel
theorem d_Md_rule_43 : decode b_Md_rule 43 = .ok (.iastore, 1) := by decide +kernel
theorem d_Md_rule_44 : decode b_Md_rule 44 = .ok (.return_, 1) := by decide +kernel
theorem d_Md_cfa_0 : decode b_Md_cfa 0 = .ok (.aload_n 0, 1) := by decide +kernel
theorem d_Md_cfa_1 : decode b_Md_cfa 1 = .ok (.getfield 44, 3) := by decide +kernel
theorem d_Md_cfa_4 : decode b_Md_cfa 4 = .ok (.bipush 24, 2) := by decide +kernel
theorem d_Md_cfa_6 : decode b_Md_cfa 6 = .ok (.iload_n 1, 1) := by decide +kernel
theorem d_Md_cfa_7 : decode b_Md_cfa 7 = .ok (.iastore, 1) := by decide +kernel
theorem d_Md_cfa_8 : decode b_Md_cfa 8 = .ok (.aload_n 0, 1) := by decide +kernel
theorem d_Md_cfa_9 : decode b_Md_cfa 9 = .ok (.getfield 44, 3) := by decide +kernel
theorem d_Md_cfa_12 : decode b_Md_cfa 12 = .ok (.bipush 25, 2) := by decide +kernel
theorem d_Md_cfa_14 : decode b_Md_cfa 14 = .ok (.iload_n 2, 1) := by decide +kernel
theorem d_Md_cfa_15 : decode b_Md_cfa 15 = .ok (.iastore, 1) := by decide +kernel
theorem d_Md_cfa_16 : decode b_Md_cfa 16 = .ok (.aload_n 0, 1) := by decide +kernel
theorem d_Md_cfa_17 : decode b_Md_cfa 17 = .ok (.getfield 44, 3) := by decide +kernel
theorem d_Md_cfa_20 : decode b_Md_cfa 20 = .ok (.bipush 26, 2) := by decide +kernel
theorem d_Md_cfa_22 : decode b_Md_cfa 22 = .ok (.iload_n 3, 1) := by decide +kernel
theorem d_Md_cfa_23 : decode b_Md_cfa 23 = .ok (.iastore, 1) := by decide +kernel
theorem d_Md_cfa_24 : decode b_Md_cfa 24 = .ok (.return_, 1) := by decide +kernel
theorem d_Md_restore_0 : decode b_Md_restore 0 = .ok (.iload_n 1, 1) := by decide +kernel
theorem d_Md_restore_1 : decode b_Md_restore 1 = .ok (.iconst 0, 1) := by decide +kernel
theorem d_Md_restore_2 : decode b_Md_restore 2 = .ok (.bipush 7, 2) := by decide +kernel
theorem d_Md_restore_4 : decode b_Md_restore 4 = .ok (.invokestatic 75, 3) := by decide +kernel
theorem d_Md_restore_7 : decode b_Md_restore 7 = .ok (.ifCond .ne 11, 3) := by decide +kernel
theorem d_Md_restore_10 : decode b_Md_restore 10 = .ok (.aload_n 0, 1) := by decide +kernel
theorem d_Md_restore_11 : decode b_Md_restore 11 = .ok (.iconst 1, 1) := by decide +kernel
theorem d_Md_restore_12 : decode b_Md_restore 12 = .ok (.putfield 85, 3) := by decide +kernel
theorem d_Md_restore_15 : decode b_Md_restore 15 = .ok (.goto 32, 3) := by decide +kernel
theorem d_Md_restore_18 : decode b_Md_restore 18 = .ok (.aload_n 0, 1) := by decide +kernel
theorem d_Md_restore_19 : decode b_Md_restore 19 = .ok (.iload_n 1, 1) := by decide +kernel
theorem d_Md_restore_20 : decode b_Md_restore 20 = .ok (.aload_n 0, 1) := by decide +kernel
theorem d_Md_restore_21 : decode b_Md_restore 21 = .ok (.getfield 47, 3) := by decide +kernel
theorem d_Md_restore_24 : decode b_Md_restore 24 = .ok (.iload_n 1, 1) := by decide +kernel
theorem d_Md_restore_25 : decode b_Md_restore 25 = .ok (.iaload, 1) := by decide +kernel
theorem d_Md_restore_26 : decode b_Md_restore 26 = .ok (.aload_n 0, 1) := by decide +kernel
theorem d_Md_restore_27 : decode b_Md_restore 27 = .ok (.getfield 47, 3) := by decide +kernel
theorem d_Md_restore_30 : decode b_Md_restore 30 = .ok (.bipush 8, 2) := by decide +kernel
theorem d_Md_restore_32 : decode b_Md_restore 32 = .ok (.iload_n 1, 1) := by decide +kernel
theorem d_Md_restore_33 : decode b_Md_restore 33 = .ok (.iadd, 1) := by decide +kernel
theorem d_Md_restore_34 : decode b_Md_restore 34 = .ok (.iaload, 1) := by decide +kernel
theorem d_Md_restore_35 : decode b_Md_restore 35 = .ok (.aload_n 0, 1) := by decide +kernel
theorem d_Md_restore_36 : decode b_Md_restore 36 = .ok (.getfield 47, 3) := by decide +kernel
theorem d_Md_restore_39 : decode b_Md_restore 39 = .ok (.bipush 16, 2) := by decide +kernel
theorem d_Md_restore_41 : decode b_Md_restore 41 = .ok (.iload_n 1, 1) := by decide +kernel
theorem d_Md_restore_42 : decode b_Md_restore 42 = .ok (.iadd, 1) := by decide +kernel
theorem d_Md_restore_43 : decode b_Md_restore 43 = .ok (.iaload, 1) := by decide +kernel
theorem d_Md_restore_44 : decode b_Md_restore 44 = .ok (.invokevirtual 93, 3) := by decide +kernel
theorem d_Md_restore_47 : decode b_Md_restore 47 = .ok (.return_, 1) := by decide +kernel
