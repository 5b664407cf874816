theorem d_Md_cfaNow_0 : decode b_Md_cfaNow 0 = .ok (.aload_n 0, 1) := by decide +kernel
theorem d_Md_cfaNow_1 : decode b_Md_cfaNow 1 = .ok (.getfield 44, 3) := by decide +kernel
theorem d_Md_cfaNow_4 : decode b_Md_cfaNow 4 = .ok (.bipush 24, 2) := by decide +kernel
theorem d_Md_cfaNow_6 : decode b_Md_cfaNow 6 = .ok (.iaload, 1) := by decide +kernel
theorem d_Md_cfaNow_7 : decode b_Md_cfaNow 7 = .ok (.ifCond .ne 6, 3) := by decide +kernel
theorem d_Md_cfaNow_10 : decode b_Md_cfaNow 10 = .ok (.bipush 6, 2) := by decide +kernel
theorem d_Md_cfaNow_12 : decode b_Md_cfaNow 12 = .ok (.ireturn, 1) := by decide +kernel
theorem d_Md_cfaNow_13 : decode b_Md_cfaNow 13 = .ok (.aload_n 0, 1) := by decide +kernel
theorem d_Md_cfaNow_14 : decode b_Md_cfaNow 14 = .ok (.getfield 44, 3) := by decide +kernel
theorem d_Md_cfaNow_17 : decode b_Md_cfaNow 17 = .ok (.bipush 24, 2) := by decide +kernel
theorem d_Md_cfaNow_19 : decode b_Md_cfaNow 19 = .ok (.iaload, 1) := by decide +kernel
theorem d_Md_cfaNow_20 : decode b_Md_cfaNow 20 = .ok (.iconst 1, 1) := by decide +kernel
theorem d_Md_cfaNow_21 : decode b_Md_cfaNow 21 = .ok (.if_icmp .ne 51, 3) := by decide +kernel
theorem d_Md_cfaNow_24 : decode b_Md_cfaNow 24 = .ok (.aload_n 0, 1) := by decide +kernel
theorem d_Md_cfaNow_25 : decode b_Md_cfaNow 25 = .ok (.aload_n 0, 1) := by decide +kernel
theorem d_Md_cfaNow_26 : decode b_Md_cfaNow 26 = .ok (.getfield 59, 3) := by decide +kernel
theorem d_Md_cfaNow_29 : decode b_Md_cfaNow 29 = .ok (.aload_n 0, 1) := by decide +kernel
theorem d_Md_cfaNow_30 : decode b_Md_cfaNow 30 = .ok (.getfield 44, 3) := by decide +kernel
theorem d_Md_cfaNow_33 : decode b_Md_cfaNow 33 = .ok (.bipush 26, 2) := by decide +kernel
theorem d_Md_cfaNow_35 : decode b_Md_cfaNow 35 = .ok (.iaload, 1) := by decide +kernel
theorem d_Md_cfaNow_36 : decode b_Md_cfaNow 36 = .ok (.iaload, 1) := by decide +kernel
theorem d_Md_cfaNow_37 : decode b_Md_cfaNow 37 = .ok (.aload_n 0, 1) := by decide +kernel
theorem d_Md_cfaNow_38 : decode b_Md_cfaNow 38 = .ok (.getfield 44, 3) := by decide +kernel
theorem d_Md_cfaNow_41 : decode b_Md_cfaNow 41 = .ok (.bipush 25, 2) := by decide +kernel
theorem d_Md_cfaNow_43 : decode b_Md_cfaNow 43 = .ok (.iaload, 1) := by decide +kernel
theorem d_Md_cfaNow_44 : decode b_Md_cfaNow 44 = .ok (.iadd, 1) := by decide +kernel
theorem d_Md_cfaNow_45 : decode b_Md_cfaNow 45 = .ok (.putfield 201, 3) := by decide +kernel
theorem d_Md_cfaNow_48 : decode b_Md_cfaNow 48 = .ok (.aload_n 0, 1) := by decide +kernel
theorem d_Md_cfaNow_49 : decode b_Md_cfaNow 49 = .ok (.getfield 62, 3) := by decide +kernel
theorem d_Md_cfaNow_52 : decode b_Md_cfaNow 52 = .ok (.aload_n 0, 1) := by decide +kernel
theorem d_Md_cfaNow_53 : decode b_Md_cfaNow 53 = .ok (.getfield 44, 3) := by decide +kernel
theorem d_Md_cfaNow_56 : decode b_Md_cfaNow 56 = .ok (.bipush 26, 2) := by decide +kernel
theorem d_Md_cfaNow_58 : decode b_Md_cfaNow 58 = .ok (.iaload, 1) := by decide +kernel
theorem d_Md_cfaNow_59 : decode b_Md_cfaNow 59 = .ok (.ishr, 1) := by decide +kernel
theorem d_Md_cfaNow_60 : decode b_Md_cfaNow 60 = .ok (.iconst 1, 1) := by decide +kernel
theorem d_Md_cfaNow_61 : decode b_Md_cfaNow 61 = .ok (.iand, 1) := by decide +kernel
theorem d_Md_cfaNow_62 : decode b_Md_cfaNow 62 = .ok (.iconst 1, 1) := by decide +kernel
theorem d_Md_cfaNow_63 : decode b_Md_cfaNow 63 = .ok (.if_icmp .ne 7, 3) := by decide +kernel
theorem d_Md_cfaNow_66 : decode b_Md_cfaNow 66 = .ok (.iconst 0, 1) := by decide +kernel
theorem d_Md_cfaNow_67 : decode b_Md_cfaNow 67 = .ok (.goto 4, 3) := by decide +kernel
theorem d_Md_cfaNow_70 : decode b_Md_cfaNow 70 = .ok (.iconst 4, 1) := by decide +kernel
theorem d_Md_cfaNow_71 : decode b_Md_cfaNow 71 = .ok (.ireturn, 1) := by decide +kernel
theorem d_Md_cfaNow_72 : decode b_Md_cfaNow 72 = .ok (.aload_n 0, 1) := by decide +kernel
theorem d_Md_cfaNow_73 : decode b_Md_cfaNow 73 = .ok (.iconst 0, 1) := by decide +kernel
theorem d_Md_cfaNow_74 : decode b_Md_cfaNow 74 = .ok (.putfield 164, 3) := by decide +kernel
theorem d_Md_cfaNow_77 : decode b_Md_cfaNow 77 = .ok (.aload_n 0, 1) := by decide +kernel
theorem d_Md_cfaNow_78 : decode b_Md_cfaNow 78 = .ok (.aload_n 0, 1) := by decide +kernel
theorem d_Md_cfaNow_79 : decode b_Md_cfaNow 79 = .ok (.getfield 44, 3) := by decide +kernel
theorem d_Md_cfaNow_82 : decode b_Md_cfaNow 82 = .ok (.bipush 25, 2) := by decide +kernel
theorem d_Md_cfaNow_84 : decode b_Md_cfaNow 84 = .ok (.iaload, 1) := by decide +kernel
theorem d_Md_cfaNow_85 : decode b_Md_cfaNow 85 = .ok (.aload_n 0, 1) := by decide +kernel
theorem d_Md_cfaNow_86 : decode b_Md_cfaNow 86 = .ok (.getfield 44, 3) := by decide +kernel
theorem d_Md_cfaNow_89 : decode b_Md_cfaNow 89 = .ok (.bipush 25, 2) := by decide +kernel
theorem d_Md_cfaNow_91 : decode b_Md_cfaNow 91 = .ok (.iaload, 1) := by decide +kernel
theorem d_Md_cfaNow_92 : decode b_Md_cfaNow 92 = .ok (.aload_n 0, 1) := by decide +kernel
theorem d_Md_cfaNow_93 : decode b_Md_cfaNow 93 = .ok (.getfield 44, 3) := by decide +kernel
theorem d_Md_cfaNow_96 : decode b_Md_cfaNow 96 = .ok (.bipush 26, 2) := by decide +kernel
theorem d_Md_cfaNow_98 : decode b_Md_cfaNow 98 = .ok (.iaload, 1) := by decide +kernel
theorem d_Md_cfaNow_99 : decode b_Md_cfaNow 99 = .ok (.iadd, 1) := by decide +kernel
theorem d_Md_cfaNow_100 : decode b_Md_cfaNow 100 = .ok (.iload_n 1, 1) := by decide +kernel
theorem d_Md_cfaNow_101 : decode b_Md_cfaNow 101 = .ok (.iconst 0, 1) := by decide +kernel
theorem d_Md_cfaNow_102 : decode b_Md_cfaNow 102 = .ok (.iconst 0, 1) := by decide +kernel
theorem d_Md_cfaNow_103 : decode b_Md_cfaNow 103 = .ok (.invokevirtual 210, 3) := by decide +kernel
theorem d_Md_cfaNow_106 : decode b_Md_cfaNow 106 = .ok (.ireturn, 1) := by decide +kernel
