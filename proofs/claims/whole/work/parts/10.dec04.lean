theorem d_In_readFrom_0 : decode b_In_readFrom 0 = .ok (.aload_n 1, 1) := by decide +kernel
theorem d_In_readFrom_1 : decode b_In_readFrom 1 = .ok (.iconst 1, 1) := by decide +kernel
theorem d_In_readFrom_2 : decode b_In_readFrom 2 = .ok (.invokevirtual 9, 3) := by decide +kernel
theorem d_In_readFrom_5 : decode b_In_readFrom 5 = .ok (.istore_n 2, 1) := by decide +kernel
theorem d_In_readFrom_6 : decode b_In_readFrom 6 = .ok (.iload_n 2, 1) := by decide +kernel
theorem d_In_readFrom_7 : decode b_In_readFrom 7 = .ok (.bipush 63, 2) := by decide +kernel
theorem d_In_readFrom_9 : decode b_In_readFrom 9 = .ok (.iand, 1) := by decide +kernel
theorem d_In_readFrom_10 : decode b_In_readFrom 10 = .ok (.istore_n 3, 1) := by decide +kernel
theorem d_In_readFrom_11 : decode b_In_readFrom 11 = .ok (.aload_n 0, 1) := by decide +kernel
theorem d_In_readFrom_12 : decode b_In_readFrom 12 = .ok (.iconst 0, 1) := by decide +kernel
theorem d_In_readFrom_13 : decode b_In_readFrom 13 = .ok (.putfield 15, 3) := by decide +kernel
theorem d_In_readFrom_16 : decode b_In_readFrom 16 = .ok (.aload_n 0, 1) := by decide +kernel
theorem d_In_readFrom_17 : decode b_In_readFrom 17 = .ok (.iconst 0, 1) := by decide +kernel
theorem d_In_readFrom_18 : decode b_In_readFrom 18 = .ok (.putfield 21, 3) := by decide +kernel
theorem d_In_readFrom_21 : decode b_In_readFrom 21 = .ok (.aload_n 0, 1) := by decide +kernel
theorem d_In_readFrom_22 : decode b_In_readFrom 22 = .ok (.iconst 0, 1) := by decide +kernel
theorem d_In_readFrom_23 : decode b_In_readFrom 23 = .ok (.putfield 24, 3) := by decide +kernel
theorem d_In_readFrom_26 : decode b_In_readFrom 26 = .ok (.iload_n 2, 1) := by decide +kernel
theorem d_In_readFrom_27 : decode b_In_readFrom 27 = .ok (.bipush 6, 2) := by decide +kernel
theorem d_In_readFrom_29 : decode b_In_readFrom 29 = .ok (.ishr, 1) := by decide +kernel
theorem d_In_readFrom_30 : decode b_In_readFrom 30 = .ok (.tableswitch 74 1 3 #[26, 39, 60], 26) := by decide +kernel
theorem d_In_readFrom_56 : decode b_In_readFrom 56 = .ok (.aload_n 0, 1) := by decide +kernel
theorem d_In_readFrom_57 : decode b_In_readFrom 57 = .ok (.iconst 2, 1) := by decide +kernel
theorem d_In_readFrom_58 : decode b_In_readFrom 58 = .ok (.putfield 27, 3) := by decide +kernel
theorem d_In_readFrom_61 : decode b_In_readFrom 61 = .ok (.aload_n 0, 1) := by decide +kernel
theorem d_In_readFrom_62 : decode b_In_readFrom 62 = .ok (.iload_n 3, 1) := by decide +kernel
theorem d_In_readFrom_63 : decode b_In_readFrom 63 = .ok (.putfield 21, 3) := by decide +kernel
theorem d_In_readFrom_66 : decode b_In_readFrom 66 = .ok (.goto 53, 3) := by decide +kernel
theorem d_In_readFrom_69 : decode b_In_readFrom 69 = .ok (.aload_n 0, 1) := by decide +kernel
theorem d_In_readFrom_70 : decode b_In_readFrom 70 = .ok (.iconst 5, 1) := by decide +kernel
theorem d_In_readFrom_71 : decode b_In_readFrom 71 = .ok (.putfield 27, 3) := by decide +kernel
theorem d_In_readFrom_74 : decode b_In_readFrom 74 = .ok (.aload_n 0, 1) := by decide +kernel
theorem d_In_readFrom_75 : decode b_In_readFrom 75 = .ok (.iload_n 3, 1) := by decide +kernel
theorem d_In_readFrom_76 : decode b_In_readFrom 76 = .ok (.putfield 15, 3) := by decide +kernel
theorem d_In_readFrom_79 : decode b_In_readFrom 79 = .ok (.aload_n 0, 1) := by decide +kernel
theorem d_In_readFrom_80 : decode b_In_readFrom 80 = .ok (.aload_n 1, 1) := by decide +kernel
theorem d_In_readFrom_81 : decode b_In_readFrom 81 = .ok (.invokevirtual 30, 3) := by decide +kernel
theorem d_In_readFrom_84 : decode b_In_readFrom 84 = .ok (.putfield 21, 3) := by decide +kernel
theorem d_In_readFrom_87 : decode b_In_readFrom 87 = .ok (.goto 32, 3) := by decide +kernel
theorem d_In_readFrom_90 : decode b_In_readFrom 90 = .ok (.aload_n 0, 1) := by decide +kernel
theorem d_In_readFrom_91 : decode b_In_readFrom 91 = .ok (.bipush 6, 2) := by decide +kernel
theorem d_In_readFrom_93 : decode b_In_readFrom 93 = .ok (.putfield 27, 3) := by decide +kernel
theorem d_In_readFrom_96 : decode b_In_readFrom 96 = .ok (.aload_n 0, 1) := by decide +kernel
theorem d_In_readFrom_97 : decode b_In_readFrom 97 = .ok (.iload_n 3, 1) := by decide +kernel
theorem d_In_readFrom_98 : decode b_In_readFrom 98 = .ok (.putfield 15, 3) := by decide +kernel
theorem d_In_readFrom_101 : decode b_In_readFrom 101 = .ok (.goto 18, 3) := by decide +kernel
theorem d_In_readFrom_104 : decode b_In_readFrom 104 = .ok (.aload_n 0, 1) := by decide +kernel
theorem d_In_readFrom_105 : decode b_In_readFrom 105 = .ok (.iload_n 3, 1) := by decide +kernel
theorem d_In_readFrom_106 : decode b_In_readFrom 106 = .ok (.putfield 27, 3) := by decide +kernel
theorem d_In_readFrom_109 : decode b_In_readFrom 109 = .ok (.aload_n 0, 1) := by decide +kernel
theorem d_In_readFrom_110 : decode b_In_readFrom 110 = .ok (.aload_n 1, 1) := by decide +kernel
theorem d_In_readFrom_111 : decode b_In_readFrom 111 = .ok (.invokevirtual 34, 3) := by decide +kernel
theorem d_In_readFrom_114 : decode b_In_readFrom 114 = .ok (.ifCond .ne 5, 3) := by decide +kernel
theorem d_In_readFrom_117 : decode b_In_readFrom 117 = .ok (.iconst 0, 1) := by decide +kernel
theorem d_In_readFrom_118 : decode b_In_readFrom 118 = .ok (.ireturn, 1) := by decide +kernel
theorem d_In_readFrom_119 : decode b_In_readFrom 119 = .ok (.aload_n 1, 1) := by decide +kernel
theorem d_In_readFrom_120 : decode b_In_readFrom 120 = .ok (.getfield 38, 3) := by decide +kernel
theorem d_In_readFrom_123 : decode b_In_readFrom 123 = .ok (.ifCond .ne 23, 3) := by decide +kernel
theorem d_In_readFrom_126 : decode b_In_readFrom 126 = .ok (.aload_n 0, 1) := by decide +kernel
theorem d_In_readFrom_127 : decode b_In_readFrom 127 = .ok (.getfield 15, 3) := by decide +kernel
theorem d_In_readFrom_130 : decode b_In_readFrom 130 = .ok (.ifCond .lt 16, 3) := by decide +kernel
theorem d_In_readFrom_133 : decode b_In_readFrom 133 = .ok (.aload_n 0, 1) := by decide +kernel
theorem d_In_readFrom_134 : decode b_In_readFrom 134 = .ok (.getfield 15, 3) := by decide +kernel
theorem d_In_readFrom_137 : decode b_In_readFrom 137 = .ok (.bipush 8, 2) := by decide +kernel
theorem d_In_readFrom_139 : decode b_In_readFrom 139 = .ok (.if_icmp .ge 7, 3) := by decide +kernel
theorem d_In_readFrom_142 : decode b_In_readFrom 142 = .ok (.iconst 1, 1) := by decide +kernel
theorem d_In_readFrom_143 : decode b_In_readFrom 143 = .ok (.goto 4, 3) := by decide +kernel
theorem d_In_readFrom_146 : decode b_In_readFrom 146 = .ok (.iconst 0, 1) := by decide +kernel
theorem d_In_readFrom_147 : decode b_In_readFrom 147 = .ok (.ireturn, 1) := by decide +kernel
theorem d_In_mayStandInCommon_0 : decode b_In_mayStandInCommon 0 = .ok (.aload_n 0, 1) := by decide +kernel
theorem d_In_mayStandInCommon_1 : decode b_In_mayStandInCommon 1 = .ok (.getfield 27, 3) := by decide +kernel
theorem d_In_mayStandInCommon_4 : decode b_In_mayStandInCommon 4 = .ok (.tableswitch 62 1 11 #[60, 60, 60, 60, 62, 60, 62, 62, 62, 60, 60], 60) := by decide +kernel
theorem d_In_mayStandInCommon_64 : decode b_In_mayStandInCommon 64 = .ok (.iconst 0, 1) := by decide +kernel
theorem d_In_mayStandInCommon_65 : decode b_In_mayStandInCommon 65 = .ok (.ireturn, 1) := by decide +kernel
theorem d_In_mayStandInCommon_66 : decode b_In_mayStandInCommon 66 = .ok (.iconst 1, 1) := by decide +kernel
theorem d_In_mayStandInCommon_67 : decode b_In_mayStandInCommon 67 = .ok (.ireturn, 1) := by decide +kernel
theorem d_Ro_put_0 : decode b_Ro_put 0 = .ok (.aload_n 0, 1) := by decide +kernel
theorem d_Ro_put_1 : decode b_Ro_put 1 = .ok (.getfield 11, 3) := by decide +kernel
theorem d_Ro_put_4 : decode b_Ro_put 4 = .ok (.iload_n 1, 1) := by decide +kernel
theorem d_Ro_put_5 : decode b_Ro_put 5 = .ok (.iload_n 2, 1) := by decide +kernel
theorem d_Ro_put_6 : decode b_Ro_put 6 = .ok (.iastore, 1) := by decide +kernel
theorem d_Ro_put_7 : decode b_Ro_put 7 = .ok (.aload_n 0, 1) := by decide +kernel
theorem d_Ro_put_8 : decode b_Ro_put 8 = .ok (.getfield 15, 3) := by decide +kernel
theorem d_Ro_put_11 : decode b_Ro_put 11 = .ok (.iload_n 1, 1) := by decide +kernel
theorem d_Ro_put_12 : decode b_Ro_put 12 = .ok (.iload_n 3, 1) := by decide +kernel
theorem d_Ro_put_13 : decode b_Ro_put 13 = .ok (.iastore, 1) := by decide +kernel
theorem d_Ro_put_14 : decode b_Ro_put 14 = .ok (.aload_n 0, 1) := by decide +kernel
theorem d_Ro_put_15 : decode b_Ro_put 15 = .ok (.getfield 18, 3) := by decide +kernel
theorem d_Ro_put_18 : decode b_Ro_put 18 = .ok (.iload_n 1, 1) := by decide +kernel
theorem d_Ro_put_19 : decode b_Ro_put 19 = .ok (.iload 4, 2) := by decide +kernel
theorem d_Ro_put_21 : decode b_Ro_put 21 = .ok (.iastore, 1) := by decide +kernel
theorem d_Ro_put_22 : decode b_Ro_put 22 = .ok (.return_, 1) := by decide +kernel
theorem d_Ro_reset_0 : decode b_Ro_reset 0 = .ok (.iconst 0, 1) := by decide +kernel
theorem d_Ro_reset_1 : decode b_Ro_reset 1 = .ok (.istore_n 2, 1) := by decide +kernel
theorem d_Ro_reset_2 : decode b_Ro_reset 2 = .ok (.iload_n 2, 1) := by decide +kernel
theorem d_Ro_reset_3 : decode b_Ro_reset 3 = .ok (.bipush 8, 2) := by decide +kernel
theorem d_Ro_reset_5 : decode b_Ro_reset 5 = .ok (.if_icmp .ge 17, 3) := by decide +kernel
theorem d_Ro_reset_8 : decode b_Ro_reset 8 = .ok (.aload_n 0, 1) := by decide +kernel
theorem d_Ro_reset_9 : decode b_Ro_reset 9 = .ok (.iload_n 2, 1) := by decide +kernel
theorem d_Ro_reset_10 : decode b_Ro_reset 10 = .ok (.iconst 1, 1) := by decide +kernel
theorem d_Ro_reset_11 : decode b_Ro_reset 11 = .ok (.iconst 0, 1) := by decide +kernel
theorem d_Ro_reset_12 : decode b_Ro_reset 12 = .ok (.iconst 0, 1) := by decide +kernel
theorem d_Ro_reset_13 : decode b_Ro_reset 13 = .ok (.invokevirtual 21, 3) := by decide +kernel
theorem d_Ro_reset_16 : decode b_Ro_reset 16 = .ok (.iinc 2 1, 3) := by decide +kernel
theorem d_Ro_reset_19 : decode b_Ro_reset 19 = .ok (.goto (-17), 3) := by decide +kernel
theorem d_Ro_reset_22 : decode b_Ro_reset 22 = .ok (.aload_n 0, 1) := by decide +kernel
theorem d_Ro_reset_23 : decode b_Ro_reset 23 = .ok (.bipush 7, 2) := by decide +kernel
theorem d_Ro_reset_25 : decode b_Ro_reset 25 = .ok (.iconst 3, 1) := by decide +kernel
theorem d_Ro_reset_26 : decode b_Ro_reset 26 = .ok (.iconst 0, 1) := by decide +kernel
theorem d_Ro_reset_27 : decode b_Ro_reset 27 = .ok (.iconst 0, 1) := by decide +kernel
theorem d_Ro_reset_28 : decode b_Ro_reset 28 = .ok (.invokevirtual 21, 3) := by decide +kernel
theorem d_Ro_reset_31 : decode b_Ro_reset 31 = .ok (.aload_n 0, 1) := by decide +kernel
theorem d_Ro_reset_32 : decode b_Ro_reset 32 = .ok (.iload_n 1, 1) := by decide +kernel
theorem d_Ro_reset_33 : decode b_Ro_reset 33 = .ok (.iconst 0, 1) := by decide +kernel
theorem d_Ro_reset_34 : decode b_Ro_reset 34 = .ok (.iconst 0, 1) := by decide +kernel
theorem d_Ro_reset_35 : decode b_Ro_reset 35 = .ok (.iconst 0, 1) := by decide +kernel
theorem d_Ro_reset_36 : decode b_Ro_reset 36 = .ok (.invokevirtual 21, 3) := by decide +kernel
theorem d_Ro_reset_39 : decode b_Ro_reset 39 = .ok (.aload_n 0, 1) := by decide +kernel
theorem d_Ro_reset_40 : decode b_Ro_reset 40 = .ok (.bipush 8, 2) := by decide +kernel
theorem d_Ro_reset_42 : decode b_Ro_reset 42 = .ok (.iconst 0, 1) := by decide +kernel
theorem d_Ro_reset_43 : decode b_Ro_reset 43 = .ok (.iconst 0, 1) := by decide +kernel
theorem d_Ro_reset_44 : decode b_Ro_reset 44 = .ok (.iconst 0, 1) := by decide +kernel
theorem d_Ro_reset_45 : decode b_Ro_reset 45 = .ok (.invokevirtual 21, 3) := by decide +kernel
theorem d_Ro_reset_48 : decode b_Ro_reset 48 = .ok (.return_, 1) := by decide +kernel
theorem d_Ro_putCfa_0 : decode b_Ro_putCfa 0 = .ok (.aload_n 0, 1) := by decide +kernel
theorem d_Ro_putCfa_1 : decode b_Ro_putCfa 1 = .ok (.bipush 8, 2) := by decide +kernel
theorem d_Ro_putCfa_3 : decode b_Ro_putCfa 3 = .ok (.iconst 1, 1) := by decide +kernel
theorem d_Ro_putCfa_4 : decode b_Ro_putCfa 4 = .ok (.iload_n 2, 1) := by decide +kernel
theorem d_Ro_putCfa_5 : decode b_Ro_putCfa 5 = .ok (.iload_n 1, 1) := by decide +kernel
theorem d_Ro_putCfa_6 : decode b_Ro_putCfa 6 = .ok (.invokevirtual 21, 3) := by decide +kernel
theorem d_Ro_putCfa_9 : decode b_Ro_putCfa 9 = .ok (.return_, 1) := by decide +kernel
theorem d_Ro_cfaRegister_0 : decode b_Ro_cfaRegister 0 = .ok (.aload_n 0, 1) := by decide +kernel
theorem d_Ro_cfaRegister_1 : decode b_Ro_cfaRegister 1 = .ok (.getfield 11, 3) := by decide +kernel
theorem d_Ro_cfaRegister_4 : decode b_Ro_cfaRegister 4 = .ok (.bipush 8, 2) := by decide +kernel
theorem d_Ro_cfaRegister_6 : decode b_Ro_cfaRegister 6 = .ok (.iaload, 1) := by decide +kernel
theorem d_Ro_cfaRegister_7 : decode b_Ro_cfaRegister 7 = .ok (.iconst 1, 1) := by decide +kernel
theorem d_Ro_cfaRegister_8 : decode b_Ro_cfaRegister 8 = .ok (.if_icmp .ne 13, 3) := by decide +kernel
theorem d_Ro_cfaRegister_11 : decode b_Ro_cfaRegister 11 = .ok (.aload_n 0, 1) := by decide +kernel
theorem d_Ro_cfaRegister_12 : decode b_Ro_cfaRegister 12 = .ok (.getfield 18, 3) := by decide +kernel
theorem d_Ro_cfaRegister_15 : decode b_Ro_cfaRegister 15 = .ok (.bipush 8, 2) := by decide +kernel
theorem d_Ro_cfaRegister_17 : decode b_Ro_cfaRegister 17 = .ok (.iaload, 1) := by decide +kernel
theorem d_Ro_cfaRegister_18 : decode b_Ro_cfaRegister 18 = .ok (.goto 4, 3) := by decide +kernel
theorem d_Ro_cfaRegister_21 : decode b_Ro_cfaRegister 21 = .ok (.iconst 0, 1) := by decide +kernel
theorem d_Ro_cfaRegister_22 : decode b_Ro_cfaRegister 22 = .ok (.ireturn, 1) := by decide +kernel
theorem d_Ro_cfaNumber_0 : decode b_Ro_cfaNumber 0 = .ok (.aload_n 0, 1) := by decide +kernel
theorem d_Ro_cfaNumber_1 : decode b_Ro_cfaNumber 1 = .ok (.getfield 11, 3) := by decide +kernel
theorem d_Ro_cfaNumber_4 : decode b_Ro_cfaNumber 4 = .ok (.bipush 8, 2) := by decide +kernel
theorem d_Ro_cfaNumber_6 : decode b_Ro_cfaNumber 6 = .ok (.iaload, 1) := by decide +kernel
theorem d_Ro_cfaNumber_7 : decode b_Ro_cfaNumber 7 = .ok (.iconst 1, 1) := by decide +kernel
theorem d_Ro_cfaNumber_8 : decode b_Ro_cfaNumber 8 = .ok (.if_icmp .ne 13, 3) := by decide +kernel
theorem d_Ro_cfaNumber_11 : decode b_Ro_cfaNumber 11 = .ok (.aload_n 0, 1) := by decide +kernel
theorem d_Ro_cfaNumber_12 : decode b_Ro_cfaNumber 12 = .ok (.getfield 15, 3) := by decide +kernel
theorem d_Ro_cfaNumber_15 : decode b_Ro_cfaNumber 15 = .ok (.bipush 8, 2) := by decide +kernel
theorem d_Ro_cfaNumber_17 : decode b_Ro_cfaNumber 17 = .ok (.iaload, 1) := by decide +kernel
theorem d_Ro_cfaNumber_18 : decode b_Ro_cfaNumber 18 = .ok (.goto 4, 3) := by decide +kernel
theorem d_Ro_cfaNumber_21 : decode b_Ro_cfaNumber 21 = .ok (.iconst 0, 1) := by decide +kernel
theorem d_Ro_cfaNumber_22 : decode b_Ro_cfaNumber 22 = .ok (.ireturn, 1) := by decide +kernel
