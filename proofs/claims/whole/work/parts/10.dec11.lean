theorem d_La_commonFault_0 : decode b_La_commonFault 0 = .ok (.aload_n 0, 1) := by decide +kernel
theorem d_La_commonFault_1 : decode b_La_commonFault 1 = .ok (.getfield 15, 3) := by decide +kernel
theorem d_La_commonFault_4 : decode b_La_commonFault 4 = .ok (.getfield 71, 3) := by decide +kernel
theorem d_La_commonFault_7 : decode b_La_commonFault 7 = .ok (.istore_n 2, 1) := by decide +kernel
theorem d_La_commonFault_8 : decode b_La_commonFault 8 = .ok (.aload_n 0, 1) := by decide +kernel
theorem d_La_commonFault_9 : decode b_La_commonFault 9 = .ok (.getfield 15, 3) := by decide +kernel
theorem d_La_commonFault_12 : decode b_La_commonFault 12 = .ok (.iconst 1, 1) := by decide +kernel
theorem d_La_commonFault_13 : decode b_La_commonFault 13 = .ok (.invokevirtual 63, 3) := by decide +kernel
theorem d_La_commonFault_16 : decode b_La_commonFault 16 = .ok (.iconst 1, 1) := by decide +kernel
theorem d_La_commonFault_17 : decode b_La_commonFault 17 = .ok (.if_icmp .eq 5, 3) := by decide +kernel
theorem d_La_commonFault_20 : decode b_La_commonFault 20 = .ok (.iload_n 2, 1) := by decide +kernel
theorem d_La_commonFault_21 : decode b_La_commonFault 21 = .ok (.ireturn, 1) := by decide +kernel
theorem d_La_commonFault_22 : decode b_La_commonFault 22 = .ok (.aload_n 0, 1) := by decide +kernel
theorem d_La_commonFault_23 : decode b_La_commonFault 23 = .ok (.getfield 15, 3) := by decide +kernel
theorem d_La_commonFault_26 : decode b_La_commonFault 26 = .ok (.getfield 71, 3) := by decide +kernel
theorem d_La_commonFault_29 : decode b_La_commonFault 29 = .ok (.istore_n 2, 1) := by decide +kernel
theorem d_La_commonFault_30 : decode b_La_commonFault 30 = .ok (.aload_n 1, 1) := by decide +kernel
theorem d_La_commonFault_31 : decode b_La_commonFault 31 = .ok (.aload_n 0, 1) := by decide +kernel
theorem d_La_commonFault_32 : decode b_La_commonFault 32 = .ok (.getfield 15, 3) := by decide +kernel
theorem d_La_commonFault_35 : decode b_La_commonFault 35 = .ok (.invokevirtual 92, 3) := by decide +kernel
theorem d_La_commonFault_38 : decode b_La_commonFault 38 = .ok (.putfield 96, 3) := by decide +kernel
theorem d_La_commonFault_41 : decode b_La_commonFault 41 = .ok (.aload_n 0, 1) := by decide +kernel
theorem d_La_commonFault_42 : decode b_La_commonFault 42 = .ok (.getfield 15, 3) := by decide +kernel
theorem d_La_commonFault_45 : decode b_La_commonFault 45 = .ok (.getfield 67, 3) := by decide +kernel
theorem d_La_commonFault_48 : decode b_La_commonFault 48 = .ok (.ifCond .eq 5, 3) := by decide +kernel
theorem d_La_commonFault_51 : decode b_La_commonFault 51 = .ok (.iload_n 2, 1) := by decide +kernel
theorem d_La_commonFault_52 : decode b_La_commonFault 52 = .ok (.ireturn, 1) := by decide +kernel
theorem d_La_commonFault_53 : decode b_La_commonFault 53 = .ok (.aload_n 0, 1) := by decide +kernel
theorem d_La_commonFault_54 : decode b_La_commonFault 54 = .ok (.getfield 15, 3) := by decide +kernel
theorem d_La_commonFault_57 : decode b_La_commonFault 57 = .ok (.getfield 71, 3) := by decide +kernel
theorem d_La_commonFault_60 : decode b_La_commonFault 60 = .ok (.istore_n 2, 1) := by decide +kernel
theorem d_La_commonFault_61 : decode b_La_commonFault 61 = .ok (.aload_n 1, 1) := by decide +kernel
theorem d_La_commonFault_62 : decode b_La_commonFault 62 = .ok (.aload_n 0, 1) := by decide +kernel
theorem d_La_commonFault_63 : decode b_La_commonFault 63 = .ok (.getfield 15, 3) := by decide +kernel
theorem d_La_commonFault_66 : decode b_La_commonFault 66 = .ok (.invokevirtual 99, 3) := by decide +kernel
theorem d_La_commonFault_69 : decode b_La_commonFault 69 = .ok (.putfield 102, 3) := by decide +kernel
theorem d_La_commonFault_72 : decode b_La_commonFault 72 = .ok (.aload_n 0, 1) := by decide +kernel
theorem d_La_commonFault_73 : decode b_La_commonFault 73 = .ok (.getfield 15, 3) := by decide +kernel
theorem d_La_commonFault_76 : decode b_La_commonFault 76 = .ok (.getfield 67, 3) := by decide +kernel
theorem d_La_commonFault_79 : decode b_La_commonFault 79 = .ok (.ifCond .eq 5, 3) := by decide +kernel
theorem d_La_commonFault_82 : decode b_La_commonFault 82 = .ok (.iload_n 2, 1) := by decide +kernel
theorem d_La_commonFault_83 : decode b_La_commonFault 83 = .ok (.ireturn, 1) := by decide +kernel
theorem d_La_commonFault_84 : decode b_La_commonFault 84 = .ok (.aload_n 0, 1) := by decide +kernel
theorem d_La_commonFault_85 : decode b_La_commonFault 85 = .ok (.getfield 15, 3) := by decide +kernel
theorem d_La_commonFault_88 : decode b_La_commonFault 88 = .ok (.getfield 71, 3) := by decide +kernel
theorem d_La_commonFault_91 : decode b_La_commonFault 91 = .ok (.istore_n 2, 1) := by decide +kernel
theorem d_La_commonFault_92 : decode b_La_commonFault 92 = .ok (.aload_n 1, 1) := by decide +kernel
theorem d_La_commonFault_93 : decode b_La_commonFault 93 = .ok (.aload_n 0, 1) := by decide +kernel
theorem d_La_commonFault_94 : decode b_La_commonFault 94 = .ok (.getfield 15, 3) := by decide +kernel
theorem d_La_commonFault_97 : decode b_La_commonFault 97 = .ok (.invokevirtual 92, 3) := by decide +kernel
theorem d_La_commonFault_100 : decode b_La_commonFault 100 = .ok (.putfield 105, 3) := by decide +kernel
theorem d_La_commonFault_103 : decode b_La_commonFault 103 = .ok (.aload_n 0, 1) := by decide +kernel
theorem d_La_commonFault_104 : decode b_La_commonFault 104 = .ok (.getfield 15, 3) := by decide +kernel
theorem d_La_commonFault_107 : decode b_La_commonFault 107 = .ok (.getfield 67, 3) := by decide +kernel
theorem d_La_commonFault_110 : decode b_La_commonFault 110 = .ok (.ifCond .ne 19, 3) := by decide +kernel
theorem d_La_commonFault_113 : decode b_La_commonFault 113 = .ok (.aload_n 1, 1) := by decide +kernel
theorem d_La_commonFault_114 : decode b_La_commonFault 114 = .ok (.getfield 105, 3) := by decide +kernel
theorem d_La_commonFault_117 : decode b_La_commonFault 117 = .ok (.ifCond .lt 12, 3) := by decide +kernel
theorem d_La_commonFault_120 : decode b_La_commonFault 120 = .ok (.aload_n 1, 1) := by decide +kernel
theorem d_La_commonFault_121 : decode b_La_commonFault 121 = .ok (.getfield 105, 3) := by decide +kernel
theorem d_La_commonFault_124 : decode b_La_commonFault 124 = .ok (.bipush 8, 2) := by decide +kernel
theorem d_La_commonFault_126 : decode b_La_commonFault 126 = .ok (.if_icmp .lt 5, 3) := by decide +kernel
theorem d_La_commonFault_129 : decode b_La_commonFault 129 = .ok (.iload_n 2, 1) := by decide +kernel
theorem d_La_commonFault_130 : decode b_La_commonFault 130 = .ok (.ireturn, 1) := by decide +kernel
theorem d_La_commonFault_131 : decode b_La_commonFault 131 = .ok (.aload_n 1, 1) := by decide +kernel
theorem d_La_commonFault_132 : decode b_La_commonFault 132 = .ok (.aload_n 0, 1) := by decide +kernel
theorem d_La_commonFault_133 : decode b_La_commonFault 133 = .ok (.getfield 15, 3) := by decide +kernel
theorem d_La_commonFault_136 : decode b_La_commonFault 136 = .ok (.getfield 71, 3) := by decide +kernel
theorem d_La_commonFault_139 : decode b_La_commonFault 139 = .ok (.putfield 108, 3) := by decide +kernel
theorem d_La_commonFault_142 : decode b_La_commonFault 142 = .ok (.iconst (-1), 1) := by decide +kernel
theorem d_La_commonFault_143 : decode b_La_commonFault 143 = .ok (.ireturn, 1) := by decide +kernel
theorem d_La_frameFault_0 : decode b_La_frameFault 0 = .ok (.aload_n 0, 1) := by decide +kernel
theorem d_La_frameFault_1 : decode b_La_frameFault 1 = .ok (.getfield 15, 3) := by decide +kernel
theorem d_La_frameFault_4 : decode b_La_frameFault 4 = .ok (.getfield 71, 3) := by decide +kernel
theorem d_La_frameFault_7 : decode b_La_frameFault 7 = .ok (.istore_n 2, 1) := by decide +kernel
theorem d_La_frameFault_8 : decode b_La_frameFault 8 = .ok (.aload_n 1, 1) := by decide +kernel
theorem d_La_frameFault_9 : decode b_La_frameFault 9 = .ok (.aload_n 0, 1) := by decide +kernel
theorem d_La_frameFault_10 : decode b_La_frameFault 10 = .ok (.getfield 15, 3) := by decide +kernel
theorem d_La_frameFault_13 : decode b_La_frameFault 13 = .ok (.iconst 4, 1) := by decide +kernel
theorem d_La_frameFault_14 : decode b_La_frameFault 14 = .ok (.invokevirtual 63, 3) := by decide +kernel
theorem d_La_frameFault_17 : decode b_La_frameFault 17 = .ok (.putfield 111, 3) := by decide +kernel
theorem d_La_frameFault_20 : decode b_La_frameFault 20 = .ok (.aload_n 0, 1) := by decide +kernel
theorem d_La_frameFault_21 : decode b_La_frameFault 21 = .ok (.getfield 15, 3) := by decide +kernel
theorem d_La_frameFault_24 : decode b_La_frameFault 24 = .ok (.getfield 67, 3) := by decide +kernel
theorem d_La_frameFault_27 : decode b_La_frameFault 27 = .ok (.ifCond .ne 10, 3) := by decide +kernel
theorem d_La_frameFault_30 : decode b_La_frameFault 30 = .ok (.aload_n 1, 1) := by decide +kernel
theorem d_La_frameFault_31 : decode b_La_frameFault 31 = .ok (.getfield 111, 3) := by decide +kernel
theorem d_La_frameFault_34 : decode b_La_frameFault 34 = .ok (.ifCond .ge 5, 3) := by decide +kernel
theorem d_La_frameFault_37 : decode b_La_frameFault 37 = .ok (.iload_n 2, 1) := by decide +kernel
theorem d_La_frameFault_38 : decode b_La_frameFault 38 = .ok (.ireturn, 1) := by decide +kernel
theorem d_La_frameFault_39 : decode b_La_frameFault 39 = .ok (.aload_n 0, 1) := by decide +kernel
theorem d_La_frameFault_40 : decode b_La_frameFault 40 = .ok (.getfield 15, 3) := by decide +kernel
theorem d_La_frameFault_43 : decode b_La_frameFault 43 = .ok (.getfield 71, 3) := by decide +kernel
theorem d_La_frameFault_46 : decode b_La_frameFault 46 = .ok (.istore_n 2, 1) := by decide +kernel
theorem d_La_frameFault_47 : decode b_La_frameFault 47 = .ok (.aload_n 1, 1) := by decide +kernel
theorem d_La_frameFault_48 : decode b_La_frameFault 48 = .ok (.aload_n 0, 1) := by decide +kernel
theorem d_La_frameFault_49 : decode b_La_frameFault 49 = .ok (.getfield 15, 3) := by decide +kernel
theorem d_La_frameFault_52 : decode b_La_frameFault 52 = .ok (.iconst 4, 1) := by decide +kernel
theorem d_La_frameFault_53 : decode b_La_frameFault 53 = .ok (.invokevirtual 63, 3) := by decide +kernel
theorem d_La_frameFault_56 : decode b_La_frameFault 56 = .ok (.putfield 114, 3) := by decide +kernel
theorem d_La_frameFault_59 : decode b_La_frameFault 59 = .ok (.aload_n 0, 1) := by decide +kernel
theorem d_La_frameFault_60 : decode b_La_frameFault 60 = .ok (.getfield 15, 3) := by decide +kernel
theorem d_La_frameFault_63 : decode b_La_frameFault 63 = .ok (.getfield 67, 3) := by decide +kernel
theorem d_La_frameFault_66 : decode b_La_frameFault 66 = .ok (.ifCond .ne 10, 3) := by decide +kernel
theorem d_La_frameFault_69 : decode b_La_frameFault 69 = .ok (.aload_n 1, 1) := by decide +kernel
theorem d_La_frameFault_70 : decode b_La_frameFault 70 = .ok (.getfield 114, 3) := by decide +kernel
theorem d_La_frameFault_73 : decode b_La_frameFault 73 = .ok (.ifCond .ge 5, 3) := by decide +kernel
theorem d_La_frameFault_76 : decode b_La_frameFault 76 = .ok (.iload_n 2, 1) := by decide +kernel
theorem d_La_frameFault_77 : decode b_La_frameFault 77 = .ok (.ireturn, 1) := by decide +kernel
theorem d_La_frameFault_78 : decode b_La_frameFault 78 = .ok (.aload_n 1, 1) := by decide +kernel
theorem d_La_frameFault_79 : decode b_La_frameFault 79 = .ok (.aload_n 0, 1) := by decide +kernel
theorem d_La_frameFault_80 : decode b_La_frameFault 80 = .ok (.getfield 15, 3) := by decide +kernel
theorem d_La_frameFault_83 : decode b_La_frameFault 83 = .ok (.getfield 71, 3) := by decide +kernel
theorem d_La_frameFault_86 : decode b_La_frameFault 86 = .ok (.putfield 108, 3) := by decide +kernel
theorem d_La_frameFault_89 : decode b_La_frameFault 89 = .ok (.iconst (-1), 1) := by decide +kernel
theorem d_La_frameFault_90 : decode b_La_frameFault 90 = .ok (.ireturn, 1) := by decide +kernel
