theorem d_Md_commonHead_0 : decode b_Md_commonHead 0 = .ok (.aload_n 0, 1) := by decide +kernel
theorem d_Md_commonHead_1 : decode b_Md_commonHead 1 = .ok (.getfield 79, 3) := by decide +kernel
theorem d_Md_commonHead_4 : decode b_Md_commonHead 4 = .ok (.istore_n 2, 1) := by decide +kernel
theorem d_Md_commonHead_5 : decode b_Md_commonHead 5 = .ok (.aload_n 0, 1) := by decide +kernel
theorem d_Md_commonHead_6 : decode b_Md_commonHead 6 = .ok (.iconst 1, 1) := by decide +kernel
theorem d_Md_commonHead_7 : decode b_Md_commonHead 7 = .ok (.invokevirtual 89, 3) := by decide +kernel
theorem d_Md_commonHead_10 : decode b_Md_commonHead 10 = .ok (.istore_n 3, 1) := by decide +kernel
theorem d_Md_commonHead_11 : decode b_Md_commonHead 11 = .ok (.aload_n 0, 1) := by decide +kernel
theorem d_Md_commonHead_12 : decode b_Md_commonHead 12 = .ok (.getfield 85, 3) := by decide +kernel
theorem d_Md_commonHead_15 : decode b_Md_commonHead 15 = .ok (.ifCond .ne 8, 3) := by decide +kernel
theorem d_Md_commonHead_18 : decode b_Md_commonHead 18 = .ok (.iload_n 3, 1) := by decide +kernel
theorem d_Md_commonHead_19 : decode b_Md_commonHead 19 = .ok (.iconst 1, 1) := by decide +kernel
theorem d_Md_commonHead_20 : decode b_Md_commonHead 20 = .ok (.if_icmp .eq 5, 3) := by decide +kernel
theorem d_Md_commonHead_23 : decode b_Md_commonHead 23 = .ok (.iload_n 2, 1) := by decide +kernel
theorem d_Md_commonHead_24 : decode b_Md_commonHead 24 = .ok (.ireturn, 1) := by decide +kernel
theorem d_Md_commonHead_25 : decode b_Md_commonHead 25 = .ok (.aload_n 0, 1) := by decide +kernel
theorem d_Md_commonHead_26 : decode b_Md_commonHead 26 = .ok (.getfield 79, 3) := by decide +kernel
theorem d_Md_commonHead_29 : decode b_Md_commonHead 29 = .ok (.istore_n 2, 1) := by decide +kernel
theorem d_Md_commonHead_30 : decode b_Md_commonHead 30 = .ok (.aload_n 0, 1) := by decide +kernel
theorem d_Md_commonHead_31 : decode b_Md_commonHead 31 = .ok (.getfield 23, 3) := by decide +kernel
theorem d_Md_commonHead_34 : decode b_Md_commonHead 34 = .ok (.iload_n 1, 1) := by decide +kernel
theorem d_Md_commonHead_35 : decode b_Md_commonHead 35 = .ok (.aload_n 0, 1) := by decide +kernel
theorem d_Md_commonHead_36 : decode b_Md_commonHead 36 = .ok (.iconst 0, 1) := by decide +kernel
theorem d_Md_commonHead_37 : decode b_Md_commonHead 37 = .ok (.invokevirtual 97, 3) := by decide +kernel
theorem d_Md_commonHead_40 : decode b_Md_commonHead 40 = .ok (.iastore, 1) := by decide +kernel
theorem d_Md_commonHead_41 : decode b_Md_commonHead 41 = .ok (.aload_n 0, 1) := by decide +kernel
theorem d_Md_commonHead_42 : decode b_Md_commonHead 42 = .ok (.getfield 85, 3) := by decide +kernel
theorem d_Md_commonHead_45 : decode b_Md_commonHead 45 = .ok (.ifCond .eq 5, 3) := by decide +kernel
theorem d_Md_commonHead_48 : decode b_Md_commonHead 48 = .ok (.iload_n 2, 1) := by decide +kernel
theorem d_Md_commonHead_49 : decode b_Md_commonHead 49 = .ok (.ireturn, 1) := by decide +kernel
theorem d_Md_commonHead_50 : decode b_Md_commonHead 50 = .ok (.aload_n 0, 1) := by decide +kernel
theorem d_Md_commonHead_51 : decode b_Md_commonHead 51 = .ok (.getfield 79, 3) := by decide +kernel
theorem d_Md_commonHead_54 : decode b_Md_commonHead 54 = .ok (.istore_n 2, 1) := by decide +kernel
theorem d_Md_commonHead_55 : decode b_Md_commonHead 55 = .ok (.aload_n 0, 1) := by decide +kernel
theorem d_Md_commonHead_56 : decode b_Md_commonHead 56 = .ok (.getfield 26, 3) := by decide +kernel
theorem d_Md_commonHead_59 : decode b_Md_commonHead 59 = .ok (.iload_n 1, 1) := by decide +kernel
theorem d_Md_commonHead_60 : decode b_Md_commonHead 60 = .ok (.aload_n 0, 1) := by decide +kernel
theorem d_Md_commonHead_61 : decode b_Md_commonHead 61 = .ok (.iconst 1, 1) := by decide +kernel
theorem d_Md_commonHead_62 : decode b_Md_commonHead 62 = .ok (.invokevirtual 97, 3) := by decide +kernel
theorem d_Md_commonHead_65 : decode b_Md_commonHead 65 = .ok (.iastore, 1) := by decide +kernel
theorem d_Md_commonHead_66 : decode b_Md_commonHead 66 = .ok (.aload_n 0, 1) := by decide +kernel
theorem d_Md_commonHead_67 : decode b_Md_commonHead 67 = .ok (.getfield 85, 3) := by decide +kernel
theorem d_Md_commonHead_70 : decode b_Md_commonHead 70 = .ok (.ifCond .eq 5, 3) := by decide +kernel
theorem d_Md_commonHead_73 : decode b_Md_commonHead 73 = .ok (.iload_n 2, 1) := by decide +kernel
theorem d_Md_commonHead_74 : decode b_Md_commonHead 74 = .ok (.ireturn, 1) := by decide +kernel
theorem d_Md_commonHead_75 : decode b_Md_commonHead 75 = .ok (.aload_n 0, 1) := by decide +kernel
theorem d_Md_commonHead_76 : decode b_Md_commonHead 76 = .ok (.getfield 79, 3) := by decide +kernel
theorem d_Md_commonHead_79 : decode b_Md_commonHead 79 = .ok (.istore_n 2, 1) := by decide +kernel
theorem d_Md_commonHead_80 : decode b_Md_commonHead 80 = .ok (.aload_n 0, 1) := by decide +kernel
theorem d_Md_commonHead_81 : decode b_Md_commonHead 81 = .ok (.getfield 29, 3) := by decide +kernel
theorem d_Md_commonHead_84 : decode b_Md_commonHead 84 = .ok (.iload_n 1, 1) := by decide +kernel
theorem d_Md_commonHead_85 : decode b_Md_commonHead 85 = .ok (.aload_n 0, 1) := by decide +kernel
theorem d_Md_commonHead_86 : decode b_Md_commonHead 86 = .ok (.invokevirtual 117, 3) := by decide +kernel
theorem d_Md_commonHead_89 : decode b_Md_commonHead 89 = .ok (.iastore, 1) := by decide +kernel
theorem d_Md_commonHead_90 : decode b_Md_commonHead 90 = .ok (.aload_n 0, 1) := by decide +kernel
theorem d_Md_commonHead_91 : decode b_Md_commonHead 91 = .ok (.getfield 85, 3) := by decide +kernel
theorem d_Md_commonHead_94 : decode b_Md_commonHead 94 = .ok (.ifCond .eq 7, 3) := by decide +kernel
theorem d_Md_commonHead_97 : decode b_Md_commonHead 97 = .ok (.iload_n 2, 1) := by decide +kernel
theorem d_Md_commonHead_98 : decode b_Md_commonHead 98 = .ok (.goto 4, 3) := by decide +kernel
theorem d_Md_commonHead_101 : decode b_Md_commonHead 101 = .ok (.iconst (-1), 1) := by decide +kernel
theorem d_Md_commonHead_102 : decode b_Md_commonHead 102 = .ok (.ireturn, 1) := by decide +kernel
theorem d_Md_frameHead_0 : decode b_Md_frameHead 0 = .ok (.aload_n 0, 1) := by decide +kernel
theorem d_Md_frameHead_1 : decode b_Md_frameHead 1 = .ok (.getfield 79, 3) := by decide +kernel
theorem d_Md_frameHead_4 : decode b_Md_frameHead 4 = .ok (.istore_n 2, 1) := by decide +kernel
theorem d_Md_frameHead_5 : decode b_Md_frameHead 5 = .ok (.aload_n 0, 1) := by decide +kernel
theorem d_Md_frameHead_6 : decode b_Md_frameHead 6 = .ok (.getfield 32, 3) := by decide +kernel
theorem d_Md_frameHead_9 : decode b_Md_frameHead 9 = .ok (.iload_n 1, 1) := by decide +kernel
theorem d_Md_frameHead_10 : decode b_Md_frameHead 10 = .ok (.aload_n 0, 1) := by decide +kernel
theorem d_Md_frameHead_11 : decode b_Md_frameHead 11 = .ok (.iconst 4, 1) := by decide +kernel
theorem d_Md_frameHead_12 : decode b_Md_frameHead 12 = .ok (.invokevirtual 89, 3) := by decide +kernel
theorem d_Md_frameHead_15 : decode b_Md_frameHead 15 = .ok (.iastore, 1) := by decide +kernel
theorem d_Md_frameHead_16 : decode b_Md_frameHead 16 = .ok (.aload_n 0, 1) := by decide +kernel
theorem d_Md_frameHead_17 : decode b_Md_frameHead 17 = .ok (.getfield 85, 3) := by decide +kernel
theorem d_Md_frameHead_20 : decode b_Md_frameHead 20 = .ok (.ifCond .ne 12, 3) := by decide +kernel
theorem d_Md_frameHead_23 : decode b_Md_frameHead 23 = .ok (.aload_n 0, 1) := by decide +kernel
theorem d_Md_frameHead_24 : decode b_Md_frameHead 24 = .ok (.getfield 32, 3) := by decide +kernel
theorem d_Md_frameHead_27 : decode b_Md_frameHead 27 = .ok (.iload_n 1, 1) := by decide +kernel
theorem d_Md_frameHead_28 : decode b_Md_frameHead 28 = .ok (.iaload, 1) := by decide +kernel
theorem d_Md_frameHead_29 : decode b_Md_frameHead 29 = .ok (.ifCond .ge 5, 3) := by decide +kernel
theorem d_Md_frameHead_32 : decode b_Md_frameHead 32 = .ok (.iload_n 2, 1) := by decide +kernel
theorem d_Md_frameHead_33 : decode b_Md_frameHead 33 = .ok (.ireturn, 1) := by decide +kernel
theorem d_Md_frameHead_34 : decode b_Md_frameHead 34 = .ok (.aload_n 0, 1) := by decide +kernel
theorem d_Md_frameHead_35 : decode b_Md_frameHead 35 = .ok (.getfield 79, 3) := by decide +kernel
theorem d_Md_frameHead_38 : decode b_Md_frameHead 38 = .ok (.istore_n 2, 1) := by decide +kernel
theorem d_Md_frameHead_39 : decode b_Md_frameHead 39 = .ok (.aload_n 0, 1) := by decide +kernel
theorem d_Md_frameHead_40 : decode b_Md_frameHead 40 = .ok (.getfield 35, 3) := by decide +kernel
theorem d_Md_frameHead_43 : decode b_Md_frameHead 43 = .ok (.iload_n 1, 1) := by decide +kernel
theorem d_Md_frameHead_44 : decode b_Md_frameHead 44 = .ok (.aload_n 0, 1) := by decide +kernel
theorem d_Md_frameHead_45 : decode b_Md_frameHead 45 = .ok (.iconst 4, 1) := by decide +kernel
theorem d_Md_frameHead_46 : decode b_Md_frameHead 46 = .ok (.invokevirtual 89, 3) := by decide +kernel
theorem d_Md_frameHead_49 : decode b_Md_frameHead 49 = .ok (.iastore, 1) := by decide +kernel
theorem d_Md_frameHead_50 : decode b_Md_frameHead 50 = .ok (.aload_n 0, 1) := by decide +kernel
theorem d_Md_frameHead_51 : decode b_Md_frameHead 51 = .ok (.getfield 85, 3) := by decide +kernel
theorem d_Md_frameHead_54 : decode b_Md_frameHead 54 = .ok (.ifCond .ne 12, 3) := by decide +kernel
theorem d_Md_frameHead_57 : decode b_Md_frameHead 57 = .ok (.aload_n 0, 1) := by decide +kernel
theorem d_Md_frameHead_58 : decode b_Md_frameHead 58 = .ok (.getfield 35, 3) := by decide +kernel
theorem d_Md_frameHead_61 : decode b_Md_frameHead 61 = .ok (.iload_n 1, 1) := by decide +kernel
theorem d_Md_frameHead_62 : decode b_Md_frameHead 62 = .ok (.iaload, 1) := by decide +kernel
theorem d_Md_frameHead_63 : decode b_Md_frameHead 63 = .ok (.ifCond .ge 7, 3) := by decide +kernel
theorem d_Md_frameHead_66 : decode b_Md_frameHead 66 = .ok (.iload_n 2, 1) := by decide +kernel
theorem d_Md_frameHead_67 : decode b_Md_frameHead 67 = .ok (.goto 4, 3) := by decide +kernel
theorem d_Md_frameHead_70 : decode b_Md_frameHead 70 = .ok (.iconst (-1), 1) := by decide +kernel
theorem d_Md_frameHead_71 : decode b_Md_frameHead 71 = .ok (.ireturn, 1) := by decide +kernel
