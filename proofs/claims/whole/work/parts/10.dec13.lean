theorem d_La_firstFault_0 : decode b_La_firstFault 0 = .ok (.iconst 0, 1) := by decide +kernel
theorem d_La_firstFault_1 : decode b_La_firstFault 1 = .ok (.istore_n 1, 1) := by decide +kernel
theorem d_La_firstFault_2 : decode b_La_firstFault 2 = .ok (.aload_n 0, 1) := by decide +kernel
theorem d_La_firstFault_3 : decode b_La_firstFault 3 = .ok (.iconst 0, 1) := by decide +kernel
theorem d_La_firstFault_4 : decode b_La_firstFault 4 = .ok (.putfield 33, 3) := by decide +kernel
theorem d_La_firstFault_7 : decode b_La_firstFault 7 = .ok (.iconst 0, 1) := by decide +kernel
theorem d_La_firstFault_8 : decode b_La_firstFault 8 = .ok (.istore_n 2, 1) := by decide +kernel
theorem d_La_firstFault_9 : decode b_La_firstFault 9 = .ok (.iload_n 2, 1) := by decide +kernel
theorem d_La_firstFault_10 : decode b_La_firstFault 10 = .ok (.bipush 16, 2) := by decide +kernel
theorem d_La_firstFault_12 : decode b_La_firstFault 12 = .ok (.if_icmp .ge 72, 3) := by decide +kernel
theorem d_La_firstFault_15 : decode b_La_firstFault 15 = .ok (.iload_n 1, 1) := by decide +kernel
theorem d_La_firstFault_16 : decode b_La_firstFault 16 = .ok (.aload_n 0, 1) := by decide +kernel
theorem d_La_firstFault_17 : decode b_La_firstFault 17 = .ok (.getfield 9, 3) := by decide +kernel
theorem d_La_firstFault_20 : decode b_La_firstFault 20 = .ok (.getfield 37, 3) := by decide +kernel
theorem d_La_firstFault_23 : decode b_La_firstFault 23 = .ok (.if_icmp .ge 61, 3) := by decide +kernel
theorem d_La_firstFault_26 : decode b_La_firstFault 26 = .ok (.aload_n 0, 1) := by decide +kernel
theorem d_La_firstFault_27 : decode b_La_firstFault 27 = .ok (.getfield 28, 3) := by decide +kernel
theorem d_La_firstFault_30 : decode b_La_firstFault 30 = .ok (.iload_n 2, 1) := by decide +kernel
theorem d_La_firstFault_31 : decode b_La_firstFault 31 = .ok (.aaload, 1) := by decide +kernel
theorem d_La_firstFault_32 : decode b_La_firstFault 32 = .ok (.astore_n 3, 1) := by decide +kernel
theorem d_La_firstFault_33 : decode b_La_firstFault 33 = .ok (.aload_n 0, 1) := by decide +kernel
theorem d_La_firstFault_34 : decode b_La_firstFault 34 = .ok (.aload_n 3, 1) := by decide +kernel
theorem d_La_firstFault_35 : decode b_La_firstFault 35 = .ok (.iload_n 1, 1) := by decide +kernel
theorem d_La_firstFault_36 : decode b_La_firstFault 36 = .ok (.invokevirtual 42, 3) := by decide +kernel
theorem d_La_firstFault_39 : decode b_La_firstFault 39 = .ok (.istore 4, 2) := by decide +kernel
theorem d_La_firstFault_41 : decode b_La_firstFault 41 = .ok (.iload 4, 2) := by decide +kernel
theorem d_La_firstFault_43 : decode b_La_firstFault 43 = .ok (.iconst (-1), 1) := by decide +kernel
theorem d_La_firstFault_44 : decode b_La_firstFault 44 = .ok (.if_icmp .ne 10, 3) := by decide +kernel
theorem d_La_firstFault_47 : decode b_La_firstFault 47 = .ok (.aload_n 0, 1) := by decide +kernel
theorem d_La_firstFault_48 : decode b_La_firstFault 48 = .ok (.aload_n 3, 1) := by decide +kernel
theorem d_La_firstFault_49 : decode b_La_firstFault 49 = .ok (.invokevirtual 46, 3) := by decide +kernel
theorem d_La_firstFault_52 : decode b_La_firstFault 52 = .ok (.istore 4, 2) := by decide +kernel
theorem d_La_firstFault_54 : decode b_La_firstFault 54 = .ok (.iload 4, 2) := by decide +kernel
theorem d_La_firstFault_56 : decode b_La_firstFault 56 = .ok (.iconst (-1), 1) := by decide +kernel
theorem d_La_firstFault_57 : decode b_La_firstFault 57 = .ok (.if_icmp .eq 6, 3) := by decide +kernel
theorem d_La_firstFault_60 : decode b_La_firstFault 60 = .ok (.iload 4, 2) := by decide +kernel
theorem d_La_firstFault_62 : decode b_La_firstFault 62 = .ok (.ireturn, 1) := by decide +kernel
theorem d_La_firstFault_63 : decode b_La_firstFault 63 = .ok (.aload_n 3, 1) := by decide +kernel
theorem d_La_firstFault_64 : decode b_La_firstFault 64 = .ok (.getfield 50, 3) := by decide +kernel
theorem d_La_firstFault_67 : decode b_La_firstFault 67 = .ok (.istore_n 1, 1) := by decide +kernel
theorem d_La_firstFault_68 : decode b_La_firstFault 68 = .ok (.aload_n 0, 1) := by decide +kernel
theorem d_La_firstFault_69 : decode b_La_firstFault 69 = .ok (.dup, 1) := by decide +kernel
theorem d_La_firstFault_70 : decode b_La_firstFault 70 = .ok (.getfield 33, 3) := by decide +kernel
theorem d_La_firstFault_73 : decode b_La_firstFault 73 = .ok (.iconst 1, 1) := by decide +kernel
theorem d_La_firstFault_74 : decode b_La_firstFault 74 = .ok (.iadd, 1) := by decide +kernel
theorem d_La_firstFault_75 : decode b_La_firstFault 75 = .ok (.putfield 33, 3) := by decide +kernel
theorem d_La_firstFault_78 : decode b_La_firstFault 78 = .ok (.iinc 2 1, 3) := by decide +kernel
theorem d_La_firstFault_81 : decode b_La_firstFault 81 = .ok (.goto (-72), 3) := by decide +kernel
theorem d_La_firstFault_84 : decode b_La_firstFault 84 = .ok (.iload_n 1, 1) := by decide +kernel
theorem d_La_firstFault_85 : decode b_La_firstFault 85 = .ok (.aload_n 0, 1) := by decide +kernel
theorem d_La_firstFault_86 : decode b_La_firstFault 86 = .ok (.getfield 9, 3) := by decide +kernel
theorem d_La_firstFault_89 : decode b_La_firstFault 89 = .ok (.getfield 37, 3) := by decide +kernel
theorem d_La_firstFault_92 : decode b_La_firstFault 92 = .ok (.if_icmp .ge 7, 3) := by decide +kernel
theorem d_La_firstFault_95 : decode b_La_firstFault 95 = .ok (.iload_n 1, 1) := by decide +kernel
theorem d_La_firstFault_96 : decode b_La_firstFault 96 = .ok (.goto 4, 3) := by decide +kernel
theorem d_La_firstFault_99 : decode b_La_firstFault 99 = .ok (.iconst (-1), 1) := by decide +kernel
theorem d_La_firstFault_100 : decode b_La_firstFault 100 = .ok (.ireturn, 1) := by decide +kernel
theorem d_Ij_compare_0 : decode b_Ij_compare 0 = .ok (.iload_n 0, 1) := by decide +kernel
theorem d_Ij_compare_1 : decode b_Ij_compare 1 = .ok (.iload_n 1, 1) := by decide +kernel
theorem d_Ij_compare_2 : decode b_Ij_compare 2 = .ok (.if_icmp .ge 7, 3) := by decide +kernel
theorem d_Ij_compare_5 : decode b_Ij_compare 5 = .ok (.iconst (-1), 1) := by decide +kernel
theorem d_Ij_compare_6 : decode b_Ij_compare 6 = .ok (.goto 13, 3) := by decide +kernel
theorem d_Ij_compare_9 : decode b_Ij_compare 9 = .ok (.iload_n 0, 1) := by decide +kernel
theorem d_Ij_compare_10 : decode b_Ij_compare 10 = .ok (.iload_n 1, 1) := by decide +kernel
theorem d_Ij_compare_11 : decode b_Ij_compare 11 = .ok (.if_icmp .ne 7, 3) := by decide +kernel
theorem d_Ij_compare_14 : decode b_Ij_compare 14 = .ok (.iconst 0, 1) := by decide +kernel
theorem d_Ij_compare_15 : decode b_Ij_compare 15 = .ok (.goto 4, 3) := by decide +kernel
theorem d_Ij_compare_18 : decode b_Ij_compare 18 = .ok (.iconst 1, 1) := by decide +kernel
theorem d_Ij_compare_19 : decode b_Ij_compare 19 = .ok (.ireturn, 1) := by decide +kernel
theorem d_Ij_compareUnsigned_0 : decode b_Ij_compareUnsigned 0 = .ok (.iload_n 0, 1) := by decide +kernel
theorem d_Ij_compareUnsigned_1 : decode b_Ij_compareUnsigned 1 = .ok (.ldc 127, 2) := by decide +kernel
theorem d_Ij_compareUnsigned_3 : decode b_Ij_compareUnsigned 3 = .ok (.iadd, 1) := by decide +kernel
theorem d_Ij_compareUnsigned_4 : decode b_Ij_compareUnsigned 4 = .ok (.iload_n 1, 1) := by decide +kernel
theorem d_Ij_compareUnsigned_5 : decode b_Ij_compareUnsigned 5 = .ok (.ldc 127, 2) := by decide +kernel
theorem d_Ij_compareUnsigned_7 : decode b_Ij_compareUnsigned 7 = .ok (.iadd, 1) := by decide +kernel
theorem d_Ij_compareUnsigned_8 : decode b_Ij_compareUnsigned 8 = .ok (.invokestatic 259, 3) := by decide +kernel
theorem d_Ij_compareUnsigned_11 : decode b_Ij_compareUnsigned 11 = .ok (.ireturn, 1) := by decide +kernel
theorem d_Tr_remember_0 : decode b_Tr_remember 0 = .ok (.aload_n 0, 1) := by decide +kernel
theorem d_Tr_remember_1 : decode b_Tr_remember 1 = .ok (.getfield 36, 3) := by decide +kernel
theorem d_Tr_remember_4 : decode b_Tr_remember 4 = .ok (.iconst 4, 1) := by decide +kernel
theorem d_Tr_remember_5 : decode b_Tr_remember 5 = .ok (.if_icmp .ge 29, 3) := by decide +kernel
theorem d_Tr_remember_8 : decode b_Tr_remember 8 = .ok (.aload_n 0, 1) := by decide +kernel
theorem d_Tr_remember_9 : decode b_Tr_remember 9 = .ok (.getfield 32, 3) := by decide +kernel
theorem d_Tr_remember_12 : decode b_Tr_remember 12 = .ok (.aload_n 0, 1) := by decide +kernel
theorem d_Tr_remember_13 : decode b_Tr_remember 13 = .ok (.getfield 36, 3) := by decide +kernel
theorem d_Tr_remember_16 : decode b_Tr_remember 16 = .ok (.aaload, 1) := by decide +kernel
theorem d_Tr_remember_17 : decode b_Tr_remember 17 = .ok (.aload_n 0, 1) := by decide +kernel
theorem d_Tr_remember_18 : decode b_Tr_remember 18 = .ok (.getfield 25, 3) := by decide +kernel
theorem d_Tr_remember_21 : decode b_Tr_remember 21 = .ok (.invokevirtual 56, 3) := by decide +kernel
theorem d_Tr_remember_24 : decode b_Tr_remember 24 = .ok (.aload_n 0, 1) := by decide +kernel
theorem d_Tr_remember_25 : decode b_Tr_remember 25 = .ok (.dup, 1) := by decide +kernel
theorem d_Tr_remember_26 : decode b_Tr_remember 26 = .ok (.getfield 36, 3) := by decide +kernel
theorem d_Tr_remember_29 : decode b_Tr_remember 29 = .ok (.iconst 1, 1) := by decide +kernel
theorem d_Tr_remember_30 : decode b_Tr_remember 30 = .ok (.iadd, 1) := by decide +kernel
theorem d_Tr_remember_31 : decode b_Tr_remember 31 = .ok (.putfield 36, 3) := by decide +kernel
theorem d_Tr_remember_34 : decode b_Tr_remember 34 = .ok (.return_, 1) := by decide +kernel
theorem d_Tr_takeBack_0 : decode b_Tr_takeBack 0 = .ok (.aload_n 0, 1) := by decide +kernel
theorem d_Tr_takeBack_1 : decode b_Tr_takeBack 1 = .ok (.getfield 36, 3) := by decide +kernel
theorem d_Tr_takeBack_4 : decode b_Tr_takeBack 4 = .ok (.ifCond .le 29, 3) := by decide +kernel
theorem d_Tr_takeBack_7 : decode b_Tr_takeBack 7 = .ok (.aload_n 0, 1) := by decide +kernel
theorem d_Tr_takeBack_8 : decode b_Tr_takeBack 8 = .ok (.dup, 1) := by decide +kernel
theorem d_Tr_takeBack_9 : decode b_Tr_takeBack 9 = .ok (.getfield 36, 3) := by decide +kernel
theorem d_Tr_takeBack_12 : decode b_Tr_takeBack 12 = .ok (.iconst 1, 1) := by decide +kernel
theorem d_Tr_takeBack_13 : decode b_Tr_takeBack 13 = .ok (.isub, 1) := by decide +kernel
theorem d_Tr_takeBack_14 : decode b_Tr_takeBack 14 = .ok (.putfield 36, 3) := by decide +kernel
theorem d_Tr_takeBack_17 : decode b_Tr_takeBack 17 = .ok (.aload_n 0, 1) := by decide +kernel
theorem d_Tr_takeBack_18 : decode b_Tr_takeBack 18 = .ok (.getfield 25, 3) := by decide +kernel
theorem d_Tr_takeBack_21 : decode b_Tr_takeBack 21 = .ok (.aload_n 0, 1) := by decide +kernel
theorem d_Tr_takeBack_22 : decode b_Tr_takeBack 22 = .ok (.getfield 32, 3) := by decide +kernel
theorem d_Tr_takeBack_25 : decode b_Tr_takeBack 25 = .ok (.aload_n 0, 1) := by decide +kernel
theorem d_Tr_takeBack_26 : decode b_Tr_takeBack 26 = .ok (.getfield 36, 3) := by decide +kernel
theorem d_Tr_takeBack_29 : decode b_Tr_takeBack 29 = .ok (.aaload, 1) := by decide +kernel
theorem d_Tr_takeBack_30 : decode b_Tr_takeBack 30 = .ok (.invokevirtual 56, 3) := by decide +kernel
theorem d_Tr_takeBack_33 : decode b_Tr_takeBack 33 = .ok (.return_, 1) := by decide +kernel
