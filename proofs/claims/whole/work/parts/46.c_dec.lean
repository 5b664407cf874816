theorem d_En_init_0 : decode b_En_init 0 = .ok (.aload_n 0, 1) := by decide +kernel
theorem d_En_init_1 : decode b_En_init 1 = .ok (.invokespecial 1, 3) := by decide +kernel
theorem d_En_init_4 : decode b_En_init 4 = .ok (.return_, 1) := by decide +kernel
theorem d_In_init_0 : decode b_In_init 0 = .ok (.aload_n 0, 1) := by decide +kernel
theorem d_In_init_1 : decode b_In_init 1 = .ok (.invokespecial 3, 3) := by decide +kernel
theorem d_In_init_4 : decode b_In_init 4 = .ok (.return_, 1) := by decide +kernel
theorem d_Se_init_0 : decode b_Se_init 0 = .ok (.aload_n 0, 1) := by decide +kernel
theorem d_Se_init_1 : decode b_Se_init 1 = .ok (.invokespecial 3, 3) := by decide +kernel
theorem d_Se_init_4 : decode b_Se_init 4 = .ok (.aload_n 0, 1) := by decide +kernel
theorem d_Se_init_5 : decode b_Se_init 5 = .ok (.sipush 512, 3) := by decide +kernel
theorem d_Se_init_8 : decode b_Se_init 8 = .ok (.newarray .byte, 2) := by decide +kernel
theorem d_Se_init_10 : decode b_Se_init 10 = .ok (.putfield 9, 3) := by decide +kernel
theorem d_Se_init_13 : decode b_Se_init 13 = .ok (.return_, 1) := by decide +kernel
theorem d_Rd_init_0 : decode b_Rd_init 0 = .ok (.aload_n 0, 1) := by decide +kernel
theorem d_Rd_init_1 : decode b_Rd_init 1 = .ok (.invokespecial 1, 3) := by decide +kernel
theorem d_Rd_init_4 : decode b_Rd_init 4 = .ok (.aload_n 0, 1) := by decide +kernel
theorem d_Rd_init_5 : decode b_Rd_init 5 = .ok (.aload_n 1, 1) := by decide +kernel
theorem d_Rd_init_6 : decode b_Rd_init 6 = .ok (.putfield 7, 3) := by decide +kernel
theorem d_Rd_init_9 : decode b_Rd_init 9 = .ok (.return_, 1) := by decide +kernel
theorem d_Me_init_0 : decode b_Me_init 0 = .ok (.aload_n 0, 1) := by decide +kernel
theorem d_Me_init_1 : decode b_Me_init 1 = .ok (.invokespecial 3, 3) := by decide +kernel
theorem d_Me_init_4 : decode b_Me_init 4 = .ok (.aload_n 0, 1) := by decide +kernel
theorem d_Me_init_5 : decode b_Me_init 5 = .ok (.sipush 256, 3) := by decide +kernel
theorem d_Me_init_8 : decode b_Me_init 8 = .ok (.newarray .int, 2) := by decide +kernel
theorem d_Me_init_10 : decode b_Me_init 10 = .ok (.putfield 9, 3) := by decide +kernel
theorem d_Me_init_13 : decode b_Me_init 13 = .ok (.return_, 1) := by decide +kernel
theorem d_Fr_init_0 : decode b_Fr_init 0 = .ok (.aload_n 0, 1) := by decide +kernel
theorem d_Fr_init_1 : decode b_Fr_init 1 = .ok (.invokespecial 3, 3) := by decide +kernel
theorem d_Fr_init_4 : decode b_Fr_init 4 = .ok (.aload_n 0, 1) := by decide +kernel
theorem d_Fr_init_5 : decode b_Fr_init 5 = .ok (.bipush 8, 2) := by decide +kernel
theorem d_Fr_init_7 : decode b_Fr_init 7 = .ok (.newarray .int, 2) := by decide +kernel
theorem d_Fr_init_9 : decode b_Fr_init 9 = .ok (.putfield 9, 3) := by decide +kernel
theorem d_Fr_init_12 : decode b_Fr_init 12 = .ok (.aload_n 0, 1) := by decide +kernel
theorem d_Fr_init_13 : decode b_Fr_init 13 = .ok (.sipush 255, 3) := by decide +kernel
theorem d_Fr_init_16 : decode b_Fr_init 16 = .ok (.putfield 15, 3) := by decide +kernel
theorem d_Fr_init_19 : decode b_Fr_init 19 = .ok (.return_, 1) := by decide +kernel
theorem d_Ro_init_0 : decode b_Ro_init 0 = .ok (.aload_n 0, 1) := by decide +kernel
theorem d_Ro_init_1 : decode b_Ro_init 1 = .ok (.invokespecial 3, 3) := by decide +kernel
theorem d_Ro_init_4 : decode b_Ro_init 4 = .ok (.aload_n 0, 1) := by decide +kernel
theorem d_Ro_init_5 : decode b_Ro_init 5 = .ok (.bipush 9, 2) := by decide +kernel
theorem d_Ro_init_7 : decode b_Ro_init 7 = .ok (.newarray .int, 2) := by decide +kernel
theorem d_Ro_init_9 : decode b_Ro_init 9 = .ok (.putfield 11, 3) := by decide +kernel
theorem d_Ro_init_12 : decode b_Ro_init 12 = .ok (.aload_n 0, 1) := by decide +kernel
theorem d_Ro_init_13 : decode b_Ro_init 13 = .ok (.bipush 9, 2) := by decide +kernel
theorem d_Ro_init_15 : decode b_Ro_init 15 = .ok (.newarray .int, 2) := by decide +kernel
theorem d_Ro_init_17 : decode b_Ro_init 17 = .ok (.putfield 15, 3) := by decide +kernel
theorem d_Ro_init_20 : decode b_Ro_init 20 = .ok (.aload_n 0, 1) := by decide +kernel
theorem d_Ro_init_21 : decode b_Ro_init 21 = .ok (.bipush 9, 2) := by decide +kernel
theorem d_Ro_init_23 : decode b_Ro_init 23 = .ok (.newarray .int, 2) := by decide +kernel
theorem d_Ro_init_25 : decode b_Ro_init 25 = .ok (.putfield 18, 3) := by decide +kernel
theorem d_Ro_init_28 : decode b_Ro_init 28 = .ok (.return_, 1) := by decide +kernel
theorem d_La_init_0 : decode b_La_init 0 = .ok (.aload_n 0, 1) := by decide +kernel
theorem d_La_init_1 : decode b_La_init 1 = .ok (.invokespecial 3, 3) := by decide +kernel
theorem d_La_init_4 : decode b_La_init 4 = .ok (.aload_n 0, 1) := by decide +kernel
theorem d_La_init_5 : decode b_La_init 5 = .ok (.aload_n 1, 1) := by decide +kernel
theorem d_La_init_6 : decode b_La_init 6 = .ok (.putfield 9, 3) := by decide +kernel
theorem d_La_init_9 : decode b_La_init 9 = .ok (.aload_n 0, 1) := by decide +kernel
theorem d_La_init_10 : decode b_La_init 10 = .ok (.aload_n 2, 1) := by decide +kernel
theorem d_La_init_11 : decode b_La_init 11 = .ok (.putfield 15, 3) := by decide +kernel
theorem d_La_init_14 : decode b_La_init 14 = .ok (.aload_n 0, 1) := by decide +kernel
theorem d_La_init_15 : decode b_La_init 15 = .ok (.new 19, 3) := by decide +kernel
theorem d_La_init_18 : decode b_La_init 18 = .ok (.dup, 1) := by decide +kernel
theorem d_La_init_19 : decode b_La_init 19 = .ok (.invokespecial 21, 3) := by decide +kernel
theorem d_La_init_22 : decode b_La_init 22 = .ok (.putfield 22, 3) := by decide +kernel
theorem d_La_init_25 : decode b_La_init 25 = .ok (.aload_n 0, 1) := by decide +kernel
theorem d_La_init_26 : decode b_La_init 26 = .ok (.bipush 16, 2) := by decide +kernel
theorem d_La_init_28 : decode b_La_init 28 = .ok (.anewarray 26, 3) := by decide +kernel
theorem d_La_init_31 : decode b_La_init 31 = .ok (.putfield 28, 3) := by decide +kernel
theorem d_La_init_34 : decode b_La_init 34 = .ok (.iconst 0, 1) := by decide +kernel
theorem d_La_init_35 : decode b_La_init 35 = .ok (.istore_n 3, 1) := by decide +kernel
theorem d_La_init_36 : decode b_La_init 36 = .ok (.iload_n 3, 1) := by decide +kernel
theorem d_La_init_37 : decode b_La_init 37 = .ok (.bipush 16, 2) := by decide +kernel
theorem d_La_init_39 : decode b_La_init 39 = .ok (.if_icmp .ge 22, 3) := by decide +kernel
theorem d_La_init_42 : decode b_La_init 42 = .ok (.aload_n 0, 1) := by decide +kernel
theorem d_La_init_43 : decode b_La_init 43 = .ok (.getfield 28, 3) := by decide +kernel
theorem d_La_init_46 : decode b_La_init 46 = .ok (.iload_n 3, 1) := by decide +kernel
theorem d_La_init_47 : decode b_La_init 47 = .ok (.new 26, 3) := by decide +kernel
theorem d_La_init_50 : decode b_La_init 50 = .ok (.dup, 1) := by decide +kernel
theorem d_La_init_51 : decode b_La_init 51 = .ok (.invokespecial 32, 3) := by decide +kernel
theorem d_La_init_54 : decode b_La_init 54 = .ok (.aastore, 1) := by decide +kernel
theorem d_La_init_55 : decode b_La_init 55 = .ok (.iinc 3 1, 3) := by decide +kernel
theorem d_La_init_58 : decode b_La_init 58 = .ok (.goto (-22), 3) := by decide +kernel
theorem d_La_init_61 : decode b_La_init 61 = .ok (.return_, 1) := by decide +kernel
theorem d_Tr_init_0 : decode b_Tr_init 0 = .ok (.aload_n 0, 1) := by decide +kernel
theorem d_Tr_init_1 : decode b_Tr_init 1 = .ok (.invokespecial 3, 3) := by decide +kernel
theorem d_Tr_init_4 : decode b_Tr_init 4 = .ok (.aload_n 0, 1) := by decide +kernel
theorem d_Tr_init_5 : decode b_Tr_init 5 = .ok (.aload_n 1, 1) := by decide +kernel
theorem d_Tr_init_6 : decode b_Tr_init 6 = .ok (.putfield 9, 3) := by decide +kernel
theorem d_Tr_init_9 : decode b_Tr_init 9 = .ok (.aload_n 0, 1) := by decide +kernel
theorem d_Tr_init_10 : decode b_Tr_init 10 = .ok (.new 15, 3) := by decide +kernel
theorem d_Tr_init_13 : decode b_Tr_init 13 = .ok (.dup, 1) := by decide +kernel
theorem d_Tr_init_14 : decode b_Tr_init 14 = .ok (.invokespecial 17, 3) := by decide +kernel
theorem d_Tr_init_17 : decode b_Tr_init 17 = .ok (.putfield 18, 3) := by decide +kernel
theorem d_Tr_init_20 : decode b_Tr_init 20 = .ok (.aload_n 0, 1) := by decide +kernel
theorem d_Tr_init_21 : decode b_Tr_init 21 = .ok (.new 22, 3) := by decide +kernel
theorem d_Tr_init_24 : decode b_Tr_init 24 = .ok (.dup, 1) := by decide +kernel
theorem d_Tr_init_25 : decode b_Tr_init 25 = .ok (.invokespecial 24, 3) := by decide +kernel
theorem d_Tr_init_28 : decode b_Tr_init 28 = .ok (.putfield 25, 3) := by decide +kernel
theorem d_Tr_init_31 : decode b_Tr_init 31 = .ok (.aload_n 0, 1) := by decide +kernel
theorem d_Tr_init_32 : decode b_Tr_init 32 = .ok (.new 22, 3) := by decide +kernel
theorem d_Tr_init_35 : decode b_Tr_init 35 = .ok (.dup, 1) := by decide +kernel
theorem d_Tr_init_36 : decode b_Tr_init 36 = .ok (.invokespecial 24, 3) := by decide +kernel
theorem d_Tr_init_39 : decode b_Tr_init 39 = .ok (.putfield 29, 3) := by decide +kernel
theorem d_Tr_init_42 : decode b_Tr_init 42 = .ok (.aload_n 0, 1) := by decide +kernel
theorem d_Tr_init_43 : decode b_Tr_init 43 = .ok (.iconst 4, 1) := by decide +kernel
theorem d_Tr_init_44 : decode b_Tr_init 44 = .ok (.anewarray 22, 3) := by decide +kernel
theorem d_Tr_init_47 : decode b_Tr_init 47 = .ok (.putfield 32, 3) := by decide +kernel
theorem d_Tr_init_50 : decode b_Tr_init 50 = .ok (.iconst 0, 1) := by decide +kernel
theorem d_Tr_init_51 : decode b_Tr_init 51 = .ok (.istore_n 2, 1) := by decide +kernel
theorem d_Tr_init_52 : decode b_Tr_init 52 = .ok (.iload_n 2, 1) := by decide +kernel
theorem d_Tr_init_53 : decode b_Tr_init 53 = .ok (.iconst 4, 1) := by decide +kernel
theorem d_Tr_init_54 : decode b_Tr_init 54 = .ok (.if_icmp .ge 22, 3) := by decide +kernel
theorem d_Tr_init_57 : decode b_Tr_init 57 = .ok (.aload_n 0, 1) := by decide +kernel
theorem d_Tr_init_58 : decode b_Tr_init 58 = .ok (.getfield 32, 3) := by decide +kernel
theorem d_Tr_init_61 : decode b_Tr_init 61 = .ok (.iload_n 2, 1) := by decide +kernel
theorem d_Tr_init_62 : decode b_Tr_init 62 = .ok (.new 22, 3) := by decide +kernel
theorem d_Tr_init_65 : decode b_Tr_init 65 = .ok (.dup, 1) := by decide +kernel
theorem d_Tr_init_66 : decode b_Tr_init 66 = .ok (.invokespecial 24, 3) := by decide +kernel
theorem d_Tr_init_69 : decode b_Tr_init 69 = .ok (.aastore, 1) := by decide +kernel
theorem d_Tr_init_70 : decode b_Tr_init 70 = .ok (.iinc 2 1, 3) := by decide +kernel
theorem d_Tr_init_73 : decode b_Tr_init 73 = .ok (.goto (-21), 3) := by decide +kernel
theorem d_Tr_init_76 : decode b_Tr_init 76 = .ok (.return_, 1) := by decide +kernel
theorem d_Rk_init_0 : decode b_Rk_init 0 = .ok (.aload_n 0, 1) := by decide +kernel
theorem d_Rk_init_1 : decode b_Rk_init 1 = .ok (.invokespecial 3, 3) := by decide +kernel
theorem d_Rk_init_4 : decode b_Rk_init 4 = .ok (.aload_n 0, 1) := by decide +kernel
theorem d_Rk_init_5 : decode b_Rk_init 5 = .ok (.aload_n 1, 1) := by decide +kernel
theorem d_Rk_init_6 : decode b_Rk_init 6 = .ok (.putfield 9, 3) := by decide +kernel
theorem d_Rk_init_9 : decode b_Rk_init 9 = .ok (.aload_n 0, 1) := by decide +kernel
theorem d_Rk_init_10 : decode b_Rk_init 10 = .ok (.aload_n 2, 1) := by decide +kernel
theorem d_Rk_init_11 : decode b_Rk_init 11 = .ok (.putfield 15, 3) := by decide +kernel
theorem d_Rk_init_14 : decode b_Rk_init 14 = .ok (.aload_n 0, 1) := by decide +kernel
theorem d_Rk_init_15 : decode b_Rk_init 15 = .ok (.aload_n 3, 1) := by decide +kernel
theorem d_Rk_init_16 : decode b_Rk_init 16 = .ok (.putfield 19, 3) := by decide +kernel
theorem d_Rk_init_19 : decode b_Rk_init 19 = .ok (.aload_n 0, 1) := by decide +kernel
theorem d_Rk_init_20 : decode b_Rk_init 20 = .ok (.bipush 16, 2) := by decide +kernel
theorem d_Rk_init_22 : decode b_Rk_init 22 = .ok (.newarray .int, 2) := by decide +kernel
theorem d_Rk_init_24 : decode b_Rk_init 24 = .ok (.putfield 23, 3) := by decide +kernel
theorem d_Rk_init_27 : decode b_Rk_init 27 = .ok (.return_, 1) := by decide +kernel
theorem d_Fu_init_0 : decode b_Fu_init 0 = .ok (.aload_n 0, 1) := by decide +kernel
theorem d_Fu_init_1 : decode b_Fu_init 1 = .ok (.invokespecial 1, 3) := by decide +kernel
theorem d_Fu_init_4 : decode b_Fu_init 4 = .ok (.aload_n 0, 1) := by decide +kernel
theorem d_Fu_init_5 : decode b_Fu_init 5 = .ok (.new 7, 3) := by decide +kernel
theorem d_Fu_init_8 : decode b_Fu_init 8 = .ok (.dup, 1) := by decide +kernel
theorem d_Fu_init_9 : decode b_Fu_init 9 = .ok (.invokespecial 9, 3) := by decide +kernel
theorem d_Fu_init_12 : decode b_Fu_init 12 = .ok (.putfield 10, 3) := by decide +kernel
theorem d_Fu_init_15 : decode b_Fu_init 15 = .ok (.new 16, 3) := by decide +kernel
theorem d_Fu_init_18 : decode b_Fu_init 18 = .ok (.dup, 1) := by decide +kernel
theorem d_Fu_init_19 : decode b_Fu_init 19 = .ok (.aload_n 0, 1) := by decide +kernel
theorem d_Fu_init_20 : decode b_Fu_init 20 = .ok (.getfield 10, 3) := by decide +kernel
theorem d_Fu_init_23 : decode b_Fu_init 23 = .ok (.getfield 18, 3) := by decide +kernel
theorem d_Fu_init_26 : decode b_Fu_init 26 = .ok (.invokespecial 22, 3) := by decide +kernel
theorem d_Fu_init_29 : decode b_Fu_init 29 = .ok (.astore_n 1, 1) := by decide +kernel
theorem d_Fu_init_30 : decode b_Fu_init 30 = .ok (.aload_n 0, 1) := by decide +kernel
theorem d_Fu_init_31 : decode b_Fu_init 31 = .ok (.new 25, 3) := by decide +kernel
theorem d_Fu_init_34 : decode b_Fu_init 34 = .ok (.dup, 1) := by decide +kernel
theorem d_Fu_init_35 : decode b_Fu_init 35 = .ok (.aload_n 0, 1) := by decide +kernel
theorem d_Fu_init_36 : decode b_Fu_init 36 = .ok (.getfield 10, 3) := by decide +kernel
theorem d_Fu_init_39 : decode b_Fu_init 39 = .ok (.aload_n 1, 1) := by decide +kernel
theorem d_Fu_init_40 : decode b_Fu_init 40 = .ok (.invokespecial 27, 3) := by decide +kernel
theorem d_Fu_init_43 : decode b_Fu_init 43 = .ok (.putfield 30, 3) := by decide +kernel
theorem d_Fu_init_46 : decode b_Fu_init 46 = .ok (.aload_n 0, 1) := by decide +kernel
theorem d_Fu_init_47 : decode b_Fu_init 47 = .ok (.new 34, 3) := by decide +kernel
theorem d_Fu_init_50 : decode b_Fu_init 50 = .ok (.dup, 1) := by decide +kernel
theorem d_Fu_init_51 : decode b_Fu_init 51 = .ok (.aload_n 1, 1) := by decide +kernel
theorem d_Fu_init_52 : decode b_Fu_init 52 = .ok (.invokespecial 36, 3) := by decide +kernel
theorem d_Fu_init_55 : decode b_Fu_init 55 = .ok (.putfield 39, 3) := by decide +kernel
theorem d_Fu_init_58 : decode b_Fu_init 58 = .ok (.aload_n 0, 1) := by decide +kernel
theorem d_Fu_init_59 : decode b_Fu_init 59 = .ok (.new 43, 3) := by decide +kernel
theorem d_Fu_init_62 : decode b_Fu_init 62 = .ok (.dup, 1) := by decide +kernel
theorem d_Fu_init_63 : decode b_Fu_init 63 = .ok (.invokespecial 45, 3) := by decide +kernel
theorem d_Fu_init_66 : decode b_Fu_init 66 = .ok (.putfield 46, 3) := by decide +kernel
theorem d_Fu_init_69 : decode b_Fu_init 69 = .ok (.aload_n 0, 1) := by decide +kernel
theorem d_Fu_init_70 : decode b_Fu_init 70 = .ok (.new 50, 3) := by decide +kernel
theorem d_Fu_init_73 : decode b_Fu_init 73 = .ok (.dup, 1) := by decide +kernel
theorem d_Fu_init_74 : decode b_Fu_init 74 = .ok (.invokespecial 52, 3) := by decide +kernel
theorem d_Fu_init_77 : decode b_Fu_init 77 = .ok (.putfield 53, 3) := by decide +kernel
theorem d_Fu_init_80 : decode b_Fu_init 80 = .ok (.aload_n 0, 1) := by decide +kernel
theorem d_Fu_init_81 : decode b_Fu_init 81 = .ok (.new 50, 3) := by decide +kernel
theorem d_Fu_init_84 : decode b_Fu_init 84 = .ok (.dup, 1) := by decide +kernel
theorem d_Fu_init_85 : decode b_Fu_init 85 = .ok (.invokespecial 52, 3) := by decide +kernel
theorem d_Fu_init_88 : decode b_Fu_init 88 = .ok (.putfield 57, 3) := by decide +kernel
theorem d_Fu_init_91 : decode b_Fu_init 91 = .ok (.aload_n 0, 1) := by decide +kernel
theorem d_Fu_init_92 : decode b_Fu_init 92 = .ok (.new 60, 3) := by decide +kernel
theorem d_Fu_init_95 : decode b_Fu_init 95 = .ok (.dup, 1) := by decide +kernel
theorem d_Fu_init_96 : decode b_Fu_init 96 = .ok (.aload_n 1, 1) := by decide +kernel
theorem d_Fu_init_97 : decode b_Fu_init 97 = .ok (.aload_n 0, 1) := by decide +kernel
theorem d_Fu_init_98 : decode b_Fu_init 98 = .ok (.getfield 46, 3) := by decide +kernel
theorem d_Fu_init_101 : decode b_Fu_init 101 = .ok (.aload_n 0, 1) := by decide +kernel
theorem d_Fu_init_102 : decode b_Fu_init 102 = .ok (.getfield 53, 3) := by decide +kernel
theorem d_Fu_init_105 : decode b_Fu_init 105 = .ok (.invokespecial 62, 3) := by decide +kernel
theorem d_Fu_init_108 : decode b_Fu_init 108 = .ok (.putfield 65, 3) := by decide +kernel
theorem d_Fu_init_111 : decode b_Fu_init 111 = .ok (.aload_n 0, 1) := by decide +kernel
theorem d_Fu_init_112 : decode b_Fu_init 112 = .ok (.iconst 0, 1) := by decide +kernel
theorem d_Fu_init_113 : decode b_Fu_init 113 = .ok (.putfield 69, 3) := by decide +kernel
theorem d_Fu_init_116 : decode b_Fu_init 116 = .ok (.return_, 1) := by decide +kernel
theorem d_Md_init_0 : decode b_Md_init 0 = .ok (.aload_n 0, 1) := by decide +kernel
theorem d_Md_init_1 : decode b_Md_init 1 = .ok (.invokespecial 1, 3) := by decide +kernel
theorem d_Md_init_4 : decode b_Md_init 4 = .ok (.aload_n 0, 1) := by decide +kernel
theorem d_Md_init_5 : decode b_Md_init 5 = .ok (.sipush 512, 3) := by decide +kernel
theorem d_Md_init_8 : decode b_Md_init 8 = .ok (.newarray .int, 2) := by decide +kernel
theorem d_Md_init_10 : decode b_Md_init 10 = .ok (.putfield 7, 3) := by decide +kernel
theorem d_Md_init_13 : decode b_Md_init 13 = .ok (.aload_n 0, 1) := by decide +kernel
theorem d_Md_init_14 : decode b_Md_init 14 = .ok (.bipush 16, 2) := by decide +kernel
theorem d_Md_init_16 : decode b_Md_init 16 = .ok (.newarray .int, 2) := by decide +kernel
theorem d_Md_init_18 : decode b_Md_init 18 = .ok (.putfield 13, 3) := by decide +kernel
theorem d_Md_init_21 : decode b_Md_init 21 = .ok (.aload_n 0, 1) := by decide +kernel
theorem d_Md_init_22 : decode b_Md_init 22 = .ok (.bipush 16, 2) := by decide +kernel
theorem d_Md_init_24 : decode b_Md_init 24 = .ok (.newarray .boolean, 2) := by decide +kernel
theorem d_Md_init_26 : decode b_Md_init 26 = .ok (.putfield 16, 3) := by decide +kernel
theorem d_Md_init_29 : decode b_Md_init 29 = .ok (.aload_n 0, 1) := by decide +kernel
theorem d_Md_init_30 : decode b_Md_init 30 = .ok (.bipush 16, 2) := by decide +kernel
theorem d_Md_init_32 : decode b_Md_init 32 = .ok (.newarray .int, 2) := by decide +kernel
theorem d_Md_init_34 : decode b_Md_init 34 = .ok (.putfield 20, 3) := by decide +kernel
theorem d_Md_init_37 : decode b_Md_init 37 = .ok (.aload_n 0, 1) := by decide +kernel
theorem d_Md_init_38 : decode b_Md_init 38 = .ok (.bipush 16, 2) := by decide +kernel
theorem d_Md_init_40 : decode b_Md_init 40 = .ok (.newarray .int, 2) := by decide +kernel
theorem d_Md_init_42 : decode b_Md_init 42 = .ok (.putfield 23, 3) := by decide +kernel
theorem d_Md_init_45 : decode b_Md_init 45 = .ok (.aload_n 0, 1) := by decide +kernel
theorem d_Md_init_46 : decode b_Md_init 46 = .ok (.bipush 16, 2) := by decide +kernel
theorem d_Md_init_48 : decode b_Md_init 48 = .ok (.newarray .int, 2) := by decide +kernel
theorem d_Md_init_50 : decode b_Md_init 50 = .ok (.putfield 26, 3) := by decide +kernel
theorem d_Md_init_53 : decode b_Md_init 53 = .ok (.aload_n 0, 1) := by decide +kernel
theorem d_Md_init_54 : decode b_Md_init 54 = .ok (.bipush 16, 2) := by decide +kernel
theorem d_Md_init_56 : decode b_Md_init 56 = .ok (.newarray .int, 2) := by decide +kernel
theorem d_Md_init_58 : decode b_Md_init 58 = .ok (.putfield 29, 3) := by decide +kernel
theorem d_Md_init_61 : decode b_Md_init 61 = .ok (.aload_n 0, 1) := by decide +kernel
theorem d_Md_init_62 : decode b_Md_init 62 = .ok (.bipush 16, 2) := by decide +kernel
theorem d_Md_init_64 : decode b_Md_init 64 = .ok (.newarray .int, 2) := by decide +kernel
theorem d_Md_init_66 : decode b_Md_init 66 = .ok (.putfield 32, 3) := by decide +kernel
theorem d_Md_init_69 : decode b_Md_init 69 = .ok (.aload_n 0, 1) := by decide +kernel
theorem d_Md_init_70 : decode b_Md_init 70 = .ok (.bipush 16, 2) := by decide +kernel
theorem d_Md_init_72 : decode b_Md_init 72 = .ok (.newarray .int, 2) := by decide +kernel
theorem d_Md_init_74 : decode b_Md_init 74 = .ok (.putfield 35, 3) := by decide +kernel
theorem d_Md_init_77 : decode b_Md_init 77 = .ok (.aload_n 0, 1) := by decide +kernel
theorem d_Md_init_78 : decode b_Md_init 78 = .ok (.bipush 16, 2) := by decide +kernel
theorem d_Md_init_80 : decode b_Md_init 80 = .ok (.newarray .int, 2) := by decide +kernel
theorem d_Md_init_82 : decode b_Md_init 82 = .ok (.putfield 38, 3) := by decide +kernel
theorem d_Md_init_85 : decode b_Md_init 85 = .ok (.aload_n 0, 1) := by decide +kernel
theorem d_Md_init_86 : decode b_Md_init 86 = .ok (.bipush 16, 2) := by decide +kernel
theorem d_Md_init_88 : decode b_Md_init 88 = .ok (.newarray .int, 2) := by decide +kernel
theorem d_Md_init_90 : decode b_Md_init 90 = .ok (.putfield 41, 3) := by decide +kernel
theorem d_Md_init_93 : decode b_Md_init 93 = .ok (.aload_n 0, 1) := by decide +kernel
theorem d_Md_init_94 : decode b_Md_init 94 = .ok (.bipush 27, 2) := by decide +kernel
theorem d_Md_init_96 : decode b_Md_init 96 = .ok (.newarray .int, 2) := by decide +kernel
theorem d_Md_init_98 : decode b_Md_init 98 = .ok (.putfield 44, 3) := by decide +kernel
theorem d_Md_init_101 : decode b_Md_init 101 = .ok (.aload_n 0, 1) := by decide +kernel
theorem d_Md_init_102 : decode b_Md_init 102 = .ok (.bipush 27, 2) := by decide +kernel
theorem d_Md_init_104 : decode b_Md_init 104 = .ok (.newarray .int, 2) := by decide +kernel
theorem d_Md_init_106 : decode b_Md_init 106 = .ok (.putfield 47, 3) := by decide +kernel
theorem d_Md_init_109 : decode b_Md_init 109 = .ok (.aload_n 0, 1) := by decide +kernel
theorem d_Md_init_110 : decode b_Md_init 110 = .ok (.bipush 108, 2) := by decide +kernel
theorem d_Md_init_112 : decode b_Md_init 112 = .ok (.newarray .int, 2) := by decide +kernel
theorem d_Md_init_114 : decode b_Md_init 114 = .ok (.putfield 50, 3) := by decide +kernel
theorem d_Md_init_117 : decode b_Md_init 117 = .ok (.aload_n 0, 1) := by decide +kernel
theorem d_Md_init_118 : decode b_Md_init 118 = .ok (.bipush 16, 2) := by decide +kernel
theorem d_Md_init_120 : decode b_Md_init 120 = .ok (.newarray .int, 2) := by decide +kernel
theorem d_Md_init_122 : decode b_Md_init 122 = .ok (.putfield 53, 3) := by decide +kernel
theorem d_Md_init_125 : decode b_Md_init 125 = .ok (.aload_n 0, 1) := by decide +kernel
theorem d_Md_init_126 : decode b_Md_init 126 = .ok (.sipush 256, 3) := by decide +kernel
theorem d_Md_init_129 : decode b_Md_init 129 = .ok (.newarray .int, 2) := by decide +kernel
theorem d_Md_init_131 : decode b_Md_init 131 = .ok (.putfield 56, 3) := by decide +kernel
theorem d_Md_init_134 : decode b_Md_init 134 = .ok (.aload_n 0, 1) := by decide +kernel
theorem d_Md_init_135 : decode b_Md_init 135 = .ok (.bipush 8, 2) := by decide +kernel
theorem d_Md_init_137 : decode b_Md_init 137 = .ok (.newarray .int, 2) := by decide +kernel
theorem d_Md_init_139 : decode b_Md_init 139 = .ok (.putfield 59, 3) := by decide +kernel
theorem d_Md_init_142 : decode b_Md_init 142 = .ok (.aload_n 0, 1) := by decide +kernel
theorem d_Md_init_143 : decode b_Md_init 143 = .ok (.sipush 255, 3) := by decide +kernel
theorem d_Md_init_146 : decode b_Md_init 146 = .ok (.putfield 62, 3) := by decide +kernel
theorem d_Md_init_149 : decode b_Md_init 149 = .ok (.aload_n 0, 1) := by decide +kernel
theorem d_Md_init_150 : decode b_Md_init 150 = .ok (.bipush 8, 2) := by decide +kernel
theorem d_Md_init_152 : decode b_Md_init 152 = .ok (.newarray .int, 2) := by decide +kernel
theorem d_Md_init_154 : decode b_Md_init 154 = .ok (.putfield 66, 3) := by decide +kernel
theorem d_Md_init_157 : decode b_Md_init 157 = .ok (.return_, 1) := by decide +kernel
