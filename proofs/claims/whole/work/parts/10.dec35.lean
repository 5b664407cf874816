theorem d_Md_reckon_0 : decode b_Md_reckon 0 = .ok (.aload_n 0, 1) := by decide +kernel
theorem d_Md_reckon_1 : decode b_Md_reckon 1 = .ok (.iload_n 1, 1) := by decide +kernel
theorem d_Md_reckon_2 : decode b_Md_reckon 2 = .ok (.ifCond .lt 27, 3) := by decide +kernel
theorem d_Md_reckon_5 : decode b_Md_reckon 5 = .ok (.iload_n 2, 1) := by decide +kernel
theorem d_Md_reckon_6 : decode b_Md_reckon 6 = .ok (.iload_n 1, 1) := by decide +kernel
theorem d_Md_reckon_7 : decode b_Md_reckon 7 = .ok (.if_icmp .lt 22, 3) := by decide +kernel
theorem d_Md_reckon_10 : decode b_Md_reckon 10 = .ok (.iload_n 2, 1) := by decide +kernel
theorem d_Md_reckon_11 : decode b_Md_reckon 11 = .ok (.aload_n 0, 1) := by decide +kernel
theorem d_Md_reckon_12 : decode b_Md_reckon 12 = .ok (.getfield 72, 3) := by decide +kernel
theorem d_Md_reckon_15 : decode b_Md_reckon 15 = .ok (.if_icmp .gt 14, 3) := by decide +kernel
theorem d_Md_reckon_18 : decode b_Md_reckon 18 = .ok (.iload_n 3, 1) := by decide +kernel
theorem d_Md_reckon_19 : decode b_Md_reckon 19 = .ok (.iconst 0, 1) := by decide +kernel
theorem d_Md_reckon_20 : decode b_Md_reckon 20 = .ok (.sipush 2000, 3) := by decide +kernel
theorem d_Md_reckon_23 : decode b_Md_reckon 23 = .ok (.invokestatic 75, 3) := by decide +kernel
theorem d_Md_reckon_26 : decode b_Md_reckon 26 = .ok (.ifCond .ne 7, 3) := by decide +kernel
theorem d_Md_reckon_29 : decode b_Md_reckon 29 = .ok (.iconst 1, 1) := by decide +kernel
theorem d_Md_reckon_30 : decode b_Md_reckon 30 = .ok (.goto 4, 3) := by decide +kernel
theorem d_Md_reckon_33 : decode b_Md_reckon 33 = .ok (.iconst 0, 1) := by decide +kernel
theorem d_Md_reckon_34 : decode b_Md_reckon 34 = .ok (.putfield 69, 3) := by decide +kernel
theorem d_Md_reckon_37 : decode b_Md_reckon 37 = .ok (.aload_n 0, 1) := by decide +kernel
theorem d_Md_reckon_38 : decode b_Md_reckon 38 = .ok (.getfield 69, 3) := by decide +kernel
theorem d_Md_reckon_41 : decode b_Md_reckon 41 = .ok (.ifCond .eq 5, 3) := by decide +kernel
theorem d_Md_reckon_44 : decode b_Md_reckon 44 = .ok (.iconst 0, 1) := by decide +kernel
theorem d_Md_reckon_45 : decode b_Md_reckon 45 = .ok (.ireturn, 1) := by decide +kernel
theorem d_Md_reckon_46 : decode b_Md_reckon 46 = .ok (.aload_n 0, 1) := by decide +kernel
theorem d_Md_reckon_47 : decode b_Md_reckon 47 = .ok (.iconst 0, 1) := by decide +kernel
theorem d_Md_reckon_48 : decode b_Md_reckon 48 = .ok (.putfield 164, 3) := by decide +kernel
theorem d_Md_reckon_51 : decode b_Md_reckon 51 = .ok (.aload_n 0, 1) := by decide +kernel
theorem d_Md_reckon_52 : decode b_Md_reckon 52 = .ok (.iload_n 1, 1) := by decide +kernel
theorem d_Md_reckon_53 : decode b_Md_reckon 53 = .ok (.iload_n 2, 1) := by decide +kernel
theorem d_Md_reckon_54 : decode b_Md_reckon 54 = .ok (.iload_n 3, 1) := by decide +kernel
theorem d_Md_reckon_55 : decode b_Md_reckon 55 = .ok (.iconst 0, 1) := by decide +kernel
theorem d_Md_reckon_56 : decode b_Md_reckon 56 = .ok (.iconst 0, 1) := by decide +kernel
theorem d_Md_reckon_57 : decode b_Md_reckon 57 = .ok (.invokevirtual 210, 3) := by decide +kernel
theorem d_Md_reckon_60 : decode b_Md_reckon 60 = .ok (.istore 4, 2) := by decide +kernel
theorem d_Md_reckon_62 : decode b_Md_reckon 62 = .ok (.aload_n 0, 1) := by decide +kernel
theorem d_Md_reckon_63 : decode b_Md_reckon 63 = .ok (.iload 4, 2) := by decide +kernel
theorem d_Md_reckon_65 : decode b_Md_reckon 65 = .ok (.ifCond .ne 10, 3) := by decide +kernel
theorem d_Md_reckon_68 : decode b_Md_reckon 68 = .ok (.aload_n 0, 1) := by decide +kernel
theorem d_Md_reckon_69 : decode b_Md_reckon 69 = .ok (.getfield 201, 3) := by decide +kernel
theorem d_Md_reckon_72 : decode b_Md_reckon 72 = .ok (.goto 4, 3) := by decide +kernel
theorem d_Md_reckon_75 : decode b_Md_reckon 75 = .ok (.iconst 0, 1) := by decide +kernel
theorem d_Md_reckon_76 : decode b_Md_reckon 76 = .ok (.putfield 214, 3) := by decide +kernel
theorem d_Md_reckon_79 : decode b_Md_reckon 79 = .ok (.iload 4, 2) := by decide +kernel
theorem d_Md_reckon_81 : decode b_Md_reckon 81 = .ok (.ireturn, 1) := by decide +kernel
theorem d_Md_value_0 : decode b_Md_value 0 = .ok (.aload_n 0, 1) := by decide +kernel
theorem d_Md_value_1 : decode b_Md_value 1 = .ok (.iconst 0, 1) := by decide +kernel
theorem d_Md_value_2 : decode b_Md_value 2 = .ok (.putfield 69, 3) := by decide +kernel
theorem d_Md_value_5 : decode b_Md_value 5 = .ok (.aload_n 0, 1) := by decide +kernel
theorem d_Md_value_6 : decode b_Md_value 6 = .ok (.getfield 214, 3) := by decide +kernel
theorem d_Md_value_9 : decode b_Md_value 9 = .ok (.ireturn, 1) := by decide +kernel
theorem d_Md_readWord_0 : decode b_Md_readWord 0 = .ok (.iload_n 1, 1) := by decide +kernel
theorem d_Md_readWord_1 : decode b_Md_readWord 1 = .ok (.invokestatic 194, 3) := by decide +kernel
theorem d_Md_readWord_4 : decode b_Md_readWord 4 = .ok (.ifCond .ne 5, 3) := by decide +kernel
theorem d_Md_readWord_7 : decode b_Md_readWord 7 = .ok (.iconst 4, 1) := by decide +kernel
theorem d_Md_readWord_8 : decode b_Md_readWord 8 = .ok (.ireturn, 1) := by decide +kernel
theorem d_Md_readWord_9 : decode b_Md_readWord 9 = .ok (.aload_n 0, 1) := by decide +kernel
theorem d_Md_readWord_10 : decode b_Md_readWord 10 = .ok (.aload_n 0, 1) := by decide +kernel
theorem d_Md_readWord_11 : decode b_Md_readWord 11 = .ok (.getfield 56, 3) := by decide +kernel
theorem d_Md_readWord_14 : decode b_Md_readWord 14 = .ok (.iload_n 1, 1) := by decide +kernel
theorem d_Md_readWord_15 : decode b_Md_readWord 15 = .ok (.iconst 4, 1) := by decide +kernel
theorem d_Md_readWord_16 : decode b_Md_readWord 16 = .ok (.idiv, 1) := by decide +kernel
theorem d_Md_readWord_17 : decode b_Md_readWord 17 = .ok (.iaload, 1) := by decide +kernel
theorem d_Md_readWord_18 : decode b_Md_readWord 18 = .ok (.putfield 201, 3) := by decide +kernel
theorem d_Md_readWord_21 : decode b_Md_readWord 21 = .ok (.iconst 0, 1) := by decide +kernel
theorem d_Md_readWord_22 : decode b_Md_readWord 22 = .ok (.ireturn, 1) := by decide +kernel
theorem d_Md_expressionOf_0 : decode b_Md_expressionOf 0 = .ok (.aload_n 0, 1) := by decide +kernel
theorem d_Md_expressionOf_1 : decode b_Md_expressionOf 1 = .ok (.iconst 0, 1) := by decide +kernel
theorem d_Md_expressionOf_2 : decode b_Md_expressionOf 2 = .ok (.putfield 164, 3) := by decide +kernel
theorem d_Md_expressionOf_5 : decode b_Md_expressionOf 5 = .ok (.aload_n 0, 1) := by decide +kernel
theorem d_Md_expressionOf_6 : decode b_Md_expressionOf 6 = .ok (.iload 4, 2) := by decide +kernel
theorem d_Md_expressionOf_8 : decode b_Md_expressionOf 8 = .ok (.invokevirtual 167, 3) := by decide +kernel
theorem d_Md_expressionOf_11 : decode b_Md_expressionOf 11 = .ok (.istore 5, 2) := by decide +kernel
theorem d_Md_expressionOf_13 : decode b_Md_expressionOf 13 = .ok (.aload_n 0, 1) := by decide +kernel
theorem d_Md_expressionOf_14 : decode b_Md_expressionOf 14 = .ok (.iload_n 1, 1) := by decide +kernel
theorem d_Md_expressionOf_15 : decode b_Md_expressionOf 15 = .ok (.iload_n 1, 1) := by decide +kernel
theorem d_Md_expressionOf_16 : decode b_Md_expressionOf 16 = .ok (.iload_n 2, 1) := by decide +kernel
theorem d_Md_expressionOf_17 : decode b_Md_expressionOf 17 = .ok (.iadd, 1) := by decide +kernel
theorem d_Md_expressionOf_18 : decode b_Md_expressionOf 18 = .ok (.iload_n 3, 1) := by decide +kernel
theorem d_Md_expressionOf_19 : decode b_Md_expressionOf 19 = .ok (.iconst 1, 1) := by decide +kernel
theorem d_Md_expressionOf_20 : decode b_Md_expressionOf 20 = .ok (.iload 4, 2) := by decide +kernel
theorem d_Md_expressionOf_22 : decode b_Md_expressionOf 22 = .ok (.invokevirtual 210, 3) := by decide +kernel
theorem d_Md_expressionOf_25 : decode b_Md_expressionOf 25 = .ok (.ireturn, 1) := by decide +kernel
