theorem d_Rd_skip_0 : decode b_Rd_skip 0 = .ok (.aload_n 0, 1) := by decide +kernel
theorem d_Rd_skip_1 : decode b_Rd_skip 1 = .ok (.getfield 20, 3) := by decide +kernel
theorem d_Rd_skip_4 : decode b_Rd_skip 4 = .ok (.ifCond .ne 20, 3) := by decide +kernel
theorem d_Rd_skip_7 : decode b_Rd_skip 7 = .ok (.iload_n 1, 1) := by decide +kernel
theorem d_Rd_skip_8 : decode b_Rd_skip 8 = .ok (.ifCond .lt 16, 3) := by decide +kernel
theorem d_Rd_skip_11 : decode b_Rd_skip 11 = .ok (.iload_n 1, 1) := by decide +kernel
theorem d_Rd_skip_12 : decode b_Rd_skip 12 = .ok (.aload_n 0, 1) := by decide +kernel
theorem d_Rd_skip_13 : decode b_Rd_skip 13 = .ok (.getfield 17, 3) := by decide +kernel
theorem d_Rd_skip_16 : decode b_Rd_skip 16 = .ok (.aload_n 0, 1) := by decide +kernel
theorem d_Rd_skip_17 : decode b_Rd_skip 17 = .ok (.getfield 13, 3) := by decide +kernel
theorem d_Rd_skip_20 : decode b_Rd_skip 20 = .ok (.isub, 1) := by decide +kernel
theorem d_Rd_skip_21 : decode b_Rd_skip 21 = .ok (.if_icmp .le 9, 3) := by decide +kernel
theorem d_Rd_skip_24 : decode b_Rd_skip 24 = .ok (.aload_n 0, 1) := by decide +kernel
theorem d_Rd_skip_25 : decode b_Rd_skip 25 = .ok (.iconst 1, 1) := by decide +kernel
theorem d_Rd_skip_26 : decode b_Rd_skip 26 = .ok (.putfield 20, 3) := by decide +kernel
theorem d_Rd_skip_29 : decode b_Rd_skip 29 = .ok (.return_, 1) := by decide +kernel
theorem d_Rd_skip_30 : decode b_Rd_skip 30 = .ok (.aload_n 0, 1) := by decide +kernel
theorem d_Rd_skip_31 : decode b_Rd_skip 31 = .ok (.dup, 1) := by decide +kernel
theorem d_Rd_skip_32 : decode b_Rd_skip 32 = .ok (.getfield 13, 3) := by decide +kernel
theorem d_Rd_skip_35 : decode b_Rd_skip 35 = .ok (.iload_n 1, 1) := by decide +kernel
theorem d_Rd_skip_36 : decode b_Rd_skip 36 = .ok (.iadd, 1) := by decide +kernel
theorem d_Rd_skip_37 : decode b_Rd_skip 37 = .ok (.putfield 13, 3) := by decide +kernel
theorem d_Rd_skip_40 : decode b_Rd_skip 40 = .ok (.return_, 1) := by decide +kernel
theorem d_Se_append_0 : decode b_Se_append 0 = .ok (.iconst 0, 1) := by decide +kernel
theorem d_Se_append_1 : decode b_Se_append 1 = .ok (.istore_n 2, 1) := by decide +kernel
theorem d_Se_append_2 : decode b_Se_append 2 = .ok (.iload_n 2, 1) := by decide +kernel
theorem d_Se_append_3 : decode b_Se_append 3 = .ok (.iconst 4, 1) := by decide +kernel
theorem d_Se_append_4 : decode b_Se_append 4 = .ok (.if_icmp .ge 27, 3) := by decide +kernel
theorem d_Se_append_7 : decode b_Se_append 7 = .ok (.aload_n 0, 1) := by decide +kernel
theorem d_Se_append_8 : decode b_Se_append 8 = .ok (.getfield 9, 3) := by decide +kernel
theorem d_Se_append_11 : decode b_Se_append 11 = .ok (.aload_n 0, 1) := by decide +kernel
theorem d_Se_append_12 : decode b_Se_append 12 = .ok (.getfield 15, 3) := by decide +kernel
theorem d_Se_append_15 : decode b_Se_append 15 = .ok (.iload_n 2, 1) := by decide +kernel
theorem d_Se_append_16 : decode b_Se_append 16 = .ok (.iadd, 1) := by decide +kernel
theorem d_Se_append_17 : decode b_Se_append 17 = .ok (.iload_n 1, 1) := by decide +kernel
theorem d_Se_append_18 : decode b_Se_append 18 = .ok (.bipush 8, 2) := by decide +kernel
theorem d_Se_append_20 : decode b_Se_append 20 = .ok (.iload_n 2, 1) := by decide +kernel
theorem d_Se_append_21 : decode b_Se_append 21 = .ok (.imul, 1) := by decide +kernel
theorem d_Se_append_22 : decode b_Se_append 22 = .ok (.iushr, 1) := by decide +kernel
theorem d_Se_append_23 : decode b_Se_append 23 = .ok (.i2b, 1) := by decide +kernel
theorem d_Se_append_24 : decode b_Se_append 24 = .ok (.bastore, 1) := by decide +kernel
theorem d_Se_append_25 : decode b_Se_append 25 = .ok (.iinc 2 1, 3) := by decide +kernel
theorem d_Se_append_28 : decode b_Se_append 28 = .ok (.goto (-26), 3) := by decide +kernel
theorem d_Se_append_31 : decode b_Se_append 31 = .ok (.aload_n 0, 1) := by decide +kernel
theorem d_Se_append_32 : decode b_Se_append 32 = .ok (.dup, 1) := by decide +kernel
theorem d_Se_append_33 : decode b_Se_append 33 = .ok (.getfield 15, 3) := by decide +kernel
theorem d_Se_append_36 : decode b_Se_append 36 = .ok (.iconst 4, 1) := by decide +kernel
theorem d_Se_append_37 : decode b_Se_append 37 = .ok (.iadd, 1) := by decide +kernel
theorem d_Se_append_38 : decode b_Se_append 38 = .ok (.putfield 15, 3) := by decide +kernel
theorem d_Se_append_41 : decode b_Se_append 41 = .ok (.return_, 1) := by decide +kernel
theorem d_Se_replace_0 : decode b_Se_replace 0 = .ok (.aload_n 0, 1) := by decide +kernel
theorem d_Se_replace_1 : decode b_Se_replace 1 = .ok (.getfield 9, 3) := by decide +kernel
theorem d_Se_replace_4 : decode b_Se_replace 4 = .ok (.iload_n 1, 1) := by decide +kernel
theorem d_Se_replace_5 : decode b_Se_replace 5 = .ok (.baload, 1) := by decide +kernel
theorem d_Se_replace_6 : decode b_Se_replace 6 = .ok (.sipush 255, 3) := by decide +kernel
theorem d_Se_replace_9 : decode b_Se_replace 9 = .ok (.iand, 1) := by decide +kernel
theorem d_Se_replace_10 : decode b_Se_replace 10 = .ok (.istore_n 3, 1) := by decide +kernel
theorem d_Se_replace_11 : decode b_Se_replace 11 = .ok (.aload_n 0, 1) := by decide +kernel
theorem d_Se_replace_12 : decode b_Se_replace 12 = .ok (.getfield 9, 3) := by decide +kernel
theorem d_Se_replace_15 : decode b_Se_replace 15 = .ok (.iload_n 1, 1) := by decide +kernel
theorem d_Se_replace_16 : decode b_Se_replace 16 = .ok (.iload_n 2, 1) := by decide +kernel
theorem d_Se_replace_17 : decode b_Se_replace 17 = .ok (.i2b, 1) := by decide +kernel
theorem d_Se_replace_18 : decode b_Se_replace 18 = .ok (.bastore, 1) := by decide +kernel
theorem d_Se_replace_19 : decode b_Se_replace 19 = .ok (.iload_n 3, 1) := by decide +kernel
theorem d_Se_replace_20 : decode b_Se_replace 20 = .ok (.ireturn, 1) := by decide +kernel
theorem d_En_covers_0 : decode b_En_covers 0 = .ok (.iload_n 1, 1) := by decide +kernel
theorem d_En_covers_1 : decode b_En_covers 1 = .ok (.i2l, 1) := by decide +kernel
theorem d_En_covers_2 : decode b_En_covers 2 = .ok (.ldc2_w 7, 3) := by decide +kernel
theorem d_En_covers_5 : decode b_En_covers 5 = .ok (.land, 1) := by decide +kernel
theorem d_En_covers_6 : decode b_En_covers 6 = .ok (.lstore_n 2, 1) := by decide +kernel
theorem d_En_covers_7 : decode b_En_covers 7 = .ok (.aload_n 0, 1) := by decide +kernel
theorem d_En_covers_8 : decode b_En_covers 8 = .ok (.getfield 9, 3) := by decide +kernel
theorem d_En_covers_11 : decode b_En_covers 11 = .ok (.ifCond .eq 33, 3) := by decide +kernel
theorem d_En_covers_14 : decode b_En_covers 14 = .ok (.lload_n 2, 1) := by decide +kernel
theorem d_En_covers_15 : decode b_En_covers 15 = .ok (.aload_n 0, 1) := by decide +kernel
theorem d_En_covers_16 : decode b_En_covers 16 = .ok (.getfield 15, 3) := by decide +kernel
theorem d_En_covers_19 : decode b_En_covers 19 = .ok (.i2l, 1) := by decide +kernel
theorem d_En_covers_20 : decode b_En_covers 20 = .ok (.lcmp, 1) := by decide +kernel
theorem d_En_covers_21 : decode b_En_covers 21 = .ok (.ifCond .lt 23, 3) := by decide +kernel
theorem d_En_covers_24 : decode b_En_covers 24 = .ok (.lload_n 2, 1) := by decide +kernel
theorem d_En_covers_25 : decode b_En_covers 25 = .ok (.aload_n 0, 1) := by decide +kernel
theorem d_En_covers_26 : decode b_En_covers 26 = .ok (.getfield 15, 3) := by decide +kernel
theorem d_En_covers_29 : decode b_En_covers 29 = .ok (.i2l, 1) := by decide +kernel
theorem d_En_covers_30 : decode b_En_covers 30 = .ok (.aload_n 0, 1) := by decide +kernel
theorem d_En_covers_31 : decode b_En_covers 31 = .ok (.getfield 19, 3) := by decide +kernel
theorem d_En_covers_34 : decode b_En_covers 34 = .ok (.i2l, 1) := by decide +kernel
theorem d_En_covers_35 : decode b_En_covers 35 = .ok (.ladd, 1) := by decide +kernel
theorem d_En_covers_36 : decode b_En_covers 36 = .ok (.lcmp, 1) := by decide +kernel
theorem d_En_covers_37 : decode b_En_covers 37 = .ok (.ifCond .ge 7, 3) := by decide +kernel
theorem d_En_covers_40 : decode b_En_covers 40 = .ok (.iconst 1, 1) := by decide +kernel
theorem d_En_covers_41 : decode b_En_covers 41 = .ok (.goto 4, 3) := by decide +kernel
theorem d_En_covers_44 : decode b_En_covers 44 = .ok (.iconst 0, 1) := by decide +kernel
theorem d_En_covers_45 : decode b_En_covers 45 = .ok (.ireturn, 1) := by decide +kernel
theorem d_Me_has_0 : decode b_Me_has 0 = .ok (.iload_n 1, 1) := by decide +kernel
theorem d_Me_has_1 : decode b_Me_has 1 = .ok (.ifCond .lt 20, 3) := by decide +kernel
theorem d_Me_has_4 : decode b_Me_has 4 = .ok (.iload_n 1, 1) := by decide +kernel
theorem d_Me_has_5 : decode b_Me_has 5 = .ok (.sipush 1024, 3) := by decide +kernel
theorem d_Me_has_8 : decode b_Me_has 8 = .ok (.if_icmp .ge 13, 3) := by decide +kernel
theorem d_Me_has_11 : decode b_Me_has 11 = .ok (.iload_n 1, 1) := by decide +kernel
theorem d_Me_has_12 : decode b_Me_has 12 = .ok (.iconst 4, 1) := by decide +kernel
theorem d_Me_has_13 : decode b_Me_has 13 = .ok (.irem, 1) := by decide +kernel
theorem d_Me_has_14 : decode b_Me_has 14 = .ok (.ifCond .ne 7, 3) := by decide +kernel
theorem d_Me_has_17 : decode b_Me_has 17 = .ok (.iconst 1, 1) := by decide +kernel
theorem d_Me_has_18 : decode b_Me_has 18 = .ok (.goto 4, 3) := by decide +kernel
theorem d_Me_has_21 : decode b_Me_has 21 = .ok (.iconst 0, 1) := by decide +kernel
theorem d_Me_has_22 : decode b_Me_has 22 = .ok (.ireturn, 1) := by decide +kernel
theorem d_Me_load_0 : decode b_Me_load 0 = .ok (.aload_n 0, 1) := by decide +kernel
theorem d_Me_load_1 : decode b_Me_load 1 = .ok (.getfield 9, 3) := by decide +kernel
theorem d_Me_load_4 : decode b_Me_load 4 = .ok (.iload_n 1, 1) := by decide +kernel
theorem d_Me_load_5 : decode b_Me_load 5 = .ok (.iconst 4, 1) := by decide +kernel
theorem d_Me_load_6 : decode b_Me_load 6 = .ok (.idiv, 1) := by decide +kernel
theorem d_Me_load_7 : decode b_Me_load 7 = .ok (.iaload, 1) := by decide +kernel
theorem d_Me_load_8 : decode b_Me_load 8 = .ok (.ireturn, 1) := by decide +kernel
theorem d_Me_store_0 : decode b_Me_store 0 = .ok (.aload_n 0, 1) := by decide +kernel
theorem d_Me_store_1 : decode b_Me_store 1 = .ok (.getfield 9, 3) := by decide +kernel
theorem d_Me_store_4 : decode b_Me_store 4 = .ok (.iload_n 1, 1) := by decide +kernel
theorem d_Me_store_5 : decode b_Me_store 5 = .ok (.iconst 4, 1) := by decide +kernel
theorem d_Me_store_6 : decode b_Me_store 6 = .ok (.idiv, 1) := by decide +kernel
theorem d_Me_store_7 : decode b_Me_store 7 = .ok (.iload_n 2, 1) := by decide +kernel
theorem d_Me_store_8 : decode b_Me_store 8 = .ok (.iastore, 1) := by decide +kernel
theorem d_Me_store_9 : decode b_Me_store 9 = .ok (.return_, 1) := by decide +kernel
theorem d_Fr_place_0 : decode b_Fr_place 0 = .ok (.aload_n 0, 1) := by decide +kernel
theorem d_Fr_place_1 : decode b_Fr_place 1 = .ok (.getfield 19, 3) := by decide +kernel
theorem d_Fr_place_4 : decode b_Fr_place 4 = .ok (.ifCond .ne 10, 3) := by decide +kernel
theorem d_Fr_place_7 : decode b_Fr_place 7 = .ok (.aload_n 0, 1) := by decide +kernel
theorem d_Fr_place_8 : decode b_Fr_place 8 = .ok (.getfield 22, 3) := by decide +kernel
theorem d_Fr_place_11 : decode b_Fr_place 11 = .ok (.goto 9, 3) := by decide +kernel
theorem d_Fr_place_14 : decode b_Fr_place 14 = .ok (.aload_n 0, 1) := by decide +kernel
theorem d_Fr_place_15 : decode b_Fr_place 15 = .ok (.getfield 22, 3) := by decide +kernel
theorem d_Fr_place_18 : decode b_Fr_place 18 = .ok (.iconst 1, 1) := by decide +kernel
theorem d_Fr_place_19 : decode b_Fr_place 19 = .ok (.isub, 1) := by decide +kernel
theorem d_Fr_place_20 : decode b_Fr_place 20 = .ok (.ireturn, 1) := by decide +kernel
theorem d_Fr_knows_0 : decode b_Fr_knows 0 = .ok (.aload_n 0, 1) := by decide +kernel
theorem d_Fr_knows_1 : decode b_Fr_knows 1 = .ok (.getfield 15, 3) := by decide +kernel
theorem d_Fr_knows_4 : decode b_Fr_knows 4 = .ok (.iconst 1, 1) := by decide +kernel
theorem d_Fr_knows_5 : decode b_Fr_knows 5 = .ok (.iload_n 1, 1) := by decide +kernel
theorem d_Fr_knows_6 : decode b_Fr_knows 6 = .ok (.ishl, 1) := by decide +kernel
theorem d_Fr_knows_7 : decode b_Fr_knows 7 = .ok (.iand, 1) := by decide +kernel
theorem d_Fr_knows_8 : decode b_Fr_knows 8 = .ok (.ifCond .eq 7, 3) := by decide +kernel
theorem d_Fr_knows_11 : decode b_Fr_knows 11 = .ok (.iconst 1, 1) := by decide +kernel
theorem d_Fr_knows_12 : decode b_Fr_knows 12 = .ok (.goto 4, 3) := by decide +kernel
theorem d_Fr_knows_15 : decode b_Fr_knows 15 = .ok (.iconst 0, 1) := by decide +kernel
theorem d_Fr_knows_16 : decode b_Fr_knows 16 = .ok (.ireturn, 1) := by decide +kernel
theorem d_Fr_learn_0 : decode b_Fr_learn 0 = .ok (.aload_n 0, 1) := by decide +kernel
theorem d_Fr_learn_1 : decode b_Fr_learn 1 = .ok (.getfield 9, 3) := by decide +kernel
theorem d_Fr_learn_4 : decode b_Fr_learn 4 = .ok (.iload_n 1, 1) := by decide +kernel
theorem d_Fr_learn_5 : decode b_Fr_learn 5 = .ok (.iload_n 2, 1) := by decide +kernel
theorem d_Fr_learn_6 : decode b_Fr_learn 6 = .ok (.iastore, 1) := by decide +kernel
theorem d_Fr_learn_7 : decode b_Fr_learn 7 = .ok (.aload_n 0, 1) := by decide +kernel
theorem d_Fr_learn_8 : decode b_Fr_learn 8 = .ok (.dup, 1) := by decide +kernel
theorem d_Fr_learn_9 : decode b_Fr_learn 9 = .ok (.getfield 15, 3) := by decide +kernel
theorem d_Fr_learn_12 : decode b_Fr_learn 12 = .ok (.iconst 1, 1) := by decide +kernel
theorem d_Fr_learn_13 : decode b_Fr_learn 13 = .ok (.iload_n 1, 1) := by decide +kernel
theorem d_Fr_learn_14 : decode b_Fr_learn 14 = .ok (.ishl, 1) := by decide +kernel
theorem d_Fr_learn_15 : decode b_Fr_learn 15 = .ok (.ior, 1) := by decide +kernel
theorem d_Fr_learn_16 : decode b_Fr_learn 16 = .ok (.putfield 15, 3) := by decide +kernel
theorem d_Fr_learn_19 : decode b_Fr_learn 19 = .ok (.return_, 1) := by decide +kernel
