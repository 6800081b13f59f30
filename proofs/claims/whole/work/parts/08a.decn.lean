theorem dX0_init_0 : decode cX0_init 0 = .ok (.aload_n 0, 1) := by decide +kernel
theorem dX0_init_1 : decode cX0_init 1 = .ok (.invokespecial 3, 3) := by decide +kernel
theorem dX0_init_4 : decode cX0_init 4 = .ok (.aload_n 0, 1) := by decide +kernel
theorem dX0_init_5 : decode cX0_init 5 = .ok (.iconst 5, 1) := by decide +kernel
theorem dX0_init_6 : decode cX0_init 6 = .ok (.anewarray 9, 3) := by decide +kernel
theorem dX0_init_9 : decode cX0_init 9 = .ok (.putfield 11, 3) := by decide +kernel
theorem dX0_init_12 : decode cX0_init 12 = .ok (.aload_n 0, 1) := by decide +kernel
theorem dX0_init_13 : decode cX0_init 13 = .ok (.iconst 0, 1) := by decide +kernel
theorem dX0_init_14 : decode cX0_init 14 = .ok (.putfield 17, 3) := by decide +kernel
theorem dX0_init_17 : decode cX0_init 17 = .ok (.aload_n 0, 1) := by decide +kernel
theorem dX0_init_18 : decode cX0_init 18 = .ok (.iconst 0, 1) := by decide +kernel
theorem dX0_init_19 : decode cX0_init 19 = .ok (.putfield 21, 3) := by decide +kernel
theorem dX0_init_22 : decode cX0_init 22 = .ok (.aload_n 0, 1) := by decide +kernel
theorem dX0_init_23 : decode cX0_init 23 = .ok (.iconst 0, 1) := by decide +kernel
theorem dX0_init_24 : decode cX0_init 24 = .ok (.putfield 24, 3) := by decide +kernel
theorem dX0_init_27 : decode cX0_init 27 = .ok (.aload_n 0, 1) := by decide +kernel
theorem dX0_init_28 : decode cX0_init 28 = .ok (.iconst 3, 1) := by decide +kernel
theorem dX0_init_29 : decode cX0_init 29 = .ok (.putfield 27, 3) := by decide +kernel
theorem dX0_init_32 : decode cX0_init 32 = .ok (.iconst 0, 1) := by decide +kernel
theorem dX0_init_33 : decode cX0_init 33 = .ok (.istore_n 1, 1) := by decide +kernel
theorem dX0_init_34 : decode cX0_init 34 = .ok (.iload_n 1, 1) := by decide +kernel
theorem dX0_init_35 : decode cX0_init 35 = .ok (.iconst 5, 1) := by decide +kernel
theorem dX0_init_36 : decode cX0_init 36 = .ok (.if_icmp .ge 22, 3) := by decide +kernel
theorem dX0_init_39 : decode cX0_init 39 = .ok (.aload_n 0, 1) := by decide +kernel
theorem dX0_init_40 : decode cX0_init 40 = .ok (.getfield 11, 3) := by decide +kernel
theorem dX0_init_43 : decode cX0_init 43 = .ok (.iload_n 1, 1) := by decide +kernel
theorem dX0_init_44 : decode cX0_init 44 = .ok (.new 9, 3) := by decide +kernel
theorem dX0_init_47 : decode cX0_init 47 = .ok (.dup, 1) := by decide +kernel
theorem dX0_init_48 : decode cX0_init 48 = .ok (.invokespecial 30, 3) := by decide +kernel
theorem dX0_init_51 : decode cX0_init 51 = .ok (.aastore, 1) := by decide +kernel
theorem dX0_init_52 : decode cX0_init 52 = .ok (.iinc 1 1, 3) := by decide +kernel
theorem dX0_init_55 : decode cX0_init 55 = .ok (.goto (-21), 3) := by decide +kernel
theorem dX0_init_58 : decode cX0_init 58 = .ok (.return_, 1) := by decide +kernel
theorem dX0_at_0 : decode cX0_at 0 = .ok (.aload_n 0, 1) := by decide +kernel
theorem dX0_at_1 : decode cX0_at 1 = .ok (.getfield 11, 3) := by decide +kernel
theorem dX0_at_4 : decode cX0_at 4 = .ok (.aload_n 0, 1) := by decide +kernel
theorem dX0_at_5 : decode cX0_at 5 = .ok (.getfield 17, 3) := by decide +kernel
theorem dX0_at_8 : decode cX0_at 8 = .ok (.iload_n 1, 1) := by decide +kernel
theorem dX0_at_9 : decode cX0_at 9 = .ok (.iadd, 1) := by decide +kernel
theorem dX0_at_10 : decode cX0_at 10 = .ok (.iconst 5, 1) := by decide +kernel
theorem dX0_at_11 : decode cX0_at 11 = .ok (.irem, 1) := by decide +kernel
theorem dX0_at_12 : decode cX0_at 12 = .ok (.aaload, 1) := by decide +kernel
theorem dX0_at_13 : decode cX0_at 13 = .ok (.areturn, 1) := by decide +kernel
theorem dX0_countWrites_0 : decode cX0_countWrites 0 = .ok (.iconst 0, 1) := by decide +kernel
theorem dX0_countWrites_1 : decode cX0_countWrites 1 = .ok (.istore_n 1, 1) := by decide +kernel
theorem dX0_countWrites_2 : decode cX0_countWrites 2 = .ok (.iconst 0, 1) := by decide +kernel
theorem dX0_countWrites_3 : decode cX0_countWrites 3 = .ok (.istore_n 2, 1) := by decide +kernel
theorem dX0_countWrites_4 : decode cX0_countWrites 4 = .ok (.iload_n 2, 1) := by decide +kernel
theorem dX0_countWrites_5 : decode cX0_countWrites 5 = .ok (.aload_n 0, 1) := by decide +kernel
theorem dX0_countWrites_6 : decode cX0_countWrites 6 = .ok (.getfield 21, 3) := by decide +kernel
theorem dX0_countWrites_9 : decode cX0_countWrites 9 = .ok (.if_icmp .ge 23, 3) := by decide +kernel
theorem dX0_countWrites_12 : decode cX0_countWrites 12 = .ok (.aload_n 0, 1) := by decide +kernel
theorem dX0_countWrites_13 : decode cX0_countWrites 13 = .ok (.iload_n 2, 1) := by decide +kernel
theorem dX0_countWrites_14 : decode cX0_countWrites 14 = .ok (.invokevirtual 31, 3) := by decide +kernel
theorem dX0_countWrites_17 : decode cX0_countWrites 17 = .ok (.getfield 35, 3) := by decide +kernel
theorem dX0_countWrites_20 : decode cX0_countWrites 20 = .ok (.ifnonnull 6, 3) := by decide +kernel
theorem dX0_countWrites_23 : decode cX0_countWrites 23 = .ok (.iinc 1 1, 3) := by decide +kernel
theorem dX0_countWrites_26 : decode cX0_countWrites 26 = .ok (.iinc 2 1, 3) := by decide +kernel
theorem dX0_countWrites_29 : decode cX0_countWrites 29 = .ok (.goto (-25), 3) := by decide +kernel
theorem dX0_countWrites_32 : decode cX0_countWrites 32 = .ok (.iload_n 1, 1) := by decide +kernel
theorem dX0_countWrites_33 : decode cX0_countWrites 33 = .ok (.ireturn, 1) := by decide +kernel
theorem dX0_appendWrite_0 : decode cX0_appendWrite 0 = .ok (.aload_n 0, 1) := by decide +kernel
theorem dX0_appendWrite_1 : decode cX0_appendWrite 1 = .ok (.iload_n 1, 1) := by decide +kernel
theorem dX0_appendWrite_2 : decode cX0_appendWrite 2 = .ok (.aconst_null, 1) := by decide +kernel
theorem dX0_appendWrite_3 : decode cX0_appendWrite 3 = .ok (.invokevirtual 42, 3) := by decide +kernel
theorem dX0_appendWrite_6 : decode cX0_appendWrite 6 = .ok (.astore_n 3, 1) := by decide +kernel
theorem dX0_appendWrite_7 : decode cX0_appendWrite 7 = .ok (.iconst 0, 1) := by decide +kernel
theorem dX0_appendWrite_8 : decode cX0_appendWrite 8 = .ok (.istore 4, 2) := by decide +kernel
theorem dX0_appendWrite_10 : decode cX0_appendWrite 10 = .ok (.iload 4, 2) := by decide +kernel
theorem dX0_appendWrite_12 : decode cX0_appendWrite 12 = .ok (.iconst 4, 1) := by decide +kernel
theorem dX0_appendWrite_13 : decode cX0_appendWrite 13 = .ok (.if_icmp .ge 20, 3) := by decide +kernel
theorem dX0_appendWrite_16 : decode cX0_appendWrite 16 = .ok (.aload_n 3, 1) := by decide +kernel
theorem dX0_appendWrite_17 : decode cX0_appendWrite 17 = .ok (.getfield 46, 3) := by decide +kernel
theorem dX0_appendWrite_20 : decode cX0_appendWrite 20 = .ok (.iload 4, 2) := by decide +kernel
theorem dX0_appendWrite_22 : decode cX0_appendWrite 22 = .ok (.aload_n 2, 1) := by decide +kernel
theorem dX0_appendWrite_23 : decode cX0_appendWrite 23 = .ok (.iload 4, 2) := by decide +kernel
theorem dX0_appendWrite_25 : decode cX0_appendWrite 25 = .ok (.iaload, 1) := by decide +kernel
theorem dX0_appendWrite_26 : decode cX0_appendWrite 26 = .ok (.iastore, 1) := by decide +kernel
theorem dX0_appendWrite_27 : decode cX0_appendWrite 27 = .ok (.iinc 4 1, 3) := by decide +kernel
theorem dX0_appendWrite_30 : decode cX0_appendWrite 30 = .ok (.goto (-20), 3) := by decide +kernel
theorem dX0_appendWrite_33 : decode cX0_appendWrite 33 = .ok (.return_, 1) := by decide +kernel
theorem dX0_append_0 : decode cX0_append 0 = .ok (.aload_n 0, 1) := by decide +kernel
theorem dX0_append_1 : decode cX0_append 1 = .ok (.getfield 11, 3) := by decide +kernel
theorem dX0_append_4 : decode cX0_append 4 = .ok (.aload_n 0, 1) := by decide +kernel
theorem dX0_append_5 : decode cX0_append 5 = .ok (.getfield 17, 3) := by decide +kernel
theorem dX0_append_8 : decode cX0_append 8 = .ok (.aload_n 0, 1) := by decide +kernel
theorem dX0_append_9 : decode cX0_append 9 = .ok (.getfield 21, 3) := by decide +kernel
theorem dX0_append_12 : decode cX0_append 12 = .ok (.iadd, 1) := by decide +kernel
theorem dX0_append_13 : decode cX0_append 13 = .ok (.iconst 5, 1) := by decide +kernel
theorem dX0_append_14 : decode cX0_append 14 = .ok (.irem, 1) := by decide +kernel
theorem dX0_append_15 : decode cX0_append 15 = .ok (.aaload, 1) := by decide +kernel
theorem dX0_append_16 : decode cX0_append 16 = .ok (.astore_n 3, 1) := by decide +kernel
theorem dX0_append_17 : decode cX0_append 17 = .ok (.aload_n 3, 1) := by decide +kernel
theorem dX0_append_18 : decode cX0_append 18 = .ok (.iload_n 1, 1) := by decide +kernel
theorem dX0_append_19 : decode cX0_append 19 = .ok (.putfield 39, 3) := by decide +kernel
theorem dX0_append_22 : decode cX0_append 22 = .ok (.aload_n 3, 1) := by decide +kernel
theorem dX0_append_23 : decode cX0_append 23 = .ok (.aload_n 2, 1) := by decide +kernel
theorem dX0_append_24 : decode cX0_append 24 = .ok (.putfield 35, 3) := by decide +kernel
theorem dX0_append_27 : decode cX0_append 27 = .ok (.aload_n 0, 1) := by decide +kernel
theorem dX0_append_28 : decode cX0_append 28 = .ok (.dup, 1) := by decide +kernel
theorem dX0_append_29 : decode cX0_append 29 = .ok (.getfield 21, 3) := by decide +kernel
theorem dX0_append_32 : decode cX0_append 32 = .ok (.iconst 1, 1) := by decide +kernel
theorem dX0_append_33 : decode cX0_append 33 = .ok (.iadd, 1) := by decide +kernel
theorem dX0_append_34 : decode cX0_append 34 = .ok (.putfield 21, 3) := by decide +kernel
theorem dX0_append_37 : decode cX0_append 37 = .ok (.aload_n 0, 1) := by decide +kernel
theorem dX0_append_38 : decode cX0_append 38 = .ok (.getfield 21, 3) := by decide +kernel
theorem dX0_append_41 : decode cX0_append 41 = .ok (.iconst 1, 1) := by decide +kernel
theorem dX0_append_42 : decode cX0_append 42 = .ok (.if_icmp .ne 11, 3) := by decide +kernel
theorem dX0_append_45 : decode cX0_append 45 = .ok (.aload_n 0, 1) := by decide +kernel
theorem dX0_append_46 : decode cX0_append 46 = .ok (.aload_n 0, 1) := by decide +kernel
theorem dX0_append_47 : decode cX0_append 47 = .ok (.getfield 27, 3) := by decide +kernel
theorem dX0_append_50 : decode cX0_append 50 = .ok (.putfield 24, 3) := by decide +kernel
theorem dX0_append_53 : decode cX0_append 53 = .ok (.aload_n 3, 1) := by decide +kernel
theorem dX0_append_54 : decode cX0_append 54 = .ok (.areturn, 1) := by decide +kernel
theorem dX0_dropFirst_0 : decode cX0_dropFirst 0 = .ok (.aload_n 0, 1) := by decide +kernel
theorem dX0_dropFirst_1 : decode cX0_dropFirst 1 = .ok (.aload_n 0, 1) := by decide +kernel
theorem dX0_dropFirst_2 : decode cX0_dropFirst 2 = .ok (.getfield 17, 3) := by decide +kernel
theorem dX0_dropFirst_5 : decode cX0_dropFirst 5 = .ok (.iconst 1, 1) := by decide +kernel
theorem dX0_dropFirst_6 : decode cX0_dropFirst 6 = .ok (.iadd, 1) := by decide +kernel
theorem dX0_dropFirst_7 : decode cX0_dropFirst 7 = .ok (.iconst 5, 1) := by decide +kernel
theorem dX0_dropFirst_8 : decode cX0_dropFirst 8 = .ok (.irem, 1) := by decide +kernel
theorem dX0_dropFirst_9 : decode cX0_dropFirst 9 = .ok (.putfield 17, 3) := by decide +kernel
theorem dX0_dropFirst_12 : decode cX0_dropFirst 12 = .ok (.aload_n 0, 1) := by decide +kernel
theorem dX0_dropFirst_13 : decode cX0_dropFirst 13 = .ok (.dup, 1) := by decide +kernel
theorem dX0_dropFirst_14 : decode cX0_dropFirst 14 = .ok (.getfield 21, 3) := by decide +kernel
theorem dX0_dropFirst_17 : decode cX0_dropFirst 17 = .ok (.iconst 1, 1) := by decide +kernel
theorem dX0_dropFirst_18 : decode cX0_dropFirst 18 = .ok (.isub, 1) := by decide +kernel
theorem dX0_dropFirst_19 : decode cX0_dropFirst 19 = .ok (.putfield 21, 3) := by decide +kernel
theorem dX0_dropFirst_22 : decode cX0_dropFirst 22 = .ok (.aload_n 0, 1) := by decide +kernel
theorem dX0_dropFirst_23 : decode cX0_dropFirst 23 = .ok (.aload_n 0, 1) := by decide +kernel
theorem dX0_dropFirst_24 : decode cX0_dropFirst 24 = .ok (.getfield 21, 3) := by decide +kernel
theorem dX0_dropFirst_27 : decode cX0_dropFirst 27 = .ok (.ifCond .le 10, 3) := by decide +kernel
theorem dX0_dropFirst_30 : decode cX0_dropFirst 30 = .ok (.aload_n 0, 1) := by decide +kernel
theorem dX0_dropFirst_31 : decode cX0_dropFirst 31 = .ok (.getfield 27, 3) := by decide +kernel
theorem dX0_dropFirst_34 : decode cX0_dropFirst 34 = .ok (.goto 4, 3) := by decide +kernel
theorem dX0_dropFirst_37 : decode cX0_dropFirst 37 = .ok (.iconst 0, 1) := by decide +kernel
theorem dX0_dropFirst_38 : decode cX0_dropFirst 38 = .ok (.putfield 24, 3) := by decide +kernel
theorem dX0_dropFirst_41 : decode cX0_dropFirst 41 = .ok (.return_, 1) := by decide +kernel
theorem dX1_init_0 : decode cX1_init 0 = .ok (.aload_n 0, 1) := by decide +kernel
theorem dX1_init_1 : decode cX1_init 1 = .ok (.invokespecial 3, 3) := by decide +kernel
theorem dX1_init_4 : decode cX1_init 4 = .ok (.aload_n 0, 1) := by decide +kernel
theorem dX1_init_5 : decode cX1_init 5 = .ok (.iconst 3, 1) := by decide +kernel
theorem dX1_init_6 : decode cX1_init 6 = .ok (.newarray .int, 2) := by decide +kernel
theorem dX1_init_8 : decode cX1_init 8 = .ok (.putfield 9, 3) := by decide +kernel
theorem dX1_init_11 : decode cX1_init 11 = .ok (.aload_n 0, 1) := by decide +kernel
theorem dX1_init_12 : decode cX1_init 12 = .ok (.iconst 3, 1) := by decide +kernel
theorem dX1_init_13 : decode cX1_init 13 = .ok (.newarray .int, 2) := by decide +kernel
theorem dX1_init_15 : decode cX1_init 15 = .ok (.putfield 15, 3) := by decide +kernel
theorem dX1_init_18 : decode cX1_init 18 = .ok (.aload_n 0, 1) := by decide +kernel
theorem dX1_init_19 : decode cX1_init 19 = .ok (.iconst 3, 1) := by decide +kernel
theorem dX1_init_20 : decode cX1_init 20 = .ok (.newarray .boolean, 2) := by decide +kernel
theorem dX1_init_22 : decode cX1_init 22 = .ok (.putfield 18, 3) := by decide +kernel
theorem dX1_init_25 : decode cX1_init 25 = .ok (.aload_n 0, 1) := by decide +kernel
theorem dX1_init_26 : decode cX1_init 26 = .ok (.iconst 0, 1) := by decide +kernel
theorem dX1_init_27 : decode cX1_init 27 = .ok (.putfield 22, 3) := by decide +kernel
theorem dX1_init_30 : decode cX1_init 30 = .ok (.aload_n 0, 1) := by decide +kernel
theorem dX1_init_31 : decode cX1_init 31 = .ok (.iconst 0, 1) := by decide +kernel
theorem dX1_init_32 : decode cX1_init 32 = .ok (.putfield 26, 3) := by decide +kernel
theorem dX1_init_35 : decode cX1_init 35 = .ok (.return_, 1) := by decide +kernel
theorem dX1_addTarget_0 : decode cX1_addTarget 0 = .ok (.aload_n 0, 1) := by decide +kernel
theorem dX1_addTarget_1 : decode cX1_addTarget 1 = .ok (.getfield 26, 3) := by decide +kernel
theorem dX1_addTarget_4 : decode cX1_addTarget 4 = .ok (.iconst 3, 1) := by decide +kernel
theorem dX1_addTarget_5 : decode cX1_addTarget 5 = .ok (.if_icmp .ge 43, 3) := by decide +kernel
theorem dX1_addTarget_8 : decode cX1_addTarget 8 = .ok (.aload_n 0, 1) := by decide +kernel
theorem dX1_addTarget_9 : decode cX1_addTarget 9 = .ok (.getfield 9, 3) := by decide +kernel
theorem dX1_addTarget_12 : decode cX1_addTarget 12 = .ok (.aload_n 0, 1) := by decide +kernel
theorem dX1_addTarget_13 : decode cX1_addTarget 13 = .ok (.getfield 26, 3) := by decide +kernel
theorem dX1_addTarget_16 : decode cX1_addTarget 16 = .ok (.iload_n 1, 1) := by decide +kernel
theorem dX1_addTarget_17 : decode cX1_addTarget 17 = .ok (.iastore, 1) := by decide +kernel
theorem dX1_addTarget_18 : decode cX1_addTarget 18 = .ok (.aload_n 0, 1) := by decide +kernel
theorem dX1_addTarget_19 : decode cX1_addTarget 19 = .ok (.getfield 15, 3) := by decide +kernel
theorem dX1_addTarget_22 : decode cX1_addTarget 22 = .ok (.aload_n 0, 1) := by decide +kernel
theorem dX1_addTarget_23 : decode cX1_addTarget 23 = .ok (.getfield 26, 3) := by decide +kernel
theorem dX1_addTarget_26 : decode cX1_addTarget 26 = .ok (.iload_n 2, 1) := by decide +kernel
theorem dX1_addTarget_27 : decode cX1_addTarget 27 = .ok (.iastore, 1) := by decide +kernel
theorem dX1_addTarget_28 : decode cX1_addTarget 28 = .ok (.aload_n 0, 1) := by decide +kernel
theorem dX1_addTarget_29 : decode cX1_addTarget 29 = .ok (.getfield 18, 3) := by decide +kernel
theorem dX1_addTarget_32 : decode cX1_addTarget 32 = .ok (.aload_n 0, 1) := by decide +kernel
theorem dX1_addTarget_33 : decode cX1_addTarget 33 = .ok (.getfield 26, 3) := by decide +kernel
theorem dX1_addTarget_36 : decode cX1_addTarget 36 = .ok (.iload_n 3, 1) := by decide +kernel
theorem dX1_addTarget_37 : decode cX1_addTarget 37 = .ok (.bastore, 1) := by decide +kernel
theorem dX1_addTarget_38 : decode cX1_addTarget 38 = .ok (.aload_n 0, 1) := by decide +kernel
theorem dX1_addTarget_39 : decode cX1_addTarget 39 = .ok (.dup, 1) := by decide +kernel
theorem dX1_addTarget_40 : decode cX1_addTarget 40 = .ok (.getfield 26, 3) := by decide +kernel
theorem dX1_addTarget_43 : decode cX1_addTarget 43 = .ok (.iconst 1, 1) := by decide +kernel
theorem dX1_addTarget_44 : decode cX1_addTarget 44 = .ok (.iadd, 1) := by decide +kernel
theorem dX1_addTarget_45 : decode cX1_addTarget 45 = .ok (.putfield 26, 3) := by decide +kernel
theorem dX1_addTarget_48 : decode cX1_addTarget 48 = .ok (.return_, 1) := by decide +kernel
theorem dX3_init_0 : decode cX3_init 0 = .ok (.aload_n 0, 1) := by decide +kernel
theorem dX3_init_1 : decode cX3_init 1 = .ok (.invokespecial 3, 3) := by decide +kernel
theorem dX3_init_4 : decode cX3_init 4 = .ok (.aload_n 0, 1) := by decide +kernel
theorem dX3_init_5 : decode cX3_init 5 = .ok (.iconst 4, 1) := by decide +kernel
theorem dX3_init_6 : decode cX3_init 6 = .ok (.newarray .int, 2) := by decide +kernel
theorem dX3_init_8 : decode cX3_init 8 = .ok (.putfield 9, 3) := by decide +kernel
theorem dX3_init_11 : decode cX3_init 11 = .ok (.aload_n 0, 1) := by decide +kernel
theorem dX3_init_12 : decode cX3_init 12 = .ok (.iconst (-1), 1) := by decide +kernel
theorem dX3_init_13 : decode cX3_init 13 = .ok (.putfield 15, 3) := by decide +kernel
theorem dX3_init_16 : decode cX3_init 16 = .ok (.aload_n 0, 1) := by decide +kernel
theorem dX3_init_17 : decode cX3_init 17 = .ok (.iconst 0, 1) := by decide +kernel
theorem dX3_init_18 : decode cX3_init 18 = .ok (.putfield 19, 3) := by decide +kernel
theorem dX3_init_21 : decode cX3_init 21 = .ok (.aload_n 0, 1) := by decide +kernel
theorem dX3_init_22 : decode cX3_init 22 = .ok (.aconst_null, 1) := by decide +kernel
theorem dX3_init_23 : decode cX3_init 23 = .ok (.putfield 23, 3) := by decide +kernel
theorem dX3_init_26 : decode cX3_init 26 = .ok (.aload_n 0, 1) := by decide +kernel
theorem dX3_init_27 : decode cX3_init 27 = .ok (.iconst 0, 1) := by decide +kernel
theorem dX3_init_28 : decode cX3_init 28 = .ok (.putfield 27, 3) := by decide +kernel
theorem dX3_init_31 : decode cX3_init 31 = .ok (.return_, 1) := by decide +kernel
theorem dX2_init_0 : decode cX2_init 0 = .ok (.aload_n 0, 1) := by decide +kernel
theorem dX2_init_1 : decode cX2_init 1 = .ok (.invokespecial 3, 3) := by decide +kernel
theorem dX2_init_4 : decode cX2_init 4 = .ok (.aload_n 0, 1) := by decide +kernel
theorem dX2_init_5 : decode cX2_init 5 = .ok (.iconst 4, 1) := by decide +kernel
theorem dX2_init_6 : decode cX2_init 6 = .ok (.newarray .int, 2) := by decide +kernel
theorem dX2_init_8 : decode cX2_init 8 = .ok (.putfield 9, 3) := by decide +kernel
theorem dX2_init_11 : decode cX2_init 11 = .ok (.aload_n 0, 1) := by decide +kernel
theorem dX2_init_12 : decode cX2_init 12 = .ok (.iconst (-1), 1) := by decide +kernel
theorem dX2_init_13 : decode cX2_init 13 = .ok (.putfield 15, 3) := by decide +kernel
theorem dX2_init_16 : decode cX2_init 16 = .ok (.aload_n 0, 1) := by decide +kernel
theorem dX2_init_17 : decode cX2_init 17 = .ok (.aconst_null, 1) := by decide +kernel
theorem dX2_init_18 : decode cX2_init 18 = .ok (.putfield 19, 3) := by decide +kernel
theorem dX2_init_21 : decode cX2_init 21 = .ok (.return_, 1) := by decide +kernel
