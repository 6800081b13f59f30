theorem dX4_init_0 : decode cX4_init 0 = .ok (.aload_n 0, 1) := by decide +kernel
theorem dX4_init_1 : decode cX4_init 1 = .ok (.invokespecial 3, 3) := by decide +kernel
theorem dX4_init_4 : decode cX4_init 4 = .ok (.aload_n 0, 1) := by decide +kernel
theorem dX4_init_5 : decode cX4_init 5 = .ok (.sipush 256, 3) := by decide +kernel
theorem dX4_init_8 : decode cX4_init 8 = .ok (.newarray .int, 2) := by decide +kernel
theorem dX4_init_10 : decode cX4_init 10 = .ok (.putfield 9, 3) := by decide +kernel
theorem dX4_init_13 : decode cX4_init 13 = .ok (.aload_n 0, 1) := by decide +kernel
theorem dX4_init_14 : decode cX4_init 14 = .ok (.bipush 8, 2) := by decide +kernel
theorem dX4_init_16 : decode cX4_init 16 = .ok (.anewarray 13, 3) := by decide +kernel
theorem dX4_init_19 : decode cX4_init 19 = .ok (.putfield 15, 3) := by decide +kernel
theorem dX4_init_22 : decode cX4_init 22 = .ok (.aload_n 0, 1) := by decide +kernel
theorem dX4_init_23 : decode cX4_init 23 = .ok (.iconst 3, 1) := by decide +kernel
theorem dX4_init_24 : decode cX4_init 24 = .ok (.anewarray 19, 3) := by decide +kernel
theorem dX4_init_27 : decode cX4_init 27 = .ok (.putfield 21, 3) := by decide +kernel
theorem dX4_init_30 : decode cX4_init 30 = .ok (.aload_n 0, 1) := by decide +kernel
theorem dX4_init_31 : decode cX4_init 31 = .ok (.new 25, 3) := by decide +kernel
theorem dX4_init_34 : decode cX4_init 34 = .ok (.dup, 1) := by decide +kernel
theorem dX4_init_35 : decode cX4_init 35 = .ok (.invokespecial 27, 3) := by decide +kernel
theorem dX4_init_38 : decode cX4_init 38 = .ok (.putfield 28, 3) := by decide +kernel
theorem dX4_init_41 : decode cX4_init 41 = .ok (.aload_n 0, 1) := by decide +kernel
theorem dX4_init_42 : decode cX4_init 42 = .ok (.sipush 512, 3) := by decide +kernel
theorem dX4_init_45 : decode cX4_init 45 = .ok (.newarray .int, 2) := by decide +kernel
theorem dX4_init_47 : decode cX4_init 47 = .ok (.putfield 32, 3) := by decide +kernel
theorem dX4_init_50 : decode cX4_init 50 = .ok (.aload_n 0, 1) := by decide +kernel
theorem dX4_init_51 : decode cX4_init 51 = .ok (.sipush 512, 3) := by decide +kernel
theorem dX4_init_54 : decode cX4_init 54 = .ok (.newarray .boolean, 2) := by decide +kernel
theorem dX4_init_56 : decode cX4_init 56 = .ok (.putfield 35, 3) := by decide +kernel
theorem dX4_init_59 : decode cX4_init 59 = .ok (.aload_n 0, 1) := by decide +kernel
theorem dX4_init_60 : decode cX4_init 60 = .ok (.bipush 8, 2) := by decide +kernel
theorem dX4_init_62 : decode cX4_init 62 = .ok (.newarray .int, 2) := by decide +kernel
theorem dX4_init_64 : decode cX4_init 64 = .ok (.putfield 39, 3) := by decide +kernel
theorem dX4_init_67 : decode cX4_init 67 = .ok (.aload_n 0, 1) := by decide +kernel
theorem dX4_init_68 : decode cX4_init 68 = .ok (.iconst 0, 1) := by decide +kernel
theorem dX4_init_69 : decode cX4_init 69 = .ok (.putfield 42, 3) := by decide +kernel
theorem dX4_init_72 : decode cX4_init 72 = .ok (.aload_n 0, 1) := by decide +kernel
theorem dX4_init_73 : decode cX4_init 73 = .ok (.iconst 0, 1) := by decide +kernel
theorem dX4_init_74 : decode cX4_init 74 = .ok (.putfield 46, 3) := by decide +kernel
theorem dX4_init_77 : decode cX4_init 77 = .ok (.iconst 0, 1) := by decide +kernel
theorem dX4_init_78 : decode cX4_init 78 = .ok (.istore_n 1, 1) := by decide +kernel
theorem dX4_init_79 : decode cX4_init 79 = .ok (.iload_n 1, 1) := by decide +kernel
theorem dX4_init_80 : decode cX4_init 80 = .ok (.sipush 256, 3) := by decide +kernel
theorem dX4_init_83 : decode cX4_init 83 = .ok (.if_icmp .ge 16, 3) := by decide +kernel
theorem dX4_init_86 : decode cX4_init 86 = .ok (.aload_n 0, 1) := by decide +kernel
theorem dX4_init_87 : decode cX4_init 87 = .ok (.getfield 9, 3) := by decide +kernel
theorem dX4_init_90 : decode cX4_init 90 = .ok (.iload_n 1, 1) := by decide +kernel
theorem dX4_init_91 : decode cX4_init 91 = .ok (.iload_n 1, 1) := by decide +kernel
theorem dX4_init_92 : decode cX4_init 92 = .ok (.iastore, 1) := by decide +kernel
theorem dX4_init_93 : decode cX4_init 93 = .ok (.iinc 1 1, 3) := by decide +kernel
theorem dX4_init_96 : decode cX4_init 96 = .ok (.goto (-17), 3) := by decide +kernel
theorem dX4_init_99 : decode cX4_init 99 = .ok (.iconst 0, 1) := by decide +kernel
theorem dX4_init_100 : decode cX4_init 100 = .ok (.istore_n 1, 1) := by decide +kernel
theorem dX4_init_101 : decode cX4_init 101 = .ok (.iload_n 1, 1) := by decide +kernel
theorem dX4_init_102 : decode cX4_init 102 = .ok (.bipush 8, 2) := by decide +kernel
theorem dX4_init_104 : decode cX4_init 104 = .ok (.if_icmp .ge 22, 3) := by decide +kernel
theorem dX4_init_107 : decode cX4_init 107 = .ok (.aload_n 0, 1) := by decide +kernel
theorem dX4_init_108 : decode cX4_init 108 = .ok (.getfield 15, 3) := by decide +kernel
theorem dX4_init_111 : decode cX4_init 111 = .ok (.iload_n 1, 1) := by decide +kernel
theorem dX4_init_112 : decode cX4_init 112 = .ok (.new 13, 3) := by decide +kernel
theorem dX4_init_115 : decode cX4_init 115 = .ok (.dup, 1) := by decide +kernel
theorem dX4_init_116 : decode cX4_init 116 = .ok (.invokespecial 50, 3) := by decide +kernel
theorem dX4_init_119 : decode cX4_init 119 = .ok (.aastore, 1) := by decide +kernel
theorem dX4_init_120 : decode cX4_init 120 = .ok (.iinc 1 1, 3) := by decide +kernel
theorem dX4_init_123 : decode cX4_init 123 = .ok (.goto (-22), 3) := by decide +kernel
theorem dX4_init_126 : decode cX4_init 126 = .ok (.iconst 0, 1) := by decide +kernel
theorem dX4_init_127 : decode cX4_init 127 = .ok (.istore_n 1, 1) := by decide +kernel
theorem dX4_init_128 : decode cX4_init 128 = .ok (.iload_n 1, 1) := by decide +kernel
theorem dX4_init_129 : decode cX4_init 129 = .ok (.iconst 3, 1) := by decide +kernel
theorem dX4_init_130 : decode cX4_init 130 = .ok (.if_icmp .ge 22, 3) := by decide +kernel
theorem dX4_init_133 : decode cX4_init 133 = .ok (.aload_n 0, 1) := by decide +kernel
theorem dX4_init_134 : decode cX4_init 134 = .ok (.getfield 21, 3) := by decide +kernel
theorem dX4_init_137 : decode cX4_init 137 = .ok (.iload_n 1, 1) := by decide +kernel
theorem dX4_init_138 : decode cX4_init 138 = .ok (.new 19, 3) := by decide +kernel
theorem dX4_init_141 : decode cX4_init 141 = .ok (.dup, 1) := by decide +kernel
theorem dX4_init_142 : decode cX4_init 142 = .ok (.invokespecial 51, 3) := by decide +kernel
theorem dX4_init_145 : decode cX4_init 145 = .ok (.aastore, 1) := by decide +kernel
theorem dX4_init_146 : decode cX4_init 146 = .ok (.iinc 1 1, 3) := by decide +kernel
theorem dX4_init_149 : decode cX4_init 149 = .ok (.goto (-21), 3) := by decide +kernel
theorem dX4_init_152 : decode cX4_init 152 = .ok (.return_, 1) := by decide +kernel
theorem dX4_ahead_0 : decode cX4_ahead 0 = .ok (.aload_n 0, 1) := by decide +kernel
theorem dX4_ahead_1 : decode cX4_ahead 1 = .ok (.iload_n 1, 1) := by decide +kernel
theorem dX4_ahead_2 : decode cX4_ahead 2 = .ok (.putfield 42, 3) := by decide +kernel
theorem dX4_ahead_5 : decode cX4_ahead 5 = .ok (.return_, 1) := by decide +kernel
theorem dX4_request_0 : decode cX4_request 0 = .ok (.iload_n 1, 1) := by decide +kernel
theorem dX4_request_1 : decode cX4_request 1 = .ok (.ifCond .lt 14, 3) := by decide +kernel
theorem dX4_request_4 : decode cX4_request 4 = .ok (.iload_n 1, 1) := by decide +kernel
theorem dX4_request_5 : decode cX4_request 5 = .ok (.aload_n 0, 1) := by decide +kernel
theorem dX4_request_6 : decode cX4_request 6 = .ok (.getfield 28, 3) := by decide +kernel
theorem dX4_request_9 : decode cX4_request 9 = .ok (.getfield 92, 3) := by decide +kernel
theorem dX4_request_12 : decode cX4_request 12 = .ok (.if_icmp .lt 5, 3) := by decide +kernel
theorem dX4_request_15 : decode cX4_request 15 = .ok (.iconst (-1), 1) := by decide +kernel
theorem dX4_request_16 : decode cX4_request 16 = .ok (.ireturn, 1) := by decide +kernel
theorem dX4_request_17 : decode cX4_request 17 = .ok (.aload_n 0, 1) := by decide +kernel
theorem dX4_request_18 : decode cX4_request 18 = .ok (.getfield 28, 3) := by decide +kernel
theorem dX4_request_21 : decode cX4_request 21 = .ok (.iload_n 1, 1) := by decide +kernel
theorem dX4_request_22 : decode cX4_request 22 = .ok (.invokevirtual 125, 3) := by decide +kernel
theorem dX4_request_25 : decode cX4_request 25 = .ok (.astore_n 2, 1) := by decide +kernel
theorem dX4_request_26 : decode cX4_request 26 = .ok (.aload_n 2, 1) := by decide +kernel
theorem dX4_request_27 : decode cX4_request 27 = .ok (.getfield 129, 3) := by decide +kernel
theorem dX4_request_30 : decode cX4_request 30 = .ok (.ifnonnull 13, 3) := by decide +kernel
theorem dX4_request_33 : decode cX4_request 33 = .ok (.aload_n 2, 1) := by decide +kernel
theorem dX4_request_34 : decode cX4_request 34 = .ok (.getfield 135, 3) := by decide +kernel
theorem dX4_request_37 : decode cX4_request 37 = .ok (.bipush 100, 2) := by decide +kernel
theorem dX4_request_39 : decode cX4_request 39 = .ok (.iadd, 1) := by decide +kernel
theorem dX4_request_40 : decode cX4_request 40 = .ok (.goto 7, 3) := by decide +kernel
theorem dX4_request_43 : decode cX4_request 43 = .ok (.aload_n 2, 1) := by decide +kernel
theorem dX4_request_44 : decode cX4_request 44 = .ok (.getfield 135, 3) := by decide +kernel
theorem dX4_request_47 : decode cX4_request 47 = .ok (.ireturn, 1) := by decide +kernel
theorem dX4_left_0 : decode cX4_left 0 = .ok (.aload_n 0, 1) := by decide +kernel
theorem dX4_left_1 : decode cX4_left 1 = .ok (.getfield 28, 3) := by decide +kernel
theorem dX4_left_4 : decode cX4_left 4 = .ok (.getfield 136, 3) := by decide +kernel
theorem dX4_left_7 : decode cX4_left 7 = .ok (.ireturn, 1) := by decide +kernel
theorem dX4_load_0 : decode cX4_load 0 = .ok (.iload_n 1, 1) := by decide +kernel
theorem dX4_load_1 : decode cX4_load 1 = .ok (.invokestatic 52, 3) := by decide +kernel
theorem dX4_load_4 : decode cX4_load 4 = .ok (.aload_n 0, 1) := by decide +kernel
theorem dX4_load_5 : decode cX4_load 5 = .ok (.iload_n 1, 1) := by decide +kernel
theorem dX4_load_6 : decode cX4_load 6 = .ok (.iconst 0, 1) := by decide +kernel
theorem dX4_load_7 : decode cX4_load 7 = .ok (.iconst 0, 1) := by decide +kernel
theorem dX4_load_8 : decode cX4_load 8 = .ok (.invokevirtual 56, 3) := by decide +kernel
theorem dX4_load_11 : decode cX4_load 11 = .ok (.invokestatic 60, 3) := by decide +kernel
theorem dX4_load_14 : decode cX4_load 14 = .ok (.ireturn, 1) := by decide +kernel
theorem dX4_checkAddress_0 : decode cX4_checkAddress 0 = .ok (.iload_n 0, 1) := by decide +kernel
theorem dX4_checkAddress_1 : decode cX4_checkAddress 1 = .ok (.ifCond .lt 10, 3) := by decide +kernel
theorem dX4_checkAddress_4 : decode cX4_checkAddress 4 = .ok (.iload_n 0, 1) := by decide +kernel
theorem dX4_checkAddress_5 : decode cX4_checkAddress 5 = .ok (.sipush 256, 3) := by decide +kernel
theorem dX4_checkAddress_8 : decode cX4_checkAddress 8 = .ok (.if_icmp .lt 13, 3) := by decide +kernel
theorem dX4_checkAddress_11 : decode cX4_checkAddress 11 = .ok (.new 72, 3) := by decide +kernel
theorem dX4_checkAddress_14 : decode cX4_checkAddress 14 = .ok (.dup, 1) := by decide +kernel
theorem dX4_checkAddress_15 : decode cX4_checkAddress 15 = .ok (.ldc 141, 2) := by decide +kernel
theorem dX4_checkAddress_17 : decode cX4_checkAddress 17 = .ok (.invokespecial 76, 3) := by decide +kernel
theorem dX4_checkAddress_20 : decode cX4_checkAddress 20 = .ok (.athrow, 1) := by decide +kernel
theorem dX4_checkAddress_21 : decode cX4_checkAddress 21 = .ok (.return_, 1) := by decide +kernel
theorem dX4_issue_0 : decode cX4_issue 0 = .ok (.aload_n 0, 1) := by decide +kernel
theorem dX4_issue_1 : decode cX4_issue 1 = .ok (.getfield 39, 3) := by decide +kernel
theorem dX4_issue_4 : decode cX4_issue 4 = .ok (.iconst 0, 1) := by decide +kernel
theorem dX4_issue_5 : decode cX4_issue 5 = .ok (.iaload, 1) := by decide +kernel
theorem dX4_issue_6 : decode cX4_issue 6 = .ok (.istore 4, 2) := by decide +kernel
theorem dX4_issue_8 : decode cX4_issue 8 = .ok (.iload 4, 2) := by decide +kernel
theorem dX4_issue_10 : decode cX4_issue 10 = .ok (.sipush 512, 3) := by decide +kernel
theorem dX4_issue_13 : decode cX4_issue 13 = .ok (.if_icmp .ge 15, 3) := by decide +kernel
theorem dX4_issue_16 : decode cX4_issue 16 = .ok (.aload_n 0, 1) := by decide +kernel
theorem dX4_issue_17 : decode cX4_issue 17 = .ok (.iload 4, 2) := by decide +kernel
theorem dX4_issue_19 : decode cX4_issue 19 = .ok (.iload_n 1, 1) := by decide +kernel
theorem dX4_issue_20 : decode cX4_issue 20 = .ok (.iload_n 2, 1) := by decide +kernel
theorem dX4_issue_21 : decode cX4_issue 21 = .ok (.iload_n 3, 1) := by decide +kernel
theorem dX4_issue_22 : decode cX4_issue 22 = .ok (.invokevirtual 147, 3) := by decide +kernel
theorem dX4_issue_25 : decode cX4_issue 25 = .ok (.ifCond .ne 15, 3) := by decide +kernel
theorem dX4_issue_28 : decode cX4_issue 28 = .ok (.aload_n 0, 1) := by decide +kernel
theorem dX4_issue_29 : decode cX4_issue 29 = .ok (.getfield 39, 3) := by decide +kernel
theorem dX4_issue_32 : decode cX4_issue 32 = .ok (.iconst 4, 1) := by decide +kernel
theorem dX4_issue_33 : decode cX4_issue 33 = .ok (.dup2, 1) := by decide +kernel
theorem dX4_issue_34 : decode cX4_issue 34 = .ok (.iaload, 1) := by decide +kernel
theorem dX4_issue_35 : decode cX4_issue 35 = .ok (.iconst 1, 1) := by decide +kernel
theorem dX4_issue_36 : decode cX4_issue 36 = .ok (.iadd, 1) := by decide +kernel
theorem dX4_issue_37 : decode cX4_issue 37 = .ok (.iastore, 1) := by decide +kernel
theorem dX4_issue_38 : decode cX4_issue 38 = .ok (.iconst (-1), 1) := by decide +kernel
theorem dX4_issue_39 : decode cX4_issue 39 = .ok (.ireturn, 1) := by decide +kernel
theorem dX4_issue_40 : decode cX4_issue 40 = .ok (.aload_n 0, 1) := by decide +kernel
theorem dX4_issue_41 : decode cX4_issue 41 = .ok (.getfield 39, 3) := by decide +kernel
theorem dX4_issue_44 : decode cX4_issue 44 = .ok (.iconst 0, 1) := by decide +kernel
theorem dX4_issue_45 : decode cX4_issue 45 = .ok (.dup2, 1) := by decide +kernel
theorem dX4_issue_46 : decode cX4_issue 46 = .ok (.iaload, 1) := by decide +kernel
theorem dX4_issue_47 : decode cX4_issue 47 = .ok (.iconst 1, 1) := by decide +kernel
theorem dX4_issue_48 : decode cX4_issue 48 = .ok (.iadd, 1) := by decide +kernel
theorem dX4_issue_49 : decode cX4_issue 49 = .ok (.iastore, 1) := by decide +kernel
theorem dX4_issue_50 : decode cX4_issue 50 = .ok (.iload 4, 2) := by decide +kernel
theorem dX4_issue_52 : decode cX4_issue 52 = .ok (.ireturn, 1) := by decide +kernel
theorem dX4_isTaken_0 : decode cX4_isTaken 0 = .ok (.iload_n 2, 1) := by decide +kernel
theorem dX4_isTaken_1 : decode cX4_isTaken 1 = .ok (.iconst 4, 1) := by decide +kernel
theorem dX4_isTaken_2 : decode cX4_isTaken 2 = .ok (.idiv, 1) := by decide +kernel
theorem dX4_isTaken_3 : decode cX4_isTaken 3 = .ok (.istore 5, 2) := by decide +kernel
theorem dX4_isTaken_5 : decode cX4_isTaken 5 = .ok (.iload_n 2, 1) := by decide +kernel
theorem dX4_isTaken_6 : decode cX4_isTaken 6 = .ok (.iconst 4, 1) := by decide +kernel
theorem dX4_isTaken_7 : decode cX4_isTaken 7 = .ok (.irem, 1) := by decide +kernel
theorem dX4_isTaken_8 : decode cX4_isTaken 8 = .ok (.istore 6, 2) := by decide +kernel
theorem dX4_isTaken_10 : decode cX4_isTaken 10 = .ok (.aload_n 0, 1) := by decide +kernel
theorem dX4_isTaken_11 : decode cX4_isTaken 11 = .ok (.getfield 32, 3) := by decide +kernel
theorem dX4_isTaken_14 : decode cX4_isTaken 14 = .ok (.iload_n 1, 1) := by decide +kernel
theorem dX4_isTaken_15 : decode cX4_isTaken 15 = .ok (.iload 4, 2) := by decide +kernel
theorem dX4_isTaken_17 : decode cX4_isTaken 17 = .ok (.iastore, 1) := by decide +kernel
theorem dX4_isTaken_18 : decode cX4_isTaken 18 = .ok (.aload_n 0, 1) := by decide +kernel
theorem dX4_isTaken_19 : decode cX4_isTaken 19 = .ok (.iload 5, 2) := by decide +kernel
theorem dX4_isTaken_21 : decode cX4_isTaken 21 = .ok (.invokevirtual 118, 3) := by decide +kernel
theorem dX4_isTaken_24 : decode cX4_isTaken 24 = .ok (.astore 7, 2) := by decide +kernel
theorem dX4_isTaken_26 : decode cX4_isTaken 26 = .ok (.aload 7, 2) := by decide +kernel
theorem dX4_isTaken_28 : decode cX4_isTaken 28 = .ok (.ifnonnull 14, 3) := by decide +kernel
theorem dX4_isTaken_31 : decode cX4_isTaken 31 = .ok (.aload_n 0, 1) := by decide +kernel
theorem dX4_isTaken_32 : decode cX4_isTaken 32 = .ok (.iload 5, 2) := by decide +kernel
theorem dX4_isTaken_34 : decode cX4_isTaken 34 = .ok (.iload_n 1, 1) := by decide +kernel
theorem dX4_isTaken_35 : decode cX4_isTaken 35 = .ok (.iload 6, 2) := by decide +kernel
theorem dX4_isTaken_37 : decode cX4_isTaken 37 = .ok (.iload_n 3, 1) := by decide +kernel
theorem dX4_isTaken_38 : decode cX4_isTaken 38 = .ok (.invokevirtual 151, 3) := by decide +kernel
theorem dX4_isTaken_41 : decode cX4_isTaken 41 = .ok (.ireturn, 1) := by decide +kernel
theorem dX4_isTaken_42 : decode cX4_isTaken 42 = .ok (.aload 7, 2) := by decide +kernel
theorem dX4_isTaken_44 : decode cX4_isTaken 44 = .ok (.getfield 112, 3) := by decide +kernel
theorem dX4_isTaken_47 : decode cX4_isTaken 47 = .ok (.ifnull 19, 3) := by decide +kernel
theorem dX4_isTaken_50 : decode cX4_isTaken 50 = .ok (.aload_n 0, 1) := by decide +kernel
theorem dX4_isTaken_51 : decode cX4_isTaken 51 = .ok (.aload 7, 2) := by decide +kernel
theorem dX4_isTaken_53 : decode cX4_isTaken 53 = .ok (.aload 7, 2) := by decide +kernel
theorem dX4_isTaken_55 : decode cX4_isTaken 55 = .ok (.getfield 112, 3) := by decide +kernel
theorem dX4_isTaken_58 : decode cX4_isTaken 58 = .ok (.iload_n 1, 1) := by decide +kernel
theorem dX4_isTaken_59 : decode cX4_isTaken 59 = .ok (.iload 6, 2) := by decide +kernel
theorem dX4_isTaken_61 : decode cX4_isTaken 61 = .ok (.iload_n 3, 1) := by decide +kernel
theorem dX4_isTaken_62 : decode cX4_isTaken 62 = .ok (.invokevirtual 155, 3) := by decide +kernel
theorem dX4_isTaken_65 : decode cX4_isTaken 65 = .ok (.ireturn, 1) := by decide +kernel
theorem dX4_isTaken_66 : decode cX4_isTaken 66 = .ok (.aload_n 0, 1) := by decide +kernel
theorem dX4_isTaken_67 : decode cX4_isTaken 67 = .ok (.getfield 39, 3) := by decide +kernel
theorem dX4_isTaken_70 : decode cX4_isTaken 70 = .ok (.iconst 1, 1) := by decide +kernel
theorem dX4_isTaken_71 : decode cX4_isTaken 71 = .ok (.dup2, 1) := by decide +kernel
theorem dX4_isTaken_72 : decode cX4_isTaken 72 = .ok (.iaload, 1) := by decide +kernel
theorem dX4_isTaken_73 : decode cX4_isTaken 73 = .ok (.iconst 1, 1) := by decide +kernel
theorem dX4_isTaken_74 : decode cX4_isTaken 74 = .ok (.iadd, 1) := by decide +kernel
theorem dX4_isTaken_75 : decode cX4_isTaken 75 = .ok (.iastore, 1) := by decide +kernel
theorem dX4_isTaken_76 : decode cX4_isTaken 76 = .ok (.aload_n 0, 1) := by decide +kernel
theorem dX4_isTaken_77 : decode cX4_isTaken 77 = .ok (.aload 7, 2) := by decide +kernel
theorem dX4_isTaken_79 : decode cX4_isTaken 79 = .ok (.invokevirtual 159, 3) := by decide +kernel
theorem dX4_isTaken_82 : decode cX4_isTaken 82 = .ok (.aload_n 0, 1) := by decide +kernel
theorem dX4_isTaken_83 : decode cX4_isTaken 83 = .ok (.aload 7, 2) := by decide +kernel
theorem dX4_isTaken_85 : decode cX4_isTaken 85 = .ok (.iload_n 1, 1) := by decide +kernel
theorem dX4_isTaken_86 : decode cX4_isTaken 86 = .ok (.iload 6, 2) := by decide +kernel
theorem dX4_isTaken_88 : decode cX4_isTaken 88 = .ok (.iload_n 3, 1) := by decide +kernel
theorem dX4_isTaken_89 : decode cX4_isTaken 89 = .ok (.invokevirtual 163, 3) := by decide +kernel
theorem dX4_isTaken_92 : decode cX4_isTaken 92 = .ok (.iconst 1, 1) := by decide +kernel
theorem dX4_isTaken_93 : decode cX4_isTaken 93 = .ok (.ireturn, 1) := by decide +kernel
theorem dX4_findWay_0 : decode cX4_findWay 0 = .ok (.iload_n 1, 1) := by decide +kernel
theorem dX4_findWay_1 : decode cX4_findWay 1 = .ok (.iconst 4, 1) := by decide +kernel
theorem dX4_findWay_2 : decode cX4_findWay 2 = .ok (.irem, 1) := by decide +kernel
theorem dX4_findWay_3 : decode cX4_findWay 3 = .ok (.iconst 2, 1) := by decide +kernel
theorem dX4_findWay_4 : decode cX4_findWay 4 = .ok (.imul, 1) := by decide +kernel
theorem dX4_findWay_5 : decode cX4_findWay 5 = .ok (.istore_n 2, 1) := by decide +kernel
theorem dX4_findWay_6 : decode cX4_findWay 6 = .ok (.iload_n 2, 1) := by decide +kernel
theorem dX4_findWay_7 : decode cX4_findWay 7 = .ok (.istore_n 3, 1) := by decide +kernel
theorem dX4_findWay_8 : decode cX4_findWay 8 = .ok (.iload_n 3, 1) := by decide +kernel
theorem dX4_findWay_9 : decode cX4_findWay 9 = .ok (.iload_n 2, 1) := by decide +kernel
theorem dX4_findWay_10 : decode cX4_findWay 10 = .ok (.iconst 2, 1) := by decide +kernel
theorem dX4_findWay_11 : decode cX4_findWay 11 = .ok (.iadd, 1) := by decide +kernel
theorem dX4_findWay_12 : decode cX4_findWay 12 = .ok (.if_icmp .ge 29, 3) := by decide +kernel
theorem dX4_findWay_15 : decode cX4_findWay 15 = .ok (.aload_n 0, 1) := by decide +kernel
theorem dX4_findWay_16 : decode cX4_findWay 16 = .ok (.getfield 15, 3) := by decide +kernel
theorem dX4_findWay_19 : decode cX4_findWay 19 = .ok (.iload_n 3, 1) := by decide +kernel
theorem dX4_findWay_20 : decode cX4_findWay 20 = .ok (.aaload, 1) := by decide +kernel
theorem dX4_findWay_21 : decode cX4_findWay 21 = .ok (.getfield 100, 3) := by decide +kernel
theorem dX4_findWay_24 : decode cX4_findWay 24 = .ok (.iload_n 1, 1) := by decide +kernel
theorem dX4_findWay_25 : decode cX4_findWay 25 = .ok (.if_icmp .ne 10, 3) := by decide +kernel
theorem dX4_findWay_28 : decode cX4_findWay 28 = .ok (.aload_n 0, 1) := by decide +kernel
theorem dX4_findWay_29 : decode cX4_findWay 29 = .ok (.getfield 15, 3) := by decide +kernel
theorem dX4_findWay_32 : decode cX4_findWay 32 = .ok (.iload_n 3, 1) := by decide +kernel
theorem dX4_findWay_33 : decode cX4_findWay 33 = .ok (.aaload, 1) := by decide +kernel
theorem dX4_findWay_34 : decode cX4_findWay 34 = .ok (.areturn, 1) := by decide +kernel
theorem dX4_findWay_35 : decode cX4_findWay 35 = .ok (.iinc 3 1, 3) := by decide +kernel
theorem dX4_findWay_38 : decode cX4_findWay 38 = .ok (.goto (-30), 3) := by decide +kernel
theorem dX4_findWay_41 : decode cX4_findWay 41 = .ok (.aconst_null, 1) := by decide +kernel
theorem dX4_findWay_42 : decode cX4_findWay 42 = .ok (.areturn, 1) := by decide +kernel
theorem dX4_misses_0 : decode cX4_misses 0 = .ok (.aload_n 0, 1) := by decide +kernel
theorem dX4_misses_1 : decode cX4_misses 1 = .ok (.invokevirtual 171, 3) := by decide +kernel
theorem dX4_misses_4 : decode cX4_misses 4 = .ok (.astore 5, 2) := by decide +kernel
theorem dX4_misses_6 : decode cX4_misses 6 = .ok (.aload_n 0, 1) := by decide +kernel
theorem dX4_misses_7 : decode cX4_misses 7 = .ok (.iload_n 1, 1) := by decide +kernel
theorem dX4_misses_8 : decode cX4_misses 8 = .ok (.invokevirtual 175, 3) := by decide +kernel
theorem dX4_misses_11 : decode cX4_misses 11 = .ok (.astore 6, 2) := by decide +kernel
theorem dX4_misses_13 : decode cX4_misses 13 = .ok (.aload 5, 2) := by decide +kernel
theorem dX4_misses_15 : decode cX4_misses 15 = .ok (.ifnull 27, 3) := by decide +kernel
theorem dX4_misses_18 : decode cX4_misses 18 = .ok (.aload 6, 2) := by decide +kernel
theorem dX4_misses_20 : decode cX4_misses 20 = .ok (.ifnull 22, 3) := by decide +kernel
theorem dX4_misses_23 : decode cX4_misses 23 = .ok (.aload 6, 2) := by decide +kernel
theorem dX4_misses_25 : decode cX4_misses 25 = .ok (.getfield 97, 3) := by decide +kernel
theorem dX4_misses_28 : decode cX4_misses 28 = .ok (.ifCond .eq 16, 3) := by decide +kernel
theorem dX4_misses_31 : decode cX4_misses 31 = .ok (.aload_n 0, 1) := by decide +kernel
theorem dX4_misses_32 : decode cX4_misses 32 = .ok (.getfield 28, 3) := by decide +kernel
theorem dX4_misses_35 : decode cX4_misses 35 = .ok (.invokevirtual 178, 3) := by decide +kernel
theorem dX4_misses_38 : decode cX4_misses 38 = .ok (.iconst 2, 1) := by decide +kernel
theorem dX4_misses_39 : decode cX4_misses 39 = .ok (.if_icmp .lt 5, 3) := by decide +kernel
theorem dX4_misses_42 : decode cX4_misses 42 = .ok (.iconst 0, 1) := by decide +kernel
theorem dX4_misses_43 : decode cX4_misses 43 = .ok (.ireturn, 1) := by decide +kernel
theorem dX4_misses_44 : decode cX4_misses 44 = .ok (.aload_n 0, 1) := by decide +kernel
theorem dX4_misses_45 : decode cX4_misses 45 = .ok (.getfield 39, 3) := by decide +kernel
theorem dX4_misses_48 : decode cX4_misses 48 = .ok (.iconst 3, 1) := by decide +kernel
theorem dX4_misses_49 : decode cX4_misses 49 = .ok (.dup2, 1) := by decide +kernel
theorem dX4_misses_50 : decode cX4_misses 50 = .ok (.iaload, 1) := by decide +kernel
theorem dX4_misses_51 : decode cX4_misses 51 = .ok (.iconst 1, 1) := by decide +kernel
theorem dX4_misses_52 : decode cX4_misses 52 = .ok (.iadd, 1) := by decide +kernel
theorem dX4_misses_53 : decode cX4_misses 53 = .ok (.iastore, 1) := by decide +kernel
theorem dX4_misses_54 : decode cX4_misses 54 = .ok (.aload 6, 2) := by decide +kernel
theorem dX4_misses_56 : decode cX4_misses 56 = .ok (.getfield 97, 3) := by decide +kernel
theorem dX4_misses_59 : decode cX4_misses 59 = .ok (.ifCond .eq 31, 3) := by decide +kernel
theorem dX4_misses_62 : decode cX4_misses 62 = .ok (.aload_n 0, 1) := by decide +kernel
theorem dX4_misses_63 : decode cX4_misses 63 = .ok (.getfield 28, 3) := by decide +kernel
theorem dX4_misses_66 : decode cX4_misses 66 = .ok (.aload 6, 2) := by decide +kernel
theorem dX4_misses_68 : decode cX4_misses 68 = .ok (.getfield 100, 3) := by decide +kernel
theorem dX4_misses_71 : decode cX4_misses 71 = .ok (.aload 6, 2) := by decide +kernel
theorem dX4_misses_73 : decode cX4_misses 73 = .ok (.getfield 103, 3) := by decide +kernel
theorem dX4_misses_76 : decode cX4_misses 76 = .ok (.invokevirtual 181, 3) := by decide +kernel
theorem dX4_misses_79 : decode cX4_misses 79 = .ok (.aload_n 0, 1) := by decide +kernel
theorem dX4_misses_80 : decode cX4_misses 80 = .ok (.getfield 39, 3) := by decide +kernel
theorem dX4_misses_83 : decode cX4_misses 83 = .ok (.bipush 6, 2) := by decide +kernel
theorem dX4_misses_85 : decode cX4_misses 85 = .ok (.dup2, 1) := by decide +kernel
theorem dX4_misses_86 : decode cX4_misses 86 = .ok (.iaload, 1) := by decide +kernel
theorem dX4_misses_87 : decode cX4_misses 87 = .ok (.iconst 1, 1) := by decide +kernel
theorem dX4_misses_88 : decode cX4_misses 88 = .ok (.iadd, 1) := by decide +kernel
theorem dX4_misses_89 : decode cX4_misses 89 = .ok (.iastore, 1) := by decide +kernel
theorem dX4_misses_90 : decode cX4_misses 90 = .ok (.aload_n 0, 1) := by decide +kernel
theorem dX4_misses_91 : decode cX4_misses 91 = .ok (.iload_n 1, 1) := by decide +kernel
theorem dX4_misses_92 : decode cX4_misses 92 = .ok (.aload 6, 2) := by decide +kernel
theorem dX4_misses_94 : decode cX4_misses 94 = .ok (.aload 5, 2) := by decide +kernel
theorem dX4_misses_96 : decode cX4_misses 96 = .ok (.invokevirtual 184, 3) := by decide +kernel
theorem dX4_misses_99 : decode cX4_misses 99 = .ok (.aload 5, 2) := by decide +kernel
theorem dX4_misses_101 : decode cX4_misses 101 = .ok (.iload_n 2, 1) := by decide +kernel
theorem dX4_misses_102 : decode cX4_misses 102 = .ok (.iload_n 3, 1) := by decide +kernel
theorem dX4_misses_103 : decode cX4_misses 103 = .ok (.iload 4, 2) := by decide +kernel
theorem dX4_misses_105 : decode cX4_misses 105 = .ok (.invokevirtual 167, 3) := by decide +kernel
theorem dX4_misses_108 : decode cX4_misses 108 = .ok (.aload_n 0, 1) := by decide +kernel
theorem dX4_misses_109 : decode cX4_misses 109 = .ok (.getfield 42, 3) := by decide +kernel
theorem dX4_misses_112 : decode cX4_misses 112 = .ok (.ifCond .eq 10, 3) := by decide +kernel
theorem dX4_misses_115 : decode cX4_misses 115 = .ok (.aload_n 0, 1) := by decide +kernel
theorem dX4_misses_116 : decode cX4_misses 116 = .ok (.iload_n 1, 1) := by decide +kernel
theorem dX4_misses_117 : decode cX4_misses 117 = .ok (.iconst 1, 1) := by decide +kernel
theorem dX4_misses_118 : decode cX4_misses 118 = .ok (.iadd, 1) := by decide +kernel
theorem dX4_misses_119 : decode cX4_misses 119 = .ok (.invokevirtual 188, 3) := by decide +kernel
theorem dX4_misses_122 : decode cX4_misses 122 = .ok (.iconst 1, 1) := by decide +kernel
theorem dX4_misses_123 : decode cX4_misses 123 = .ok (.ireturn, 1) := by decide +kernel
theorem dX4_findFreeRegister_0 : decode cX4_findFreeRegister 0 = .ok (.iconst 0, 1) := by decide +kernel
theorem dX4_findFreeRegister_1 : decode cX4_findFreeRegister 1 = .ok (.istore_n 1, 1) := by decide +kernel
theorem dX4_findFreeRegister_2 : decode cX4_findFreeRegister 2 = .ok (.iload_n 1, 1) := by decide +kernel
theorem dX4_findFreeRegister_3 : decode cX4_findFreeRegister 3 = .ok (.iconst 3, 1) := by decide +kernel
theorem dX4_findFreeRegister_4 : decode cX4_findFreeRegister 4 = .ok (.if_icmp .ge 28, 3) := by decide +kernel
theorem dX4_findFreeRegister_7 : decode cX4_findFreeRegister 7 = .ok (.aload_n 0, 1) := by decide +kernel
theorem dX4_findFreeRegister_8 : decode cX4_findFreeRegister 8 = .ok (.getfield 21, 3) := by decide +kernel
theorem dX4_findFreeRegister_11 : decode cX4_findFreeRegister 11 = .ok (.iload_n 1, 1) := by decide +kernel
theorem dX4_findFreeRegister_12 : decode cX4_findFreeRegister 12 = .ok (.aaload, 1) := by decide +kernel
theorem dX4_findFreeRegister_13 : decode cX4_findFreeRegister 13 = .ok (.getfield 191, 3) := by decide +kernel
theorem dX4_findFreeRegister_16 : decode cX4_findFreeRegister 16 = .ok (.ifCond .ne 10, 3) := by decide +kernel
theorem dX4_findFreeRegister_19 : decode cX4_findFreeRegister 19 = .ok (.aload_n 0, 1) := by decide +kernel
theorem dX4_findFreeRegister_20 : decode cX4_findFreeRegister 20 = .ok (.getfield 21, 3) := by decide +kernel
theorem dX4_findFreeRegister_23 : decode cX4_findFreeRegister 23 = .ok (.iload_n 1, 1) := by decide +kernel
theorem dX4_findFreeRegister_24 : decode cX4_findFreeRegister 24 = .ok (.aaload, 1) := by decide +kernel
theorem dX4_findFreeRegister_25 : decode cX4_findFreeRegister 25 = .ok (.areturn, 1) := by decide +kernel
theorem dX4_findFreeRegister_26 : decode cX4_findFreeRegister 26 = .ok (.iinc 1 1, 3) := by decide +kernel
theorem dX4_findFreeRegister_29 : decode cX4_findFreeRegister 29 = .ok (.goto (-27), 3) := by decide +kernel
theorem dX4_findFreeRegister_32 : decode cX4_findFreeRegister 32 = .ok (.aconst_null, 1) := by decide +kernel
theorem dX4_findFreeRegister_33 : decode cX4_findFreeRegister 33 = .ok (.areturn, 1) := by decide +kernel
theorem dX4_chooseWay_0 : decode cX4_chooseWay 0 = .ok (.iload_n 1, 1) := by decide +kernel
theorem dX4_chooseWay_1 : decode cX4_chooseWay 1 = .ok (.iconst 4, 1) := by decide +kernel
theorem dX4_chooseWay_2 : decode cX4_chooseWay 2 = .ok (.irem, 1) := by decide +kernel
theorem dX4_chooseWay_3 : decode cX4_chooseWay 3 = .ok (.iconst 2, 1) := by decide +kernel
theorem dX4_chooseWay_4 : decode cX4_chooseWay 4 = .ok (.imul, 1) := by decide +kernel
theorem dX4_chooseWay_5 : decode cX4_chooseWay 5 = .ok (.istore_n 2, 1) := by decide +kernel
theorem dX4_chooseWay_6 : decode cX4_chooseWay 6 = .ok (.aconst_null, 1) := by decide +kernel
theorem dX4_chooseWay_7 : decode cX4_chooseWay 7 = .ok (.astore_n 3, 1) := by decide +kernel
theorem dX4_chooseWay_8 : decode cX4_chooseWay 8 = .ok (.iload_n 2, 1) := by decide +kernel
theorem dX4_chooseWay_9 : decode cX4_chooseWay 9 = .ok (.istore 4, 2) := by decide +kernel
theorem dX4_chooseWay_11 : decode cX4_chooseWay 11 = .ok (.iload 4, 2) := by decide +kernel
theorem dX4_chooseWay_13 : decode cX4_chooseWay 13 = .ok (.iload_n 2, 1) := by decide +kernel
theorem dX4_chooseWay_14 : decode cX4_chooseWay 14 = .ok (.iconst 2, 1) := by decide +kernel
theorem dX4_chooseWay_15 : decode cX4_chooseWay 15 = .ok (.iadd, 1) := by decide +kernel
theorem dX4_chooseWay_16 : decode cX4_chooseWay 16 = .ok (.if_icmp .ge 57, 3) := by decide +kernel
theorem dX4_chooseWay_19 : decode cX4_chooseWay 19 = .ok (.aload_n 0, 1) := by decide +kernel
theorem dX4_chooseWay_20 : decode cX4_chooseWay 20 = .ok (.getfield 15, 3) := by decide +kernel
theorem dX4_chooseWay_23 : decode cX4_chooseWay 23 = .ok (.iload 4, 2) := by decide +kernel
theorem dX4_chooseWay_25 : decode cX4_chooseWay 25 = .ok (.aaload, 1) := by decide +kernel
theorem dX4_chooseWay_26 : decode cX4_chooseWay 26 = .ok (.astore 5, 2) := by decide +kernel
theorem dX4_chooseWay_28 : decode cX4_chooseWay 28 = .ok (.aload 5, 2) := by decide +kernel
theorem dX4_chooseWay_30 : decode cX4_chooseWay 30 = .ok (.getfield 100, 3) := by decide +kernel
theorem dX4_chooseWay_33 : decode cX4_chooseWay 33 = .ok (.iconst (-1), 1) := by decide +kernel
theorem dX4_chooseWay_34 : decode cX4_chooseWay 34 = .ok (.if_icmp .ne 6, 3) := by decide +kernel
theorem dX4_chooseWay_37 : decode cX4_chooseWay 37 = .ok (.aload 5, 2) := by decide +kernel
theorem dX4_chooseWay_39 : decode cX4_chooseWay 39 = .ok (.areturn, 1) := by decide +kernel
theorem dX4_chooseWay_40 : decode cX4_chooseWay 40 = .ok (.aload 5, 2) := by decide +kernel
theorem dX4_chooseWay_42 : decode cX4_chooseWay 42 = .ok (.getfield 112, 3) := by decide +kernel
theorem dX4_chooseWay_45 : decode cX4_chooseWay 45 = .ok (.ifnonnull 22, 3) := by decide +kernel
theorem dX4_chooseWay_48 : decode cX4_chooseWay 48 = .ok (.aload_n 3, 1) := by decide +kernel
theorem dX4_chooseWay_49 : decode cX4_chooseWay 49 = .ok (.ifnull 15, 3) := by decide +kernel
theorem dX4_chooseWay_52 : decode cX4_chooseWay 52 = .ok (.aload 5, 2) := by decide +kernel
theorem dX4_chooseWay_54 : decode cX4_chooseWay 54 = .ok (.getfield 198, 3) := by decide +kernel
theorem dX4_chooseWay_57 : decode cX4_chooseWay 57 = .ok (.aload_n 3, 1) := by decide +kernel
theorem dX4_chooseWay_58 : decode cX4_chooseWay 58 = .ok (.getfield 198, 3) := by decide +kernel
theorem dX4_chooseWay_61 : decode cX4_chooseWay 61 = .ok (.if_icmp .ge 6, 3) := by decide +kernel
theorem dX4_chooseWay_64 : decode cX4_chooseWay 64 = .ok (.aload 5, 2) := by decide +kernel
theorem dX4_chooseWay_66 : decode cX4_chooseWay 66 = .ok (.astore_n 3, 1) := by decide +kernel
theorem dX4_chooseWay_67 : decode cX4_chooseWay 67 = .ok (.iinc 4 1, 3) := by decide +kernel
theorem dX4_chooseWay_70 : decode cX4_chooseWay 70 = .ok (.goto (-59), 3) := by decide +kernel
theorem dX4_chooseWay_73 : decode cX4_chooseWay 73 = .ok (.aload_n 3, 1) := by decide +kernel
theorem dX4_chooseWay_74 : decode cX4_chooseWay 74 = .ok (.areturn, 1) := by decide +kernel
theorem dX4_fetch_0 : decode cX4_fetch 0 = .ok (.aload_n 3, 1) := by decide +kernel
theorem dX4_fetch_1 : decode cX4_fetch 1 = .ok (.iconst 1, 1) := by decide +kernel
theorem dX4_fetch_2 : decode cX4_fetch 2 = .ok (.putfield 191, 3) := by decide +kernel
theorem dX4_fetch_5 : decode cX4_fetch 5 = .ok (.aload_n 3, 1) := by decide +kernel
theorem dX4_fetch_6 : decode cX4_fetch 6 = .ok (.iconst 0, 1) := by decide +kernel
theorem dX4_fetch_7 : decode cX4_fetch 7 = .ok (.putfield 122, 3) := by decide +kernel
theorem dX4_fetch_10 : decode cX4_fetch 10 = .ok (.aload_n 2, 1) := by decide +kernel
theorem dX4_fetch_11 : decode cX4_fetch 11 = .ok (.iload_n 1, 1) := by decide +kernel
theorem dX4_fetch_12 : decode cX4_fetch 12 = .ok (.putfield 100, 3) := by decide +kernel
theorem dX4_fetch_15 : decode cX4_fetch 15 = .ok (.aload_n 2, 1) := by decide +kernel
theorem dX4_fetch_16 : decode cX4_fetch 16 = .ok (.iconst 0, 1) := by decide +kernel
theorem dX4_fetch_17 : decode cX4_fetch 17 = .ok (.putfield 97, 3) := by decide +kernel
theorem dX4_fetch_20 : decode cX4_fetch 20 = .ok (.aload_n 2, 1) := by decide +kernel
theorem dX4_fetch_21 : decode cX4_fetch 21 = .ok (.aload_n 3, 1) := by decide +kernel
theorem dX4_fetch_22 : decode cX4_fetch 22 = .ok (.putfield 112, 3) := by decide +kernel
theorem dX4_fetch_25 : decode cX4_fetch 25 = .ok (.aload_n 0, 1) := by decide +kernel
theorem dX4_fetch_26 : decode cX4_fetch 26 = .ok (.aload_n 2, 1) := by decide +kernel
theorem dX4_fetch_27 : decode cX4_fetch 27 = .ok (.invokevirtual 159, 3) := by decide +kernel
theorem dX4_fetch_30 : decode cX4_fetch 30 = .ok (.aload_n 0, 1) := by decide +kernel
theorem dX4_fetch_31 : decode cX4_fetch 31 = .ok (.getfield 28, 3) := by decide +kernel
theorem dX4_fetch_34 : decode cX4_fetch 34 = .ok (.iload_n 1, 1) := by decide +kernel
theorem dX4_fetch_35 : decode cX4_fetch 35 = .ok (.aload_n 2, 1) := by decide +kernel
theorem dX4_fetch_36 : decode cX4_fetch 36 = .ok (.invokevirtual 194, 3) := by decide +kernel
theorem dX4_fetch_39 : decode cX4_fetch 39 = .ok (.pop, 1) := by decide +kernel
theorem dX4_fetch_40 : decode cX4_fetch 40 = .ok (.return_, 1) := by decide +kernel
theorem dX4_use_0 : decode cX4_use 0 = .ok (.aload_n 0, 1) := by decide +kernel
theorem dX4_use_1 : decode cX4_use 1 = .ok (.dup, 1) := by decide +kernel
theorem dX4_use_2 : decode cX4_use 2 = .ok (.getfield 46, 3) := by decide +kernel
theorem dX4_use_5 : decode cX4_use 5 = .ok (.iconst 1, 1) := by decide +kernel
theorem dX4_use_6 : decode cX4_use 6 = .ok (.iadd, 1) := by decide +kernel
theorem dX4_use_7 : decode cX4_use 7 = .ok (.putfield 46, 3) := by decide +kernel
theorem dX4_use_10 : decode cX4_use 10 = .ok (.aload_n 1, 1) := by decide +kernel
theorem dX4_use_11 : decode cX4_use 11 = .ok (.aload_n 0, 1) := by decide +kernel
theorem dX4_use_12 : decode cX4_use 12 = .ok (.getfield 46, 3) := by decide +kernel
theorem dX4_use_15 : decode cX4_use 15 = .ok (.putfield 198, 3) := by decide +kernel
theorem dX4_use_18 : decode cX4_use 18 = .ok (.return_, 1) := by decide +kernel
theorem dX4_fetchIfWanted_0 : decode cX4_fetchIfWanted 0 = .ok (.iload_n 1, 1) := by decide +kernel
theorem dX4_fetchIfWanted_1 : decode cX4_fetchIfWanted 1 = .ok (.bipush 64, 2) := by decide +kernel
theorem dX4_fetchIfWanted_3 : decode cX4_fetchIfWanted 3 = .ok (.if_icmp .ge 11, 3) := by decide +kernel
theorem dX4_fetchIfWanted_6 : decode cX4_fetchIfWanted 6 = .ok (.aload_n 0, 1) := by decide +kernel
theorem dX4_fetchIfWanted_7 : decode cX4_fetchIfWanted 7 = .ok (.iload_n 1, 1) := by decide +kernel
theorem dX4_fetchIfWanted_8 : decode cX4_fetchIfWanted 8 = .ok (.invokevirtual 118, 3) := by decide +kernel
theorem dX4_fetchIfWanted_11 : decode cX4_fetchIfWanted 11 = .ok (.ifnull 4, 3) := by decide +kernel
theorem dX4_fetchIfWanted_14 : decode cX4_fetchIfWanted 14 = .ok (.return_, 1) := by decide +kernel
theorem dX4_fetchIfWanted_15 : decode cX4_fetchIfWanted 15 = .ok (.aload_n 0, 1) := by decide +kernel
theorem dX4_fetchIfWanted_16 : decode cX4_fetchIfWanted 16 = .ok (.invokevirtual 171, 3) := by decide +kernel
theorem dX4_fetchIfWanted_19 : decode cX4_fetchIfWanted 19 = .ok (.astore_n 2, 1) := by decide +kernel
theorem dX4_fetchIfWanted_20 : decode cX4_fetchIfWanted 20 = .ok (.aload_n 0, 1) := by decide +kernel
theorem dX4_fetchIfWanted_21 : decode cX4_fetchIfWanted 21 = .ok (.iload_n 1, 1) := by decide +kernel
theorem dX4_fetchIfWanted_22 : decode cX4_fetchIfWanted 22 = .ok (.invokevirtual 175, 3) := by decide +kernel
theorem dX4_fetchIfWanted_25 : decode cX4_fetchIfWanted 25 = .ok (.astore_n 3, 1) := by decide +kernel
theorem dX4_fetchIfWanted_26 : decode cX4_fetchIfWanted 26 = .ok (.aload_n 2, 1) := by decide +kernel
theorem dX4_fetchIfWanted_27 : decode cX4_fetchIfWanted 27 = .ok (.ifnull 14, 3) := by decide +kernel
theorem dX4_fetchIfWanted_30 : decode cX4_fetchIfWanted 30 = .ok (.aload_n 3, 1) := by decide +kernel
theorem dX4_fetchIfWanted_31 : decode cX4_fetchIfWanted 31 = .ok (.ifnull 10, 3) := by decide +kernel
theorem dX4_fetchIfWanted_34 : decode cX4_fetchIfWanted 34 = .ok (.aload_n 3, 1) := by decide +kernel
theorem dX4_fetchIfWanted_35 : decode cX4_fetchIfWanted 35 = .ok (.getfield 97, 3) := by decide +kernel
theorem dX4_fetchIfWanted_38 : decode cX4_fetchIfWanted 38 = .ok (.ifCond .eq 4, 3) := by decide +kernel
theorem dX4_fetchIfWanted_41 : decode cX4_fetchIfWanted 41 = .ok (.return_, 1) := by decide +kernel
theorem dX4_fetchIfWanted_42 : decode cX4_fetchIfWanted 42 = .ok (.aload_n 0, 1) := by decide +kernel
theorem dX4_fetchIfWanted_43 : decode cX4_fetchIfWanted 43 = .ok (.iload_n 1, 1) := by decide +kernel
theorem dX4_fetchIfWanted_44 : decode cX4_fetchIfWanted 44 = .ok (.aload_n 3, 1) := by decide +kernel
theorem dX4_fetchIfWanted_45 : decode cX4_fetchIfWanted 45 = .ok (.aload_n 2, 1) := by decide +kernel
theorem dX4_fetchIfWanted_46 : decode cX4_fetchIfWanted 46 = .ok (.invokevirtual 184, 3) := by decide +kernel
theorem dX4_fetchIfWanted_49 : decode cX4_fetchIfWanted 49 = .ok (.aload_n 0, 1) := by decide +kernel
theorem dX4_fetchIfWanted_50 : decode cX4_fetchIfWanted 50 = .ok (.getfield 39, 3) := by decide +kernel
theorem dX4_fetchIfWanted_53 : decode cX4_fetchIfWanted 53 = .ok (.iconst 5, 1) := by decide +kernel
theorem dX4_fetchIfWanted_54 : decode cX4_fetchIfWanted 54 = .ok (.dup2, 1) := by decide +kernel
theorem dX4_fetchIfWanted_55 : decode cX4_fetchIfWanted 55 = .ok (.iaload, 1) := by decide +kernel
theorem dX4_fetchIfWanted_56 : decode cX4_fetchIfWanted 56 = .ok (.iconst 1, 1) := by decide +kernel
theorem dX4_fetchIfWanted_57 : decode cX4_fetchIfWanted 57 = .ok (.iadd, 1) := by decide +kernel
theorem dX4_fetchIfWanted_58 : decode cX4_fetchIfWanted 58 = .ok (.iastore, 1) := by decide +kernel
theorem dX4_fetchIfWanted_59 : decode cX4_fetchIfWanted 59 = .ok (.return_, 1) := by decide +kernel
theorem dX4_joins_0 : decode cX4_joins 0 = .ok (.aload_n 2, 1) := by decide +kernel
theorem dX4_joins_1 : decode cX4_joins 1 = .ok (.getfield 122, 3) := by decide +kernel
theorem dX4_joins_4 : decode cX4_joins 4 = .ok (.iconst 3, 1) := by decide +kernel
theorem dX4_joins_5 : decode cX4_joins 5 = .ok (.if_icmp .lt 5, 3) := by decide +kernel
theorem dX4_joins_8 : decode cX4_joins 8 = .ok (.iconst 0, 1) := by decide +kernel
theorem dX4_joins_9 : decode cX4_joins 9 = .ok (.ireturn, 1) := by decide +kernel
theorem dX4_joins_10 : decode cX4_joins 10 = .ok (.aload_n 0, 1) := by decide +kernel
theorem dX4_joins_11 : decode cX4_joins 11 = .ok (.getfield 39, 3) := by decide +kernel
theorem dX4_joins_14 : decode cX4_joins 14 = .ok (.iconst 2, 1) := by decide +kernel
theorem dX4_joins_15 : decode cX4_joins 15 = .ok (.dup2, 1) := by decide +kernel
theorem dX4_joins_16 : decode cX4_joins 16 = .ok (.iaload, 1) := by decide +kernel
theorem dX4_joins_17 : decode cX4_joins 17 = .ok (.iconst 1, 1) := by decide +kernel
theorem dX4_joins_18 : decode cX4_joins 18 = .ok (.iadd, 1) := by decide +kernel
theorem dX4_joins_19 : decode cX4_joins 19 = .ok (.iastore, 1) := by decide +kernel
theorem dX4_joins_20 : decode cX4_joins 20 = .ok (.aload_n 0, 1) := by decide +kernel
theorem dX4_joins_21 : decode cX4_joins 21 = .ok (.aload_n 1, 1) := by decide +kernel
theorem dX4_joins_22 : decode cX4_joins 22 = .ok (.invokevirtual 159, 3) := by decide +kernel
theorem dX4_joins_25 : decode cX4_joins 25 = .ok (.aload_n 2, 1) := by decide +kernel
theorem dX4_joins_26 : decode cX4_joins 26 = .ok (.iload_n 3, 1) := by decide +kernel
theorem dX4_joins_27 : decode cX4_joins 27 = .ok (.iload 4, 2) := by decide +kernel
theorem dX4_joins_29 : decode cX4_joins 29 = .ok (.iload 5, 2) := by decide +kernel
theorem dX4_joins_31 : decode cX4_joins 31 = .ok (.invokevirtual 167, 3) := by decide +kernel
theorem dX4_joins_34 : decode cX4_joins 34 = .ok (.iconst 1, 1) := by decide +kernel
theorem dX4_joins_35 : decode cX4_joins 35 = .ok (.ireturn, 1) := by decide +kernel
theorem dX4_answer_0 : decode cX4_answer 0 = .ok (.iload 4, 2) := by decide +kernel
theorem dX4_answer_2 : decode cX4_answer 2 = .ok (.ifCond .eq 23, 3) := by decide +kernel
theorem dX4_answer_5 : decode cX4_answer 5 = .ok (.aload_n 1, 1) := by decide +kernel
theorem dX4_answer_6 : decode cX4_answer 6 = .ok (.getfield 103, 3) := by decide +kernel
theorem dX4_answer_9 : decode cX4_answer 9 = .ok (.iload_n 3, 1) := by decide +kernel
theorem dX4_answer_10 : decode cX4_answer 10 = .ok (.aload_n 0, 1) := by decide +kernel
theorem dX4_answer_11 : decode cX4_answer 11 = .ok (.getfield 32, 3) := by decide +kernel
theorem dX4_answer_14 : decode cX4_answer 14 = .ok (.iload_n 2, 1) := by decide +kernel
theorem dX4_answer_15 : decode cX4_answer 15 = .ok (.iaload, 1) := by decide +kernel
theorem dX4_answer_16 : decode cX4_answer 16 = .ok (.iastore, 1) := by decide +kernel
theorem dX4_answer_17 : decode cX4_answer 17 = .ok (.aload_n 1, 1) := by decide +kernel
theorem dX4_answer_18 : decode cX4_answer 18 = .ok (.iconst 1, 1) := by decide +kernel
theorem dX4_answer_19 : decode cX4_answer 19 = .ok (.putfield 97, 3) := by decide +kernel
theorem dX4_answer_22 : decode cX4_answer 22 = .ok (.goto 15, 3) := by decide +kernel
theorem dX4_answer_25 : decode cX4_answer 25 = .ok (.aload_n 0, 1) := by decide +kernel
theorem dX4_answer_26 : decode cX4_answer 26 = .ok (.getfield 32, 3) := by decide +kernel
theorem dX4_answer_29 : decode cX4_answer 29 = .ok (.iload_n 2, 1) := by decide +kernel
theorem dX4_answer_30 : decode cX4_answer 30 = .ok (.aload_n 1, 1) := by decide +kernel
theorem dX4_answer_31 : decode cX4_answer 31 = .ok (.getfield 103, 3) := by decide +kernel
theorem dX4_answer_34 : decode cX4_answer 34 = .ok (.iload_n 3, 1) := by decide +kernel
theorem dX4_answer_35 : decode cX4_answer 35 = .ok (.iaload, 1) := by decide +kernel
theorem dX4_answer_36 : decode cX4_answer 36 = .ok (.iastore, 1) := by decide +kernel
theorem dX4_answer_37 : decode cX4_answer 37 = .ok (.aload_n 0, 1) := by decide +kernel
theorem dX4_answer_38 : decode cX4_answer 38 = .ok (.getfield 35, 3) := by decide +kernel
theorem dX4_answer_41 : decode cX4_answer 41 = .ok (.iload_n 2, 1) := by decide +kernel
theorem dX4_answer_42 : decode cX4_answer 42 = .ok (.iconst 1, 1) := by decide +kernel
theorem dX4_answer_43 : decode cX4_answer 43 = .ok (.bastore, 1) := by decide +kernel
theorem dX4_answer_44 : decode cX4_answer 44 = .ok (.return_, 1) := by decide +kernel
theorem dX4_ticketOrStall_0 : decode cX4_ticketOrStall 0 = .ok (.iload_n 0, 1) := by decide +kernel
theorem dX4_ticketOrStall_1 : decode cX4_ticketOrStall 1 = .ok (.iconst (-1), 1) := by decide +kernel
theorem dX4_ticketOrStall_2 : decode cX4_ticketOrStall 2 = .ok (.if_icmp .ne 13, 3) := by decide +kernel
theorem dX4_ticketOrStall_5 : decode cX4_ticketOrStall 5 = .ok (.new 82, 3) := by decide +kernel
theorem dX4_ticketOrStall_8 : decode cX4_ticketOrStall 8 = .ok (.dup, 1) := by decide +kernel
theorem dX4_ticketOrStall_9 : decode cX4_ticketOrStall 9 = .ok (.ldc 145, 2) := by decide +kernel
theorem dX4_ticketOrStall_11 : decode cX4_ticketOrStall 11 = .ok (.invokespecial 86, 3) := by decide +kernel
theorem dX4_ticketOrStall_14 : decode cX4_ticketOrStall 14 = .ok (.athrow, 1) := by decide +kernel
theorem dX4_ticketOrStall_15 : decode cX4_ticketOrStall 15 = .ok (.iload_n 0, 1) := by decide +kernel
theorem dX4_ticketOrStall_16 : decode cX4_ticketOrStall 16 = .ok (.ireturn, 1) := by decide +kernel
theorem dX4_store_0 : decode cX4_store 0 = .ok (.iload_n 1, 1) := by decide +kernel
theorem dX4_store_1 : decode cX4_store 1 = .ok (.invokestatic 52, 3) := by decide +kernel
theorem dX4_store_4 : decode cX4_store 4 = .ok (.aload_n 0, 1) := by decide +kernel
theorem dX4_store_5 : decode cX4_store 5 = .ok (.iload_n 1, 1) := by decide +kernel
theorem dX4_store_6 : decode cX4_store 6 = .ok (.iconst 1, 1) := by decide +kernel
theorem dX4_store_7 : decode cX4_store 7 = .ok (.iload_n 2, 1) := by decide +kernel
theorem dX4_store_8 : decode cX4_store 8 = .ok (.invokevirtual 56, 3) := by decide +kernel
theorem dX4_store_11 : decode cX4_store 11 = .ok (.invokestatic 60, 3) := by decide +kernel
theorem dX4_store_14 : decode cX4_store 14 = .ok (.ireturn, 1) := by decide +kernel
theorem dX4_await_0 : decode cX4_await 0 = .ok (.iload_n 1, 1) := by decide +kernel
theorem dX4_await_1 : decode cX4_await 1 = .ok (.invokestatic 52, 3) := by decide +kernel
theorem dX4_await_4 : decode cX4_await 4 = .ok (.aload_n 0, 1) := by decide +kernel
theorem dX4_await_5 : decode cX4_await 5 = .ok (.iload_n 1, 1) := by decide +kernel
theorem dX4_await_6 : decode cX4_await 6 = .ok (.iconst 0, 1) := by decide +kernel
theorem dX4_await_7 : decode cX4_await 7 = .ok (.iconst 0, 1) := by decide +kernel
theorem dX4_await_8 : decode cX4_await 8 = .ok (.invokevirtual 56, 3) := by decide +kernel
theorem dX4_await_11 : decode cX4_await 11 = .ok (.istore_n 2, 1) := by decide +kernel
theorem dX4_await_12 : decode cX4_await 12 = .ok (.iconst 0, 1) := by decide +kernel
theorem dX4_await_13 : decode cX4_await 13 = .ok (.istore_n 3, 1) := by decide +kernel
theorem dX4_await_14 : decode cX4_await 14 = .ok (.iload_n 3, 1) := by decide +kernel
theorem dX4_await_15 : decode cX4_await 15 = .ok (.sipush 1000, 3) := by decide +kernel
theorem dX4_await_18 : decode cX4_await 18 = .ok (.if_icmp .ge 35, 3) := by decide +kernel
theorem dX4_await_21 : decode cX4_await 21 = .ok (.aload_n 0, 1) := by decide +kernel
theorem dX4_await_22 : decode cX4_await 22 = .ok (.iload_n 2, 1) := by decide +kernel
theorem dX4_await_23 : decode cX4_await 23 = .ok (.invokevirtual 64, 3) := by decide +kernel
theorem dX4_await_26 : decode cX4_await 26 = .ok (.ifCond .ne 27, 3) := by decide +kernel
theorem dX4_await_29 : decode cX4_await 29 = .ok (.aload_n 0, 1) := by decide +kernel
theorem dX4_await_30 : decode cX4_await 30 = .ok (.invokevirtual 68, 3) := by decide +kernel
theorem dX4_await_33 : decode cX4_await 33 = .ok (.pop, 1) := by decide +kernel
theorem dX4_await_34 : decode cX4_await 34 = .ok (.iload_n 2, 1) := by decide +kernel
theorem dX4_await_35 : decode cX4_await 35 = .ok (.iconst (-1), 1) := by decide +kernel
theorem dX4_await_36 : decode cX4_await 36 = .ok (.if_icmp .ne 11, 3) := by decide +kernel
theorem dX4_await_39 : decode cX4_await 39 = .ok (.aload_n 0, 1) := by decide +kernel
theorem dX4_await_40 : decode cX4_await 40 = .ok (.iload_n 1, 1) := by decide +kernel
theorem dX4_await_41 : decode cX4_await 41 = .ok (.iconst 0, 1) := by decide +kernel
theorem dX4_await_42 : decode cX4_await 42 = .ok (.iconst 0, 1) := by decide +kernel
theorem dX4_await_43 : decode cX4_await 43 = .ok (.invokevirtual 56, 3) := by decide +kernel
theorem dX4_await_46 : decode cX4_await 46 = .ok (.istore_n 2, 1) := by decide +kernel
theorem dX4_await_47 : decode cX4_await 47 = .ok (.iinc 3 1, 3) := by decide +kernel
theorem dX4_await_50 : decode cX4_await 50 = .ok (.goto (-36), 3) := by decide +kernel
theorem dX4_await_53 : decode cX4_await 53 = .ok (.aload_n 0, 1) := by decide +kernel
theorem dX4_await_54 : decode cX4_await 54 = .ok (.iload_n 2, 1) := by decide +kernel
theorem dX4_await_55 : decode cX4_await 55 = .ok (.invokevirtual 64, 3) := by decide +kernel
theorem dX4_await_58 : decode cX4_await 58 = .ok (.ifCond .eq 12, 3) := by decide +kernel
theorem dX4_await_61 : decode cX4_await 61 = .ok (.aload_n 0, 1) := by decide +kernel
theorem dX4_await_62 : decode cX4_await 62 = .ok (.getfield 32, 3) := by decide +kernel
theorem dX4_await_65 : decode cX4_await 65 = .ok (.iload_n 2, 1) := by decide +kernel
theorem dX4_await_66 : decode cX4_await 66 = .ok (.iaload, 1) := by decide +kernel
theorem dX4_await_67 : decode cX4_await 67 = .ok (.goto 4, 3) := by decide +kernel
theorem dX4_await_70 : decode cX4_await 70 = .ok (.iconst 0, 1) := by decide +kernel
theorem dX4_await_71 : decode cX4_await 71 = .ok (.ireturn, 1) := by decide +kernel
theorem dX4_isAnswered_0 : decode cX4_isAnswered 0 = .ok (.iload_n 1, 1) := by decide +kernel
theorem dX4_isAnswered_1 : decode cX4_isAnswered 1 = .ok (.ifCond .lt 23, 3) := by decide +kernel
theorem dX4_isAnswered_4 : decode cX4_isAnswered 4 = .ok (.iload_n 1, 1) := by decide +kernel
theorem dX4_isAnswered_5 : decode cX4_isAnswered 5 = .ok (.sipush 512, 3) := by decide +kernel
theorem dX4_isAnswered_8 : decode cX4_isAnswered 8 = .ok (.if_icmp .ge 16, 3) := by decide +kernel
theorem dX4_isAnswered_11 : decode cX4_isAnswered 11 = .ok (.aload_n 0, 1) := by decide +kernel
theorem dX4_isAnswered_12 : decode cX4_isAnswered 12 = .ok (.getfield 35, 3) := by decide +kernel
theorem dX4_isAnswered_15 : decode cX4_isAnswered 15 = .ok (.iload_n 1, 1) := by decide +kernel
theorem dX4_isAnswered_16 : decode cX4_isAnswered 16 = .ok (.baload, 1) := by decide +kernel
theorem dX4_isAnswered_17 : decode cX4_isAnswered 17 = .ok (.ifCond .eq 7, 3) := by decide +kernel
theorem dX4_isAnswered_20 : decode cX4_isAnswered 20 = .ok (.iconst 1, 1) := by decide +kernel
theorem dX4_isAnswered_21 : decode cX4_isAnswered 21 = .ok (.goto 4, 3) := by decide +kernel
theorem dX4_isAnswered_24 : decode cX4_isAnswered 24 = .ok (.iconst 0, 1) := by decide +kernel
theorem dX4_isAnswered_25 : decode cX4_isAnswered 25 = .ok (.ireturn, 1) := by decide +kernel
theorem dX4_passTick_0 : decode cX4_passTick 0 = .ok (.aload_n 0, 1) := by decide +kernel
theorem dX4_passTick_1 : decode cX4_passTick 1 = .ok (.getfield 39, 3) := by decide +kernel
theorem dX4_passTick_4 : decode cX4_passTick 4 = .ok (.bipush 7, 2) := by decide +kernel
theorem dX4_passTick_6 : decode cX4_passTick 6 = .ok (.dup2, 1) := by decide +kernel
theorem dX4_passTick_7 : decode cX4_passTick 7 = .ok (.iaload, 1) := by decide +kernel
theorem dX4_passTick_8 : decode cX4_passTick 8 = .ok (.iconst 1, 1) := by decide +kernel
theorem dX4_passTick_9 : decode cX4_passTick 9 = .ok (.iadd, 1) := by decide +kernel
theorem dX4_passTick_10 : decode cX4_passTick 10 = .ok (.iastore, 1) := by decide +kernel
theorem dX4_passTick_11 : decode cX4_passTick 11 = .ok (.aload_n 0, 1) := by decide +kernel
theorem dX4_passTick_12 : decode cX4_passTick 12 = .ok (.getfield 28, 3) := by decide +kernel
theorem dX4_passTick_15 : decode cX4_passTick 15 = .ok (.getfield 92, 3) := by decide +kernel
theorem dX4_passTick_18 : decode cX4_passTick 18 = .ok (.ifCond .ne 5, 3) := by decide +kernel
theorem dX4_passTick_21 : decode cX4_passTick 21 = .ok (.iconst 0, 1) := by decide +kernel
theorem dX4_passTick_22 : decode cX4_passTick 22 = .ok (.ireturn, 1) := by decide +kernel
theorem dX4_passTick_23 : decode cX4_passTick 23 = .ok (.aload_n 0, 1) := by decide +kernel
theorem dX4_passTick_24 : decode cX4_passTick 24 = .ok (.getfield 28, 3) := by decide +kernel
theorem dX4_passTick_27 : decode cX4_passTick 27 = .ok (.dup, 1) := by decide +kernel
theorem dX4_passTick_28 : decode cX4_passTick 28 = .ok (.getfield 136, 3) := by decide +kernel
theorem dX4_passTick_31 : decode cX4_passTick 31 = .ok (.iconst 1, 1) := by decide +kernel
theorem dX4_passTick_32 : decode cX4_passTick 32 = .ok (.isub, 1) := by decide +kernel
theorem dX4_passTick_33 : decode cX4_passTick 33 = .ok (.putfield 136, 3) := by decide +kernel
theorem dX4_passTick_36 : decode cX4_passTick 36 = .ok (.aload_n 0, 1) := by decide +kernel
theorem dX4_passTick_37 : decode cX4_passTick 37 = .ok (.getfield 28, 3) := by decide +kernel
theorem dX4_passTick_40 : decode cX4_passTick 40 = .ok (.getfield 136, 3) := by decide +kernel
theorem dX4_passTick_43 : decode cX4_passTick 43 = .ok (.ifCond .le 5, 3) := by decide +kernel
theorem dX4_passTick_46 : decode cX4_passTick 46 = .ok (.iconst 0, 1) := by decide +kernel
theorem dX4_passTick_47 : decode cX4_passTick 47 = .ok (.ireturn, 1) := by decide +kernel
theorem dX4_passTick_48 : decode cX4_passTick 48 = .ok (.aload_n 0, 1) := by decide +kernel
theorem dX4_passTick_49 : decode cX4_passTick 49 = .ok (.getfield 28, 3) := by decide +kernel
theorem dX4_passTick_52 : decode cX4_passTick 52 = .ok (.iconst 0, 1) := by decide +kernel
theorem dX4_passTick_53 : decode cX4_passTick 53 = .ok (.invokevirtual 125, 3) := by decide +kernel
theorem dX4_passTick_56 : decode cX4_passTick 56 = .ok (.astore_n 1, 1) := by decide +kernel
theorem dX4_passTick_57 : decode cX4_passTick 57 = .ok (.aload_n 0, 1) := by decide +kernel
theorem dX4_passTick_58 : decode cX4_passTick 58 = .ok (.getfield 28, 3) := by decide +kernel
theorem dX4_passTick_61 : decode cX4_passTick 61 = .ok (.invokevirtual 201, 3) := by decide +kernel
theorem dX4_passTick_64 : decode cX4_passTick 64 = .ok (.aload_n 1, 1) := by decide +kernel
theorem dX4_passTick_65 : decode cX4_passTick 65 = .ok (.getfield 129, 3) := by decide +kernel
theorem dX4_passTick_68 : decode cX4_passTick 68 = .ok (.ifnull 16, 3) := by decide +kernel
theorem dX4_passTick_71 : decode cX4_passTick 71 = .ok (.aload_n 0, 1) := by decide +kernel
theorem dX4_passTick_72 : decode cX4_passTick 72 = .ok (.aload_n 1, 1) := by decide +kernel
theorem dX4_passTick_73 : decode cX4_passTick 73 = .ok (.getfield 129, 3) := by decide +kernel
theorem dX4_passTick_76 : decode cX4_passTick 76 = .ok (.aload_n 1, 1) := by decide +kernel
theorem dX4_passTick_77 : decode cX4_passTick 77 = .ok (.getfield 135, 3) := by decide +kernel
theorem dX4_passTick_80 : decode cX4_passTick 80 = .ok (.invokevirtual 204, 3) := by decide +kernel
theorem dX4_passTick_83 : decode cX4_passTick 83 = .ok (.ireturn, 1) := by decide +kernel
theorem dX4_passTick_84 : decode cX4_passTick 84 = .ok (.aload_n 0, 1) := by decide +kernel
theorem dX4_passTick_85 : decode cX4_passTick 85 = .ok (.aload_n 1, 1) := by decide +kernel
theorem dX4_passTick_86 : decode cX4_passTick 86 = .ok (.getfield 135, 3) := by decide +kernel
theorem dX4_passTick_89 : decode cX4_passTick 89 = .ok (.aload_n 1, 1) := by decide +kernel
theorem dX4_passTick_90 : decode cX4_passTick 90 = .ok (.getfield 208, 3) := by decide +kernel
theorem dX4_passTick_93 : decode cX4_passTick 93 = .ok (.invokevirtual 106, 3) := by decide +kernel
theorem dX4_passTick_96 : decode cX4_passTick 96 = .ok (.iconst 0, 1) := by decide +kernel
theorem dX4_passTick_97 : decode cX4_passTick 97 = .ok (.ireturn, 1) := by decide +kernel
theorem dX4_fill_0 : decode cX4_fill 0 = .ok (.aload_n 1, 1) := by decide +kernel
theorem dX4_fill_1 : decode cX4_fill 1 = .ok (.getfield 112, 3) := by decide +kernel
theorem dX4_fill_4 : decode cX4_fill 4 = .ok (.astore_n 3, 1) := by decide +kernel
theorem dX4_fill_5 : decode cX4_fill 5 = .ok (.aload_n 3, 1) := by decide +kernel
theorem dX4_fill_6 : decode cX4_fill 6 = .ok (.ifnonnull 5, 3) := by decide +kernel
theorem dX4_fill_9 : decode cX4_fill 9 = .ok (.iconst 0, 1) := by decide +kernel
theorem dX4_fill_10 : decode cX4_fill 10 = .ok (.ireturn, 1) := by decide +kernel
theorem dX4_fill_11 : decode cX4_fill 11 = .ok (.iconst 0, 1) := by decide +kernel
theorem dX4_fill_12 : decode cX4_fill 12 = .ok (.istore 4, 2) := by decide +kernel
theorem dX4_fill_14 : decode cX4_fill 14 = .ok (.iload 4, 2) := by decide +kernel
theorem dX4_fill_16 : decode cX4_fill 16 = .ok (.iconst 4, 1) := by decide +kernel
theorem dX4_fill_17 : decode cX4_fill 17 = .ok (.if_icmp .ge 27, 3) := by decide +kernel
theorem dX4_fill_20 : decode cX4_fill 20 = .ok (.aload_n 1, 1) := by decide +kernel
theorem dX4_fill_21 : decode cX4_fill 21 = .ok (.getfield 103, 3) := by decide +kernel
theorem dX4_fill_24 : decode cX4_fill 24 = .ok (.iload 4, 2) := by decide +kernel
theorem dX4_fill_26 : decode cX4_fill 26 = .ok (.aload_n 0, 1) := by decide +kernel
theorem dX4_fill_27 : decode cX4_fill 27 = .ok (.getfield 9, 3) := by decide +kernel
theorem dX4_fill_30 : decode cX4_fill 30 = .ok (.iload_n 2, 1) := by decide +kernel
theorem dX4_fill_31 : decode cX4_fill 31 = .ok (.iconst 4, 1) := by decide +kernel
theorem dX4_fill_32 : decode cX4_fill 32 = .ok (.imul, 1) := by decide +kernel
theorem dX4_fill_33 : decode cX4_fill 33 = .ok (.iload 4, 2) := by decide +kernel
theorem dX4_fill_35 : decode cX4_fill 35 = .ok (.iadd, 1) := by decide +kernel
theorem dX4_fill_36 : decode cX4_fill 36 = .ok (.iaload, 1) := by decide +kernel
theorem dX4_fill_37 : decode cX4_fill 37 = .ok (.iastore, 1) := by decide +kernel
theorem dX4_fill_38 : decode cX4_fill 38 = .ok (.iinc 4 1, 3) := by decide +kernel
theorem dX4_fill_41 : decode cX4_fill 41 = .ok (.goto (-27), 3) := by decide +kernel
theorem dX4_fill_44 : decode cX4_fill 44 = .ok (.iconst 0, 1) := by decide +kernel
theorem dX4_fill_45 : decode cX4_fill 45 = .ok (.istore 4, 2) := by decide +kernel
theorem dX4_fill_47 : decode cX4_fill 47 = .ok (.iload 4, 2) := by decide +kernel
theorem dX4_fill_49 : decode cX4_fill 49 = .ok (.aload_n 3, 1) := by decide +kernel
theorem dX4_fill_50 : decode cX4_fill 50 = .ok (.getfield 122, 3) := by decide +kernel
theorem dX4_fill_53 : decode cX4_fill 53 = .ok (.if_icmp .ge 35, 3) := by decide +kernel
theorem dX4_fill_56 : decode cX4_fill 56 = .ok (.aload_n 0, 1) := by decide +kernel
theorem dX4_fill_57 : decode cX4_fill 57 = .ok (.aload_n 1, 1) := by decide +kernel
theorem dX4_fill_58 : decode cX4_fill 58 = .ok (.aload_n 3, 1) := by decide +kernel
theorem dX4_fill_59 : decode cX4_fill 59 = .ok (.getfield 209, 3) := by decide +kernel
theorem dX4_fill_62 : decode cX4_fill 62 = .ok (.iload 4, 2) := by decide +kernel
theorem dX4_fill_64 : decode cX4_fill 64 = .ok (.iaload, 1) := by decide +kernel
theorem dX4_fill_65 : decode cX4_fill 65 = .ok (.aload_n 3, 1) := by decide +kernel
theorem dX4_fill_66 : decode cX4_fill 66 = .ok (.getfield 212, 3) := by decide +kernel
theorem dX4_fill_69 : decode cX4_fill 69 = .ok (.iload 4, 2) := by decide +kernel
theorem dX4_fill_71 : decode cX4_fill 71 = .ok (.iaload, 1) := by decide +kernel
theorem dX4_fill_72 : decode cX4_fill 72 = .ok (.aload_n 3, 1) := by decide +kernel
theorem dX4_fill_73 : decode cX4_fill 73 = .ok (.getfield 213, 3) := by decide +kernel
theorem dX4_fill_76 : decode cX4_fill 76 = .ok (.iload 4, 2) := by decide +kernel
theorem dX4_fill_78 : decode cX4_fill 78 = .ok (.baload, 1) := by decide +kernel
theorem dX4_fill_79 : decode cX4_fill 79 = .ok (.invokevirtual 163, 3) := by decide +kernel
theorem dX4_fill_82 : decode cX4_fill 82 = .ok (.iinc 4 1, 3) := by decide +kernel
theorem dX4_fill_85 : decode cX4_fill 85 = .ok (.goto (-38), 3) := by decide +kernel
theorem dX4_fill_88 : decode cX4_fill 88 = .ok (.aload_n 1, 1) := by decide +kernel
theorem dX4_fill_89 : decode cX4_fill 89 = .ok (.aconst_null, 1) := by decide +kernel
theorem dX4_fill_90 : decode cX4_fill 90 = .ok (.putfield 112, 3) := by decide +kernel
theorem dX4_fill_93 : decode cX4_fill 93 = .ok (.aload_n 3, 1) := by decide +kernel
theorem dX4_fill_94 : decode cX4_fill 94 = .ok (.iconst 0, 1) := by decide +kernel
theorem dX4_fill_95 : decode cX4_fill 95 = .ok (.putfield 191, 3) := by decide +kernel
theorem dX4_fill_98 : decode cX4_fill 98 = .ok (.aload_n 3, 1) := by decide +kernel
theorem dX4_fill_99 : decode cX4_fill 99 = .ok (.getfield 122, 3) := by decide +kernel
theorem dX4_fill_102 : decode cX4_fill 102 = .ok (.ireturn, 1) := by decide +kernel
theorem dX4_copyToMemory_0 : decode cX4_copyToMemory 0 = .ok (.iconst 0, 1) := by decide +kernel
theorem dX4_copyToMemory_1 : decode cX4_copyToMemory 1 = .ok (.istore_n 3, 1) := by decide +kernel
theorem dX4_copyToMemory_2 : decode cX4_copyToMemory 2 = .ok (.iload_n 3, 1) := by decide +kernel
theorem dX4_copyToMemory_3 : decode cX4_copyToMemory 3 = .ok (.iconst 4, 1) := by decide +kernel
theorem dX4_copyToMemory_4 : decode cX4_copyToMemory 4 = .ok (.if_icmp .ge 22, 3) := by decide +kernel
theorem dX4_copyToMemory_7 : decode cX4_copyToMemory 7 = .ok (.aload_n 0, 1) := by decide +kernel
theorem dX4_copyToMemory_8 : decode cX4_copyToMemory 8 = .ok (.getfield 9, 3) := by decide +kernel
theorem dX4_copyToMemory_11 : decode cX4_copyToMemory 11 = .ok (.iload_n 1, 1) := by decide +kernel
theorem dX4_copyToMemory_12 : decode cX4_copyToMemory 12 = .ok (.iconst 4, 1) := by decide +kernel
theorem dX4_copyToMemory_13 : decode cX4_copyToMemory 13 = .ok (.imul, 1) := by decide +kernel
theorem dX4_copyToMemory_14 : decode cX4_copyToMemory 14 = .ok (.iload_n 3, 1) := by decide +kernel
theorem dX4_copyToMemory_15 : decode cX4_copyToMemory 15 = .ok (.iadd, 1) := by decide +kernel
theorem dX4_copyToMemory_16 : decode cX4_copyToMemory 16 = .ok (.aload_n 2, 1) := by decide +kernel
theorem dX4_copyToMemory_17 : decode cX4_copyToMemory 17 = .ok (.iload_n 3, 1) := by decide +kernel
theorem dX4_copyToMemory_18 : decode cX4_copyToMemory 18 = .ok (.iaload, 1) := by decide +kernel
theorem dX4_copyToMemory_19 : decode cX4_copyToMemory 19 = .ok (.iastore, 1) := by decide +kernel
theorem dX4_copyToMemory_20 : decode cX4_copyToMemory 20 = .ok (.iinc 3 1, 3) := by decide +kernel
theorem dX4_copyToMemory_23 : decode cX4_copyToMemory 23 = .ok (.goto (-21), 3) := by decide +kernel
theorem dX4_copyToMemory_26 : decode cX4_copyToMemory 26 = .ok (.return_, 1) := by decide +kernel
theorem dX4_tick_0 : decode cX4_tick 0 = .ok (.iload_n 1, 1) := by decide +kernel
theorem dX4_tick_1 : decode cX4_tick 1 = .ok (.iconst 1, 1) := by decide +kernel
theorem dX4_tick_2 : decode cX4_tick 2 = .ok (.if_icmp .lt 9, 3) := by decide +kernel
theorem dX4_tick_5 : decode cX4_tick 5 = .ok (.iload_n 1, 1) := by decide +kernel
theorem dX4_tick_6 : decode cX4_tick 6 = .ok (.bipush 50, 2) := by decide +kernel
theorem dX4_tick_8 : decode cX4_tick 8 = .ok (.if_icmp .le 13, 3) := by decide +kernel
theorem dX4_tick_11 : decode cX4_tick 11 = .ok (.new 72, 3) := by decide +kernel
theorem dX4_tick_14 : decode cX4_tick 14 = .ok (.dup, 1) := by decide +kernel
theorem dX4_tick_15 : decode cX4_tick 15 = .ok (.ldc 74, 2) := by decide +kernel
theorem dX4_tick_17 : decode cX4_tick 17 = .ok (.invokespecial 76, 3) := by decide +kernel
theorem dX4_tick_20 : decode cX4_tick 20 = .ok (.athrow, 1) := by decide +kernel
theorem dX4_tick_21 : decode cX4_tick 21 = .ok (.iconst 0, 1) := by decide +kernel
theorem dX4_tick_22 : decode cX4_tick 22 = .ok (.istore_n 2, 1) := by decide +kernel
theorem dX4_tick_23 : decode cX4_tick 23 = .ok (.iconst 0, 1) := by decide +kernel
theorem dX4_tick_24 : decode cX4_tick 24 = .ok (.istore_n 3, 1) := by decide +kernel
theorem dX4_tick_25 : decode cX4_tick 25 = .ok (.iload_n 3, 1) := by decide +kernel
theorem dX4_tick_26 : decode cX4_tick 26 = .ok (.iload_n 1, 1) := by decide +kernel
theorem dX4_tick_27 : decode cX4_tick 27 = .ok (.if_icmp .ge 16, 3) := by decide +kernel
theorem dX4_tick_30 : decode cX4_tick 30 = .ok (.iload_n 2, 1) := by decide +kernel
theorem dX4_tick_31 : decode cX4_tick 31 = .ok (.aload_n 0, 1) := by decide +kernel
theorem dX4_tick_32 : decode cX4_tick 32 = .ok (.invokevirtual 68, 3) := by decide +kernel
theorem dX4_tick_35 : decode cX4_tick 35 = .ok (.iadd, 1) := by decide +kernel
theorem dX4_tick_36 : decode cX4_tick 36 = .ok (.istore_n 2, 1) := by decide +kernel
theorem dX4_tick_37 : decode cX4_tick 37 = .ok (.iinc 3 1, 3) := by decide +kernel
theorem dX4_tick_40 : decode cX4_tick 40 = .ok (.goto (-15), 3) := by decide +kernel
theorem dX4_tick_43 : decode cX4_tick 43 = .ok (.iload_n 2, 1) := by decide +kernel
theorem dX4_tick_44 : decode cX4_tick 44 = .ok (.ireturn, 1) := by decide +kernel
theorem dX4_done_0 : decode cX4_done 0 = .ok (.aload_n 0, 1) := by decide +kernel
theorem dX4_done_1 : decode cX4_done 1 = .ok (.iload_n 1, 1) := by decide +kernel
theorem dX4_done_2 : decode cX4_done 2 = .ok (.invokevirtual 79, 3) := by decide +kernel
theorem dX4_done_5 : decode cX4_done 5 = .ok (.aload_n 0, 1) := by decide +kernel
theorem dX4_done_6 : decode cX4_done 6 = .ok (.iload_n 1, 1) := by decide +kernel
theorem dX4_done_7 : decode cX4_done 7 = .ok (.invokevirtual 64, 3) := by decide +kernel
theorem dX4_done_10 : decode cX4_done 10 = .ok (.ireturn, 1) := by decide +kernel
theorem dX4_checkTicket_0 : decode cX4_checkTicket 0 = .ok (.iload_n 1, 1) := by decide +kernel
theorem dX4_checkTicket_1 : decode cX4_checkTicket 1 = .ok (.ifCond .lt 13, 3) := by decide +kernel
theorem dX4_checkTicket_4 : decode cX4_checkTicket 4 = .ok (.iload_n 1, 1) := by decide +kernel
theorem dX4_checkTicket_5 : decode cX4_checkTicket 5 = .ok (.aload_n 0, 1) := by decide +kernel
theorem dX4_checkTicket_6 : decode cX4_checkTicket 6 = .ok (.getfield 39, 3) := by decide +kernel
theorem dX4_checkTicket_9 : decode cX4_checkTicket 9 = .ok (.iconst 0, 1) := by decide +kernel
theorem dX4_checkTicket_10 : decode cX4_checkTicket 10 = .ok (.iaload, 1) := by decide +kernel
theorem dX4_checkTicket_11 : decode cX4_checkTicket 11 = .ok (.if_icmp .lt 13, 3) := by decide +kernel
theorem dX4_checkTicket_14 : decode cX4_checkTicket 14 = .ok (.new 72, 3) := by decide +kernel
theorem dX4_checkTicket_17 : decode cX4_checkTicket 17 = .ok (.dup, 1) := by decide +kernel
theorem dX4_checkTicket_18 : decode cX4_checkTicket 18 = .ok (.ldc 143, 2) := by decide +kernel
theorem dX4_checkTicket_20 : decode cX4_checkTicket 20 = .ok (.invokespecial 76, 3) := by decide +kernel
theorem dX4_checkTicket_23 : decode cX4_checkTicket 23 = .ok (.athrow, 1) := by decide +kernel
theorem dX4_checkTicket_24 : decode cX4_checkTicket 24 = .ok (.return_, 1) := by decide +kernel
theorem dX4_value_0 : decode cX4_value 0 = .ok (.aload_n 0, 1) := by decide +kernel
theorem dX4_value_1 : decode cX4_value 1 = .ok (.iload_n 1, 1) := by decide +kernel
theorem dX4_value_2 : decode cX4_value 2 = .ok (.invokevirtual 79, 3) := by decide +kernel
theorem dX4_value_5 : decode cX4_value 5 = .ok (.aload_n 0, 1) := by decide +kernel
theorem dX4_value_6 : decode cX4_value 6 = .ok (.iload_n 1, 1) := by decide +kernel
theorem dX4_value_7 : decode cX4_value 7 = .ok (.invokevirtual 64, 3) := by decide +kernel
theorem dX4_value_10 : decode cX4_value 10 = .ok (.ifCond .ne 13, 3) := by decide +kernel
theorem dX4_value_13 : decode cX4_value 13 = .ok (.new 82, 3) := by decide +kernel
theorem dX4_value_16 : decode cX4_value 16 = .ok (.dup, 1) := by decide +kernel
theorem dX4_value_17 : decode cX4_value 17 = .ok (.ldc 84, 2) := by decide +kernel
theorem dX4_value_19 : decode cX4_value 19 = .ok (.invokespecial 86, 3) := by decide +kernel
theorem dX4_value_22 : decode cX4_value 22 = .ok (.athrow, 1) := by decide +kernel
theorem dX4_value_23 : decode cX4_value 23 = .ok (.aload_n 0, 1) := by decide +kernel
theorem dX4_value_24 : decode cX4_value 24 = .ok (.getfield 32, 3) := by decide +kernel
theorem dX4_value_27 : decode cX4_value 27 = .ok (.iload_n 1, 1) := by decide +kernel
theorem dX4_value_28 : decode cX4_value 28 = .ok (.iaload, 1) := by decide +kernel
theorem dX4_value_29 : decode cX4_value 29 = .ok (.ireturn, 1) := by decide +kernel
theorem dX4_delay_0 : decode cX4_delay 0 = .ok (.iload_n 1, 1) := by decide +kernel
theorem dX4_delay_1 : decode cX4_delay 1 = .ok (.iconst 1, 1) := by decide +kernel
theorem dX4_delay_2 : decode cX4_delay 2 = .ok (.if_icmp .lt 9, 3) := by decide +kernel
theorem dX4_delay_5 : decode cX4_delay 5 = .ok (.iload_n 1, 1) := by decide +kernel
theorem dX4_delay_6 : decode cX4_delay 6 = .ok (.bipush 9, 2) := by decide +kernel
theorem dX4_delay_8 : decode cX4_delay 8 = .ok (.if_icmp .le 13, 3) := by decide +kernel
theorem dX4_delay_11 : decode cX4_delay 11 = .ok (.new 72, 3) := by decide +kernel
theorem dX4_delay_14 : decode cX4_delay 14 = .ok (.dup, 1) := by decide +kernel
theorem dX4_delay_15 : decode cX4_delay 15 = .ok (.ldc 87, 2) := by decide +kernel
theorem dX4_delay_17 : decode cX4_delay 17 = .ok (.invokespecial 76, 3) := by decide +kernel
theorem dX4_delay_20 : decode cX4_delay 20 = .ok (.athrow, 1) := by decide +kernel
theorem dX4_delay_21 : decode cX4_delay 21 = .ok (.aload_n 0, 1) := by decide +kernel
theorem dX4_delay_22 : decode cX4_delay 22 = .ok (.getfield 28, 3) := by decide +kernel
theorem dX4_delay_25 : decode cX4_delay 25 = .ok (.iload_n 1, 1) := by decide +kernel
theorem dX4_delay_26 : decode cX4_delay 26 = .ok (.putfield 89, 3) := by decide +kernel
theorem dX4_delay_29 : decode cX4_delay 29 = .ok (.return_, 1) := by decide +kernel
theorem dX4_flush_0 : decode cX4_flush 0 = .ok (.aload_n 0, 1) := by decide +kernel
theorem dX4_flush_1 : decode cX4_flush 1 = .ok (.getfield 28, 3) := by decide +kernel
theorem dX4_flush_4 : decode cX4_flush 4 = .ok (.getfield 92, 3) := by decide +kernel
theorem dX4_flush_7 : decode cX4_flush 7 = .ok (.ifCond .le 13, 3) := by decide +kernel
theorem dX4_flush_10 : decode cX4_flush 10 = .ok (.new 82, 3) := by decide +kernel
theorem dX4_flush_13 : decode cX4_flush 13 = .ok (.dup, 1) := by decide +kernel
theorem dX4_flush_14 : decode cX4_flush 14 = .ok (.ldc 95, 2) := by decide +kernel
theorem dX4_flush_16 : decode cX4_flush 16 = .ok (.invokespecial 86, 3) := by decide +kernel
theorem dX4_flush_19 : decode cX4_flush 19 = .ok (.athrow, 1) := by decide +kernel
theorem dX4_flush_20 : decode cX4_flush 20 = .ok (.iconst 0, 1) := by decide +kernel
theorem dX4_flush_21 : decode cX4_flush 21 = .ok (.istore_n 1, 1) := by decide +kernel
theorem dX4_flush_22 : decode cX4_flush 22 = .ok (.iconst 0, 1) := by decide +kernel
theorem dX4_flush_23 : decode cX4_flush 23 = .ok (.istore_n 2, 1) := by decide +kernel
theorem dX4_flush_24 : decode cX4_flush 24 = .ok (.iload_n 2, 1) := by decide +kernel
theorem dX4_flush_25 : decode cX4_flush 25 = .ok (.bipush 8, 2) := by decide +kernel
theorem dX4_flush_27 : decode cX4_flush 27 = .ok (.if_icmp .ge 56, 3) := by decide +kernel
theorem dX4_flush_30 : decode cX4_flush 30 = .ok (.aload_n 0, 1) := by decide +kernel
theorem dX4_flush_31 : decode cX4_flush 31 = .ok (.getfield 15, 3) := by decide +kernel
theorem dX4_flush_34 : decode cX4_flush 34 = .ok (.iload_n 2, 1) := by decide +kernel
theorem dX4_flush_35 : decode cX4_flush 35 = .ok (.aaload, 1) := by decide +kernel
theorem dX4_flush_36 : decode cX4_flush 36 = .ok (.getfield 97, 3) := by decide +kernel
theorem dX4_flush_39 : decode cX4_flush 39 = .ok (.ifCond .eq 38, 3) := by decide +kernel
theorem dX4_flush_42 : decode cX4_flush 42 = .ok (.aload_n 0, 1) := by decide +kernel
theorem dX4_flush_43 : decode cX4_flush 43 = .ok (.aload_n 0, 1) := by decide +kernel
theorem dX4_flush_44 : decode cX4_flush 44 = .ok (.getfield 15, 3) := by decide +kernel
theorem dX4_flush_47 : decode cX4_flush 47 = .ok (.iload_n 2, 1) := by decide +kernel
theorem dX4_flush_48 : decode cX4_flush 48 = .ok (.aaload, 1) := by decide +kernel
theorem dX4_flush_49 : decode cX4_flush 49 = .ok (.getfield 100, 3) := by decide +kernel
theorem dX4_flush_52 : decode cX4_flush 52 = .ok (.aload_n 0, 1) := by decide +kernel
theorem dX4_flush_53 : decode cX4_flush 53 = .ok (.getfield 15, 3) := by decide +kernel
theorem dX4_flush_56 : decode cX4_flush 56 = .ok (.iload_n 2, 1) := by decide +kernel
theorem dX4_flush_57 : decode cX4_flush 57 = .ok (.aaload, 1) := by decide +kernel
theorem dX4_flush_58 : decode cX4_flush 58 = .ok (.getfield 103, 3) := by decide +kernel
theorem dX4_flush_61 : decode cX4_flush 61 = .ok (.invokevirtual 106, 3) := by decide +kernel
theorem dX4_flush_64 : decode cX4_flush 64 = .ok (.aload_n 0, 1) := by decide +kernel
theorem dX4_flush_65 : decode cX4_flush 65 = .ok (.getfield 15, 3) := by decide +kernel
theorem dX4_flush_68 : decode cX4_flush 68 = .ok (.iload_n 2, 1) := by decide +kernel
theorem dX4_flush_69 : decode cX4_flush 69 = .ok (.aaload, 1) := by decide +kernel
theorem dX4_flush_70 : decode cX4_flush 70 = .ok (.iconst 0, 1) := by decide +kernel
theorem dX4_flush_71 : decode cX4_flush 71 = .ok (.putfield 97, 3) := by decide +kernel
theorem dX4_flush_74 : decode cX4_flush 74 = .ok (.iinc 1 1, 3) := by decide +kernel
theorem dX4_flush_77 : decode cX4_flush 77 = .ok (.iinc 2 1, 3) := by decide +kernel
theorem dX4_flush_80 : decode cX4_flush 80 = .ok (.goto (-56), 3) := by decide +kernel
theorem dX4_flush_83 : decode cX4_flush 83 = .ok (.iload_n 1, 1) := by decide +kernel
theorem dX4_flush_84 : decode cX4_flush 84 = .ok (.ireturn, 1) := by decide +kernel
theorem dX4_memory_0 : decode cX4_memory 0 = .ok (.iload_n 1, 1) := by decide +kernel
theorem dX4_memory_1 : decode cX4_memory 1 = .ok (.invokestatic 52, 3) := by decide +kernel
theorem dX4_memory_4 : decode cX4_memory 4 = .ok (.aload_n 0, 1) := by decide +kernel
theorem dX4_memory_5 : decode cX4_memory 5 = .ok (.getfield 9, 3) := by decide +kernel
theorem dX4_memory_8 : decode cX4_memory 8 = .ok (.iload_n 1, 1) := by decide +kernel
theorem dX4_memory_9 : decode cX4_memory 9 = .ok (.iaload, 1) := by decide +kernel
theorem dX4_memory_10 : decode cX4_memory 10 = .ok (.ireturn, 1) := by decide +kernel
theorem dX4_way_0 : decode cX4_way 0 = .ok (.iload_n 1, 1) := by decide +kernel
theorem dX4_way_1 : decode cX4_way 1 = .ok (.ifCond .lt 17, 3) := by decide +kernel
theorem dX4_way_4 : decode cX4_way 4 = .ok (.iload_n 1, 1) := by decide +kernel
theorem dX4_way_5 : decode cX4_way 5 = .ok (.iconst 4, 1) := by decide +kernel
theorem dX4_way_6 : decode cX4_way 6 = .ok (.if_icmp .ge 12, 3) := by decide +kernel
theorem dX4_way_9 : decode cX4_way 9 = .ok (.iload_n 2, 1) := by decide +kernel
theorem dX4_way_10 : decode cX4_way 10 = .ok (.ifCond .lt 8, 3) := by decide +kernel
theorem dX4_way_13 : decode cX4_way 13 = .ok (.iload_n 2, 1) := by decide +kernel
theorem dX4_way_14 : decode cX4_way 14 = .ok (.iconst 2, 1) := by decide +kernel
theorem dX4_way_15 : decode cX4_way 15 = .ok (.if_icmp .lt 13, 3) := by decide +kernel
theorem dX4_way_18 : decode cX4_way 18 = .ok (.new 72, 3) := by decide +kernel
theorem dX4_way_21 : decode cX4_way 21 = .ok (.dup, 1) := by decide +kernel
theorem dX4_way_22 : decode cX4_way 22 = .ok (.ldc 110, 2) := by decide +kernel
theorem dX4_way_24 : decode cX4_way 24 = .ok (.invokespecial 76, 3) := by decide +kernel
theorem dX4_way_27 : decode cX4_way 27 = .ok (.athrow, 1) := by decide +kernel
theorem dX4_way_28 : decode cX4_way 28 = .ok (.aload_n 0, 1) := by decide +kernel
theorem dX4_way_29 : decode cX4_way 29 = .ok (.getfield 15, 3) := by decide +kernel
theorem dX4_way_32 : decode cX4_way 32 = .ok (.iload_n 1, 1) := by decide +kernel
theorem dX4_way_33 : decode cX4_way 33 = .ok (.iconst 2, 1) := by decide +kernel
theorem dX4_way_34 : decode cX4_way 34 = .ok (.imul, 1) := by decide +kernel
theorem dX4_way_35 : decode cX4_way 35 = .ok (.iload_n 2, 1) := by decide +kernel
theorem dX4_way_36 : decode cX4_way 36 = .ok (.iadd, 1) := by decide +kernel
theorem dX4_way_37 : decode cX4_way 37 = .ok (.aaload, 1) := by decide +kernel
theorem dX4_way_38 : decode cX4_way 38 = .ok (.astore_n 3, 1) := by decide +kernel
theorem dX4_way_39 : decode cX4_way 39 = .ok (.aload_n 3, 1) := by decide +kernel
theorem dX4_way_40 : decode cX4_way 40 = .ok (.getfield 112, 3) := by decide +kernel
theorem dX4_way_43 : decode cX4_way 43 = .ok (.ifnull 12, 3) := by decide +kernel
theorem dX4_way_46 : decode cX4_way 46 = .ok (.aload_n 3, 1) := by decide +kernel
theorem dX4_way_47 : decode cX4_way 47 = .ok (.getfield 100, 3) := by decide +kernel
theorem dX4_way_50 : decode cX4_way 50 = .ok (.sipush 200, 3) := by decide +kernel
theorem dX4_way_53 : decode cX4_way 53 = .ok (.iadd, 1) := by decide +kernel
theorem dX4_way_54 : decode cX4_way 54 = .ok (.ireturn, 1) := by decide +kernel
theorem dX4_way_55 : decode cX4_way 55 = .ok (.aload_n 3, 1) := by decide +kernel
theorem dX4_way_56 : decode cX4_way 56 = .ok (.getfield 97, 3) := by decide +kernel
theorem dX4_way_59 : decode cX4_way 59 = .ok (.ifCond .eq 13, 3) := by decide +kernel
theorem dX4_way_62 : decode cX4_way 62 = .ok (.aload_n 3, 1) := by decide +kernel
theorem dX4_way_63 : decode cX4_way 63 = .ok (.getfield 100, 3) := by decide +kernel
theorem dX4_way_66 : decode cX4_way 66 = .ok (.bipush 100, 2) := by decide +kernel
theorem dX4_way_68 : decode cX4_way 68 = .ok (.iadd, 1) := by decide +kernel
theorem dX4_way_69 : decode cX4_way 69 = .ok (.goto 7, 3) := by decide +kernel
theorem dX4_way_72 : decode cX4_way 72 = .ok (.aload_n 3, 1) := by decide +kernel
theorem dX4_way_73 : decode cX4_way 73 = .ok (.getfield 100, 3) := by decide +kernel
theorem dX4_way_76 : decode cX4_way 76 = .ok (.ireturn, 1) := by decide +kernel
theorem dX4_targets_0 : decode cX4_targets 0 = .ok (.iload_n 1, 1) := by decide +kernel
theorem dX4_targets_1 : decode cX4_targets 1 = .ok (.ifCond .lt 9, 3) := by decide +kernel
theorem dX4_targets_4 : decode cX4_targets 4 = .ok (.iload_n 1, 1) := by decide +kernel
theorem dX4_targets_5 : decode cX4_targets 5 = .ok (.bipush 64, 2) := by decide +kernel
theorem dX4_targets_7 : decode cX4_targets 7 = .ok (.if_icmp .lt 13, 3) := by decide +kernel
theorem dX4_targets_10 : decode cX4_targets 10 = .ok (.new 72, 3) := by decide +kernel
theorem dX4_targets_13 : decode cX4_targets 13 = .ok (.dup, 1) := by decide +kernel
theorem dX4_targets_14 : decode cX4_targets 14 = .ok (.ldc 116, 2) := by decide +kernel
theorem dX4_targets_16 : decode cX4_targets 16 = .ok (.invokespecial 76, 3) := by decide +kernel
theorem dX4_targets_19 : decode cX4_targets 19 = .ok (.athrow, 1) := by decide +kernel
theorem dX4_targets_20 : decode cX4_targets 20 = .ok (.aload_n 0, 1) := by decide +kernel
theorem dX4_targets_21 : decode cX4_targets 21 = .ok (.iload_n 1, 1) := by decide +kernel
theorem dX4_targets_22 : decode cX4_targets 22 = .ok (.invokevirtual 118, 3) := by decide +kernel
theorem dX4_targets_25 : decode cX4_targets 25 = .ok (.astore_n 2, 1) := by decide +kernel
theorem dX4_targets_26 : decode cX4_targets 26 = .ok (.aload_n 2, 1) := by decide +kernel
theorem dX4_targets_27 : decode cX4_targets 27 = .ok (.ifnull 10, 3) := by decide +kernel
theorem dX4_targets_30 : decode cX4_targets 30 = .ok (.aload_n 2, 1) := by decide +kernel
theorem dX4_targets_31 : decode cX4_targets 31 = .ok (.getfield 112, 3) := by decide +kernel
theorem dX4_targets_34 : decode cX4_targets 34 = .ok (.ifnonnull 5, 3) := by decide +kernel
theorem dX4_targets_37 : decode cX4_targets 37 = .ok (.iconst (-1), 1) := by decide +kernel
theorem dX4_targets_38 : decode cX4_targets 38 = .ok (.ireturn, 1) := by decide +kernel
theorem dX4_targets_39 : decode cX4_targets 39 = .ok (.aload_n 2, 1) := by decide +kernel
theorem dX4_targets_40 : decode cX4_targets 40 = .ok (.getfield 112, 3) := by decide +kernel
theorem dX4_targets_43 : decode cX4_targets 43 = .ok (.getfield 122, 3) := by decide +kernel
theorem dX4_targets_46 : decode cX4_targets 46 = .ok (.ireturn, 1) := by decide +kernel
theorem dX4_count_0 : decode cX4_count 0 = .ok (.iload_n 1, 1) := by decide +kernel
theorem dX4_count_1 : decode cX4_count 1 = .ok (.ifCond .lt 9, 3) := by decide +kernel
theorem dX4_count_4 : decode cX4_count 4 = .ok (.iload_n 1, 1) := by decide +kernel
theorem dX4_count_5 : decode cX4_count 5 = .ok (.bipush 8, 2) := by decide +kernel
theorem dX4_count_7 : decode cX4_count 7 = .ok (.if_icmp .lt 13, 3) := by decide +kernel
theorem dX4_count_10 : decode cX4_count 10 = .ok (.new 72, 3) := by decide +kernel
theorem dX4_count_13 : decode cX4_count 13 = .ok (.dup, 1) := by decide +kernel
theorem dX4_count_14 : decode cX4_count 14 = .ok (.ldc 139, 2) := by decide +kernel
theorem dX4_count_16 : decode cX4_count 16 = .ok (.invokespecial 76, 3) := by decide +kernel
theorem dX4_count_19 : decode cX4_count 19 = .ok (.athrow, 1) := by decide +kernel
theorem dX4_count_20 : decode cX4_count 20 = .ok (.aload_n 0, 1) := by decide +kernel
theorem dX4_count_21 : decode cX4_count 21 = .ok (.getfield 39, 3) := by decide +kernel
theorem dX4_count_24 : decode cX4_count 24 = .ok (.iload_n 1, 1) := by decide +kernel
theorem dX4_count_25 : decode cX4_count 25 = .ok (.iaload, 1) := by decide +kernel
theorem dX4_count_26 : decode cX4_count 26 = .ok (.ireturn, 1) := by decide +kernel
