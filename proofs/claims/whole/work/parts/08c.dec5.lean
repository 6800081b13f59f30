theorem dX5_init_0 : decode cX5_init 0 = .ok (.aload_n 0, 1) := by decide +kernel
theorem dX5_init_1 : decode cX5_init 1 = .ok (.invokespecial 1, 3) := by decide +kernel
theorem dX5_init_4 : decode cX5_init 4 = .ok (.aload_n 0, 1) := by decide +kernel
theorem dX5_init_5 : decode cX5_init 5 = .ok (.sipush 256, 3) := by decide +kernel
theorem dX5_init_8 : decode cX5_init 8 = .ok (.newarray .int, 2) := by decide +kernel
theorem dX5_init_10 : decode cX5_init 10 = .ok (.putfield 7, 3) := by decide +kernel
theorem dX5_init_13 : decode cX5_init 13 = .ok (.aload_n 0, 1) := by decide +kernel
theorem dX5_init_14 : decode cX5_init 14 = .ok (.bipush 8, 2) := by decide +kernel
theorem dX5_init_16 : decode cX5_init 16 = .ok (.newarray .int, 2) := by decide +kernel
theorem dX5_init_18 : decode cX5_init 18 = .ok (.putfield 13, 3) := by decide +kernel
theorem dX5_init_21 : decode cX5_init 21 = .ok (.aload_n 0, 1) := by decide +kernel
theorem dX5_init_22 : decode cX5_init 22 = .ok (.bipush 8, 2) := by decide +kernel
theorem dX5_init_24 : decode cX5_init 24 = .ok (.newarray .int, 2) := by decide +kernel
theorem dX5_init_26 : decode cX5_init 26 = .ok (.putfield 16, 3) := by decide +kernel
theorem dX5_init_29 : decode cX5_init 29 = .ok (.aload_n 0, 1) := by decide +kernel
theorem dX5_init_30 : decode cX5_init 30 = .ok (.bipush 8, 2) := by decide +kernel
theorem dX5_init_32 : decode cX5_init 32 = .ok (.newarray .int, 2) := by decide +kernel
theorem dX5_init_34 : decode cX5_init 34 = .ok (.putfield 19, 3) := by decide +kernel
theorem dX5_init_37 : decode cX5_init 37 = .ok (.aload_n 0, 1) := by decide +kernel
theorem dX5_init_38 : decode cX5_init 38 = .ok (.bipush 32, 2) := by decide +kernel
theorem dX5_init_40 : decode cX5_init 40 = .ok (.newarray .int, 2) := by decide +kernel
theorem dX5_init_42 : decode cX5_init 42 = .ok (.putfield 22, 3) := by decide +kernel
theorem dX5_init_45 : decode cX5_init 45 = .ok (.aload_n 0, 1) := by decide +kernel
theorem dX5_init_46 : decode cX5_init 46 = .ok (.sipush 600, 3) := by decide +kernel
theorem dX5_init_49 : decode cX5_init 49 = .ok (.newarray .int, 2) := by decide +kernel
theorem dX5_init_51 : decode cX5_init 51 = .ok (.putfield 25, 3) := by decide +kernel
theorem dX5_init_54 : decode cX5_init 54 = .ok (.aload_n 0, 1) := by decide +kernel
theorem dX5_init_55 : decode cX5_init 55 = .ok (.sipush 600, 3) := by decide +kernel
theorem dX5_init_58 : decode cX5_init 58 = .ok (.newarray .boolean, 2) := by decide +kernel
theorem dX5_init_60 : decode cX5_init 60 = .ok (.putfield 28, 3) := by decide +kernel
theorem dX5_init_63 : decode cX5_init 63 = .ok (.aload_n 0, 1) := by decide +kernel
theorem dX5_init_64 : decode cX5_init 64 = .ok (.sipush 600, 3) := by decide +kernel
theorem dX5_init_67 : decode cX5_init 67 = .ok (.newarray .int, 2) := by decide +kernel
theorem dX5_init_69 : decode cX5_init 69 = .ok (.putfield 32, 3) := by decide +kernel
theorem dX5_init_72 : decode cX5_init 72 = .ok (.aload_n 0, 1) := by decide +kernel
theorem dX5_init_73 : decode cX5_init 73 = .ok (.sipush 600, 3) := by decide +kernel
theorem dX5_init_76 : decode cX5_init 76 = .ok (.newarray .boolean, 2) := by decide +kernel
theorem dX5_init_78 : decode cX5_init 78 = .ok (.putfield 35, 3) := by decide +kernel
theorem dX5_init_81 : decode cX5_init 81 = .ok (.aload_n 0, 1) := by decide +kernel
theorem dX5_init_82 : decode cX5_init 82 = .ok (.bipush 8, 2) := by decide +kernel
theorem dX5_init_84 : decode cX5_init 84 = .ok (.newarray .int, 2) := by decide +kernel
theorem dX5_init_86 : decode cX5_init 86 = .ok (.putfield 38, 3) := by decide +kernel
theorem dX5_init_89 : decode cX5_init 89 = .ok (.aload_n 0, 1) := by decide +kernel
theorem dX5_init_90 : decode cX5_init 90 = .ok (.bipush 32, 2) := by decide +kernel
theorem dX5_init_92 : decode cX5_init 92 = .ok (.newarray .int, 2) := by decide +kernel
theorem dX5_init_94 : decode cX5_init 94 = .ok (.putfield 41, 3) := by decide +kernel
theorem dX5_init_97 : decode cX5_init 97 = .ok (.aload_n 0, 1) := by decide +kernel
theorem dX5_init_98 : decode cX5_init 98 = .ok (.iconst 3, 1) := by decide +kernel
theorem dX5_init_99 : decode cX5_init 99 = .ok (.putfield 44, 3) := by decide +kernel
theorem dX5_init_102 : decode cX5_init 102 = .ok (.aload_n 0, 1) := by decide +kernel
theorem dX5_init_103 : decode cX5_init 103 = .ok (.bipush 8, 2) := by decide +kernel
theorem dX5_init_105 : decode cX5_init 105 = .ok (.newarray .int, 2) := by decide +kernel
theorem dX5_init_107 : decode cX5_init 107 = .ok (.putfield 48, 3) := by decide +kernel
theorem dX5_init_110 : decode cX5_init 110 = .ok (.iconst 0, 1) := by decide +kernel
theorem dX5_init_111 : decode cX5_init 111 = .ok (.istore_n 1, 1) := by decide +kernel
theorem dX5_init_112 : decode cX5_init 112 = .ok (.iload_n 1, 1) := by decide +kernel
theorem dX5_init_113 : decode cX5_init 113 = .ok (.sipush 256, 3) := by decide +kernel
theorem dX5_init_116 : decode cX5_init 116 = .ok (.if_icmp .ge 16, 3) := by decide +kernel
theorem dX5_init_119 : decode cX5_init 119 = .ok (.aload_n 0, 1) := by decide +kernel
theorem dX5_init_120 : decode cX5_init 120 = .ok (.getfield 7, 3) := by decide +kernel
theorem dX5_init_123 : decode cX5_init 123 = .ok (.iload_n 1, 1) := by decide +kernel
theorem dX5_init_124 : decode cX5_init 124 = .ok (.iload_n 1, 1) := by decide +kernel
theorem dX5_init_125 : decode cX5_init 125 = .ok (.iastore, 1) := by decide +kernel
theorem dX5_init_126 : decode cX5_init 126 = .ok (.iinc 1 1, 3) := by decide +kernel
theorem dX5_init_129 : decode cX5_init 129 = .ok (.goto (-17), 3) := by decide +kernel
theorem dX5_init_132 : decode cX5_init 132 = .ok (.return_, 1) := by decide +kernel
theorem dX5_thrown_0 : decode cX5_thrown 0 = .ok (.aload_n 0, 1) := by decide +kernel
theorem dX5_thrown_1 : decode cX5_thrown 1 = .ok (.getfield 51, 3) := by decide +kernel
theorem dX5_thrown_4 : decode cX5_thrown 4 = .ok (.ireturn, 1) := by decide +kernel
theorem dX5_load_0 : decode cX5_load 0 = .ok (.aload_n 0, 1) := by decide +kernel
theorem dX5_load_1 : decode cX5_load 1 = .ok (.aload_n 0, 1) := by decide +kernel
theorem dX5_load_2 : decode cX5_load 2 = .ok (.iload_n 1, 1) := by decide +kernel
theorem dX5_load_3 : decode cX5_load 3 = .ok (.invokevirtual 111, 3) := by decide +kernel
theorem dX5_load_6 : decode cX5_load 6 = .ok (.ifCond .eq 7, 3) := by decide +kernel
theorem dX5_load_9 : decode cX5_load 9 = .ok (.iconst 1, 1) := by decide +kernel
theorem dX5_load_10 : decode cX5_load 10 = .ok (.goto 4, 3) := by decide +kernel
theorem dX5_load_13 : decode cX5_load 13 = .ok (.iconst 0, 1) := by decide +kernel
theorem dX5_load_14 : decode cX5_load 14 = .ok (.putfield 51, 3) := by decide +kernel
theorem dX5_load_17 : decode cX5_load 17 = .ok (.aload_n 0, 1) := by decide +kernel
theorem dX5_load_18 : decode cX5_load 18 = .ok (.getfield 51, 3) := by decide +kernel
theorem dX5_load_21 : decode cX5_load 21 = .ok (.ifCond .eq 5, 3) := by decide +kernel
theorem dX5_load_24 : decode cX5_load 24 = .ok (.iconst 0, 1) := by decide +kernel
theorem dX5_load_25 : decode cX5_load 25 = .ok (.ireturn, 1) := by decide +kernel
theorem dX5_load_26 : decode cX5_load 26 = .ok (.aload_n 0, 1) := by decide +kernel
theorem dX5_load_27 : decode cX5_load 27 = .ok (.iload_n 1, 1) := by decide +kernel
theorem dX5_load_28 : decode cX5_load 28 = .ok (.iconst 0, 1) := by decide +kernel
theorem dX5_load_29 : decode cX5_load 29 = .ok (.iconst 0, 1) := by decide +kernel
theorem dX5_load_30 : decode cX5_load 30 = .ok (.invokevirtual 115, 3) := by decide +kernel
theorem dX5_load_33 : decode cX5_load 33 = .ok (.istore_n 2, 1) := by decide +kernel
theorem dX5_load_34 : decode cX5_load 34 = .ok (.aload_n 0, 1) := by decide +kernel
theorem dX5_load_35 : decode cX5_load 35 = .ok (.iload_n 2, 1) := by decide +kernel
theorem dX5_load_36 : decode cX5_load 36 = .ok (.ifCond .ge 7, 3) := by decide +kernel
theorem dX5_load_39 : decode cX5_load 39 = .ok (.iconst 2, 1) := by decide +kernel
theorem dX5_load_40 : decode cX5_load 40 = .ok (.goto 4, 3) := by decide +kernel
theorem dX5_load_43 : decode cX5_load 43 = .ok (.iconst 0, 1) := by decide +kernel
theorem dX5_load_44 : decode cX5_load 44 = .ok (.putfield 51, 3) := by decide +kernel
theorem dX5_load_47 : decode cX5_load 47 = .ok (.iload_n 2, 1) := by decide +kernel
theorem dX5_load_48 : decode cX5_load 48 = .ok (.ifCond .ge 7, 3) := by decide +kernel
theorem dX5_load_51 : decode cX5_load 51 = .ok (.iconst 0, 1) := by decide +kernel
theorem dX5_load_52 : decode cX5_load 52 = .ok (.goto 4, 3) := by decide +kernel
theorem dX5_load_55 : decode cX5_load 55 = .ok (.iload_n 2, 1) := by decide +kernel
theorem dX5_load_56 : decode cX5_load 56 = .ok (.ireturn, 1) := by decide +kernel
theorem dX5_noAddress_0 : decode cX5_noAddress 0 = .ok (.iload_n 1, 1) := by decide +kernel
theorem dX5_noAddress_1 : decode cX5_noAddress 1 = .ok (.ifCond .lt 10, 3) := by decide +kernel
theorem dX5_noAddress_4 : decode cX5_noAddress 4 = .ok (.iload_n 1, 1) := by decide +kernel
theorem dX5_noAddress_5 : decode cX5_noAddress 5 = .ok (.sipush 255, 3) := by decide +kernel
theorem dX5_noAddress_8 : decode cX5_noAddress 8 = .ok (.if_icmp .le 7, 3) := by decide +kernel
theorem dX5_noAddress_11 : decode cX5_noAddress 11 = .ok (.iconst 1, 1) := by decide +kernel
theorem dX5_noAddress_12 : decode cX5_noAddress 12 = .ok (.goto 4, 3) := by decide +kernel
theorem dX5_noAddress_15 : decode cX5_noAddress 15 = .ok (.iconst 0, 1) := by decide +kernel
theorem dX5_noAddress_16 : decode cX5_noAddress 16 = .ok (.ireturn, 1) := by decide +kernel
theorem dX5_issue_0 : decode cX5_issue 0 = .ok (.iload_n 1, 1) := by decide +kernel
theorem dX5_issue_1 : decode cX5_issue 1 = .ok (.iconst 4, 1) := by decide +kernel
theorem dX5_issue_2 : decode cX5_issue 2 = .ok (.idiv, 1) := by decide +kernel
theorem dX5_issue_3 : decode cX5_issue 3 = .ok (.istore 4, 2) := by decide +kernel
theorem dX5_issue_5 : decode cX5_issue 5 = .ok (.aload_n 0, 1) := by decide +kernel
theorem dX5_issue_6 : decode cX5_issue 6 = .ok (.iload 4, 2) := by decide +kernel
theorem dX5_issue_8 : decode cX5_issue 8 = .ok (.invokevirtual 78, 3) := by decide +kernel
theorem dX5_issue_11 : decode cX5_issue 11 = .ok (.istore 5, 2) := by decide +kernel
theorem dX5_issue_13 : decode cX5_issue 13 = .ok (.iload 5, 2) := by decide +kernel
theorem dX5_issue_15 : decode cX5_issue 15 = .ok (.ifCond .lt 50, 3) := by decide +kernel
theorem dX5_issue_18 : decode cX5_issue 18 = .ok (.aload_n 0, 1) := by decide +kernel
theorem dX5_issue_19 : decode cX5_issue 19 = .ok (.getfield 13, 3) := by decide +kernel
theorem dX5_issue_22 : decode cX5_issue 22 = .ok (.iload 5, 2) := by decide +kernel
theorem dX5_issue_24 : decode cX5_issue 24 = .ok (.iaload, 1) := by decide +kernel
theorem dX5_issue_25 : decode cX5_issue 25 = .ok (.iconst 3, 1) := by decide +kernel
theorem dX5_issue_26 : decode cX5_issue 26 = .ok (.if_icmp .eq 39, 3) := by decide +kernel
theorem dX5_issue_29 : decode cX5_issue 29 = .ok (.aload_n 0, 1) := by decide +kernel
theorem dX5_issue_30 : decode cX5_issue 30 = .ok (.iload 5, 2) := by decide +kernel
theorem dX5_issue_32 : decode cX5_issue 32 = .ok (.invokevirtual 66, 3) := by decide +kernel
theorem dX5_issue_35 : decode cX5_issue 35 = .ok (.aload_n 0, 1) := by decide +kernel
theorem dX5_issue_36 : decode cX5_issue 36 = .ok (.getfield 48, 3) := by decide +kernel
theorem dX5_issue_39 : decode cX5_issue 39 = .ok (.iconst 1, 1) := by decide +kernel
theorem dX5_issue_40 : decode cX5_issue 40 = .ok (.dup2, 1) := by decide +kernel
theorem dX5_issue_41 : decode cX5_issue 41 = .ok (.iaload, 1) := by decide +kernel
theorem dX5_issue_42 : decode cX5_issue 42 = .ok (.iconst 1, 1) := by decide +kernel
theorem dX5_issue_43 : decode cX5_issue 43 = .ok (.iadd, 1) := by decide +kernel
theorem dX5_issue_44 : decode cX5_issue 44 = .ok (.iastore, 1) := by decide +kernel
theorem dX5_issue_45 : decode cX5_issue 45 = .ok (.aload_n 0, 1) := by decide +kernel
theorem dX5_issue_46 : decode cX5_issue 46 = .ok (.iload_n 1, 1) := by decide +kernel
theorem dX5_issue_47 : decode cX5_issue 47 = .ok (.iload_n 2, 1) := by decide +kernel
theorem dX5_issue_48 : decode cX5_issue 48 = .ok (.iload_n 3, 1) := by decide +kernel
theorem dX5_issue_49 : decode cX5_issue 49 = .ok (.invokevirtual 92, 3) := by decide +kernel
theorem dX5_issue_52 : decode cX5_issue 52 = .ok (.istore 6, 2) := by decide +kernel
theorem dX5_issue_54 : decode cX5_issue 54 = .ok (.aload_n 0, 1) := by decide +kernel
theorem dX5_issue_55 : decode cX5_issue 55 = .ok (.iload 6, 2) := by decide +kernel
theorem dX5_issue_57 : decode cX5_issue 57 = .ok (.iload 5, 2) := by decide +kernel
theorem dX5_issue_59 : decode cX5_issue 59 = .ok (.invokevirtual 96, 3) := by decide +kernel
theorem dX5_issue_62 : decode cX5_issue 62 = .ok (.iload 6, 2) := by decide +kernel
theorem dX5_issue_64 : decode cX5_issue 64 = .ok (.ireturn, 1) := by decide +kernel
theorem dX5_issue_65 : decode cX5_issue 65 = .ok (.iload 5, 2) := by decide +kernel
theorem dX5_issue_67 : decode cX5_issue 67 = .ok (.ifCond .lt 42, 3) := by decide +kernel
theorem dX5_issue_70 : decode cX5_issue 70 = .ok (.aload_n 0, 1) := by decide +kernel
theorem dX5_issue_71 : decode cX5_issue 71 = .ok (.iload 4, 2) := by decide +kernel
theorem dX5_issue_73 : decode cX5_issue 73 = .ok (.invokevirtual 99, 3) := by decide +kernel
theorem dX5_issue_76 : decode cX5_issue 76 = .ok (.iconst 3, 1) := by decide +kernel
theorem dX5_issue_77 : decode cX5_issue 77 = .ok (.if_icmp .ne 8, 3) := by decide +kernel
theorem dX5_issue_80 : decode cX5_issue 80 = .ok (.aload_n 0, 1) := by decide +kernel
theorem dX5_issue_81 : decode cX5_issue 81 = .ok (.invokevirtual 102, 3) := by decide +kernel
theorem dX5_issue_84 : decode cX5_issue 84 = .ok (.ireturn, 1) := by decide +kernel
theorem dX5_issue_85 : decode cX5_issue 85 = .ok (.aload_n 0, 1) := by decide +kernel
theorem dX5_issue_86 : decode cX5_issue 86 = .ok (.iload 5, 2) := by decide +kernel
theorem dX5_issue_88 : decode cX5_issue 88 = .ok (.invokevirtual 66, 3) := by decide +kernel
theorem dX5_issue_91 : decode cX5_issue 91 = .ok (.aload_n 0, 1) := by decide +kernel
theorem dX5_issue_92 : decode cX5_issue 92 = .ok (.getfield 48, 3) := by decide +kernel
theorem dX5_issue_95 : decode cX5_issue 95 = .ok (.iconst 2, 1) := by decide +kernel
theorem dX5_issue_96 : decode cX5_issue 96 = .ok (.dup2, 1) := by decide +kernel
theorem dX5_issue_97 : decode cX5_issue 97 = .ok (.iaload, 1) := by decide +kernel
theorem dX5_issue_98 : decode cX5_issue 98 = .ok (.iconst 1, 1) := by decide +kernel
theorem dX5_issue_99 : decode cX5_issue 99 = .ok (.iadd, 1) := by decide +kernel
theorem dX5_issue_100 : decode cX5_issue 100 = .ok (.iastore, 1) := by decide +kernel
theorem dX5_issue_101 : decode cX5_issue 101 = .ok (.aload_n 0, 1) := by decide +kernel
theorem dX5_issue_102 : decode cX5_issue 102 = .ok (.iload_n 1, 1) := by decide +kernel
theorem dX5_issue_103 : decode cX5_issue 103 = .ok (.iload_n 2, 1) := by decide +kernel
theorem dX5_issue_104 : decode cX5_issue 104 = .ok (.iload_n 3, 1) := by decide +kernel
theorem dX5_issue_105 : decode cX5_issue 105 = .ok (.invokevirtual 92, 3) := by decide +kernel
theorem dX5_issue_108 : decode cX5_issue 108 = .ok (.ireturn, 1) := by decide +kernel
theorem dX5_issue_109 : decode cX5_issue 109 = .ok (.aload_n 0, 1) := by decide +kernel
theorem dX5_issue_110 : decode cX5_issue 110 = .ok (.iload 4, 2) := by decide +kernel
theorem dX5_issue_112 : decode cX5_issue 112 = .ok (.invokevirtual 86, 3) := by decide +kernel
theorem dX5_issue_115 : decode cX5_issue 115 = .ok (.istore 5, 2) := by decide +kernel
theorem dX5_issue_117 : decode cX5_issue 117 = .ok (.aload_n 0, 1) := by decide +kernel
theorem dX5_issue_118 : decode cX5_issue 118 = .ok (.invokevirtual 82, 3) := by decide +kernel
theorem dX5_issue_121 : decode cX5_issue 121 = .ok (.iconst 3, 1) := by decide +kernel
theorem dX5_issue_122 : decode cX5_issue 122 = .ok (.if_icmp .eq 27, 3) := by decide +kernel
theorem dX5_issue_125 : decode cX5_issue 125 = .ok (.iload 5, 2) := by decide +kernel
theorem dX5_issue_127 : decode cX5_issue 127 = .ok (.ifCond .lt 22, 3) := by decide +kernel
theorem dX5_issue_130 : decode cX5_issue 130 = .ok (.aload_n 0, 1) := by decide +kernel
theorem dX5_issue_131 : decode cX5_issue 131 = .ok (.getfield 13, 3) := by decide +kernel
theorem dX5_issue_134 : decode cX5_issue 134 = .ok (.iload 5, 2) := by decide +kernel
theorem dX5_issue_136 : decode cX5_issue 136 = .ok (.iaload, 1) := by decide +kernel
theorem dX5_issue_137 : decode cX5_issue 137 = .ok (.iconst 2, 1) := by decide +kernel
theorem dX5_issue_138 : decode cX5_issue 138 = .ok (.if_icmp .ne 16, 3) := by decide +kernel
theorem dX5_issue_141 : decode cX5_issue 141 = .ok (.aload_n 0, 1) := by decide +kernel
theorem dX5_issue_142 : decode cX5_issue 142 = .ok (.invokevirtual 105, 3) := by decide +kernel
theorem dX5_issue_145 : decode cX5_issue 145 = .ok (.iconst 2, 1) := by decide +kernel
theorem dX5_issue_146 : decode cX5_issue 146 = .ok (.if_icmp .ne 8, 3) := by decide +kernel
theorem dX5_issue_149 : decode cX5_issue 149 = .ok (.aload_n 0, 1) := by decide +kernel
theorem dX5_issue_150 : decode cX5_issue 150 = .ok (.invokevirtual 102, 3) := by decide +kernel
theorem dX5_issue_153 : decode cX5_issue 153 = .ok (.ireturn, 1) := by decide +kernel
theorem dX5_issue_154 : decode cX5_issue 154 = .ok (.aload_n 0, 1) := by decide +kernel
theorem dX5_issue_155 : decode cX5_issue 155 = .ok (.getfield 48, 3) := by decide +kernel
theorem dX5_issue_158 : decode cX5_issue 158 = .ok (.iconst 3, 1) := by decide +kernel
theorem dX5_issue_159 : decode cX5_issue 159 = .ok (.dup2, 1) := by decide +kernel
theorem dX5_issue_160 : decode cX5_issue 160 = .ok (.iaload, 1) := by decide +kernel
theorem dX5_issue_161 : decode cX5_issue 161 = .ok (.iconst 1, 1) := by decide +kernel
theorem dX5_issue_162 : decode cX5_issue 162 = .ok (.iadd, 1) := by decide +kernel
theorem dX5_issue_163 : decode cX5_issue 163 = .ok (.iastore, 1) := by decide +kernel
theorem dX5_issue_164 : decode cX5_issue 164 = .ok (.aload_n 0, 1) := by decide +kernel
theorem dX5_issue_165 : decode cX5_issue 165 = .ok (.getfield 13, 3) := by decide +kernel
theorem dX5_issue_168 : decode cX5_issue 168 = .ok (.iload 5, 2) := by decide +kernel
theorem dX5_issue_170 : decode cX5_issue 170 = .ok (.iaload, 1) := by decide +kernel
theorem dX5_issue_171 : decode cX5_issue 171 = .ok (.iconst 2, 1) := by decide +kernel
theorem dX5_issue_172 : decode cX5_issue 172 = .ok (.if_icmp .ne 30, 3) := by decide +kernel
theorem dX5_issue_175 : decode cX5_issue 175 = .ok (.aload_n 0, 1) := by decide +kernel
theorem dX5_issue_176 : decode cX5_issue 176 = .ok (.bipush 100, 2) := by decide +kernel
theorem dX5_issue_178 : decode cX5_issue 178 = .ok (.aload_n 0, 1) := by decide +kernel
theorem dX5_issue_179 : decode cX5_issue 179 = .ok (.getfield 16, 3) := by decide +kernel
theorem dX5_issue_182 : decode cX5_issue 182 = .ok (.iload 5, 2) := by decide +kernel
theorem dX5_issue_184 : decode cX5_issue 184 = .ok (.iaload, 1) := by decide +kernel
theorem dX5_issue_185 : decode cX5_issue 185 = .ok (.iadd, 1) := by decide +kernel
theorem dX5_issue_186 : decode cX5_issue 186 = .ok (.iload 5, 2) := by decide +kernel
theorem dX5_issue_188 : decode cX5_issue 188 = .ok (.invokevirtual 70, 3) := by decide +kernel
theorem dX5_issue_191 : decode cX5_issue 191 = .ok (.aload_n 0, 1) := by decide +kernel
theorem dX5_issue_192 : decode cX5_issue 192 = .ok (.getfield 48, 3) := by decide +kernel
theorem dX5_issue_195 : decode cX5_issue 195 = .ok (.bipush 6, 2) := by decide +kernel
theorem dX5_issue_197 : decode cX5_issue 197 = .ok (.dup2, 1) := by decide +kernel
theorem dX5_issue_198 : decode cX5_issue 198 = .ok (.iaload, 1) := by decide +kernel
theorem dX5_issue_199 : decode cX5_issue 199 = .ok (.iconst 1, 1) := by decide +kernel
theorem dX5_issue_200 : decode cX5_issue 200 = .ok (.iadd, 1) := by decide +kernel
theorem dX5_issue_201 : decode cX5_issue 201 = .ok (.iastore, 1) := by decide +kernel
theorem dX5_issue_202 : decode cX5_issue 202 = .ok (.aload_n 0, 1) := by decide +kernel
theorem dX5_issue_203 : decode cX5_issue 203 = .ok (.iload_n 1, 1) := by decide +kernel
theorem dX5_issue_204 : decode cX5_issue 204 = .ok (.iload_n 2, 1) := by decide +kernel
theorem dX5_issue_205 : decode cX5_issue 205 = .ok (.iload_n 3, 1) := by decide +kernel
theorem dX5_issue_206 : decode cX5_issue 206 = .ok (.invokevirtual 92, 3) := by decide +kernel
theorem dX5_issue_209 : decode cX5_issue 209 = .ok (.istore 6, 2) := by decide +kernel
theorem dX5_issue_211 : decode cX5_issue 211 = .ok (.aload_n 0, 1) := by decide +kernel
theorem dX5_issue_212 : decode cX5_issue 212 = .ok (.iload 4, 2) := by decide +kernel
theorem dX5_issue_214 : decode cX5_issue 214 = .ok (.iload 5, 2) := by decide +kernel
theorem dX5_issue_216 : decode cX5_issue 216 = .ok (.invokevirtual 89, 3) := by decide +kernel
theorem dX5_issue_219 : decode cX5_issue 219 = .ok (.aload_n 0, 1) := by decide +kernel
theorem dX5_issue_220 : decode cX5_issue 220 = .ok (.iload 4, 2) := by decide +kernel
theorem dX5_issue_222 : decode cX5_issue 222 = .ok (.iconst 1, 1) := by decide +kernel
theorem dX5_issue_223 : decode cX5_issue 223 = .ok (.iadd, 1) := by decide +kernel
theorem dX5_issue_224 : decode cX5_issue 224 = .ok (.invokevirtual 108, 3) := by decide +kernel
theorem dX5_issue_227 : decode cX5_issue 227 = .ok (.iload 6, 2) := by decide +kernel
theorem dX5_issue_229 : decode cX5_issue 229 = .ok (.ireturn, 1) := by decide +kernel
theorem dX5_wayOf_0 : decode cX5_wayOf 0 = .ok (.iconst 2, 1) := by decide +kernel
theorem dX5_wayOf_1 : decode cX5_wayOf 1 = .ok (.iload_n 1, 1) := by decide +kernel
theorem dX5_wayOf_2 : decode cX5_wayOf 2 = .ok (.iconst 4, 1) := by decide +kernel
theorem dX5_wayOf_3 : decode cX5_wayOf 3 = .ok (.irem, 1) := by decide +kernel
theorem dX5_wayOf_4 : decode cX5_wayOf 4 = .ok (.imul, 1) := by decide +kernel
theorem dX5_wayOf_5 : decode cX5_wayOf 5 = .ok (.istore_n 2, 1) := by decide +kernel
theorem dX5_wayOf_6 : decode cX5_wayOf 6 = .ok (.aload_n 0, 1) := by decide +kernel
theorem dX5_wayOf_7 : decode cX5_wayOf 7 = .ok (.getfield 13, 3) := by decide +kernel
theorem dX5_wayOf_10 : decode cX5_wayOf 10 = .ok (.iload_n 2, 1) := by decide +kernel
theorem dX5_wayOf_11 : decode cX5_wayOf 11 = .ok (.iaload, 1) := by decide +kernel
theorem dX5_wayOf_12 : decode cX5_wayOf 12 = .ok (.ifCond .eq 17, 3) := by decide +kernel
theorem dX5_wayOf_15 : decode cX5_wayOf 15 = .ok (.aload_n 0, 1) := by decide +kernel
theorem dX5_wayOf_16 : decode cX5_wayOf 16 = .ok (.getfield 16, 3) := by decide +kernel
theorem dX5_wayOf_19 : decode cX5_wayOf 19 = .ok (.iload_n 2, 1) := by decide +kernel
theorem dX5_wayOf_20 : decode cX5_wayOf 20 = .ok (.iaload, 1) := by decide +kernel
theorem dX5_wayOf_21 : decode cX5_wayOf 21 = .ok (.iload_n 1, 1) := by decide +kernel
theorem dX5_wayOf_22 : decode cX5_wayOf 22 = .ok (.if_icmp .ne 7, 3) := by decide +kernel
theorem dX5_wayOf_25 : decode cX5_wayOf 25 = .ok (.iload_n 2, 1) := by decide +kernel
theorem dX5_wayOf_26 : decode cX5_wayOf 26 = .ok (.goto 33, 3) := by decide +kernel
theorem dX5_wayOf_29 : decode cX5_wayOf 29 = .ok (.aload_n 0, 1) := by decide +kernel
theorem dX5_wayOf_30 : decode cX5_wayOf 30 = .ok (.getfield 13, 3) := by decide +kernel
theorem dX5_wayOf_33 : decode cX5_wayOf 33 = .ok (.iload_n 2, 1) := by decide +kernel
theorem dX5_wayOf_34 : decode cX5_wayOf 34 = .ok (.iconst 1, 1) := by decide +kernel
theorem dX5_wayOf_35 : decode cX5_wayOf 35 = .ok (.iadd, 1) := by decide +kernel
theorem dX5_wayOf_36 : decode cX5_wayOf 36 = .ok (.iaload, 1) := by decide +kernel
theorem dX5_wayOf_37 : decode cX5_wayOf 37 = .ok (.ifCond .eq 21, 3) := by decide +kernel
theorem dX5_wayOf_40 : decode cX5_wayOf 40 = .ok (.aload_n 0, 1) := by decide +kernel
theorem dX5_wayOf_41 : decode cX5_wayOf 41 = .ok (.getfield 16, 3) := by decide +kernel
theorem dX5_wayOf_44 : decode cX5_wayOf 44 = .ok (.iload_n 2, 1) := by decide +kernel
theorem dX5_wayOf_45 : decode cX5_wayOf 45 = .ok (.iconst 1, 1) := by decide +kernel
theorem dX5_wayOf_46 : decode cX5_wayOf 46 = .ok (.iadd, 1) := by decide +kernel
theorem dX5_wayOf_47 : decode cX5_wayOf 47 = .ok (.iaload, 1) := by decide +kernel
theorem dX5_wayOf_48 : decode cX5_wayOf 48 = .ok (.iload_n 1, 1) := by decide +kernel
theorem dX5_wayOf_49 : decode cX5_wayOf 49 = .ok (.if_icmp .ne 9, 3) := by decide +kernel
theorem dX5_wayOf_52 : decode cX5_wayOf 52 = .ok (.iload_n 2, 1) := by decide +kernel
theorem dX5_wayOf_53 : decode cX5_wayOf 53 = .ok (.iconst 1, 1) := by decide +kernel
theorem dX5_wayOf_54 : decode cX5_wayOf 54 = .ok (.iadd, 1) := by decide +kernel
theorem dX5_wayOf_55 : decode cX5_wayOf 55 = .ok (.goto 4, 3) := by decide +kernel
theorem dX5_wayOf_58 : decode cX5_wayOf 58 = .ok (.iconst (-1), 1) := by decide +kernel
theorem dX5_wayOf_59 : decode cX5_wayOf 59 = .ok (.ireturn, 1) := by decide +kernel
theorem dX5_use_0 : decode cX5_use 0 = .ok (.aload_n 0, 1) := by decide +kernel
theorem dX5_use_1 : decode cX5_use 1 = .ok (.dup, 1) := by decide +kernel
theorem dX5_use_2 : decode cX5_use 2 = .ok (.getfield 60, 3) := by decide +kernel
theorem dX5_use_5 : decode cX5_use 5 = .ok (.iconst 1, 1) := by decide +kernel
theorem dX5_use_6 : decode cX5_use 6 = .ok (.iadd, 1) := by decide +kernel
theorem dX5_use_7 : decode cX5_use 7 = .ok (.putfield 60, 3) := by decide +kernel
theorem dX5_use_10 : decode cX5_use 10 = .ok (.aload_n 0, 1) := by decide +kernel
theorem dX5_use_11 : decode cX5_use 11 = .ok (.getfield 19, 3) := by decide +kernel
theorem dX5_use_14 : decode cX5_use 14 = .ok (.iload_n 1, 1) := by decide +kernel
theorem dX5_use_15 : decode cX5_use 15 = .ok (.aload_n 0, 1) := by decide +kernel
theorem dX5_use_16 : decode cX5_use 16 = .ok (.getfield 60, 3) := by decide +kernel
theorem dX5_use_19 : decode cX5_use 19 = .ok (.iastore, 1) := by decide +kernel
theorem dX5_use_20 : decode cX5_use 20 = .ok (.return_, 1) := by decide +kernel
theorem dX5_note_0 : decode cX5_note 0 = .ok (.aload_n 0, 1) := by decide +kernel
theorem dX5_note_1 : decode cX5_note 1 = .ok (.getfield 25, 3) := by decide +kernel
theorem dX5_note_4 : decode cX5_note 4 = .ok (.aload_n 0, 1) := by decide +kernel
theorem dX5_note_5 : decode cX5_note 5 = .ok (.getfield 54, 3) := by decide +kernel
theorem dX5_note_8 : decode cX5_note 8 = .ok (.iload_n 1, 1) := by decide +kernel
theorem dX5_note_9 : decode cX5_note 9 = .ok (.iastore, 1) := by decide +kernel
theorem dX5_note_10 : decode cX5_note 10 = .ok (.aload_n 0, 1) := by decide +kernel
theorem dX5_note_11 : decode cX5_note 11 = .ok (.getfield 28, 3) := by decide +kernel
theorem dX5_note_14 : decode cX5_note 14 = .ok (.aload_n 0, 1) := by decide +kernel
theorem dX5_note_15 : decode cX5_note 15 = .ok (.getfield 54, 3) := by decide +kernel
theorem dX5_note_18 : decode cX5_note 18 = .ok (.iload_n 2, 1) := by decide +kernel
theorem dX5_note_19 : decode cX5_note 19 = .ok (.bastore, 1) := by decide +kernel
theorem dX5_note_20 : decode cX5_note 20 = .ok (.aload_n 0, 1) := by decide +kernel
theorem dX5_note_21 : decode cX5_note 21 = .ok (.getfield 32, 3) := by decide +kernel
theorem dX5_note_24 : decode cX5_note 24 = .ok (.aload_n 0, 1) := by decide +kernel
theorem dX5_note_25 : decode cX5_note 25 = .ok (.getfield 54, 3) := by decide +kernel
theorem dX5_note_28 : decode cX5_note 28 = .ok (.iload_n 3, 1) := by decide +kernel
theorem dX5_note_29 : decode cX5_note 29 = .ok (.iastore, 1) := by decide +kernel
theorem dX5_note_30 : decode cX5_note 30 = .ok (.aload_n 0, 1) := by decide +kernel
theorem dX5_note_31 : decode cX5_note 31 = .ok (.getfield 35, 3) := by decide +kernel
theorem dX5_note_34 : decode cX5_note 34 = .ok (.aload_n 0, 1) := by decide +kernel
theorem dX5_note_35 : decode cX5_note 35 = .ok (.getfield 54, 3) := by decide +kernel
theorem dX5_note_38 : decode cX5_note 38 = .ok (.iconst 0, 1) := by decide +kernel
theorem dX5_note_39 : decode cX5_note 39 = .ok (.bastore, 1) := by decide +kernel
theorem dX5_note_40 : decode cX5_note 40 = .ok (.aload_n 0, 1) := by decide +kernel
theorem dX5_note_41 : decode cX5_note 41 = .ok (.dup, 1) := by decide +kernel
theorem dX5_note_42 : decode cX5_note 42 = .ok (.getfield 54, 3) := by decide +kernel
theorem dX5_note_45 : decode cX5_note 45 = .ok (.iconst 1, 1) := by decide +kernel
theorem dX5_note_46 : decode cX5_note 46 = .ok (.iadd, 1) := by decide +kernel
theorem dX5_note_47 : decode cX5_note 47 = .ok (.putfield 54, 3) := by decide +kernel
theorem dX5_note_50 : decode cX5_note 50 = .ok (.aload_n 0, 1) := by decide +kernel
theorem dX5_note_51 : decode cX5_note 51 = .ok (.getfield 54, 3) := by decide +kernel
theorem dX5_note_54 : decode cX5_note 54 = .ok (.iconst 1, 1) := by decide +kernel
theorem dX5_note_55 : decode cX5_note 55 = .ok (.isub, 1) := by decide +kernel
theorem dX5_note_56 : decode cX5_note 56 = .ok (.ireturn, 1) := by decide +kernel
theorem dX5_act_0 : decode cX5_act 0 = .ok (.iconst 4, 1) := by decide +kernel
theorem dX5_act_1 : decode cX5_act 1 = .ok (.iload_n 2, 1) := by decide +kernel
theorem dX5_act_2 : decode cX5_act 2 = .ok (.imul, 1) := by decide +kernel
theorem dX5_act_3 : decode cX5_act 3 = .ok (.aload_n 0, 1) := by decide +kernel
theorem dX5_act_4 : decode cX5_act 4 = .ok (.getfield 25, 3) := by decide +kernel
theorem dX5_act_7 : decode cX5_act 7 = .ok (.iload_n 1, 1) := by decide +kernel
theorem dX5_act_8 : decode cX5_act 8 = .ok (.iaload, 1) := by decide +kernel
theorem dX5_act_9 : decode cX5_act 9 = .ok (.iconst 4, 1) := by decide +kernel
theorem dX5_act_10 : decode cX5_act 10 = .ok (.irem, 1) := by decide +kernel
theorem dX5_act_11 : decode cX5_act 11 = .ok (.iadd, 1) := by decide +kernel
theorem dX5_act_12 : decode cX5_act 12 = .ok (.istore_n 3, 1) := by decide +kernel
theorem dX5_act_13 : decode cX5_act 13 = .ok (.aload_n 0, 1) := by decide +kernel
theorem dX5_act_14 : decode cX5_act 14 = .ok (.getfield 28, 3) := by decide +kernel
theorem dX5_act_17 : decode cX5_act 17 = .ok (.iload_n 1, 1) := by decide +kernel
theorem dX5_act_18 : decode cX5_act 18 = .ok (.baload, 1) := by decide +kernel
theorem dX5_act_19 : decode cX5_act 19 = .ok (.ifCond .eq 25, 3) := by decide +kernel
theorem dX5_act_22 : decode cX5_act 22 = .ok (.aload_n 0, 1) := by decide +kernel
theorem dX5_act_23 : decode cX5_act 23 = .ok (.getfield 22, 3) := by decide +kernel
theorem dX5_act_26 : decode cX5_act 26 = .ok (.iload_n 3, 1) := by decide +kernel
theorem dX5_act_27 : decode cX5_act 27 = .ok (.aload_n 0, 1) := by decide +kernel
theorem dX5_act_28 : decode cX5_act 28 = .ok (.getfield 32, 3) := by decide +kernel
theorem dX5_act_31 : decode cX5_act 31 = .ok (.iload_n 1, 1) := by decide +kernel
theorem dX5_act_32 : decode cX5_act 32 = .ok (.iaload, 1) := by decide +kernel
theorem dX5_act_33 : decode cX5_act 33 = .ok (.iastore, 1) := by decide +kernel
theorem dX5_act_34 : decode cX5_act 34 = .ok (.aload_n 0, 1) := by decide +kernel
theorem dX5_act_35 : decode cX5_act 35 = .ok (.getfield 13, 3) := by decide +kernel
theorem dX5_act_38 : decode cX5_act 38 = .ok (.iload_n 2, 1) := by decide +kernel
theorem dX5_act_39 : decode cX5_act 39 = .ok (.iconst 2, 1) := by decide +kernel
theorem dX5_act_40 : decode cX5_act 40 = .ok (.iastore, 1) := by decide +kernel
theorem dX5_act_41 : decode cX5_act 41 = .ok (.goto 15, 3) := by decide +kernel
theorem dX5_act_44 : decode cX5_act 44 = .ok (.aload_n 0, 1) := by decide +kernel
theorem dX5_act_45 : decode cX5_act 45 = .ok (.getfield 32, 3) := by decide +kernel
theorem dX5_act_48 : decode cX5_act 48 = .ok (.iload_n 1, 1) := by decide +kernel
theorem dX5_act_49 : decode cX5_act 49 = .ok (.aload_n 0, 1) := by decide +kernel
theorem dX5_act_50 : decode cX5_act 50 = .ok (.getfield 22, 3) := by decide +kernel
theorem dX5_act_53 : decode cX5_act 53 = .ok (.iload_n 3, 1) := by decide +kernel
theorem dX5_act_54 : decode cX5_act 54 = .ok (.iaload, 1) := by decide +kernel
theorem dX5_act_55 : decode cX5_act 55 = .ok (.iastore, 1) := by decide +kernel
theorem dX5_act_56 : decode cX5_act 56 = .ok (.aload_n 0, 1) := by decide +kernel
theorem dX5_act_57 : decode cX5_act 57 = .ok (.getfield 35, 3) := by decide +kernel
theorem dX5_act_60 : decode cX5_act 60 = .ok (.iload_n 1, 1) := by decide +kernel
theorem dX5_act_61 : decode cX5_act 61 = .ok (.iconst 1, 1) := by decide +kernel
theorem dX5_act_62 : decode cX5_act 62 = .ok (.bastore, 1) := by decide +kernel
theorem dX5_act_63 : decode cX5_act 63 = .ok (.return_, 1) := by decide +kernel
theorem dX5_targetsOf_0 : decode cX5_targetsOf 0 = .ok (.iconst 0, 1) := by decide +kernel
theorem dX5_targetsOf_1 : decode cX5_targetsOf 1 = .ok (.istore_n 2, 1) := by decide +kernel
theorem dX5_targetsOf_2 : decode cX5_targetsOf 2 = .ok (.iconst 0, 1) := by decide +kernel
theorem dX5_targetsOf_3 : decode cX5_targetsOf 3 = .ok (.istore_n 3, 1) := by decide +kernel
theorem dX5_targetsOf_4 : decode cX5_targetsOf 4 = .ok (.iload_n 3, 1) := by decide +kernel
theorem dX5_targetsOf_5 : decode cX5_targetsOf 5 = .ok (.aload_n 0, 1) := by decide +kernel
theorem dX5_targetsOf_6 : decode cX5_targetsOf 6 = .ok (.getfield 54, 3) := by decide +kernel
theorem dX5_targetsOf_9 : decode cX5_targetsOf 9 = .ok (.if_icmp .ge 38, 3) := by decide +kernel
theorem dX5_targetsOf_12 : decode cX5_targetsOf 12 = .ok (.iload_n 2, 1) := by decide +kernel
theorem dX5_targetsOf_13 : decode cX5_targetsOf 13 = .ok (.aload_n 0, 1) := by decide +kernel
theorem dX5_targetsOf_14 : decode cX5_targetsOf 14 = .ok (.getfield 35, 3) := by decide +kernel
theorem dX5_targetsOf_17 : decode cX5_targetsOf 17 = .ok (.iload_n 3, 1) := by decide +kernel
theorem dX5_targetsOf_18 : decode cX5_targetsOf 18 = .ok (.baload, 1) := by decide +kernel
theorem dX5_targetsOf_19 : decode cX5_targetsOf 19 = .ok (.ifCond .ne 19, 3) := by decide +kernel
theorem dX5_targetsOf_22 : decode cX5_targetsOf 22 = .ok (.aload_n 0, 1) := by decide +kernel
theorem dX5_targetsOf_23 : decode cX5_targetsOf 23 = .ok (.getfield 25, 3) := by decide +kernel
theorem dX5_targetsOf_26 : decode cX5_targetsOf 26 = .ok (.iload_n 3, 1) := by decide +kernel
theorem dX5_targetsOf_27 : decode cX5_targetsOf 27 = .ok (.iaload, 1) := by decide +kernel
theorem dX5_targetsOf_28 : decode cX5_targetsOf 28 = .ok (.iconst 4, 1) := by decide +kernel
theorem dX5_targetsOf_29 : decode cX5_targetsOf 29 = .ok (.idiv, 1) := by decide +kernel
theorem dX5_targetsOf_30 : decode cX5_targetsOf 30 = .ok (.iload_n 1, 1) := by decide +kernel
theorem dX5_targetsOf_31 : decode cX5_targetsOf 31 = .ok (.if_icmp .ne 7, 3) := by decide +kernel
theorem dX5_targetsOf_34 : decode cX5_targetsOf 34 = .ok (.iconst 1, 1) := by decide +kernel
theorem dX5_targetsOf_35 : decode cX5_targetsOf 35 = .ok (.goto 4, 3) := by decide +kernel
theorem dX5_targetsOf_38 : decode cX5_targetsOf 38 = .ok (.iconst 0, 1) := by decide +kernel
theorem dX5_targetsOf_39 : decode cX5_targetsOf 39 = .ok (.iadd, 1) := by decide +kernel
theorem dX5_targetsOf_40 : decode cX5_targetsOf 40 = .ok (.istore_n 2, 1) := by decide +kernel
theorem dX5_targetsOf_41 : decode cX5_targetsOf 41 = .ok (.iinc 3 1, 3) := by decide +kernel
theorem dX5_targetsOf_44 : decode cX5_targetsOf 44 = .ok (.goto (-40), 3) := by decide +kernel
theorem dX5_targetsOf_47 : decode cX5_targetsOf 47 = .ok (.iload_n 2, 1) := by decide +kernel
theorem dX5_targetsOf_48 : decode cX5_targetsOf 48 = .ok (.ireturn, 1) := by decide +kernel
theorem dX5_stall_0 : decode cX5_stall 0 = .ok (.aload_n 0, 1) := by decide +kernel
theorem dX5_stall_1 : decode cX5_stall 1 = .ok (.getfield 48, 3) := by decide +kernel
theorem dX5_stall_4 : decode cX5_stall 4 = .ok (.iconst 4, 1) := by decide +kernel
theorem dX5_stall_5 : decode cX5_stall 5 = .ok (.dup2, 1) := by decide +kernel
theorem dX5_stall_6 : decode cX5_stall 6 = .ok (.iaload, 1) := by decide +kernel
theorem dX5_stall_7 : decode cX5_stall 7 = .ok (.iconst 1, 1) := by decide +kernel
theorem dX5_stall_8 : decode cX5_stall 8 = .ok (.iadd, 1) := by decide +kernel
theorem dX5_stall_9 : decode cX5_stall 9 = .ok (.iastore, 1) := by decide +kernel
theorem dX5_stall_10 : decode cX5_stall 10 = .ok (.iconst (-1), 1) := by decide +kernel
theorem dX5_stall_11 : decode cX5_stall 11 = .ok (.ireturn, 1) := by decide +kernel
theorem dX5_choose_0 : decode cX5_choose 0 = .ok (.iconst 2, 1) := by decide +kernel
theorem dX5_choose_1 : decode cX5_choose 1 = .ok (.iload_n 1, 1) := by decide +kernel
theorem dX5_choose_2 : decode cX5_choose 2 = .ok (.iconst 4, 1) := by decide +kernel
theorem dX5_choose_3 : decode cX5_choose 3 = .ok (.irem, 1) := by decide +kernel
theorem dX5_choose_4 : decode cX5_choose 4 = .ok (.imul, 1) := by decide +kernel
theorem dX5_choose_5 : decode cX5_choose 5 = .ok (.istore_n 2, 1) := by decide +kernel
theorem dX5_choose_6 : decode cX5_choose 6 = .ok (.aload_n 0, 1) := by decide +kernel
theorem dX5_choose_7 : decode cX5_choose 7 = .ok (.getfield 13, 3) := by decide +kernel
theorem dX5_choose_10 : decode cX5_choose 10 = .ok (.iload_n 2, 1) := by decide +kernel
theorem dX5_choose_11 : decode cX5_choose 11 = .ok (.iaload, 1) := by decide +kernel
theorem dX5_choose_12 : decode cX5_choose 12 = .ok (.ifCond .eq 14, 3) := by decide +kernel
theorem dX5_choose_15 : decode cX5_choose 15 = .ok (.aload_n 0, 1) := by decide +kernel
theorem dX5_choose_16 : decode cX5_choose 16 = .ok (.getfield 13, 3) := by decide +kernel
theorem dX5_choose_19 : decode cX5_choose 19 = .ok (.iload_n 2, 1) := by decide +kernel
theorem dX5_choose_20 : decode cX5_choose 20 = .ok (.iconst 1, 1) := by decide +kernel
theorem dX5_choose_21 : decode cX5_choose 21 = .ok (.iadd, 1) := by decide +kernel
theorem dX5_choose_22 : decode cX5_choose 22 = .ok (.iaload, 1) := by decide +kernel
theorem dX5_choose_23 : decode cX5_choose 23 = .ok (.ifCond .ne 20, 3) := by decide +kernel
theorem dX5_choose_26 : decode cX5_choose 26 = .ok (.aload_n 0, 1) := by decide +kernel
theorem dX5_choose_27 : decode cX5_choose 27 = .ok (.getfield 13, 3) := by decide +kernel
theorem dX5_choose_30 : decode cX5_choose 30 = .ok (.iload_n 2, 1) := by decide +kernel
theorem dX5_choose_31 : decode cX5_choose 31 = .ok (.iaload, 1) := by decide +kernel
theorem dX5_choose_32 : decode cX5_choose 32 = .ok (.ifCond .ne 7, 3) := by decide +kernel
theorem dX5_choose_35 : decode cX5_choose 35 = .ok (.iload_n 2, 1) := by decide +kernel
theorem dX5_choose_36 : decode cX5_choose 36 = .ok (.goto 6, 3) := by decide +kernel
theorem dX5_choose_39 : decode cX5_choose 39 = .ok (.iload_n 2, 1) := by decide +kernel
theorem dX5_choose_40 : decode cX5_choose 40 = .ok (.iconst 1, 1) := by decide +kernel
theorem dX5_choose_41 : decode cX5_choose 41 = .ok (.iadd, 1) := by decide +kernel
theorem dX5_choose_42 : decode cX5_choose 42 = .ok (.ireturn, 1) := by decide +kernel
theorem dX5_choose_43 : decode cX5_choose 43 = .ok (.aload_n 0, 1) := by decide +kernel
theorem dX5_choose_44 : decode cX5_choose 44 = .ok (.getfield 13, 3) := by decide +kernel
theorem dX5_choose_47 : decode cX5_choose 47 = .ok (.iload_n 2, 1) := by decide +kernel
theorem dX5_choose_48 : decode cX5_choose 48 = .ok (.iaload, 1) := by decide +kernel
theorem dX5_choose_49 : decode cX5_choose 49 = .ok (.iconst 3, 1) := by decide +kernel
theorem dX5_choose_50 : decode cX5_choose 50 = .ok (.if_icmp .eq 15, 3) := by decide +kernel
theorem dX5_choose_53 : decode cX5_choose 53 = .ok (.aload_n 0, 1) := by decide +kernel
theorem dX5_choose_54 : decode cX5_choose 54 = .ok (.getfield 13, 3) := by decide +kernel
theorem dX5_choose_57 : decode cX5_choose 57 = .ok (.iload_n 2, 1) := by decide +kernel
theorem dX5_choose_58 : decode cX5_choose 58 = .ok (.iconst 1, 1) := by decide +kernel
theorem dX5_choose_59 : decode cX5_choose 59 = .ok (.iadd, 1) := by decide +kernel
theorem dX5_choose_60 : decode cX5_choose 60 = .ok (.iaload, 1) := by decide +kernel
theorem dX5_choose_61 : decode cX5_choose 61 = .ok (.iconst 3, 1) := by decide +kernel
theorem dX5_choose_62 : decode cX5_choose 62 = .ok (.if_icmp .ne 37, 3) := by decide +kernel
theorem dX5_choose_65 : decode cX5_choose 65 = .ok (.aload_n 0, 1) := by decide +kernel
theorem dX5_choose_66 : decode cX5_choose 66 = .ok (.getfield 13, 3) := by decide +kernel
theorem dX5_choose_69 : decode cX5_choose 69 = .ok (.iload_n 2, 1) := by decide +kernel
theorem dX5_choose_70 : decode cX5_choose 70 = .ok (.iaload, 1) := by decide +kernel
theorem dX5_choose_71 : decode cX5_choose 71 = .ok (.iconst 3, 1) := by decide +kernel
theorem dX5_choose_72 : decode cX5_choose 72 = .ok (.if_icmp .eq 7, 3) := by decide +kernel
theorem dX5_choose_75 : decode cX5_choose 75 = .ok (.iload_n 2, 1) := by decide +kernel
theorem dX5_choose_76 : decode cX5_choose 76 = .ok (.goto 22, 3) := by decide +kernel
theorem dX5_choose_79 : decode cX5_choose 79 = .ok (.aload_n 0, 1) := by decide +kernel
theorem dX5_choose_80 : decode cX5_choose 80 = .ok (.getfield 13, 3) := by decide +kernel
theorem dX5_choose_83 : decode cX5_choose 83 = .ok (.iload_n 2, 1) := by decide +kernel
theorem dX5_choose_84 : decode cX5_choose 84 = .ok (.iconst 1, 1) := by decide +kernel
theorem dX5_choose_85 : decode cX5_choose 85 = .ok (.iadd, 1) := by decide +kernel
theorem dX5_choose_86 : decode cX5_choose 86 = .ok (.iaload, 1) := by decide +kernel
theorem dX5_choose_87 : decode cX5_choose 87 = .ok (.iconst 3, 1) := by decide +kernel
theorem dX5_choose_88 : decode cX5_choose 88 = .ok (.if_icmp .eq 9, 3) := by decide +kernel
theorem dX5_choose_91 : decode cX5_choose 91 = .ok (.iload_n 2, 1) := by decide +kernel
theorem dX5_choose_92 : decode cX5_choose 92 = .ok (.iconst 1, 1) := by decide +kernel
theorem dX5_choose_93 : decode cX5_choose 93 = .ok (.iadd, 1) := by decide +kernel
theorem dX5_choose_94 : decode cX5_choose 94 = .ok (.goto 4, 3) := by decide +kernel
theorem dX5_choose_97 : decode cX5_choose 97 = .ok (.iconst (-1), 1) := by decide +kernel
theorem dX5_choose_98 : decode cX5_choose 98 = .ok (.ireturn, 1) := by decide +kernel
theorem dX5_choose_99 : decode cX5_choose 99 = .ok (.aload_n 0, 1) := by decide +kernel
theorem dX5_choose_100 : decode cX5_choose 100 = .ok (.getfield 19, 3) := by decide +kernel
theorem dX5_choose_103 : decode cX5_choose 103 = .ok (.iload_n 2, 1) := by decide +kernel
theorem dX5_choose_104 : decode cX5_choose 104 = .ok (.iaload, 1) := by decide +kernel
theorem dX5_choose_105 : decode cX5_choose 105 = .ok (.aload_n 0, 1) := by decide +kernel
theorem dX5_choose_106 : decode cX5_choose 106 = .ok (.getfield 19, 3) := by decide +kernel
theorem dX5_choose_109 : decode cX5_choose 109 = .ok (.iload_n 2, 1) := by decide +kernel
theorem dX5_choose_110 : decode cX5_choose 110 = .ok (.iconst 1, 1) := by decide +kernel
theorem dX5_choose_111 : decode cX5_choose 111 = .ok (.iadd, 1) := by decide +kernel
theorem dX5_choose_112 : decode cX5_choose 112 = .ok (.iaload, 1) := by decide +kernel
theorem dX5_choose_113 : decode cX5_choose 113 = .ok (.if_icmp .ge 7, 3) := by decide +kernel
theorem dX5_choose_116 : decode cX5_choose 116 = .ok (.iload_n 2, 1) := by decide +kernel
theorem dX5_choose_117 : decode cX5_choose 117 = .ok (.goto 6, 3) := by decide +kernel
theorem dX5_choose_120 : decode cX5_choose 120 = .ok (.iload_n 2, 1) := by decide +kernel
theorem dX5_choose_121 : decode cX5_choose 121 = .ok (.iconst 1, 1) := by decide +kernel
theorem dX5_choose_122 : decode cX5_choose 122 = .ok (.iadd, 1) := by decide +kernel
theorem dX5_choose_123 : decode cX5_choose 123 = .ok (.ireturn, 1) := by decide +kernel
theorem dX5_awaited_0 : decode cX5_awaited 0 = .ok (.iconst 0, 1) := by decide +kernel
theorem dX5_awaited_1 : decode cX5_awaited 1 = .ok (.istore_n 1, 1) := by decide +kernel
theorem dX5_awaited_2 : decode cX5_awaited 2 = .ok (.iconst 0, 1) := by decide +kernel
theorem dX5_awaited_3 : decode cX5_awaited 3 = .ok (.istore_n 2, 1) := by decide +kernel
theorem dX5_awaited_4 : decode cX5_awaited 4 = .ok (.iload_n 2, 1) := by decide +kernel
theorem dX5_awaited_5 : decode cX5_awaited 5 = .ok (.bipush 8, 2) := by decide +kernel
theorem dX5_awaited_7 : decode cX5_awaited 7 = .ok (.if_icmp .ge 27, 3) := by decide +kernel
theorem dX5_awaited_10 : decode cX5_awaited 10 = .ok (.iload_n 1, 1) := by decide +kernel
theorem dX5_awaited_11 : decode cX5_awaited 11 = .ok (.aload_n 0, 1) := by decide +kernel
theorem dX5_awaited_12 : decode cX5_awaited 12 = .ok (.getfield 13, 3) := by decide +kernel
theorem dX5_awaited_15 : decode cX5_awaited 15 = .ok (.iload_n 2, 1) := by decide +kernel
theorem dX5_awaited_16 : decode cX5_awaited 16 = .ok (.iaload, 1) := by decide +kernel
theorem dX5_awaited_17 : decode cX5_awaited 17 = .ok (.iconst 3, 1) := by decide +kernel
theorem dX5_awaited_18 : decode cX5_awaited 18 = .ok (.if_icmp .ne 7, 3) := by decide +kernel
theorem dX5_awaited_21 : decode cX5_awaited 21 = .ok (.iconst 1, 1) := by decide +kernel
theorem dX5_awaited_22 : decode cX5_awaited 22 = .ok (.goto 4, 3) := by decide +kernel
theorem dX5_awaited_25 : decode cX5_awaited 25 = .ok (.iconst 0, 1) := by decide +kernel
theorem dX5_awaited_26 : decode cX5_awaited 26 = .ok (.iadd, 1) := by decide +kernel
theorem dX5_awaited_27 : decode cX5_awaited 27 = .ok (.istore_n 1, 1) := by decide +kernel
theorem dX5_awaited_28 : decode cX5_awaited 28 = .ok (.iinc 2 1, 3) := by decide +kernel
theorem dX5_awaited_31 : decode cX5_awaited 31 = .ok (.goto (-27), 3) := by decide +kernel
theorem dX5_awaited_34 : decode cX5_awaited 34 = .ok (.iload_n 1, 1) := by decide +kernel
theorem dX5_awaited_35 : decode cX5_awaited 35 = .ok (.ireturn, 1) := by decide +kernel
theorem dX5_writes_0 : decode cX5_writes 0 = .ok (.iconst 0, 1) := by decide +kernel
theorem dX5_writes_1 : decode cX5_writes 1 = .ok (.istore_n 1, 1) := by decide +kernel
theorem dX5_writes_2 : decode cX5_writes 2 = .ok (.iconst 0, 1) := by decide +kernel
theorem dX5_writes_3 : decode cX5_writes 3 = .ok (.istore_n 2, 1) := by decide +kernel
theorem dX5_writes_4 : decode cX5_writes 4 = .ok (.iload_n 2, 1) := by decide +kernel
theorem dX5_writes_5 : decode cX5_writes 5 = .ok (.aload_n 0, 1) := by decide +kernel
theorem dX5_writes_6 : decode cX5_writes 6 = .ok (.getfield 57, 3) := by decide +kernel
theorem dX5_writes_9 : decode cX5_writes 9 = .ok (.if_icmp .ge 28, 3) := by decide +kernel
theorem dX5_writes_12 : decode cX5_writes 12 = .ok (.iload_n 1, 1) := by decide +kernel
theorem dX5_writes_13 : decode cX5_writes 13 = .ok (.aload_n 0, 1) := by decide +kernel
theorem dX5_writes_14 : decode cX5_writes 14 = .ok (.getfield 38, 3) := by decide +kernel
theorem dX5_writes_17 : decode cX5_writes 17 = .ok (.iload_n 2, 1) := by decide +kernel
theorem dX5_writes_18 : decode cX5_writes 18 = .ok (.iaload, 1) := by decide +kernel
theorem dX5_writes_19 : decode cX5_writes 19 = .ok (.bipush 99, 2) := by decide +kernel
theorem dX5_writes_21 : decode cX5_writes 21 = .ok (.if_icmp .le 7, 3) := by decide +kernel
theorem dX5_writes_24 : decode cX5_writes 24 = .ok (.iconst 1, 1) := by decide +kernel
theorem dX5_writes_25 : decode cX5_writes 25 = .ok (.goto 4, 3) := by decide +kernel
theorem dX5_writes_28 : decode cX5_writes 28 = .ok (.iconst 0, 1) := by decide +kernel
theorem dX5_writes_29 : decode cX5_writes 29 = .ok (.iadd, 1) := by decide +kernel
theorem dX5_writes_30 : decode cX5_writes 30 = .ok (.istore_n 1, 1) := by decide +kernel
theorem dX5_writes_31 : decode cX5_writes 31 = .ok (.iinc 2 1, 3) := by decide +kernel
theorem dX5_writes_34 : decode cX5_writes 34 = .ok (.goto (-30), 3) := by decide +kernel
theorem dX5_writes_37 : decode cX5_writes 37 = .ok (.iload_n 1, 1) := by decide +kernel
theorem dX5_writes_38 : decode cX5_writes 38 = .ok (.ireturn, 1) := by decide +kernel
theorem dX5_put_0 : decode cX5_put 0 = .ok (.aload_n 0, 1) := by decide +kernel
theorem dX5_put_1 : decode cX5_put 1 = .ok (.getfield 38, 3) := by decide +kernel
theorem dX5_put_4 : decode cX5_put 4 = .ok (.aload_n 0, 1) := by decide +kernel
theorem dX5_put_5 : decode cX5_put 5 = .ok (.getfield 57, 3) := by decide +kernel
theorem dX5_put_8 : decode cX5_put 8 = .ok (.iload_n 1, 1) := by decide +kernel
theorem dX5_put_9 : decode cX5_put 9 = .ok (.iastore, 1) := by decide +kernel
theorem dX5_put_10 : decode cX5_put 10 = .ok (.iconst 0, 1) := by decide +kernel
theorem dX5_put_11 : decode cX5_put 11 = .ok (.istore_n 3, 1) := by decide +kernel
theorem dX5_put_12 : decode cX5_put 12 = .ok (.iload_n 3, 1) := by decide +kernel
theorem dX5_put_13 : decode cX5_put 13 = .ok (.iconst 4, 1) := by decide +kernel
theorem dX5_put_14 : decode cX5_put 14 = .ok (.if_icmp .ge 32, 3) := by decide +kernel
theorem dX5_put_17 : decode cX5_put 17 = .ok (.aload_n 0, 1) := by decide +kernel
theorem dX5_put_18 : decode cX5_put 18 = .ok (.getfield 41, 3) := by decide +kernel
theorem dX5_put_21 : decode cX5_put 21 = .ok (.iconst 4, 1) := by decide +kernel
theorem dX5_put_22 : decode cX5_put 22 = .ok (.aload_n 0, 1) := by decide +kernel
theorem dX5_put_23 : decode cX5_put 23 = .ok (.getfield 57, 3) := by decide +kernel
theorem dX5_put_26 : decode cX5_put 26 = .ok (.imul, 1) := by decide +kernel
theorem dX5_put_27 : decode cX5_put 27 = .ok (.iload_n 3, 1) := by decide +kernel
theorem dX5_put_28 : decode cX5_put 28 = .ok (.iadd, 1) := by decide +kernel
theorem dX5_put_29 : decode cX5_put 29 = .ok (.aload_n 0, 1) := by decide +kernel
theorem dX5_put_30 : decode cX5_put 30 = .ok (.getfield 22, 3) := by decide +kernel
theorem dX5_put_33 : decode cX5_put 33 = .ok (.iconst 4, 1) := by decide +kernel
theorem dX5_put_34 : decode cX5_put 34 = .ok (.iload_n 2, 1) := by decide +kernel
theorem dX5_put_35 : decode cX5_put 35 = .ok (.imul, 1) := by decide +kernel
theorem dX5_put_36 : decode cX5_put 36 = .ok (.iload_n 3, 1) := by decide +kernel
theorem dX5_put_37 : decode cX5_put 37 = .ok (.iadd, 1) := by decide +kernel
theorem dX5_put_38 : decode cX5_put 38 = .ok (.iaload, 1) := by decide +kernel
theorem dX5_put_39 : decode cX5_put 39 = .ok (.iastore, 1) := by decide +kernel
theorem dX5_put_40 : decode cX5_put 40 = .ok (.iinc 3 1, 3) := by decide +kernel
theorem dX5_put_43 : decode cX5_put 43 = .ok (.goto (-31), 3) := by decide +kernel
theorem dX5_put_46 : decode cX5_put 46 = .ok (.aload_n 0, 1) := by decide +kernel
theorem dX5_put_47 : decode cX5_put 47 = .ok (.dup, 1) := by decide +kernel
theorem dX5_put_48 : decode cX5_put 48 = .ok (.getfield 57, 3) := by decide +kernel
theorem dX5_put_51 : decode cX5_put 51 = .ok (.iconst 1, 1) := by decide +kernel
theorem dX5_put_52 : decode cX5_put 52 = .ok (.iadd, 1) := by decide +kernel
theorem dX5_put_53 : decode cX5_put 53 = .ok (.putfield 57, 3) := by decide +kernel
theorem dX5_put_56 : decode cX5_put 56 = .ok (.aload_n 0, 1) := by decide +kernel
theorem dX5_put_57 : decode cX5_put 57 = .ok (.aload_n 0, 1) := by decide +kernel
theorem dX5_put_58 : decode cX5_put 58 = .ok (.getfield 57, 3) := by decide +kernel
theorem dX5_put_61 : decode cX5_put 61 = .ok (.iconst 1, 1) := by decide +kernel
theorem dX5_put_62 : decode cX5_put 62 = .ok (.if_icmp .ne 10, 3) := by decide +kernel
theorem dX5_put_65 : decode cX5_put 65 = .ok (.aload_n 0, 1) := by decide +kernel
theorem dX5_put_66 : decode cX5_put 66 = .ok (.getfield 44, 3) := by decide +kernel
theorem dX5_put_69 : decode cX5_put 69 = .ok (.goto 7, 3) := by decide +kernel
theorem dX5_put_72 : decode cX5_put 72 = .ok (.aload_n 0, 1) := by decide +kernel
theorem dX5_put_73 : decode cX5_put 73 = .ok (.getfield 63, 3) := by decide +kernel
theorem dX5_put_76 : decode cX5_put 76 = .ok (.putfield 63, 3) := by decide +kernel
theorem dX5_put_79 : decode cX5_put 79 = .ok (.return_, 1) := by decide +kernel
theorem dX5_fetch_0 : decode cX5_fetch 0 = .ok (.aload_n 0, 1) := by decide +kernel
theorem dX5_fetch_1 : decode cX5_fetch 1 = .ok (.getfield 13, 3) := by decide +kernel
theorem dX5_fetch_4 : decode cX5_fetch 4 = .ok (.iload_n 2, 1) := by decide +kernel
theorem dX5_fetch_5 : decode cX5_fetch 5 = .ok (.iconst 3, 1) := by decide +kernel
theorem dX5_fetch_6 : decode cX5_fetch 6 = .ok (.iastore, 1) := by decide +kernel
theorem dX5_fetch_7 : decode cX5_fetch 7 = .ok (.aload_n 0, 1) := by decide +kernel
theorem dX5_fetch_8 : decode cX5_fetch 8 = .ok (.getfield 16, 3) := by decide +kernel
theorem dX5_fetch_11 : decode cX5_fetch 11 = .ok (.iload_n 2, 1) := by decide +kernel
theorem dX5_fetch_12 : decode cX5_fetch 12 = .ok (.iload_n 1, 1) := by decide +kernel
theorem dX5_fetch_13 : decode cX5_fetch 13 = .ok (.iastore, 1) := by decide +kernel
theorem dX5_fetch_14 : decode cX5_fetch 14 = .ok (.aload_n 0, 1) := by decide +kernel
theorem dX5_fetch_15 : decode cX5_fetch 15 = .ok (.iload_n 2, 1) := by decide +kernel
theorem dX5_fetch_16 : decode cX5_fetch 16 = .ok (.invokevirtual 66, 3) := by decide +kernel
theorem dX5_fetch_19 : decode cX5_fetch 19 = .ok (.aload_n 0, 1) := by decide +kernel
theorem dX5_fetch_20 : decode cX5_fetch 20 = .ok (.iload_n 1, 1) := by decide +kernel
theorem dX5_fetch_21 : decode cX5_fetch 21 = .ok (.iload_n 2, 1) := by decide +kernel
theorem dX5_fetch_22 : decode cX5_fetch 22 = .ok (.invokevirtual 70, 3) := by decide +kernel
theorem dX5_fetch_25 : decode cX5_fetch 25 = .ok (.return_, 1) := by decide +kernel
theorem dX5_fetchAhead_0 : decode cX5_fetchAhead 0 = .ok (.aload_n 0, 1) := by decide +kernel
theorem dX5_fetchAhead_1 : decode cX5_fetchAhead 1 = .ok (.getfield 74, 3) := by decide +kernel
theorem dX5_fetchAhead_4 : decode cX5_fetchAhead 4 = .ok (.ifCond .eq 25, 3) := by decide +kernel
theorem dX5_fetchAhead_7 : decode cX5_fetchAhead 7 = .ok (.iload_n 1, 1) := by decide +kernel
theorem dX5_fetchAhead_8 : decode cX5_fetchAhead 8 = .ok (.bipush 63, 2) := by decide +kernel
theorem dX5_fetchAhead_10 : decode cX5_fetchAhead 10 = .ok (.if_icmp .gt 19, 3) := by decide +kernel
theorem dX5_fetchAhead_13 : decode cX5_fetchAhead 13 = .ok (.aload_n 0, 1) := by decide +kernel
theorem dX5_fetchAhead_14 : decode cX5_fetchAhead 14 = .ok (.iload_n 1, 1) := by decide +kernel
theorem dX5_fetchAhead_15 : decode cX5_fetchAhead 15 = .ok (.invokevirtual 78, 3) := by decide +kernel
theorem dX5_fetchAhead_18 : decode cX5_fetchAhead 18 = .ok (.ifCond .ge 11, 3) := by decide +kernel
theorem dX5_fetchAhead_21 : decode cX5_fetchAhead 21 = .ok (.aload_n 0, 1) := by decide +kernel
theorem dX5_fetchAhead_22 : decode cX5_fetchAhead 22 = .ok (.invokevirtual 82, 3) := by decide +kernel
theorem dX5_fetchAhead_25 : decode cX5_fetchAhead 25 = .ok (.iconst 3, 1) := by decide +kernel
theorem dX5_fetchAhead_26 : decode cX5_fetchAhead 26 = .ok (.if_icmp .ne 4, 3) := by decide +kernel
theorem dX5_fetchAhead_29 : decode cX5_fetchAhead 29 = .ok (.return_, 1) := by decide +kernel
theorem dX5_fetchAhead_30 : decode cX5_fetchAhead 30 = .ok (.aload_n 0, 1) := by decide +kernel
theorem dX5_fetchAhead_31 : decode cX5_fetchAhead 31 = .ok (.iload_n 1, 1) := by decide +kernel
theorem dX5_fetchAhead_32 : decode cX5_fetchAhead 32 = .ok (.invokevirtual 86, 3) := by decide +kernel
theorem dX5_fetchAhead_35 : decode cX5_fetchAhead 35 = .ok (.istore_n 2, 1) := by decide +kernel
theorem dX5_fetchAhead_36 : decode cX5_fetchAhead 36 = .ok (.iload_n 2, 1) := by decide +kernel
theorem dX5_fetchAhead_37 : decode cX5_fetchAhead 37 = .ok (.ifCond .lt 29, 3) := by decide +kernel
theorem dX5_fetchAhead_40 : decode cX5_fetchAhead 40 = .ok (.aload_n 0, 1) := by decide +kernel
theorem dX5_fetchAhead_41 : decode cX5_fetchAhead 41 = .ok (.getfield 13, 3) := by decide +kernel
theorem dX5_fetchAhead_44 : decode cX5_fetchAhead 44 = .ok (.iload_n 2, 1) := by decide +kernel
theorem dX5_fetchAhead_45 : decode cX5_fetchAhead 45 = .ok (.iaload, 1) := by decide +kernel
theorem dX5_fetchAhead_46 : decode cX5_fetchAhead 46 = .ok (.iconst 2, 1) := by decide +kernel
theorem dX5_fetchAhead_47 : decode cX5_fetchAhead 47 = .ok (.if_icmp .eq 19, 3) := by decide +kernel
theorem dX5_fetchAhead_50 : decode cX5_fetchAhead 50 = .ok (.aload_n 0, 1) := by decide +kernel
theorem dX5_fetchAhead_51 : decode cX5_fetchAhead 51 = .ok (.iload_n 1, 1) := by decide +kernel
theorem dX5_fetchAhead_52 : decode cX5_fetchAhead 52 = .ok (.iload_n 2, 1) := by decide +kernel
theorem dX5_fetchAhead_53 : decode cX5_fetchAhead 53 = .ok (.invokevirtual 89, 3) := by decide +kernel
theorem dX5_fetchAhead_56 : decode cX5_fetchAhead 56 = .ok (.aload_n 0, 1) := by decide +kernel
theorem dX5_fetchAhead_57 : decode cX5_fetchAhead 57 = .ok (.getfield 48, 3) := by decide +kernel
theorem dX5_fetchAhead_60 : decode cX5_fetchAhead 60 = .ok (.iconst 5, 1) := by decide +kernel
theorem dX5_fetchAhead_61 : decode cX5_fetchAhead 61 = .ok (.dup2, 1) := by decide +kernel
theorem dX5_fetchAhead_62 : decode cX5_fetchAhead 62 = .ok (.iaload, 1) := by decide +kernel
theorem dX5_fetchAhead_63 : decode cX5_fetchAhead 63 = .ok (.iconst 1, 1) := by decide +kernel
theorem dX5_fetchAhead_64 : decode cX5_fetchAhead 64 = .ok (.iadd, 1) := by decide +kernel
theorem dX5_fetchAhead_65 : decode cX5_fetchAhead 65 = .ok (.iastore, 1) := by decide +kernel
theorem dX5_fetchAhead_66 : decode cX5_fetchAhead 66 = .ok (.return_, 1) := by decide +kernel
theorem dX5_store_0 : decode cX5_store 0 = .ok (.aload_n 0, 1) := by decide +kernel
theorem dX5_store_1 : decode cX5_store 1 = .ok (.aload_n 0, 1) := by decide +kernel
theorem dX5_store_2 : decode cX5_store 2 = .ok (.iload_n 1, 1) := by decide +kernel
theorem dX5_store_3 : decode cX5_store 3 = .ok (.invokevirtual 111, 3) := by decide +kernel
theorem dX5_store_6 : decode cX5_store 6 = .ok (.ifCond .eq 7, 3) := by decide +kernel
theorem dX5_store_9 : decode cX5_store 9 = .ok (.iconst 1, 1) := by decide +kernel
theorem dX5_store_10 : decode cX5_store 10 = .ok (.goto 4, 3) := by decide +kernel
theorem dX5_store_13 : decode cX5_store 13 = .ok (.iconst 0, 1) := by decide +kernel
theorem dX5_store_14 : decode cX5_store 14 = .ok (.putfield 51, 3) := by decide +kernel
theorem dX5_store_17 : decode cX5_store 17 = .ok (.aload_n 0, 1) := by decide +kernel
theorem dX5_store_18 : decode cX5_store 18 = .ok (.getfield 51, 3) := by decide +kernel
theorem dX5_store_21 : decode cX5_store 21 = .ok (.ifCond .eq 5, 3) := by decide +kernel
theorem dX5_store_24 : decode cX5_store 24 = .ok (.iconst 0, 1) := by decide +kernel
theorem dX5_store_25 : decode cX5_store 25 = .ok (.ireturn, 1) := by decide +kernel
theorem dX5_store_26 : decode cX5_store 26 = .ok (.aload_n 0, 1) := by decide +kernel
theorem dX5_store_27 : decode cX5_store 27 = .ok (.iload_n 1, 1) := by decide +kernel
theorem dX5_store_28 : decode cX5_store 28 = .ok (.iconst 1, 1) := by decide +kernel
theorem dX5_store_29 : decode cX5_store 29 = .ok (.iload_n 2, 1) := by decide +kernel
theorem dX5_store_30 : decode cX5_store 30 = .ok (.invokevirtual 115, 3) := by decide +kernel
theorem dX5_store_33 : decode cX5_store 33 = .ok (.istore_n 3, 1) := by decide +kernel
theorem dX5_store_34 : decode cX5_store 34 = .ok (.aload_n 0, 1) := by decide +kernel
theorem dX5_store_35 : decode cX5_store 35 = .ok (.iload_n 3, 1) := by decide +kernel
theorem dX5_store_36 : decode cX5_store 36 = .ok (.ifCond .ge 7, 3) := by decide +kernel
theorem dX5_store_39 : decode cX5_store 39 = .ok (.iconst 2, 1) := by decide +kernel
theorem dX5_store_40 : decode cX5_store 40 = .ok (.goto 4, 3) := by decide +kernel
theorem dX5_store_43 : decode cX5_store 43 = .ok (.iconst 0, 1) := by decide +kernel
theorem dX5_store_44 : decode cX5_store 44 = .ok (.putfield 51, 3) := by decide +kernel
theorem dX5_store_47 : decode cX5_store 47 = .ok (.iload_n 3, 1) := by decide +kernel
theorem dX5_store_48 : decode cX5_store 48 = .ok (.ifCond .ge 7, 3) := by decide +kernel
theorem dX5_store_51 : decode cX5_store 51 = .ok (.iconst 0, 1) := by decide +kernel
theorem dX5_store_52 : decode cX5_store 52 = .ok (.goto 4, 3) := by decide +kernel
theorem dX5_store_55 : decode cX5_store 55 = .ok (.iload_n 3, 1) := by decide +kernel
theorem dX5_store_56 : decode cX5_store 56 = .ok (.ireturn, 1) := by decide +kernel
theorem dX5_tick_0 : decode cX5_tick 0 = .ok (.aload_n 0, 1) := by decide +kernel
theorem dX5_tick_1 : decode cX5_tick 1 = .ok (.iload_n 1, 1) := by decide +kernel
theorem dX5_tick_2 : decode cX5_tick 2 = .ok (.iconst 1, 1) := by decide +kernel
theorem dX5_tick_3 : decode cX5_tick 3 = .ok (.if_icmp .lt 9, 3) := by decide +kernel
theorem dX5_tick_6 : decode cX5_tick 6 = .ok (.iload_n 1, 1) := by decide +kernel
theorem dX5_tick_7 : decode cX5_tick 7 = .ok (.bipush 50, 2) := by decide +kernel
theorem dX5_tick_9 : decode cX5_tick 9 = .ok (.if_icmp .le 7, 3) := by decide +kernel
theorem dX5_tick_12 : decode cX5_tick 12 = .ok (.iconst 1, 1) := by decide +kernel
theorem dX5_tick_13 : decode cX5_tick 13 = .ok (.goto 4, 3) := by decide +kernel
theorem dX5_tick_16 : decode cX5_tick 16 = .ok (.iconst 0, 1) := by decide +kernel
theorem dX5_tick_17 : decode cX5_tick 17 = .ok (.putfield 51, 3) := by decide +kernel
theorem dX5_tick_20 : decode cX5_tick 20 = .ok (.iconst 0, 1) := by decide +kernel
theorem dX5_tick_21 : decode cX5_tick 21 = .ok (.istore_n 2, 1) := by decide +kernel
theorem dX5_tick_22 : decode cX5_tick 22 = .ok (.iconst 0, 1) := by decide +kernel
theorem dX5_tick_23 : decode cX5_tick 23 = .ok (.istore_n 3, 1) := by decide +kernel
theorem dX5_tick_24 : decode cX5_tick 24 = .ok (.iload_n 3, 1) := by decide +kernel
theorem dX5_tick_25 : decode cX5_tick 25 = .ok (.iload_n 1, 1) := by decide +kernel
theorem dX5_tick_26 : decode cX5_tick 26 = .ok (.if_icmp .ge 23, 3) := by decide +kernel
theorem dX5_tick_29 : decode cX5_tick 29 = .ok (.aload_n 0, 1) := by decide +kernel
theorem dX5_tick_30 : decode cX5_tick 30 = .ok (.getfield 51, 3) := by decide +kernel
theorem dX5_tick_33 : decode cX5_tick 33 = .ok (.ifCond .ne 16, 3) := by decide +kernel
theorem dX5_tick_36 : decode cX5_tick 36 = .ok (.iload_n 2, 1) := by decide +kernel
theorem dX5_tick_37 : decode cX5_tick 37 = .ok (.aload_n 0, 1) := by decide +kernel
theorem dX5_tick_38 : decode cX5_tick 38 = .ok (.invokevirtual 121, 3) := by decide +kernel
theorem dX5_tick_41 : decode cX5_tick 41 = .ok (.iadd, 1) := by decide +kernel
theorem dX5_tick_42 : decode cX5_tick 42 = .ok (.istore_n 2, 1) := by decide +kernel
theorem dX5_tick_43 : decode cX5_tick 43 = .ok (.iinc 3 1, 3) := by decide +kernel
theorem dX5_tick_46 : decode cX5_tick 46 = .ok (.goto (-22), 3) := by decide +kernel
theorem dX5_tick_49 : decode cX5_tick 49 = .ok (.iload_n 2, 1) := by decide +kernel
theorem dX5_tick_50 : decode cX5_tick 50 = .ok (.ireturn, 1) := by decide +kernel
theorem dX5_pass_0 : decode cX5_pass 0 = .ok (.aload_n 0, 1) := by decide +kernel
theorem dX5_pass_1 : decode cX5_pass 1 = .ok (.getfield 48, 3) := by decide +kernel
theorem dX5_pass_4 : decode cX5_pass 4 = .ok (.bipush 7, 2) := by decide +kernel
theorem dX5_pass_6 : decode cX5_pass 6 = .ok (.dup2, 1) := by decide +kernel
theorem dX5_pass_7 : decode cX5_pass 7 = .ok (.iaload, 1) := by decide +kernel
theorem dX5_pass_8 : decode cX5_pass 8 = .ok (.iconst 1, 1) := by decide +kernel
theorem dX5_pass_9 : decode cX5_pass 9 = .ok (.iadd, 1) := by decide +kernel
theorem dX5_pass_10 : decode cX5_pass 10 = .ok (.iastore, 1) := by decide +kernel
theorem dX5_pass_11 : decode cX5_pass 11 = .ok (.aload_n 0, 1) := by decide +kernel
theorem dX5_pass_12 : decode cX5_pass 12 = .ok (.getfield 57, 3) := by decide +kernel
theorem dX5_pass_15 : decode cX5_pass 15 = .ok (.ifCond .ne 5, 3) := by decide +kernel
theorem dX5_pass_18 : decode cX5_pass 18 = .ok (.iconst 0, 1) := by decide +kernel
theorem dX5_pass_19 : decode cX5_pass 19 = .ok (.ireturn, 1) := by decide +kernel
theorem dX5_pass_20 : decode cX5_pass 20 = .ok (.aload_n 0, 1) := by decide +kernel
theorem dX5_pass_21 : decode cX5_pass 21 = .ok (.dup, 1) := by decide +kernel
theorem dX5_pass_22 : decode cX5_pass 22 = .ok (.getfield 63, 3) := by decide +kernel
theorem dX5_pass_25 : decode cX5_pass 25 = .ok (.iconst 1, 1) := by decide +kernel
theorem dX5_pass_26 : decode cX5_pass 26 = .ok (.isub, 1) := by decide +kernel
theorem dX5_pass_27 : decode cX5_pass 27 = .ok (.putfield 63, 3) := by decide +kernel
theorem dX5_pass_30 : decode cX5_pass 30 = .ok (.aload_n 0, 1) := by decide +kernel
theorem dX5_pass_31 : decode cX5_pass 31 = .ok (.getfield 63, 3) := by decide +kernel
theorem dX5_pass_34 : decode cX5_pass 34 = .ok (.ifCond .ne 10, 3) := by decide +kernel
theorem dX5_pass_37 : decode cX5_pass 37 = .ok (.aload_n 0, 1) := by decide +kernel
theorem dX5_pass_38 : decode cX5_pass 38 = .ok (.invokevirtual 118, 3) := by decide +kernel
theorem dX5_pass_41 : decode cX5_pass 41 = .ok (.goto 4, 3) := by decide +kernel
theorem dX5_pass_44 : decode cX5_pass 44 = .ok (.iconst 0, 1) := by decide +kernel
theorem dX5_pass_45 : decode cX5_pass 45 = .ok (.ireturn, 1) := by decide +kernel
theorem dX5_finish_0 : decode cX5_finish 0 = .ok (.aload_n 0, 1) := by decide +kernel
theorem dX5_finish_1 : decode cX5_finish 1 = .ok (.getfield 38, 3) := by decide +kernel
theorem dX5_finish_4 : decode cX5_finish 4 = .ok (.iconst 0, 1) := by decide +kernel
theorem dX5_finish_5 : decode cX5_finish 5 = .ok (.iaload, 1) := by decide +kernel
theorem dX5_finish_6 : decode cX5_finish 6 = .ok (.bipush 100, 2) := by decide +kernel
theorem dX5_finish_8 : decode cX5_finish 8 = .ok (.irem, 1) := by decide +kernel
theorem dX5_finish_9 : decode cX5_finish 9 = .ok (.istore_n 1, 1) := by decide +kernel
theorem dX5_finish_10 : decode cX5_finish 10 = .ok (.iconst 0, 1) := by decide +kernel
theorem dX5_finish_11 : decode cX5_finish 11 = .ok (.istore_n 2, 1) := by decide +kernel
theorem dX5_finish_12 : decode cX5_finish 12 = .ok (.aload_n 0, 1) := by decide +kernel
theorem dX5_finish_13 : decode cX5_finish 13 = .ok (.getfield 38, 3) := by decide +kernel
theorem dX5_finish_16 : decode cX5_finish 16 = .ok (.iconst 0, 1) := by decide +kernel
theorem dX5_finish_17 : decode cX5_finish 17 = .ok (.iaload, 1) := by decide +kernel
theorem dX5_finish_18 : decode cX5_finish 18 = .ok (.bipush 99, 2) := by decide +kernel
theorem dX5_finish_20 : decode cX5_finish 20 = .ok (.if_icmp .le 35, 3) := by decide +kernel
theorem dX5_finish_23 : decode cX5_finish 23 = .ok (.iconst 0, 1) := by decide +kernel
theorem dX5_finish_24 : decode cX5_finish 24 = .ok (.istore_n 3, 1) := by decide +kernel
theorem dX5_finish_25 : decode cX5_finish 25 = .ok (.iload_n 3, 1) := by decide +kernel
theorem dX5_finish_26 : decode cX5_finish 26 = .ok (.iconst 4, 1) := by decide +kernel
theorem dX5_finish_27 : decode cX5_finish 27 = .ok (.if_icmp .ge 25, 3) := by decide +kernel
theorem dX5_finish_30 : decode cX5_finish 30 = .ok (.aload_n 0, 1) := by decide +kernel
theorem dX5_finish_31 : decode cX5_finish 31 = .ok (.getfield 7, 3) := by decide +kernel
theorem dX5_finish_34 : decode cX5_finish 34 = .ok (.iconst 4, 1) := by decide +kernel
theorem dX5_finish_35 : decode cX5_finish 35 = .ok (.iload_n 1, 1) := by decide +kernel
theorem dX5_finish_36 : decode cX5_finish 36 = .ok (.imul, 1) := by decide +kernel
theorem dX5_finish_37 : decode cX5_finish 37 = .ok (.iload_n 3, 1) := by decide +kernel
theorem dX5_finish_38 : decode cX5_finish 38 = .ok (.iadd, 1) := by decide +kernel
theorem dX5_finish_39 : decode cX5_finish 39 = .ok (.aload_n 0, 1) := by decide +kernel
theorem dX5_finish_40 : decode cX5_finish 40 = .ok (.getfield 41, 3) := by decide +kernel
theorem dX5_finish_43 : decode cX5_finish 43 = .ok (.iload_n 3, 1) := by decide +kernel
theorem dX5_finish_44 : decode cX5_finish 44 = .ok (.iaload, 1) := by decide +kernel
theorem dX5_finish_45 : decode cX5_finish 45 = .ok (.iastore, 1) := by decide +kernel
theorem dX5_finish_46 : decode cX5_finish 46 = .ok (.iinc 3 1, 3) := by decide +kernel
theorem dX5_finish_49 : decode cX5_finish 49 = .ok (.goto (-24), 3) := by decide +kernel
theorem dX5_finish_52 : decode cX5_finish 52 = .ok (.goto 104, 3) := by decide +kernel
theorem dX5_finish_55 : decode cX5_finish 55 = .ok (.aload_n 0, 1) := by decide +kernel
theorem dX5_finish_56 : decode cX5_finish 56 = .ok (.iload_n 1, 1) := by decide +kernel
theorem dX5_finish_57 : decode cX5_finish 57 = .ok (.invokevirtual 78, 3) := by decide +kernel
theorem dX5_finish_60 : decode cX5_finish 60 = .ok (.istore_n 3, 1) := by decide +kernel
theorem dX5_finish_61 : decode cX5_finish 61 = .ok (.iconst 0, 1) := by decide +kernel
theorem dX5_finish_62 : decode cX5_finish 62 = .ok (.istore 4, 2) := by decide +kernel
theorem dX5_finish_64 : decode cX5_finish 64 = .ok (.iload 4, 2) := by decide +kernel
theorem dX5_finish_66 : decode cX5_finish 66 = .ok (.iconst 4, 1) := by decide +kernel
theorem dX5_finish_67 : decode cX5_finish 67 = .ok (.if_icmp .ge 31, 3) := by decide +kernel
theorem dX5_finish_70 : decode cX5_finish 70 = .ok (.aload_n 0, 1) := by decide +kernel
theorem dX5_finish_71 : decode cX5_finish 71 = .ok (.getfield 22, 3) := by decide +kernel
theorem dX5_finish_74 : decode cX5_finish 74 = .ok (.iconst 4, 1) := by decide +kernel
theorem dX5_finish_75 : decode cX5_finish 75 = .ok (.iload_n 3, 1) := by decide +kernel
theorem dX5_finish_76 : decode cX5_finish 76 = .ok (.imul, 1) := by decide +kernel
theorem dX5_finish_77 : decode cX5_finish 77 = .ok (.iload 4, 2) := by decide +kernel
theorem dX5_finish_79 : decode cX5_finish 79 = .ok (.iadd, 1) := by decide +kernel
theorem dX5_finish_80 : decode cX5_finish 80 = .ok (.aload_n 0, 1) := by decide +kernel
theorem dX5_finish_81 : decode cX5_finish 81 = .ok (.getfield 7, 3) := by decide +kernel
theorem dX5_finish_84 : decode cX5_finish 84 = .ok (.iconst 4, 1) := by decide +kernel
theorem dX5_finish_85 : decode cX5_finish 85 = .ok (.iload_n 1, 1) := by decide +kernel
theorem dX5_finish_86 : decode cX5_finish 86 = .ok (.imul, 1) := by decide +kernel
theorem dX5_finish_87 : decode cX5_finish 87 = .ok (.iload 4, 2) := by decide +kernel
theorem dX5_finish_89 : decode cX5_finish 89 = .ok (.iadd, 1) := by decide +kernel
theorem dX5_finish_90 : decode cX5_finish 90 = .ok (.iaload, 1) := by decide +kernel
theorem dX5_finish_91 : decode cX5_finish 91 = .ok (.iastore, 1) := by decide +kernel
theorem dX5_finish_92 : decode cX5_finish 92 = .ok (.iinc 4 1, 3) := by decide +kernel
theorem dX5_finish_95 : decode cX5_finish 95 = .ok (.goto (-31), 3) := by decide +kernel
theorem dX5_finish_98 : decode cX5_finish 98 = .ok (.aload_n 0, 1) := by decide +kernel
theorem dX5_finish_99 : decode cX5_finish 99 = .ok (.getfield 13, 3) := by decide +kernel
theorem dX5_finish_102 : decode cX5_finish 102 = .ok (.iload_n 3, 1) := by decide +kernel
theorem dX5_finish_103 : decode cX5_finish 103 = .ok (.iconst 1, 1) := by decide +kernel
theorem dX5_finish_104 : decode cX5_finish 104 = .ok (.iastore, 1) := by decide +kernel
theorem dX5_finish_105 : decode cX5_finish 105 = .ok (.iconst 0, 1) := by decide +kernel
theorem dX5_finish_106 : decode cX5_finish 106 = .ok (.istore 4, 2) := by decide +kernel
theorem dX5_finish_108 : decode cX5_finish 108 = .ok (.iload 4, 2) := by decide +kernel
theorem dX5_finish_110 : decode cX5_finish 110 = .ok (.aload_n 0, 1) := by decide +kernel
theorem dX5_finish_111 : decode cX5_finish 111 = .ok (.getfield 54, 3) := by decide +kernel
theorem dX5_finish_114 : decode cX5_finish 114 = .ok (.if_icmp .ge 42, 3) := by decide +kernel
theorem dX5_finish_117 : decode cX5_finish 117 = .ok (.aload_n 0, 1) := by decide +kernel
theorem dX5_finish_118 : decode cX5_finish 118 = .ok (.getfield 35, 3) := by decide +kernel
theorem dX5_finish_121 : decode cX5_finish 121 = .ok (.iload 4, 2) := by decide +kernel
theorem dX5_finish_123 : decode cX5_finish 123 = .ok (.baload, 1) := by decide +kernel
theorem dX5_finish_124 : decode cX5_finish 124 = .ok (.ifCond .ne 26, 3) := by decide +kernel
theorem dX5_finish_127 : decode cX5_finish 127 = .ok (.aload_n 0, 1) := by decide +kernel
theorem dX5_finish_128 : decode cX5_finish 128 = .ok (.getfield 25, 3) := by decide +kernel
theorem dX5_finish_131 : decode cX5_finish 131 = .ok (.iload 4, 2) := by decide +kernel
theorem dX5_finish_133 : decode cX5_finish 133 = .ok (.iaload, 1) := by decide +kernel
theorem dX5_finish_134 : decode cX5_finish 134 = .ok (.iconst 4, 1) := by decide +kernel
theorem dX5_finish_135 : decode cX5_finish 135 = .ok (.idiv, 1) := by decide +kernel
theorem dX5_finish_136 : decode cX5_finish 136 = .ok (.iload_n 1, 1) := by decide +kernel
theorem dX5_finish_137 : decode cX5_finish 137 = .ok (.if_icmp .ne 13, 3) := by decide +kernel
theorem dX5_finish_140 : decode cX5_finish 140 = .ok (.aload_n 0, 1) := by decide +kernel
theorem dX5_finish_141 : decode cX5_finish 141 = .ok (.iload 4, 2) := by decide +kernel
theorem dX5_finish_143 : decode cX5_finish 143 = .ok (.iload_n 3, 1) := by decide +kernel
theorem dX5_finish_144 : decode cX5_finish 144 = .ok (.invokevirtual 96, 3) := by decide +kernel
theorem dX5_finish_147 : decode cX5_finish 147 = .ok (.iinc 2 1, 3) := by decide +kernel
theorem dX5_finish_150 : decode cX5_finish 150 = .ok (.iinc 4 1, 3) := by decide +kernel
theorem dX5_finish_153 : decode cX5_finish 153 = .ok (.goto (-45), 3) := by decide +kernel
theorem dX5_finish_156 : decode cX5_finish 156 = .ok (.aload_n 0, 1) := by decide +kernel
theorem dX5_finish_157 : decode cX5_finish 157 = .ok (.dup, 1) := by decide +kernel
theorem dX5_finish_158 : decode cX5_finish 158 = .ok (.getfield 57, 3) := by decide +kernel
theorem dX5_finish_161 : decode cX5_finish 161 = .ok (.iconst 1, 1) := by decide +kernel
theorem dX5_finish_162 : decode cX5_finish 162 = .ok (.isub, 1) := by decide +kernel
theorem dX5_finish_163 : decode cX5_finish 163 = .ok (.putfield 57, 3) := by decide +kernel
theorem dX5_finish_166 : decode cX5_finish 166 = .ok (.iconst 0, 1) := by decide +kernel
theorem dX5_finish_167 : decode cX5_finish 167 = .ok (.istore_n 3, 1) := by decide +kernel
theorem dX5_finish_168 : decode cX5_finish 168 = .ok (.iload_n 3, 1) := by decide +kernel
theorem dX5_finish_169 : decode cX5_finish 169 = .ok (.aload_n 0, 1) := by decide +kernel
theorem dX5_finish_170 : decode cX5_finish 170 = .ok (.getfield 57, 3) := by decide +kernel
theorem dX5_finish_173 : decode cX5_finish 173 = .ok (.if_icmp .ge 23, 3) := by decide +kernel
theorem dX5_finish_176 : decode cX5_finish 176 = .ok (.aload_n 0, 1) := by decide +kernel
theorem dX5_finish_177 : decode cX5_finish 177 = .ok (.getfield 38, 3) := by decide +kernel
theorem dX5_finish_180 : decode cX5_finish 180 = .ok (.iload_n 3, 1) := by decide +kernel
theorem dX5_finish_181 : decode cX5_finish 181 = .ok (.aload_n 0, 1) := by decide +kernel
theorem dX5_finish_182 : decode cX5_finish 182 = .ok (.getfield 38, 3) := by decide +kernel
theorem dX5_finish_185 : decode cX5_finish 185 = .ok (.iload_n 3, 1) := by decide +kernel
theorem dX5_finish_186 : decode cX5_finish 186 = .ok (.iconst 1, 1) := by decide +kernel
theorem dX5_finish_187 : decode cX5_finish 187 = .ok (.iadd, 1) := by decide +kernel
theorem dX5_finish_188 : decode cX5_finish 188 = .ok (.iaload, 1) := by decide +kernel
theorem dX5_finish_189 : decode cX5_finish 189 = .ok (.iastore, 1) := by decide +kernel
theorem dX5_finish_190 : decode cX5_finish 190 = .ok (.iinc 3 1, 3) := by decide +kernel
theorem dX5_finish_193 : decode cX5_finish 193 = .ok (.goto (-25), 3) := by decide +kernel
theorem dX5_finish_196 : decode cX5_finish 196 = .ok (.iconst 0, 1) := by decide +kernel
theorem dX5_finish_197 : decode cX5_finish 197 = .ok (.istore_n 3, 1) := by decide +kernel
theorem dX5_finish_198 : decode cX5_finish 198 = .ok (.iload_n 3, 1) := by decide +kernel
theorem dX5_finish_199 : decode cX5_finish 199 = .ok (.iconst 4, 1) := by decide +kernel
theorem dX5_finish_200 : decode cX5_finish 200 = .ok (.aload_n 0, 1) := by decide +kernel
theorem dX5_finish_201 : decode cX5_finish 201 = .ok (.getfield 57, 3) := by decide +kernel
theorem dX5_finish_204 : decode cX5_finish 204 = .ok (.imul, 1) := by decide +kernel
theorem dX5_finish_205 : decode cX5_finish 205 = .ok (.if_icmp .ge 23, 3) := by decide +kernel
theorem dX5_finish_208 : decode cX5_finish 208 = .ok (.aload_n 0, 1) := by decide +kernel
theorem dX5_finish_209 : decode cX5_finish 209 = .ok (.getfield 41, 3) := by decide +kernel
theorem dX5_finish_212 : decode cX5_finish 212 = .ok (.iload_n 3, 1) := by decide +kernel
theorem dX5_finish_213 : decode cX5_finish 213 = .ok (.aload_n 0, 1) := by decide +kernel
theorem dX5_finish_214 : decode cX5_finish 214 = .ok (.getfield 41, 3) := by decide +kernel
theorem dX5_finish_217 : decode cX5_finish 217 = .ok (.iload_n 3, 1) := by decide +kernel
theorem dX5_finish_218 : decode cX5_finish 218 = .ok (.iconst 4, 1) := by decide +kernel
theorem dX5_finish_219 : decode cX5_finish 219 = .ok (.iadd, 1) := by decide +kernel
theorem dX5_finish_220 : decode cX5_finish 220 = .ok (.iaload, 1) := by decide +kernel
theorem dX5_finish_221 : decode cX5_finish 221 = .ok (.iastore, 1) := by decide +kernel
theorem dX5_finish_222 : decode cX5_finish 222 = .ok (.iinc 3 1, 3) := by decide +kernel
theorem dX5_finish_225 : decode cX5_finish 225 = .ok (.goto (-27), 3) := by decide +kernel
theorem dX5_finish_228 : decode cX5_finish 228 = .ok (.aload_n 0, 1) := by decide +kernel
theorem dX5_finish_229 : decode cX5_finish 229 = .ok (.aload_n 0, 1) := by decide +kernel
theorem dX5_finish_230 : decode cX5_finish 230 = .ok (.getfield 57, 3) := by decide +kernel
theorem dX5_finish_233 : decode cX5_finish 233 = .ok (.ifCond .le 10, 3) := by decide +kernel
theorem dX5_finish_236 : decode cX5_finish 236 = .ok (.aload_n 0, 1) := by decide +kernel
theorem dX5_finish_237 : decode cX5_finish 237 = .ok (.getfield 44, 3) := by decide +kernel
theorem dX5_finish_240 : decode cX5_finish 240 = .ok (.goto 4, 3) := by decide +kernel
theorem dX5_finish_243 : decode cX5_finish 243 = .ok (.iconst 0, 1) := by decide +kernel
theorem dX5_finish_244 : decode cX5_finish 244 = .ok (.putfield 63, 3) := by decide +kernel
theorem dX5_finish_247 : decode cX5_finish 247 = .ok (.iload_n 2, 1) := by decide +kernel
theorem dX5_finish_248 : decode cX5_finish 248 = .ok (.ireturn, 1) := by decide +kernel
theorem dX5_await_0 : decode cX5_await 0 = .ok (.aload_n 0, 1) := by decide +kernel
theorem dX5_await_1 : decode cX5_await 1 = .ok (.aload_n 0, 1) := by decide +kernel
theorem dX5_await_2 : decode cX5_await 2 = .ok (.iload_n 1, 1) := by decide +kernel
theorem dX5_await_3 : decode cX5_await 3 = .ok (.invokevirtual 111, 3) := by decide +kernel
theorem dX5_await_6 : decode cX5_await 6 = .ok (.ifCond .eq 7, 3) := by decide +kernel
theorem dX5_await_9 : decode cX5_await 9 = .ok (.iconst 1, 1) := by decide +kernel
theorem dX5_await_10 : decode cX5_await 10 = .ok (.goto 4, 3) := by decide +kernel
theorem dX5_await_13 : decode cX5_await 13 = .ok (.iconst 0, 1) := by decide +kernel
theorem dX5_await_14 : decode cX5_await 14 = .ok (.putfield 51, 3) := by decide +kernel
theorem dX5_await_17 : decode cX5_await 17 = .ok (.aload_n 0, 1) := by decide +kernel
theorem dX5_await_18 : decode cX5_await 18 = .ok (.getfield 51, 3) := by decide +kernel
theorem dX5_await_21 : decode cX5_await 21 = .ok (.ifCond .eq 5, 3) := by decide +kernel
theorem dX5_await_24 : decode cX5_await 24 = .ok (.iconst 0, 1) := by decide +kernel
theorem dX5_await_25 : decode cX5_await 25 = .ok (.ireturn, 1) := by decide +kernel
theorem dX5_await_26 : decode cX5_await 26 = .ok (.aload_n 0, 1) := by decide +kernel
theorem dX5_await_27 : decode cX5_await 27 = .ok (.iload_n 1, 1) := by decide +kernel
theorem dX5_await_28 : decode cX5_await 28 = .ok (.iconst 0, 1) := by decide +kernel
theorem dX5_await_29 : decode cX5_await 29 = .ok (.iconst 0, 1) := by decide +kernel
theorem dX5_await_30 : decode cX5_await 30 = .ok (.invokevirtual 115, 3) := by decide +kernel
theorem dX5_await_33 : decode cX5_await 33 = .ok (.istore_n 2, 1) := by decide +kernel
theorem dX5_await_34 : decode cX5_await 34 = .ok (.iload_n 2, 1) := by decide +kernel
theorem dX5_await_35 : decode cX5_await 35 = .ok (.ifCond .ge 19, 3) := by decide +kernel
theorem dX5_await_38 : decode cX5_await 38 = .ok (.aload_n 0, 1) := by decide +kernel
theorem dX5_await_39 : decode cX5_await 39 = .ok (.invokevirtual 121, 3) := by decide +kernel
theorem dX5_await_42 : decode cX5_await 42 = .ok (.istore_n 3, 1) := by decide +kernel
theorem dX5_await_43 : decode cX5_await 43 = .ok (.aload_n 0, 1) := by decide +kernel
theorem dX5_await_44 : decode cX5_await 44 = .ok (.iload_n 1, 1) := by decide +kernel
theorem dX5_await_45 : decode cX5_await 45 = .ok (.iconst 0, 1) := by decide +kernel
theorem dX5_await_46 : decode cX5_await 46 = .ok (.iconst 0, 1) := by decide +kernel
theorem dX5_await_47 : decode cX5_await 47 = .ok (.invokevirtual 115, 3) := by decide +kernel
theorem dX5_await_50 : decode cX5_await 50 = .ok (.istore_n 2, 1) := by decide +kernel
theorem dX5_await_51 : decode cX5_await 51 = .ok (.goto (-17), 3) := by decide +kernel
theorem dX5_await_54 : decode cX5_await 54 = .ok (.aload_n 0, 1) := by decide +kernel
theorem dX5_await_55 : decode cX5_await 55 = .ok (.getfield 35, 3) := by decide +kernel
theorem dX5_await_58 : decode cX5_await 58 = .ok (.iload_n 2, 1) := by decide +kernel
theorem dX5_await_59 : decode cX5_await 59 = .ok (.baload, 1) := by decide +kernel
theorem dX5_await_60 : decode cX5_await 60 = .ok (.ifCond .ne 11, 3) := by decide +kernel
theorem dX5_await_63 : decode cX5_await 63 = .ok (.aload_n 0, 1) := by decide +kernel
theorem dX5_await_64 : decode cX5_await 64 = .ok (.invokevirtual 121, 3) := by decide +kernel
theorem dX5_await_67 : decode cX5_await 67 = .ok (.istore_n 3, 1) := by decide +kernel
theorem dX5_await_68 : decode cX5_await 68 = .ok (.goto (-14), 3) := by decide +kernel
theorem dX5_await_71 : decode cX5_await 71 = .ok (.aload_n 0, 1) := by decide +kernel
theorem dX5_await_72 : decode cX5_await 72 = .ok (.getfield 32, 3) := by decide +kernel
theorem dX5_await_75 : decode cX5_await 75 = .ok (.iload_n 2, 1) := by decide +kernel
theorem dX5_await_76 : decode cX5_await 76 = .ok (.iaload, 1) := by decide +kernel
theorem dX5_await_77 : decode cX5_await 77 = .ok (.ireturn, 1) := by decide +kernel
theorem dX5_done_0 : decode cX5_done 0 = .ok (.aload_n 0, 1) := by decide +kernel
theorem dX5_done_1 : decode cX5_done 1 = .ok (.aload_n 0, 1) := by decide +kernel
theorem dX5_done_2 : decode cX5_done 2 = .ok (.iload_n 1, 1) := by decide +kernel
theorem dX5_done_3 : decode cX5_done 3 = .ok (.invokevirtual 124, 3) := by decide +kernel
theorem dX5_done_6 : decode cX5_done 6 = .ok (.ifCond .eq 7, 3) := by decide +kernel
theorem dX5_done_9 : decode cX5_done 9 = .ok (.iconst 1, 1) := by decide +kernel
theorem dX5_done_10 : decode cX5_done 10 = .ok (.goto 4, 3) := by decide +kernel
theorem dX5_done_13 : decode cX5_done 13 = .ok (.iconst 0, 1) := by decide +kernel
theorem dX5_done_14 : decode cX5_done 14 = .ok (.putfield 51, 3) := by decide +kernel
theorem dX5_done_17 : decode cX5_done 17 = .ok (.aload_n 0, 1) := by decide +kernel
theorem dX5_done_18 : decode cX5_done 18 = .ok (.getfield 51, 3) := by decide +kernel
theorem dX5_done_21 : decode cX5_done 21 = .ok (.ifCond .ne 16, 3) := by decide +kernel
theorem dX5_done_24 : decode cX5_done 24 = .ok (.aload_n 0, 1) := by decide +kernel
theorem dX5_done_25 : decode cX5_done 25 = .ok (.getfield 35, 3) := by decide +kernel
theorem dX5_done_28 : decode cX5_done 28 = .ok (.iload_n 1, 1) := by decide +kernel
theorem dX5_done_29 : decode cX5_done 29 = .ok (.baload, 1) := by decide +kernel
theorem dX5_done_30 : decode cX5_done 30 = .ok (.ifCond .eq 7, 3) := by decide +kernel
theorem dX5_done_33 : decode cX5_done 33 = .ok (.iconst 1, 1) := by decide +kernel
theorem dX5_done_34 : decode cX5_done 34 = .ok (.goto 4, 3) := by decide +kernel
theorem dX5_done_37 : decode cX5_done 37 = .ok (.iconst 0, 1) := by decide +kernel
theorem dX5_done_38 : decode cX5_done 38 = .ok (.ireturn, 1) := by decide +kernel
theorem dX5_noTicket_0 : decode cX5_noTicket 0 = .ok (.iload_n 1, 1) := by decide +kernel
theorem dX5_noTicket_1 : decode cX5_noTicket 1 = .ok (.ifCond .lt 11, 3) := by decide +kernel
theorem dX5_noTicket_4 : decode cX5_noTicket 4 = .ok (.iload_n 1, 1) := by decide +kernel
theorem dX5_noTicket_5 : decode cX5_noTicket 5 = .ok (.aload_n 0, 1) := by decide +kernel
theorem dX5_noTicket_6 : decode cX5_noTicket 6 = .ok (.getfield 54, 3) := by decide +kernel
theorem dX5_noTicket_9 : decode cX5_noTicket 9 = .ok (.if_icmp .lt 7, 3) := by decide +kernel
theorem dX5_noTicket_12 : decode cX5_noTicket 12 = .ok (.iconst 1, 1) := by decide +kernel
theorem dX5_noTicket_13 : decode cX5_noTicket 13 = .ok (.goto 4, 3) := by decide +kernel
theorem dX5_noTicket_16 : decode cX5_noTicket 16 = .ok (.iconst 0, 1) := by decide +kernel
theorem dX5_noTicket_17 : decode cX5_noTicket 17 = .ok (.ireturn, 1) := by decide +kernel
theorem dX5_value_0 : decode cX5_value 0 = .ok (.aload_n 0, 1) := by decide +kernel
theorem dX5_value_1 : decode cX5_value 1 = .ok (.aload_n 0, 1) := by decide +kernel
theorem dX5_value_2 : decode cX5_value 2 = .ok (.iload_n 1, 1) := by decide +kernel
theorem dX5_value_3 : decode cX5_value 3 = .ok (.invokevirtual 124, 3) := by decide +kernel
theorem dX5_value_6 : decode cX5_value 6 = .ok (.ifCond .eq 7, 3) := by decide +kernel
theorem dX5_value_9 : decode cX5_value 9 = .ok (.iconst 1, 1) := by decide +kernel
theorem dX5_value_10 : decode cX5_value 10 = .ok (.goto 17, 3) := by decide +kernel
theorem dX5_value_13 : decode cX5_value 13 = .ok (.aload_n 0, 1) := by decide +kernel
theorem dX5_value_14 : decode cX5_value 14 = .ok (.getfield 35, 3) := by decide +kernel
theorem dX5_value_17 : decode cX5_value 17 = .ok (.iload_n 1, 1) := by decide +kernel
theorem dX5_value_18 : decode cX5_value 18 = .ok (.baload, 1) := by decide +kernel
theorem dX5_value_19 : decode cX5_value 19 = .ok (.ifCond .ne 7, 3) := by decide +kernel
theorem dX5_value_22 : decode cX5_value 22 = .ok (.iconst 2, 1) := by decide +kernel
theorem dX5_value_23 : decode cX5_value 23 = .ok (.goto 4, 3) := by decide +kernel
theorem dX5_value_26 : decode cX5_value 26 = .ok (.iconst 0, 1) := by decide +kernel
theorem dX5_value_27 : decode cX5_value 27 = .ok (.putfield 51, 3) := by decide +kernel
theorem dX5_value_30 : decode cX5_value 30 = .ok (.aload_n 0, 1) := by decide +kernel
theorem dX5_value_31 : decode cX5_value 31 = .ok (.getfield 51, 3) := by decide +kernel
theorem dX5_value_34 : decode cX5_value 34 = .ok (.ifCond .ne 12, 3) := by decide +kernel
theorem dX5_value_37 : decode cX5_value 37 = .ok (.aload_n 0, 1) := by decide +kernel
theorem dX5_value_38 : decode cX5_value 38 = .ok (.getfield 32, 3) := by decide +kernel
theorem dX5_value_41 : decode cX5_value 41 = .ok (.iload_n 1, 1) := by decide +kernel
theorem dX5_value_42 : decode cX5_value 42 = .ok (.iaload, 1) := by decide +kernel
theorem dX5_value_43 : decode cX5_value 43 = .ok (.goto 4, 3) := by decide +kernel
theorem dX5_value_46 : decode cX5_value 46 = .ok (.iconst 0, 1) := by decide +kernel
theorem dX5_value_47 : decode cX5_value 47 = .ok (.ireturn, 1) := by decide +kernel
theorem dX5_delay_0 : decode cX5_delay 0 = .ok (.aload_n 0, 1) := by decide +kernel
theorem dX5_delay_1 : decode cX5_delay 1 = .ok (.iload_n 1, 1) := by decide +kernel
theorem dX5_delay_2 : decode cX5_delay 2 = .ok (.iconst 1, 1) := by decide +kernel
theorem dX5_delay_3 : decode cX5_delay 3 = .ok (.if_icmp .lt 9, 3) := by decide +kernel
theorem dX5_delay_6 : decode cX5_delay 6 = .ok (.iload_n 1, 1) := by decide +kernel
theorem dX5_delay_7 : decode cX5_delay 7 = .ok (.bipush 9, 2) := by decide +kernel
theorem dX5_delay_9 : decode cX5_delay 9 = .ok (.if_icmp .le 7, 3) := by decide +kernel
theorem dX5_delay_12 : decode cX5_delay 12 = .ok (.iconst 1, 1) := by decide +kernel
theorem dX5_delay_13 : decode cX5_delay 13 = .ok (.goto 4, 3) := by decide +kernel
theorem dX5_delay_16 : decode cX5_delay 16 = .ok (.iconst 0, 1) := by decide +kernel
theorem dX5_delay_17 : decode cX5_delay 17 = .ok (.putfield 51, 3) := by decide +kernel
theorem dX5_delay_20 : decode cX5_delay 20 = .ok (.aload_n 0, 1) := by decide +kernel
theorem dX5_delay_21 : decode cX5_delay 21 = .ok (.aload_n 0, 1) := by decide +kernel
theorem dX5_delay_22 : decode cX5_delay 22 = .ok (.getfield 51, 3) := by decide +kernel
theorem dX5_delay_25 : decode cX5_delay 25 = .ok (.ifCond .ne 7, 3) := by decide +kernel
theorem dX5_delay_28 : decode cX5_delay 28 = .ok (.iload_n 1, 1) := by decide +kernel
theorem dX5_delay_29 : decode cX5_delay 29 = .ok (.goto 7, 3) := by decide +kernel
theorem dX5_delay_32 : decode cX5_delay 32 = .ok (.aload_n 0, 1) := by decide +kernel
theorem dX5_delay_33 : decode cX5_delay 33 = .ok (.getfield 44, 3) := by decide +kernel
theorem dX5_delay_36 : decode cX5_delay 36 = .ok (.putfield 44, 3) := by decide +kernel
theorem dX5_delay_39 : decode cX5_delay 39 = .ok (.return_, 1) := by decide +kernel
theorem dX5_ahead_0 : decode cX5_ahead 0 = .ok (.aload_n 0, 1) := by decide +kernel
theorem dX5_ahead_1 : decode cX5_ahead 1 = .ok (.iconst 0, 1) := by decide +kernel
theorem dX5_ahead_2 : decode cX5_ahead 2 = .ok (.putfield 51, 3) := by decide +kernel
theorem dX5_ahead_5 : decode cX5_ahead 5 = .ok (.aload_n 0, 1) := by decide +kernel
theorem dX5_ahead_6 : decode cX5_ahead 6 = .ok (.iload_n 1, 1) := by decide +kernel
theorem dX5_ahead_7 : decode cX5_ahead 7 = .ok (.putfield 74, 3) := by decide +kernel
theorem dX5_ahead_10 : decode cX5_ahead 10 = .ok (.return_, 1) := by decide +kernel
theorem dX5_flush_0 : decode cX5_flush 0 = .ok (.aload_n 0, 1) := by decide +kernel
theorem dX5_flush_1 : decode cX5_flush 1 = .ok (.aload_n 0, 1) := by decide +kernel
theorem dX5_flush_2 : decode cX5_flush 2 = .ok (.getfield 57, 3) := by decide +kernel
theorem dX5_flush_5 : decode cX5_flush 5 = .ok (.ifCond .le 7, 3) := by decide +kernel
theorem dX5_flush_8 : decode cX5_flush 8 = .ok (.iconst 1, 1) := by decide +kernel
theorem dX5_flush_9 : decode cX5_flush 9 = .ok (.goto 4, 3) := by decide +kernel
theorem dX5_flush_12 : decode cX5_flush 12 = .ok (.iconst 0, 1) := by decide +kernel
theorem dX5_flush_13 : decode cX5_flush 13 = .ok (.putfield 51, 3) := by decide +kernel
theorem dX5_flush_16 : decode cX5_flush 16 = .ok (.iconst 0, 1) := by decide +kernel
theorem dX5_flush_17 : decode cX5_flush 17 = .ok (.istore_n 1, 1) := by decide +kernel
theorem dX5_flush_18 : decode cX5_flush 18 = .ok (.iconst 0, 1) := by decide +kernel
theorem dX5_flush_19 : decode cX5_flush 19 = .ok (.istore_n 2, 1) := by decide +kernel
theorem dX5_flush_20 : decode cX5_flush 20 = .ok (.iload_n 2, 1) := by decide +kernel
theorem dX5_flush_21 : decode cX5_flush 21 = .ok (.bipush 8, 2) := by decide +kernel
theorem dX5_flush_23 : decode cX5_flush 23 = .ok (.if_icmp .ge 74, 3) := by decide +kernel
theorem dX5_flush_26 : decode cX5_flush 26 = .ok (.aload_n 0, 1) := by decide +kernel
theorem dX5_flush_27 : decode cX5_flush 27 = .ok (.getfield 51, 3) := by decide +kernel
theorem dX5_flush_30 : decode cX5_flush 30 = .ok (.ifCond .ne 67, 3) := by decide +kernel
theorem dX5_flush_33 : decode cX5_flush 33 = .ok (.aload_n 0, 1) := by decide +kernel
theorem dX5_flush_34 : decode cX5_flush 34 = .ok (.getfield 13, 3) := by decide +kernel
theorem dX5_flush_37 : decode cX5_flush 37 = .ok (.iload_n 2, 1) := by decide +kernel
theorem dX5_flush_38 : decode cX5_flush 38 = .ok (.iaload, 1) := by decide +kernel
theorem dX5_flush_39 : decode cX5_flush 39 = .ok (.iconst 2, 1) := by decide +kernel
theorem dX5_flush_40 : decode cX5_flush 40 = .ok (.if_icmp .ne 51, 3) := by decide +kernel
theorem dX5_flush_43 : decode cX5_flush 43 = .ok (.iconst 0, 1) := by decide +kernel
theorem dX5_flush_44 : decode cX5_flush 44 = .ok (.istore_n 3, 1) := by decide +kernel
theorem dX5_flush_45 : decode cX5_flush 45 = .ok (.iload_n 3, 1) := by decide +kernel
theorem dX5_flush_46 : decode cX5_flush 46 = .ok (.iconst 4, 1) := by decide +kernel
theorem dX5_flush_47 : decode cX5_flush 47 = .ok (.if_icmp .ge 34, 3) := by decide +kernel
theorem dX5_flush_50 : decode cX5_flush 50 = .ok (.aload_n 0, 1) := by decide +kernel
theorem dX5_flush_51 : decode cX5_flush 51 = .ok (.getfield 7, 3) := by decide +kernel
theorem dX5_flush_54 : decode cX5_flush 54 = .ok (.iconst 4, 1) := by decide +kernel
theorem dX5_flush_55 : decode cX5_flush 55 = .ok (.aload_n 0, 1) := by decide +kernel
theorem dX5_flush_56 : decode cX5_flush 56 = .ok (.getfield 16, 3) := by decide +kernel
theorem dX5_flush_59 : decode cX5_flush 59 = .ok (.iload_n 2, 1) := by decide +kernel
theorem dX5_flush_60 : decode cX5_flush 60 = .ok (.iaload, 1) := by decide +kernel
theorem dX5_flush_61 : decode cX5_flush 61 = .ok (.imul, 1) := by decide +kernel
theorem dX5_flush_62 : decode cX5_flush 62 = .ok (.iload_n 3, 1) := by decide +kernel
theorem dX5_flush_63 : decode cX5_flush 63 = .ok (.iadd, 1) := by decide +kernel
theorem dX5_flush_64 : decode cX5_flush 64 = .ok (.aload_n 0, 1) := by decide +kernel
theorem dX5_flush_65 : decode cX5_flush 65 = .ok (.getfield 22, 3) := by decide +kernel
theorem dX5_flush_68 : decode cX5_flush 68 = .ok (.iconst 4, 1) := by decide +kernel
theorem dX5_flush_69 : decode cX5_flush 69 = .ok (.iload_n 2, 1) := by decide +kernel
theorem dX5_flush_70 : decode cX5_flush 70 = .ok (.imul, 1) := by decide +kernel
theorem dX5_flush_71 : decode cX5_flush 71 = .ok (.iload_n 3, 1) := by decide +kernel
theorem dX5_flush_72 : decode cX5_flush 72 = .ok (.iadd, 1) := by decide +kernel
theorem dX5_flush_73 : decode cX5_flush 73 = .ok (.iaload, 1) := by decide +kernel
theorem dX5_flush_74 : decode cX5_flush 74 = .ok (.iastore, 1) := by decide +kernel
theorem dX5_flush_75 : decode cX5_flush 75 = .ok (.iinc 3 1, 3) := by decide +kernel
theorem dX5_flush_78 : decode cX5_flush 78 = .ok (.goto (-33), 3) := by decide +kernel
theorem dX5_flush_81 : decode cX5_flush 81 = .ok (.aload_n 0, 1) := by decide +kernel
theorem dX5_flush_82 : decode cX5_flush 82 = .ok (.getfield 13, 3) := by decide +kernel
theorem dX5_flush_85 : decode cX5_flush 85 = .ok (.iload_n 2, 1) := by decide +kernel
theorem dX5_flush_86 : decode cX5_flush 86 = .ok (.iconst 1, 1) := by decide +kernel
theorem dX5_flush_87 : decode cX5_flush 87 = .ok (.iastore, 1) := by decide +kernel
theorem dX5_flush_88 : decode cX5_flush 88 = .ok (.iinc 1 1, 3) := by decide +kernel
theorem dX5_flush_91 : decode cX5_flush 91 = .ok (.iinc 2 1, 3) := by decide +kernel
theorem dX5_flush_94 : decode cX5_flush 94 = .ok (.goto (-74), 3) := by decide +kernel
theorem dX5_flush_97 : decode cX5_flush 97 = .ok (.iload_n 1, 1) := by decide +kernel
theorem dX5_flush_98 : decode cX5_flush 98 = .ok (.ireturn, 1) := by decide +kernel
theorem dX5_memory_0 : decode cX5_memory 0 = .ok (.aload_n 0, 1) := by decide +kernel
theorem dX5_memory_1 : decode cX5_memory 1 = .ok (.aload_n 0, 1) := by decide +kernel
theorem dX5_memory_2 : decode cX5_memory 2 = .ok (.iload_n 1, 1) := by decide +kernel
theorem dX5_memory_3 : decode cX5_memory 3 = .ok (.invokevirtual 111, 3) := by decide +kernel
theorem dX5_memory_6 : decode cX5_memory 6 = .ok (.ifCond .eq 7, 3) := by decide +kernel
theorem dX5_memory_9 : decode cX5_memory 9 = .ok (.iconst 1, 1) := by decide +kernel
theorem dX5_memory_10 : decode cX5_memory 10 = .ok (.goto 4, 3) := by decide +kernel
theorem dX5_memory_13 : decode cX5_memory 13 = .ok (.iconst 0, 1) := by decide +kernel
theorem dX5_memory_14 : decode cX5_memory 14 = .ok (.putfield 51, 3) := by decide +kernel
theorem dX5_memory_17 : decode cX5_memory 17 = .ok (.aload_n 0, 1) := by decide +kernel
theorem dX5_memory_18 : decode cX5_memory 18 = .ok (.getfield 51, 3) := by decide +kernel
theorem dX5_memory_21 : decode cX5_memory 21 = .ok (.ifCond .ne 12, 3) := by decide +kernel
theorem dX5_memory_24 : decode cX5_memory 24 = .ok (.aload_n 0, 1) := by decide +kernel
theorem dX5_memory_25 : decode cX5_memory 25 = .ok (.getfield 7, 3) := by decide +kernel
theorem dX5_memory_28 : decode cX5_memory 28 = .ok (.iload_n 1, 1) := by decide +kernel
theorem dX5_memory_29 : decode cX5_memory 29 = .ok (.iaload, 1) := by decide +kernel
theorem dX5_memory_30 : decode cX5_memory 30 = .ok (.goto 4, 3) := by decide +kernel
theorem dX5_memory_33 : decode cX5_memory 33 = .ok (.iconst 0, 1) := by decide +kernel
theorem dX5_memory_34 : decode cX5_memory 34 = .ok (.ireturn, 1) := by decide +kernel
theorem dX5_way_0 : decode cX5_way 0 = .ok (.aload_n 0, 1) := by decide +kernel
theorem dX5_way_1 : decode cX5_way 1 = .ok (.iload_n 1, 1) := by decide +kernel
theorem dX5_way_2 : decode cX5_way 2 = .ok (.ifCond .lt 17, 3) := by decide +kernel
theorem dX5_way_5 : decode cX5_way 5 = .ok (.iload_n 1, 1) := by decide +kernel
theorem dX5_way_6 : decode cX5_way 6 = .ok (.iconst 3, 1) := by decide +kernel
theorem dX5_way_7 : decode cX5_way 7 = .ok (.if_icmp .gt 12, 3) := by decide +kernel
theorem dX5_way_10 : decode cX5_way 10 = .ok (.iload_n 2, 1) := by decide +kernel
theorem dX5_way_11 : decode cX5_way 11 = .ok (.ifCond .lt 8, 3) := by decide +kernel
theorem dX5_way_14 : decode cX5_way 14 = .ok (.iload_n 2, 1) := by decide +kernel
theorem dX5_way_15 : decode cX5_way 15 = .ok (.iconst 1, 1) := by decide +kernel
theorem dX5_way_16 : decode cX5_way 16 = .ok (.if_icmp .le 7, 3) := by decide +kernel
theorem dX5_way_19 : decode cX5_way 19 = .ok (.iconst 1, 1) := by decide +kernel
theorem dX5_way_20 : decode cX5_way 20 = .ok (.goto 4, 3) := by decide +kernel
theorem dX5_way_23 : decode cX5_way 23 = .ok (.iconst 0, 1) := by decide +kernel
theorem dX5_way_24 : decode cX5_way 24 = .ok (.putfield 51, 3) := by decide +kernel
theorem dX5_way_27 : decode cX5_way 27 = .ok (.aload_n 0, 1) := by decide +kernel
theorem dX5_way_28 : decode cX5_way 28 = .ok (.getfield 51, 3) := by decide +kernel
theorem dX5_way_31 : decode cX5_way 31 = .ok (.ifCond .eq 5, 3) := by decide +kernel
theorem dX5_way_34 : decode cX5_way 34 = .ok (.iconst 0, 1) := by decide +kernel
theorem dX5_way_35 : decode cX5_way 35 = .ok (.ireturn, 1) := by decide +kernel
theorem dX5_way_36 : decode cX5_way 36 = .ok (.iconst 2, 1) := by decide +kernel
theorem dX5_way_37 : decode cX5_way 37 = .ok (.iload_n 1, 1) := by decide +kernel
theorem dX5_way_38 : decode cX5_way 38 = .ok (.imul, 1) := by decide +kernel
theorem dX5_way_39 : decode cX5_way 39 = .ok (.iload_n 2, 1) := by decide +kernel
theorem dX5_way_40 : decode cX5_way 40 = .ok (.iadd, 1) := by decide +kernel
theorem dX5_way_41 : decode cX5_way 41 = .ok (.istore_n 3, 1) := by decide +kernel
theorem dX5_way_42 : decode cX5_way 42 = .ok (.aload_n 0, 1) := by decide +kernel
theorem dX5_way_43 : decode cX5_way 43 = .ok (.getfield 13, 3) := by decide +kernel
theorem dX5_way_46 : decode cX5_way 46 = .ok (.iload_n 3, 1) := by decide +kernel
theorem dX5_way_47 : decode cX5_way 47 = .ok (.iaload, 1) := by decide +kernel
theorem dX5_way_48 : decode cX5_way 48 = .ok (.ifCond .ne 7, 3) := by decide +kernel
theorem dX5_way_51 : decode cX5_way 51 = .ok (.iconst (-1), 1) := by decide +kernel
theorem dX5_way_52 : decode cX5_way 52 = .ok (.goto 42, 3) := by decide +kernel
theorem dX5_way_55 : decode cX5_way 55 = .ok (.aload_n 0, 1) := by decide +kernel
theorem dX5_way_56 : decode cX5_way 56 = .ok (.getfield 16, 3) := by decide +kernel
theorem dX5_way_59 : decode cX5_way 59 = .ok (.iload_n 3, 1) := by decide +kernel
theorem dX5_way_60 : decode cX5_way 60 = .ok (.iaload, 1) := by decide +kernel
theorem dX5_way_61 : decode cX5_way 61 = .ok (.aload_n 0, 1) := by decide +kernel
theorem dX5_way_62 : decode cX5_way 62 = .ok (.getfield 13, 3) := by decide +kernel
theorem dX5_way_65 : decode cX5_way 65 = .ok (.iload_n 3, 1) := by decide +kernel
theorem dX5_way_66 : decode cX5_way 66 = .ok (.iaload, 1) := by decide +kernel
theorem dX5_way_67 : decode cX5_way 67 = .ok (.iconst 2, 1) := by decide +kernel
theorem dX5_way_68 : decode cX5_way 68 = .ok (.if_icmp .ne 8, 3) := by decide +kernel
theorem dX5_way_71 : decode cX5_way 71 = .ok (.bipush 100, 2) := by decide +kernel
theorem dX5_way_73 : decode cX5_way 73 = .ok (.goto 20, 3) := by decide +kernel
theorem dX5_way_76 : decode cX5_way 76 = .ok (.aload_n 0, 1) := by decide +kernel
theorem dX5_way_77 : decode cX5_way 77 = .ok (.getfield 13, 3) := by decide +kernel
theorem dX5_way_80 : decode cX5_way 80 = .ok (.iload_n 3, 1) := by decide +kernel
theorem dX5_way_81 : decode cX5_way 81 = .ok (.iaload, 1) := by decide +kernel
theorem dX5_way_82 : decode cX5_way 82 = .ok (.iconst 3, 1) := by decide +kernel
theorem dX5_way_83 : decode cX5_way 83 = .ok (.if_icmp .ne 9, 3) := by decide +kernel
theorem dX5_way_86 : decode cX5_way 86 = .ok (.sipush 200, 3) := by decide +kernel
theorem dX5_way_89 : decode cX5_way 89 = .ok (.goto 4, 3) := by decide +kernel
theorem dX5_way_92 : decode cX5_way 92 = .ok (.iconst 0, 1) := by decide +kernel
theorem dX5_way_93 : decode cX5_way 93 = .ok (.iadd, 1) := by decide +kernel
theorem dX5_way_94 : decode cX5_way 94 = .ok (.ireturn, 1) := by decide +kernel
theorem dX5_targets_0 : decode cX5_targets 0 = .ok (.aload_n 0, 1) := by decide +kernel
theorem dX5_targets_1 : decode cX5_targets 1 = .ok (.iload_n 1, 1) := by decide +kernel
theorem dX5_targets_2 : decode cX5_targets 2 = .ok (.ifCond .lt 9, 3) := by decide +kernel
theorem dX5_targets_5 : decode cX5_targets 5 = .ok (.iload_n 1, 1) := by decide +kernel
theorem dX5_targets_6 : decode cX5_targets 6 = .ok (.bipush 63, 2) := by decide +kernel
theorem dX5_targets_8 : decode cX5_targets 8 = .ok (.if_icmp .le 7, 3) := by decide +kernel
theorem dX5_targets_11 : decode cX5_targets 11 = .ok (.iconst 1, 1) := by decide +kernel
theorem dX5_targets_12 : decode cX5_targets 12 = .ok (.goto 4, 3) := by decide +kernel
theorem dX5_targets_15 : decode cX5_targets 15 = .ok (.iconst 0, 1) := by decide +kernel
theorem dX5_targets_16 : decode cX5_targets 16 = .ok (.putfield 51, 3) := by decide +kernel
theorem dX5_targets_19 : decode cX5_targets 19 = .ok (.aload_n 0, 1) := by decide +kernel
theorem dX5_targets_20 : decode cX5_targets 20 = .ok (.getfield 51, 3) := by decide +kernel
theorem dX5_targets_23 : decode cX5_targets 23 = .ok (.ifCond .eq 5, 3) := by decide +kernel
theorem dX5_targets_26 : decode cX5_targets 26 = .ok (.iconst 0, 1) := by decide +kernel
theorem dX5_targets_27 : decode cX5_targets 27 = .ok (.ireturn, 1) := by decide +kernel
theorem dX5_targets_28 : decode cX5_targets 28 = .ok (.aload_n 0, 1) := by decide +kernel
theorem dX5_targets_29 : decode cX5_targets 29 = .ok (.iload_n 1, 1) := by decide +kernel
theorem dX5_targets_30 : decode cX5_targets 30 = .ok (.invokevirtual 78, 3) := by decide +kernel
theorem dX5_targets_33 : decode cX5_targets 33 = .ok (.istore_n 2, 1) := by decide +kernel
theorem dX5_targets_34 : decode cX5_targets 34 = .ok (.iload_n 2, 1) := by decide +kernel
theorem dX5_targets_35 : decode cX5_targets 35 = .ok (.ifCond .lt 21, 3) := by decide +kernel
theorem dX5_targets_38 : decode cX5_targets 38 = .ok (.aload_n 0, 1) := by decide +kernel
theorem dX5_targets_39 : decode cX5_targets 39 = .ok (.getfield 13, 3) := by decide +kernel
theorem dX5_targets_42 : decode cX5_targets 42 = .ok (.iload_n 2, 1) := by decide +kernel
theorem dX5_targets_43 : decode cX5_targets 43 = .ok (.iaload, 1) := by decide +kernel
theorem dX5_targets_44 : decode cX5_targets 44 = .ok (.iconst 3, 1) := by decide +kernel
theorem dX5_targets_45 : decode cX5_targets 45 = .ok (.if_icmp .ne 11, 3) := by decide +kernel
theorem dX5_targets_48 : decode cX5_targets 48 = .ok (.aload_n 0, 1) := by decide +kernel
theorem dX5_targets_49 : decode cX5_targets 49 = .ok (.iload_n 1, 1) := by decide +kernel
theorem dX5_targets_50 : decode cX5_targets 50 = .ok (.invokevirtual 99, 3) := by decide +kernel
theorem dX5_targets_53 : decode cX5_targets 53 = .ok (.goto 4, 3) := by decide +kernel
theorem dX5_targets_56 : decode cX5_targets 56 = .ok (.iconst (-1), 1) := by decide +kernel
theorem dX5_targets_57 : decode cX5_targets 57 = .ok (.ireturn, 1) := by decide +kernel
theorem dX5_request_0 : decode cX5_request 0 = .ok (.aload_n 0, 1) := by decide +kernel
theorem dX5_request_1 : decode cX5_request 1 = .ok (.iconst 0, 1) := by decide +kernel
theorem dX5_request_2 : decode cX5_request 2 = .ok (.putfield 51, 3) := by decide +kernel
theorem dX5_request_5 : decode cX5_request 5 = .ok (.iload_n 1, 1) := by decide +kernel
theorem dX5_request_6 : decode cX5_request 6 = .ok (.ifCond .lt 11, 3) := by decide +kernel
theorem dX5_request_9 : decode cX5_request 9 = .ok (.iload_n 1, 1) := by decide +kernel
theorem dX5_request_10 : decode cX5_request 10 = .ok (.aload_n 0, 1) := by decide +kernel
theorem dX5_request_11 : decode cX5_request 11 = .ok (.getfield 57, 3) := by decide +kernel
theorem dX5_request_14 : decode cX5_request 14 = .ok (.if_icmp .lt 7, 3) := by decide +kernel
theorem dX5_request_17 : decode cX5_request 17 = .ok (.iconst (-1), 1) := by decide +kernel
theorem dX5_request_18 : decode cX5_request 18 = .ok (.goto 9, 3) := by decide +kernel
theorem dX5_request_21 : decode cX5_request 21 = .ok (.aload_n 0, 1) := by decide +kernel
theorem dX5_request_22 : decode cX5_request 22 = .ok (.getfield 38, 3) := by decide +kernel
theorem dX5_request_25 : decode cX5_request 25 = .ok (.iload_n 1, 1) := by decide +kernel
theorem dX5_request_26 : decode cX5_request 26 = .ok (.iaload, 1) := by decide +kernel
theorem dX5_request_27 : decode cX5_request 27 = .ok (.ireturn, 1) := by decide +kernel
theorem dX5_left_0 : decode cX5_left 0 = .ok (.aload_n 0, 1) := by decide +kernel
theorem dX5_left_1 : decode cX5_left 1 = .ok (.iconst 0, 1) := by decide +kernel
theorem dX5_left_2 : decode cX5_left 2 = .ok (.putfield 51, 3) := by decide +kernel
theorem dX5_left_5 : decode cX5_left 5 = .ok (.aload_n 0, 1) := by decide +kernel
theorem dX5_left_6 : decode cX5_left 6 = .ok (.getfield 63, 3) := by decide +kernel
theorem dX5_left_9 : decode cX5_left 9 = .ok (.ireturn, 1) := by decide +kernel
theorem dX5_count_0 : decode cX5_count 0 = .ok (.aload_n 0, 1) := by decide +kernel
theorem dX5_count_1 : decode cX5_count 1 = .ok (.iload_n 1, 1) := by decide +kernel
theorem dX5_count_2 : decode cX5_count 2 = .ok (.ifCond .lt 9, 3) := by decide +kernel
theorem dX5_count_5 : decode cX5_count 5 = .ok (.iload_n 1, 1) := by decide +kernel
theorem dX5_count_6 : decode cX5_count 6 = .ok (.bipush 7, 2) := by decide +kernel
theorem dX5_count_8 : decode cX5_count 8 = .ok (.if_icmp .le 7, 3) := by decide +kernel
theorem dX5_count_11 : decode cX5_count 11 = .ok (.iconst 1, 1) := by decide +kernel
theorem dX5_count_12 : decode cX5_count 12 = .ok (.goto 4, 3) := by decide +kernel
theorem dX5_count_15 : decode cX5_count 15 = .ok (.iconst 0, 1) := by decide +kernel
theorem dX5_count_16 : decode cX5_count 16 = .ok (.putfield 51, 3) := by decide +kernel
theorem dX5_count_19 : decode cX5_count 19 = .ok (.aload_n 0, 1) := by decide +kernel
theorem dX5_count_20 : decode cX5_count 20 = .ok (.getfield 51, 3) := by decide +kernel
theorem dX5_count_23 : decode cX5_count 23 = .ok (.ifCond .eq 7, 3) := by decide +kernel
theorem dX5_count_26 : decode cX5_count 26 = .ok (.iconst 0, 1) := by decide +kernel
theorem dX5_count_27 : decode cX5_count 27 = .ok (.goto 20, 3) := by decide +kernel
theorem dX5_count_30 : decode cX5_count 30 = .ok (.iload_n 1, 1) := by decide +kernel
theorem dX5_count_31 : decode cX5_count 31 = .ok (.ifCond .ne 10, 3) := by decide +kernel
theorem dX5_count_34 : decode cX5_count 34 = .ok (.aload_n 0, 1) := by decide +kernel
theorem dX5_count_35 : decode cX5_count 35 = .ok (.getfield 54, 3) := by decide +kernel
theorem dX5_count_38 : decode cX5_count 38 = .ok (.goto 9, 3) := by decide +kernel
theorem dX5_count_41 : decode cX5_count 41 = .ok (.aload_n 0, 1) := by decide +kernel
theorem dX5_count_42 : decode cX5_count 42 = .ok (.getfield 48, 3) := by decide +kernel
theorem dX5_count_45 : decode cX5_count 45 = .ok (.iload_n 1, 1) := by decide +kernel
theorem dX5_count_46 : decode cX5_count 46 = .ok (.iaload, 1) := by decide +kernel
theorem dX5_count_47 : decode cX5_count 47 = .ok (.ireturn, 1) := by decide +kernel
