theorem dX9_canBegin_19 : decode cX9_canBegin 19 = .ok (.invokevirtual 118, 3) := by decide +kernel
theorem dX9_canBegin_22 : decode cX9_canBegin 22 = .ok (.iconst (-1), 1) := by decide +kernel
theorem dX9_canBegin_23 : decode cX9_canBegin 23 = .ok (.if_icmp .ne 7, 3) := by decide +kernel
theorem dX9_canBegin_26 : decode cX9_canBegin 26 = .ok (.iconst 1, 1) := by decide +kernel
theorem dX9_canBegin_27 : decode cX9_canBegin 27 = .ok (.goto 4, 3) := by decide +kernel
theorem dX9_canBegin_30 : decode cX9_canBegin 30 = .ok (.iconst 0, 1) := by decide +kernel
theorem dX9_canBegin_31 : decode cX9_canBegin 31 = .ok (.ireturn, 1) := by decide +kernel
theorem dX9_isEnd_0 : decode cX9_isEnd 0 = .ok (.aload_n 0, 1) := by decide +kernel
theorem dX9_isEnd_1 : decode cX9_isEnd 1 = .ok (.iload_n 1, 1) := by decide +kernel
theorem dX9_isEnd_2 : decode cX9_isEnd 2 = .ok (.invokevirtual 142, 3) := by decide +kernel
theorem dX9_isEnd_5 : decode cX9_isEnd 5 = .ok (.istore_n 2, 1) := by decide +kernel
theorem dX9_isEnd_6 : decode cX9_isEnd 6 = .ok (.iconst 0, 1) := by decide +kernel
theorem dX9_isEnd_7 : decode cX9_isEnd 7 = .ok (.istore_n 3, 1) := by decide +kernel
theorem dX9_isEnd_8 : decode cX9_isEnd 8 = .ok (.iload_n 3, 1) := by decide +kernel
theorem dX9_isEnd_9 : decode cX9_isEnd 9 = .ok (.iconst 4, 1) := by decide +kernel
theorem dX9_isEnd_10 : decode cX9_isEnd 10 = .ok (.if_icmp .ge 33, 3) := by decide +kernel
theorem dX9_isEnd_13 : decode cX9_isEnd 13 = .ok (.iload_n 2, 1) := by decide +kernel
theorem dX9_isEnd_14 : decode cX9_isEnd 14 = .ok (.ifCond .ne 17, 3) := by decide +kernel
theorem dX9_isEnd_17 : decode cX9_isEnd 17 = .ok (.aload_n 0, 1) := by decide +kernel
theorem dX9_isEnd_18 : decode cX9_isEnd 18 = .ok (.aload_n 0, 1) := by decide +kernel
theorem dX9_isEnd_19 : decode cX9_isEnd 19 = .ok (.iload_n 1, 1) := by decide +kernel
theorem dX9_isEnd_20 : decode cX9_isEnd 20 = .ok (.iload_n 3, 1) := by decide +kernel
theorem dX9_isEnd_21 : decode cX9_isEnd 21 = .ok (.iconst 1, 1) := by decide +kernel
theorem dX9_isEnd_22 : decode cX9_isEnd 22 = .ok (.invokevirtual 86, 3) := by decide +kernel
theorem dX9_isEnd_25 : decode cX9_isEnd 25 = .ok (.invokevirtual 115, 3) := by decide +kernel
theorem dX9_isEnd_28 : decode cX9_isEnd 28 = .ok (.ifCond .eq 7, 3) := by decide +kernel
theorem dX9_isEnd_31 : decode cX9_isEnd 31 = .ok (.iconst 1, 1) := by decide +kernel
theorem dX9_isEnd_32 : decode cX9_isEnd 32 = .ok (.goto 4, 3) := by decide +kernel
theorem dX9_isEnd_35 : decode cX9_isEnd 35 = .ok (.iconst 0, 1) := by decide +kernel
theorem dX9_isEnd_36 : decode cX9_isEnd 36 = .ok (.istore_n 2, 1) := by decide +kernel
theorem dX9_isEnd_37 : decode cX9_isEnd 37 = .ok (.iinc 3 1, 3) := by decide +kernel
theorem dX9_isEnd_40 : decode cX9_isEnd 40 = .ok (.goto (-32), 3) := by decide +kernel
theorem dX9_isEnd_43 : decode cX9_isEnd 43 = .ok (.iload_n 2, 1) := by decide +kernel
theorem dX9_isEnd_44 : decode cX9_isEnd 44 = .ok (.ireturn, 1) := by decide +kernel
theorem dX9_costOf_0 : decode cX9_costOf 0 = .ok (.aload_n 0, 1) := by decide +kernel
theorem dX9_costOf_1 : decode cX9_costOf 1 = .ok (.iload_n 1, 1) := by decide +kernel
theorem dX9_costOf_2 : decode cX9_costOf 2 = .ok (.invokevirtual 145, 3) := by decide +kernel
theorem dX9_costOf_5 : decode cX9_costOf 5 = .ok (.ifCond .ne 7, 3) := by decide +kernel
theorem dX9_costOf_8 : decode cX9_costOf 8 = .ok (.iconst 1, 1) := by decide +kernel
theorem dX9_costOf_9 : decode cX9_costOf 9 = .ok (.goto 5, 3) := by decide +kernel
theorem dX9_costOf_12 : decode cX9_costOf 12 = .ok (.bipush 11, 2) := by decide +kernel
theorem dX9_costOf_14 : decode cX9_costOf 14 = .ok (.ireturn, 1) := by decide +kernel
theorem dX9_laysSums_0 : decode cX9_laysSums 0 = .ok (.iconst 0, 1) := by decide +kernel
theorem dX9_laysSums_1 : decode cX9_laysSums 1 = .ok (.istore_n 1, 1) := by decide +kernel
theorem dX9_laysSums_2 : decode cX9_laysSums 2 = .ok (.iload_n 1, 1) := by decide +kernel
theorem dX9_laysSums_3 : decode cX9_laysSums 3 = .ok (.aload_n 0, 1) := by decide +kernel
theorem dX9_laysSums_4 : decode cX9_laysSums 4 = .ok (.invokevirtual 74, 3) := by decide +kernel
theorem dX9_laysSums_7 : decode cX9_laysSums 7 = .ok (.if_icmp .ge 41, 3) := by decide +kernel
theorem dX9_laysSums_10 : decode cX9_laysSums 10 = .ok (.aload_n 0, 1) := by decide +kernel
theorem dX9_laysSums_11 : decode cX9_laysSums 11 = .ok (.getfield 29, 3) := by decide +kernel
theorem dX9_laysSums_14 : decode cX9_laysSums 14 = .ok (.iload_n 1, 1) := by decide +kernel
theorem dX9_laysSums_15 : decode cX9_laysSums 15 = .ok (.aload_n 0, 1) := by decide +kernel
theorem dX9_laysSums_16 : decode cX9_laysSums 16 = .ok (.iload_n 1, 1) := by decide +kernel
theorem dX9_laysSums_17 : decode cX9_laysSums 17 = .ok (.invokevirtual 148, 3) := by decide +kernel
theorem dX9_laysSums_20 : decode cX9_laysSums 20 = .ok (.ifCond .eq 19, 3) := by decide +kernel
theorem dX9_laysSums_23 : decode cX9_laysSums 23 = .ok (.aload_n 0, 1) := by decide +kernel
theorem dX9_laysSums_24 : decode cX9_laysSums 24 = .ok (.iload_n 1, 1) := by decide +kernel
theorem dX9_laysSums_25 : decode cX9_laysSums 25 = .ok (.invokevirtual 151, 3) := by decide +kernel
theorem dX9_laysSums_28 : decode cX9_laysSums 28 = .ok (.ifCond .eq 11, 3) := by decide +kernel
theorem dX9_laysSums_31 : decode cX9_laysSums 31 = .ok (.aload_n 0, 1) := by decide +kernel
theorem dX9_laysSums_32 : decode cX9_laysSums 32 = .ok (.iload_n 1, 1) := by decide +kernel
theorem dX9_laysSums_33 : decode cX9_laysSums 33 = .ok (.invokevirtual 154, 3) := by decide +kernel
theorem dX9_laysSums_36 : decode cX9_laysSums 36 = .ok (.goto 5, 3) := by decide +kernel
theorem dX9_laysSums_39 : decode cX9_laysSums 39 = .ok (.ldc 157, 2) := by decide +kernel
theorem dX9_laysSums_41 : decode cX9_laysSums 41 = .ok (.iastore, 1) := by decide +kernel
theorem dX9_laysSums_42 : decode cX9_laysSums 42 = .ok (.iinc 1 1, 3) := by decide +kernel
theorem dX9_laysSums_45 : decode cX9_laysSums 45 = .ok (.goto (-43), 3) := by decide +kernel
theorem dX9_laysSums_48 : decode cX9_laysSums 48 = .ok (.iconst 1, 1) := by decide +kernel
theorem dX9_laysSums_49 : decode cX9_laysSums 49 = .ok (.istore_n 1, 1) := by decide +kernel
theorem dX9_laysSums_50 : decode cX9_laysSums 50 = .ok (.iload_n 1, 1) := by decide +kernel
theorem dX9_laysSums_51 : decode cX9_laysSums 51 = .ok (.ifCond .eq 151, 3) := by decide +kernel
theorem dX9_laysSums_54 : decode cX9_laysSums 54 = .ok (.iconst 0, 1) := by decide +kernel
theorem dX9_laysSums_55 : decode cX9_laysSums 55 = .ok (.istore_n 1, 1) := by decide +kernel
theorem dX9_laysSums_56 : decode cX9_laysSums 56 = .ok (.iconst 0, 1) := by decide +kernel
theorem dX9_laysSums_57 : decode cX9_laysSums 57 = .ok (.istore_n 2, 1) := by decide +kernel
theorem dX9_laysSums_58 : decode cX9_laysSums 58 = .ok (.iload_n 2, 1) := by decide +kernel
theorem dX9_laysSums_59 : decode cX9_laysSums 59 = .ok (.aload_n 0, 1) := by decide +kernel
theorem dX9_laysSums_60 : decode cX9_laysSums 60 = .ok (.invokevirtual 74, 3) := by decide +kernel
theorem dX9_laysSums_63 : decode cX9_laysSums 63 = .ok (.if_icmp .ge 136, 3) := by decide +kernel
theorem dX9_laysSums_66 : decode cX9_laysSums 66 = .ok (.aload_n 0, 1) := by decide +kernel
theorem dX9_laysSums_67 : decode cX9_laysSums 67 = .ok (.iload_n 2, 1) := by decide +kernel
theorem dX9_laysSums_68 : decode cX9_laysSums 68 = .ok (.invokevirtual 148, 3) := by decide +kernel
theorem dX9_laysSums_71 : decode cX9_laysSums 71 = .ok (.ifCond .eq 122, 3) := by decide +kernel
theorem dX9_laysSums_74 : decode cX9_laysSums 74 = .ok (.aload_n 0, 1) := by decide +kernel
theorem dX9_laysSums_75 : decode cX9_laysSums 75 = .ok (.iload_n 2, 1) := by decide +kernel
theorem dX9_laysSums_76 : decode cX9_laysSums 76 = .ok (.invokevirtual 151, 3) := by decide +kernel
theorem dX9_laysSums_79 : decode cX9_laysSums 79 = .ok (.ifCond .eq 6, 3) := by decide +kernel
theorem dX9_laysSums_82 : decode cX9_laysSums 82 = .ok (.goto 111, 3) := by decide +kernel
theorem dX9_laysSums_85 : decode cX9_laysSums 85 = .ok (.ldc 157, 2) := by decide +kernel
theorem dX9_laysSums_87 : decode cX9_laysSums 87 = .ok (.istore_n 3, 1) := by decide +kernel
theorem dX9_laysSums_88 : decode cX9_laysSums 88 = .ok (.iconst 0, 1) := by decide +kernel
theorem dX9_laysSums_89 : decode cX9_laysSums 89 = .ok (.istore 4, 2) := by decide +kernel
theorem dX9_laysSums_91 : decode cX9_laysSums 91 = .ok (.iload 4, 2) := by decide +kernel
theorem dX9_laysSums_93 : decode cX9_laysSums 93 = .ok (.iconst 4, 1) := by decide +kernel
theorem dX9_laysSums_94 : decode cX9_laysSums 94 = .ok (.if_icmp .ge 41, 3) := by decide +kernel
theorem dX9_laysSums_97 : decode cX9_laysSums 97 = .ok (.aload_n 0, 1) := by decide +kernel
theorem dX9_laysSums_98 : decode cX9_laysSums 98 = .ok (.iload_n 2, 1) := by decide +kernel
theorem dX9_laysSums_99 : decode cX9_laysSums 99 = .ok (.iload 4, 2) := by decide +kernel
theorem dX9_laysSums_101 : decode cX9_laysSums 101 = .ok (.iconst 1, 1) := by decide +kernel
theorem dX9_laysSums_102 : decode cX9_laysSums 102 = .ok (.invokevirtual 86, 3) := by decide +kernel
theorem dX9_laysSums_105 : decode cX9_laysSums 105 = .ok (.istore 5, 2) := by decide +kernel
theorem dX9_laysSums_107 : decode cX9_laysSums 107 = .ok (.iload 5, 2) := by decide +kernel
theorem dX9_laysSums_109 : decode cX9_laysSums 109 = .ok (.iconst (-1), 1) := by decide +kernel
theorem dX9_laysSums_110 : decode cX9_laysSums 110 = .ok (.if_icmp .ne 7, 3) := by decide +kernel
theorem dX9_laysSums_113 : decode cX9_laysSums 113 = .ok (.iload_n 3, 1) := by decide +kernel
theorem dX9_laysSums_114 : decode cX9_laysSums 114 = .ok (.goto 14, 3) := by decide +kernel
theorem dX9_laysSums_117 : decode cX9_laysSums 117 = .ok (.iload_n 3, 1) := by decide +kernel
theorem dX9_laysSums_118 : decode cX9_laysSums 118 = .ok (.aload_n 0, 1) := by decide +kernel
theorem dX9_laysSums_119 : decode cX9_laysSums 119 = .ok (.getfield 29, 3) := by decide +kernel
theorem dX9_laysSums_122 : decode cX9_laysSums 122 = .ok (.iload 5, 2) := by decide +kernel
theorem dX9_laysSums_124 : decode cX9_laysSums 124 = .ok (.iaload, 1) := by decide +kernel
theorem dX9_laysSums_125 : decode cX9_laysSums 125 = .ok (.invokestatic 90, 3) := by decide +kernel
theorem dX9_laysSums_128 : decode cX9_laysSums 128 = .ok (.istore_n 3, 1) := by decide +kernel
theorem dX9_laysSums_129 : decode cX9_laysSums 129 = .ok (.iinc 4 1, 3) := by decide +kernel
theorem dX9_laysSums_132 : decode cX9_laysSums 132 = .ok (.goto (-41), 3) := by decide +kernel
theorem dX9_laysSums_135 : decode cX9_laysSums 135 = .ok (.iload_n 3, 1) := by decide +kernel
theorem dX9_laysSums_136 : decode cX9_laysSums 136 = .ok (.ldc 157, 2) := by decide +kernel
theorem dX9_laysSums_138 : decode cX9_laysSums 138 = .ok (.if_icmp .ne 8, 3) := by decide +kernel
theorem dX9_laysSums_141 : decode cX9_laysSums 141 = .ok (.ldc 157, 2) := by decide +kernel
theorem dX9_laysSums_143 : decode cX9_laysSums 143 = .ok (.goto 10, 3) := by decide +kernel
theorem dX9_laysSums_146 : decode cX9_laysSums 146 = .ok (.iload_n 3, 1) := by decide +kernel
theorem dX9_laysSums_147 : decode cX9_laysSums 147 = .ok (.aload_n 0, 1) := by decide +kernel
theorem dX9_laysSums_148 : decode cX9_laysSums 148 = .ok (.iload_n 2, 1) := by decide +kernel
theorem dX9_laysSums_149 : decode cX9_laysSums 149 = .ok (.invokevirtual 154, 3) := by decide +kernel
theorem dX9_laysSums_152 : decode cX9_laysSums 152 = .ok (.iadd, 1) := by decide +kernel
theorem dX9_laysSums_153 : decode cX9_laysSums 153 = .ok (.istore 4, 2) := by decide +kernel
theorem dX9_laysSums_155 : decode cX9_laysSums 155 = .ok (.iload_n 1, 1) := by decide +kernel
theorem dX9_laysSums_156 : decode cX9_laysSums 156 = .ok (.ifCond .ne 14, 3) := by decide +kernel
theorem dX9_laysSums_159 : decode cX9_laysSums 159 = .ok (.iload 4, 2) := by decide +kernel
theorem dX9_laysSums_161 : decode cX9_laysSums 161 = .ok (.aload_n 0, 1) := by decide +kernel
theorem dX9_laysSums_162 : decode cX9_laysSums 162 = .ok (.getfield 29, 3) := by decide +kernel
theorem dX9_laysSums_165 : decode cX9_laysSums 165 = .ok (.iload_n 2, 1) := by decide +kernel
theorem dX9_laysSums_166 : decode cX9_laysSums 166 = .ok (.iaload, 1) := by decide +kernel
theorem dX9_laysSums_167 : decode cX9_laysSums 167 = .ok (.if_icmp .ge 7, 3) := by decide +kernel
theorem dX9_laysSums_170 : decode cX9_laysSums 170 = .ok (.iconst 1, 1) := by decide +kernel
theorem dX9_laysSums_171 : decode cX9_laysSums 171 = .ok (.goto 4, 3) := by decide +kernel
theorem dX9_laysSums_174 : decode cX9_laysSums 174 = .ok (.iconst 0, 1) := by decide +kernel
theorem dX9_laysSums_175 : decode cX9_laysSums 175 = .ok (.istore_n 1, 1) := by decide +kernel
theorem dX9_laysSums_176 : decode cX9_laysSums 176 = .ok (.aload_n 0, 1) := by decide +kernel
theorem dX9_laysSums_177 : decode cX9_laysSums 177 = .ok (.getfield 29, 3) := by decide +kernel
theorem dX9_laysSums_180 : decode cX9_laysSums 180 = .ok (.iload_n 2, 1) := by decide +kernel
theorem dX9_laysSums_181 : decode cX9_laysSums 181 = .ok (.iload 4, 2) := by decide +kernel
theorem dX9_laysSums_183 : decode cX9_laysSums 183 = .ok (.aload_n 0, 1) := by decide +kernel
theorem dX9_laysSums_184 : decode cX9_laysSums 184 = .ok (.getfield 29, 3) := by decide +kernel
theorem dX9_laysSums_187 : decode cX9_laysSums 187 = .ok (.iload_n 2, 1) := by decide +kernel
theorem dX9_laysSums_188 : decode cX9_laysSums 188 = .ok (.iaload, 1) := by decide +kernel
theorem dX9_laysSums_189 : decode cX9_laysSums 189 = .ok (.invokestatic 90, 3) := by decide +kernel
theorem dX9_laysSums_192 : decode cX9_laysSums 192 = .ok (.iastore, 1) := by decide +kernel
theorem dX9_laysSums_193 : decode cX9_laysSums 193 = .ok (.iinc 2 1, 3) := by decide +kernel
theorem dX9_laysSums_196 : decode cX9_laysSums 196 = .ok (.goto (-138), 3) := by decide +kernel
theorem dX9_laysSums_199 : decode cX9_laysSums 199 = .ok (.goto (-149), 3) := by decide +kernel
theorem dX9_laysSums_202 : decode cX9_laysSums 202 = .ok (.return_, 1) := by decide +kernel
theorem dX9_laysFlow_0 : decode cX9_laysFlow 0 = .ok (.aload_n 0, 1) := by decide +kernel
theorem dX9_laysFlow_1 : decode cX9_laysFlow 1 = .ok (.iconst 0, 1) := by decide +kernel
theorem dX9_laysFlow_2 : decode cX9_laysFlow 2 = .ok (.putfield 158, 3) := by decide +kernel
theorem dX9_laysFlow_5 : decode cX9_laysFlow 5 = .ok (.aload_n 0, 1) := by decide +kernel
theorem dX9_laysFlow_6 : decode cX9_laysFlow 6 = .ok (.getfield 29, 3) := by decide +kernel
theorem dX9_laysFlow_9 : decode cX9_laysFlow 9 = .ok (.iload_n 1, 1) := by decide +kernel
theorem dX9_laysFlow_10 : decode cX9_laysFlow 10 = .ok (.iaload, 1) := by decide +kernel
theorem dX9_laysFlow_11 : decode cX9_laysFlow 11 = .ok (.ldc 157, 2) := by decide +kernel
theorem dX9_laysFlow_13 : decode cX9_laysFlow 13 = .ok (.if_icmp .ne 5, 3) := by decide +kernel
theorem dX9_laysFlow_16 : decode cX9_laysFlow 16 = .ok (.iconst 0, 1) := by decide +kernel
theorem dX9_laysFlow_17 : decode cX9_laysFlow 17 = .ok (.ireturn, 1) := by decide +kernel
theorem dX9_laysFlow_18 : decode cX9_laysFlow 18 = .ok (.iload_n 1, 1) := by decide +kernel
theorem dX9_laysFlow_19 : decode cX9_laysFlow 19 = .ok (.istore_n 2, 1) := by decide +kernel
theorem dX9_laysFlow_20 : decode cX9_laysFlow 20 = .ok (.iload_n 2, 1) := by decide +kernel
theorem dX9_laysFlow_21 : decode cX9_laysFlow 21 = .ok (.iconst (-1), 1) := by decide +kernel
theorem dX9_laysFlow_22 : decode cX9_laysFlow 22 = .ok (.if_icmp .eq 44, 3) := by decide +kernel
theorem dX9_laysFlow_25 : decode cX9_laysFlow 25 = .ok (.aload_n 0, 1) := by decide +kernel
theorem dX9_laysFlow_26 : decode cX9_laysFlow 26 = .ok (.getfield 32, 3) := by decide +kernel
theorem dX9_laysFlow_29 : decode cX9_laysFlow 29 = .ok (.aload_n 0, 1) := by decide +kernel
theorem dX9_laysFlow_30 : decode cX9_laysFlow 30 = .ok (.getfield 158, 3) := by decide +kernel
theorem dX9_laysFlow_33 : decode cX9_laysFlow 33 = .ok (.iload_n 2, 1) := by decide +kernel
theorem dX9_laysFlow_34 : decode cX9_laysFlow 34 = .ok (.iastore, 1) := by decide +kernel
theorem dX9_laysFlow_35 : decode cX9_laysFlow 35 = .ok (.aload_n 0, 1) := by decide +kernel
theorem dX9_laysFlow_36 : decode cX9_laysFlow 36 = .ok (.dup, 1) := by decide +kernel
theorem dX9_laysFlow_37 : decode cX9_laysFlow 37 = .ok (.getfield 158, 3) := by decide +kernel
theorem dX9_laysFlow_40 : decode cX9_laysFlow 40 = .ok (.iconst 1, 1) := by decide +kernel
theorem dX9_laysFlow_41 : decode cX9_laysFlow 41 = .ok (.iadd, 1) := by decide +kernel
theorem dX9_laysFlow_42 : decode cX9_laysFlow 42 = .ok (.putfield 158, 3) := by decide +kernel
theorem dX9_laysFlow_45 : decode cX9_laysFlow 45 = .ok (.aload_n 0, 1) := by decide +kernel
theorem dX9_laysFlow_46 : decode cX9_laysFlow 46 = .ok (.iload_n 2, 1) := by decide +kernel
theorem dX9_laysFlow_47 : decode cX9_laysFlow 47 = .ok (.invokevirtual 151, 3) := by decide +kernel
theorem dX9_laysFlow_50 : decode cX9_laysFlow 50 = .ok (.ifCond .eq 7, 3) := by decide +kernel
theorem dX9_laysFlow_53 : decode cX9_laysFlow 53 = .ok (.iconst (-1), 1) := by decide +kernel
theorem dX9_laysFlow_54 : decode cX9_laysFlow 54 = .ok (.goto 8, 3) := by decide +kernel
theorem dX9_laysFlow_57 : decode cX9_laysFlow 57 = .ok (.aload_n 0, 1) := by decide +kernel
theorem dX9_laysFlow_58 : decode cX9_laysFlow 58 = .ok (.iload_n 2, 1) := by decide +kernel
theorem dX9_laysFlow_59 : decode cX9_laysFlow 59 = .ok (.invokevirtual 161, 3) := by decide +kernel
theorem dX9_laysFlow_62 : decode cX9_laysFlow 62 = .ok (.istore_n 2, 1) := by decide +kernel
theorem dX9_laysFlow_63 : decode cX9_laysFlow 63 = .ok (.goto (-43), 3) := by decide +kernel
theorem dX9_laysFlow_66 : decode cX9_laysFlow 66 = .ok (.iconst 1, 1) := by decide +kernel
theorem dX9_laysFlow_67 : decode cX9_laysFlow 67 = .ok (.ireturn, 1) := by decide +kernel
theorem dX9_stepFrom_0 : decode cX9_stepFrom 0 = .ok (.aload_n 0, 1) := by decide +kernel
theorem dX9_stepFrom_1 : decode cX9_stepFrom 1 = .ok (.getfield 29, 3) := by decide +kernel
theorem dX9_stepFrom_4 : decode cX9_stepFrom 4 = .ok (.iload_n 1, 1) := by decide +kernel
theorem dX9_stepFrom_5 : decode cX9_stepFrom 5 = .ok (.iaload, 1) := by decide +kernel
theorem dX9_stepFrom_6 : decode cX9_stepFrom 6 = .ok (.aload_n 0, 1) := by decide +kernel
theorem dX9_stepFrom_7 : decode cX9_stepFrom 7 = .ok (.iload_n 1, 1) := by decide +kernel
theorem dX9_stepFrom_8 : decode cX9_stepFrom 8 = .ok (.invokevirtual 154, 3) := by decide +kernel
theorem dX9_stepFrom_11 : decode cX9_stepFrom 11 = .ok (.isub, 1) := by decide +kernel
theorem dX9_stepFrom_12 : decode cX9_stepFrom 12 = .ok (.istore_n 2, 1) := by decide +kernel
theorem dX9_stepFrom_13 : decode cX9_stepFrom 13 = .ok (.iconst 0, 1) := by decide +kernel
theorem dX9_stepFrom_14 : decode cX9_stepFrom 14 = .ok (.istore_n 3, 1) := by decide +kernel
theorem dX9_stepFrom_15 : decode cX9_stepFrom 15 = .ok (.iload_n 3, 1) := by decide +kernel
theorem dX9_stepFrom_16 : decode cX9_stepFrom 16 = .ok (.iconst 4, 1) := by decide +kernel
theorem dX9_stepFrom_17 : decode cX9_stepFrom 17 = .ok (.if_icmp .ge 38, 3) := by decide +kernel
theorem dX9_stepFrom_20 : decode cX9_stepFrom 20 = .ok (.aload_n 0, 1) := by decide +kernel
theorem dX9_stepFrom_21 : decode cX9_stepFrom 21 = .ok (.iload_n 1, 1) := by decide +kernel
theorem dX9_stepFrom_22 : decode cX9_stepFrom 22 = .ok (.iload_n 3, 1) := by decide +kernel
theorem dX9_stepFrom_23 : decode cX9_stepFrom 23 = .ok (.iconst 1, 1) := by decide +kernel
theorem dX9_stepFrom_24 : decode cX9_stepFrom 24 = .ok (.invokevirtual 86, 3) := by decide +kernel
theorem dX9_stepFrom_27 : decode cX9_stepFrom 27 = .ok (.istore 4, 2) := by decide +kernel
theorem dX9_stepFrom_29 : decode cX9_stepFrom 29 = .ok (.iload 4, 2) := by decide +kernel
theorem dX9_stepFrom_31 : decode cX9_stepFrom 31 = .ok (.iconst (-1), 1) := by decide +kernel
theorem dX9_stepFrom_32 : decode cX9_stepFrom 32 = .ok (.if_icmp .eq 17, 3) := by decide +kernel
theorem dX9_stepFrom_35 : decode cX9_stepFrom 35 = .ok (.aload_n 0, 1) := by decide +kernel
theorem dX9_stepFrom_36 : decode cX9_stepFrom 36 = .ok (.getfield 29, 3) := by decide +kernel
theorem dX9_stepFrom_39 : decode cX9_stepFrom 39 = .ok (.iload 4, 2) := by decide +kernel
theorem dX9_stepFrom_41 : decode cX9_stepFrom 41 = .ok (.iaload, 1) := by decide +kernel
theorem dX9_stepFrom_42 : decode cX9_stepFrom 42 = .ok (.iload_n 2, 1) := by decide +kernel
theorem dX9_stepFrom_43 : decode cX9_stepFrom 43 = .ok (.if_icmp .ne 6, 3) := by decide +kernel
theorem dX9_stepFrom_46 : decode cX9_stepFrom 46 = .ok (.iload 4, 2) := by decide +kernel
theorem dX9_stepFrom_48 : decode cX9_stepFrom 48 = .ok (.ireturn, 1) := by decide +kernel
theorem dX9_stepFrom_49 : decode cX9_stepFrom 49 = .ok (.iinc 3 1, 3) := by decide +kernel
theorem dX9_stepFrom_52 : decode cX9_stepFrom 52 = .ok (.goto (-37), 3) := by decide +kernel
theorem dX9_stepFrom_55 : decode cX9_stepFrom 55 = .ok (.iconst (-1), 1) := by decide +kernel
theorem dX9_stepFrom_56 : decode cX9_stepFrom 56 = .ok (.ireturn, 1) := by decide +kernel
theorem dX9_findsFlow_0 : decode cX9_findsFlow 0 = .ok (.aload_n 0, 1) := by decide +kernel
theorem dX9_findsFlow_1 : decode cX9_findsFlow 1 = .ok (.invokevirtual 164, 3) := by decide +kernel
theorem dX9_findsFlow_4 : decode cX9_findsFlow 4 = .ok (.aload_n 0, 1) := by decide +kernel
theorem dX9_findsFlow_5 : decode cX9_findsFlow 5 = .ok (.iload_n 1, 1) := by decide +kernel
theorem dX9_findsFlow_6 : decode cX9_findsFlow 6 = .ok (.invokevirtual 167, 3) := by decide +kernel
theorem dX9_findsFlow_9 : decode cX9_findsFlow 9 = .ok (.ireturn, 1) := by decide +kernel
theorem dX9_washedBy_0 : decode cX9_washedBy 0 = .ok (.iconst 0, 1) := by decide +kernel
theorem dX9_washedBy_1 : decode cX9_washedBy 1 = .ok (.istore_n 1, 1) := by decide +kernel
theorem dX9_washedBy_2 : decode cX9_washedBy 2 = .ok (.iconst 0, 1) := by decide +kernel
theorem dX9_washedBy_3 : decode cX9_washedBy 3 = .ok (.istore_n 2, 1) := by decide +kernel
theorem dX9_washedBy_4 : decode cX9_washedBy 4 = .ok (.iload_n 2, 1) := by decide +kernel
theorem dX9_washedBy_5 : decode cX9_washedBy 5 = .ok (.aload_n 0, 1) := by decide +kernel
theorem dX9_washedBy_6 : decode cX9_washedBy 6 = .ok (.getfield 158, 3) := by decide +kernel
theorem dX9_washedBy_9 : decode cX9_washedBy 9 = .ok (.if_icmp .ge 22, 3) := by decide +kernel
theorem dX9_washedBy_12 : decode cX9_washedBy 12 = .ok (.iload_n 1, 1) := by decide +kernel
theorem dX9_washedBy_13 : decode cX9_washedBy 13 = .ok (.aload_n 0, 1) := by decide +kernel
theorem dX9_washedBy_14 : decode cX9_washedBy 14 = .ok (.aload_n 0, 1) := by decide +kernel
theorem dX9_washedBy_15 : decode cX9_washedBy 15 = .ok (.getfield 32, 3) := by decide +kernel
theorem dX9_washedBy_18 : decode cX9_washedBy 18 = .ok (.iload_n 2, 1) := by decide +kernel
theorem dX9_washedBy_19 : decode cX9_washedBy 19 = .ok (.iaload, 1) := by decide +kernel
theorem dX9_washedBy_20 : decode cX9_washedBy 20 = .ok (.invokevirtual 145, 3) := by decide +kernel
theorem dX9_washedBy_23 : decode cX9_washedBy 23 = .ok (.ior, 1) := by decide +kernel
theorem dX9_washedBy_24 : decode cX9_washedBy 24 = .ok (.istore_n 1, 1) := by decide +kernel
theorem dX9_washedBy_25 : decode cX9_washedBy 25 = .ok (.iinc 2 1, 3) := by decide +kernel
theorem dX9_washedBy_28 : decode cX9_washedBy 28 = .ok (.goto (-24), 3) := by decide +kernel
theorem dX9_washedBy_31 : decode cX9_washedBy 31 = .ok (.iload_n 1, 1) := by decide +kernel
theorem dX9_washedBy_32 : decode cX9_washedBy 32 = .ok (.ireturn, 1) := by decide +kernel
theorem dX9_flows_0 : decode cX9_flows 0 = .ok (.aload_n 0, 1) := by decide +kernel
theorem dX9_flows_1 : decode cX9_flows 1 = .ok (.aload_n 0, 1) := by decide +kernel
theorem dX9_flows_2 : decode cX9_flows 2 = .ok (.invokevirtual 170, 3) := by decide +kernel
theorem dX9_flows_5 : decode cX9_flows 5 = .ok (.invokevirtual 173, 3) := by decide +kernel
theorem dX9_flows_8 : decode cX9_flows 8 = .ok (.istore_n 1, 1) := by decide +kernel
theorem dX9_flows_9 : decode cX9_flows 9 = .ok (.aload_n 0, 1) := by decide +kernel
theorem dX9_flows_10 : decode cX9_flows 10 = .ok (.getfield 7, 3) := by decide +kernel
theorem dX9_flows_13 : decode cX9_flows 13 = .ok (.iconst 3, 1) := by decide +kernel
theorem dX9_flows_14 : decode cX9_flows 14 = .ok (.dup2, 1) := by decide +kernel
theorem dX9_flows_15 : decode cX9_flows 15 = .ok (.iaload, 1) := by decide +kernel
theorem dX9_flows_16 : decode cX9_flows 16 = .ok (.iconst 1, 1) := by decide +kernel
theorem dX9_flows_17 : decode cX9_flows 17 = .ok (.iadd, 1) := by decide +kernel
theorem dX9_flows_18 : decode cX9_flows 18 = .ok (.iastore, 1) := by decide +kernel
theorem dX9_flows_19 : decode cX9_flows 19 = .ok (.iconst 0, 1) := by decide +kernel
theorem dX9_flows_20 : decode cX9_flows 20 = .ok (.istore_n 2, 1) := by decide +kernel
theorem dX9_flows_21 : decode cX9_flows 21 = .ok (.iload_n 2, 1) := by decide +kernel
theorem dX9_flows_22 : decode cX9_flows 22 = .ok (.aload_n 0, 1) := by decide +kernel
theorem dX9_flows_23 : decode cX9_flows 23 = .ok (.getfield 158, 3) := by decide +kernel
theorem dX9_flows_26 : decode cX9_flows 26 = .ok (.if_icmp .ge 46, 3) := by decide +kernel
theorem dX9_flows_29 : decode cX9_flows 29 = .ok (.aload_n 0, 1) := by decide +kernel
theorem dX9_flows_30 : decode cX9_flows 30 = .ok (.getfield 7, 3) := by decide +kernel
theorem dX9_flows_33 : decode cX9_flows 33 = .ok (.sipush 152, 3) := by decide +kernel
theorem dX9_flows_36 : decode cX9_flows 36 = .ok (.aload_n 0, 1) := by decide +kernel
theorem dX9_flows_37 : decode cX9_flows 37 = .ok (.getfield 32, 3) := by decide +kernel
theorem dX9_flows_40 : decode cX9_flows 40 = .ok (.iload_n 2, 1) := by decide +kernel
theorem dX9_flows_41 : decode cX9_flows 41 = .ok (.iaload, 1) := by decide +kernel
theorem dX9_flows_42 : decode cX9_flows 42 = .ok (.iadd, 1) := by decide +kernel
theorem dX9_flows_43 : decode cX9_flows 43 = .ok (.aload_n 0, 1) := by decide +kernel
theorem dX9_flows_44 : decode cX9_flows 44 = .ok (.getfield 7, 3) := by decide +kernel
theorem dX9_flows_47 : decode cX9_flows 47 = .ok (.iconst 3, 1) := by decide +kernel
theorem dX9_flows_48 : decode cX9_flows 48 = .ok (.iaload, 1) := by decide +kernel
theorem dX9_flows_49 : decode cX9_flows 49 = .ok (.iastore, 1) := by decide +kernel
theorem dX9_flows_50 : decode cX9_flows 50 = .ok (.aload_n 0, 1) := by decide +kernel
theorem dX9_flows_51 : decode cX9_flows 51 = .ok (.getfield 7, 3) := by decide +kernel
theorem dX9_flows_54 : decode cX9_flows 54 = .ok (.sipush 296, 3) := by decide +kernel
theorem dX9_flows_57 : decode cX9_flows 57 = .ok (.aload_n 0, 1) := by decide +kernel
theorem dX9_flows_58 : decode cX9_flows 58 = .ok (.getfield 32, 3) := by decide +kernel
theorem dX9_flows_61 : decode cX9_flows 61 = .ok (.iload_n 2, 1) := by decide +kernel
theorem dX9_flows_62 : decode cX9_flows 62 = .ok (.iaload, 1) := by decide +kernel
theorem dX9_flows_63 : decode cX9_flows 63 = .ok (.iadd, 1) := by decide +kernel
theorem dX9_flows_64 : decode cX9_flows 64 = .ok (.iload_n 2, 1) := by decide +kernel
theorem dX9_flows_65 : decode cX9_flows 65 = .ok (.iastore, 1) := by decide +kernel
theorem dX9_flows_66 : decode cX9_flows 66 = .ok (.iinc 2 1, 3) := by decide +kernel
theorem dX9_flows_69 : decode cX9_flows 69 = .ok (.goto (-48), 3) := by decide +kernel
theorem dX9_flows_72 : decode cX9_flows 72 = .ok (.return_, 1) := by decide +kernel
theorem dX9_quarters_0 : decode cX9_quarters 0 = .ok (.iload_n 0, 1) := by decide +kernel
theorem dX9_quarters_1 : decode cX9_quarters 1 = .ok (.iload_n 1, 1) := by decide +kernel
theorem dX9_quarters_2 : decode cX9_quarters 2 = .ok (.isub, 1) := by decide +kernel
theorem dX9_quarters_3 : decode cX9_quarters 3 = .ok (.invokestatic 96, 3) := by decide +kernel
theorem dX9_quarters_6 : decode cX9_quarters 6 = .ok (.istore_n 2, 1) := by decide +kernel
theorem dX9_quarters_7 : decode cX9_quarters 7 = .ok (.iload_n 2, 1) := by decide +kernel
theorem dX9_quarters_8 : decode cX9_quarters 8 = .ok (.iconst 4, 1) := by decide +kernel
theorem dX9_quarters_9 : decode cX9_quarters 9 = .ok (.iload_n 2, 1) := by decide +kernel
theorem dX9_quarters_10 : decode cX9_quarters 10 = .ok (.isub, 1) := by decide +kernel
theorem dX9_quarters_11 : decode cX9_quarters 11 = .ok (.invokestatic 90, 3) := by decide +kernel
theorem dX9_quarters_14 : decode cX9_quarters 14 = .ok (.ireturn, 1) := by decide +kernel
theorem dX9_uprightBy_0 : decode cX9_uprightBy 0 = .ok (.iload_n 0, 1) := by decide +kernel
theorem dX9_uprightBy_1 : decode cX9_uprightBy 1 = .ok (.iconst 3, 1) := by decide +kernel
theorem dX9_uprightBy_2 : decode cX9_uprightBy 2 = .ok (.iadd, 1) := by decide +kernel
theorem dX9_uprightBy_3 : decode cX9_uprightBy 3 = .ok (.iconst 4, 1) := by decide +kernel
theorem dX9_uprightBy_4 : decode cX9_uprightBy 4 = .ok (.irem, 1) := by decide +kernel
theorem dX9_uprightBy_5 : decode cX9_uprightBy 5 = .ok (.ireturn, 1) := by decide +kernel
theorem dX9_turningBy_0 : decode cX9_turningBy 0 = .ok (.iload_n 1, 1) := by decide +kernel
theorem dX9_turningBy_1 : decode cX9_turningBy 1 = .ok (.istore_n 2, 1) := by decide +kernel
theorem dX9_turningBy_2 : decode cX9_turningBy 2 = .ok (.iconst 0, 1) := by decide +kernel
theorem dX9_turningBy_3 : decode cX9_turningBy 3 = .ok (.istore_n 3, 1) := by decide +kernel
theorem dX9_turningBy_4 : decode cX9_turningBy 4 = .ok (.iconst 0, 1) := by decide +kernel
theorem dX9_turningBy_5 : decode cX9_turningBy 5 = .ok (.istore 4, 2) := by decide +kernel
theorem dX9_turningBy_7 : decode cX9_turningBy 7 = .ok (.iload 4, 2) := by decide +kernel
theorem dX9_turningBy_9 : decode cX9_turningBy 9 = .ok (.aload_n 0, 1) := by decide +kernel
theorem dX9_turningBy_10 : decode cX9_turningBy 10 = .ok (.getfield 7, 3) := by decide +kernel
theorem dX9_turningBy_13 : decode cX9_turningBy 13 = .ok (.iconst 4, 1) := by decide +kernel
theorem dX9_turningBy_14 : decode cX9_turningBy 14 = .ok (.iaload, 1) := by decide +kernel
theorem dX9_turningBy_15 : decode cX9_turningBy 15 = .ok (.if_icmp .ge 51, 3) := by decide +kernel
theorem dX9_turningBy_18 : decode cX9_turningBy 18 = .ok (.aload_n 0, 1) := by decide +kernel
theorem dX9_turningBy_19 : decode cX9_turningBy 19 = .ok (.getfield 35, 3) := by decide +kernel
theorem dX9_turningBy_22 : decode cX9_turningBy 22 = .ok (.aload_n 0, 1) := by decide +kernel
theorem dX9_turningBy_23 : decode cX9_turningBy 23 = .ok (.getfield 7, 3) := by decide +kernel
theorem dX9_turningBy_26 : decode cX9_turningBy 26 = .ok (.sipush 536, 3) := by decide +kernel
theorem dX9_turningBy_29 : decode cX9_turningBy 29 = .ok (.iload 4, 2) := by decide +kernel
theorem dX9_turningBy_31 : decode cX9_turningBy 31 = .ok (.iadd, 1) := by decide +kernel
theorem dX9_turningBy_32 : decode cX9_turningBy 32 = .ok (.iaload, 1) := by decide +kernel
theorem dX9_turningBy_33 : decode cX9_turningBy 33 = .ok (.iaload, 1) := by decide +kernel
theorem dX9_turningBy_34 : decode cX9_turningBy 34 = .ok (.istore 5, 2) := by decide +kernel
theorem dX9_turningBy_36 : decode cX9_turningBy 36 = .ok (.iload 5, 2) := by decide +kernel
theorem dX9_turningBy_38 : decode cX9_turningBy 38 = .ok (.iconst (-1), 1) := by decide +kernel
theorem dX9_turningBy_39 : decode cX9_turningBy 39 = .ok (.if_icmp .eq 21, 3) := by decide +kernel
theorem dX9_turningBy_42 : decode cX9_turningBy 42 = .ok (.iload_n 3, 1) := by decide +kernel
theorem dX9_turningBy_43 : decode cX9_turningBy 43 = .ok (.iload_n 2, 1) := by decide +kernel
theorem dX9_turningBy_44 : decode cX9_turningBy 44 = .ok (.iload 5, 2) := by decide +kernel
theorem dX9_turningBy_46 : decode cX9_turningBy 46 = .ok (.invokestatic 176, 3) := by decide +kernel
theorem dX9_turningBy_49 : decode cX9_turningBy 49 = .ok (.invokestatic 179, 3) := by decide +kernel
theorem dX9_turningBy_52 : decode cX9_turningBy 52 = .ok (.iadd, 1) := by decide +kernel
theorem dX9_turningBy_53 : decode cX9_turningBy 53 = .ok (.istore_n 3, 1) := by decide +kernel
theorem dX9_turningBy_54 : decode cX9_turningBy 54 = .ok (.iload 5, 2) := by decide +kernel
theorem dX9_turningBy_56 : decode cX9_turningBy 56 = .ok (.invokestatic 176, 3) := by decide +kernel
theorem dX9_turningBy_59 : decode cX9_turningBy 59 = .ok (.istore_n 2, 1) := by decide +kernel
theorem dX9_turningBy_60 : decode cX9_turningBy 60 = .ok (.iinc 4 1, 3) := by decide +kernel
theorem dX9_turningBy_63 : decode cX9_turningBy 63 = .ok (.goto (-56), 3) := by decide +kernel
theorem dX9_turningBy_66 : decode cX9_turningBy 66 = .ok (.iload_n 3, 1) := by decide +kernel
theorem dX9_turningBy_67 : decode cX9_turningBy 67 = .ok (.ireturn, 1) := by decide +kernel
theorem dX9_turningNow_0 : decode cX9_turningNow 0 = .ok (.iconst 0, 1) := by decide +kernel
theorem dX9_turningNow_1 : decode cX9_turningNow 1 = .ok (.istore_n 2, 1) := by decide +kernel
theorem dX9_turningNow_2 : decode cX9_turningNow 2 = .ok (.iload_n 2, 1) := by decide +kernel
theorem dX9_turningNow_3 : decode cX9_turningNow 3 = .ok (.aload_n 0, 1) := by decide +kernel
theorem dX9_turningNow_4 : decode cX9_turningNow 4 = .ok (.getfield 7, 3) := by decide +kernel
theorem dX9_turningNow_7 : decode cX9_turningNow 7 = .ok (.iconst 2, 1) := by decide +kernel
theorem dX9_turningNow_8 : decode cX9_turningNow 8 = .ok (.iaload, 1) := by decide +kernel
theorem dX9_turningNow_9 : decode cX9_turningNow 9 = .ok (.if_icmp .ge 21, 3) := by decide +kernel
theorem dX9_turningNow_12 : decode cX9_turningNow 12 = .ok (.aload_n 0, 1) := by decide +kernel
theorem dX9_turningNow_13 : decode cX9_turningNow 13 = .ok (.getfield 35, 3) := by decide +kernel
theorem dX9_turningNow_16 : decode cX9_turningNow 16 = .ok (.iload_n 2, 1) := by decide +kernel
theorem dX9_turningNow_17 : decode cX9_turningNow 17 = .ok (.aload_n 0, 1) := by decide +kernel
theorem dX9_turningNow_18 : decode cX9_turningNow 18 = .ok (.iload_n 2, 1) := by decide +kernel
theorem dX9_turningNow_19 : decode cX9_turningNow 19 = .ok (.iconst 2, 1) := by decide +kernel
theorem dX9_turningNow_20 : decode cX9_turningNow 20 = .ok (.invokevirtual 100, 3) := by decide +kernel
theorem dX9_turningNow_23 : decode cX9_turningNow 23 = .ok (.iastore, 1) := by decide +kernel
theorem dX9_turningNow_24 : decode cX9_turningNow 24 = .ok (.iinc 2 1, 3) := by decide +kernel
theorem dX9_turningNow_27 : decode cX9_turningNow 27 = .ok (.goto (-25), 3) := by decide +kernel
theorem dX9_turningNow_30 : decode cX9_turningNow 30 = .ok (.aload_n 0, 1) := by decide +kernel
theorem dX9_turningNow_31 : decode cX9_turningNow 31 = .ok (.iload_n 1, 1) := by decide +kernel
theorem dX9_turningNow_32 : decode cX9_turningNow 32 = .ok (.invokevirtual 182, 3) := by decide +kernel
theorem dX9_turningNow_35 : decode cX9_turningNow 35 = .ok (.ireturn, 1) := by decide +kernel
theorem dX9_laysPairs_0 : decode cX9_laysPairs 0 = .ok (.aload_n 0, 1) := by decide +kernel
theorem dX9_laysPairs_1 : decode cX9_laysPairs 1 = .ok (.getfield 7, 3) := by decide +kernel
theorem dX9_laysPairs_4 : decode cX9_laysPairs 4 = .ok (.iconst 2, 1) := by decide +kernel
theorem dX9_laysPairs_5 : decode cX9_laysPairs 5 = .ok (.iaload, 1) := by decide +kernel
theorem dX9_laysPairs_6 : decode cX9_laysPairs 6 = .ok (.istore_n 2, 1) := by decide +kernel
theorem dX9_laysPairs_7 : decode cX9_laysPairs 7 = .ok (.iconst 0, 1) := by decide +kernel
theorem dX9_laysPairs_8 : decode cX9_laysPairs 8 = .ok (.istore_n 3, 1) := by decide +kernel
theorem dX9_laysPairs_9 : decode cX9_laysPairs 9 = .ok (.iload_n 3, 1) := by decide +kernel
theorem dX9_laysPairs_10 : decode cX9_laysPairs 10 = .ok (.iload_n 2, 1) := by decide +kernel
theorem dX9_laysPairs_11 : decode cX9_laysPairs 11 = .ok (.iconst 4, 1) := by decide +kernel
theorem dX9_laysPairs_12 : decode cX9_laysPairs 12 = .ok (.imul, 1) := by decide +kernel
theorem dX9_laysPairs_13 : decode cX9_laysPairs 13 = .ok (.if_icmp .ge 41, 3) := by decide +kernel
theorem dX9_laysPairs_16 : decode cX9_laysPairs 16 = .ok (.aload_n 0, 1) := by decide +kernel
theorem dX9_laysPairs_17 : decode cX9_laysPairs 17 = .ok (.getfield 44, 3) := by decide +kernel
theorem dX9_laysPairs_20 : decode cX9_laysPairs 20 = .ok (.iload_n 3, 1) := by decide +kernel
theorem dX9_laysPairs_21 : decode cX9_laysPairs 21 = .ok (.iload_n 3, 1) := by decide +kernel
theorem dX9_laysPairs_22 : decode cX9_laysPairs 22 = .ok (.iconst 4, 1) := by decide +kernel
theorem dX9_laysPairs_23 : decode cX9_laysPairs 23 = .ok (.idiv, 1) := by decide +kernel
theorem dX9_laysPairs_24 : decode cX9_laysPairs 24 = .ok (.iload_n 1, 1) := by decide +kernel
theorem dX9_laysPairs_25 : decode cX9_laysPairs 25 = .ok (.if_icmp .eq 21, 3) := by decide +kernel
theorem dX9_laysPairs_28 : decode cX9_laysPairs 28 = .ok (.aload_n 0, 1) := by decide +kernel
theorem dX9_laysPairs_29 : decode cX9_laysPairs 29 = .ok (.iload_n 3, 1) := by decide +kernel
theorem dX9_laysPairs_30 : decode cX9_laysPairs 30 = .ok (.iconst 4, 1) := by decide +kernel
theorem dX9_laysPairs_31 : decode cX9_laysPairs 31 = .ok (.idiv, 1) := by decide +kernel
theorem dX9_laysPairs_32 : decode cX9_laysPairs 32 = .ok (.iload_n 3, 1) := by decide +kernel
theorem dX9_laysPairs_33 : decode cX9_laysPairs 33 = .ok (.iconst 4, 1) := by decide +kernel
theorem dX9_laysPairs_34 : decode cX9_laysPairs 34 = .ok (.irem, 1) := by decide +kernel
theorem dX9_laysPairs_35 : decode cX9_laysPairs 35 = .ok (.iload_n 1, 1) := by decide +kernel
theorem dX9_laysPairs_36 : decode cX9_laysPairs 36 = .ok (.invokevirtual 121, 3) := by decide +kernel
theorem dX9_laysPairs_39 : decode cX9_laysPairs 39 = .ok (.ifCond .ne 7, 3) := by decide +kernel
theorem dX9_laysPairs_42 : decode cX9_laysPairs 42 = .ok (.iconst 1, 1) := by decide +kernel
theorem dX9_laysPairs_43 : decode cX9_laysPairs 43 = .ok (.goto 4, 3) := by decide +kernel
theorem dX9_laysPairs_46 : decode cX9_laysPairs 46 = .ok (.iconst 0, 1) := by decide +kernel
theorem dX9_laysPairs_47 : decode cX9_laysPairs 47 = .ok (.bastore, 1) := by decide +kernel
theorem dX9_laysPairs_48 : decode cX9_laysPairs 48 = .ok (.iinc 3 1, 3) := by decide +kernel
theorem dX9_laysPairs_51 : decode cX9_laysPairs 51 = .ok (.goto (-42), 3) := by decide +kernel
theorem dX9_laysPairs_54 : decode cX9_laysPairs 54 = .ok (.iconst 0, 1) := by decide +kernel
theorem dX9_laysPairs_55 : decode cX9_laysPairs 55 = .ok (.istore_n 3, 1) := by decide +kernel
theorem dX9_laysPairs_56 : decode cX9_laysPairs 56 = .ok (.iload_n 3, 1) := by decide +kernel
theorem dX9_laysPairs_57 : decode cX9_laysPairs 57 = .ok (.iload_n 2, 1) := by decide +kernel
theorem dX9_laysPairs_58 : decode cX9_laysPairs 58 = .ok (.iconst 4, 1) := by decide +kernel
theorem dX9_laysPairs_59 : decode cX9_laysPairs 59 = .ok (.imul, 1) := by decide +kernel
theorem dX9_laysPairs_60 : decode cX9_laysPairs 60 = .ok (.if_icmp .ge 122, 3) := by decide +kernel
theorem dX9_laysPairs_63 : decode cX9_laysPairs 63 = .ok (.iconst 0, 1) := by decide +kernel
theorem dX9_laysPairs_64 : decode cX9_laysPairs 64 = .ok (.istore 4, 2) := by decide +kernel
theorem dX9_laysPairs_66 : decode cX9_laysPairs 66 = .ok (.iload 4, 2) := by decide +kernel
theorem dX9_laysPairs_68 : decode cX9_laysPairs 68 = .ok (.iload_n 2, 1) := by decide +kernel
theorem dX9_laysPairs_69 : decode cX9_laysPairs 69 = .ok (.iconst 4, 1) := by decide +kernel
theorem dX9_laysPairs_70 : decode cX9_laysPairs 70 = .ok (.imul, 1) := by decide +kernel
theorem dX9_laysPairs_71 : decode cX9_laysPairs 71 = .ok (.if_icmp .ge 105, 3) := by decide +kernel
theorem dX9_laysPairs_74 : decode cX9_laysPairs 74 = .ok (.aload_n 0, 1) := by decide +kernel
theorem dX9_laysPairs_75 : decode cX9_laysPairs 75 = .ok (.getfield 44, 3) := by decide +kernel
theorem dX9_laysPairs_78 : decode cX9_laysPairs 78 = .ok (.iload_n 3, 1) := by decide +kernel
theorem dX9_laysPairs_79 : decode cX9_laysPairs 79 = .ok (.baload, 1) := by decide +kernel
theorem dX9_laysPairs_80 : decode cX9_laysPairs 80 = .ok (.ifCond .eq 27, 3) := by decide +kernel
theorem dX9_laysPairs_83 : decode cX9_laysPairs 83 = .ok (.aload_n 0, 1) := by decide +kernel
theorem dX9_laysPairs_84 : decode cX9_laysPairs 84 = .ok (.getfield 44, 3) := by decide +kernel
theorem dX9_laysPairs_87 : decode cX9_laysPairs 87 = .ok (.iload 4, 2) := by decide +kernel
theorem dX9_laysPairs_89 : decode cX9_laysPairs 89 = .ok (.baload, 1) := by decide +kernel
theorem dX9_laysPairs_90 : decode cX9_laysPairs 90 = .ok (.ifCond .eq 17, 3) := by decide +kernel
theorem dX9_laysPairs_93 : decode cX9_laysPairs 93 = .ok (.iload_n 3, 1) := by decide +kernel
theorem dX9_laysPairs_94 : decode cX9_laysPairs 94 = .ok (.iconst 4, 1) := by decide +kernel
theorem dX9_laysPairs_95 : decode cX9_laysPairs 95 = .ok (.idiv, 1) := by decide +kernel
theorem dX9_laysPairs_96 : decode cX9_laysPairs 96 = .ok (.iload 4, 2) := by decide +kernel
theorem dX9_laysPairs_98 : decode cX9_laysPairs 98 = .ok (.iconst 4, 1) := by decide +kernel
theorem dX9_laysPairs_99 : decode cX9_laysPairs 99 = .ok (.idiv, 1) := by decide +kernel
theorem dX9_laysPairs_100 : decode cX9_laysPairs 100 = .ok (.if_icmp .eq 7, 3) := by decide +kernel
theorem dX9_laysPairs_103 : decode cX9_laysPairs 103 = .ok (.iconst 1, 1) := by decide +kernel
theorem dX9_laysPairs_104 : decode cX9_laysPairs 104 = .ok (.goto 4, 3) := by decide +kernel
theorem dX9_laysPairs_107 : decode cX9_laysPairs 107 = .ok (.iconst 0, 1) := by decide +kernel
theorem dX9_laysPairs_108 : decode cX9_laysPairs 108 = .ok (.istore 5, 2) := by decide +kernel
theorem dX9_laysPairs_110 : decode cX9_laysPairs 110 = .ok (.aload_n 0, 1) := by decide +kernel
