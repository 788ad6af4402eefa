theorem dX9_size_95 : decode cX9_size 95 = .ok (.invokevirtual 359, 3) := by decide +kernel
theorem dX9_size_98 : decode cX9_size 98 = .ok (.ireturn, 1) := by decide +kernel
theorem dX9_size_99 : decode cX9_size 99 = .ok (.aload_n 0, 1) := by decide +kernel
theorem dX9_size_100 : decode cX9_size 100 = .ok (.getfield 7, 3) := by decide +kernel
theorem dX9_size_103 : decode cX9_size 103 = .ok (.iconst 2, 1) := by decide +kernel
theorem dX9_size_104 : decode cX9_size 104 = .ok (.iaload, 1) := by decide +kernel
theorem dX9_size_105 : decode cX9_size 105 = .ok (.ireturn, 1) := by decide +kernel
theorem dX9_size_106 : decode cX9_size 106 = .ok (.aload_n 0, 1) := by decide +kernel
theorem dX9_size_107 : decode cX9_size 107 = .ok (.getfield 7, 3) := by decide +kernel
theorem dX9_size_110 : decode cX9_size 110 = .ok (.iconst 3, 1) := by decide +kernel
theorem dX9_size_111 : decode cX9_size 111 = .ok (.iaload, 1) := by decide +kernel
theorem dX9_size_112 : decode cX9_size 112 = .ok (.ireturn, 1) := by decide +kernel
theorem dX9_size_113 : decode cX9_size 113 = .ok (.aload_n 0, 1) := by decide +kernel
theorem dX9_size_114 : decode cX9_size 114 = .ok (.iconst 0, 1) := by decide +kernel
theorem dX9_size_115 : decode cX9_size 115 = .ok (.invokevirtual 362, 3) := by decide +kernel
theorem dX9_size_118 : decode cX9_size 118 = .ok (.ireturn, 1) := by decide +kernel
theorem dX9_size_119 : decode cX9_size 119 = .ok (.aload_n 0, 1) := by decide +kernel
theorem dX9_size_120 : decode cX9_size 120 = .ok (.iconst 1, 1) := by decide +kernel
theorem dX9_size_121 : decode cX9_size 121 = .ok (.invokevirtual 362, 3) := by decide +kernel
theorem dX9_size_124 : decode cX9_size 124 = .ok (.ireturn, 1) := by decide +kernel
theorem dX9_size_125 : decode cX9_size 125 = .ok (.aload_n 0, 1) := by decide +kernel
theorem dX9_size_126 : decode cX9_size 126 = .ok (.getfield 7, 3) := by decide +kernel
theorem dX9_size_129 : decode cX9_size 129 = .ok (.iconst 4, 1) := by decide +kernel
theorem dX9_size_130 : decode cX9_size 130 = .ok (.iaload, 1) := by decide +kernel
theorem dX9_size_131 : decode cX9_size 131 = .ok (.ireturn, 1) := by decide +kernel
theorem dX9_size_132 : decode cX9_size 132 = .ok (.aload_n 0, 1) := by decide +kernel
theorem dX9_size_133 : decode cX9_size 133 = .ok (.getfield 7, 3) := by decide +kernel
theorem dX9_size_136 : decode cX9_size 136 = .ok (.iconst 5, 1) := by decide +kernel
theorem dX9_size_137 : decode cX9_size 137 = .ok (.iaload, 1) := by decide +kernel
theorem dX9_size_138 : decode cX9_size 138 = .ok (.ireturn, 1) := by decide +kernel
theorem dX9_size_139 : decode cX9_size 139 = .ok (.aload_n 0, 1) := by decide +kernel
theorem dX9_size_140 : decode cX9_size 140 = .ok (.getfield 7, 3) := by decide +kernel
theorem dX9_size_143 : decode cX9_size 143 = .ok (.bipush 6, 2) := by decide +kernel
theorem dX9_size_145 : decode cX9_size 145 = .ok (.iaload, 1) := by decide +kernel
theorem dX9_size_146 : decode cX9_size 146 = .ok (.ireturn, 1) := by decide +kernel
theorem dX9_size_147 : decode cX9_size 147 = .ok (.aload_n 0, 1) := by decide +kernel
theorem dX9_size_148 : decode cX9_size 148 = .ok (.getfield 7, 3) := by decide +kernel
theorem dX9_size_151 : decode cX9_size 151 = .ok (.bipush 7, 2) := by decide +kernel
theorem dX9_size_153 : decode cX9_size 153 = .ok (.iaload, 1) := by decide +kernel
theorem dX9_size_154 : decode cX9_size 154 = .ok (.ireturn, 1) := by decide +kernel
theorem dX9_size_155 : decode cX9_size 155 = .ok (.aload_n 0, 1) := by decide +kernel
theorem dX9_size_156 : decode cX9_size 156 = .ok (.getfield 67, 3) := by decide +kernel
theorem dX9_size_159 : decode cX9_size 159 = .ok (.ireturn, 1) := by decide +kernel
theorem dX9_cell_0 : decode cX9_cell 0 = .ok (.aload_n 0, 1) := by decide +kernel
theorem dX9_cell_1 : decode cX9_cell 1 = .ok (.aload_n 0, 1) := by decide +kernel
theorem dX9_cell_2 : decode cX9_cell 2 = .ok (.iload_n 1, 1) := by decide +kernel
theorem dX9_cell_3 : decode cX9_cell 3 = .ok (.invokevirtual 366, 3) := by decide +kernel
theorem dX9_cell_6 : decode cX9_cell 6 = .ok (.iload_n 2, 1) := by decide +kernel
theorem dX9_cell_7 : decode cX9_cell 7 = .ok (.i2l, 1) := by decide +kernel
theorem dX9_cell_8 : decode cX9_cell 8 = .ok (.lconst 0, 1) := by decide +kernel
theorem dX9_cell_9 : decode cX9_cell 9 = .ok (.ldc2_w 369, 3) := by decide +kernel
theorem dX9_cell_12 : decode cX9_cell 12 = .ok (.invokestatic 78, 3) := by decide +kernel
theorem dX9_cell_15 : decode cX9_cell 15 = .ok (.invokevirtual 355, 3) := by decide +kernel
theorem dX9_cell_18 : decode cX9_cell 18 = .ok (.ifCond .ne 5, 3) := by decide +kernel
theorem dX9_cell_21 : decode cX9_cell 21 = .ok (.iconst 0, 1) := by decide +kernel
theorem dX9_cell_22 : decode cX9_cell 22 = .ok (.ireturn, 1) := by decide +kernel
theorem dX9_cell_23 : decode cX9_cell 23 = .ok (.iload_n 2, 1) := by decide +kernel
theorem dX9_cell_24 : decode cX9_cell 24 = .ok (.tableswitch 83 0 4 #[36, 58, 65, 71, 77], 36) := by decide +kernel
theorem dX9_cell_60 : decode cX9_cell 60 = .ok (.aload_n 0, 1) := by decide +kernel
theorem dX9_cell_61 : decode cX9_cell 61 = .ok (.iload_n 1, 1) := by decide +kernel
theorem dX9_cell_62 : decode cX9_cell 62 = .ok (.invokevirtual 115, 3) := by decide +kernel
theorem dX9_cell_65 : decode cX9_cell 65 = .ok (.ifCond .eq 7, 3) := by decide +kernel
theorem dX9_cell_68 : decode cX9_cell 68 = .ok (.iconst 2, 1) := by decide +kernel
theorem dX9_cell_69 : decode cX9_cell 69 = .ok (.goto 12, 3) := by decide +kernel
theorem dX9_cell_72 : decode cX9_cell 72 = .ok (.aload_n 0, 1) := by decide +kernel
theorem dX9_cell_73 : decode cX9_cell 73 = .ok (.getfield 7, 3) := by decide +kernel
theorem dX9_cell_76 : decode cX9_cell 76 = .ok (.bipush 8, 2) := by decide +kernel
theorem dX9_cell_78 : decode cX9_cell 78 = .ok (.iload_n 1, 1) := by decide +kernel
theorem dX9_cell_79 : decode cX9_cell 79 = .ok (.iadd, 1) := by decide +kernel
theorem dX9_cell_80 : decode cX9_cell 80 = .ok (.iaload, 1) := by decide +kernel
theorem dX9_cell_81 : decode cX9_cell 81 = .ok (.ireturn, 1) := by decide +kernel
theorem dX9_cell_82 : decode cX9_cell 82 = .ok (.aload_n 0, 1) := by decide +kernel
theorem dX9_cell_83 : decode cX9_cell 83 = .ok (.iload_n 1, 1) := by decide +kernel
theorem dX9_cell_84 : decode cX9_cell 84 = .ok (.iconst (-1), 1) := by decide +kernel
theorem dX9_cell_85 : decode cX9_cell 85 = .ok (.invokevirtual 118, 3) := by decide +kernel
theorem dX9_cell_88 : decode cX9_cell 88 = .ok (.ireturn, 1) := by decide +kernel
theorem dX9_cell_89 : decode cX9_cell 89 = .ok (.aload_n 0, 1) := by decide +kernel
theorem dX9_cell_90 : decode cX9_cell 90 = .ok (.iload_n 1, 1) := by decide +kernel
theorem dX9_cell_91 : decode cX9_cell 91 = .ok (.invokevirtual 371, 3) := by decide +kernel
theorem dX9_cell_94 : decode cX9_cell 94 = .ok (.ireturn, 1) := by decide +kernel
theorem dX9_cell_95 : decode cX9_cell 95 = .ok (.aload_n 0, 1) := by decide +kernel
theorem dX9_cell_96 : decode cX9_cell 96 = .ok (.iload_n 1, 1) := by decide +kernel
theorem dX9_cell_97 : decode cX9_cell 97 = .ok (.invokevirtual 374, 3) := by decide +kernel
theorem dX9_cell_100 : decode cX9_cell 100 = .ok (.ireturn, 1) := by decide +kernel
theorem dX9_cell_101 : decode cX9_cell 101 = .ok (.aload_n 0, 1) := by decide +kernel
theorem dX9_cell_102 : decode cX9_cell 102 = .ok (.iload_n 1, 1) := by decide +kernel
theorem dX9_cell_103 : decode cX9_cell 103 = .ok (.invokevirtual 145, 3) := by decide +kernel
theorem dX9_cell_106 : decode cX9_cell 106 = .ok (.ireturn, 1) := by decide +kernel
theorem dX9_cell_107 : decode cX9_cell 107 = .ok (.aload_n 0, 1) := by decide +kernel
theorem dX9_cell_108 : decode cX9_cell 108 = .ok (.iload_n 1, 1) := by decide +kernel
theorem dX9_cell_109 : decode cX9_cell 109 = .ok (.invokevirtual 377, 3) := by decide +kernel
theorem dX9_cell_112 : decode cX9_cell 112 = .ok (.ireturn, 1) := by decide +kernel
theorem dX9_timesIn_0 : decode cX9_timesIn 0 = .ok (.iconst 0, 1) := by decide +kernel
theorem dX9_timesIn_1 : decode cX9_timesIn 1 = .ok (.istore_n 2, 1) := by decide +kernel
theorem dX9_timesIn_2 : decode cX9_timesIn 2 = .ok (.iconst 0, 1) := by decide +kernel
theorem dX9_timesIn_3 : decode cX9_timesIn 3 = .ok (.istore_n 3, 1) := by decide +kernel
theorem dX9_timesIn_4 : decode cX9_timesIn 4 = .ok (.iload_n 3, 1) := by decide +kernel
theorem dX9_timesIn_5 : decode cX9_timesIn 5 = .ok (.aload_n 0, 1) := by decide +kernel
theorem dX9_timesIn_6 : decode cX9_timesIn 6 = .ok (.getfield 7, 3) := by decide +kernel
theorem dX9_timesIn_9 : decode cX9_timesIn 9 = .ok (.iconst 4, 1) := by decide +kernel
theorem dX9_timesIn_10 : decode cX9_timesIn 10 = .ok (.iaload, 1) := by decide +kernel
theorem dX9_timesIn_11 : decode cX9_timesIn 11 = .ok (.if_icmp .ge 31, 3) := by decide +kernel
theorem dX9_timesIn_14 : decode cX9_timesIn 14 = .ok (.iload_n 2, 1) := by decide +kernel
theorem dX9_timesIn_15 : decode cX9_timesIn 15 = .ok (.aload_n 0, 1) := by decide +kernel
theorem dX9_timesIn_16 : decode cX9_timesIn 16 = .ok (.getfield 7, 3) := by decide +kernel
theorem dX9_timesIn_19 : decode cX9_timesIn 19 = .ok (.sipush 536, 3) := by decide +kernel
theorem dX9_timesIn_22 : decode cX9_timesIn 22 = .ok (.iload_n 3, 1) := by decide +kernel
theorem dX9_timesIn_23 : decode cX9_timesIn 23 = .ok (.iadd, 1) := by decide +kernel
theorem dX9_timesIn_24 : decode cX9_timesIn 24 = .ok (.iaload, 1) := by decide +kernel
theorem dX9_timesIn_25 : decode cX9_timesIn 25 = .ok (.iload_n 1, 1) := by decide +kernel
theorem dX9_timesIn_26 : decode cX9_timesIn 26 = .ok (.if_icmp .ne 7, 3) := by decide +kernel
theorem dX9_timesIn_29 : decode cX9_timesIn 29 = .ok (.iconst 1, 1) := by decide +kernel
theorem dX9_timesIn_30 : decode cX9_timesIn 30 = .ok (.goto 4, 3) := by decide +kernel
theorem dX9_timesIn_33 : decode cX9_timesIn 33 = .ok (.iconst 0, 1) := by decide +kernel
theorem dX9_timesIn_34 : decode cX9_timesIn 34 = .ok (.iadd, 1) := by decide +kernel
theorem dX9_timesIn_35 : decode cX9_timesIn 35 = .ok (.istore_n 2, 1) := by decide +kernel
theorem dX9_timesIn_36 : decode cX9_timesIn 36 = .ok (.iinc 3 1, 3) := by decide +kernel
theorem dX9_timesIn_39 : decode cX9_timesIn 39 = .ok (.goto (-35), 3) := by decide +kernel
theorem dX9_timesIn_42 : decode cX9_timesIn 42 = .ok (.iload_n 2, 1) := by decide +kernel
theorem dX9_timesIn_43 : decode cX9_timesIn 43 = .ok (.ireturn, 1) := by decide +kernel
theorem dX9_harbour_0 : decode cX9_harbour 0 = .ok (.aload_n 0, 1) := by decide +kernel
theorem dX9_harbour_1 : decode cX9_harbour 1 = .ok (.aload_n 0, 1) := by decide +kernel
theorem dX9_harbour_2 : decode cX9_harbour 2 = .ok (.iload_n 1, 1) := by decide +kernel
theorem dX9_harbour_3 : decode cX9_harbour 3 = .ok (.invokevirtual 380, 3) := by decide +kernel
theorem dX9_harbour_6 : decode cX9_harbour 6 = .ok (.iload_n 2, 1) := by decide +kernel
theorem dX9_harbour_7 : decode cX9_harbour 7 = .ok (.i2l, 1) := by decide +kernel
theorem dX9_harbour_8 : decode cX9_harbour 8 = .ok (.lconst 0, 1) := by decide +kernel
theorem dX9_harbour_9 : decode cX9_harbour 9 = .ok (.ldc2_w 383, 3) := by decide +kernel
theorem dX9_harbour_12 : decode cX9_harbour 12 = .ok (.invokestatic 78, 3) := by decide +kernel
theorem dX9_harbour_15 : decode cX9_harbour 15 = .ok (.invokevirtual 355, 3) := by decide +kernel
theorem dX9_harbour_18 : decode cX9_harbour 18 = .ok (.ifCond .ne 5, 3) := by decide +kernel
theorem dX9_harbour_21 : decode cX9_harbour 21 = .ok (.iconst 0, 1) := by decide +kernel
theorem dX9_harbour_22 : decode cX9_harbour 22 = .ok (.ireturn, 1) := by decide +kernel
theorem dX9_harbour_23 : decode cX9_harbour 23 = .ok (.iload_n 2, 1) := by decide +kernel
theorem dX9_harbour_24 : decode cX9_harbour 24 = .ok (.iconst 4, 1) := by decide +kernel
theorem dX9_harbour_25 : decode cX9_harbour 25 = .ok (.if_icmp .ne 11, 3) := by decide +kernel
theorem dX9_harbour_28 : decode cX9_harbour 28 = .ok (.aload_n 0, 1) := by decide +kernel
theorem dX9_harbour_29 : decode cX9_harbour 29 = .ok (.iload_n 1, 1) := by decide +kernel
theorem dX9_harbour_30 : decode cX9_harbour 30 = .ok (.invokevirtual 385, 3) := by decide +kernel
theorem dX9_harbour_33 : decode cX9_harbour 33 = .ok (.goto 9, 3) := by decide +kernel
theorem dX9_harbour_36 : decode cX9_harbour 36 = .ok (.aload_n 0, 1) := by decide +kernel
theorem dX9_harbour_37 : decode cX9_harbour 37 = .ok (.iload_n 1, 1) := by decide +kernel
theorem dX9_harbour_38 : decode cX9_harbour 38 = .ok (.iload_n 2, 1) := by decide +kernel
theorem dX9_harbour_39 : decode cX9_harbour 39 = .ok (.invokevirtual 100, 3) := by decide +kernel
theorem dX9_harbour_42 : decode cX9_harbour 42 = .ok (.ireturn, 1) := by decide +kernel
theorem dX9_mayHarbour_0 : decode cX9_mayHarbour 0 = .ok (.aload_n 0, 1) := by decide +kernel
theorem dX9_mayHarbour_1 : decode cX9_mayHarbour 1 = .ok (.aload_n 0, 1) := by decide +kernel
theorem dX9_mayHarbour_2 : decode cX9_mayHarbour 2 = .ok (.iload_n 1, 1) := by decide +kernel
theorem dX9_mayHarbour_3 : decode cX9_mayHarbour 3 = .ok (.invokevirtual 380, 3) := by decide +kernel
theorem dX9_mayHarbour_6 : decode cX9_mayHarbour 6 = .ok (.iconst 1, 1) := by decide +kernel
theorem dX9_mayHarbour_7 : decode cX9_mayHarbour 7 = .ok (.invokevirtual 355, 3) := by decide +kernel
theorem dX9_mayHarbour_10 : decode cX9_mayHarbour 10 = .ok (.ireturn, 1) := by decide +kernel
theorem dX9_letter_0 : decode cX9_letter 0 = .ok (.aload_n 0, 1) := by decide +kernel
theorem dX9_letter_1 : decode cX9_letter 1 = .ok (.iload_n 1, 1) := by decide +kernel
theorem dX9_letter_2 : decode cX9_letter 2 = .ok (.invokevirtual 388, 3) := by decide +kernel
theorem dX9_letter_5 : decode cX9_letter 5 = .ok (.ifCond .ne 5, 3) := by decide +kernel
theorem dX9_letter_8 : decode cX9_letter 8 = .ok (.iconst 0, 1) := by decide +kernel
theorem dX9_letter_9 : decode cX9_letter 9 = .ok (.ireturn, 1) := by decide +kernel
theorem dX9_letter_10 : decode cX9_letter 10 = .ok (.iload_n 2, 1) := by decide +kernel
theorem dX9_letter_11 : decode cX9_letter 11 = .ok (.i2l, 1) := by decide +kernel
theorem dX9_letter_12 : decode cX9_letter 12 = .ok (.lconst 0, 1) := by decide +kernel
theorem dX9_letter_13 : decode cX9_letter 13 = .ok (.aload_n 0, 1) := by decide +kernel
theorem dX9_letter_14 : decode cX9_letter 14 = .ok (.iload_n 1, 1) := by decide +kernel
theorem dX9_letter_15 : decode cX9_letter 15 = .ok (.iconst 3, 1) := by decide +kernel
theorem dX9_letter_16 : decode cX9_letter 16 = .ok (.invokevirtual 100, 3) := by decide +kernel
theorem dX9_letter_19 : decode cX9_letter 19 = .ok (.iconst 1, 1) := by decide +kernel
theorem dX9_letter_20 : decode cX9_letter 20 = .ok (.isub, 1) := by decide +kernel
theorem dX9_letter_21 : decode cX9_letter 21 = .ok (.i2l, 1) := by decide +kernel
theorem dX9_letter_22 : decode cX9_letter 22 = .ok (.invokestatic 78, 3) := by decide +kernel
theorem dX9_letter_25 : decode cX9_letter 25 = .ok (.ifCond .eq 14, 3) := by decide +kernel
theorem dX9_letter_28 : decode cX9_letter 28 = .ok (.aload_n 0, 1) := by decide +kernel
theorem dX9_letter_29 : decode cX9_letter 29 = .ok (.iload_n 1, 1) := by decide +kernel
theorem dX9_letter_30 : decode cX9_letter 30 = .ok (.iconst 4, 1) := by decide +kernel
theorem dX9_letter_31 : decode cX9_letter 31 = .ok (.iload_n 2, 1) := by decide +kernel
theorem dX9_letter_32 : decode cX9_letter 32 = .ok (.iadd, 1) := by decide +kernel
theorem dX9_letter_33 : decode cX9_letter 33 = .ok (.invokevirtual 100, 3) := by decide +kernel
theorem dX9_letter_36 : decode cX9_letter 36 = .ok (.goto 4, 3) := by decide +kernel
theorem dX9_letter_39 : decode cX9_letter 39 = .ok (.iconst (-1), 1) := by decide +kernel
theorem dX9_letter_40 : decode cX9_letter 40 = .ok (.ireturn, 1) := by decide +kernel
theorem dX9_mayRiver_0 : decode cX9_mayRiver 0 = .ok (.aload_n 0, 1) := by decide +kernel
theorem dX9_mayRiver_1 : decode cX9_mayRiver 1 = .ok (.iload_n 1, 1) := by decide +kernel
theorem dX9_mayRiver_2 : decode cX9_mayRiver 2 = .ok (.i2l, 1) := by decide +kernel
theorem dX9_mayRiver_3 : decode cX9_mayRiver 3 = .ok (.lconst 0, 1) := by decide +kernel
theorem dX9_mayRiver_4 : decode cX9_mayRiver 4 = .ok (.aload_n 0, 1) := by decide +kernel
theorem dX9_mayRiver_5 : decode cX9_mayRiver 5 = .ok (.getfield 7, 3) := by decide +kernel
theorem dX9_mayRiver_8 : decode cX9_mayRiver 8 = .ok (.iconst 3, 1) := by decide +kernel
theorem dX9_mayRiver_9 : decode cX9_mayRiver 9 = .ok (.iaload, 1) := by decide +kernel
theorem dX9_mayRiver_10 : decode cX9_mayRiver 10 = .ok (.iconst 1, 1) := by decide +kernel
theorem dX9_mayRiver_11 : decode cX9_mayRiver 11 = .ok (.isub, 1) := by decide +kernel
theorem dX9_mayRiver_12 : decode cX9_mayRiver 12 = .ok (.i2l, 1) := by decide +kernel
theorem dX9_mayRiver_13 : decode cX9_mayRiver 13 = .ok (.invokestatic 78, 3) := by decide +kernel
theorem dX9_mayRiver_16 : decode cX9_mayRiver 16 = .ok (.iconst 1, 1) := by decide +kernel
theorem dX9_mayRiver_17 : decode cX9_mayRiver 17 = .ok (.invokevirtual 355, 3) := by decide +kernel
theorem dX9_mayRiver_20 : decode cX9_mayRiver 20 = .ok (.ireturn, 1) := by decide +kernel
theorem dX9_river_0 : decode cX9_river 0 = .ok (.aload_n 0, 1) := by decide +kernel
theorem dX9_river_1 : decode cX9_river 1 = .ok (.iload_n 1, 1) := by decide +kernel
theorem dX9_river_2 : decode cX9_river 2 = .ok (.invokevirtual 391, 3) := by decide +kernel
theorem dX9_river_5 : decode cX9_river 5 = .ok (.ifCond .ne 5, 3) := by decide +kernel
theorem dX9_river_8 : decode cX9_river 8 = .ok (.iconst 0, 1) := by decide +kernel
theorem dX9_river_9 : decode cX9_river 9 = .ok (.ireturn, 1) := by decide +kernel
theorem dX9_river_10 : decode cX9_river 10 = .ok (.iconst 0, 1) := by decide +kernel
theorem dX9_river_11 : decode cX9_river 11 = .ok (.istore_n 3, 1) := by decide +kernel
theorem dX9_river_12 : decode cX9_river 12 = .ok (.iload_n 3, 1) := by decide +kernel
theorem dX9_river_13 : decode cX9_river 13 = .ok (.aload_n 0, 1) := by decide +kernel
theorem dX9_river_14 : decode cX9_river 14 = .ok (.invokevirtual 74, 3) := by decide +kernel
theorem dX9_river_17 : decode cX9_river 17 = .ok (.if_icmp .ge 34, 3) := by decide +kernel
theorem dX9_river_20 : decode cX9_river 20 = .ok (.aload_n 0, 1) := by decide +kernel
theorem dX9_river_21 : decode cX9_river 21 = .ok (.iload_n 3, 1) := by decide +kernel
theorem dX9_river_22 : decode cX9_river 22 = .ok (.invokevirtual 371, 3) := by decide +kernel
theorem dX9_river_25 : decode cX9_river 25 = .ok (.iload_n 1, 1) := by decide +kernel
theorem dX9_river_26 : decode cX9_river 26 = .ok (.if_icmp .ne 19, 3) := by decide +kernel
theorem dX9_river_29 : decode cX9_river 29 = .ok (.aload_n 0, 1) := by decide +kernel
theorem dX9_river_30 : decode cX9_river 30 = .ok (.getfield 7, 3) := by decide +kernel
theorem dX9_river_33 : decode cX9_river 33 = .ok (.sipush 296, 3) := by decide +kernel
theorem dX9_river_36 : decode cX9_river 36 = .ok (.iload_n 3, 1) := by decide +kernel
theorem dX9_river_37 : decode cX9_river 37 = .ok (.iadd, 1) := by decide +kernel
theorem dX9_river_38 : decode cX9_river 38 = .ok (.iaload, 1) := by decide +kernel
theorem dX9_river_39 : decode cX9_river 39 = .ok (.iload_n 2, 1) := by decide +kernel
theorem dX9_river_40 : decode cX9_river 40 = .ok (.if_icmp .ne 5, 3) := by decide +kernel
theorem dX9_river_43 : decode cX9_river 43 = .ok (.iload_n 3, 1) := by decide +kernel
theorem dX9_river_44 : decode cX9_river 44 = .ok (.ireturn, 1) := by decide +kernel
theorem dX9_river_45 : decode cX9_river 45 = .ok (.iinc 3 1, 3) := by decide +kernel
theorem dX9_river_48 : decode cX9_river 48 = .ok (.goto (-36), 3) := by decide +kernel
theorem dX9_river_51 : decode cX9_river 51 = .ok (.iconst (-1), 1) := by decide +kernel
theorem dX9_river_52 : decode cX9_river 52 = .ok (.ireturn, 1) := by decide +kernel
theorem dX9_voyage_0 : decode cX9_voyage 0 = .ok (.aload_n 0, 1) := by decide +kernel
theorem dX9_voyage_1 : decode cX9_voyage 1 = .ok (.iconst 0, 1) := by decide +kernel
theorem dX9_voyage_2 : decode cX9_voyage 2 = .ok (.putfield 64, 3) := by decide +kernel
theorem dX9_voyage_5 : decode cX9_voyage 5 = .ok (.iload_n 1, 1) := by decide +kernel
theorem dX9_voyage_6 : decode cX9_voyage 6 = .ok (.i2l, 1) := by decide +kernel
theorem dX9_voyage_7 : decode cX9_voyage 7 = .ok (.lconst 0, 1) := by decide +kernel
theorem dX9_voyage_8 : decode cX9_voyage 8 = .ok (.aload_n 0, 1) := by decide +kernel
theorem dX9_voyage_9 : decode cX9_voyage 9 = .ok (.getfield 7, 3) := by decide +kernel
theorem dX9_voyage_12 : decode cX9_voyage 12 = .ok (.iconst 4, 1) := by decide +kernel
theorem dX9_voyage_13 : decode cX9_voyage 13 = .ok (.iaload, 1) := by decide +kernel
theorem dX9_voyage_14 : decode cX9_voyage 14 = .ok (.iconst 1, 1) := by decide +kernel
theorem dX9_voyage_15 : decode cX9_voyage 15 = .ok (.isub, 1) := by decide +kernel
theorem dX9_voyage_16 : decode cX9_voyage 16 = .ok (.i2l, 1) := by decide +kernel
theorem dX9_voyage_17 : decode cX9_voyage 17 = .ok (.invokestatic 78, 3) := by decide +kernel
theorem dX9_voyage_20 : decode cX9_voyage 20 = .ok (.ifCond .eq 16, 3) := by decide +kernel
theorem dX9_voyage_23 : decode cX9_voyage 23 = .ok (.aload_n 0, 1) := by decide +kernel
theorem dX9_voyage_24 : decode cX9_voyage 24 = .ok (.getfield 7, 3) := by decide +kernel
theorem dX9_voyage_27 : decode cX9_voyage 27 = .ok (.sipush 536, 3) := by decide +kernel
theorem dX9_voyage_30 : decode cX9_voyage 30 = .ok (.iload_n 1, 1) := by decide +kernel
theorem dX9_voyage_31 : decode cX9_voyage 31 = .ok (.iadd, 1) := by decide +kernel
theorem dX9_voyage_32 : decode cX9_voyage 32 = .ok (.iaload, 1) := by decide +kernel
theorem dX9_voyage_33 : decode cX9_voyage 33 = .ok (.goto 4, 3) := by decide +kernel
theorem dX9_voyage_36 : decode cX9_voyage 36 = .ok (.iconst (-1), 1) := by decide +kernel
theorem dX9_voyage_37 : decode cX9_voyage 37 = .ok (.ireturn, 1) := by decide +kernel
theorem dX9_isWay_0 : decode cX9_isWay 0 = .ok (.iload_n 0, 1) := by decide +kernel
theorem dX9_isWay_1 : decode cX9_isWay 1 = .ok (.i2l, 1) := by decide +kernel
theorem dX9_isWay_2 : decode cX9_isWay 2 = .ok (.lconst 0, 1) := by decide +kernel
theorem dX9_isWay_3 : decode cX9_isWay 3 = .ok (.ldc2_w 394, 3) := by decide +kernel
theorem dX9_isWay_6 : decode cX9_isWay 6 = .ok (.invokestatic 78, 3) := by decide +kernel
theorem dX9_isWay_9 : decode cX9_isWay 9 = .ok (.ireturn, 1) := by decide +kernel
theorem dX9_why_0 : decode cX9_why 0 = .ok (.aload_n 0, 1) := by decide +kernel
theorem dX9_why_1 : decode cX9_why 1 = .ok (.aload_n 0, 1) := by decide +kernel
theorem dX9_why_2 : decode cX9_why 2 = .ok (.iload_n 1, 1) := by decide +kernel
theorem dX9_why_3 : decode cX9_why 3 = .ok (.invokevirtual 380, 3) := by decide +kernel
theorem dX9_why_6 : decode cX9_why 6 = .ok (.iload_n 2, 1) := by decide +kernel
theorem dX9_why_7 : decode cX9_why 7 = .ok (.invokestatic 396, 3) := by decide +kernel
theorem dX9_why_10 : decode cX9_why 10 = .ok (.invokevirtual 355, 3) := by decide +kernel
theorem dX9_why_13 : decode cX9_why 13 = .ok (.ifCond .eq 12, 3) := by decide +kernel
theorem dX9_why_16 : decode cX9_why 16 = .ok (.aload_n 0, 1) := by decide +kernel
theorem dX9_why_17 : decode cX9_why 17 = .ok (.iload_n 1, 1) := by decide +kernel
theorem dX9_why_18 : decode cX9_why 18 = .ok (.iload_n 2, 1) := by decide +kernel
theorem dX9_why_19 : decode cX9_why 19 = .ok (.invokevirtual 344, 3) := by decide +kernel
theorem dX9_why_22 : decode cX9_why 22 = .ok (.goto 4, 3) := by decide +kernel
theorem dX9_why_25 : decode cX9_why 25 = .ok (.iconst 0, 1) := by decide +kernel
theorem dX9_why_26 : decode cX9_why 26 = .ok (.ireturn, 1) := by decide +kernel
theorem dX9_ways_0 : decode cX9_ways 0 = .ok (.aload_n 0, 1) := by decide +kernel
theorem dX9_ways_1 : decode cX9_ways 1 = .ok (.iload_n 1, 1) := by decide +kernel
theorem dX9_ways_2 : decode cX9_ways 2 = .ok (.invokevirtual 388, 3) := by decide +kernel
theorem dX9_ways_5 : decode cX9_ways 5 = .ok (.ifCond .ne 5, 3) := by decide +kernel
theorem dX9_ways_8 : decode cX9_ways 8 = .ok (.iconst 0, 1) := by decide +kernel
theorem dX9_ways_9 : decode cX9_ways 9 = .ok (.ireturn, 1) := by decide +kernel
theorem dX9_ways_10 : decode cX9_ways 10 = .ok (.iconst 0, 1) := by decide +kernel
theorem dX9_ways_11 : decode cX9_ways 11 = .ok (.istore_n 2, 1) := by decide +kernel
theorem dX9_ways_12 : decode cX9_ways 12 = .ok (.iconst 0, 1) := by decide +kernel
theorem dX9_ways_13 : decode cX9_ways 13 = .ok (.istore_n 3, 1) := by decide +kernel
theorem dX9_ways_14 : decode cX9_ways 14 = .ok (.iload_n 3, 1) := by decide +kernel
theorem dX9_ways_15 : decode cX9_ways 15 = .ok (.iconst 4, 1) := by decide +kernel
theorem dX9_ways_16 : decode cX9_ways 16 = .ok (.if_icmp .ge 28, 3) := by decide +kernel
theorem dX9_ways_19 : decode cX9_ways 19 = .ok (.iload_n 2, 1) := by decide +kernel
theorem dX9_ways_20 : decode cX9_ways 20 = .ok (.aload_n 0, 1) := by decide +kernel
theorem dX9_ways_21 : decode cX9_ways 21 = .ok (.iload_n 1, 1) := by decide +kernel
theorem dX9_ways_22 : decode cX9_ways 22 = .ok (.iload_n 3, 1) := by decide +kernel
theorem dX9_ways_23 : decode cX9_ways 23 = .ok (.invokevirtual 344, 3) := by decide +kernel
theorem dX9_ways_26 : decode cX9_ways 26 = .ok (.ifCond .ne 9, 3) := by decide +kernel
theorem dX9_ways_29 : decode cX9_ways 29 = .ok (.iconst 1, 1) := by decide +kernel
theorem dX9_ways_30 : decode cX9_ways 30 = .ok (.iload_n 3, 1) := by decide +kernel
theorem dX9_ways_31 : decode cX9_ways 31 = .ok (.ishl, 1) := by decide +kernel
theorem dX9_ways_32 : decode cX9_ways 32 = .ok (.goto 4, 3) := by decide +kernel
theorem dX9_ways_35 : decode cX9_ways 35 = .ok (.iconst 0, 1) := by decide +kernel
theorem dX9_ways_36 : decode cX9_ways 36 = .ok (.ior, 1) := by decide +kernel
theorem dX9_ways_37 : decode cX9_ways 37 = .ok (.istore_n 2, 1) := by decide +kernel
theorem dX9_ways_38 : decode cX9_ways 38 = .ok (.iinc 3 1, 3) := by decide +kernel
theorem dX9_ways_41 : decode cX9_ways 41 = .ok (.goto (-27), 3) := by decide +kernel
theorem dX9_ways_44 : decode cX9_ways 44 = .ok (.iload_n 2, 1) := by decide +kernel
theorem dX9_ways_45 : decode cX9_ways 45 = .ok (.ireturn, 1) := by decide +kernel
theorem dX9_room_0 : decode cX9_room 0 = .ok (.aload_n 0, 1) := by decide +kernel
theorem dX9_room_1 : decode cX9_room 1 = .ok (.aload_n 0, 1) := by decide +kernel
theorem dX9_room_2 : decode cX9_room 2 = .ok (.iload_n 1, 1) := by decide +kernel
theorem dX9_room_3 : decode cX9_room 3 = .ok (.invokevirtual 380, 3) := by decide +kernel
theorem dX9_room_6 : decode cX9_room 6 = .ok (.iload_n 2, 1) := by decide +kernel
theorem dX9_room_7 : decode cX9_room 7 = .ok (.invokestatic 396, 3) := by decide +kernel
theorem dX9_room_10 : decode cX9_room 10 = .ok (.invokevirtual 355, 3) := by decide +kernel
theorem dX9_room_13 : decode cX9_room 13 = .ok (.ifCond .ne 5, 3) := by decide +kernel
theorem dX9_room_16 : decode cX9_room 16 = .ok (.iconst 0, 1) := by decide +kernel
theorem dX9_room_17 : decode cX9_room 17 = .ok (.ireturn, 1) := by decide +kernel
theorem dX9_room_18 : decode cX9_room 18 = .ok (.iconst 0, 1) := by decide +kernel
theorem dX9_room_19 : decode cX9_room 19 = .ok (.istore_n 3, 1) := by decide +kernel
theorem dX9_room_20 : decode cX9_room 20 = .ok (.aload_n 0, 1) := by decide +kernel
theorem dX9_room_21 : decode cX9_room 21 = .ok (.aload_n 0, 1) := by decide +kernel
theorem dX9_room_22 : decode cX9_room 22 = .ok (.iload_n 1, 1) := by decide +kernel
theorem dX9_room_23 : decode cX9_room 23 = .ok (.iconst 0, 1) := by decide +kernel
theorem dX9_room_24 : decode cX9_room 24 = .ok (.invokevirtual 100, 3) := by decide +kernel
theorem dX9_room_27 : decode cX9_room 27 = .ok (.iload_n 2, 1) := by decide +kernel
theorem dX9_room_28 : decode cX9_room 28 = .ok (.iconst 1, 1) := by decide +kernel
theorem dX9_room_29 : decode cX9_room 29 = .ok (.invokevirtual 86, 3) := by decide +kernel
theorem dX9_room_32 : decode cX9_room 32 = .ok (.istore 4, 2) := by decide +kernel
theorem dX9_room_34 : decode cX9_room 34 = .ok (.aload_n 0, 1) := by decide +kernel
theorem dX9_room_35 : decode cX9_room 35 = .ok (.iload 4, 2) := by decide +kernel
theorem dX9_room_37 : decode cX9_room 37 = .ok (.invokevirtual 82, 3) := by decide +kernel
theorem dX9_room_40 : decode cX9_room 40 = .ok (.ifCond .eq 39, 3) := by decide +kernel
theorem dX9_room_43 : decode cX9_room 43 = .ok (.aload_n 0, 1) := by decide +kernel
theorem dX9_room_44 : decode cX9_room 44 = .ok (.iload 4, 2) := by decide +kernel
theorem dX9_room_46 : decode cX9_room 46 = .ok (.invokevirtual 115, 3) := by decide +kernel
theorem dX9_room_49 : decode cX9_room 49 = .ok (.ifCond .ne 30, 3) := by decide +kernel
theorem dX9_room_52 : decode cX9_room 52 = .ok (.aload_n 0, 1) := by decide +kernel
theorem dX9_room_53 : decode cX9_room 53 = .ok (.iload 4, 2) := by decide +kernel
theorem dX9_room_55 : decode cX9_room 55 = .ok (.iconst (-1), 1) := by decide +kernel
theorem dX9_room_56 : decode cX9_room 56 = .ok (.invokevirtual 118, 3) := by decide +kernel
theorem dX9_room_59 : decode cX9_room 59 = .ok (.iconst (-1), 1) := by decide +kernel
theorem dX9_room_60 : decode cX9_room 60 = .ok (.if_icmp .ne 19, 3) := by decide +kernel
theorem dX9_room_63 : decode cX9_room 63 = .ok (.iinc 3 1, 3) := by decide +kernel
theorem dX9_room_66 : decode cX9_room 66 = .ok (.aload_n 0, 1) := by decide +kernel
theorem dX9_room_67 : decode cX9_room 67 = .ok (.iload 4, 2) := by decide +kernel
theorem dX9_room_69 : decode cX9_room 69 = .ok (.iload_n 2, 1) := by decide +kernel
theorem dX9_room_70 : decode cX9_room 70 = .ok (.iconst 1, 1) := by decide +kernel
theorem dX9_room_71 : decode cX9_room 71 = .ok (.invokevirtual 86, 3) := by decide +kernel
theorem dX9_room_74 : decode cX9_room 74 = .ok (.istore 4, 2) := by decide +kernel
theorem dX9_room_76 : decode cX9_room 76 = .ok (.goto (-42), 3) := by decide +kernel
theorem dX9_room_79 : decode cX9_room 79 = .ok (.iload_n 3, 1) := by decide +kernel
theorem dX9_room_80 : decode cX9_room 80 = .ok (.ireturn, 1) := by decide +kernel
theorem dX9_crossings_0 : decode cX9_crossings 0 = .ok (.aload_n 0, 1) := by decide +kernel
theorem dX9_crossings_1 : decode cX9_crossings 1 = .ok (.iconst 0, 1) := by decide +kernel
theorem dX9_crossings_2 : decode cX9_crossings 2 = .ok (.putfield 64, 3) := by decide +kernel
theorem dX9_crossings_5 : decode cX9_crossings 5 = .ok (.iconst 0, 1) := by decide +kernel
theorem dX9_crossings_6 : decode cX9_crossings 6 = .ok (.istore_n 1, 1) := by decide +kernel
theorem dX9_crossings_7 : decode cX9_crossings 7 = .ok (.iconst 0, 1) := by decide +kernel
theorem dX9_crossings_8 : decode cX9_crossings 8 = .ok (.istore_n 2, 1) := by decide +kernel
theorem dX9_crossings_9 : decode cX9_crossings 9 = .ok (.iload_n 2, 1) := by decide +kernel
theorem dX9_crossings_10 : decode cX9_crossings 10 = .ok (.aload_n 0, 1) := by decide +kernel
theorem dX9_crossings_11 : decode cX9_crossings 11 = .ok (.getfield 7, 3) := by decide +kernel
theorem dX9_crossings_14 : decode cX9_crossings 14 = .ok (.iconst 2, 1) := by decide +kernel
theorem dX9_crossings_15 : decode cX9_crossings 15 = .ok (.iaload, 1) := by decide +kernel
theorem dX9_crossings_16 : decode cX9_crossings 16 = .ok (.if_icmp .ge 20, 3) := by decide +kernel
theorem dX9_crossings_19 : decode cX9_crossings 19 = .ok (.iload_n 1, 1) := by decide +kernel
theorem dX9_crossings_20 : decode cX9_crossings 20 = .ok (.aload_n 0, 1) := by decide +kernel
theorem dX9_crossings_21 : decode cX9_crossings 21 = .ok (.iload_n 2, 1) := by decide +kernel
theorem dX9_crossings_22 : decode cX9_crossings 22 = .ok (.invokevirtual 399, 3) := by decide +kernel
theorem dX9_crossings_25 : decode cX9_crossings 25 = .ok (.invokestatic 139, 3) := by decide +kernel
theorem dX9_crossings_28 : decode cX9_crossings 28 = .ok (.iadd, 1) := by decide +kernel
theorem dX9_crossings_29 : decode cX9_crossings 29 = .ok (.istore_n 1, 1) := by decide +kernel
theorem dX9_crossings_30 : decode cX9_crossings 30 = .ok (.iinc 2 1, 3) := by decide +kernel
theorem dX9_crossings_33 : decode cX9_crossings 33 = .ok (.goto (-24), 3) := by decide +kernel
theorem dX9_crossings_36 : decode cX9_crossings 36 = .ok (.iload_n 1, 1) := by decide +kernel
theorem dX9_crossings_37 : decode cX9_crossings 37 = .ok (.iconst 2, 1) := by decide +kernel
theorem dX9_crossings_38 : decode cX9_crossings 38 = .ok (.idiv, 1) := by decide +kernel
theorem dX9_crossings_39 : decode cX9_crossings 39 = .ok (.ireturn, 1) := by decide +kernel
theorem dX9_crossed_0 : decode cX9_crossed 0 = .ok (.aload_n 0, 1) := by decide +kernel
theorem dX9_crossed_1 : decode cX9_crossed 1 = .ok (.iload_n 1, 1) := by decide +kernel
theorem dX9_crossed_2 : decode cX9_crossed 2 = .ok (.invokevirtual 388, 3) := by decide +kernel
theorem dX9_crossed_5 : decode cX9_crossed 5 = .ok (.ifCond .eq 11, 3) := by decide +kernel
theorem dX9_crossed_8 : decode cX9_crossed 8 = .ok (.aload_n 0, 1) := by decide +kernel
theorem dX9_crossed_9 : decode cX9_crossed 9 = .ok (.iload_n 1, 1) := by decide +kernel
theorem dX9_crossed_10 : decode cX9_crossed 10 = .ok (.invokevirtual 399, 3) := by decide +kernel
theorem dX9_crossed_13 : decode cX9_crossed 13 = .ok (.goto 4, 3) := by decide +kernel
theorem dX9_crossed_16 : decode cX9_crossed 16 = .ok (.iconst 0, 1) := by decide +kernel
theorem dX9_crossed_17 : decode cX9_crossed 17 = .ok (.ireturn, 1) := by decide +kernel
theorem dX9_free_0 : decode cX9_free 0 = .ok (.aload_n 0, 1) := by decide +kernel
theorem dX9_free_1 : decode cX9_free 1 = .ok (.iconst 0, 1) := by decide +kernel
theorem dX9_free_2 : decode cX9_free 2 = .ok (.putfield 64, 3) := by decide +kernel
theorem dX9_free_5 : decode cX9_free 5 = .ok (.iconst 0, 1) := by decide +kernel
theorem dX9_free_6 : decode cX9_free 6 = .ok (.istore_n 1, 1) := by decide +kernel
theorem dX9_free_7 : decode cX9_free 7 = .ok (.iconst 0, 1) := by decide +kernel
theorem dX9_free_8 : decode cX9_free 8 = .ok (.istore_n 2, 1) := by decide +kernel
theorem dX9_free_9 : decode cX9_free 9 = .ok (.iload_n 2, 1) := by decide +kernel
theorem dX9_free_10 : decode cX9_free 10 = .ok (.aload_n 0, 1) := by decide +kernel
theorem dX9_free_11 : decode cX9_free 11 = .ok (.invokevirtual 74, 3) := by decide +kernel
theorem dX9_free_14 : decode cX9_free 14 = .ok (.if_icmp .ge 33, 3) := by decide +kernel
theorem dX9_free_17 : decode cX9_free 17 = .ok (.iload_n 1, 1) := by decide +kernel
theorem dX9_free_18 : decode cX9_free 18 = .ok (.aload_n 0, 1) := by decide +kernel
theorem dX9_free_19 : decode cX9_free 19 = .ok (.iload_n 2, 1) := by decide +kernel
theorem dX9_free_20 : decode cX9_free 20 = .ok (.invokevirtual 148, 3) := by decide +kernel
theorem dX9_free_23 : decode cX9_free 23 = .ok (.ifCond .eq 15, 3) := by decide +kernel
theorem dX9_free_26 : decode cX9_free 26 = .ok (.aload_n 0, 1) := by decide +kernel
theorem dX9_free_27 : decode cX9_free 27 = .ok (.iload_n 2, 1) := by decide +kernel
theorem dX9_free_28 : decode cX9_free 28 = .ok (.invokevirtual 145, 3) := by decide +kernel
theorem dX9_free_31 : decode cX9_free 31 = .ok (.ifCond .ne 7, 3) := by decide +kernel
theorem dX9_free_34 : decode cX9_free 34 = .ok (.iconst 1, 1) := by decide +kernel
theorem dX9_free_35 : decode cX9_free 35 = .ok (.goto 4, 3) := by decide +kernel
theorem dX9_free_38 : decode cX9_free 38 = .ok (.iconst 0, 1) := by decide +kernel
theorem dX9_free_39 : decode cX9_free 39 = .ok (.iadd, 1) := by decide +kernel
theorem dX9_free_40 : decode cX9_free 40 = .ok (.istore_n 1, 1) := by decide +kernel
theorem dX9_free_41 : decode cX9_free 41 = .ok (.iinc 2 1, 3) := by decide +kernel
theorem dX9_free_44 : decode cX9_free 44 = .ok (.goto (-35), 3) := by decide +kernel
theorem dX9_free_47 : decode cX9_free 47 = .ok (.iload_n 1, 1) := by decide +kernel
theorem dX9_free_48 : decode cX9_free 48 = .ok (.ireturn, 1) := by decide +kernel
theorem dX9_mayTurn_0 : decode cX9_mayTurn 0 = .ok (.aload_n 0, 1) := by decide +kernel
theorem dX9_mayTurn_1 : decode cX9_mayTurn 1 = .ok (.iload_n 1, 1) := by decide +kernel
theorem dX9_mayTurn_2 : decode cX9_mayTurn 2 = .ok (.i2l, 1) := by decide +kernel
theorem dX9_mayTurn_3 : decode cX9_mayTurn 3 = .ok (.lconst 0, 1) := by decide +kernel
theorem dX9_mayTurn_4 : decode cX9_mayTurn 4 = .ok (.ldc2_w 394, 3) := by decide +kernel
theorem dX9_mayTurn_7 : decode cX9_mayTurn 7 = .ok (.invokestatic 78, 3) := by decide +kernel
theorem dX9_mayTurn_10 : decode cX9_mayTurn 10 = .ok (.iconst 1, 1) := by decide +kernel
theorem dX9_mayTurn_11 : decode cX9_mayTurn 11 = .ok (.invokevirtual 355, 3) := by decide +kernel
theorem dX9_mayTurn_14 : decode cX9_mayTurn 14 = .ok (.ireturn, 1) := by decide +kernel
theorem dX9_upright_0 : decode cX9_upright 0 = .ok (.aload_n 0, 1) := by decide +kernel
theorem dX9_upright_1 : decode cX9_upright 1 = .ok (.iload_n 1, 1) := by decide +kernel
theorem dX9_upright_2 : decode cX9_upright 2 = .ok (.invokevirtual 402, 3) := by decide +kernel
theorem dX9_upright_5 : decode cX9_upright 5 = .ok (.ifCond .ne 5, 3) := by decide +kernel
theorem dX9_upright_8 : decode cX9_upright 8 = .ok (.iconst 0, 1) := by decide +kernel
theorem dX9_upright_9 : decode cX9_upright 9 = .ok (.ireturn, 1) := by decide +kernel
theorem dX9_upright_10 : decode cX9_upright 10 = .ok (.iconst 0, 1) := by decide +kernel
theorem dX9_upright_11 : decode cX9_upright 11 = .ok (.istore_n 2, 1) := by decide +kernel
theorem dX9_upright_12 : decode cX9_upright 12 = .ok (.iconst 0, 1) := by decide +kernel
theorem dX9_upright_13 : decode cX9_upright 13 = .ok (.istore_n 3, 1) := by decide +kernel
theorem dX9_upright_14 : decode cX9_upright 14 = .ok (.iload_n 3, 1) := by decide +kernel
theorem dX9_upright_15 : decode cX9_upright 15 = .ok (.aload_n 0, 1) := by decide +kernel
theorem dX9_upright_16 : decode cX9_upright 16 = .ok (.getfield 7, 3) := by decide +kernel
theorem dX9_upright_19 : decode cX9_upright 19 = .ok (.iconst 2, 1) := by decide +kernel
theorem dX9_upright_20 : decode cX9_upright 20 = .ok (.iaload, 1) := by decide +kernel
theorem dX9_upright_21 : decode cX9_upright 21 = .ok (.if_icmp .ge 40, 3) := by decide +kernel
theorem dX9_upright_24 : decode cX9_upright 24 = .ok (.iload_n 2, 1) := by decide +kernel
theorem dX9_upright_25 : decode cX9_upright 25 = .ok (.aload_n 0, 1) := by decide +kernel
theorem dX9_upright_26 : decode cX9_upright 26 = .ok (.iload_n 3, 1) := by decide +kernel
theorem dX9_upright_27 : decode cX9_upright 27 = .ok (.invokevirtual 103, 3) := by decide +kernel
theorem dX9_upright_30 : decode cX9_upright 30 = .ok (.ifCond .eq 22, 3) := by decide +kernel
theorem dX9_upright_33 : decode cX9_upright 33 = .ok (.aload_n 0, 1) := by decide +kernel
theorem dX9_upright_34 : decode cX9_upright 34 = .ok (.iload_n 3, 1) := by decide +kernel
theorem dX9_upright_35 : decode cX9_upright 35 = .ok (.iconst 2, 1) := by decide +kernel
theorem dX9_upright_36 : decode cX9_upright 36 = .ok (.invokevirtual 100, 3) := by decide +kernel
theorem dX9_upright_39 : decode cX9_upright 39 = .ok (.invokestatic 176, 3) := by decide +kernel
theorem dX9_upright_42 : decode cX9_upright 42 = .ok (.iload_n 1, 1) := by decide +kernel
theorem dX9_upright_43 : decode cX9_upright 43 = .ok (.if_icmp .ne 9, 3) := by decide +kernel
theorem dX9_upright_46 : decode cX9_upright 46 = .ok (.iconst 1, 1) := by decide +kernel
theorem dX9_upright_47 : decode cX9_upright 47 = .ok (.iload_n 3, 1) := by decide +kernel
theorem dX9_upright_48 : decode cX9_upright 48 = .ok (.ishl, 1) := by decide +kernel
