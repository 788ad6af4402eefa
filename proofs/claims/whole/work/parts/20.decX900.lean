theorem dX9_init_0 : decode cX9_init 0 = .ok (.aload_n 0, 1) := by decide +kernel
theorem dX9_init_1 : decode cX9_init 1 = .ok (.invokespecial 1, 3) := by decide +kernel
theorem dX9_init_4 : decode cX9_init 4 = .ok (.aload_n 0, 1) := by decide +kernel
theorem dX9_init_5 : decode cX9_init 5 = .ok (.sipush 552, 3) := by decide +kernel
theorem dX9_init_8 : decode cX9_init 8 = .ok (.newarray .int, 2) := by decide +kernel
theorem dX9_init_10 : decode cX9_init 10 = .ok (.putfield 7, 3) := by decide +kernel
theorem dX9_init_13 : decode cX9_init 13 = .ok (.aload_n 0, 1) := by decide +kernel
theorem dX9_init_14 : decode cX9_init 14 = .ok (.aload_n 0, 1) := by decide +kernel
theorem dX9_init_15 : decode cX9_init 15 = .ok (.getfield 7, 3) := by decide +kernel
theorem dX9_init_18 : decode cX9_init 18 = .ok (.putfield 13, 3) := by decide +kernel
theorem dX9_init_21 : decode cX9_init 21 = .ok (.aload_n 0, 1) := by decide +kernel
theorem dX9_init_22 : decode cX9_init 22 = .ok (.sipush 552, 3) := by decide +kernel
theorem dX9_init_25 : decode cX9_init 25 = .ok (.newarray .int, 2) := by decide +kernel
theorem dX9_init_27 : decode cX9_init 27 = .ok (.putfield 16, 3) := by decide +kernel
theorem dX9_init_30 : decode cX9_init 30 = .ok (.aload_n 0, 1) := by decide +kernel
theorem dX9_init_31 : decode cX9_init 31 = .ok (.sipush 4416, 3) := by decide +kernel
theorem dX9_init_34 : decode cX9_init 34 = .ok (.newarray .int, 2) := by decide +kernel
theorem dX9_init_36 : decode cX9_init 36 = .ok (.putfield 19, 3) := by decide +kernel
theorem dX9_init_39 : decode cX9_init 39 = .ok (.aload_n 0, 1) := by decide +kernel
theorem dX9_init_40 : decode cX9_init 40 = .ok (.sipush 1104, 3) := by decide +kernel
theorem dX9_init_43 : decode cX9_init 43 = .ok (.newarray .int, 2) := by decide +kernel
theorem dX9_init_45 : decode cX9_init 45 = .ok (.putfield 22, 3) := by decide +kernel
theorem dX9_init_48 : decode cX9_init 48 = .ok (.aload_n 0, 1) := by decide +kernel
theorem dX9_init_49 : decode cX9_init 49 = .ok (.iconst 2, 1) := by decide +kernel
theorem dX9_init_50 : decode cX9_init 50 = .ok (.newarray .boolean, 2) := by decide +kernel
theorem dX9_init_52 : decode cX9_init 52 = .ok (.putfield 25, 3) := by decide +kernel
theorem dX9_init_55 : decode cX9_init 55 = .ok (.aload_n 0, 1) := by decide +kernel
theorem dX9_init_56 : decode cX9_init 56 = .ok (.sipush 144, 3) := by decide +kernel
theorem dX9_init_59 : decode cX9_init 59 = .ok (.newarray .int, 2) := by decide +kernel
theorem dX9_init_61 : decode cX9_init 61 = .ok (.putfield 29, 3) := by decide +kernel
theorem dX9_init_64 : decode cX9_init 64 = .ok (.aload_n 0, 1) := by decide +kernel
theorem dX9_init_65 : decode cX9_init 65 = .ok (.sipush 144, 3) := by decide +kernel
theorem dX9_init_68 : decode cX9_init 68 = .ok (.newarray .int, 2) := by decide +kernel
theorem dX9_init_70 : decode cX9_init 70 = .ok (.putfield 32, 3) := by decide +kernel
theorem dX9_init_73 : decode cX9_init 73 = .ok (.aload_n 0, 1) := by decide +kernel
theorem dX9_init_74 : decode cX9_init 74 = .ok (.bipush 8, 2) := by decide +kernel
theorem dX9_init_76 : decode cX9_init 76 = .ok (.newarray .int, 2) := by decide +kernel
theorem dX9_init_78 : decode cX9_init 78 = .ok (.putfield 35, 3) := by decide +kernel
theorem dX9_init_81 : decode cX9_init 81 = .ok (.aload_n 0, 1) := by decide +kernel
theorem dX9_init_82 : decode cX9_init 82 = .ok (.bipush 8, 2) := by decide +kernel
theorem dX9_init_84 : decode cX9_init 84 = .ok (.newarray .int, 2) := by decide +kernel
theorem dX9_init_86 : decode cX9_init 86 = .ok (.putfield 38, 3) := by decide +kernel
theorem dX9_init_89 : decode cX9_init 89 = .ok (.aload_n 0, 1) := by decide +kernel
theorem dX9_init_90 : decode cX9_init 90 = .ok (.bipush 8, 2) := by decide +kernel
theorem dX9_init_92 : decode cX9_init 92 = .ok (.newarray .boolean, 2) := by decide +kernel
theorem dX9_init_94 : decode cX9_init 94 = .ok (.putfield 41, 3) := by decide +kernel
theorem dX9_init_97 : decode cX9_init 97 = .ok (.aload_n 0, 1) := by decide +kernel
theorem dX9_init_98 : decode cX9_init 98 = .ok (.bipush 32, 2) := by decide +kernel
theorem dX9_init_100 : decode cX9_init 100 = .ok (.newarray .boolean, 2) := by decide +kernel
theorem dX9_init_102 : decode cX9_init 102 = .ok (.putfield 44, 3) := by decide +kernel
theorem dX9_init_105 : decode cX9_init 105 = .ok (.aload_n 0, 1) := by decide +kernel
theorem dX9_init_106 : decode cX9_init 106 = .ok (.sipush 1024, 3) := by decide +kernel
theorem dX9_init_109 : decode cX9_init 109 = .ok (.newarray .boolean, 2) := by decide +kernel
theorem dX9_init_111 : decode cX9_init 111 = .ok (.putfield 47, 3) := by decide +kernel
theorem dX9_init_114 : decode cX9_init 114 = .ok (.aload_n 0, 1) := by decide +kernel
theorem dX9_init_115 : decode cX9_init 115 = .ok (.sipush 500, 3) := by decide +kernel
theorem dX9_init_118 : decode cX9_init 118 = .ok (.newarray .int, 2) := by decide +kernel
theorem dX9_init_120 : decode cX9_init 120 = .ok (.putfield 50, 3) := by decide +kernel
theorem dX9_init_123 : decode cX9_init 123 = .ok (.aload_n 0, 1) := by decide +kernel
theorem dX9_init_124 : decode cX9_init 124 = .ok (.iconst (-1), 1) := by decide +kernel
theorem dX9_init_125 : decode cX9_init 125 = .ok (.putfield 53, 3) := by decide +kernel
theorem dX9_init_128 : decode cX9_init 128 = .ok (.aload_n 0, 1) := by decide +kernel
theorem dX9_init_129 : decode cX9_init 129 = .ok (.bipush 12, 2) := by decide +kernel
theorem dX9_init_131 : decode cX9_init 131 = .ok (.newarray .int, 2) := by decide +kernel
theorem dX9_init_133 : decode cX9_init 133 = .ok (.putfield 57, 3) := by decide +kernel
theorem dX9_init_136 : decode cX9_init 136 = .ok (.aload_n 0, 1) := by decide +kernel
theorem dX9_init_137 : decode cX9_init 137 = .ok (.iconst 3, 1) := by decide +kernel
theorem dX9_init_138 : decode cX9_init 138 = .ok (.iconst 3, 1) := by decide +kernel
theorem dX9_init_139 : decode cX9_init 139 = .ok (.invokevirtual 60, 3) := by decide +kernel
theorem dX9_init_142 : decode cX9_init 142 = .ok (.return_, 1) := by decide +kernel
theorem dX9_thrown_0 : decode cX9_thrown 0 = .ok (.aload_n 0, 1) := by decide +kernel
theorem dX9_thrown_1 : decode cX9_thrown 1 = .ok (.getfield 64, 3) := by decide +kernel
theorem dX9_thrown_4 : decode cX9_thrown 4 = .ok (.ireturn, 1) := by decide +kernel
theorem dX9_begins_0 : decode cX9_begins 0 = .ok (.iconst 0, 1) := by decide +kernel
theorem dX9_begins_1 : decode cX9_begins 1 = .ok (.istore_n 3, 1) := by decide +kernel
theorem dX9_begins_2 : decode cX9_begins 2 = .ok (.iload_n 3, 1) := by decide +kernel
theorem dX9_begins_3 : decode cX9_begins 3 = .ok (.sipush 552, 3) := by decide +kernel
theorem dX9_begins_6 : decode cX9_begins 6 = .ok (.if_icmp .ge 16, 3) := by decide +kernel
theorem dX9_begins_9 : decode cX9_begins 9 = .ok (.aload_n 0, 1) := by decide +kernel
theorem dX9_begins_10 : decode cX9_begins 10 = .ok (.getfield 7, 3) := by decide +kernel
theorem dX9_begins_13 : decode cX9_begins 13 = .ok (.iload_n 3, 1) := by decide +kernel
theorem dX9_begins_14 : decode cX9_begins 14 = .ok (.iconst 0, 1) := by decide +kernel
theorem dX9_begins_15 : decode cX9_begins 15 = .ok (.iastore, 1) := by decide +kernel
theorem dX9_begins_16 : decode cX9_begins 16 = .ok (.iinc 3 1, 3) := by decide +kernel
theorem dX9_begins_19 : decode cX9_begins 19 = .ok (.goto (-17), 3) := by decide +kernel
theorem dX9_begins_22 : decode cX9_begins 22 = .ok (.aload_n 0, 1) := by decide +kernel
theorem dX9_begins_23 : decode cX9_begins 23 = .ok (.getfield 7, 3) := by decide +kernel
theorem dX9_begins_26 : decode cX9_begins 26 = .ok (.iconst 0, 1) := by decide +kernel
theorem dX9_begins_27 : decode cX9_begins 27 = .ok (.iload_n 1, 1) := by decide +kernel
theorem dX9_begins_28 : decode cX9_begins 28 = .ok (.iastore, 1) := by decide +kernel
theorem dX9_begins_29 : decode cX9_begins 29 = .ok (.aload_n 0, 1) := by decide +kernel
theorem dX9_begins_30 : decode cX9_begins 30 = .ok (.getfield 7, 3) := by decide +kernel
theorem dX9_begins_33 : decode cX9_begins 33 = .ok (.iconst 1, 1) := by decide +kernel
theorem dX9_begins_34 : decode cX9_begins 34 = .ok (.iload_n 2, 1) := by decide +kernel
theorem dX9_begins_35 : decode cX9_begins 35 = .ok (.iastore, 1) := by decide +kernel
theorem dX9_begins_36 : decode cX9_begins 36 = .ok (.return_, 1) := by decide +kernel
theorem dX9_isIn_0 : decode cX9_isIn 0 = .ok (.lload_n 0, 1) := by decide +kernel
theorem dX9_isIn_1 : decode cX9_isIn 1 = .ok (.lload_n 2, 1) := by decide +kernel
theorem dX9_isIn_2 : decode cX9_isIn 2 = .ok (.lcmp, 1) := by decide +kernel
theorem dX9_isIn_3 : decode cX9_isIn 3 = .ok (.ifCond .lt 14, 3) := by decide +kernel
theorem dX9_isIn_6 : decode cX9_isIn 6 = .ok (.lload_n 0, 1) := by decide +kernel
theorem dX9_isIn_7 : decode cX9_isIn 7 = .ok (.lload 4, 2) := by decide +kernel
theorem dX9_isIn_9 : decode cX9_isIn 9 = .ok (.lcmp, 1) := by decide +kernel
theorem dX9_isIn_10 : decode cX9_isIn 10 = .ok (.ifCond .gt 7, 3) := by decide +kernel
theorem dX9_isIn_13 : decode cX9_isIn 13 = .ok (.iconst 1, 1) := by decide +kernel
theorem dX9_isIn_14 : decode cX9_isIn 14 = .ok (.goto 4, 3) := by decide +kernel
theorem dX9_isIn_17 : decode cX9_isIn 17 = .ok (.iconst 0, 1) := by decide +kernel
theorem dX9_isIn_18 : decode cX9_isIn 18 = .ok (.ireturn, 1) := by decide +kernel
theorem dX9_passes_0 : decode cX9_passes 0 = .ok (.aload_n 0, 1) := by decide +kernel
theorem dX9_passes_1 : decode cX9_passes 1 = .ok (.iload_n 1, 1) := by decide +kernel
theorem dX9_passes_2 : decode cX9_passes 2 = .ok (.ifCond .ne 7, 3) := by decide +kernel
theorem dX9_passes_5 : decode cX9_passes 5 = .ok (.iconst 1, 1) := by decide +kernel
theorem dX9_passes_6 : decode cX9_passes 6 = .ok (.goto 12, 3) := by decide +kernel
theorem dX9_passes_9 : decode cX9_passes 9 = .ok (.iload_n 2, 1) := by decide +kernel
theorem dX9_passes_10 : decode cX9_passes 10 = .ok (.ifCond .ne 7, 3) := by decide +kernel
theorem dX9_passes_13 : decode cX9_passes 13 = .ok (.iconst 2, 1) := by decide +kernel
theorem dX9_passes_14 : decode cX9_passes 14 = .ok (.goto 4, 3) := by decide +kernel
theorem dX9_passes_17 : decode cX9_passes 17 = .ok (.iconst 0, 1) := by decide +kernel
theorem dX9_passes_18 : decode cX9_passes 18 = .ok (.putfield 64, 3) := by decide +kernel
theorem dX9_passes_21 : decode cX9_passes 21 = .ok (.aload_n 0, 1) := by decide +kernel
theorem dX9_passes_22 : decode cX9_passes 22 = .ok (.getfield 64, 3) := by decide +kernel
theorem dX9_passes_25 : decode cX9_passes 25 = .ok (.ifCond .ne 7, 3) := by decide +kernel
theorem dX9_passes_28 : decode cX9_passes 28 = .ok (.iconst 1, 1) := by decide +kernel
theorem dX9_passes_29 : decode cX9_passes 29 = .ok (.goto 4, 3) := by decide +kernel
theorem dX9_passes_32 : decode cX9_passes 32 = .ok (.iconst 0, 1) := by decide +kernel
theorem dX9_passes_33 : decode cX9_passes 33 = .ok (.ireturn, 1) := by decide +kernel
theorem dX9_copies_0 : decode cX9_copies 0 = .ok (.iconst 0, 1) := by decide +kernel
theorem dX9_copies_1 : decode cX9_copies 1 = .ok (.istore 4, 2) := by decide +kernel
theorem dX9_copies_3 : decode cX9_copies 3 = .ok (.iload 4, 2) := by decide +kernel
theorem dX9_copies_5 : decode cX9_copies 5 = .ok (.sipush 552, 3) := by decide +kernel
theorem dX9_copies_8 : decode cX9_copies 8 = .ok (.if_icmp .ge 21, 3) := by decide +kernel
theorem dX9_copies_11 : decode cX9_copies 11 = .ok (.aload_n 2, 1) := by decide +kernel
theorem dX9_copies_12 : decode cX9_copies 12 = .ok (.iload_n 3, 1) := by decide +kernel
theorem dX9_copies_13 : decode cX9_copies 13 = .ok (.iload 4, 2) := by decide +kernel
theorem dX9_copies_15 : decode cX9_copies 15 = .ok (.iadd, 1) := by decide +kernel
theorem dX9_copies_16 : decode cX9_copies 16 = .ok (.aload_n 0, 1) := by decide +kernel
theorem dX9_copies_17 : decode cX9_copies 17 = .ok (.iload_n 1, 1) := by decide +kernel
theorem dX9_copies_18 : decode cX9_copies 18 = .ok (.iload 4, 2) := by decide +kernel
theorem dX9_copies_20 : decode cX9_copies 20 = .ok (.iadd, 1) := by decide +kernel
theorem dX9_copies_21 : decode cX9_copies 21 = .ok (.iaload, 1) := by decide +kernel
theorem dX9_copies_22 : decode cX9_copies 22 = .ok (.iastore, 1) := by decide +kernel
theorem dX9_copies_23 : decode cX9_copies 23 = .ok (.iinc 4 1, 3) := by decide +kernel
theorem dX9_copies_26 : decode cX9_copies 26 = .ok (.goto (-23), 3) := by decide +kernel
theorem dX9_copies_29 : decode cX9_copies 29 = .ok (.return_, 1) := by decide +kernel
theorem dX9_keeps_0 : decode cX9_keeps 0 = .ok (.aload_n 0, 1) := by decide +kernel
theorem dX9_keeps_1 : decode cX9_keeps 1 = .ok (.getfield 67, 3) := by decide +kernel
theorem dX9_keeps_4 : decode cX9_keeps 4 = .ok (.bipush 8, 2) := by decide +kernel
theorem dX9_keeps_6 : decode cX9_keeps 6 = .ok (.if_icmp .ne 44, 3) := by decide +kernel
theorem dX9_keeps_9 : decode cX9_keeps 9 = .ok (.iconst 0, 1) := by decide +kernel
theorem dX9_keeps_10 : decode cX9_keeps 10 = .ok (.istore_n 1, 1) := by decide +kernel
theorem dX9_keeps_11 : decode cX9_keeps 11 = .ok (.iload_n 1, 1) := by decide +kernel
theorem dX9_keeps_12 : decode cX9_keeps 12 = .ok (.sipush 3864, 3) := by decide +kernel
theorem dX9_keeps_15 : decode cX9_keeps 15 = .ok (.if_icmp .ge 25, 3) := by decide +kernel
theorem dX9_keeps_18 : decode cX9_keeps 18 = .ok (.aload_n 0, 1) := by decide +kernel
theorem dX9_keeps_19 : decode cX9_keeps 19 = .ok (.getfield 19, 3) := by decide +kernel
theorem dX9_keeps_22 : decode cX9_keeps 22 = .ok (.iload_n 1, 1) := by decide +kernel
theorem dX9_keeps_23 : decode cX9_keeps 23 = .ok (.aload_n 0, 1) := by decide +kernel
theorem dX9_keeps_24 : decode cX9_keeps 24 = .ok (.getfield 19, 3) := by decide +kernel
theorem dX9_keeps_27 : decode cX9_keeps 27 = .ok (.iload_n 1, 1) := by decide +kernel
theorem dX9_keeps_28 : decode cX9_keeps 28 = .ok (.sipush 552, 3) := by decide +kernel
theorem dX9_keeps_31 : decode cX9_keeps 31 = .ok (.iadd, 1) := by decide +kernel
theorem dX9_keeps_32 : decode cX9_keeps 32 = .ok (.iaload, 1) := by decide +kernel
theorem dX9_keeps_33 : decode cX9_keeps 33 = .ok (.iastore, 1) := by decide +kernel
theorem dX9_keeps_34 : decode cX9_keeps 34 = .ok (.iinc 1 1, 3) := by decide +kernel
theorem dX9_keeps_37 : decode cX9_keeps 37 = .ok (.goto (-26), 3) := by decide +kernel
theorem dX9_keeps_40 : decode cX9_keeps 40 = .ok (.aload_n 0, 1) := by decide +kernel
theorem dX9_keeps_41 : decode cX9_keeps 41 = .ok (.dup, 1) := by decide +kernel
theorem dX9_keeps_42 : decode cX9_keeps 42 = .ok (.getfield 67, 3) := by decide +kernel
theorem dX9_keeps_45 : decode cX9_keeps 45 = .ok (.iconst 1, 1) := by decide +kernel
theorem dX9_keeps_46 : decode cX9_keeps 46 = .ok (.isub, 1) := by decide +kernel
theorem dX9_keeps_47 : decode cX9_keeps 47 = .ok (.putfield 67, 3) := by decide +kernel
theorem dX9_keeps_50 : decode cX9_keeps 50 = .ok (.aload_n 0, 1) := by decide +kernel
theorem dX9_keeps_51 : decode cX9_keeps 51 = .ok (.getfield 7, 3) := by decide +kernel
theorem dX9_keeps_54 : decode cX9_keeps 54 = .ok (.iconst 0, 1) := by decide +kernel
theorem dX9_keeps_55 : decode cX9_keeps 55 = .ok (.aload_n 0, 1) := by decide +kernel
theorem dX9_keeps_56 : decode cX9_keeps 56 = .ok (.getfield 19, 3) := by decide +kernel
theorem dX9_keeps_59 : decode cX9_keeps 59 = .ok (.sipush 552, 3) := by decide +kernel
theorem dX9_keeps_62 : decode cX9_keeps 62 = .ok (.aload_n 0, 1) := by decide +kernel
theorem dX9_keeps_63 : decode cX9_keeps 63 = .ok (.getfield 67, 3) := by decide +kernel
theorem dX9_keeps_66 : decode cX9_keeps 66 = .ok (.imul, 1) := by decide +kernel
theorem dX9_keeps_67 : decode cX9_keeps 67 = .ok (.invokestatic 70, 3) := by decide +kernel
theorem dX9_keeps_70 : decode cX9_keeps 70 = .ok (.aload_n 0, 1) := by decide +kernel
theorem dX9_keeps_71 : decode cX9_keeps 71 = .ok (.dup, 1) := by decide +kernel
theorem dX9_keeps_72 : decode cX9_keeps 72 = .ok (.getfield 67, 3) := by decide +kernel
theorem dX9_keeps_75 : decode cX9_keeps 75 = .ok (.iconst 1, 1) := by decide +kernel
theorem dX9_keeps_76 : decode cX9_keeps 76 = .ok (.iadd, 1) := by decide +kernel
theorem dX9_keeps_77 : decode cX9_keeps 77 = .ok (.putfield 67, 3) := by decide +kernel
theorem dX9_keeps_80 : decode cX9_keeps 80 = .ok (.return_, 1) := by decide +kernel
theorem dX9_ones_0 : decode cX9_ones 0 = .ok (.iconst 0, 1) := by decide +kernel
theorem dX9_ones_1 : decode cX9_ones 1 = .ok (.istore_n 1, 1) := by decide +kernel
theorem dX9_ones_2 : decode cX9_ones 2 = .ok (.iconst 0, 1) := by decide +kernel
theorem dX9_ones_3 : decode cX9_ones 3 = .ok (.istore_n 2, 1) := by decide +kernel
theorem dX9_ones_4 : decode cX9_ones 4 = .ok (.iload_n 2, 1) := by decide +kernel
theorem dX9_ones_5 : decode cX9_ones 5 = .ok (.bipush 8, 2) := by decide +kernel
theorem dX9_ones_7 : decode cX9_ones 7 = .ok (.if_icmp .ge 17, 3) := by decide +kernel
theorem dX9_ones_10 : decode cX9_ones 10 = .ok (.iload_n 1, 1) := by decide +kernel
theorem dX9_ones_11 : decode cX9_ones 11 = .ok (.iload_n 0, 1) := by decide +kernel
theorem dX9_ones_12 : decode cX9_ones 12 = .ok (.iload_n 2, 1) := by decide +kernel
theorem dX9_ones_13 : decode cX9_ones 13 = .ok (.ishr, 1) := by decide +kernel
theorem dX9_ones_14 : decode cX9_ones 14 = .ok (.iconst 1, 1) := by decide +kernel
theorem dX9_ones_15 : decode cX9_ones 15 = .ok (.iand, 1) := by decide +kernel
theorem dX9_ones_16 : decode cX9_ones 16 = .ok (.iadd, 1) := by decide +kernel
theorem dX9_ones_17 : decode cX9_ones 17 = .ok (.istore_n 1, 1) := by decide +kernel
theorem dX9_ones_18 : decode cX9_ones 18 = .ok (.iinc 2 1, 3) := by decide +kernel
theorem dX9_ones_21 : decode cX9_ones 21 = .ok (.goto (-17), 3) := by decide +kernel
theorem dX9_ones_24 : decode cX9_ones 24 = .ok (.iload_n 1, 1) := by decide +kernel
theorem dX9_ones_25 : decode cX9_ones 25 = .ok (.ireturn, 1) := by decide +kernel
theorem dX9_cells_0 : decode cX9_cells 0 = .ok (.aload_n 0, 1) := by decide +kernel
theorem dX9_cells_1 : decode cX9_cells 1 = .ok (.getfield 7, 3) := by decide +kernel
theorem dX9_cells_4 : decode cX9_cells 4 = .ok (.iconst 0, 1) := by decide +kernel
theorem dX9_cells_5 : decode cX9_cells 5 = .ok (.iaload, 1) := by decide +kernel
theorem dX9_cells_6 : decode cX9_cells 6 = .ok (.aload_n 0, 1) := by decide +kernel
theorem dX9_cells_7 : decode cX9_cells 7 = .ok (.getfield 7, 3) := by decide +kernel
theorem dX9_cells_10 : decode cX9_cells 10 = .ok (.iconst 1, 1) := by decide +kernel
theorem dX9_cells_11 : decode cX9_cells 11 = .ok (.iaload, 1) := by decide +kernel
theorem dX9_cells_12 : decode cX9_cells 12 = .ok (.imul, 1) := by decide +kernel
theorem dX9_cells_13 : decode cX9_cells 13 = .ok (.ireturn, 1) := by decide +kernel
theorem dX9_isCell_0 : decode cX9_isCell 0 = .ok (.iload_n 1, 1) := by decide +kernel
theorem dX9_isCell_1 : decode cX9_isCell 1 = .ok (.i2l, 1) := by decide +kernel
theorem dX9_isCell_2 : decode cX9_isCell 2 = .ok (.lconst 0, 1) := by decide +kernel
theorem dX9_isCell_3 : decode cX9_isCell 3 = .ok (.aload_n 0, 1) := by decide +kernel
theorem dX9_isCell_4 : decode cX9_isCell 4 = .ok (.invokevirtual 74, 3) := by decide +kernel
theorem dX9_isCell_7 : decode cX9_isCell 7 = .ok (.iconst 1, 1) := by decide +kernel
theorem dX9_isCell_8 : decode cX9_isCell 8 = .ok (.isub, 1) := by decide +kernel
theorem dX9_isCell_9 : decode cX9_isCell 9 = .ok (.i2l, 1) := by decide +kernel
theorem dX9_isCell_10 : decode cX9_isCell 10 = .ok (.invokestatic 78, 3) := by decide +kernel
theorem dX9_isCell_13 : decode cX9_isCell 13 = .ok (.ireturn, 1) := by decide +kernel
theorem dX9_away_0 : decode cX9_away 0 = .ok (.iload_n 1, 1) := by decide +kernel
theorem dX9_away_1 : decode cX9_away 1 = .ok (.aload_n 0, 1) := by decide +kernel
theorem dX9_away_2 : decode cX9_away 2 = .ok (.getfield 7, 3) := by decide +kernel
theorem dX9_away_5 : decode cX9_away 5 = .ok (.iconst 1, 1) := by decide +kernel
theorem dX9_away_6 : decode cX9_away 6 = .ok (.iaload, 1) := by decide +kernel
theorem dX9_away_7 : decode cX9_away 7 = .ok (.idiv, 1) := by decide +kernel
theorem dX9_away_8 : decode cX9_away 8 = .ok (.istore 4, 2) := by decide +kernel
theorem dX9_away_10 : decode cX9_away 10 = .ok (.iload_n 1, 1) := by decide +kernel
theorem dX9_away_11 : decode cX9_away 11 = .ok (.aload_n 0, 1) := by decide +kernel
theorem dX9_away_12 : decode cX9_away 12 = .ok (.getfield 7, 3) := by decide +kernel
theorem dX9_away_15 : decode cX9_away 15 = .ok (.iconst 1, 1) := by decide +kernel
theorem dX9_away_16 : decode cX9_away 16 = .ok (.iaload, 1) := by decide +kernel
theorem dX9_away_17 : decode cX9_away 17 = .ok (.irem, 1) := by decide +kernel
theorem dX9_away_18 : decode cX9_away 18 = .ok (.istore 5, 2) := by decide +kernel
theorem dX9_away_20 : decode cX9_away 20 = .ok (.iload 4, 2) := by decide +kernel
theorem dX9_away_22 : decode cX9_away 22 = .ok (.iload_n 2, 1) := by decide +kernel
theorem dX9_away_23 : decode cX9_away 23 = .ok (.ifCond .ne 8, 3) := by decide +kernel
theorem dX9_away_26 : decode cX9_away 26 = .ok (.iload_n 3, 1) := by decide +kernel
theorem dX9_away_27 : decode cX9_away 27 = .ok (.ineg, 1) := by decide +kernel
theorem dX9_away_28 : decode cX9_away 28 = .ok (.goto 13, 3) := by decide +kernel
theorem dX9_away_31 : decode cX9_away 31 = .ok (.iload_n 2, 1) := by decide +kernel
theorem dX9_away_32 : decode cX9_away 32 = .ok (.iconst 2, 1) := by decide +kernel
theorem dX9_away_33 : decode cX9_away 33 = .ok (.if_icmp .ne 7, 3) := by decide +kernel
theorem dX9_away_36 : decode cX9_away 36 = .ok (.iload_n 3, 1) := by decide +kernel
theorem dX9_away_37 : decode cX9_away 37 = .ok (.goto 4, 3) := by decide +kernel
theorem dX9_away_40 : decode cX9_away 40 = .ok (.iconst 0, 1) := by decide +kernel
theorem dX9_away_41 : decode cX9_away 41 = .ok (.iadd, 1) := by decide +kernel
theorem dX9_away_42 : decode cX9_away 42 = .ok (.istore 4, 2) := by decide +kernel
theorem dX9_away_44 : decode cX9_away 44 = .ok (.iload 5, 2) := by decide +kernel
theorem dX9_away_46 : decode cX9_away 46 = .ok (.iload_n 2, 1) := by decide +kernel
theorem dX9_away_47 : decode cX9_away 47 = .ok (.iconst 1, 1) := by decide +kernel
theorem dX9_away_48 : decode cX9_away 48 = .ok (.if_icmp .ne 7, 3) := by decide +kernel
theorem dX9_away_51 : decode cX9_away 51 = .ok (.iload_n 3, 1) := by decide +kernel
theorem dX9_away_52 : decode cX9_away 52 = .ok (.goto 14, 3) := by decide +kernel
theorem dX9_away_55 : decode cX9_away 55 = .ok (.iload_n 2, 1) := by decide +kernel
theorem dX9_away_56 : decode cX9_away 56 = .ok (.iconst 3, 1) := by decide +kernel
theorem dX9_away_57 : decode cX9_away 57 = .ok (.if_icmp .ne 8, 3) := by decide +kernel
theorem dX9_away_60 : decode cX9_away 60 = .ok (.iload_n 3, 1) := by decide +kernel
theorem dX9_away_61 : decode cX9_away 61 = .ok (.ineg, 1) := by decide +kernel
theorem dX9_away_62 : decode cX9_away 62 = .ok (.goto 4, 3) := by decide +kernel
theorem dX9_away_65 : decode cX9_away 65 = .ok (.iconst 0, 1) := by decide +kernel
theorem dX9_away_66 : decode cX9_away 66 = .ok (.iadd, 1) := by decide +kernel
theorem dX9_away_67 : decode cX9_away 67 = .ok (.istore 5, 2) := by decide +kernel
theorem dX9_away_69 : decode cX9_away 69 = .ok (.iload 4, 2) := by decide +kernel
theorem dX9_away_71 : decode cX9_away 71 = .ok (.i2l, 1) := by decide +kernel
theorem dX9_away_72 : decode cX9_away 72 = .ok (.lconst 0, 1) := by decide +kernel
theorem dX9_away_73 : decode cX9_away 73 = .ok (.aload_n 0, 1) := by decide +kernel
theorem dX9_away_74 : decode cX9_away 74 = .ok (.getfield 7, 3) := by decide +kernel
theorem dX9_away_77 : decode cX9_away 77 = .ok (.iconst 0, 1) := by decide +kernel
theorem dX9_away_78 : decode cX9_away 78 = .ok (.iaload, 1) := by decide +kernel
theorem dX9_away_79 : decode cX9_away 79 = .ok (.iconst 1, 1) := by decide +kernel
theorem dX9_away_80 : decode cX9_away 80 = .ok (.isub, 1) := by decide +kernel
theorem dX9_away_81 : decode cX9_away 81 = .ok (.i2l, 1) := by decide +kernel
theorem dX9_away_82 : decode cX9_away 82 = .ok (.invokestatic 78, 3) := by decide +kernel
theorem dX9_away_85 : decode cX9_away 85 = .ok (.ifCond .eq 37, 3) := by decide +kernel
theorem dX9_away_88 : decode cX9_away 88 = .ok (.iload 5, 2) := by decide +kernel
theorem dX9_away_90 : decode cX9_away 90 = .ok (.i2l, 1) := by decide +kernel
theorem dX9_away_91 : decode cX9_away 91 = .ok (.lconst 0, 1) := by decide +kernel
theorem dX9_away_92 : decode cX9_away 92 = .ok (.aload_n 0, 1) := by decide +kernel
theorem dX9_away_93 : decode cX9_away 93 = .ok (.getfield 7, 3) := by decide +kernel
theorem dX9_away_96 : decode cX9_away 96 = .ok (.iconst 1, 1) := by decide +kernel
theorem dX9_away_97 : decode cX9_away 97 = .ok (.iaload, 1) := by decide +kernel
theorem dX9_away_98 : decode cX9_away 98 = .ok (.iconst 1, 1) := by decide +kernel
theorem dX9_away_99 : decode cX9_away 99 = .ok (.isub, 1) := by decide +kernel
theorem dX9_away_100 : decode cX9_away 100 = .ok (.i2l, 1) := by decide +kernel
theorem dX9_away_101 : decode cX9_away 101 = .ok (.invokestatic 78, 3) := by decide +kernel
theorem dX9_away_104 : decode cX9_away 104 = .ok (.ifCond .eq 18, 3) := by decide +kernel
theorem dX9_away_107 : decode cX9_away 107 = .ok (.aload_n 0, 1) := by decide +kernel
theorem dX9_away_108 : decode cX9_away 108 = .ok (.getfield 7, 3) := by decide +kernel
theorem dX9_away_111 : decode cX9_away 111 = .ok (.iconst 1, 1) := by decide +kernel
theorem dX9_away_112 : decode cX9_away 112 = .ok (.iaload, 1) := by decide +kernel
theorem dX9_away_113 : decode cX9_away 113 = .ok (.iload 4, 2) := by decide +kernel
theorem dX9_away_115 : decode cX9_away 115 = .ok (.imul, 1) := by decide +kernel
theorem dX9_away_116 : decode cX9_away 116 = .ok (.iload 5, 2) := by decide +kernel
theorem dX9_away_118 : decode cX9_away 118 = .ok (.iadd, 1) := by decide +kernel
theorem dX9_away_119 : decode cX9_away 119 = .ok (.goto 4, 3) := by decide +kernel
theorem dX9_away_122 : decode cX9_away 122 = .ok (.iconst (-1), 1) := by decide +kernel
theorem dX9_away_123 : decode cX9_away 123 = .ok (.ireturn, 1) := by decide +kernel
theorem dX9_isLand_0 : decode cX9_isLand 0 = .ok (.iload_n 1, 1) := by decide +kernel
theorem dX9_isLand_1 : decode cX9_isLand 1 = .ok (.iconst (-1), 1) := by decide +kernel
theorem dX9_isLand_2 : decode cX9_isLand 2 = .ok (.if_icmp .eq 20, 3) := by decide +kernel
theorem dX9_isLand_5 : decode cX9_isLand 5 = .ok (.aload_n 0, 1) := by decide +kernel
theorem dX9_isLand_6 : decode cX9_isLand 6 = .ok (.getfield 7, 3) := by decide +kernel
theorem dX9_isLand_9 : decode cX9_isLand 9 = .ok (.bipush 8, 2) := by decide +kernel
theorem dX9_isLand_11 : decode cX9_isLand 11 = .ok (.iload_n 1, 1) := by decide +kernel
theorem dX9_isLand_12 : decode cX9_isLand 12 = .ok (.iadd, 1) := by decide +kernel
theorem dX9_isLand_13 : decode cX9_isLand 13 = .ok (.iaload, 1) := by decide +kernel
theorem dX9_isLand_14 : decode cX9_isLand 14 = .ok (.iconst 1, 1) := by decide +kernel
theorem dX9_isLand_15 : decode cX9_isLand 15 = .ok (.if_icmp .ne 7, 3) := by decide +kernel
theorem dX9_isLand_18 : decode cX9_isLand 18 = .ok (.iconst 1, 1) := by decide +kernel
theorem dX9_isLand_19 : decode cX9_isLand 19 = .ok (.goto 4, 3) := by decide +kernel
theorem dX9_isLand_22 : decode cX9_isLand 22 = .ok (.iconst 0, 1) := by decide +kernel
theorem dX9_isLand_23 : decode cX9_isLand 23 = .ok (.ireturn, 1) := by decide +kernel
theorem dX9_riverAt_0 : decode cX9_riverAt 0 = .ok (.aload_n 0, 1) := by decide +kernel
theorem dX9_riverAt_1 : decode cX9_riverAt 1 = .ok (.getfield 7, 3) := by decide +kernel
theorem dX9_riverAt_4 : decode cX9_riverAt 4 = .ok (.sipush 152, 3) := by decide +kernel
theorem dX9_riverAt_7 : decode cX9_riverAt 7 = .ok (.iload_n 1, 1) := by decide +kernel
theorem dX9_riverAt_8 : decode cX9_riverAt 8 = .ok (.iadd, 1) := by decide +kernel
theorem dX9_riverAt_9 : decode cX9_riverAt 9 = .ok (.iaload, 1) := by decide +kernel
theorem dX9_riverAt_10 : decode cX9_riverAt 10 = .ok (.iconst 1, 1) := by decide +kernel
theorem dX9_riverAt_11 : decode cX9_riverAt 11 = .ok (.isub, 1) := by decide +kernel
theorem dX9_riverAt_12 : decode cX9_riverAt 12 = .ok (.ireturn, 1) := by decide +kernel
theorem dX9_isRiver_0 : decode cX9_isRiver 0 = .ok (.iload_n 1, 1) := by decide +kernel
theorem dX9_isRiver_1 : decode cX9_isRiver 1 = .ok (.iconst (-1), 1) := by decide +kernel
theorem dX9_isRiver_2 : decode cX9_isRiver 2 = .ok (.if_icmp .eq 20, 3) := by decide +kernel
theorem dX9_isRiver_5 : decode cX9_isRiver 5 = .ok (.aload_n 0, 1) := by decide +kernel
theorem dX9_isRiver_6 : decode cX9_isRiver 6 = .ok (.getfield 7, 3) := by decide +kernel
theorem dX9_isRiver_9 : decode cX9_isRiver 9 = .ok (.sipush 152, 3) := by decide +kernel
theorem dX9_isRiver_12 : decode cX9_isRiver 12 = .ok (.iload_n 1, 1) := by decide +kernel
theorem dX9_isRiver_13 : decode cX9_isRiver 13 = .ok (.iadd, 1) := by decide +kernel
theorem dX9_isRiver_14 : decode cX9_isRiver 14 = .ok (.iaload, 1) := by decide +kernel
theorem dX9_isRiver_15 : decode cX9_isRiver 15 = .ok (.ifCond .le 7, 3) := by decide +kernel
theorem dX9_isRiver_18 : decode cX9_isRiver 18 = .ok (.iconst 1, 1) := by decide +kernel
theorem dX9_isRiver_19 : decode cX9_isRiver 19 = .ok (.goto 4, 3) := by decide +kernel
theorem dX9_isRiver_22 : decode cX9_isRiver 22 = .ok (.iconst 0, 1) := by decide +kernel
theorem dX9_isRiver_23 : decode cX9_isRiver 23 = .ok (.ireturn, 1) := by decide +kernel
theorem dX9_isCoast_0 : decode cX9_isCoast 0 = .ok (.aload_n 0, 1) := by decide +kernel
theorem dX9_isCoast_1 : decode cX9_isCoast 1 = .ok (.iload_n 1, 1) := by decide +kernel
theorem dX9_isCoast_2 : decode cX9_isCoast 2 = .ok (.invokevirtual 82, 3) := by decide +kernel
theorem dX9_isCoast_5 : decode cX9_isCoast 5 = .ok (.ifCond .ne 5, 3) := by decide +kernel
theorem dX9_isCoast_8 : decode cX9_isCoast 8 = .ok (.iconst 0, 1) := by decide +kernel
theorem dX9_isCoast_9 : decode cX9_isCoast 9 = .ok (.ireturn, 1) := by decide +kernel
theorem dX9_isCoast_10 : decode cX9_isCoast 10 = .ok (.iconst 0, 1) := by decide +kernel
theorem dX9_isCoast_11 : decode cX9_isCoast 11 = .ok (.istore_n 2, 1) := by decide +kernel
theorem dX9_isCoast_12 : decode cX9_isCoast 12 = .ok (.iconst 0, 1) := by decide +kernel
theorem dX9_isCoast_13 : decode cX9_isCoast 13 = .ok (.istore_n 3, 1) := by decide +kernel
theorem dX9_isCoast_14 : decode cX9_isCoast 14 = .ok (.iload_n 3, 1) := by decide +kernel
theorem dX9_isCoast_15 : decode cX9_isCoast 15 = .ok (.iconst 4, 1) := by decide +kernel
theorem dX9_isCoast_16 : decode cX9_isCoast 16 = .ok (.if_icmp .ge 33, 3) := by decide +kernel
theorem dX9_isCoast_19 : decode cX9_isCoast 19 = .ok (.iload_n 2, 1) := by decide +kernel
theorem dX9_isCoast_20 : decode cX9_isCoast 20 = .ok (.ifCond .ne 17, 3) := by decide +kernel
theorem dX9_isCoast_23 : decode cX9_isCoast 23 = .ok (.aload_n 0, 1) := by decide +kernel
theorem dX9_isCoast_24 : decode cX9_isCoast 24 = .ok (.aload_n 0, 1) := by decide +kernel
theorem dX9_isCoast_25 : decode cX9_isCoast 25 = .ok (.iload_n 1, 1) := by decide +kernel
theorem dX9_isCoast_26 : decode cX9_isCoast 26 = .ok (.iload_n 3, 1) := by decide +kernel
theorem dX9_isCoast_27 : decode cX9_isCoast 27 = .ok (.iconst 1, 1) := by decide +kernel
theorem dX9_isCoast_28 : decode cX9_isCoast 28 = .ok (.invokevirtual 86, 3) := by decide +kernel
theorem dX9_isCoast_31 : decode cX9_isCoast 31 = .ok (.invokevirtual 82, 3) := by decide +kernel
theorem dX9_isCoast_34 : decode cX9_isCoast 34 = .ok (.ifCond .ne 7, 3) := by decide +kernel
theorem dX9_isCoast_37 : decode cX9_isCoast 37 = .ok (.iconst 1, 1) := by decide +kernel
theorem dX9_isCoast_38 : decode cX9_isCoast 38 = .ok (.goto 4, 3) := by decide +kernel
theorem dX9_isCoast_41 : decode cX9_isCoast 41 = .ok (.iconst 0, 1) := by decide +kernel
theorem dX9_isCoast_42 : decode cX9_isCoast 42 = .ok (.istore_n 2, 1) := by decide +kernel
theorem dX9_isCoast_43 : decode cX9_isCoast 43 = .ok (.iinc 3 1, 3) := by decide +kernel
theorem dX9_isCoast_46 : decode cX9_isCoast 46 = .ok (.goto (-32), 3) := by decide +kernel
theorem dX9_isCoast_49 : decode cX9_isCoast 49 = .ok (.iload_n 2, 1) := by decide +kernel
theorem dX9_isCoast_50 : decode cX9_isCoast 50 = .ok (.ireturn, 1) := by decide +kernel
theorem dX9_depthOf_0 : decode cX9_depthOf 0 = .ok (.iload_n 1, 1) := by decide +kernel
theorem dX9_depthOf_1 : decode cX9_depthOf 1 = .ok (.aload_n 0, 1) := by decide +kernel
theorem dX9_depthOf_2 : decode cX9_depthOf 2 = .ok (.getfield 7, 3) := by decide +kernel
theorem dX9_depthOf_5 : decode cX9_depthOf 5 = .ok (.iconst 1, 1) := by decide +kernel
theorem dX9_depthOf_6 : decode cX9_depthOf 6 = .ok (.iaload, 1) := by decide +kernel
theorem dX9_depthOf_7 : decode cX9_depthOf 7 = .ok (.idiv, 1) := by decide +kernel
theorem dX9_depthOf_8 : decode cX9_depthOf 8 = .ok (.istore_n 2, 1) := by decide +kernel
theorem dX9_depthOf_9 : decode cX9_depthOf 9 = .ok (.iload_n 1, 1) := by decide +kernel
theorem dX9_depthOf_10 : decode cX9_depthOf 10 = .ok (.aload_n 0, 1) := by decide +kernel
theorem dX9_depthOf_11 : decode cX9_depthOf 11 = .ok (.getfield 7, 3) := by decide +kernel
theorem dX9_depthOf_14 : decode cX9_depthOf 14 = .ok (.iconst 1, 1) := by decide +kernel
theorem dX9_depthOf_15 : decode cX9_depthOf 15 = .ok (.iaload, 1) := by decide +kernel
theorem dX9_depthOf_16 : decode cX9_depthOf 16 = .ok (.irem, 1) := by decide +kernel
theorem dX9_depthOf_17 : decode cX9_depthOf 17 = .ok (.istore_n 3, 1) := by decide +kernel
theorem dX9_depthOf_18 : decode cX9_depthOf 18 = .ok (.iload_n 2, 1) := by decide +kernel
theorem dX9_depthOf_19 : decode cX9_depthOf 19 = .ok (.iconst 1, 1) := by decide +kernel
theorem dX9_depthOf_20 : decode cX9_depthOf 20 = .ok (.iadd, 1) := by decide +kernel
theorem dX9_depthOf_21 : decode cX9_depthOf 21 = .ok (.aload_n 0, 1) := by decide +kernel
theorem dX9_depthOf_22 : decode cX9_depthOf 22 = .ok (.getfield 7, 3) := by decide +kernel
theorem dX9_depthOf_25 : decode cX9_depthOf 25 = .ok (.iconst 0, 1) := by decide +kernel
theorem dX9_depthOf_26 : decode cX9_depthOf 26 = .ok (.iaload, 1) := by decide +kernel
theorem dX9_depthOf_27 : decode cX9_depthOf 27 = .ok (.iload_n 2, 1) := by decide +kernel
theorem dX9_depthOf_28 : decode cX9_depthOf 28 = .ok (.isub, 1) := by decide +kernel
theorem dX9_depthOf_29 : decode cX9_depthOf 29 = .ok (.invokestatic 90, 3) := by decide +kernel
theorem dX9_depthOf_32 : decode cX9_depthOf 32 = .ok (.iload_n 3, 1) := by decide +kernel
theorem dX9_depthOf_33 : decode cX9_depthOf 33 = .ok (.iconst 1, 1) := by decide +kernel
theorem dX9_depthOf_34 : decode cX9_depthOf 34 = .ok (.iadd, 1) := by decide +kernel
theorem dX9_depthOf_35 : decode cX9_depthOf 35 = .ok (.aload_n 0, 1) := by decide +kernel
theorem dX9_depthOf_36 : decode cX9_depthOf 36 = .ok (.getfield 7, 3) := by decide +kernel
theorem dX9_depthOf_39 : decode cX9_depthOf 39 = .ok (.iconst 1, 1) := by decide +kernel
theorem dX9_depthOf_40 : decode cX9_depthOf 40 = .ok (.iaload, 1) := by decide +kernel
theorem dX9_depthOf_41 : decode cX9_depthOf 41 = .ok (.iload_n 3, 1) := by decide +kernel
theorem dX9_depthOf_42 : decode cX9_depthOf 42 = .ok (.isub, 1) := by decide +kernel
theorem dX9_depthOf_43 : decode cX9_depthOf 43 = .ok (.invokestatic 90, 3) := by decide +kernel
theorem dX9_depthOf_46 : decode cX9_depthOf 46 = .ok (.invokestatic 90, 3) := by decide +kernel
theorem dX9_depthOf_49 : decode cX9_depthOf 49 = .ok (.istore 4, 2) := by decide +kernel
theorem dX9_depthOf_51 : decode cX9_depthOf 51 = .ok (.iconst 0, 1) := by decide +kernel
theorem dX9_depthOf_52 : decode cX9_depthOf 52 = .ok (.istore 5, 2) := by decide +kernel
theorem dX9_depthOf_54 : decode cX9_depthOf 54 = .ok (.iload 5, 2) := by decide +kernel
theorem dX9_depthOf_56 : decode cX9_depthOf 56 = .ok (.aload_n 0, 1) := by decide +kernel
theorem dX9_depthOf_57 : decode cX9_depthOf 57 = .ok (.invokevirtual 74, 3) := by decide +kernel
theorem dX9_depthOf_60 : decode cX9_depthOf 60 = .ok (.if_icmp .ge 54, 3) := by decide +kernel
theorem dX9_depthOf_63 : decode cX9_depthOf 63 = .ok (.aload_n 0, 1) := by decide +kernel
theorem dX9_depthOf_64 : decode cX9_depthOf 64 = .ok (.iload 5, 2) := by decide +kernel
theorem dX9_depthOf_66 : decode cX9_depthOf 66 = .ok (.invokevirtual 82, 3) := by decide +kernel
theorem dX9_depthOf_69 : decode cX9_depthOf 69 = .ok (.ifCond .ne 39, 3) := by decide +kernel
theorem dX9_depthOf_72 : decode cX9_depthOf 72 = .ok (.iload 4, 2) := by decide +kernel
theorem dX9_depthOf_74 : decode cX9_depthOf 74 = .ok (.iload 5, 2) := by decide +kernel
theorem dX9_depthOf_76 : decode cX9_depthOf 76 = .ok (.aload_n 0, 1) := by decide +kernel
theorem dX9_depthOf_77 : decode cX9_depthOf 77 = .ok (.getfield 7, 3) := by decide +kernel
theorem dX9_depthOf_80 : decode cX9_depthOf 80 = .ok (.iconst 1, 1) := by decide +kernel
theorem dX9_depthOf_81 : decode cX9_depthOf 81 = .ok (.iaload, 1) := by decide +kernel
theorem dX9_depthOf_82 : decode cX9_depthOf 82 = .ok (.idiv, 1) := by decide +kernel
theorem dX9_depthOf_83 : decode cX9_depthOf 83 = .ok (.iload_n 2, 1) := by decide +kernel
theorem dX9_depthOf_84 : decode cX9_depthOf 84 = .ok (.isub, 1) := by decide +kernel
theorem dX9_depthOf_85 : decode cX9_depthOf 85 = .ok (.invokestatic 96, 3) := by decide +kernel
theorem dX9_depthOf_88 : decode cX9_depthOf 88 = .ok (.iload 5, 2) := by decide +kernel
theorem dX9_depthOf_90 : decode cX9_depthOf 90 = .ok (.aload_n 0, 1) := by decide +kernel
theorem dX9_depthOf_91 : decode cX9_depthOf 91 = .ok (.getfield 7, 3) := by decide +kernel
theorem dX9_depthOf_94 : decode cX9_depthOf 94 = .ok (.iconst 1, 1) := by decide +kernel
theorem dX9_depthOf_95 : decode cX9_depthOf 95 = .ok (.iaload, 1) := by decide +kernel
theorem dX9_depthOf_96 : decode cX9_depthOf 96 = .ok (.irem, 1) := by decide +kernel
theorem dX9_depthOf_97 : decode cX9_depthOf 97 = .ok (.iload_n 3, 1) := by decide +kernel
theorem dX9_depthOf_98 : decode cX9_depthOf 98 = .ok (.isub, 1) := by decide +kernel
theorem dX9_depthOf_99 : decode cX9_depthOf 99 = .ok (.invokestatic 96, 3) := by decide +kernel
theorem dX9_depthOf_102 : decode cX9_depthOf 102 = .ok (.iadd, 1) := by decide +kernel
theorem dX9_depthOf_103 : decode cX9_depthOf 103 = .ok (.invokestatic 90, 3) := by decide +kernel
theorem dX9_depthOf_106 : decode cX9_depthOf 106 = .ok (.istore 4, 2) := by decide +kernel
theorem dX9_depthOf_108 : decode cX9_depthOf 108 = .ok (.iinc 5 1, 3) := by decide +kernel
theorem dX9_depthOf_111 : decode cX9_depthOf 111 = .ok (.goto (-57), 3) := by decide +kernel
theorem dX9_depthOf_114 : decode cX9_depthOf 114 = .ok (.iload 4, 2) := by decide +kernel
theorem dX9_depthOf_116 : decode cX9_depthOf 116 = .ok (.ireturn, 1) := by decide +kernel
theorem dX9_of_0 : decode cX9_of 0 = .ok (.aload_n 0, 1) := by decide +kernel
theorem dX9_of_1 : decode cX9_of 1 = .ok (.getfield 7, 3) := by decide +kernel
theorem dX9_of_4 : decode cX9_of 4 = .ok (.sipush 440, 3) := by decide +kernel
theorem dX9_of_7 : decode cX9_of 7 = .ok (.bipush 12, 2) := by decide +kernel
