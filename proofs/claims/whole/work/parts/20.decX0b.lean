set_option maxRecDepth 20000 in
theorem ggX0_standAgainst_X2_lengthOf : GoodIn wsX0_standAgainst wsX2_lengthOf := goodIn_r _ [12, 7, 13, 46, 47, 48, 49, 50, 51] (by decide +kernel) (by decide +kernel)
set_option maxRecDepth 20000 in
theorem gX0_standAgainst_X2_lengthOf : GoodIn wsX0_standAgainst (wsV RX0 85 RX2 yX2_lengthOf wsX2_lengthOf) := goodIn_app (goodIn_of _ (by decide +kernel)) ggX0_standAgainst_X2_lengthOf
set_option maxRecDepth 20000 in
theorem ggX0_standAgainst_X1_ahead : GoodIn wsX0_standAgainst wsX1_ahead := goodIn_r _ [18, 19, 20, 52, 53, 54, 55, 56, 57] (by decide +kernel) (by decide +kernel)
set_option maxRecDepth 20000 in
theorem gX0_standAgainst_X1_ahead : GoodIn wsX0_standAgainst (wsV RX0 92 RX1 yX1_ahead wsX1_ahead) := goodIn_app (goodIn_of _ (by decide +kernel)) ggX0_standAgainst_X1_ahead
set_option maxRecDepth 20000 in
theorem ggX0_standAgainst_X1_stepsTo : GoodIn wsX0_standAgainst wsX1_stepsTo := goodIn_r _ [24, 20, 52, 53, 54, 55, 56, 57] (by decide +kernel) (by decide +kernel)
set_option maxRecDepth 20000 in
theorem gX0_standAgainst_X1_stepsTo : GoodIn wsX0_standAgainst (wsV RX0 97 RX1 yX1_stepsTo wsX1_stepsTo) := goodIn_app (goodIn_of _ (by decide +kernel)) ggX0_standAgainst_X1_stepsTo
set_option maxRecDepth 20000 in
theorem ggX0_standAgainst_X2_letterOf : GoodIn wsX0_standAgainst wsX2_letterOf := goodIn_r _ [28, 29, 30, 10, 11, 5, 12, 7, 13, 46, 47, 48, 49, 50, 51] (by decide +kernel) (by decide +kernel)
set_option maxRecDepth 20000 in
theorem gX0_standAgainst_X2_letterOf : GoodIn wsX0_standAgainst (wsV RX0 100 RX2 yX2_letterOf wsX2_letterOf) := goodIn_app (goodIn_of _ (by decide +kernel)) ggX0_standAgainst_X2_letterOf
theorem dX0_standAgainst_0 : decode cX0_standAgainst 0 = .ok (.iload_n 2, 1) := by decide +kernel
theorem dX0_standAgainst_1 : decode cX0_standAgainst 1 = .ok (.iconst 4, 1) := by decide +kernel
theorem dX0_standAgainst_2 : decode cX0_standAgainst 2 = .ok (.idiv, 1) := by decide +kernel
theorem dX0_standAgainst_3 : decode cX0_standAgainst 3 = .ok (.istore 4, 2) := by decide +kernel
theorem dX0_standAgainst_5 : decode cX0_standAgainst 5 = .ok (.iload_n 3, 1) := by decide +kernel
theorem dX0_standAgainst_6 : decode cX0_standAgainst 6 = .ok (.iconst 4, 1) := by decide +kernel
theorem dX0_standAgainst_7 : decode cX0_standAgainst 7 = .ok (.idiv, 1) := by decide +kernel
theorem dX0_standAgainst_8 : decode cX0_standAgainst 8 = .ok (.istore 5, 2) := by decide +kernel
theorem dX0_standAgainst_10 : decode cX0_standAgainst 10 = .ok (.iconst 1, 1) := by decide +kernel
theorem dX0_standAgainst_11 : decode cX0_standAgainst 11 = .ok (.iload 4, 2) := by decide +kernel
theorem dX0_standAgainst_13 : decode cX0_standAgainst 13 = .ok (.ishl, 1) := by decide +kernel
theorem dX0_standAgainst_14 : decode cX0_standAgainst 14 = .ok (.iconst 1, 1) := by decide +kernel
theorem dX0_standAgainst_15 : decode cX0_standAgainst 15 = .ok (.iload 5, 2) := by decide +kernel
theorem dX0_standAgainst_17 : decode cX0_standAgainst 17 = .ok (.ishl, 1) := by decide +kernel
theorem dX0_standAgainst_18 : decode cX0_standAgainst 18 = .ok (.ior, 1) := by decide +kernel
theorem dX0_standAgainst_19 : decode cX0_standAgainst 19 = .ok (.aload_n 0, 1) := by decide +kernel
theorem dX0_standAgainst_20 : decode cX0_standAgainst 20 = .ok (.getfield 30, 3) := by decide +kernel
theorem dX0_standAgainst_23 : decode cX0_standAgainst 23 = .ok (.iand, 1) := by decide +kernel
theorem dX0_standAgainst_24 : decode cX0_standAgainst 24 = .ok (.ifCond .eq 7, 3) := by decide +kernel
theorem dX0_standAgainst_27 : decode cX0_standAgainst 27 = .ok (.iconst 1, 1) := by decide +kernel
theorem dX0_standAgainst_28 : decode cX0_standAgainst 28 = .ok (.goto 4, 3) := by decide +kernel
theorem dX0_standAgainst_31 : decode cX0_standAgainst 31 = .ok (.iconst 0, 1) := by decide +kernel
theorem dX0_standAgainst_32 : decode cX0_standAgainst 32 = .ok (.istore 6, 2) := by decide +kernel
theorem dX0_standAgainst_34 : decode cX0_standAgainst 34 = .ok (.aload_n 1, 1) := by decide +kernel
theorem dX0_standAgainst_35 : decode cX0_standAgainst 35 = .ok (.getfield 62, 3) := by decide +kernel
theorem dX0_standAgainst_38 : decode cX0_standAgainst 38 = .ok (.iload 4, 2) := by decide +kernel
theorem dX0_standAgainst_40 : decode cX0_standAgainst 40 = .ok (.invokevirtual 81, 3) := by decide +kernel
theorem dX0_standAgainst_43 : decode cX0_standAgainst 43 = .ok (.istore 7, 2) := by decide +kernel
theorem dX0_standAgainst_45 : decode cX0_standAgainst 45 = .ok (.aload_n 1, 1) := by decide +kernel
theorem dX0_standAgainst_46 : decode cX0_standAgainst 46 = .ok (.getfield 62, 3) := by decide +kernel
theorem dX0_standAgainst_49 : decode cX0_standAgainst 49 = .ok (.iload 5, 2) := by decide +kernel
theorem dX0_standAgainst_51 : decode cX0_standAgainst 51 = .ok (.invokevirtual 81, 3) := by decide +kernel
theorem dX0_standAgainst_54 : decode cX0_standAgainst 54 = .ok (.istore 8, 2) := by decide +kernel
theorem dX0_standAgainst_56 : decode cX0_standAgainst 56 = .ok (.iconst 0, 1) := by decide +kernel
theorem dX0_standAgainst_57 : decode cX0_standAgainst 57 = .ok (.istore 9, 2) := by decide +kernel
theorem dX0_standAgainst_59 : decode cX0_standAgainst 59 = .ok (.iload 9, 2) := by decide +kernel
theorem dX0_standAgainst_61 : decode cX0_standAgainst 61 = .ok (.aload_n 1, 1) := by decide +kernel
theorem dX0_standAgainst_62 : decode cX0_standAgainst 62 = .ok (.getfield 62, 3) := by decide +kernel
theorem dX0_standAgainst_65 : decode cX0_standAgainst 65 = .ok (.iload 4, 2) := by decide +kernel
theorem dX0_standAgainst_67 : decode cX0_standAgainst 67 = .ok (.invokevirtual 85, 3) := by decide +kernel
theorem dX0_standAgainst_70 : decode cX0_standAgainst 70 = .ok (.if_icmp .ge 87, 3) := by decide +kernel
theorem dX0_standAgainst_73 : decode cX0_standAgainst 73 = .ok (.aload_n 1, 1) := by decide +kernel
theorem dX0_standAgainst_74 : decode cX0_standAgainst 74 = .ok (.getfield 88, 3) := by decide +kernel
theorem dX0_standAgainst_77 : decode cX0_standAgainst 77 = .ok (.iload 7, 2) := by decide +kernel
theorem dX0_standAgainst_79 : decode cX0_standAgainst 79 = .ok (.iload_n 2, 1) := by decide +kernel
theorem dX0_standAgainst_80 : decode cX0_standAgainst 80 = .ok (.iconst 4, 1) := by decide +kernel
theorem dX0_standAgainst_81 : decode cX0_standAgainst 81 = .ok (.irem, 1) := by decide +kernel
theorem dX0_standAgainst_82 : decode cX0_standAgainst 82 = .ok (.iload 9, 2) := by decide +kernel
theorem dX0_standAgainst_84 : decode cX0_standAgainst 84 = .ok (.iconst 1, 1) := by decide +kernel
theorem dX0_standAgainst_85 : decode cX0_standAgainst 85 = .ok (.iadd, 1) := by decide +kernel
theorem dX0_standAgainst_86 : decode cX0_standAgainst 86 = .ok (.invokevirtual 92, 3) := by decide +kernel
theorem dX0_standAgainst_89 : decode cX0_standAgainst 89 = .ok (.istore 10, 2) := by decide +kernel
theorem dX0_standAgainst_91 : decode cX0_standAgainst 91 = .ok (.aload_n 1, 1) := by decide +kernel
theorem dX0_standAgainst_92 : decode cX0_standAgainst 92 = .ok (.getfield 88, 3) := by decide +kernel
theorem dX0_standAgainst_95 : decode cX0_standAgainst 95 = .ok (.iload 8, 2) := by decide +kernel
theorem dX0_standAgainst_97 : decode cX0_standAgainst 97 = .ok (.iload_n 3, 1) := by decide +kernel
theorem dX0_standAgainst_98 : decode cX0_standAgainst 98 = .ok (.iconst 4, 1) := by decide +kernel
theorem dX0_standAgainst_99 : decode cX0_standAgainst 99 = .ok (.irem, 1) := by decide +kernel
theorem dX0_standAgainst_100 : decode cX0_standAgainst 100 = .ok (.iload 10, 2) := by decide +kernel
theorem dX0_standAgainst_102 : decode cX0_standAgainst 102 = .ok (.invokevirtual 97, 3) := by decide +kernel
theorem dX0_standAgainst_105 : decode cX0_standAgainst 105 = .ok (.istore 11, 2) := by decide +kernel
theorem dX0_standAgainst_107 : decode cX0_standAgainst 107 = .ok (.aload_n 1, 1) := by decide +kernel
theorem dX0_standAgainst_108 : decode cX0_standAgainst 108 = .ok (.getfield 62, 3) := by decide +kernel
theorem dX0_standAgainst_111 : decode cX0_standAgainst 111 = .ok (.iload 5, 2) := by decide +kernel
theorem dX0_standAgainst_113 : decode cX0_standAgainst 113 = .ok (.iload 11, 2) := by decide +kernel
theorem dX0_standAgainst_115 : decode cX0_standAgainst 115 = .ok (.iconst 1, 1) := by decide +kernel
theorem dX0_standAgainst_116 : decode cX0_standAgainst 116 = .ok (.isub, 1) := by decide +kernel
theorem dX0_standAgainst_117 : decode cX0_standAgainst 117 = .ok (.invokevirtual 100, 3) := by decide +kernel
theorem dX0_standAgainst_120 : decode cX0_standAgainst 120 = .ok (.istore 12, 2) := by decide +kernel
theorem dX0_standAgainst_122 : decode cX0_standAgainst 122 = .ok (.iload 12, 2) := by decide +kernel
theorem dX0_standAgainst_124 : decode cX0_standAgainst 124 = .ok (.iconst (-1), 1) := by decide +kernel
theorem dX0_standAgainst_125 : decode cX0_standAgainst 125 = .ok (.if_icmp .eq 26, 3) := by decide +kernel
theorem dX0_standAgainst_128 : decode cX0_standAgainst 128 = .ok (.iload 6, 2) := by decide +kernel
theorem dX0_standAgainst_130 : decode cX0_standAgainst 130 = .ok (.ifCond .ne 19, 3) := by decide +kernel
theorem dX0_standAgainst_133 : decode cX0_standAgainst 133 = .ok (.iload 12, 2) := by decide +kernel
theorem dX0_standAgainst_135 : decode cX0_standAgainst 135 = .ok (.aload_n 1, 1) := by decide +kernel
theorem dX0_standAgainst_136 : decode cX0_standAgainst 136 = .ok (.getfield 62, 3) := by decide +kernel
theorem dX0_standAgainst_139 : decode cX0_standAgainst 139 = .ok (.iload 4, 2) := by decide +kernel
theorem dX0_standAgainst_141 : decode cX0_standAgainst 141 = .ok (.iload 9, 2) := by decide +kernel
theorem dX0_standAgainst_143 : decode cX0_standAgainst 143 = .ok (.invokevirtual 100, 3) := by decide +kernel
theorem dX0_standAgainst_146 : decode cX0_standAgainst 146 = .ok (.if_icmp .eq 5, 3) := by decide +kernel
theorem dX0_standAgainst_149 : decode cX0_standAgainst 149 = .ok (.iconst 1, 1) := by decide +kernel
theorem dX0_standAgainst_150 : decode cX0_standAgainst 150 = .ok (.ireturn, 1) := by decide +kernel
theorem dX0_standAgainst_151 : decode cX0_standAgainst 151 = .ok (.iinc 9 1, 3) := by decide +kernel
theorem dX0_standAgainst_154 : decode cX0_standAgainst 154 = .ok (.goto (-95), 3) := by decide +kernel
theorem dX0_standAgainst_157 : decode cX0_standAgainst 157 = .ok (.iconst 0, 1) := by decide +kernel
theorem dX0_standAgainst_158 : decode cX0_standAgainst 158 = .ok (.ireturn, 1) := by decide +kernel
set_option maxRecDepth 20000 in
theorem ggX0_seek_X0_weigh : GoodIn wsX0_seek wsX0_weigh := goodIn_r _ [12, 2, 4, 6, 13, 14, 15, 16, 17, 18, 19, 20, 21, 22, 23, 24, 25, 26, 27, 28, 29, 30, 31, 32, 33, 34, 35, 36, 37, 57, 58, 59, 60, 61, 62, 63, 64, 65, 66, 46, 47, 48, 49, 50, 67, 68, 69, 70, 71] (by decide +kernel) (by decide +kernel)
set_option maxRecDepth 20000 in
theorem gX0_seek_X0_weigh : GoodIn wsX0_seek (wsV RX0 104 RX0 yX0_weigh wsX0_weigh) := goodIn_app (goodIn_of _ (by decide +kernel)) ggX0_seek_X0_weigh
set_option maxRecDepth 20000 in
theorem ggX0_seek_X0_isAllowed : GoodIn wsX0_seek wsX0_isAllowed := goodIn_r _ [41, 42, 57, 58, 59, 60, 61, 62, 63, 64, 65, 66] (by decide +kernel) (by decide +kernel)
set_option maxRecDepth 20000 in
theorem gX0_seek_X0_isAllowed : GoodIn wsX0_seek (wsV RX0 50 RX0 yX0_isAllowed wsX0_isAllowed) := goodIn_app (goodIn_of _ (by decide +kernel)) ggX0_seek_X0_isAllowed
set_option maxRecDepth 20000 in
theorem ggX0_seek_X0_seek : GoodIn wsX0_seek wsX0_seek := goodIn_r _ [0, 1, 2, 3, 4, 5, 6, 7, 8, 9, 10, 11, 12, 13, 14, 15, 16, 17, 18, 19, 20, 21, 22, 23, 24, 25, 26, 27, 28, 29, 30, 31, 32, 33, 34, 35, 36, 37, 38, 39, 40, 41, 42, 43, 44, 45, 46, 47, 48, 49, 50, 51, 52, 53, 54, 55, 56, 57, 58, 59, 60, 61, 62, 63, 64, 65, 66, 67, 68, 69, 70, 71] (by decide +kernel) (by decide +kernel)
set_option maxRecDepth 20000 in
theorem gX0_seek_X0_seek : GoodIn wsX0_seek (wsV RX0 58 RX0 yX0_seek wsX0_seek) := goodIn_app (goodIn_of _ (by decide +kernel)) ggX0_seek_X0_seek
theorem dX0_seek_0 : decode cX0_seek 0 = .ok (.iload_n 2, 1) := by decide +kernel
theorem dX0_seek_1 : decode cX0_seek 1 = .ok (.bipush 8, 2) := by decide +kernel
theorem dX0_seek_3 : decode cX0_seek 3 = .ok (.if_icmp .ge 14, 3) := by decide +kernel
theorem dX0_seek_6 : decode cX0_seek 6 = .ok (.iload_n 2, 1) := by decide +kernel
theorem dX0_seek_7 : decode cX0_seek 7 = .ok (.aload_n 1, 1) := by decide +kernel
theorem dX0_seek_8 : decode cX0_seek 8 = .ok (.getfield 62, 3) := by decide +kernel
theorem dX0_seek_11 : decode cX0_seek 11 = .ok (.getfield 68, 3) := by decide +kernel
theorem dX0_seek_14 : decode cX0_seek 14 = .ok (.if_icmp .lt 13, 3) := by decide +kernel
theorem dX0_seek_17 : decode cX0_seek 17 = .ok (.aload_n 0, 1) := by decide +kernel
theorem dX0_seek_18 : decode cX0_seek 18 = .ok (.aload_n 1, 1) := by decide +kernel
theorem dX0_seek_19 : decode cX0_seek 19 = .ok (.iload 4, 2) := by decide +kernel
theorem dX0_seek_21 : decode cX0_seek 21 = .ok (.iload 5, 2) := by decide +kernel
theorem dX0_seek_23 : decode cX0_seek 23 = .ok (.invokevirtual 104, 3) := by decide +kernel
theorem dX0_seek_26 : decode cX0_seek 26 = .ok (.return_, 1) := by decide +kernel
theorem dX0_seek_27 : decode cX0_seek 27 = .ok (.iload 4, 2) := by decide +kernel
theorem dX0_seek_29 : decode cX0_seek 29 = .ok (.aload_n 0, 1) := by decide +kernel
theorem dX0_seek_30 : decode cX0_seek 30 = .ok (.getfield 21, 3) := by decide +kernel
theorem dX0_seek_33 : decode cX0_seek 33 = .ok (.iload_n 2, 1) := by decide +kernel
theorem dX0_seek_34 : decode cX0_seek 34 = .ok (.iaload, 1) := by decide +kernel
theorem dX0_seek_35 : decode cX0_seek 35 = .ok (.iadd, 1) := by decide +kernel
theorem dX0_seek_36 : decode cX0_seek 36 = .ok (.istore 6, 2) := by decide +kernel
theorem dX0_seek_38 : decode cX0_seek 38 = .ok (.iload 6, 2) := by decide +kernel
theorem dX0_seek_40 : decode cX0_seek 40 = .ok (.aload_n 0, 1) := by decide +kernel
theorem dX0_seek_41 : decode cX0_seek 41 = .ok (.getfield 34, 3) := by decide +kernel
theorem dX0_seek_44 : decode cX0_seek 44 = .ok (.if_icmp .lt 28, 3) := by decide +kernel
theorem dX0_seek_47 : decode cX0_seek 47 = .ok (.iload 6, 2) := by decide +kernel
theorem dX0_seek_49 : decode cX0_seek 49 = .ok (.aload_n 0, 1) := by decide +kernel
theorem dX0_seek_50 : decode cX0_seek 50 = .ok (.getfield 34, 3) := by decide +kernel
theorem dX0_seek_53 : decode cX0_seek 53 = .ok (.if_icmp .ne 20, 3) := by decide +kernel
theorem dX0_seek_56 : decode cX0_seek 56 = .ok (.iload 5, 2) := by decide +kernel
theorem dX0_seek_58 : decode cX0_seek 58 = .ok (.aload_n 0, 1) := by decide +kernel
theorem dX0_seek_59 : decode cX0_seek 59 = .ok (.getfield 18, 3) := by decide +kernel
theorem dX0_seek_62 : decode cX0_seek 62 = .ok (.iload_n 2, 1) := by decide +kernel
theorem dX0_seek_63 : decode cX0_seek 63 = .ok (.iaload, 1) := by decide +kernel
theorem dX0_seek_64 : decode cX0_seek 64 = .ok (.iadd, 1) := by decide +kernel
theorem dX0_seek_65 : decode cX0_seek 65 = .ok (.aload_n 0, 1) := by decide +kernel
theorem dX0_seek_66 : decode cX0_seek 66 = .ok (.getfield 37, 3) := by decide +kernel
theorem dX0_seek_69 : decode cX0_seek 69 = .ok (.if_icmp .ge 4, 3) := by decide +kernel
theorem dX0_seek_72 : decode cX0_seek 72 = .ok (.return_, 1) := by decide +kernel
theorem dX0_seek_73 : decode cX0_seek 73 = .ok (.iconst 0, 1) := by decide +kernel
theorem dX0_seek_74 : decode cX0_seek 74 = .ok (.istore 7, 2) := by decide +kernel
theorem dX0_seek_76 : decode cX0_seek 76 = .ok (.iload 7, 2) := by decide +kernel
theorem dX0_seek_78 : decode cX0_seek 78 = .ok (.iconst 4, 1) := by decide +kernel
theorem dX0_seek_79 : decode cX0_seek 79 = .ok (.if_icmp .ge 75, 3) := by decide +kernel
theorem dX0_seek_82 : decode cX0_seek 82 = .ok (.iload_n 2, 1) := by decide +kernel
theorem dX0_seek_83 : decode cX0_seek 83 = .ok (.iconst 4, 1) := by decide +kernel
theorem dX0_seek_84 : decode cX0_seek 84 = .ok (.imul, 1) := by decide +kernel
theorem dX0_seek_85 : decode cX0_seek 85 = .ok (.iload 7, 2) := by decide +kernel
theorem dX0_seek_87 : decode cX0_seek 87 = .ok (.iadd, 1) := by decide +kernel
theorem dX0_seek_88 : decode cX0_seek 88 = .ok (.istore 8, 2) := by decide +kernel
theorem dX0_seek_90 : decode cX0_seek 90 = .ok (.aload_n 0, 1) := by decide +kernel
theorem dX0_seek_91 : decode cX0_seek 91 = .ok (.iload 8, 2) := by decide +kernel
theorem dX0_seek_93 : decode cX0_seek 93 = .ok (.invokevirtual 50, 3) := by decide +kernel
theorem dX0_seek_96 : decode cX0_seek 96 = .ok (.ifCond .eq 52, 3) := by decide +kernel
theorem dX0_seek_99 : decode cX0_seek 99 = .ok (.aload_n 0, 1) := by decide +kernel
theorem dX0_seek_100 : decode cX0_seek 100 = .ok (.getfield 15, 3) := by decide +kernel
theorem dX0_seek_103 : decode cX0_seek 103 = .ok (.iload 8, 2) := by decide +kernel
theorem dX0_seek_105 : decode cX0_seek 105 = .ok (.iaload, 1) := by decide +kernel
theorem dX0_seek_106 : decode cX0_seek 106 = .ok (.iload_n 3, 1) := by decide +kernel
theorem dX0_seek_107 : decode cX0_seek 107 = .ok (.iand, 1) := by decide +kernel
theorem dX0_seek_108 : decode cX0_seek 108 = .ok (.ifCond .ne 40, 3) := by decide +kernel
theorem dX0_seek_111 : decode cX0_seek 111 = .ok (.aload_n 0, 1) := by decide +kernel
theorem dX0_seek_112 : decode cX0_seek 112 = .ok (.getfield 24, 3) := by decide +kernel
theorem dX0_seek_115 : decode cX0_seek 115 = .ok (.iload_n 2, 1) := by decide +kernel
theorem dX0_seek_116 : decode cX0_seek 116 = .ok (.iload 7, 2) := by decide +kernel
theorem dX0_seek_118 : decode cX0_seek 118 = .ok (.iastore, 1) := by decide +kernel
theorem dX0_seek_119 : decode cX0_seek 119 = .ok (.aload_n 0, 1) := by decide +kernel
theorem dX0_seek_120 : decode cX0_seek 120 = .ok (.aload_n 1, 1) := by decide +kernel
theorem dX0_seek_121 : decode cX0_seek 121 = .ok (.iload_n 2, 1) := by decide +kernel
theorem dX0_seek_122 : decode cX0_seek 122 = .ok (.iconst 1, 1) := by decide +kernel
theorem dX0_seek_123 : decode cX0_seek 123 = .ok (.iadd, 1) := by decide +kernel
theorem dX0_seek_124 : decode cX0_seek 124 = .ok (.iload_n 3, 1) := by decide +kernel
theorem dX0_seek_125 : decode cX0_seek 125 = .ok (.iconst 1, 1) := by decide +kernel
theorem dX0_seek_126 : decode cX0_seek 126 = .ok (.iload 8, 2) := by decide +kernel
theorem dX0_seek_128 : decode cX0_seek 128 = .ok (.ishl, 1) := by decide +kernel
theorem dX0_seek_129 : decode cX0_seek 129 = .ok (.ior, 1) := by decide +kernel
theorem dX0_seek_130 : decode cX0_seek 130 = .ok (.iload 4, 2) := by decide +kernel
theorem dX0_seek_132 : decode cX0_seek 132 = .ok (.aload_n 0, 1) := by decide +kernel
theorem dX0_seek_133 : decode cX0_seek 133 = .ok (.getfield 30, 3) := by decide +kernel
theorem dX0_seek_136 : decode cX0_seek 136 = .ok (.iload_n 2, 1) := by decide +kernel
theorem dX0_seek_137 : decode cX0_seek 137 = .ok (.ishr, 1) := by decide +kernel
theorem dX0_seek_138 : decode cX0_seek 138 = .ok (.iconst 1, 1) := by decide +kernel
theorem dX0_seek_139 : decode cX0_seek 139 = .ok (.iand, 1) := by decide +kernel
theorem dX0_seek_140 : decode cX0_seek 140 = .ok (.iadd, 1) := by decide +kernel
theorem dX0_seek_141 : decode cX0_seek 141 = .ok (.iload 5, 2) := by decide +kernel
theorem dX0_seek_143 : decode cX0_seek 143 = .ok (.iconst 1, 1) := by decide +kernel
theorem dX0_seek_144 : decode cX0_seek 144 = .ok (.iadd, 1) := by decide +kernel
theorem dX0_seek_145 : decode cX0_seek 145 = .ok (.invokevirtual 58, 3) := by decide +kernel
theorem dX0_seek_148 : decode cX0_seek 148 = .ok (.iinc 7 1, 3) := by decide +kernel
theorem dX0_seek_151 : decode cX0_seek 151 = .ok (.goto (-75), 3) := by decide +kernel
theorem dX0_seek_154 : decode cX0_seek 154 = .ok (.aload_n 0, 1) := by decide +kernel
theorem dX0_seek_155 : decode cX0_seek 155 = .ok (.getfield 24, 3) := by decide +kernel
theorem dX0_seek_158 : decode cX0_seek 158 = .ok (.iload_n 2, 1) := by decide +kernel
theorem dX0_seek_159 : decode cX0_seek 159 = .ok (.iconst (-1), 1) := by decide +kernel
theorem dX0_seek_160 : decode cX0_seek 160 = .ok (.iastore, 1) := by decide +kernel
theorem dX0_seek_161 : decode cX0_seek 161 = .ok (.aload_n 0, 1) := by decide +kernel
theorem dX0_seek_162 : decode cX0_seek 162 = .ok (.aload_n 1, 1) := by decide +kernel
theorem dX0_seek_163 : decode cX0_seek 163 = .ok (.iload_n 2, 1) := by decide +kernel
theorem dX0_seek_164 : decode cX0_seek 164 = .ok (.iconst 1, 1) := by decide +kernel
theorem dX0_seek_165 : decode cX0_seek 165 = .ok (.iadd, 1) := by decide +kernel
theorem dX0_seek_166 : decode cX0_seek 166 = .ok (.iload_n 3, 1) := by decide +kernel
theorem dX0_seek_167 : decode cX0_seek 167 = .ok (.iload 4, 2) := by decide +kernel
theorem dX0_seek_169 : decode cX0_seek 169 = .ok (.iload 5, 2) := by decide +kernel
theorem dX0_seek_171 : decode cX0_seek 171 = .ok (.invokevirtual 58, 3) := by decide +kernel
theorem dX0_seek_174 : decode cX0_seek 174 = .ok (.return_, 1) := by decide +kernel
set_option maxRecDepth 20000 in
theorem ggX0_weigh_X4_turningBy : GoodIn wsX0_weigh wsX4_turningBy := goodIn_r _ [10, 11, 12, 13, 14, 9, 15, 16, 17, 18, 19, 20, 21, 22, 23, 24, 25, 26, 27, 28, 44, 45, 46, 47, 48] (by decide +kernel) (by decide +kernel)
set_option maxRecDepth 20000 in
theorem gX0_weigh_X4_turningBy : GoodIn wsX0_weigh (wsV RX0 117 RX4 yX4_turningBy wsX4_turningBy) := goodIn_app (goodIn_of _ (by decide +kernel)) ggX0_weigh_X4_turningBy
theorem dX0_weigh_0 : decode cX0_weigh 0 = .ok (.iload_n 2, 1) := by decide +kernel
theorem dX0_weigh_1 : decode cX0_weigh 1 = .ok (.aload_n 0, 1) := by decide +kernel
theorem dX0_weigh_2 : decode cX0_weigh 2 = .ok (.getfield 34, 3) := by decide +kernel
theorem dX0_weigh_5 : decode cX0_weigh 5 = .ok (.if_icmp .ne 15, 3) := by decide +kernel
theorem dX0_weigh_8 : decode cX0_weigh 8 = .ok (.iload_n 3, 1) := by decide +kernel
theorem dX0_weigh_9 : decode cX0_weigh 9 = .ok (.aload_n 0, 1) := by decide +kernel
theorem dX0_weigh_10 : decode cX0_weigh 10 = .ok (.getfield 37, 3) := by decide +kernel
theorem dX0_weigh_13 : decode cX0_weigh 13 = .ok (.if_icmp .ne 7, 3) := by decide +kernel
theorem dX0_weigh_16 : decode cX0_weigh 16 = .ok (.iconst 1, 1) := by decide +kernel
theorem dX0_weigh_17 : decode cX0_weigh 17 = .ok (.goto 4, 3) := by decide +kernel
theorem dX0_weigh_20 : decode cX0_weigh 20 = .ok (.iconst 0, 1) := by decide +kernel
theorem dX0_weigh_21 : decode cX0_weigh 21 = .ok (.istore 4, 2) := by decide +kernel
theorem dX0_weigh_23 : decode cX0_weigh 23 = .ok (.iload_n 2, 1) := by decide +kernel
theorem dX0_weigh_24 : decode cX0_weigh 24 = .ok (.aload_n 0, 1) := by decide +kernel
theorem dX0_weigh_25 : decode cX0_weigh 25 = .ok (.getfield 34, 3) := by decide +kernel
theorem dX0_weigh_28 : decode cX0_weigh 28 = .ok (.if_icmp .gt 19, 3) := by decide +kernel
theorem dX0_weigh_31 : decode cX0_weigh 31 = .ok (.iload_n 2, 1) := by decide +kernel
theorem dX0_weigh_32 : decode cX0_weigh 32 = .ok (.aload_n 0, 1) := by decide +kernel
theorem dX0_weigh_33 : decode cX0_weigh 33 = .ok (.getfield 34, 3) := by decide +kernel
theorem dX0_weigh_36 : decode cX0_weigh 36 = .ok (.if_icmp .ne 15, 3) := by decide +kernel
theorem dX0_weigh_39 : decode cX0_weigh 39 = .ok (.iload_n 3, 1) := by decide +kernel
theorem dX0_weigh_40 : decode cX0_weigh 40 = .ok (.aload_n 0, 1) := by decide +kernel
theorem dX0_weigh_41 : decode cX0_weigh 41 = .ok (.getfield 37, 3) := by decide +kernel
theorem dX0_weigh_44 : decode cX0_weigh 44 = .ok (.if_icmp .le 7, 3) := by decide +kernel
theorem dX0_weigh_47 : decode cX0_weigh 47 = .ok (.iconst 1, 1) := by decide +kernel
theorem dX0_weigh_48 : decode cX0_weigh 48 = .ok (.goto 4, 3) := by decide +kernel
theorem dX0_weigh_51 : decode cX0_weigh 51 = .ok (.iconst 0, 1) := by decide +kernel
theorem dX0_weigh_52 : decode cX0_weigh 52 = .ok (.istore 5, 2) := by decide +kernel
theorem dX0_weigh_54 : decode cX0_weigh 54 = .ok (.iload 4, 2) := by decide +kernel
theorem dX0_weigh_56 : decode cX0_weigh 56 = .ok (.ifCond .ne 9, 3) := by decide +kernel
theorem dX0_weigh_59 : decode cX0_weigh 59 = .ok (.iload 5, 2) := by decide +kernel
theorem dX0_weigh_61 : decode cX0_weigh 61 = .ok (.ifCond .ne 4, 3) := by decide +kernel
theorem dX0_weigh_64 : decode cX0_weigh 64 = .ok (.return_, 1) := by decide +kernel
theorem dX0_weigh_65 : decode cX0_weigh 65 = .ok (.aload_n 1, 1) := by decide +kernel
theorem dX0_weigh_66 : decode cX0_weigh 66 = .ok (.getfield 108, 3) := by decide +kernel
theorem dX0_weigh_69 : decode cX0_weigh 69 = .ok (.aload_n 0, 1) := by decide +kernel
theorem dX0_weigh_70 : decode cX0_weigh 70 = .ok (.getfield 24, 3) := by decide +kernel
theorem dX0_weigh_73 : decode cX0_weigh 73 = .ok (.aload_n 1, 1) := by decide +kernel
theorem dX0_weigh_74 : decode cX0_weigh 74 = .ok (.getfield 108, 3) := by decide +kernel
theorem dX0_weigh_77 : decode cX0_weigh 77 = .ok (.getfield 112, 3) := by decide +kernel
theorem dX0_weigh_80 : decode cX0_weigh 80 = .ok (.invokevirtual 117, 3) := by decide +kernel
theorem dX0_weigh_83 : decode cX0_weigh 83 = .ok (.istore 6, 2) := by decide +kernel
theorem dX0_weigh_85 : decode cX0_weigh 85 = .ok (.iload 5, 2) := by decide +kernel
theorem dX0_weigh_87 : decode cX0_weigh 87 = .ok (.ifCond .ne 12, 3) := by decide +kernel
theorem dX0_weigh_90 : decode cX0_weigh 90 = .ok (.iload 6, 2) := by decide +kernel
theorem dX0_weigh_92 : decode cX0_weigh 92 = .ok (.aload_n 0, 1) := by decide +kernel
theorem dX0_weigh_93 : decode cX0_weigh 93 = .ok (.getfield 40, 3) := by decide +kernel
theorem dX0_weigh_96 : decode cX0_weigh 96 = .ok (.if_icmp .ge 49, 3) := by decide +kernel
theorem dX0_weigh_99 : decode cX0_weigh 99 = .ok (.aload_n 0, 1) := by decide +kernel
theorem dX0_weigh_100 : decode cX0_weigh 100 = .ok (.iload_n 2, 1) := by decide +kernel
theorem dX0_weigh_101 : decode cX0_weigh 101 = .ok (.putfield 34, 3) := by decide +kernel
theorem dX0_weigh_104 : decode cX0_weigh 104 = .ok (.aload_n 0, 1) := by decide +kernel
theorem dX0_weigh_105 : decode cX0_weigh 105 = .ok (.iload_n 3, 1) := by decide +kernel
theorem dX0_weigh_106 : decode cX0_weigh 106 = .ok (.putfield 37, 3) := by decide +kernel
theorem dX0_weigh_109 : decode cX0_weigh 109 = .ok (.aload_n 0, 1) := by decide +kernel
theorem dX0_weigh_110 : decode cX0_weigh 110 = .ok (.iload 6, 2) := by decide +kernel
theorem dX0_weigh_112 : decode cX0_weigh 112 = .ok (.putfield 40, 3) := by decide +kernel
theorem dX0_weigh_115 : decode cX0_weigh 115 = .ok (.iconst 0, 1) := by decide +kernel
theorem dX0_weigh_116 : decode cX0_weigh 116 = .ok (.istore 7, 2) := by decide +kernel
theorem dX0_weigh_118 : decode cX0_weigh 118 = .ok (.iload 7, 2) := by decide +kernel
theorem dX0_weigh_120 : decode cX0_weigh 120 = .ok (.bipush 8, 2) := by decide +kernel
theorem dX0_weigh_122 : decode cX0_weigh 122 = .ok (.if_icmp .ge 23, 3) := by decide +kernel
theorem dX0_weigh_125 : decode cX0_weigh 125 = .ok (.aload_n 0, 1) := by decide +kernel
theorem dX0_weigh_126 : decode cX0_weigh 126 = .ok (.getfield 27, 3) := by decide +kernel
theorem dX0_weigh_129 : decode cX0_weigh 129 = .ok (.iload 7, 2) := by decide +kernel
theorem dX0_weigh_131 : decode cX0_weigh 131 = .ok (.aload_n 0, 1) := by decide +kernel
theorem dX0_weigh_132 : decode cX0_weigh 132 = .ok (.getfield 24, 3) := by decide +kernel
theorem dX0_weigh_135 : decode cX0_weigh 135 = .ok (.iload 7, 2) := by decide +kernel
theorem dX0_weigh_137 : decode cX0_weigh 137 = .ok (.iaload, 1) := by decide +kernel
theorem dX0_weigh_138 : decode cX0_weigh 138 = .ok (.iastore, 1) := by decide +kernel
theorem dX0_weigh_139 : decode cX0_weigh 139 = .ok (.iinc 7 1, 3) := by decide +kernel
theorem dX0_weigh_142 : decode cX0_weigh 142 = .ok (.goto (-24), 3) := by decide +kernel
theorem dX0_weigh_145 : decode cX0_weigh 145 = .ok (.return_, 1) := by decide +kernel
