theorem dX5_readHarbour_26 : decode cX5_readHarbour 26 = .ok (.invokevirtual 193, 3) := by decide +kernel
theorem dX5_readHarbour_29 : decode cX5_readHarbour 29 = .ok (.ifCond .ne 5, 3) := by decide +kernel
theorem dX5_readHarbour_32 : decode cX5_readHarbour 32 = .ok (.iconst 0, 1) := by decide +kernel
theorem dX5_readHarbour_33 : decode cX5_readHarbour 33 = .ok (.ireturn, 1) := by decide +kernel
theorem dX5_readHarbour_34 : decode cX5_readHarbour 34 = .ok (.aload_n 0, 1) := by decide +kernel
theorem dX5_readHarbour_35 : decode cX5_readHarbour 35 = .ok (.invokevirtual 196, 3) := by decide +kernel
theorem dX5_readHarbour_38 : decode cX5_readHarbour 38 = .ok (.iconst (-1), 1) := by decide +kernel
theorem dX5_readHarbour_39 : decode cX5_readHarbour 39 = .ok (.if_icmp .eq 13, 3) := by decide +kernel
theorem dX5_readHarbour_42 : decode cX5_readHarbour 42 = .ok (.aload_n 0, 1) := by decide +kernel
theorem dX5_readHarbour_43 : decode cX5_readHarbour 43 = .ok (.iconst 3, 1) := by decide +kernel
theorem dX5_readHarbour_44 : decode cX5_readHarbour 44 = .ok (.aload_n 0, 1) := by decide +kernel
theorem dX5_readHarbour_45 : decode cX5_readHarbour 45 = .ok (.getfield 85, 3) := by decide +kernel
theorem dX5_readHarbour_48 : decode cX5_readHarbour 48 = .ok (.invokevirtual 95, 3) := by decide +kernel
theorem dX5_readHarbour_51 : decode cX5_readHarbour 51 = .ok (.ireturn, 1) := by decide +kernel
theorem dX5_readHarbour_52 : decode cX5_readHarbour 52 = .ok (.aload_n 0, 1) := by decide +kernel
theorem dX5_readHarbour_53 : decode cX5_readHarbour 53 = .ok (.getfield 85, 3) := by decide +kernel
theorem dX5_readHarbour_56 : decode cX5_readHarbour 56 = .ok (.istore_n 1, 1) := by decide +kernel
theorem dX5_readHarbour_57 : decode cX5_readHarbour 57 = .ok (.aload_n 0, 1) := by decide +kernel
theorem dX5_readHarbour_58 : decode cX5_readHarbour 58 = .ok (.getfield 92, 3) := by decide +kernel
theorem dX5_readHarbour_61 : decode cX5_readHarbour 61 = .ok (.istore_n 2, 1) := by decide +kernel
theorem dX5_readHarbour_62 : decode cX5_readHarbour 62 = .ok (.aload_n 0, 1) := by decide +kernel
theorem dX5_readHarbour_63 : decode cX5_readHarbour 63 = .ok (.invokevirtual 183, 3) := by decide +kernel
theorem dX5_readHarbour_66 : decode cX5_readHarbour 66 = .ok (.ifCond .ne 5, 3) := by decide +kernel
theorem dX5_readHarbour_69 : decode cX5_readHarbour 69 = .ok (.iconst 0, 1) := by decide +kernel
theorem dX5_readHarbour_70 : decode cX5_readHarbour 70 = .ok (.ireturn, 1) := by decide +kernel
theorem dX5_readHarbour_71 : decode cX5_readHarbour 71 = .ok (.aload_n 0, 1) := by decide +kernel
theorem dX5_readHarbour_72 : decode cX5_readHarbour 72 = .ok (.getfield 12, 3) := by decide +kernel
theorem dX5_readHarbour_75 : decode cX5_readHarbour 75 = .ok (.aload_n 0, 1) := by decide +kernel
theorem dX5_readHarbour_76 : decode cX5_readHarbour 76 = .ok (.getfield 155, 3) := by decide +kernel
theorem dX5_readHarbour_79 : decode cX5_readHarbour 79 = .ok (.invokevirtual 199, 3) := by decide +kernel
theorem dX5_readHarbour_82 : decode cX5_readHarbour 82 = .ok (.ifCond .eq 35, 3) := by decide +kernel
theorem dX5_readHarbour_85 : decode cX5_readHarbour 85 = .ok (.aload_n 0, 1) := by decide +kernel
theorem dX5_readHarbour_86 : decode cX5_readHarbour 86 = .ok (.getfield 12, 3) := by decide +kernel
theorem dX5_readHarbour_89 : decode cX5_readHarbour 89 = .ok (.aload_n 0, 1) := by decide +kernel
theorem dX5_readHarbour_90 : decode cX5_readHarbour 90 = .ok (.getfield 155, 3) := by decide +kernel
theorem dX5_readHarbour_93 : decode cX5_readHarbour 93 = .ok (.invokevirtual 202, 3) := by decide +kernel
theorem dX5_readHarbour_96 : decode cX5_readHarbour 96 = .ok (.ifCond .ne 21, 3) := by decide +kernel
theorem dX5_readHarbour_99 : decode cX5_readHarbour 99 = .ok (.aload_n 0, 1) := by decide +kernel
theorem dX5_readHarbour_100 : decode cX5_readHarbour 100 = .ok (.getfield 12, 3) := by decide +kernel
theorem dX5_readHarbour_103 : decode cX5_readHarbour 103 = .ok (.getfield 140, 3) := by decide +kernel
theorem dX5_readHarbour_106 : decode cX5_readHarbour 106 = .ok (.aload_n 0, 1) := by decide +kernel
theorem dX5_readHarbour_107 : decode cX5_readHarbour 107 = .ok (.getfield 155, 3) := by decide +kernel
theorem dX5_readHarbour_110 : decode cX5_readHarbour 110 = .ok (.iconst (-1), 1) := by decide +kernel
theorem dX5_readHarbour_111 : decode cX5_readHarbour 111 = .ok (.invokevirtual 205, 3) := by decide +kernel
theorem dX5_readHarbour_114 : decode cX5_readHarbour 114 = .ok (.ifCond .ne 13, 3) := by decide +kernel
theorem dX5_readHarbour_117 : decode cX5_readHarbour 117 = .ok (.aload_n 0, 1) := by decide +kernel
theorem dX5_readHarbour_118 : decode cX5_readHarbour 118 = .ok (.iconst 3, 1) := by decide +kernel
theorem dX5_readHarbour_119 : decode cX5_readHarbour 119 = .ok (.aload_n 0, 1) := by decide +kernel
theorem dX5_readHarbour_120 : decode cX5_readHarbour 120 = .ok (.getfield 107, 3) := by decide +kernel
theorem dX5_readHarbour_123 : decode cX5_readHarbour 123 = .ok (.invokevirtual 95, 3) := by decide +kernel
theorem dX5_readHarbour_126 : decode cX5_readHarbour 126 = .ok (.ireturn, 1) := by decide +kernel
theorem dX5_readHarbour_127 : decode cX5_readHarbour 127 = .ok (.aload_n 0, 1) := by decide +kernel
theorem dX5_readHarbour_128 : decode cX5_readHarbour 128 = .ok (.getfield 12, 3) := by decide +kernel
theorem dX5_readHarbour_131 : decode cX5_readHarbour 131 = .ok (.getfield 125, 3) := by decide +kernel
theorem dX5_readHarbour_134 : decode cX5_readHarbour 134 = .ok (.aload_n 0, 1) := by decide +kernel
theorem dX5_readHarbour_135 : decode cX5_readHarbour 135 = .ok (.getfield 155, 3) := by decide +kernel
theorem dX5_readHarbour_138 : decode cX5_readHarbour 138 = .ok (.aload_n 0, 1) := by decide +kernel
theorem dX5_readHarbour_139 : decode cX5_readHarbour 139 = .ok (.getfield 25, 3) := by decide +kernel
theorem dX5_readHarbour_142 : decode cX5_readHarbour 142 = .ok (.iload_n 1, 1) := by decide +kernel
theorem dX5_readHarbour_143 : decode cX5_readHarbour 143 = .ok (.iload_n 2, 1) := by decide +kernel
theorem dX5_readHarbour_144 : decode cX5_readHarbour 144 = .ok (.invokevirtual 208, 3) := by decide +kernel
theorem dX5_readHarbour_147 : decode cX5_readHarbour 147 = .ok (.aload_n 0, 1) := by decide +kernel
theorem dX5_readHarbour_148 : decode cX5_readHarbour 148 = .ok (.aload_n 0, 1) := by decide +kernel
theorem dX5_readHarbour_149 : decode cX5_readHarbour 149 = .ok (.getfield 12, 3) := by decide +kernel
theorem dX5_readHarbour_152 : decode cX5_readHarbour 152 = .ok (.getfield 125, 3) := by decide +kernel
theorem dX5_readHarbour_155 : decode cX5_readHarbour 155 = .ok (.getfield 129, 3) := by decide +kernel
theorem dX5_readHarbour_158 : decode cX5_readHarbour 158 = .ok (.iconst 1, 1) := by decide +kernel
theorem dX5_readHarbour_159 : decode cX5_readHarbour 159 = .ok (.isub, 1) := by decide +kernel
theorem dX5_readHarbour_160 : decode cX5_readHarbour 160 = .ok (.invokevirtual 212, 3) := by decide +kernel
theorem dX5_readHarbour_163 : decode cX5_readHarbour 163 = .ok (.ireturn, 1) := by decide +kernel
set_option maxRecDepth 20000 in
theorem ggX5_readRed_X5_nextSign : GoodIn wsX5_readRed wsX5_nextSign := goodIn_r _ [7, 8, 9, 10, 11, 12, 6, 13, 14, 88, 89, 90, 91, 92, 93, 94, 95, 96, 97, 98, 99, 100, 101] (by decide +kernel) (by decide +kernel)
set_option maxRecDepth 20000 in
theorem gX5_readRed_X5_nextSign : GoodIn wsX5_readRed (wsV RX5 53 RX5 yX5_nextSign wsX5_nextSign) := goodIn_app (goodIn_of _ (by decide +kernel)) ggX5_readRed_X5_nextSign
set_option maxRecDepth 20000 in
theorem ggX5_readRed_X5_isLetter : GoodIn wsX5_readRed wsX5_isLetter := goodIn_r _ [17] (by decide +kernel) (by decide +kernel)
set_option maxRecDepth 20000 in
theorem gX5_readRed_X5_isLetter : GoodIn wsX5_readRed (va_wsS RX5 88 yX5_isLetter wsX5_isLetter) := goodIn_app (goodIn_of _ (by decide +kernel)) ggX5_readRed_X5_isLetter
set_option maxRecDepth 20000 in
theorem ggX5_readRed_X5_takeWord : GoodIn wsX5_readRed wsX5_takeWord := goodIn_r _ [21, 9, 1, 8, 22, 3, 4, 5, 6, 7, 10, 11, 12, 13, 14, 15, 16, 17, 23, 24, 25, 26, 27, 28, 88, 89, 90, 91, 92, 93, 94, 95, 96, 97, 98, 99, 100, 101] (by decide +kernel) (by decide +kernel)
set_option maxRecDepth 20000 in
theorem gX5_readRed_X5_takeWord : GoodIn wsX5_readRed (wsV RX5 122 RX5 yX5_takeWord wsX5_takeWord) := goodIn_app (goodIn_of _ (by decide +kernel)) ggX5_readRed_X5_takeWord
set_option maxRecDepth 20000 in
theorem ggX5_readRed_X5_wordIs : GoodIn wsX5_readRed wsX5_wordIs := goodIn_r _ [32, 22, 1, 33, 34, 35, 36, 37, 38, 39, 40, 41, 42, 43, 44, 10, 11, 12, 6, 13, 8, 14, 45, 46, 47, 48, 49, 50, 51, 52, 53, 54, 55, 56, 57, 58, 59, 60, 61, 62, 63, 64, 65, 66, 67, 68, 69, 70, 71, 72, 73, 74, 75, 76, 77, 78, 79, 80, 81, 88, 89, 90, 91, 92, 93, 94, 95, 96, 97, 98, 99, 100, 101] (by decide +kernel) (by decide +kernel)
set_option maxRecDepth 20000 in
theorem gX5_readRed_X5_wordIs : GoodIn wsX5_readRed (wsV RX5 160 RX5 yX5_wordIs wsX5_wordIs) := goodIn_app (goodIn_of _ (by decide +kernel)) ggX5_readRed_X5_wordIs
set_option maxRecDepth 20000 in
theorem ggX5_readRed_X5_fail : GoodIn wsX5_readRed wsX5_fail := goodIn_r _ [26, 27, 28, 88, 89, 90, 91, 92, 93, 94, 95, 96, 97, 98, 99, 100, 101] (by decide +kernel) (by decide +kernel)
set_option maxRecDepth 20000 in
theorem gX5_readRed_X5_fail : GoodIn wsX5_readRed (wsV RX5 95 RX5 yX5_fail wsX5_fail) := goodIn_app (goodIn_of _ (by decide +kernel)) ggX5_readRed_X5_fail
set_option maxRecDepth 20000 in
theorem ggX5_readRed_X2_redsIf : GoodIn wsX5_readRed wsX2_redsIf := goodIn_r _ [86, 87, 107, 108, 109, 110, 111, 112] (by decide +kernel) (by decide +kernel)
set_option maxRecDepth 20000 in
theorem gX5_readRed_X2_redsIf : GoodIn wsX5_readRed (wsV RX5 217 RX2 yX2_redsIf wsX2_redsIf) := goodIn_app (goodIn_of _ (by decide +kernel)) ggX5_readRed_X2_redsIf
theorem dX5_readRed_0 : decode cX5_readRed 0 = .ok (.aload_n 0, 1) := by decide +kernel
theorem dX5_readRed_1 : decode cX5_readRed 1 = .ok (.invokevirtual 53, 3) := by decide +kernel
theorem dX5_readRed_4 : decode cX5_readRed 4 = .ok (.invokestatic 88, 3) := by decide +kernel
theorem dX5_readRed_7 : decode cX5_readRed 7 = .ok (.ifCond .ne 5, 3) := by decide +kernel
theorem dX5_readRed_10 : decode cX5_readRed 10 = .ok (.iconst 1, 1) := by decide +kernel
theorem dX5_readRed_11 : decode cX5_readRed 11 = .ok (.ireturn, 1) := by decide +kernel
theorem dX5_readRed_12 : decode cX5_readRed 12 = .ok (.aload_n 0, 1) := by decide +kernel
theorem dX5_readRed_13 : decode cX5_readRed 13 = .ok (.invokevirtual 122, 3) := by decide +kernel
theorem dX5_readRed_16 : decode cX5_readRed 16 = .ok (.pop, 1) := by decide +kernel
theorem dX5_readRed_17 : decode cX5_readRed 17 = .ok (.aload_n 0, 1) := by decide +kernel
theorem dX5_readRed_18 : decode cX5_readRed 18 = .ok (.ldc 215, 2) := by decide +kernel
theorem dX5_readRed_20 : decode cX5_readRed 20 = .ok (.invokevirtual 160, 3) := by decide +kernel
theorem dX5_readRed_23 : decode cX5_readRed 23 = .ok (.ifCond .ne 13, 3) := by decide +kernel
theorem dX5_readRed_26 : decode cX5_readRed 26 = .ok (.aload_n 0, 1) := by decide +kernel
theorem dX5_readRed_27 : decode cX5_readRed 27 = .ok (.iconst 1, 1) := by decide +kernel
theorem dX5_readRed_28 : decode cX5_readRed 28 = .ok (.aload_n 0, 1) := by decide +kernel
theorem dX5_readRed_29 : decode cX5_readRed 29 = .ok (.getfield 85, 3) := by decide +kernel
theorem dX5_readRed_32 : decode cX5_readRed 32 = .ok (.invokevirtual 95, 3) := by decide +kernel
theorem dX5_readRed_35 : decode cX5_readRed 35 = .ok (.ireturn, 1) := by decide +kernel
theorem dX5_readRed_36 : decode cX5_readRed 36 = .ok (.aload_n 0, 1) := by decide +kernel
theorem dX5_readRed_37 : decode cX5_readRed 37 = .ok (.getfield 12, 3) := by decide +kernel
theorem dX5_readRed_40 : decode cX5_readRed 40 = .ok (.getfield 125, 3) := by decide +kernel
theorem dX5_readRed_43 : decode cX5_readRed 43 = .ok (.aload_n 0, 1) := by decide +kernel
theorem dX5_readRed_44 : decode cX5_readRed 44 = .ok (.getfield 12, 3) := by decide +kernel
theorem dX5_readRed_47 : decode cX5_readRed 47 = .ok (.getfield 125, 3) := by decide +kernel
theorem dX5_readRed_50 : decode cX5_readRed 50 = .ok (.iload_n 1, 1) := by decide +kernel
theorem dX5_readRed_51 : decode cX5_readRed 51 = .ok (.iconst 1, 1) := by decide +kernel
theorem dX5_readRed_52 : decode cX5_readRed 52 = .ok (.invokevirtual 217, 3) := by decide +kernel
theorem dX5_readRed_55 : decode cX5_readRed 55 = .ok (.putfield 221, 3) := by decide +kernel
theorem dX5_readRed_58 : decode cX5_readRed 58 = .ok (.iconst 1, 1) := by decide +kernel
theorem dX5_readRed_59 : decode cX5_readRed 59 = .ok (.ireturn, 1) := by decide +kernel
set_option maxRecDepth 20000 in
theorem ggX5_readRiver_X5_fail : GoodIn wsX5_readRiver wsX5_fail := goodIn_r _ [10, 11, 12, 154, 155, 156, 157, 158, 159, 160, 161, 162, 163, 164, 165, 166, 167] (by decide +kernel) (by decide +kernel)
set_option maxRecDepth 20000 in
theorem gX5_readRiver_X5_fail : GoodIn wsX5_readRiver (wsV RX5 95 RX5 yX5_fail wsX5_fail) := goodIn_app (goodIn_of _ (by decide +kernel)) ggX5_readRiver_X5_fail
set_option maxRecDepth 20000 in
theorem ggX5_readRiver_X5_takeCell : GoodIn wsX5_readRiver wsX5_takeCell := goodIn_r _ [16, 1, 17, 4, 18, 19, 20, 9, 21, 22, 5, 23, 24, 25, 26, 27, 28, 29, 30, 31, 32, 33, 34, 35, 36, 37, 38, 39, 6, 7, 8, 10, 11, 12, 154, 155, 156, 157, 158, 159, 160, 161, 162, 163, 164, 165, 166, 167, 168, 169, 170, 171, 172, 173, 174, 175, 176, 177, 178] (by decide +kernel) (by decide +kernel)
set_option maxRecDepth 20000 in
theorem gX5_readRiver_X5_takeCell : GoodIn wsX5_readRiver (wsV RX5 183 RX5 yX5_takeCell wsX5_takeCell) := goodIn_app (goodIn_of _ (by decide +kernel)) ggX5_readRiver_X5_takeCell
set_option maxRecDepth 20000 in
theorem ggX5_readRiver_X7_survey : GoodIn wsX5_readRiver wsX7_survey := goodIn_r _ [44, 45, 25, 26, 27, 46, 47, 48, 49, 50, 51, 52, 53, 54, 55, 56, 57, 58, 59, 60, 61, 62, 63, 64, 65, 66, 67, 68, 69, 70, 71, 72, 73, 74, 75, 76, 77, 78, 79, 80, 81, 82, 83, 84, 85, 86, 87, 88, 89, 90, 91, 92, 93, 94, 95, 96, 43, 97, 98, 99, 100, 101, 102, 168, 169, 170, 171, 172, 179, 180, 181, 182, 173, 174, 175, 176, 177, 178, 183, 184, 185, 186, 187, 188] (by decide +kernel) (by decide +kernel)
set_option maxRecDepth 20000 in
theorem gX5_readRiver_X7_survey : GoodIn wsX5_readRiver (wsV RX5 224 RX7 yX7_survey wsX7_survey) := goodIn_app (goodIn_of _ (by decide +kernel)) ggX5_readRiver_X7_survey
set_option maxRecDepth 20000 in
theorem ggX5_readRiver_X7_trace : GoodIn wsX5_readRiver wsX7_trace := goodIn_r _ [106, 107, 108, 47, 46, 99, 100, 101, 43, 102, 109, 110, 111, 112, 98, 89, 90, 51, 91, 53, 54, 179, 180, 181, 182, 173, 174, 175, 176, 177, 178] (by decide +kernel) (by decide +kernel)
set_option maxRecDepth 20000 in
theorem gX5_readRiver_X7_trace : GoodIn wsX5_readRiver (wsV RX5 228 RX7 yX7_trace wsX7_trace) := goodIn_app (goodIn_of _ (by decide +kernel)) ggX5_readRiver_X7_trace
set_option maxRecDepth 20000 in
theorem ggX5_readRiver_X7_namesOnWay : GoodIn wsX5_readRiver wsX7_namesOnWay := goodIn_r _ [116, 107, 117, 118, 119, 43, 120, 108, 79, 80, 81, 58, 82, 83, 179, 180, 181, 182, 168, 169, 170, 171, 172] (by decide +kernel) (by decide +kernel)
set_option maxRecDepth 20000 in
theorem gX5_readRiver_X7_namesOnWay : GoodIn wsX5_readRiver (wsV RX5 232 RX7 yX7_namesOnWay wsX7_namesOnWay) := goodIn_app (goodIn_of _ (by decide +kernel)) ggX5_readRiver_X7_namesOnWay
set_option maxRecDepth 20000 in
theorem ggX5_readRiver_X6_takeNames : GoodIn wsX5_readRiver wsX6_takeNames := goodIn_r _ [124, 61, 125, 126, 127, 58, 128, 60, 83, 129, 130, 131, 75, 132, 77, 78, 133, 134, 135, 136, 137, 138, 139, 140, 141, 142, 143, 89, 90, 51, 91, 53, 54, 144, 145, 146, 147, 168, 169, 170, 171, 172, 183, 184, 185, 186, 187, 188, 173, 174, 175, 176, 177, 178] (by decide +kernel) (by decide +kernel)
set_option maxRecDepth 20000 in
theorem gX5_readRiver_X6_takeNames : GoodIn wsX5_readRiver (wsV RX5 236 RX6 yX6_takeNames wsX6_takeNames) := goodIn_app (goodIn_of _ (by decide +kernel)) ggX5_readRiver_X6_takeNames
set_option maxRecDepth 20000 in
theorem ggX5_readRiver_X1_layRiver : GoodIn wsX5_readRiver wsX1_layRiver := goodIn_r _ [151, 71, 152, 153, 173, 174, 175, 176, 177, 178] (by decide +kernel) (by decide +kernel)
set_option maxRecDepth 20000 in
theorem gX5_readRiver_X1_layRiver : GoodIn wsX5_readRiver (wsV RX5 244 RX1 yX1_layRiver wsX1_layRiver) := goodIn_app (goodIn_of _ (by decide +kernel)) ggX5_readRiver_X1_layRiver
theorem dX5_readRiver_0 : decode cX5_readRiver 0 = .ok (.aload_n 0, 1) := by decide +kernel
theorem dX5_readRiver_1 : decode cX5_readRiver 1 = .ok (.getfield 12, 3) := by decide +kernel
theorem dX5_readRiver_4 : decode cX5_readRiver 4 = .ok (.getfield 140, 3) := by decide +kernel
theorem dX5_readRiver_7 : decode cX5_readRiver 7 = .ok (.getfield 180, 3) := by decide +kernel
theorem dX5_readRiver_10 : decode cX5_readRiver 10 = .ok (.bipush 8, 2) := by decide +kernel
theorem dX5_readRiver_12 : decode cX5_readRiver 12 = .ok (.if_icmp .lt 13, 3) := by decide +kernel
theorem dX5_readRiver_15 : decode cX5_readRiver 15 = .ok (.aload_n 0, 1) := by decide +kernel
theorem dX5_readRiver_16 : decode cX5_readRiver 16 = .ok (.iconst 3, 1) := by decide +kernel
theorem dX5_readRiver_17 : decode cX5_readRiver 17 = .ok (.aload_n 0, 1) := by decide +kernel
theorem dX5_readRiver_18 : decode cX5_readRiver 18 = .ok (.getfield 85, 3) := by decide +kernel
theorem dX5_readRiver_21 : decode cX5_readRiver 21 = .ok (.invokevirtual 95, 3) := by decide +kernel
theorem dX5_readRiver_24 : decode cX5_readRiver 24 = .ok (.ireturn, 1) := by decide +kernel
theorem dX5_readRiver_25 : decode cX5_readRiver 25 = .ok (.aload_n 0, 1) := by decide +kernel
theorem dX5_readRiver_26 : decode cX5_readRiver 26 = .ok (.invokevirtual 183, 3) := by decide +kernel
theorem dX5_readRiver_29 : decode cX5_readRiver 29 = .ok (.ifCond .ne 5, 3) := by decide +kernel
theorem dX5_readRiver_32 : decode cX5_readRiver 32 = .ok (.iconst 0, 1) := by decide +kernel
theorem dX5_readRiver_33 : decode cX5_readRiver 33 = .ok (.ireturn, 1) := by decide +kernel
theorem dX5_readRiver_34 : decode cX5_readRiver 34 = .ok (.aload_n 0, 1) := by decide +kernel
theorem dX5_readRiver_35 : decode cX5_readRiver 35 = .ok (.getfield 21, 3) := by decide +kernel
theorem dX5_readRiver_38 : decode cX5_readRiver 38 = .ok (.aload_n 0, 1) := by decide +kernel
theorem dX5_readRiver_39 : decode cX5_readRiver 39 = .ok (.getfield 12, 3) := by decide +kernel
theorem dX5_readRiver_42 : decode cX5_readRiver 42 = .ok (.invokevirtual 224, 3) := by decide +kernel
theorem dX5_readRiver_45 : decode cX5_readRiver 45 = .ok (.aload_n 0, 1) := by decide +kernel
theorem dX5_readRiver_46 : decode cX5_readRiver 46 = .ok (.getfield 21, 3) := by decide +kernel
theorem dX5_readRiver_49 : decode cX5_readRiver 49 = .ok (.aload_n 0, 1) := by decide +kernel
theorem dX5_readRiver_50 : decode cX5_readRiver 50 = .ok (.getfield 12, 3) := by decide +kernel
theorem dX5_readRiver_53 : decode cX5_readRiver 53 = .ok (.getfield 140, 3) := by decide +kernel
theorem dX5_readRiver_56 : decode cX5_readRiver 56 = .ok (.aload_n 0, 1) := by decide +kernel
theorem dX5_readRiver_57 : decode cX5_readRiver 57 = .ok (.getfield 155, 3) := by decide +kernel
theorem dX5_readRiver_60 : decode cX5_readRiver 60 = .ok (.invokevirtual 228, 3) := by decide +kernel
theorem dX5_readRiver_63 : decode cX5_readRiver 63 = .ok (.ifCond .ne 13, 3) := by decide +kernel
theorem dX5_readRiver_66 : decode cX5_readRiver 66 = .ok (.aload_n 0, 1) := by decide +kernel
theorem dX5_readRiver_67 : decode cX5_readRiver 67 = .ok (.iconst 3, 1) := by decide +kernel
theorem dX5_readRiver_68 : decode cX5_readRiver 68 = .ok (.aload_n 0, 1) := by decide +kernel
theorem dX5_readRiver_69 : decode cX5_readRiver 69 = .ok (.getfield 107, 3) := by decide +kernel
theorem dX5_readRiver_72 : decode cX5_readRiver 72 = .ok (.invokevirtual 95, 3) := by decide +kernel
theorem dX5_readRiver_75 : decode cX5_readRiver 75 = .ok (.ireturn, 1) := by decide +kernel
theorem dX5_readRiver_76 : decode cX5_readRiver 76 = .ok (.aload_n 0, 1) := by decide +kernel
theorem dX5_readRiver_77 : decode cX5_readRiver 77 = .ok (.getfield 12, 3) := by decide +kernel
theorem dX5_readRiver_80 : decode cX5_readRiver 80 = .ok (.aload_n 0, 1) := by decide +kernel
theorem dX5_readRiver_81 : decode cX5_readRiver 81 = .ok (.getfield 21, 3) := by decide +kernel
theorem dX5_readRiver_84 : decode cX5_readRiver 84 = .ok (.aload_n 0, 1) := by decide +kernel
theorem dX5_readRiver_85 : decode cX5_readRiver 85 = .ok (.getfield 12, 3) := by decide +kernel
theorem dX5_readRiver_88 : decode cX5_readRiver 88 = .ok (.invokevirtual 232, 3) := by decide +kernel
theorem dX5_readRiver_91 : decode cX5_readRiver 91 = .ok (.invokevirtual 236, 3) := by decide +kernel
theorem dX5_readRiver_94 : decode cX5_readRiver 94 = .ok (.aload_n 0, 1) := by decide +kernel
theorem dX5_readRiver_95 : decode cX5_readRiver 95 = .ok (.getfield 12, 3) := by decide +kernel
theorem dX5_readRiver_98 : decode cX5_readRiver 98 = .ok (.getfield 140, 3) := by decide +kernel
theorem dX5_readRiver_101 : decode cX5_readRiver 101 = .ok (.aload_n 0, 1) := by decide +kernel
theorem dX5_readRiver_102 : decode cX5_readRiver 102 = .ok (.getfield 21, 3) := by decide +kernel
theorem dX5_readRiver_105 : decode cX5_readRiver 105 = .ok (.getfield 240, 3) := by decide +kernel
theorem dX5_readRiver_108 : decode cX5_readRiver 108 = .ok (.aload_n 0, 1) := by decide +kernel
theorem dX5_readRiver_109 : decode cX5_readRiver 109 = .ok (.getfield 21, 3) := by decide +kernel
theorem dX5_readRiver_112 : decode cX5_readRiver 112 = .ok (.getfield 243, 3) := by decide +kernel
theorem dX5_readRiver_115 : decode cX5_readRiver 115 = .ok (.invokevirtual 244, 3) := by decide +kernel
theorem dX5_readRiver_118 : decode cX5_readRiver 118 = .ok (.iconst 1, 1) := by decide +kernel
theorem dX5_readRiver_119 : decode cX5_readRiver 119 = .ok (.ireturn, 1) := by decide +kernel
set_option maxRecDepth 20000 in
theorem ggX5_directionWord_X5_wordIs : GoodIn wsX5_directionWord wsX5_wordIs := goodIn_r _ [5, 6, 7, 8, 9, 10, 11, 12, 13, 14, 15, 16, 17, 18, 19, 20, 21, 22, 4, 23, 24, 25, 26, 27, 28, 29, 30, 31, 32, 33, 34, 35, 36, 37, 38, 39, 40, 41, 42, 43, 44, 45, 46, 47, 48, 49, 50, 51, 52, 53, 54, 55, 56, 57, 58, 59, 60, 61, 62, 63, 64, 65, 66, 67, 68, 69, 70, 71, 72, 73, 74, 75, 76] (by decide +kernel) (by decide +kernel)
set_option maxRecDepth 20000 in
theorem gX5_directionWord_X5_wordIs : GoodIn wsX5_directionWord (wsV RX5 160 RX5 yX5_wordIs wsX5_wordIs) := goodIn_app (goodIn_of _ (by decide +kernel)) ggX5_directionWord_X5_wordIs
theorem dX5_directionWord_0 : decode cX5_directionWord 0 = .ok (.aload_n 0, 1) := by decide +kernel
theorem dX5_directionWord_1 : decode cX5_directionWord 1 = .ok (.ldc 248, 2) := by decide +kernel
theorem dX5_directionWord_3 : decode cX5_directionWord 3 = .ok (.invokevirtual 160, 3) := by decide +kernel
theorem dX5_directionWord_6 : decode cX5_directionWord 6 = .ok (.ifCond .eq 7, 3) := by decide +kernel
theorem dX5_directionWord_9 : decode cX5_directionWord 9 = .ok (.iconst 0, 1) := by decide +kernel
theorem dX5_directionWord_10 : decode cX5_directionWord 10 = .ok (.goto 43, 3) := by decide +kernel
theorem dX5_directionWord_13 : decode cX5_directionWord 13 = .ok (.aload_n 0, 1) := by decide +kernel
theorem dX5_directionWord_14 : decode cX5_directionWord 14 = .ok (.ldc 250, 2) := by decide +kernel
theorem dX5_directionWord_16 : decode cX5_directionWord 16 = .ok (.invokevirtual 160, 3) := by decide +kernel
theorem dX5_directionWord_19 : decode cX5_directionWord 19 = .ok (.ifCond .eq 7, 3) := by decide +kernel
theorem dX5_directionWord_22 : decode cX5_directionWord 22 = .ok (.iconst 1, 1) := by decide +kernel
theorem dX5_directionWord_23 : decode cX5_directionWord 23 = .ok (.goto 30, 3) := by decide +kernel
theorem dX5_directionWord_26 : decode cX5_directionWord 26 = .ok (.aload_n 0, 1) := by decide +kernel
theorem dX5_directionWord_27 : decode cX5_directionWord 27 = .ok (.ldc 252, 2) := by decide +kernel
theorem dX5_directionWord_29 : decode cX5_directionWord 29 = .ok (.invokevirtual 160, 3) := by decide +kernel
theorem dX5_directionWord_32 : decode cX5_directionWord 32 = .ok (.ifCond .eq 7, 3) := by decide +kernel
theorem dX5_directionWord_35 : decode cX5_directionWord 35 = .ok (.iconst 2, 1) := by decide +kernel
theorem dX5_directionWord_36 : decode cX5_directionWord 36 = .ok (.goto 17, 3) := by decide +kernel
theorem dX5_directionWord_39 : decode cX5_directionWord 39 = .ok (.aload_n 0, 1) := by decide +kernel
theorem dX5_directionWord_40 : decode cX5_directionWord 40 = .ok (.ldc 254, 2) := by decide +kernel
theorem dX5_directionWord_42 : decode cX5_directionWord 42 = .ok (.invokevirtual 160, 3) := by decide +kernel
theorem dX5_directionWord_45 : decode cX5_directionWord 45 = .ok (.ifCond .eq 7, 3) := by decide +kernel
theorem dX5_directionWord_48 : decode cX5_directionWord 48 = .ok (.iconst 3, 1) := by decide +kernel
theorem dX5_directionWord_49 : decode cX5_directionWord 49 = .ok (.goto 4, 3) := by decide +kernel
theorem dX5_directionWord_52 : decode cX5_directionWord 52 = .ok (.iconst (-1), 1) := by decide +kernel
theorem dX5_directionWord_53 : decode cX5_directionWord 53 = .ok (.ireturn, 1) := by decide +kernel
set_option maxRecDepth 20000 in
theorem ggX5_readPlace_X5_takeName : GoodIn wsX5_readPlace wsX5_takeName := goodIn_r _ [7, 8, 1, 9, 10, 11, 6, 12, 13, 14, 15, 16, 17, 18, 19, 20, 21, 22, 23, 24, 25, 26, 27, 28, 29, 30, 31, 32, 181, 182, 183, 184, 185, 186, 187, 188, 189, 190, 191, 192, 193, 194] (by decide +kernel) (by decide +kernel)
set_option maxRecDepth 20000 in
theorem gX5_readPlace_X5_takeName : GoodIn wsX5_readPlace (wsV RX5 193 RX5 yX5_takeName wsX5_takeName) := goodIn_app (goodIn_of _ (by decide +kernel)) ggX5_readPlace_X5_takeName
set_option maxRecDepth 20000 in
theorem ggX5_readPlace_X5_namedHarbour : GoodIn wsX5_readPlace wsX5_namedHarbour := goodIn_r _ [36, 2, 8, 1, 37, 38, 39, 40, 41, 42, 43, 44, 45, 46, 47, 48, 49, 19, 20, 21, 6, 22, 14, 23, 181, 182, 183, 184, 185, 186, 187, 188, 189, 190, 191, 192, 193, 194, 195, 196, 197, 198, 199, 200, 201, 202, 203, 204, 205] (by decide +kernel) (by decide +kernel)
set_option maxRecDepth 20000 in
theorem gX5_readPlace_X5_namedHarbour : GoodIn wsX5_readPlace (wsV RX5 196 RX5 yX5_namedHarbour wsX5_namedHarbour) := goodIn_app (goodIn_of _ (by decide +kernel)) ggX5_readPlace_X5_namedHarbour
set_option maxRecDepth 20000 in
theorem ggX5_readPlace_X5_fail : GoodIn wsX5_readPlace wsX5_fail := goodIn_r _ [30, 31, 32, 181, 182, 183, 184, 185, 186, 187, 188, 189, 190, 191, 192, 193, 194] (by decide +kernel) (by decide +kernel)
set_option maxRecDepth 20000 in
theorem gX5_readPlace_X5_fail : GoodIn wsX5_readPlace (wsV RX5 95 RX5 yX5_fail wsX5_fail) := goodIn_app (goodIn_of _ (by decide +kernel)) ggX5_readPlace_X5_fail
set_option maxRecDepth 20000 in
theorem ggX5_readPlace_X5_takeWord : GoodIn wsX5_readPlace wsX5_takeWord := goodIn_r _ [12, 13, 1, 14, 8, 15, 16, 17, 6, 18, 19, 20, 21, 22, 23, 24, 25, 26, 27, 28, 29, 30, 31, 32, 181, 182, 183, 184, 185, 186, 187, 188, 189, 190, 191, 192, 193, 194] (by decide +kernel) (by decide +kernel)
set_option maxRecDepth 20000 in
theorem gX5_readPlace_X5_takeWord : GoodIn wsX5_readPlace (wsV RX5 122 RX5 yX5_takeWord wsX5_takeWord) := goodIn_app (goodIn_of _ (by decide +kernel)) ggX5_readPlace_X5_takeWord
set_option maxRecDepth 20000 in
theorem ggX5_readPlace_X5_directionWord : GoodIn wsX5_readPlace wsX5_directionWord := goodIn_r _ [53, 54, 55, 56, 6, 57, 8, 1, 58, 59, 60, 61, 62, 63, 64, 65, 66, 67, 68, 69, 19, 20, 21, 22, 14, 23, 70, 71, 72, 73, 74, 75, 76, 77, 78, 79, 80, 81, 82, 83, 84, 85, 86, 87, 88, 89, 90, 91, 92, 93, 94, 95, 96, 97, 98, 99, 100, 101, 102, 103, 104, 105, 106, 181, 182, 183, 184, 185, 186, 187, 188, 189, 190, 191, 192, 193, 194] (by decide +kernel) (by decide +kernel)
set_option maxRecDepth 20000 in
theorem gX5_readPlace_X5_directionWord : GoodIn wsX5_readPlace (wsV RX5 256 RX5 yX5_directionWord wsX5_directionWord) := goodIn_app (goodIn_of _ (by decide +kernel)) ggX5_readPlace_X5_directionWord
set_option maxRecDepth 20000 in
theorem ggX5_readPlace_X6_reasonAgainst : GoodIn wsX5_readPlace wsX6_reasonAgainst := goodIn_r _ [111, 112, 113, 114, 110, 115, 116, 117, 118, 119, 120, 40, 121, 42, 122, 123, 124, 125, 126, 127, 128, 129, 130, 131, 132, 133, 134, 135, 38, 39, 41, 43, 136, 137, 138, 139, 140, 141, 142, 143, 144, 145, 146, 147, 148, 149, 150, 151, 152, 153, 154, 155, 156, 157, 158, 159, 160, 161, 162, 163, 45, 46, 47, 48, 49, 195, 196, 197, 198, 199, 200, 201, 202, 203, 204, 205, 206, 207, 208, 209, 210, 211] (by decide +kernel) (by decide +kernel)
set_option maxRecDepth 20000 in
theorem gX5_readPlace_X6_reasonAgainst : GoodIn wsX5_readPlace (wsV RX5 259 RX6 yX6_reasonAgainst wsX6_reasonAgainst) := goodIn_app (goodIn_of _ (by decide +kernel)) ggX5_readPlace_X6_reasonAgainst
set_option maxRecDepth 20000 in
theorem ggX5_readPlace_X6_putName : GoodIn wsX5_readPlace wsX6_putName := goodIn_r _ [167, 116, 117, 157, 162, 168, 169, 170, 110, 171, 118, 119, 120, 40, 121, 42, 122, 172, 173, 174, 175, 176, 135, 38, 39, 41, 43, 123, 124, 125, 126, 127, 128, 129, 177, 178, 179, 180, 163, 45, 46, 47, 48, 49, 195, 196, 197, 198, 199, 200, 201, 202, 203, 204, 205, 206, 207, 208, 209, 210, 211] (by decide +kernel) (by decide +kernel)
set_option maxRecDepth 20000 in
theorem gX5_readPlace_X6_putName : GoodIn wsX5_readPlace (wsV RX5 262 RX6 yX6_putName wsX6_putName) := goodIn_app (goodIn_of _ (by decide +kernel)) ggX5_readPlace_X6_putName
theorem dX5_readPlace_0 : decode cX5_readPlace 0 = .ok (.aload_n 0, 1) := by decide +kernel
theorem dX5_readPlace_1 : decode cX5_readPlace 1 = .ok (.invokevirtual 193, 3) := by decide +kernel
theorem dX5_readPlace_4 : decode cX5_readPlace 4 = .ok (.ifCond .ne 5, 3) := by decide +kernel
theorem dX5_readPlace_7 : decode cX5_readPlace 7 = .ok (.iconst 0, 1) := by decide +kernel
theorem dX5_readPlace_8 : decode cX5_readPlace 8 = .ok (.ireturn, 1) := by decide +kernel
theorem dX5_readPlace_9 : decode cX5_readPlace 9 = .ok (.aload_n 0, 1) := by decide +kernel
theorem dX5_readPlace_10 : decode cX5_readPlace 10 = .ok (.invokevirtual 196, 3) := by decide +kernel
theorem dX5_readPlace_13 : decode cX5_readPlace 13 = .ok (.istore_n 1, 1) := by decide +kernel
theorem dX5_readPlace_14 : decode cX5_readPlace 14 = .ok (.iload_n 1, 1) := by decide +kernel
theorem dX5_readPlace_15 : decode cX5_readPlace 15 = .ok (.iconst (-1), 1) := by decide +kernel
theorem dX5_readPlace_16 : decode cX5_readPlace 16 = .ok (.if_icmp .ne 13, 3) := by decide +kernel
theorem dX5_readPlace_19 : decode cX5_readPlace 19 = .ok (.aload_n 0, 1) := by decide +kernel
theorem dX5_readPlace_20 : decode cX5_readPlace 20 = .ok (.iconst 4, 1) := by decide +kernel
theorem dX5_readPlace_21 : decode cX5_readPlace 21 = .ok (.aload_n 0, 1) := by decide +kernel
theorem dX5_readPlace_22 : decode cX5_readPlace 22 = .ok (.getfield 85, 3) := by decide +kernel
theorem dX5_readPlace_25 : decode cX5_readPlace 25 = .ok (.invokevirtual 95, 3) := by decide +kernel
theorem dX5_readPlace_28 : decode cX5_readPlace 28 = .ok (.ireturn, 1) := by decide +kernel
theorem dX5_readPlace_29 : decode cX5_readPlace 29 = .ok (.aload_n 0, 1) := by decide +kernel
theorem dX5_readPlace_30 : decode cX5_readPlace 30 = .ok (.invokevirtual 122, 3) := by decide +kernel
theorem dX5_readPlace_33 : decode cX5_readPlace 33 = .ok (.ifCond .ne 5, 3) := by decide +kernel
theorem dX5_readPlace_36 : decode cX5_readPlace 36 = .ok (.iconst 0, 1) := by decide +kernel
theorem dX5_readPlace_37 : decode cX5_readPlace 37 = .ok (.ireturn, 1) := by decide +kernel
theorem dX5_readPlace_38 : decode cX5_readPlace 38 = .ok (.aload_n 0, 1) := by decide +kernel
theorem dX5_readPlace_39 : decode cX5_readPlace 39 = .ok (.invokevirtual 256, 3) := by decide +kernel
theorem dX5_readPlace_42 : decode cX5_readPlace 42 = .ok (.istore_n 2, 1) := by decide +kernel
theorem dX5_readPlace_43 : decode cX5_readPlace 43 = .ok (.iload_n 2, 1) := by decide +kernel
theorem dX5_readPlace_44 : decode cX5_readPlace 44 = .ok (.iconst (-1), 1) := by decide +kernel
theorem dX5_readPlace_45 : decode cX5_readPlace 45 = .ok (.if_icmp .ne 13, 3) := by decide +kernel
theorem dX5_readPlace_48 : decode cX5_readPlace 48 = .ok (.aload_n 0, 1) := by decide +kernel
theorem dX5_readPlace_49 : decode cX5_readPlace 49 = .ok (.iconst 1, 1) := by decide +kernel
theorem dX5_readPlace_50 : decode cX5_readPlace 50 = .ok (.aload_n 0, 1) := by decide +kernel
theorem dX5_readPlace_51 : decode cX5_readPlace 51 = .ok (.getfield 85, 3) := by decide +kernel
theorem dX5_readPlace_54 : decode cX5_readPlace 54 = .ok (.invokevirtual 95, 3) := by decide +kernel
theorem dX5_readPlace_57 : decode cX5_readPlace 57 = .ok (.ireturn, 1) := by decide +kernel
theorem dX5_readPlace_58 : decode cX5_readPlace 58 = .ok (.aload_n 0, 1) := by decide +kernel
theorem dX5_readPlace_59 : decode cX5_readPlace 59 = .ok (.getfield 12, 3) := by decide +kernel
theorem dX5_readPlace_62 : decode cX5_readPlace 62 = .ok (.iload_n 1, 1) := by decide +kernel
theorem dX5_readPlace_63 : decode cX5_readPlace 63 = .ok (.iload_n 2, 1) := by decide +kernel
theorem dX5_readPlace_64 : decode cX5_readPlace 64 = .ok (.invokevirtual 259, 3) := by decide +kernel
theorem dX5_readPlace_67 : decode cX5_readPlace 67 = .ok (.ifCond .eq 13, 3) := by decide +kernel
theorem dX5_readPlace_70 : decode cX5_readPlace 70 = .ok (.aload_n 0, 1) := by decide +kernel
theorem dX5_readPlace_71 : decode cX5_readPlace 71 = .ok (.iconst 3, 1) := by decide +kernel
theorem dX5_readPlace_72 : decode cX5_readPlace 72 = .ok (.aload_n 0, 1) := by decide +kernel
theorem dX5_readPlace_73 : decode cX5_readPlace 73 = .ok (.getfield 85, 3) := by decide +kernel
theorem dX5_readPlace_76 : decode cX5_readPlace 76 = .ok (.invokevirtual 95, 3) := by decide +kernel
theorem dX5_readPlace_79 : decode cX5_readPlace 79 = .ok (.ireturn, 1) := by decide +kernel
theorem dX5_readPlace_80 : decode cX5_readPlace 80 = .ok (.aload_n 0, 1) := by decide +kernel
theorem dX5_readPlace_81 : decode cX5_readPlace 81 = .ok (.getfield 12, 3) := by decide +kernel
theorem dX5_readPlace_84 : decode cX5_readPlace 84 = .ok (.iload_n 1, 1) := by decide +kernel
theorem dX5_readPlace_85 : decode cX5_readPlace 85 = .ok (.iload_n 2, 1) := by decide +kernel
theorem dX5_readPlace_86 : decode cX5_readPlace 86 = .ok (.invokevirtual 262, 3) := by decide +kernel
theorem dX5_readPlace_89 : decode cX5_readPlace 89 = .ok (.iconst 1, 1) := by decide +kernel
theorem dX5_readPlace_90 : decode cX5_readPlace 90 = .ok (.ireturn, 1) := by decide +kernel
set_option maxRecDepth 20000 in
theorem ggX5_readVoyage_X5_fail : GoodIn wsX5_readVoyage wsX5_fail := goodIn_r _ [8, 9, 10, 58, 59, 60, 61, 62, 63, 64, 65, 66, 67, 68, 69, 70, 71] (by decide +kernel) (by decide +kernel)
set_option maxRecDepth 20000 in
theorem gX5_readVoyage_X5_fail : GoodIn wsX5_readVoyage (wsV RX5 95 RX5 yX5_fail wsX5_fail) := goodIn_app (goodIn_of _ (by decide +kernel)) ggX5_readVoyage_X5_fail
set_option maxRecDepth 20000 in
theorem ggX5_readVoyage_X5_nextSign : GoodIn wsX5_readVoyage wsX5_nextSign := goodIn_r _ [14, 15, 16, 17, 18, 19, 7, 20, 21, 58, 59, 60, 61, 62, 63, 64, 65, 66, 67, 68, 69, 70, 71] (by decide +kernel) (by decide +kernel)
set_option maxRecDepth 20000 in
theorem gX5_readVoyage_X5_nextSign : GoodIn wsX5_readVoyage (wsV RX5 53 RX5 yX5_nextSign wsX5_nextSign) := goodIn_app (goodIn_of _ (by decide +kernel)) ggX5_readVoyage_X5_nextSign
set_option maxRecDepth 20000 in
theorem ggX5_readVoyage_X5_isLetter : GoodIn wsX5_readVoyage wsX5_isLetter := goodIn_r _ [24] (by decide +kernel) (by decide +kernel)
set_option maxRecDepth 20000 in
theorem gX5_readVoyage_X5_isLetter : GoodIn wsX5_readVoyage (va_wsS RX5 88 yX5_isLetter wsX5_isLetter) := goodIn_app (goodIn_of _ (by decide +kernel)) ggX5_readVoyage_X5_isLetter
set_option maxRecDepth 20000 in
theorem ggX5_readVoyage_X5_takeName : GoodIn wsX5_readVoyage wsX5_takeName := goodIn_r _ [28, 29, 2, 30, 31, 32, 7, 33, 16, 15, 11, 12, 13, 14, 17, 18, 19, 20, 21, 22, 23, 24, 4, 5, 6, 8, 9, 10, 58, 59, 60, 61, 62, 63, 64, 65, 66, 67, 68, 69, 70, 71] (by decide +kernel) (by decide +kernel)
set_option maxRecDepth 20000 in
theorem gX5_readVoyage_X5_takeName : GoodIn wsX5_readVoyage (wsV RX5 193 RX5 yX5_takeName wsX5_takeName) := goodIn_app (goodIn_of _ (by decide +kernel)) ggX5_readVoyage_X5_takeName
set_option maxRecDepth 20000 in
theorem ggX5_readVoyage_X5_namedHarbour : GoodIn wsX5_readVoyage wsX5_namedHarbour := goodIn_r _ [37, 3, 29, 2, 38, 39, 40, 41, 42, 43, 44, 45, 46, 47, 48, 49, 50, 17, 18, 19, 7, 20, 15, 21, 58, 59, 60, 61, 62, 63, 64, 65, 66, 67, 68, 69, 70, 71, 72, 73, 74, 75, 76, 77, 78, 79, 80, 81, 82] (by decide +kernel) (by decide +kernel)
set_option maxRecDepth 20000 in
theorem gX5_readVoyage_X5_namedHarbour : GoodIn wsX5_readVoyage (wsV RX5 196 RX5 yX5_namedHarbour wsX5_namedHarbour) := goodIn_app (goodIn_of _ (by decide +kernel)) ggX5_readVoyage_X5_namedHarbour
set_option maxRecDepth 20000 in
theorem ggX5_readVoyage_X4_addStop : GoodIn wsX5_readVoyage wsX4_addStop := goodIn_r _ [55, 56, 57, 83, 84, 85, 86, 87] (by decide +kernel) (by decide +kernel)
set_option maxRecDepth 20000 in
theorem gX5_readVoyage_X4_addStop : GoodIn wsX5_readVoyage (wsV RX5 269 RX4 yX4_addStop wsX4_addStop) := goodIn_app (goodIn_of _ (by decide +kernel)) ggX5_readVoyage_X4_addStop
theorem dX5_readVoyage_0 : decode cX5_readVoyage 0 = .ok (.aload_n 0, 1) := by decide +kernel
theorem dX5_readVoyage_1 : decode cX5_readVoyage 1 = .ok (.getfield 45, 3) := by decide +kernel
theorem dX5_readVoyage_4 : decode cX5_readVoyage 4 = .ok (.ifCond .eq 13, 3) := by decide +kernel
theorem dX5_readVoyage_7 : decode cX5_readVoyage 7 = .ok (.aload_n 0, 1) := by decide +kernel
theorem dX5_readVoyage_8 : decode cX5_readVoyage 8 = .ok (.iconst 3, 1) := by decide +kernel
theorem dX5_readVoyage_9 : decode cX5_readVoyage 9 = .ok (.aload_n 0, 1) := by decide +kernel
theorem dX5_readVoyage_10 : decode cX5_readVoyage 10 = .ok (.getfield 85, 3) := by decide +kernel
theorem dX5_readVoyage_13 : decode cX5_readVoyage 13 = .ok (.invokevirtual 95, 3) := by decide +kernel
theorem dX5_readVoyage_16 : decode cX5_readVoyage 16 = .ok (.ireturn, 1) := by decide +kernel
theorem dX5_readVoyage_17 : decode cX5_readVoyage 17 = .ok (.aload_n 0, 1) := by decide +kernel
theorem dX5_readVoyage_18 : decode cX5_readVoyage 18 = .ok (.iconst 1, 1) := by decide +kernel
theorem dX5_readVoyage_19 : decode cX5_readVoyage 19 = .ok (.putfield 45, 3) := by decide +kernel
theorem dX5_readVoyage_22 : decode cX5_readVoyage 22 = .ok (.iconst 0, 1) := by decide +kernel
theorem dX5_readVoyage_23 : decode cX5_readVoyage 23 = .ok (.istore_n 1, 1) := by decide +kernel
theorem dX5_readVoyage_24 : decode cX5_readVoyage 24 = .ok (.iload_n 1, 1) := by decide +kernel
theorem dX5_readVoyage_25 : decode cX5_readVoyage 25 = .ok (.ifCond .eq 19, 3) := by decide +kernel
theorem dX5_readVoyage_28 : decode cX5_readVoyage 28 = .ok (.aload_n 0, 1) := by decide +kernel
theorem dX5_readVoyage_29 : decode cX5_readVoyage 29 = .ok (.invokevirtual 53, 3) := by decide +kernel
theorem dX5_readVoyage_32 : decode cX5_readVoyage 32 = .ok (.invokestatic 88, 3) := by decide +kernel
theorem dX5_readVoyage_35 : decode cX5_readVoyage 35 = .ok (.ifCond .eq 71, 3) := by decide +kernel
theorem dX5_readVoyage_38 : decode cX5_readVoyage 38 = .ok (.iload_n 1, 1) := by decide +kernel
theorem dX5_readVoyage_39 : decode cX5_readVoyage 39 = .ok (.bipush 16, 2) := by decide +kernel
theorem dX5_readVoyage_41 : decode cX5_readVoyage 41 = .ok (.if_icmp .gt 65, 3) := by decide +kernel
theorem dX5_readVoyage_44 : decode cX5_readVoyage 44 = .ok (.aload_n 0, 1) := by decide +kernel
theorem dX5_readVoyage_45 : decode cX5_readVoyage 45 = .ok (.invokevirtual 193, 3) := by decide +kernel
theorem dX5_readVoyage_48 : decode cX5_readVoyage 48 = .ok (.ifCond .ne 5, 3) := by decide +kernel
theorem dX5_readVoyage_51 : decode cX5_readVoyage 51 = .ok (.iconst 0, 1) := by decide +kernel
theorem dX5_readVoyage_52 : decode cX5_readVoyage 52 = .ok (.ireturn, 1) := by decide +kernel
theorem dX5_readVoyage_53 : decode cX5_readVoyage 53 = .ok (.iload_n 1, 1) := by decide +kernel
theorem dX5_readVoyage_54 : decode cX5_readVoyage 54 = .ok (.bipush 16, 2) := by decide +kernel
theorem dX5_readVoyage_56 : decode cX5_readVoyage 56 = .ok (.if_icmp .ne 13, 3) := by decide +kernel
theorem dX5_readVoyage_59 : decode cX5_readVoyage 59 = .ok (.aload_n 0, 1) := by decide +kernel
theorem dX5_readVoyage_60 : decode cX5_readVoyage 60 = .ok (.iconst 3, 1) := by decide +kernel
theorem dX5_readVoyage_61 : decode cX5_readVoyage 61 = .ok (.aload_n 0, 1) := by decide +kernel
theorem dX5_readVoyage_62 : decode cX5_readVoyage 62 = .ok (.getfield 85, 3) := by decide +kernel
theorem dX5_readVoyage_65 : decode cX5_readVoyage 65 = .ok (.invokevirtual 95, 3) := by decide +kernel
theorem dX5_readVoyage_68 : decode cX5_readVoyage 68 = .ok (.ireturn, 1) := by decide +kernel
theorem dX5_readVoyage_69 : decode cX5_readVoyage 69 = .ok (.aload_n 0, 1) := by decide +kernel
theorem dX5_readVoyage_70 : decode cX5_readVoyage 70 = .ok (.invokevirtual 196, 3) := by decide +kernel
theorem dX5_readVoyage_73 : decode cX5_readVoyage 73 = .ok (.istore_n 2, 1) := by decide +kernel
theorem dX5_readVoyage_74 : decode cX5_readVoyage 74 = .ok (.iload_n 2, 1) := by decide +kernel
theorem dX5_readVoyage_75 : decode cX5_readVoyage 75 = .ok (.iconst (-1), 1) := by decide +kernel
theorem dX5_readVoyage_76 : decode cX5_readVoyage 76 = .ok (.if_icmp .ne 13, 3) := by decide +kernel
theorem dX5_readVoyage_79 : decode cX5_readVoyage 79 = .ok (.aload_n 0, 1) := by decide +kernel
theorem dX5_readVoyage_80 : decode cX5_readVoyage 80 = .ok (.iconst 4, 1) := by decide +kernel
theorem dX5_readVoyage_81 : decode cX5_readVoyage 81 = .ok (.aload_n 0, 1) := by decide +kernel
theorem dX5_readVoyage_82 : decode cX5_readVoyage 82 = .ok (.getfield 85, 3) := by decide +kernel
theorem dX5_readVoyage_85 : decode cX5_readVoyage 85 = .ok (.invokevirtual 95, 3) := by decide +kernel
theorem dX5_readVoyage_88 : decode cX5_readVoyage 88 = .ok (.ireturn, 1) := by decide +kernel
theorem dX5_readVoyage_89 : decode cX5_readVoyage 89 = .ok (.aload_n 0, 1) := by decide +kernel
theorem dX5_readVoyage_90 : decode cX5_readVoyage 90 = .ok (.getfield 12, 3) := by decide +kernel
theorem dX5_readVoyage_93 : decode cX5_readVoyage 93 = .ok (.getfield 265, 3) := by decide +kernel
theorem dX5_readVoyage_96 : decode cX5_readVoyage 96 = .ok (.iload_n 2, 1) := by decide +kernel
theorem dX5_readVoyage_97 : decode cX5_readVoyage 97 = .ok (.invokevirtual 269, 3) := by decide +kernel
theorem dX5_readVoyage_100 : decode cX5_readVoyage 100 = .ok (.iinc 1 1, 3) := by decide +kernel
theorem dX5_readVoyage_103 : decode cX5_readVoyage 103 = .ok (.goto (-79), 3) := by decide +kernel
theorem dX5_readVoyage_106 : decode cX5_readVoyage 106 = .ok (.iconst 1, 1) := by decide +kernel
theorem dX5_readVoyage_107 : decode cX5_readVoyage 107 = .ok (.ireturn, 1) := by decide +kernel
set_option maxRecDepth 20000 in
theorem ggX5_readTurn_X5_takeNumber : GoodIn wsX5_readTurn wsX5_takeNumber := goodIn_r _ [7, 8, 9, 2, 10, 11, 12, 13, 14, 15, 16, 17, 6, 18, 19, 20, 21, 22, 23, 24, 25, 26, 27, 28, 29, 30, 31, 32, 33, 34, 35, 36, 37, 38, 39, 40, 41, 42, 43, 44, 45, 46] (by decide +kernel) (by decide +kernel)
set_option maxRecDepth 20000 in
theorem gX5_readTurn_X5_takeNumber : GoodIn wsX5_readTurn (wsV RX5 149 RX5 yX5_takeNumber wsX5_takeNumber) := goodIn_app (goodIn_of _ (by decide +kernel)) ggX5_readTurn_X5_takeNumber
theorem dX5_readTurn_0 : decode cX5_readTurn 0 = .ok (.aload_n 0, 1) := by decide +kernel
theorem dX5_readTurn_1 : decode cX5_readTurn 1 = .ok (.iconst 0, 1) := by decide +kernel
theorem dX5_readTurn_2 : decode cX5_readTurn 2 = .ok (.iconst 3, 1) := by decide +kernel
theorem dX5_readTurn_3 : decode cX5_readTurn 3 = .ok (.invokevirtual 149, 3) := by decide +kernel
theorem dX5_readTurn_6 : decode cX5_readTurn 6 = .ok (.ifCond .ne 5, 3) := by decide +kernel
theorem dX5_readTurn_9 : decode cX5_readTurn 9 = .ok (.iconst 0, 1) := by decide +kernel
theorem dX5_readTurn_10 : decode cX5_readTurn 10 = .ok (.ireturn, 1) := by decide +kernel
theorem dX5_readTurn_11 : decode cX5_readTurn 11 = .ok (.aload_n 0, 1) := by decide +kernel
theorem dX5_readTurn_12 : decode cX5_readTurn 12 = .ok (.getfield 12, 3) := by decide +kernel
theorem dX5_readTurn_15 : decode cX5_readTurn 15 = .ok (.getfield 265, 3) := by decide +kernel
theorem dX5_readTurn_18 : decode cX5_readTurn 18 = .ok (.aload_n 0, 1) := by decide +kernel
theorem dX5_readTurn_19 : decode cX5_readTurn 19 = .ok (.getfield 110, 3) := by decide +kernel
theorem dX5_readTurn_22 : decode cX5_readTurn 22 = .ok (.putfield 274, 3) := by decide +kernel
theorem dX5_readTurn_25 : decode cX5_readTurn 25 = .ok (.iconst 1, 1) := by decide +kernel
theorem dX5_readTurn_26 : decode cX5_readTurn 26 = .ok (.ireturn, 1) := by decide +kernel
