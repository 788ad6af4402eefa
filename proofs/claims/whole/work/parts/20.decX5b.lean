set_option maxRecDepth 20000 in
theorem ggX5_takeName_X5_fail : GoodIn wsX5_takeName wsX5_fail := goodIn_r _ [25, 26, 27, 28, 29, 30, 31, 32, 33, 34, 35, 36, 37, 38, 39, 40, 41] (by decide +kernel) (by decide +kernel)
set_option maxRecDepth 20000 in
theorem gX5_takeName_X5_fail : GoodIn wsX5_takeName (wsV RX5 95 RX5 yX5_fail wsX5_fail) := goodIn_app (goodIn_of _ (by decide +kernel)) ggX5_takeName_X5_fail
theorem dX5_takeName_0 : decode cX5_takeName 0 = .ok (.aload_n 0, 1) := by decide +kernel
theorem dX5_takeName_1 : decode cX5_takeName 1 = .ok (.invokevirtual 122, 3) := by decide +kernel
theorem dX5_takeName_4 : decode cX5_takeName 4 = .ok (.ifCond .eq 28, 3) := by decide +kernel
theorem dX5_takeName_7 : decode cX5_takeName 7 = .ok (.aload_n 0, 1) := by decide +kernel
theorem dX5_takeName_8 : decode cX5_takeName 8 = .ok (.getfield 92, 3) := by decide +kernel
theorem dX5_takeName_11 : decode cX5_takeName 11 = .ok (.bipush 8, 2) := by decide +kernel
theorem dX5_takeName_13 : decode cX5_takeName 13 = .ok (.if_icmp .le 15, 3) := by decide +kernel
theorem dX5_takeName_16 : decode cX5_takeName 16 = .ok (.aload_n 0, 1) := by decide +kernel
theorem dX5_takeName_17 : decode cX5_takeName 17 = .ok (.iconst 1, 1) := by decide +kernel
theorem dX5_takeName_18 : decode cX5_takeName 18 = .ok (.aload_n 0, 1) := by decide +kernel
theorem dX5_takeName_19 : decode cX5_takeName 19 = .ok (.getfield 85, 3) := by decide +kernel
theorem dX5_takeName_22 : decode cX5_takeName 22 = .ok (.invokevirtual 95, 3) := by decide +kernel
theorem dX5_takeName_25 : decode cX5_takeName 25 = .ok (.ifCond .eq 7, 3) := by decide +kernel
theorem dX5_takeName_28 : decode cX5_takeName 28 = .ok (.iconst 1, 1) := by decide +kernel
theorem dX5_takeName_29 : decode cX5_takeName 29 = .ok (.goto 4, 3) := by decide +kernel
theorem dX5_takeName_32 : decode cX5_takeName 32 = .ok (.iconst 0, 1) := by decide +kernel
theorem dX5_takeName_33 : decode cX5_takeName 33 = .ok (.ireturn, 1) := by decide +kernel
set_option maxRecDepth 20000 in
theorem ggX5_namedHarbour_X2_lengthOf : GoodIn wsX5_namedHarbour wsX2_lengthOf := goodIn_r _ [8, 9, 10, 43, 44, 45, 46, 47, 48] (by decide +kernel) (by decide +kernel)
set_option maxRecDepth 20000 in
theorem gX5_namedHarbour_X2_lengthOf : GoodIn wsX5_namedHarbour (wsV RX5 134 RX2 yX2_lengthOf wsX2_lengthOf) := goodIn_app (goodIn_of _ (by decide +kernel)) ggX5_namedHarbour_X2_lengthOf
set_option maxRecDepth 20000 in
theorem ggX5_namedHarbour_X2_letterOf : GoodIn wsX5_namedHarbour wsX2_letterOf := goodIn_r _ [14, 15, 16, 5, 6, 7, 8, 9, 10, 43, 44, 45, 46, 47, 48] (by decide +kernel) (by decide +kernel)
set_option maxRecDepth 20000 in
theorem gX5_namedHarbour_X2_letterOf : GoodIn wsX5_namedHarbour (wsV RX5 137 RX2 yX2_letterOf wsX2_letterOf) := goodIn_app (goodIn_of _ (by decide +kernel)) ggX5_namedHarbour_X2_letterOf
set_option maxRecDepth 20000 in
theorem ggX5_namedHarbour_X5_signAt : GoodIn wsX5_namedHarbour wsX5_signAt := goodIn_r _ [21, 22, 23, 24, 25, 26, 27, 28, 29, 30, 31, 32, 33, 34, 35, 36, 37] (by decide +kernel) (by decide +kernel)
set_option maxRecDepth 20000 in
theorem gX5_namedHarbour_X5_signAt : GoodIn wsX5_namedHarbour (wsV RX5 81 RX5 yX5_signAt wsX5_signAt) := goodIn_app (goodIn_of _ (by decide +kernel)) ggX5_namedHarbour_X5_signAt
theorem dX5_namedHarbour_0 : decode cX5_namedHarbour 0 = .ok (.iconst 0, 1) := by decide +kernel
theorem dX5_namedHarbour_1 : decode cX5_namedHarbour 1 = .ok (.istore_n 1, 1) := by decide +kernel
theorem dX5_namedHarbour_2 : decode cX5_namedHarbour 2 = .ok (.iload_n 1, 1) := by decide +kernel
theorem dX5_namedHarbour_3 : decode cX5_namedHarbour 3 = .ok (.aload_n 0, 1) := by decide +kernel
theorem dX5_namedHarbour_4 : decode cX5_namedHarbour 4 = .ok (.getfield 12, 3) := by decide +kernel
theorem dX5_namedHarbour_7 : decode cX5_namedHarbour 7 = .ok (.getfield 125, 3) := by decide +kernel
theorem dX5_namedHarbour_10 : decode cX5_namedHarbour 10 = .ok (.getfield 129, 3) := by decide +kernel
theorem dX5_namedHarbour_13 : decode cX5_namedHarbour 13 = .ok (.if_icmp .ge 90, 3) := by decide +kernel
theorem dX5_namedHarbour_16 : decode cX5_namedHarbour 16 = .ok (.aload_n 0, 1) := by decide +kernel
theorem dX5_namedHarbour_17 : decode cX5_namedHarbour 17 = .ok (.getfield 12, 3) := by decide +kernel
theorem dX5_namedHarbour_20 : decode cX5_namedHarbour 20 = .ok (.getfield 125, 3) := by decide +kernel
theorem dX5_namedHarbour_23 : decode cX5_namedHarbour 23 = .ok (.iload_n 1, 1) := by decide +kernel
theorem dX5_namedHarbour_24 : decode cX5_namedHarbour 24 = .ok (.invokevirtual 134, 3) := by decide +kernel
theorem dX5_namedHarbour_27 : decode cX5_namedHarbour 27 = .ok (.aload_n 0, 1) := by decide +kernel
theorem dX5_namedHarbour_28 : decode cX5_namedHarbour 28 = .ok (.getfield 92, 3) := by decide +kernel
theorem dX5_namedHarbour_31 : decode cX5_namedHarbour 31 = .ok (.if_icmp .ne 7, 3) := by decide +kernel
theorem dX5_namedHarbour_34 : decode cX5_namedHarbour 34 = .ok (.iconst 1, 1) := by decide +kernel
theorem dX5_namedHarbour_35 : decode cX5_namedHarbour 35 = .ok (.goto 4, 3) := by decide +kernel
theorem dX5_namedHarbour_38 : decode cX5_namedHarbour 38 = .ok (.iconst 0, 1) := by decide +kernel
theorem dX5_namedHarbour_39 : decode cX5_namedHarbour 39 = .ok (.istore_n 2, 1) := by decide +kernel
theorem dX5_namedHarbour_40 : decode cX5_namedHarbour 40 = .ok (.iconst 0, 1) := by decide +kernel
theorem dX5_namedHarbour_41 : decode cX5_namedHarbour 41 = .ok (.istore_n 3, 1) := by decide +kernel
theorem dX5_namedHarbour_42 : decode cX5_namedHarbour 42 = .ok (.iload_n 3, 1) := by decide +kernel
theorem dX5_namedHarbour_43 : decode cX5_namedHarbour 43 = .ok (.aload_n 0, 1) := by decide +kernel
theorem dX5_namedHarbour_44 : decode cX5_namedHarbour 44 = .ok (.getfield 92, 3) := by decide +kernel
theorem dX5_namedHarbour_47 : decode cX5_namedHarbour 47 = .ok (.if_icmp .ge 44, 3) := by decide +kernel
theorem dX5_namedHarbour_50 : decode cX5_namedHarbour 50 = .ok (.iload_n 2, 1) := by decide +kernel
theorem dX5_namedHarbour_51 : decode cX5_namedHarbour 51 = .ok (.ifCond .eq 40, 3) := by decide +kernel
theorem dX5_namedHarbour_54 : decode cX5_namedHarbour 54 = .ok (.aload_n 0, 1) := by decide +kernel
theorem dX5_namedHarbour_55 : decode cX5_namedHarbour 55 = .ok (.getfield 12, 3) := by decide +kernel
theorem dX5_namedHarbour_58 : decode cX5_namedHarbour 58 = .ok (.getfield 125, 3) := by decide +kernel
theorem dX5_namedHarbour_61 : decode cX5_namedHarbour 61 = .ok (.iload_n 1, 1) := by decide +kernel
theorem dX5_namedHarbour_62 : decode cX5_namedHarbour 62 = .ok (.iload_n 3, 1) := by decide +kernel
theorem dX5_namedHarbour_63 : decode cX5_namedHarbour 63 = .ok (.invokevirtual 137, 3) := by decide +kernel
theorem dX5_namedHarbour_66 : decode cX5_namedHarbour 66 = .ok (.aload_n 0, 1) := by decide +kernel
theorem dX5_namedHarbour_67 : decode cX5_namedHarbour 67 = .ok (.aload_n 0, 1) := by decide +kernel
theorem dX5_namedHarbour_68 : decode cX5_namedHarbour 68 = .ok (.getfield 85, 3) := by decide +kernel
theorem dX5_namedHarbour_71 : decode cX5_namedHarbour 71 = .ok (.iload_n 3, 1) := by decide +kernel
theorem dX5_namedHarbour_72 : decode cX5_namedHarbour 72 = .ok (.iadd, 1) := by decide +kernel
theorem dX5_namedHarbour_73 : decode cX5_namedHarbour 73 = .ok (.invokevirtual 81, 3) := by decide +kernel
theorem dX5_namedHarbour_76 : decode cX5_namedHarbour 76 = .ok (.if_icmp .ne 7, 3) := by decide +kernel
theorem dX5_namedHarbour_79 : decode cX5_namedHarbour 79 = .ok (.iconst 1, 1) := by decide +kernel
theorem dX5_namedHarbour_80 : decode cX5_namedHarbour 80 = .ok (.goto 4, 3) := by decide +kernel
theorem dX5_namedHarbour_83 : decode cX5_namedHarbour 83 = .ok (.iconst 0, 1) := by decide +kernel
theorem dX5_namedHarbour_84 : decode cX5_namedHarbour 84 = .ok (.istore_n 2, 1) := by decide +kernel
theorem dX5_namedHarbour_85 : decode cX5_namedHarbour 85 = .ok (.iinc 3 1, 3) := by decide +kernel
theorem dX5_namedHarbour_88 : decode cX5_namedHarbour 88 = .ok (.goto (-46), 3) := by decide +kernel
theorem dX5_namedHarbour_91 : decode cX5_namedHarbour 91 = .ok (.iload_n 2, 1) := by decide +kernel
theorem dX5_namedHarbour_92 : decode cX5_namedHarbour 92 = .ok (.ifCond .eq 5, 3) := by decide +kernel
theorem dX5_namedHarbour_95 : decode cX5_namedHarbour 95 = .ok (.iload_n 1, 1) := by decide +kernel
theorem dX5_namedHarbour_96 : decode cX5_namedHarbour 96 = .ok (.ireturn, 1) := by decide +kernel
theorem dX5_namedHarbour_97 : decode cX5_namedHarbour 97 = .ok (.iinc 1 1, 3) := by decide +kernel
theorem dX5_namedHarbour_100 : decode cX5_namedHarbour 100 = .ok (.goto (-98), 3) := by decide +kernel
theorem dX5_namedHarbour_103 : decode cX5_namedHarbour 103 = .ok (.iconst (-1), 1) := by decide +kernel
theorem dX5_namedHarbour_104 : decode cX5_namedHarbour 104 = .ok (.ireturn, 1) := by decide +kernel
set_option maxRecDepth 20000 in
theorem ggX5_takeCell_X5_takeNumber : GoodIn wsX5_takeCell wsX5_takeNumber := goodIn_r _ [8, 9, 10, 2, 11, 12, 13, 14, 15, 16, 17, 18, 7, 19, 20, 21, 22, 23, 24, 25, 26, 27, 28, 29, 30, 31, 32, 33, 34, 35, 36, 37, 38, 39, 40, 41, 42, 43, 44, 45, 46, 47] (by decide +kernel) (by decide +kernel)
set_option maxRecDepth 20000 in
theorem gX5_takeCell_X5_takeNumber : GoodIn wsX5_takeCell (wsV RX5 149 RX5 yX5_takeNumber wsX5_takeNumber) := goodIn_app (goodIn_of _ (by decide +kernel)) ggX5_takeCell_X5_takeNumber
theorem dX5_takeCell_0 : decode cX5_takeCell 0 = .ok (.aload_n 0, 1) := by decide +kernel
theorem dX5_takeCell_1 : decode cX5_takeCell 1 = .ok (.iconst 0, 1) := by decide +kernel
theorem dX5_takeCell_2 : decode cX5_takeCell 2 = .ok (.aload_n 0, 1) := by decide +kernel
theorem dX5_takeCell_3 : decode cX5_takeCell 3 = .ok (.getfield 12, 3) := by decide +kernel
theorem dX5_takeCell_6 : decode cX5_takeCell 6 = .ok (.getfield 140, 3) := by decide +kernel
theorem dX5_takeCell_9 : decode cX5_takeCell 9 = .ok (.getfield 144, 3) := by decide +kernel
theorem dX5_takeCell_12 : decode cX5_takeCell 12 = .ok (.iconst 1, 1) := by decide +kernel
theorem dX5_takeCell_13 : decode cX5_takeCell 13 = .ok (.isub, 1) := by decide +kernel
theorem dX5_takeCell_14 : decode cX5_takeCell 14 = .ok (.invokevirtual 149, 3) := by decide +kernel
theorem dX5_takeCell_17 : decode cX5_takeCell 17 = .ok (.ifCond .ne 5, 3) := by decide +kernel
theorem dX5_takeCell_20 : decode cX5_takeCell 20 = .ok (.iconst 0, 1) := by decide +kernel
theorem dX5_takeCell_21 : decode cX5_takeCell 21 = .ok (.ireturn, 1) := by decide +kernel
theorem dX5_takeCell_22 : decode cX5_takeCell 22 = .ok (.aload_n 0, 1) := by decide +kernel
theorem dX5_takeCell_23 : decode cX5_takeCell 23 = .ok (.getfield 110, 3) := by decide +kernel
theorem dX5_takeCell_26 : decode cX5_takeCell 26 = .ok (.istore_n 1, 1) := by decide +kernel
theorem dX5_takeCell_27 : decode cX5_takeCell 27 = .ok (.aload_n 0, 1) := by decide +kernel
theorem dX5_takeCell_28 : decode cX5_takeCell 28 = .ok (.iconst 0, 1) := by decide +kernel
theorem dX5_takeCell_29 : decode cX5_takeCell 29 = .ok (.aload_n 0, 1) := by decide +kernel
theorem dX5_takeCell_30 : decode cX5_takeCell 30 = .ok (.getfield 12, 3) := by decide +kernel
theorem dX5_takeCell_33 : decode cX5_takeCell 33 = .ok (.getfield 140, 3) := by decide +kernel
theorem dX5_takeCell_36 : decode cX5_takeCell 36 = .ok (.getfield 152, 3) := by decide +kernel
theorem dX5_takeCell_39 : decode cX5_takeCell 39 = .ok (.iconst 1, 1) := by decide +kernel
theorem dX5_takeCell_40 : decode cX5_takeCell 40 = .ok (.isub, 1) := by decide +kernel
theorem dX5_takeCell_41 : decode cX5_takeCell 41 = .ok (.invokevirtual 149, 3) := by decide +kernel
theorem dX5_takeCell_44 : decode cX5_takeCell 44 = .ok (.ifCond .ne 5, 3) := by decide +kernel
theorem dX5_takeCell_47 : decode cX5_takeCell 47 = .ok (.iconst 0, 1) := by decide +kernel
theorem dX5_takeCell_48 : decode cX5_takeCell 48 = .ok (.ireturn, 1) := by decide +kernel
theorem dX5_takeCell_49 : decode cX5_takeCell 49 = .ok (.aload_n 0, 1) := by decide +kernel
theorem dX5_takeCell_50 : decode cX5_takeCell 50 = .ok (.iload_n 1, 1) := by decide +kernel
theorem dX5_takeCell_51 : decode cX5_takeCell 51 = .ok (.aload_n 0, 1) := by decide +kernel
theorem dX5_takeCell_52 : decode cX5_takeCell 52 = .ok (.getfield 12, 3) := by decide +kernel
theorem dX5_takeCell_55 : decode cX5_takeCell 55 = .ok (.getfield 140, 3) := by decide +kernel
theorem dX5_takeCell_58 : decode cX5_takeCell 58 = .ok (.getfield 152, 3) := by decide +kernel
theorem dX5_takeCell_61 : decode cX5_takeCell 61 = .ok (.imul, 1) := by decide +kernel
theorem dX5_takeCell_62 : decode cX5_takeCell 62 = .ok (.aload_n 0, 1) := by decide +kernel
theorem dX5_takeCell_63 : decode cX5_takeCell 63 = .ok (.getfield 110, 3) := by decide +kernel
theorem dX5_takeCell_66 : decode cX5_takeCell 66 = .ok (.iadd, 1) := by decide +kernel
theorem dX5_takeCell_67 : decode cX5_takeCell 67 = .ok (.putfield 155, 3) := by decide +kernel
theorem dX5_takeCell_70 : decode cX5_takeCell 70 = .ok (.iconst 1, 1) := by decide +kernel
theorem dX5_takeCell_71 : decode cX5_takeCell 71 = .ok (.ireturn, 1) := by decide +kernel
set_option maxRecDepth 20000 in
theorem ggX5_readChart_X5_takeWord : GoodIn wsX5_readChart wsX5_takeWord := goodIn_r _ [8, 9, 1, 10, 11, 12, 13, 14, 7, 15, 16, 17, 18, 19, 20, 21, 22, 23, 24, 25, 26, 27, 28, 29, 132, 133, 134, 135, 136, 137, 138, 139, 140, 141, 142, 143, 144, 145] (by decide +kernel) (by decide +kernel)
set_option maxRecDepth 20000 in
theorem gX5_readChart_X5_takeWord : GoodIn wsX5_readChart (wsV RX5 122 RX5 yX5_takeWord wsX5_takeWord) := goodIn_app (goodIn_of _ (by decide +kernel)) ggX5_readChart_X5_takeWord
set_option maxRecDepth 20000 in
theorem ggX5_readChart_X5_wordIs : GoodIn wsX5_readChart wsX5_wordIs := goodIn_r _ [33, 11, 1, 34, 35, 36, 37, 38, 39, 40, 41, 42, 43, 44, 45, 16, 17, 18, 7, 19, 10, 20, 46, 47, 48, 49, 50, 51, 52, 53, 54, 55, 56, 57, 58, 59, 60, 61, 62, 63, 64, 65, 66, 67, 68, 69, 70, 71, 72, 73, 74, 75, 76, 77, 78, 79, 80, 81, 82, 132, 133, 134, 135, 136, 137, 138, 139, 140, 141, 142, 143, 144, 145] (by decide +kernel) (by decide +kernel)
set_option maxRecDepth 20000 in
theorem gX5_readChart_X5_wordIs : GoodIn wsX5_readChart (wsV RX5 160 RX5 yX5_wordIs wsX5_wordIs) := goodIn_app (goodIn_of _ (by decide +kernel)) ggX5_readChart_X5_wordIs
set_option maxRecDepth 20000 in
theorem ggX5_readChart_X5_fail : GoodIn wsX5_readChart wsX5_fail := goodIn_r _ [27, 28, 29, 132, 133, 134, 135, 136, 137, 138, 139, 140, 141, 142, 143, 144, 145] (by decide +kernel) (by decide +kernel)
set_option maxRecDepth 20000 in
theorem gX5_readChart_X5_fail : GoodIn wsX5_readChart (wsV RX5 95 RX5 yX5_fail wsX5_fail) := goodIn_app (goodIn_of _ (by decide +kernel)) ggX5_readChart_X5_fail
set_option maxRecDepth 20000 in
theorem ggX5_readChart_X5_takeNumber : GoodIn wsX5_readChart wsX5_takeNumber := goodIn_r _ [86, 9, 87, 2, 10, 88, 89, 90, 91, 12, 13, 14, 7, 15, 16, 17, 18, 19, 20, 92, 93, 94, 24, 25, 26, 27, 28, 29, 132, 133, 134, 135, 136, 137, 138, 139, 140, 141, 142, 143, 144, 145] (by decide +kernel) (by decide +kernel)
set_option maxRecDepth 20000 in
theorem gX5_readChart_X5_takeNumber : GoodIn wsX5_readChart (wsV RX5 149 RX5 yX5_takeNumber wsX5_takeNumber) := goodIn_app (goodIn_of _ (by decide +kernel)) ggX5_readChart_X5_takeNumber
set_option maxRecDepth 20000 in
theorem ggX5_readChart_X6_beginSea : GoodIn wsX5_readChart wsX6_beginSea := goodIn_r _ [99, 100, 101, 102, 103, 104, 105, 106, 107, 108, 109, 110, 111, 112, 113, 114, 115, 116, 117, 118, 119, 120, 121, 122, 123, 124, 125, 126, 127, 128, 129, 130, 131, 146, 147, 148, 149, 150, 151, 152, 153, 154, 155, 156, 157, 158, 159, 160, 161, 162, 163, 164, 165, 166, 167] (by decide +kernel) (by decide +kernel)
set_option maxRecDepth 20000 in
theorem gX5_readChart_X6_beginSea : GoodIn wsX5_readChart (wsV RX5 164 RX6 yX6_beginSea wsX6_beginSea) := goodIn_app (goodIn_of _ (by decide +kernel)) ggX5_readChart_X6_beginSea
theorem dX5_readChart_0 : decode cX5_readChart 0 = .ok (.aload_n 0, 1) := by decide +kernel
theorem dX5_readChart_1 : decode cX5_readChart 1 = .ok (.invokevirtual 122, 3) := by decide +kernel
theorem dX5_readChart_4 : decode cX5_readChart 4 = .ok (.ifCond .ne 5, 3) := by decide +kernel
theorem dX5_readChart_7 : decode cX5_readChart 7 = .ok (.iconst 0, 1) := by decide +kernel
theorem dX5_readChart_8 : decode cX5_readChart 8 = .ok (.ireturn, 1) := by decide +kernel
theorem dX5_readChart_9 : decode cX5_readChart 9 = .ok (.aload_n 0, 1) := by decide +kernel
theorem dX5_readChart_10 : decode cX5_readChart 10 = .ok (.ldc 158, 2) := by decide +kernel
theorem dX5_readChart_12 : decode cX5_readChart 12 = .ok (.invokevirtual 160, 3) := by decide +kernel
theorem dX5_readChart_15 : decode cX5_readChart 15 = .ok (.ifCond .ne 13, 3) := by decide +kernel
theorem dX5_readChart_18 : decode cX5_readChart 18 = .ok (.aload_n 0, 1) := by decide +kernel
theorem dX5_readChart_19 : decode cX5_readChart 19 = .ok (.iconst 1, 1) := by decide +kernel
theorem dX5_readChart_20 : decode cX5_readChart 20 = .ok (.aload_n 0, 1) := by decide +kernel
theorem dX5_readChart_21 : decode cX5_readChart 21 = .ok (.getfield 85, 3) := by decide +kernel
theorem dX5_readChart_24 : decode cX5_readChart 24 = .ok (.invokevirtual 95, 3) := by decide +kernel
theorem dX5_readChart_27 : decode cX5_readChart 27 = .ok (.ireturn, 1) := by decide +kernel
theorem dX5_readChart_28 : decode cX5_readChart 28 = .ok (.aload_n 0, 1) := by decide +kernel
theorem dX5_readChart_29 : decode cX5_readChart 29 = .ok (.iconst 3, 1) := by decide +kernel
theorem dX5_readChart_30 : decode cX5_readChart 30 = .ok (.bipush 12, 2) := by decide +kernel
theorem dX5_readChart_32 : decode cX5_readChart 32 = .ok (.invokevirtual 149, 3) := by decide +kernel
theorem dX5_readChart_35 : decode cX5_readChart 35 = .ok (.ifCond .ne 5, 3) := by decide +kernel
theorem dX5_readChart_38 : decode cX5_readChart 38 = .ok (.iconst 0, 1) := by decide +kernel
theorem dX5_readChart_39 : decode cX5_readChart 39 = .ok (.ireturn, 1) := by decide +kernel
theorem dX5_readChart_40 : decode cX5_readChart 40 = .ok (.aload_n 0, 1) := by decide +kernel
theorem dX5_readChart_41 : decode cX5_readChart 41 = .ok (.getfield 110, 3) := by decide +kernel
theorem dX5_readChart_44 : decode cX5_readChart 44 = .ok (.istore_n 1, 1) := by decide +kernel
theorem dX5_readChart_45 : decode cX5_readChart 45 = .ok (.aload_n 0, 1) := by decide +kernel
theorem dX5_readChart_46 : decode cX5_readChart 46 = .ok (.iconst 3, 1) := by decide +kernel
theorem dX5_readChart_47 : decode cX5_readChart 47 = .ok (.bipush 12, 2) := by decide +kernel
theorem dX5_readChart_49 : decode cX5_readChart 49 = .ok (.invokevirtual 149, 3) := by decide +kernel
theorem dX5_readChart_52 : decode cX5_readChart 52 = .ok (.ifCond .ne 5, 3) := by decide +kernel
theorem dX5_readChart_55 : decode cX5_readChart 55 = .ok (.iconst 0, 1) := by decide +kernel
theorem dX5_readChart_56 : decode cX5_readChart 56 = .ok (.ireturn, 1) := by decide +kernel
theorem dX5_readChart_57 : decode cX5_readChart 57 = .ok (.aload_n 0, 1) := by decide +kernel
theorem dX5_readChart_58 : decode cX5_readChart 58 = .ok (.getfield 12, 3) := by decide +kernel
theorem dX5_readChart_61 : decode cX5_readChart 61 = .ok (.iload_n 1, 1) := by decide +kernel
theorem dX5_readChart_62 : decode cX5_readChart 62 = .ok (.aload_n 0, 1) := by decide +kernel
theorem dX5_readChart_63 : decode cX5_readChart 63 = .ok (.getfield 110, 3) := by decide +kernel
theorem dX5_readChart_66 : decode cX5_readChart 66 = .ok (.invokevirtual 164, 3) := by decide +kernel
theorem dX5_readChart_69 : decode cX5_readChart 69 = .ok (.iconst 1, 1) := by decide +kernel
theorem dX5_readChart_70 : decode cX5_readChart 70 = .ok (.ireturn, 1) := by decide +kernel
set_option maxRecDepth 20000 in
theorem ggX5_takeSemicolon_X5_nextSign : GoodIn wsX5_takeSemicolon wsX5_nextSign := goodIn_r _ [7, 8, 1, 9, 10, 11, 6, 12, 13, 20, 21, 22, 23, 24, 25, 26, 27, 28, 29, 30, 31, 32, 33] (by decide +kernel) (by decide +kernel)
set_option maxRecDepth 20000 in
theorem gX5_takeSemicolon_X5_nextSign : GoodIn wsX5_takeSemicolon (wsV RX5 53 RX5 yX5_nextSign wsX5_nextSign) := goodIn_app (goodIn_of _ (by decide +kernel)) ggX5_takeSemicolon_X5_nextSign
set_option maxRecDepth 20000 in
theorem ggX5_takeSemicolon_X5_fail : GoodIn wsX5_takeSemicolon wsX5_fail := goodIn_r _ [17, 18, 19, 20, 21, 22, 23, 24, 25, 26, 27, 28, 29, 30, 31, 32, 33] (by decide +kernel) (by decide +kernel)
set_option maxRecDepth 20000 in
theorem gX5_takeSemicolon_X5_fail : GoodIn wsX5_takeSemicolon (wsV RX5 95 RX5 yX5_fail wsX5_fail) := goodIn_app (goodIn_of _ (by decide +kernel)) ggX5_takeSemicolon_X5_fail
theorem dX5_takeSemicolon_0 : decode cX5_takeSemicolon 0 = .ok (.aload_n 0, 1) := by decide +kernel
theorem dX5_takeSemicolon_1 : decode cX5_takeSemicolon 1 = .ok (.invokevirtual 53, 3) := by decide +kernel
theorem dX5_takeSemicolon_4 : decode cX5_takeSemicolon 4 = .ok (.bipush 59, 2) := by decide +kernel
theorem dX5_takeSemicolon_6 : decode cX5_takeSemicolon 6 = .ok (.if_icmp .eq 13, 3) := by decide +kernel
theorem dX5_takeSemicolon_9 : decode cX5_takeSemicolon 9 = .ok (.aload_n 0, 1) := by decide +kernel
theorem dX5_takeSemicolon_10 : decode cX5_takeSemicolon 10 = .ok (.iconst 1, 1) := by decide +kernel
theorem dX5_takeSemicolon_11 : decode cX5_takeSemicolon 11 = .ok (.aload_n 0, 1) := by decide +kernel
theorem dX5_takeSemicolon_12 : decode cX5_takeSemicolon 12 = .ok (.getfield 33, 3) := by decide +kernel
theorem dX5_takeSemicolon_15 : decode cX5_takeSemicolon 15 = .ok (.invokevirtual 95, 3) := by decide +kernel
theorem dX5_takeSemicolon_18 : decode cX5_takeSemicolon 18 = .ok (.ireturn, 1) := by decide +kernel
theorem dX5_takeSemicolon_19 : decode cX5_takeSemicolon 19 = .ok (.aload_n 0, 1) := by decide +kernel
theorem dX5_takeSemicolon_20 : decode cX5_takeSemicolon 20 = .ok (.dup, 1) := by decide +kernel
theorem dX5_takeSemicolon_21 : decode cX5_takeSemicolon 21 = .ok (.getfield 33, 3) := by decide +kernel
theorem dX5_takeSemicolon_24 : decode cX5_takeSemicolon 24 = .ok (.iconst 1, 1) := by decide +kernel
theorem dX5_takeSemicolon_25 : decode cX5_takeSemicolon 25 = .ok (.iadd, 1) := by decide +kernel
theorem dX5_takeSemicolon_26 : decode cX5_takeSemicolon 26 = .ok (.putfield 33, 3) := by decide +kernel
theorem dX5_takeSemicolon_29 : decode cX5_takeSemicolon 29 = .ok (.aload_n 0, 1) := by decide +kernel
theorem dX5_takeSemicolon_30 : decode cX5_takeSemicolon 30 = .ok (.dup, 1) := by decide +kernel
theorem dX5_takeSemicolon_31 : decode cX5_takeSemicolon 31 = .ok (.getfield 36, 3) := by decide +kernel
theorem dX5_takeSemicolon_34 : decode cX5_takeSemicolon 34 = .ok (.iconst 1, 1) := by decide +kernel
theorem dX5_takeSemicolon_35 : decode cX5_takeSemicolon 35 = .ok (.iadd, 1) := by decide +kernel
theorem dX5_takeSemicolon_36 : decode cX5_takeSemicolon 36 = .ok (.putfield 36, 3) := by decide +kernel
theorem dX5_takeSemicolon_39 : decode cX5_takeSemicolon 39 = .ok (.iconst 1, 1) := by decide +kernel
theorem dX5_takeSemicolon_40 : decode cX5_takeSemicolon 40 = .ok (.ireturn, 1) := by decide +kernel
set_option maxRecDepth 20000 in
theorem ggX5_takeKeyword_X5_takeWord : GoodIn wsX5_takeKeyword wsX5_takeWord := goodIn_r _ [6, 7, 1, 8, 9, 10, 11, 12, 5, 13, 14, 15, 16, 17, 18, 19, 20, 21, 22, 23, 24, 25, 26, 27, 81, 82, 83, 84, 85, 86, 87, 88, 89, 90, 91, 92, 93, 94] (by decide +kernel) (by decide +kernel)
set_option maxRecDepth 20000 in
theorem gX5_takeKeyword_X5_takeWord : GoodIn wsX5_takeKeyword (wsV RX5 122 RX5 yX5_takeWord wsX5_takeWord) := goodIn_app (goodIn_of _ (by decide +kernel)) ggX5_takeKeyword_X5_takeWord
set_option maxRecDepth 20000 in
theorem ggX5_takeKeyword_X5_wordIs : GoodIn wsX5_takeKeyword wsX5_wordIs := goodIn_r _ [31, 9, 1, 32, 33, 34, 35, 36, 37, 38, 39, 40, 41, 42, 43, 14, 15, 16, 5, 17, 8, 18, 44, 45, 46, 47, 48, 49, 50, 51, 52, 53, 54, 55, 56, 57, 58, 59, 60, 61, 62, 63, 64, 65, 66, 67, 68, 69, 70, 71, 72, 73, 74, 75, 76, 77, 78, 79, 80, 81, 82, 83, 84, 85, 86, 87, 88, 89, 90, 91, 92, 93, 94] (by decide +kernel) (by decide +kernel)
set_option maxRecDepth 20000 in
theorem gX5_takeKeyword_X5_wordIs : GoodIn wsX5_takeKeyword (wsV RX5 160 RX5 yX5_wordIs wsX5_wordIs) := goodIn_app (goodIn_of _ (by decide +kernel)) ggX5_takeKeyword_X5_wordIs
set_option maxRecDepth 20000 in
theorem ggX5_takeKeyword_X5_fail : GoodIn wsX5_takeKeyword wsX5_fail := goodIn_r _ [25, 26, 27, 81, 82, 83, 84, 85, 86, 87, 88, 89, 90, 91, 92, 93, 94] (by decide +kernel) (by decide +kernel)
set_option maxRecDepth 20000 in
theorem gX5_takeKeyword_X5_fail : GoodIn wsX5_takeKeyword (wsV RX5 95 RX5 yX5_fail wsX5_fail) := goodIn_app (goodIn_of _ (by decide +kernel)) ggX5_takeKeyword_X5_fail
theorem dX5_takeKeyword_0 : decode cX5_takeKeyword 0 = .ok (.aload_n 0, 1) := by decide +kernel
theorem dX5_takeKeyword_1 : decode cX5_takeKeyword 1 = .ok (.invokevirtual 122, 3) := by decide +kernel
theorem dX5_takeKeyword_4 : decode cX5_takeKeyword 4 = .ok (.ifCond .ne 5, 3) := by decide +kernel
theorem dX5_takeKeyword_7 : decode cX5_takeKeyword 7 = .ok (.iconst (-1), 1) := by decide +kernel
theorem dX5_takeKeyword_8 : decode cX5_takeKeyword 8 = .ok (.ireturn, 1) := by decide +kernel
theorem dX5_takeKeyword_9 : decode cX5_takeKeyword 9 = .ok (.aload_n 0, 1) := by decide +kernel
theorem dX5_takeKeyword_10 : decode cX5_takeKeyword 10 = .ok (.ldc 168, 2) := by decide +kernel
theorem dX5_takeKeyword_12 : decode cX5_takeKeyword 12 = .ok (.invokevirtual 160, 3) := by decide +kernel
theorem dX5_takeKeyword_15 : decode cX5_takeKeyword 15 = .ok (.ifCond .eq 7, 3) := by decide +kernel
theorem dX5_takeKeyword_18 : decode cX5_takeKeyword 18 = .ok (.iconst 1, 1) := by decide +kernel
theorem dX5_takeKeyword_19 : decode cX5_takeKeyword 19 = .ok (.goto 70, 3) := by decide +kernel
theorem dX5_takeKeyword_22 : decode cX5_takeKeyword 22 = .ok (.aload_n 0, 1) := by decide +kernel
theorem dX5_takeKeyword_23 : decode cX5_takeKeyword 23 = .ok (.ldc 170, 2) := by decide +kernel
theorem dX5_takeKeyword_25 : decode cX5_takeKeyword 25 = .ok (.invokevirtual 160, 3) := by decide +kernel
theorem dX5_takeKeyword_28 : decode cX5_takeKeyword 28 = .ok (.ifCond .eq 7, 3) := by decide +kernel
theorem dX5_takeKeyword_31 : decode cX5_takeKeyword 31 = .ok (.iconst 2, 1) := by decide +kernel
theorem dX5_takeKeyword_32 : decode cX5_takeKeyword 32 = .ok (.goto 57, 3) := by decide +kernel
theorem dX5_takeKeyword_35 : decode cX5_takeKeyword 35 = .ok (.aload_n 0, 1) := by decide +kernel
theorem dX5_takeKeyword_36 : decode cX5_takeKeyword 36 = .ok (.ldc 172, 2) := by decide +kernel
theorem dX5_takeKeyword_38 : decode cX5_takeKeyword 38 = .ok (.invokevirtual 160, 3) := by decide +kernel
theorem dX5_takeKeyword_41 : decode cX5_takeKeyword 41 = .ok (.ifCond .eq 7, 3) := by decide +kernel
theorem dX5_takeKeyword_44 : decode cX5_takeKeyword 44 = .ok (.iconst 3, 1) := by decide +kernel
theorem dX5_takeKeyword_45 : decode cX5_takeKeyword 45 = .ok (.goto 44, 3) := by decide +kernel
theorem dX5_takeKeyword_48 : decode cX5_takeKeyword 48 = .ok (.aload_n 0, 1) := by decide +kernel
theorem dX5_takeKeyword_49 : decode cX5_takeKeyword 49 = .ok (.ldc 174, 2) := by decide +kernel
theorem dX5_takeKeyword_51 : decode cX5_takeKeyword 51 = .ok (.invokevirtual 160, 3) := by decide +kernel
theorem dX5_takeKeyword_54 : decode cX5_takeKeyword 54 = .ok (.ifCond .eq 7, 3) := by decide +kernel
theorem dX5_takeKeyword_57 : decode cX5_takeKeyword 57 = .ok (.iconst 4, 1) := by decide +kernel
theorem dX5_takeKeyword_58 : decode cX5_takeKeyword 58 = .ok (.goto 31, 3) := by decide +kernel
theorem dX5_takeKeyword_61 : decode cX5_takeKeyword 61 = .ok (.aload_n 0, 1) := by decide +kernel
theorem dX5_takeKeyword_62 : decode cX5_takeKeyword 62 = .ok (.ldc 176, 2) := by decide +kernel
theorem dX5_takeKeyword_64 : decode cX5_takeKeyword 64 = .ok (.invokevirtual 160, 3) := by decide +kernel
theorem dX5_takeKeyword_67 : decode cX5_takeKeyword 67 = .ok (.ifCond .eq 7, 3) := by decide +kernel
theorem dX5_takeKeyword_70 : decode cX5_takeKeyword 70 = .ok (.iconst 5, 1) := by decide +kernel
theorem dX5_takeKeyword_71 : decode cX5_takeKeyword 71 = .ok (.goto 18, 3) := by decide +kernel
theorem dX5_takeKeyword_74 : decode cX5_takeKeyword 74 = .ok (.aload_n 0, 1) := by decide +kernel
theorem dX5_takeKeyword_75 : decode cX5_takeKeyword 75 = .ok (.ldc 178, 2) := by decide +kernel
theorem dX5_takeKeyword_77 : decode cX5_takeKeyword 77 = .ok (.invokevirtual 160, 3) := by decide +kernel
theorem dX5_takeKeyword_80 : decode cX5_takeKeyword 80 = .ok (.ifCond .eq 8, 3) := by decide +kernel
theorem dX5_takeKeyword_83 : decode cX5_takeKeyword 83 = .ok (.bipush 6, 2) := by decide +kernel
theorem dX5_takeKeyword_85 : decode cX5_takeKeyword 85 = .ok (.goto 4, 3) := by decide +kernel
theorem dX5_takeKeyword_88 : decode cX5_takeKeyword 88 = .ok (.iconst (-1), 1) := by decide +kernel
theorem dX5_takeKeyword_89 : decode cX5_takeKeyword 89 = .ok (.istore_n 1, 1) := by decide +kernel
theorem dX5_takeKeyword_90 : decode cX5_takeKeyword 90 = .ok (.iload_n 1, 1) := by decide +kernel
theorem dX5_takeKeyword_91 : decode cX5_takeKeyword 91 = .ok (.iconst (-1), 1) := by decide +kernel
theorem dX5_takeKeyword_92 : decode cX5_takeKeyword 92 = .ok (.if_icmp .ne 13, 3) := by decide +kernel
theorem dX5_takeKeyword_95 : decode cX5_takeKeyword 95 = .ok (.aload_n 0, 1) := by decide +kernel
theorem dX5_takeKeyword_96 : decode cX5_takeKeyword 96 = .ok (.iconst 1, 1) := by decide +kernel
theorem dX5_takeKeyword_97 : decode cX5_takeKeyword 97 = .ok (.aload_n 0, 1) := by decide +kernel
theorem dX5_takeKeyword_98 : decode cX5_takeKeyword 98 = .ok (.getfield 85, 3) := by decide +kernel
theorem dX5_takeKeyword_101 : decode cX5_takeKeyword 101 = .ok (.invokevirtual 95, 3) := by decide +kernel
theorem dX5_takeKeyword_104 : decode cX5_takeKeyword 104 = .ok (.pop, 1) := by decide +kernel
theorem dX5_takeKeyword_105 : decode cX5_takeKeyword 105 = .ok (.iload_n 1, 1) := by decide +kernel
theorem dX5_takeKeyword_106 : decode cX5_takeKeyword 106 = .ok (.ireturn, 1) := by decide +kernel
set_option maxRecDepth 20000 in
theorem ggX5_readLand_X5_fail : GoodIn wsX5_readLand wsX5_fail := goodIn_r _ [13, 14, 15, 48, 49, 50, 51, 52, 53, 54, 55, 56, 57, 58, 59, 60, 61] (by decide +kernel) (by decide +kernel)
set_option maxRecDepth 20000 in
theorem gX5_readLand_X5_fail : GoodIn wsX5_readLand (wsV RX5 95 RX5 yX5_fail wsX5_fail) := goodIn_app (goodIn_of _ (by decide +kernel)) ggX5_readLand_X5_fail
set_option maxRecDepth 20000 in
theorem ggX5_readLand_X5_takeCell : GoodIn wsX5_readLand wsX5_takeCell := goodIn_r _ [19, 1, 4, 3, 20, 21, 22, 12, 23, 24, 25, 26, 27, 28, 7, 29, 30, 31, 32, 33, 34, 35, 36, 37, 38, 39, 40, 41, 9, 10, 11, 13, 14, 15, 48, 49, 50, 51, 52, 53, 54, 55, 56, 57, 58, 59, 60, 61, 62, 63, 64, 65, 66, 73, 74, 75, 76, 77, 78] (by decide +kernel) (by decide +kernel)
set_option maxRecDepth 20000 in
theorem gX5_readLand_X5_takeCell : GoodIn wsX5_readLand (wsV RX5 183 RX5 yX5_takeCell wsX5_takeCell) := goodIn_app (goodIn_of _ (by decide +kernel)) ggX5_readLand_X5_takeCell
set_option maxRecDepth 20000 in
theorem ggX5_readLand_X5_takeNumber : GoodIn wsX5_readLand wsX5_takeNumber := goodIn_r _ [23, 24, 25, 4, 26, 27, 28, 7, 29, 30, 31, 32, 12, 33, 34, 35, 36, 37, 38, 39, 40, 41, 9, 10, 11, 13, 14, 15, 48, 49, 50, 51, 52, 53, 54, 55, 56, 57, 58, 59, 60, 61] (by decide +kernel) (by decide +kernel)
set_option maxRecDepth 20000 in
theorem gX5_readLand_X5_takeNumber : GoodIn wsX5_readLand (wsV RX5 149 RX5 yX5_takeNumber wsX5_takeNumber) := goodIn_app (goodIn_of _ (by decide +kernel)) ggX5_readLand_X5_takeNumber
set_option maxRecDepth 20000 in
theorem ggX5_readLand_X1_setLand : GoodIn wsX5_readLand wsX1_setLand := goodIn_r _ [46, 47, 73, 74, 75, 76, 77, 78] (by decide +kernel) (by decide +kernel)
set_option maxRecDepth 20000 in
theorem gX5_readLand_X1_setLand : GoodIn wsX5_readLand (wsV RX5 189 RX1 yX1_setLand wsX1_setLand) := goodIn_app (goodIn_of _ (by decide +kernel)) ggX5_readLand_X1_setLand
theorem dX5_readLand_0 : decode cX5_readLand 0 = .ok (.aload_n 0, 1) := by decide +kernel
theorem dX5_readLand_1 : decode cX5_readLand 1 = .ok (.getfield 12, 3) := by decide +kernel
theorem dX5_readLand_4 : decode cX5_readLand 4 = .ok (.getfield 125, 3) := by decide +kernel
theorem dX5_readLand_7 : decode cX5_readLand 7 = .ok (.getfield 129, 3) := by decide +kernel
theorem dX5_readLand_10 : decode cX5_readLand 10 = .ok (.ifCond .gt 16, 3) := by decide +kernel
theorem dX5_readLand_13 : decode cX5_readLand 13 = .ok (.aload_n 0, 1) := by decide +kernel
theorem dX5_readLand_14 : decode cX5_readLand 14 = .ok (.getfield 12, 3) := by decide +kernel
theorem dX5_readLand_17 : decode cX5_readLand 17 = .ok (.getfield 140, 3) := by decide +kernel
theorem dX5_readLand_20 : decode cX5_readLand 20 = .ok (.getfield 180, 3) := by decide +kernel
theorem dX5_readLand_23 : decode cX5_readLand 23 = .ok (.ifCond .le 13, 3) := by decide +kernel
theorem dX5_readLand_26 : decode cX5_readLand 26 = .ok (.aload_n 0, 1) := by decide +kernel
theorem dX5_readLand_27 : decode cX5_readLand 27 = .ok (.iconst 3, 1) := by decide +kernel
theorem dX5_readLand_28 : decode cX5_readLand 28 = .ok (.aload_n 0, 1) := by decide +kernel
theorem dX5_readLand_29 : decode cX5_readLand 29 = .ok (.getfield 85, 3) := by decide +kernel
theorem dX5_readLand_32 : decode cX5_readLand 32 = .ok (.invokevirtual 95, 3) := by decide +kernel
theorem dX5_readLand_35 : decode cX5_readLand 35 = .ok (.ireturn, 1) := by decide +kernel
theorem dX5_readLand_36 : decode cX5_readLand 36 = .ok (.aload_n 0, 1) := by decide +kernel
theorem dX5_readLand_37 : decode cX5_readLand 37 = .ok (.invokevirtual 183, 3) := by decide +kernel
theorem dX5_readLand_40 : decode cX5_readLand 40 = .ok (.ifCond .ne 5, 3) := by decide +kernel
theorem dX5_readLand_43 : decode cX5_readLand 43 = .ok (.iconst 0, 1) := by decide +kernel
theorem dX5_readLand_44 : decode cX5_readLand 44 = .ok (.ireturn, 1) := by decide +kernel
theorem dX5_readLand_45 : decode cX5_readLand 45 = .ok (.aload_n 0, 1) := by decide +kernel
theorem dX5_readLand_46 : decode cX5_readLand 46 = .ok (.getfield 155, 3) := by decide +kernel
theorem dX5_readLand_49 : decode cX5_readLand 49 = .ok (.istore_n 1, 1) := by decide +kernel
theorem dX5_readLand_50 : decode cX5_readLand 50 = .ok (.aload_n 0, 1) := by decide +kernel
theorem dX5_readLand_51 : decode cX5_readLand 51 = .ok (.aload_n 0, 1) := by decide +kernel
theorem dX5_readLand_52 : decode cX5_readLand 52 = .ok (.getfield 110, 3) := by decide +kernel
theorem dX5_readLand_55 : decode cX5_readLand 55 = .ok (.aload_n 0, 1) := by decide +kernel
theorem dX5_readLand_56 : decode cX5_readLand 56 = .ok (.getfield 12, 3) := by decide +kernel
theorem dX5_readLand_59 : decode cX5_readLand 59 = .ok (.getfield 140, 3) := by decide +kernel
theorem dX5_readLand_62 : decode cX5_readLand 62 = .ok (.getfield 152, 3) := by decide +kernel
theorem dX5_readLand_65 : decode cX5_readLand 65 = .ok (.iconst 1, 1) := by decide +kernel
theorem dX5_readLand_66 : decode cX5_readLand 66 = .ok (.isub, 1) := by decide +kernel
theorem dX5_readLand_67 : decode cX5_readLand 67 = .ok (.invokevirtual 149, 3) := by decide +kernel
theorem dX5_readLand_70 : decode cX5_readLand 70 = .ok (.ifCond .ne 5, 3) := by decide +kernel
theorem dX5_readLand_73 : decode cX5_readLand 73 = .ok (.iconst 0, 1) := by decide +kernel
theorem dX5_readLand_74 : decode cX5_readLand 74 = .ok (.ireturn, 1) := by decide +kernel
theorem dX5_readLand_75 : decode cX5_readLand 75 = .ok (.iload_n 1, 1) := by decide +kernel
theorem dX5_readLand_76 : decode cX5_readLand 76 = .ok (.iload_n 1, 1) := by decide +kernel
theorem dX5_readLand_77 : decode cX5_readLand 77 = .ok (.iconst 1, 1) := by decide +kernel
theorem dX5_readLand_78 : decode cX5_readLand 78 = .ok (.aload_n 0, 1) := by decide +kernel
theorem dX5_readLand_79 : decode cX5_readLand 79 = .ok (.getfield 12, 3) := by decide +kernel
theorem dX5_readLand_82 : decode cX5_readLand 82 = .ok (.getfield 140, 3) := by decide +kernel
theorem dX5_readLand_85 : decode cX5_readLand 85 = .ok (.getfield 152, 3) := by decide +kernel
theorem dX5_readLand_88 : decode cX5_readLand 88 = .ok (.invokestatic 186, 3) := by decide +kernel
theorem dX5_readLand_91 : decode cX5_readLand 91 = .ok (.irem, 1) := by decide +kernel
theorem dX5_readLand_92 : decode cX5_readLand 92 = .ok (.isub, 1) := by decide +kernel
theorem dX5_readLand_93 : decode cX5_readLand 93 = .ok (.aload_n 0, 1) := by decide +kernel
theorem dX5_readLand_94 : decode cX5_readLand 94 = .ok (.getfield 110, 3) := by decide +kernel
theorem dX5_readLand_97 : decode cX5_readLand 97 = .ok (.iadd, 1) := by decide +kernel
theorem dX5_readLand_98 : decode cX5_readLand 98 = .ok (.istore_n 2, 1) := by decide +kernel
theorem dX5_readLand_99 : decode cX5_readLand 99 = .ok (.iload_n 1, 1) := by decide +kernel
theorem dX5_readLand_100 : decode cX5_readLand 100 = .ok (.istore_n 3, 1) := by decide +kernel
theorem dX5_readLand_101 : decode cX5_readLand 101 = .ok (.iload_n 3, 1) := by decide +kernel
theorem dX5_readLand_102 : decode cX5_readLand 102 = .ok (.iload_n 2, 1) := by decide +kernel
theorem dX5_readLand_103 : decode cX5_readLand 103 = .ok (.if_icmp .gt 21, 3) := by decide +kernel
theorem dX5_readLand_106 : decode cX5_readLand 106 = .ok (.aload_n 0, 1) := by decide +kernel
theorem dX5_readLand_107 : decode cX5_readLand 107 = .ok (.getfield 12, 3) := by decide +kernel
theorem dX5_readLand_110 : decode cX5_readLand 110 = .ok (.getfield 140, 3) := by decide +kernel
theorem dX5_readLand_113 : decode cX5_readLand 113 = .ok (.iload_n 3, 1) := by decide +kernel
theorem dX5_readLand_114 : decode cX5_readLand 114 = .ok (.iconst 1, 1) := by decide +kernel
theorem dX5_readLand_115 : decode cX5_readLand 115 = .ok (.invokevirtual 189, 3) := by decide +kernel
theorem dX5_readLand_118 : decode cX5_readLand 118 = .ok (.iinc 3 1, 3) := by decide +kernel
theorem dX5_readLand_121 : decode cX5_readLand 121 = .ok (.goto (-20), 3) := by decide +kernel
theorem dX5_readLand_124 : decode cX5_readLand 124 = .ok (.iconst 1, 1) := by decide +kernel
theorem dX5_readLand_125 : decode cX5_readLand 125 = .ok (.ireturn, 1) := by decide +kernel
set_option maxRecDepth 20000 in
theorem ggX5_readHarbour_X5_fail : GoodIn wsX5_readHarbour wsX5_fail := goodIn_r _ [11, 12, 13, 175, 176, 177, 178, 179, 180, 181, 182, 183, 184, 185, 186, 187, 188] (by decide +kernel) (by decide +kernel)
set_option maxRecDepth 20000 in
theorem gX5_readHarbour_X5_fail : GoodIn wsX5_readHarbour (wsV RX5 95 RX5 yX5_fail wsX5_fail) := goodIn_app (goodIn_of _ (by decide +kernel)) ggX5_readHarbour_X5_fail
set_option maxRecDepth 20000 in
theorem ggX5_readHarbour_X5_takeName : GoodIn wsX5_readHarbour wsX5_takeName := goodIn_r _ [17, 3, 2, 18, 19, 20, 10, 21, 22, 23, 24, 25, 26, 27, 28, 29, 30, 31, 6, 32, 33, 34, 7, 8, 9, 11, 12, 13, 175, 176, 177, 178, 179, 180, 181, 182, 183, 184, 185, 186, 187, 188] (by decide +kernel) (by decide +kernel)
set_option maxRecDepth 20000 in
theorem gX5_readHarbour_X5_takeName : GoodIn wsX5_readHarbour (wsV RX5 193 RX5 yX5_takeName wsX5_takeName) := goodIn_app (goodIn_of _ (by decide +kernel)) ggX5_readHarbour_X5_takeName
set_option maxRecDepth 20000 in
theorem ggX5_readHarbour_X5_namedHarbour : GoodIn wsX5_readHarbour wsX5_namedHarbour := goodIn_r _ [38, 1, 3, 2, 39, 40, 41, 42, 43, 44, 45, 46, 47, 48, 49, 50, 51, 28, 29, 30, 10, 31, 23, 6, 175, 176, 177, 178, 179, 180, 181, 182, 183, 184, 185, 186, 187, 188, 189, 190, 191, 192, 193, 194, 195, 196, 197, 198, 199] (by decide +kernel) (by decide +kernel)
set_option maxRecDepth 20000 in
theorem gX5_readHarbour_X5_namedHarbour : GoodIn wsX5_readHarbour (wsV RX5 196 RX5 yX5_namedHarbour wsX5_namedHarbour) := goodIn_app (goodIn_of _ (by decide +kernel)) ggX5_readHarbour_X5_namedHarbour
set_option maxRecDepth 20000 in
theorem ggX5_readHarbour_X5_takeCell : GoodIn wsX5_readHarbour wsX5_takeCell := goodIn_r _ [55, 1, 56, 4, 57, 58, 59, 10, 60, 22, 5, 23, 61, 62, 63, 64, 24, 25, 26, 27, 28, 29, 30, 31, 6, 65, 66, 67, 7, 8, 9, 11, 12, 13, 175, 176, 177, 178, 179, 180, 181, 182, 183, 184, 185, 186, 187, 188, 189, 190, 191, 192, 193, 200, 201, 202, 203, 204, 205] (by decide +kernel) (by decide +kernel)
set_option maxRecDepth 20000 in
theorem gX5_readHarbour_X5_takeCell : GoodIn wsX5_readHarbour (wsV RX5 183 RX5 yX5_takeCell wsX5_takeCell) := goodIn_app (goodIn_of _ (by decide +kernel)) ggX5_readHarbour_X5_takeCell
set_option maxRecDepth 20000 in
theorem ggX5_readHarbour_X6_isOpen : GoodIn wsX5_readHarbour wsX6_isOpen := goodIn_r _ [72, 73, 74, 75, 76, 77, 78, 79, 80, 81, 82, 83, 84, 85, 86, 87, 88, 42, 89, 44, 90, 189, 190, 191, 192, 193, 200, 201, 202, 203, 204, 205, 194, 195, 196, 197, 198, 199] (by decide +kernel) (by decide +kernel)
set_option maxRecDepth 20000 in
theorem gX5_readHarbour_X6_isOpen : GoodIn wsX5_readHarbour (wsV RX5 199 RX6 yX6_isOpen wsX6_isOpen) := goodIn_app (goodIn_of _ (by decide +kernel)) ggX5_readHarbour_X6_isOpen
set_option maxRecDepth 20000 in
theorem ggX5_readHarbour_X6_namesIn : GoodIn wsX5_readHarbour wsX6_namesIn := goodIn_r _ [94, 95, 189, 190, 191, 192, 193] (by decide +kernel) (by decide +kernel)
set_option maxRecDepth 20000 in
theorem gX5_readHarbour_X6_namesIn : GoodIn wsX5_readHarbour (wsV RX5 202 RX6 yX6_namesIn wsX6_namesIn) := goodIn_app (goodIn_of _ (by decide +kernel)) ggX5_readHarbour_X6_namesIn
set_option maxRecDepth 20000 in
theorem ggX5_readHarbour_X1_hasSeaBeside : GoodIn wsX5_readHarbour wsX1_hasSeaBeside := goodIn_r _ [99, 100, 101, 102, 78, 103, 104, 105, 106, 76, 77, 79, 80, 200, 201, 202, 203, 204, 205] (by decide +kernel) (by decide +kernel)
set_option maxRecDepth 20000 in
theorem gX5_readHarbour_X1_hasSeaBeside : GoodIn wsX5_readHarbour (wsV RX5 205 RX1 yX1_hasSeaBeside wsX1_hasSeaBeside) := goodIn_app (goodIn_of _ (by decide +kernel)) ggX5_readHarbour_X1_hasSeaBeside
set_option maxRecDepth 20000 in
theorem ggX5_readHarbour_X2_addHarbour : GoodIn wsX5_readHarbour wsX2_addHarbour := goodIn_r _ [110, 44, 90, 111, 45, 112, 62, 63, 64, 50, 194, 195, 196, 197, 198, 199] (by decide +kernel) (by decide +kernel)
set_option maxRecDepth 20000 in
theorem gX5_readHarbour_X2_addHarbour : GoodIn wsX5_readHarbour (wsV RX5 208 RX2 yX2_addHarbour wsX2_addHarbour) := goodIn_app (goodIn_of _ (by decide +kernel)) ggX5_readHarbour_X2_addHarbour
set_option maxRecDepth 20000 in
theorem ggX5_readHarbour_X5_readRed : GoodIn wsX5_readHarbour wsX5_readRed := goodIn_r _ [116, 2, 1, 24, 25, 26, 10, 27, 23, 22, 28, 29, 30, 31, 6, 32, 33, 34, 18, 19, 20, 21, 3, 7, 8, 9, 11, 12, 13, 117, 118, 119, 120, 121, 122, 123, 124, 125, 126, 127, 128, 129, 130, 131, 132, 133, 134, 135, 136, 137, 138, 139, 140, 141, 142, 143, 144, 145, 146, 147, 148, 149, 150, 151, 152, 153, 154, 155, 156, 157, 158, 159, 160, 161, 162, 163, 164, 165, 166, 167, 168, 169, 170, 171, 172, 42, 173, 174, 175, 176, 177, 178, 179, 180, 181, 182, 183, 184, 185, 186, 187, 188, 189, 190, 191, 192, 193, 194, 195, 196, 197, 198, 199] (by decide +kernel) (by decide +kernel)
set_option maxRecDepth 20000 in
theorem gX5_readHarbour_X5_readRed : GoodIn wsX5_readHarbour (wsV RX5 212 RX5 yX5_readRed wsX5_readRed) := goodIn_app (goodIn_of _ (by decide +kernel)) ggX5_readHarbour_X5_readRed
theorem dX5_readHarbour_0 : decode cX5_readHarbour 0 = .ok (.aload_n 0, 1) := by decide +kernel
theorem dX5_readHarbour_1 : decode cX5_readHarbour 1 = .ok (.getfield 12, 3) := by decide +kernel
theorem dX5_readHarbour_4 : decode cX5_readHarbour 4 = .ok (.getfield 125, 3) := by decide +kernel
theorem dX5_readHarbour_7 : decode cX5_readHarbour 7 = .ok (.getfield 129, 3) := by decide +kernel
theorem dX5_readHarbour_10 : decode cX5_readHarbour 10 = .ok (.bipush 8, 2) := by decide +kernel
theorem dX5_readHarbour_12 : decode cX5_readHarbour 12 = .ok (.if_icmp .lt 13, 3) := by decide +kernel
theorem dX5_readHarbour_15 : decode cX5_readHarbour 15 = .ok (.aload_n 0, 1) := by decide +kernel
theorem dX5_readHarbour_16 : decode cX5_readHarbour 16 = .ok (.iconst 3, 1) := by decide +kernel
theorem dX5_readHarbour_17 : decode cX5_readHarbour 17 = .ok (.aload_n 0, 1) := by decide +kernel
theorem dX5_readHarbour_18 : decode cX5_readHarbour 18 = .ok (.getfield 85, 3) := by decide +kernel
theorem dX5_readHarbour_21 : decode cX5_readHarbour 21 = .ok (.invokevirtual 95, 3) := by decide +kernel
theorem dX5_readHarbour_24 : decode cX5_readHarbour 24 = .ok (.ireturn, 1) := by decide +kernel
theorem dX5_readHarbour_25 : decode cX5_readHarbour 25 = .ok (.aload_n 0, 1) := by decide +kernel
