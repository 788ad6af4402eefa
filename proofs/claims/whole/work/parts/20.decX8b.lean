set_option maxRecDepth 20000 in
theorem ggX8_cell_X1_isLand : GoodIn wsX8_cell wsX1_isLand := goodIn_r _ [26, 27, 79, 80, 81, 82, 83, 84] (by decide +kernel) (by decide +kernel)
set_option maxRecDepth 20000 in
theorem gX8_cell_X1_isLand : GoodIn wsX8_cell (wsV RX8 168 RX1 yX1_isLand wsX1_isLand) := goodIn_app (goodIn_of _ (by decide +kernel)) ggX8_cell_X1_isLand
set_option maxRecDepth 20000 in
theorem ggX8_cell_X2_inCell : GoodIn wsX8_cell wsX2_inCell := goodIn_r _ [32, 33, 34, 85, 86, 87, 88, 89, 90] (by decide +kernel) (by decide +kernel)
set_option maxRecDepth 20000 in
theorem gX8_cell_X2_inCell : GoodIn wsX8_cell (wsV RX8 171 RX2 yX2_inCell wsX2_inCell) := goodIn_app (goodIn_of _ (by decide +kernel)) ggX8_cell_X2_inCell
set_option maxRecDepth 20000 in
theorem ggX8_cell_X1_riverIn : GoodIn wsX8_cell wsX1_riverIn := goodIn_r _ [38, 22, 79, 80, 81, 82, 83, 84] (by decide +kernel) (by decide +kernel)
set_option maxRecDepth 20000 in
theorem gX8_cell_X1_riverIn : GoodIn wsX8_cell (wsV RX8 174 RX1 yX1_riverIn wsX1_riverIn) := goodIn_app (goodIn_of _ (by decide +kernel)) ggX8_cell_X1_riverIn
set_option maxRecDepth 20000 in
theorem ggX8_cell_X6_letterIn : GoodIn wsX8_cell wsX6_letterIn := goodIn_r _ [43, 44, 45, 46, 47, 42, 48, 49, 74, 75, 76, 77, 78] (by decide +kernel) (by decide +kernel)
set_option maxRecDepth 20000 in
theorem gX8_cell_X6_letterIn : GoodIn wsX8_cell (wsV RX8 177 RX6 yX6_letterIn wsX6_letterIn) := goodIn_app (goodIn_of _ (by decide +kernel)) ggX8_cell_X6_letterIn
set_option maxRecDepth 20000 in
theorem ggX8_cell_X6_namesIn : GoodIn wsX8_cell wsX6_namesIn := goodIn_r _ [48, 49, 74, 75, 76, 77, 78] (by decide +kernel) (by decide +kernel)
set_option maxRecDepth 20000 in
theorem gX8_cell_X6_namesIn : GoodIn wsX8_cell (wsV RX8 180 RX6 yX6_namesIn wsX6_namesIn) := goodIn_app (goodIn_of _ (by decide +kernel)) ggX8_cell_X6_namesIn
set_option maxRecDepth 20000 in
theorem ggX8_cell_X1_depthOf : GoodIn wsX8_cell wsX1_depthOf := goodIn_r _ [54, 17, 16, 55, 56, 57, 58, 59, 60, 61, 62, 24, 25, 14, 26, 27, 63, 12, 13, 15, 79, 80, 81, 82, 83, 84] (by decide +kernel) (by decide +kernel)
set_option maxRecDepth 20000 in
theorem gX8_cell_X1_depthOf : GoodIn wsX8_cell (wsV RX8 183 RX1 yX1_depthOf wsX1_depthOf) := goodIn_app (goodIn_of _ (by decide +kernel)) ggX8_cell_X1_depthOf
theorem dX8_cell_0 : decode cX8_cell 0 = .ok (.aload_n 0, 1) := by decide +kernel
theorem dX8_cell_1 : decode cX8_cell 1 = .ok (.iload_n 1, 1) := by decide +kernel
theorem dX8_cell_2 : decode cX8_cell 2 = .ok (.invokevirtual 161, 3) := by decide +kernel
theorem dX8_cell_5 : decode cX8_cell 5 = .ok (.iload_n 2, 1) := by decide +kernel
theorem dX8_cell_6 : decode cX8_cell 6 = .ok (.tableswitch 130 0 5 #[38, 76, 88, 100, 109, 118], 38) := by decide +kernel
theorem dX8_cell_44 : decode cX8_cell 44 = .ok (.aload_n 0, 1) := by decide +kernel
theorem dX8_cell_45 : decode cX8_cell 45 = .ok (.getfield 10, 3) := by decide +kernel
theorem dX8_cell_48 : decode cX8_cell 48 = .ok (.getfield 106, 3) := by decide +kernel
theorem dX8_cell_51 : decode cX8_cell 51 = .ok (.iload_n 1, 1) := by decide +kernel
theorem dX8_cell_52 : decode cX8_cell 52 = .ok (.invokevirtual 164, 3) := by decide +kernel
theorem dX8_cell_55 : decode cX8_cell 55 = .ok (.ifCond .eq 7, 3) := by decide +kernel
theorem dX8_cell_58 : decode cX8_cell 58 = .ok (.iconst 2, 1) := by decide +kernel
theorem dX8_cell_59 : decode cX8_cell 59 = .ok (.goto 22, 3) := by decide +kernel
theorem dX8_cell_62 : decode cX8_cell 62 = .ok (.aload_n 0, 1) := by decide +kernel
theorem dX8_cell_63 : decode cX8_cell 63 = .ok (.getfield 10, 3) := by decide +kernel
theorem dX8_cell_66 : decode cX8_cell 66 = .ok (.getfield 106, 3) := by decide +kernel
theorem dX8_cell_69 : decode cX8_cell 69 = .ok (.iload_n 1, 1) := by decide +kernel
theorem dX8_cell_70 : decode cX8_cell 70 = .ok (.invokevirtual 168, 3) := by decide +kernel
theorem dX8_cell_73 : decode cX8_cell 73 = .ok (.ifCond .eq 7, 3) := by decide +kernel
theorem dX8_cell_76 : decode cX8_cell 76 = .ok (.iconst 1, 1) := by decide +kernel
theorem dX8_cell_77 : decode cX8_cell 77 = .ok (.goto 4, 3) := by decide +kernel
theorem dX8_cell_80 : decode cX8_cell 80 = .ok (.iconst 0, 1) := by decide +kernel
theorem dX8_cell_81 : decode cX8_cell 81 = .ok (.ireturn, 1) := by decide +kernel
theorem dX8_cell_82 : decode cX8_cell 82 = .ok (.aload_n 0, 1) := by decide +kernel
theorem dX8_cell_83 : decode cX8_cell 83 = .ok (.getfield 10, 3) := by decide +kernel
theorem dX8_cell_86 : decode cX8_cell 86 = .ok (.getfield 97, 3) := by decide +kernel
theorem dX8_cell_89 : decode cX8_cell 89 = .ok (.iload_n 1, 1) := by decide +kernel
theorem dX8_cell_90 : decode cX8_cell 90 = .ok (.invokevirtual 171, 3) := by decide +kernel
theorem dX8_cell_93 : decode cX8_cell 93 = .ok (.ireturn, 1) := by decide +kernel
theorem dX8_cell_94 : decode cX8_cell 94 = .ok (.aload_n 0, 1) := by decide +kernel
theorem dX8_cell_95 : decode cX8_cell 95 = .ok (.getfield 10, 3) := by decide +kernel
theorem dX8_cell_98 : decode cX8_cell 98 = .ok (.getfield 106, 3) := by decide +kernel
theorem dX8_cell_101 : decode cX8_cell 101 = .ok (.iload_n 1, 1) := by decide +kernel
theorem dX8_cell_102 : decode cX8_cell 102 = .ok (.invokevirtual 174, 3) := by decide +kernel
theorem dX8_cell_105 : decode cX8_cell 105 = .ok (.ireturn, 1) := by decide +kernel
theorem dX8_cell_106 : decode cX8_cell 106 = .ok (.aload_n 0, 1) := by decide +kernel
theorem dX8_cell_107 : decode cX8_cell 107 = .ok (.getfield 10, 3) := by decide +kernel
theorem dX8_cell_110 : decode cX8_cell 110 = .ok (.iload_n 1, 1) := by decide +kernel
theorem dX8_cell_111 : decode cX8_cell 111 = .ok (.invokevirtual 177, 3) := by decide +kernel
theorem dX8_cell_114 : decode cX8_cell 114 = .ok (.ireturn, 1) := by decide +kernel
theorem dX8_cell_115 : decode cX8_cell 115 = .ok (.aload_n 0, 1) := by decide +kernel
theorem dX8_cell_116 : decode cX8_cell 116 = .ok (.getfield 10, 3) := by decide +kernel
theorem dX8_cell_119 : decode cX8_cell 119 = .ok (.iload_n 1, 1) := by decide +kernel
theorem dX8_cell_120 : decode cX8_cell 120 = .ok (.invokevirtual 180, 3) := by decide +kernel
theorem dX8_cell_123 : decode cX8_cell 123 = .ok (.ireturn, 1) := by decide +kernel
theorem dX8_cell_124 : decode cX8_cell 124 = .ok (.aload_n 0, 1) := by decide +kernel
theorem dX8_cell_125 : decode cX8_cell 125 = .ok (.getfield 10, 3) := by decide +kernel
theorem dX8_cell_128 : decode cX8_cell 128 = .ok (.getfield 106, 3) := by decide +kernel
theorem dX8_cell_131 : decode cX8_cell 131 = .ok (.iload_n 1, 1) := by decide +kernel
theorem dX8_cell_132 : decode cX8_cell 132 = .ok (.invokevirtual 183, 3) := by decide +kernel
theorem dX8_cell_135 : decode cX8_cell 135 = .ok (.ireturn, 1) := by decide +kernel
theorem dX8_cell_136 : decode cX8_cell 136 = .ok (.new 154, 3) := by decide +kernel
theorem dX8_cell_139 : decode cX8_cell 139 = .ok (.dup, 1) := by decide +kernel
theorem dX8_cell_140 : decode cX8_cell 140 = .ok (.ldc 186, 2) := by decide +kernel
theorem dX8_cell_142 : decode cX8_cell 142 = .ok (.invokespecial 158, 3) := by decide +kernel
theorem dX8_cell_145 : decode cX8_cell 145 = .ok (.athrow, 1) := by decide +kernel
set_option maxRecDepth 20000 in
theorem ggX8_harbour_X8_needHarbour : GoodIn wsX8_harbour wsX8_needHarbour := goodIn_ca (goodIn_r _ [8, 9, 10, 3, 44, 45, 46, 47, 48, 49, 50, 51, 52, 53, 54, 55, 56, 57, 58, 59, 60, 61, 62, 63, 64] (by decide +kernel) (by decide +kernel)) (goodIn_sub (fun _ h => List.mem_cons_of_mem _ (List.mem_append_right _ h)) (by decide +kernel))
set_option maxRecDepth 20000 in
theorem gX8_harbour_X8_needHarbour : GoodIn wsX8_harbour (wsV RX8 188 RX8 yX8_needHarbour wsX8_needHarbour) := goodIn_app (goodIn_of _ (by decide +kernel)) ggX8_harbour_X8_needHarbour
set_option maxRecDepth 20000 in
theorem ggX8_harbour_X2_homeOf : GoodIn wsX8_harbour wsX2_homeOf := goodIn_r _ [15, 16, 17, 59, 60, 61, 62, 63, 64] (by decide +kernel) (by decide +kernel)
set_option maxRecDepth 20000 in
theorem gX8_harbour_X2_homeOf : GoodIn wsX8_harbour (wsV RX8 191 RX2 yX2_homeOf wsX2_homeOf) := goodIn_app (goodIn_of _ (by decide +kernel)) ggX8_harbour_X2_homeOf
set_option maxRecDepth 20000 in
theorem ggX8_harbour_X2_isRed : GoodIn wsX8_harbour wsX2_isRed := goodIn_r _ [21, 22, 59, 60, 61, 62, 63, 64] (by decide +kernel) (by decide +kernel)
set_option maxRecDepth 20000 in
theorem gX8_harbour_X2_isRed : GoodIn wsX8_harbour (wsV RX8 194 RX2 yX2_isRed wsX2_isRed) := goodIn_app (goodIn_of _ (by decide +kernel)) ggX8_harbour_X2_isRed
set_option maxRecDepth 20000 in
theorem ggX8_harbour_X2_directionOf : GoodIn wsX8_harbour wsX2_directionOf := goodIn_r _ [26, 16, 27, 59, 60, 61, 62, 63, 64] (by decide +kernel) (by decide +kernel)
set_option maxRecDepth 20000 in
theorem gX8_harbour_X2_directionOf : GoodIn wsX8_harbour (wsV RX8 197 RX2 yX2_directionOf wsX2_directionOf) := goodIn_app (goodIn_of _ (by decide +kernel)) ggX8_harbour_X2_directionOf
set_option maxRecDepth 20000 in
theorem ggX8_harbour_X2_lengthOf : GoodIn wsX8_harbour wsX2_lengthOf := goodIn_r _ [31, 16, 32, 59, 60, 61, 62, 63, 64] (by decide +kernel) (by decide +kernel)
set_option maxRecDepth 20000 in
theorem gX8_harbour_X2_lengthOf : GoodIn wsX8_harbour (wsV RX8 200 RX2 yX2_lengthOf wsX2_lengthOf) := goodIn_app (goodIn_of _ (by decide +kernel)) ggX8_harbour_X2_lengthOf
set_option maxRecDepth 20000 in
theorem ggX8_harbour_X4_timesOf : GoodIn wsX8_harbour wsX4_timesOf := goodIn_r _ [37, 38, 39, 40, 41, 36, 42, 43, 65, 66, 67, 68, 69] (by decide +kernel) (by decide +kernel)
set_option maxRecDepth 20000 in
theorem gX8_harbour_X4_timesOf : GoodIn wsX8_harbour (wsV RX8 203 RX4 yX4_timesOf wsX4_timesOf) := goodIn_app (goodIn_of _ (by decide +kernel)) ggX8_harbour_X4_timesOf
theorem dX8_harbour_0 : decode cX8_harbour 0 = .ok (.aload_n 0, 1) := by decide +kernel
theorem dX8_harbour_1 : decode cX8_harbour 1 = .ok (.iload_n 1, 1) := by decide +kernel
theorem dX8_harbour_2 : decode cX8_harbour 2 = .ok (.invokevirtual 188, 3) := by decide +kernel
theorem dX8_harbour_5 : decode cX8_harbour 5 = .ok (.iload_n 2, 1) := by decide +kernel
theorem dX8_harbour_6 : decode cX8_harbour 6 = .ok (.tableswitch 102 0 4 #[34, 46, 66, 78, 90], 34) := by decide +kernel
theorem dX8_harbour_40 : decode cX8_harbour 40 = .ok (.aload_n 0, 1) := by decide +kernel
theorem dX8_harbour_41 : decode cX8_harbour 41 = .ok (.getfield 10, 3) := by decide +kernel
theorem dX8_harbour_44 : decode cX8_harbour 44 = .ok (.getfield 97, 3) := by decide +kernel
theorem dX8_harbour_47 : decode cX8_harbour 47 = .ok (.iload_n 1, 1) := by decide +kernel
theorem dX8_harbour_48 : decode cX8_harbour 48 = .ok (.invokevirtual 191, 3) := by decide +kernel
theorem dX8_harbour_51 : decode cX8_harbour 51 = .ok (.ireturn, 1) := by decide +kernel
theorem dX8_harbour_52 : decode cX8_harbour 52 = .ok (.aload_n 0, 1) := by decide +kernel
theorem dX8_harbour_53 : decode cX8_harbour 53 = .ok (.getfield 10, 3) := by decide +kernel
theorem dX8_harbour_56 : decode cX8_harbour 56 = .ok (.getfield 97, 3) := by decide +kernel
theorem dX8_harbour_59 : decode cX8_harbour 59 = .ok (.iload_n 1, 1) := by decide +kernel
theorem dX8_harbour_60 : decode cX8_harbour 60 = .ok (.invokevirtual 194, 3) := by decide +kernel
theorem dX8_harbour_63 : decode cX8_harbour 63 = .ok (.ifCond .eq 7, 3) := by decide +kernel
theorem dX8_harbour_66 : decode cX8_harbour 66 = .ok (.iconst 1, 1) := by decide +kernel
theorem dX8_harbour_67 : decode cX8_harbour 67 = .ok (.goto 4, 3) := by decide +kernel
theorem dX8_harbour_70 : decode cX8_harbour 70 = .ok (.iconst 0, 1) := by decide +kernel
theorem dX8_harbour_71 : decode cX8_harbour 71 = .ok (.ireturn, 1) := by decide +kernel
theorem dX8_harbour_72 : decode cX8_harbour 72 = .ok (.aload_n 0, 1) := by decide +kernel
theorem dX8_harbour_73 : decode cX8_harbour 73 = .ok (.getfield 10, 3) := by decide +kernel
theorem dX8_harbour_76 : decode cX8_harbour 76 = .ok (.getfield 97, 3) := by decide +kernel
theorem dX8_harbour_79 : decode cX8_harbour 79 = .ok (.iload_n 1, 1) := by decide +kernel
theorem dX8_harbour_80 : decode cX8_harbour 80 = .ok (.invokevirtual 197, 3) := by decide +kernel
theorem dX8_harbour_83 : decode cX8_harbour 83 = .ok (.ireturn, 1) := by decide +kernel
theorem dX8_harbour_84 : decode cX8_harbour 84 = .ok (.aload_n 0, 1) := by decide +kernel
theorem dX8_harbour_85 : decode cX8_harbour 85 = .ok (.getfield 10, 3) := by decide +kernel
theorem dX8_harbour_88 : decode cX8_harbour 88 = .ok (.getfield 97, 3) := by decide +kernel
theorem dX8_harbour_91 : decode cX8_harbour 91 = .ok (.iload_n 1, 1) := by decide +kernel
theorem dX8_harbour_92 : decode cX8_harbour 92 = .ok (.invokevirtual 200, 3) := by decide +kernel
theorem dX8_harbour_95 : decode cX8_harbour 95 = .ok (.ireturn, 1) := by decide +kernel
theorem dX8_harbour_96 : decode cX8_harbour 96 = .ok (.aload_n 0, 1) := by decide +kernel
theorem dX8_harbour_97 : decode cX8_harbour 97 = .ok (.getfield 10, 3) := by decide +kernel
theorem dX8_harbour_100 : decode cX8_harbour 100 = .ok (.getfield 137, 3) := by decide +kernel
theorem dX8_harbour_103 : decode cX8_harbour 103 = .ok (.iload_n 1, 1) := by decide +kernel
theorem dX8_harbour_104 : decode cX8_harbour 104 = .ok (.invokevirtual 203, 3) := by decide +kernel
theorem dX8_harbour_107 : decode cX8_harbour 107 = .ok (.ireturn, 1) := by decide +kernel
theorem dX8_harbour_108 : decode cX8_harbour 108 = .ok (.new 154, 3) := by decide +kernel
theorem dX8_harbour_111 : decode cX8_harbour 111 = .ok (.dup, 1) := by decide +kernel
theorem dX8_harbour_112 : decode cX8_harbour 112 = .ok (.ldc 206, 2) := by decide +kernel
theorem dX8_harbour_114 : decode cX8_harbour 114 = .ok (.invokespecial 158, 3) := by decide +kernel
theorem dX8_harbour_117 : decode cX8_harbour 117 = .ok (.athrow, 1) := by decide +kernel
set_option maxRecDepth 20000 in
theorem ggX8_letter_X8_needHarbour : GoodIn wsX8_letter wsX8_needHarbour := goodIn_ca (goodIn_r _ [6, 7, 8, 1, 21, 22, 23, 24, 25, 26, 27, 28, 29, 30, 31, 32, 33, 34, 35, 36, 37, 38, 39, 40, 41] (by decide +kernel) (by decide +kernel)) (goodIn_sub (fun _ h => List.mem_cons_of_mem _ (List.mem_append_right _ h)) (by decide +kernel))
set_option maxRecDepth 20000 in
theorem gX8_letter_X8_needHarbour : GoodIn wsX8_letter (wsV RX8 188 RX8 yX8_needHarbour wsX8_needHarbour) := goodIn_app (goodIn_of _ (by decide +kernel)) ggX8_letter_X8_needHarbour
set_option maxRecDepth 20000 in
theorem ggX8_letter_X2_letterOf : GoodIn wsX8_letter wsX2_letterOf := goodIn_r _ [13, 14, 15, 16, 17, 12, 18, 19, 20, 36, 37, 38, 39, 40, 41] (by decide +kernel) (by decide +kernel)
set_option maxRecDepth 20000 in
theorem gX8_letter_X2_letterOf : GoodIn wsX8_letter (wsV RX8 208 RX2 yX2_letterOf wsX2_letterOf) := goodIn_app (goodIn_of _ (by decide +kernel)) ggX8_letter_X2_letterOf
theorem dX8_letter_0 : decode cX8_letter 0 = .ok (.aload_n 0, 1) := by decide +kernel
theorem dX8_letter_1 : decode cX8_letter 1 = .ok (.iload_n 1, 1) := by decide +kernel
theorem dX8_letter_2 : decode cX8_letter 2 = .ok (.invokevirtual 188, 3) := by decide +kernel
theorem dX8_letter_5 : decode cX8_letter 5 = .ok (.aload_n 0, 1) := by decide +kernel
theorem dX8_letter_6 : decode cX8_letter 6 = .ok (.getfield 10, 3) := by decide +kernel
theorem dX8_letter_9 : decode cX8_letter 9 = .ok (.getfield 97, 3) := by decide +kernel
theorem dX8_letter_12 : decode cX8_letter 12 = .ok (.iload_n 1, 1) := by decide +kernel
theorem dX8_letter_13 : decode cX8_letter 13 = .ok (.iload_n 2, 1) := by decide +kernel
theorem dX8_letter_14 : decode cX8_letter 14 = .ok (.invokevirtual 208, 3) := by decide +kernel
theorem dX8_letter_17 : decode cX8_letter 17 = .ok (.ireturn, 1) := by decide +kernel
set_option maxRecDepth 20000 in
theorem ggX8_river_X8_needRiver : GoodIn wsX8_river wsX8_needRiver := goodIn_ca (goodIn_r _ [6, 7, 8, 1, 16, 17, 18, 19, 20, 21, 22, 23, 24, 25, 26, 27, 28, 29, 30, 31, 32, 33, 34, 35, 36] (by decide +kernel) (by decide +kernel)) (goodIn_sub (fun _ h => List.mem_cons_of_mem _ (List.mem_append_right _ h)) (by decide +kernel))
set_option maxRecDepth 20000 in
theorem gX8_river_X8_needRiver : GoodIn wsX8_river (wsV RX8 212 RX8 yX8_needRiver wsX8_needRiver) := goodIn_app (goodIn_of _ (by decide +kernel)) ggX8_river_X8_needRiver
set_option maxRecDepth 20000 in
theorem ggX8_river_X1_riverCell : GoodIn wsX8_river wsX1_riverCell := goodIn_r _ [13, 14, 15, 31, 32, 33, 34, 35, 36] (by decide +kernel) (by decide +kernel)
set_option maxRecDepth 20000 in
theorem gX8_river_X1_riverCell : GoodIn wsX8_river (wsV RX8 215 RX1 yX1_riverCell wsX1_riverCell) := goodIn_app (goodIn_of _ (by decide +kernel)) ggX8_river_X1_riverCell
theorem dX8_river_0 : decode cX8_river 0 = .ok (.aload_n 0, 1) := by decide +kernel
theorem dX8_river_1 : decode cX8_river 1 = .ok (.iload_n 1, 1) := by decide +kernel
theorem dX8_river_2 : decode cX8_river 2 = .ok (.invokevirtual 212, 3) := by decide +kernel
theorem dX8_river_5 : decode cX8_river 5 = .ok (.aload_n 0, 1) := by decide +kernel
theorem dX8_river_6 : decode cX8_river 6 = .ok (.getfield 10, 3) := by decide +kernel
theorem dX8_river_9 : decode cX8_river 9 = .ok (.getfield 106, 3) := by decide +kernel
theorem dX8_river_12 : decode cX8_river 12 = .ok (.iload_n 1, 1) := by decide +kernel
theorem dX8_river_13 : decode cX8_river 13 = .ok (.iload_n 2, 1) := by decide +kernel
theorem dX8_river_14 : decode cX8_river 14 = .ok (.invokevirtual 215, 3) := by decide +kernel
theorem dX8_river_17 : decode cX8_river 17 = .ok (.ireturn, 1) := by decide +kernel
set_option maxRecDepth 20000 in
theorem ggX8_voyage_X4_stopAt : GoodIn wsX8_voyage wsX4_stopAt := goodIn_r _ [6, 7, 8, 24, 25, 26, 27, 28] (by decide +kernel) (by decide +kernel)
set_option maxRecDepth 20000 in
theorem gX8_voyage_X4_stopAt : GoodIn wsX8_voyage (wsV RX8 218 RX4 yX4_stopAt wsX4_stopAt) := goodIn_app (goodIn_of _ (by decide +kernel)) ggX8_voyage_X4_stopAt
theorem dX8_voyage_0 : decode cX8_voyage 0 = .ok (.aload_n 0, 1) := by decide +kernel
theorem dX8_voyage_1 : decode cX8_voyage 1 = .ok (.getfield 10, 3) := by decide +kernel
theorem dX8_voyage_4 : decode cX8_voyage 4 = .ok (.getfield 137, 3) := by decide +kernel
theorem dX8_voyage_7 : decode cX8_voyage 7 = .ok (.iload_n 1, 1) := by decide +kernel
theorem dX8_voyage_8 : decode cX8_voyage 8 = .ok (.invokevirtual 218, 3) := by decide +kernel
theorem dX8_voyage_11 : decode cX8_voyage 11 = .ok (.ireturn, 1) := by decide +kernel
set_option maxRecDepth 20000 in
theorem ggX8_why_X8_needHarbour : GoodIn wsX8_why wsX8_needHarbour := goodIn_ca (goodIn_r _ [6, 7, 8, 1, 82, 83, 84, 85, 86, 87, 88, 89, 90, 91, 92, 93, 94, 95, 96, 97, 98, 99, 100, 101, 102] (by decide +kernel) (by decide +kernel)) (goodIn_sub (fun _ h => List.mem_cons_of_mem _ (List.mem_append_left _ (List.mem_append_right _ h))) (by decide +kernel))
set_option maxRecDepth 20000 in
theorem gX8_why_X8_needHarbour : GoodIn wsX8_why (wsV RX8 188 RX8 yX8_needHarbour wsX8_needHarbour) := goodIn_app (goodIn_of _ (by decide +kernel)) ggX8_why_X8_needHarbour
set_option maxRecDepth 20000 in
theorem ggX8_why_X8_needDirection : GoodIn wsX8_why wsX8_needDirection := goodIn_ca (goodIn_r _ [11, 12, 13] (by decide +kernel) (by decide +kernel)) (goodIn_sub (fun _ h => List.mem_cons_of_mem _ (List.mem_append_right _ h)) (by decide +kernel))
set_option maxRecDepth 20000 in
theorem gX8_why_X8_needDirection : GoodIn wsX8_why (va_wsS RX8 221 yX8_needDirection wsX8_needDirection) := goodIn_app (goodIn_of _ (by decide +kernel)) ggX8_why_X8_needDirection
set_option maxRecDepth 20000 in
theorem ggX8_why_X6_reasonAgainst : GoodIn wsX8_why wsX6_reasonAgainst := goodIn_r _ [18, 19, 20, 21, 17, 22, 23, 24, 25, 26, 27, 28, 29, 30, 31, 32, 33, 34, 35, 36, 37, 38, 39, 40, 41, 42, 43, 44, 45, 46, 47, 48, 49, 50, 51, 52, 53, 54, 55, 56, 57, 58, 59, 60, 61, 62, 63, 64, 65, 66, 67, 68, 69, 70, 71, 72, 73, 74, 75, 76, 77, 78, 79, 80, 81, 92, 93, 94, 95, 96, 97, 98, 99, 100, 101, 102, 103, 104, 105, 106, 107, 108] (by decide +kernel) (by decide +kernel)
set_option maxRecDepth 20000 in
theorem gX8_why_X6_reasonAgainst : GoodIn wsX8_why (wsV RX8 224 RX6 yX6_reasonAgainst wsX6_reasonAgainst) := goodIn_app (goodIn_of _ (by decide +kernel)) ggX8_why_X6_reasonAgainst
theorem dX8_why_0 : decode cX8_why 0 = .ok (.aload_n 0, 1) := by decide +kernel
theorem dX8_why_1 : decode cX8_why 1 = .ok (.iload_n 1, 1) := by decide +kernel
theorem dX8_why_2 : decode cX8_why 2 = .ok (.invokevirtual 188, 3) := by decide +kernel
theorem dX8_why_5 : decode cX8_why 5 = .ok (.iload_n 2, 1) := by decide +kernel
theorem dX8_why_6 : decode cX8_why 6 = .ok (.invokestatic 221, 3) := by decide +kernel
theorem dX8_why_9 : decode cX8_why 9 = .ok (.aload_n 0, 1) := by decide +kernel
theorem dX8_why_10 : decode cX8_why 10 = .ok (.getfield 10, 3) := by decide +kernel
theorem dX8_why_13 : decode cX8_why 13 = .ok (.iload_n 1, 1) := by decide +kernel
theorem dX8_why_14 : decode cX8_why 14 = .ok (.iload_n 2, 1) := by decide +kernel
theorem dX8_why_15 : decode cX8_why 15 = .ok (.invokevirtual 224, 3) := by decide +kernel
theorem dX8_why_18 : decode cX8_why 18 = .ok (.ireturn, 1) := by decide +kernel
set_option maxRecDepth 20000 in
theorem ggX8_ways_X8_needHarbour : GoodIn wsX8_ways wsX8_needHarbour := goodIn_ca (goodIn_r _ [6, 7, 8, 1, 77, 78, 79, 80, 81, 82, 83, 84, 85, 86, 87, 88, 89, 90, 91, 92, 93, 94, 95, 96, 97] (by decide +kernel) (by decide +kernel)) (goodIn_sub (fun _ h => List.mem_cons_of_mem _ (List.mem_append_right _ h)) (by decide +kernel))
set_option maxRecDepth 20000 in
theorem gX8_ways_X8_needHarbour : GoodIn wsX8_ways (wsV RX8 188 RX8 yX8_needHarbour wsX8_needHarbour) := goodIn_app (goodIn_of _ (by decide +kernel)) ggX8_ways_X8_needHarbour
set_option maxRecDepth 20000 in
theorem ggX8_ways_X6_reasonAgainst : GoodIn wsX8_ways wsX6_reasonAgainst := goodIn_r _ [13, 14, 15, 16, 12, 17, 18, 19, 20, 21, 22, 23, 24, 25, 26, 27, 28, 29, 30, 31, 32, 33, 34, 35, 36, 37, 38, 39, 40, 41, 42, 43, 44, 45, 46, 47, 48, 49, 50, 51, 52, 53, 54, 55, 56, 57, 58, 59, 60, 61, 62, 63, 64, 65, 66, 67, 68, 69, 70, 71, 72, 73, 74, 75, 76, 87, 88, 89, 90, 91, 92, 93, 94, 95, 96, 97, 98, 99, 100, 101, 102, 103] (by decide +kernel) (by decide +kernel)
set_option maxRecDepth 20000 in
theorem gX8_ways_X6_reasonAgainst : GoodIn wsX8_ways (wsV RX8 224 RX6 yX6_reasonAgainst wsX6_reasonAgainst) := goodIn_app (goodIn_of _ (by decide +kernel)) ggX8_ways_X6_reasonAgainst
theorem dX8_ways_0 : decode cX8_ways 0 = .ok (.aload_n 0, 1) := by decide +kernel
theorem dX8_ways_1 : decode cX8_ways 1 = .ok (.iload_n 1, 1) := by decide +kernel
theorem dX8_ways_2 : decode cX8_ways 2 = .ok (.invokevirtual 188, 3) := by decide +kernel
theorem dX8_ways_5 : decode cX8_ways 5 = .ok (.iconst 0, 1) := by decide +kernel
theorem dX8_ways_6 : decode cX8_ways 6 = .ok (.istore_n 2, 1) := by decide +kernel
theorem dX8_ways_7 : decode cX8_ways 7 = .ok (.iconst 0, 1) := by decide +kernel
theorem dX8_ways_8 : decode cX8_ways 8 = .ok (.istore_n 3, 1) := by decide +kernel
theorem dX8_ways_9 : decode cX8_ways 9 = .ok (.iload_n 3, 1) := by decide +kernel
theorem dX8_ways_10 : decode cX8_ways 10 = .ok (.iconst 4, 1) := by decide +kernel
theorem dX8_ways_11 : decode cX8_ways 11 = .ok (.if_icmp .ge 27, 3) := by decide +kernel
theorem dX8_ways_14 : decode cX8_ways 14 = .ok (.aload_n 0, 1) := by decide +kernel
theorem dX8_ways_15 : decode cX8_ways 15 = .ok (.getfield 10, 3) := by decide +kernel
theorem dX8_ways_18 : decode cX8_ways 18 = .ok (.iload_n 1, 1) := by decide +kernel
theorem dX8_ways_19 : decode cX8_ways 19 = .ok (.iload_n 3, 1) := by decide +kernel
theorem dX8_ways_20 : decode cX8_ways 20 = .ok (.invokevirtual 224, 3) := by decide +kernel
theorem dX8_ways_23 : decode cX8_ways 23 = .ok (.ifCond .ne 9, 3) := by decide +kernel
theorem dX8_ways_26 : decode cX8_ways 26 = .ok (.iload_n 2, 1) := by decide +kernel
theorem dX8_ways_27 : decode cX8_ways 27 = .ok (.iconst 1, 1) := by decide +kernel
theorem dX8_ways_28 : decode cX8_ways 28 = .ok (.iload_n 3, 1) := by decide +kernel
theorem dX8_ways_29 : decode cX8_ways 29 = .ok (.ishl, 1) := by decide +kernel
theorem dX8_ways_30 : decode cX8_ways 30 = .ok (.ior, 1) := by decide +kernel
theorem dX8_ways_31 : decode cX8_ways 31 = .ok (.istore_n 2, 1) := by decide +kernel
theorem dX8_ways_32 : decode cX8_ways 32 = .ok (.iinc 3 1, 3) := by decide +kernel
theorem dX8_ways_35 : decode cX8_ways 35 = .ok (.goto (-26), 3) := by decide +kernel
theorem dX8_ways_38 : decode cX8_ways 38 = .ok (.iload_n 2, 1) := by decide +kernel
theorem dX8_ways_39 : decode cX8_ways 39 = .ok (.ireturn, 1) := by decide +kernel
set_option maxRecDepth 20000 in
theorem ggX8_room_X8_needHarbour : GoodIn wsX8_room wsX8_needHarbour := goodIn_ca (goodIn_r _ [6, 7, 8, 1, 49, 50, 51, 52, 53, 54, 55, 56, 57, 58, 59, 60, 61, 62, 63, 64, 65, 66, 67, 68, 69] (by decide +kernel) (by decide +kernel)) (goodIn_sub (fun _ h => List.mem_cons_of_mem _ (List.mem_append_left _ (List.mem_append_right _ h))) (by decide +kernel))
set_option maxRecDepth 20000 in
theorem gX8_room_X8_needHarbour : GoodIn wsX8_room (wsV RX8 188 RX8 yX8_needHarbour wsX8_needHarbour) := goodIn_app (goodIn_of _ (by decide +kernel)) ggX8_room_X8_needHarbour
set_option maxRecDepth 20000 in
theorem ggX8_room_X8_needDirection : GoodIn wsX8_room wsX8_needDirection := goodIn_ca (goodIn_r _ [11, 12, 13] (by decide +kernel) (by decide +kernel)) (goodIn_sub (fun _ h => List.mem_cons_of_mem _ (List.mem_append_right _ h)) (by decide +kernel))
set_option maxRecDepth 20000 in
theorem gX8_room_X8_needDirection : GoodIn wsX8_room (va_wsS RX8 221 yX8_needDirection wsX8_needDirection) := goodIn_app (goodIn_of _ (by decide +kernel)) ggX8_room_X8_needDirection
set_option maxRecDepth 20000 in
theorem ggX8_room_X2_homeOf : GoodIn wsX8_room wsX2_homeOf := goodIn_r _ [18, 19, 20, 64, 65, 66, 67, 68, 69] (by decide +kernel) (by decide +kernel)
set_option maxRecDepth 20000 in
theorem gX8_room_X2_homeOf : GoodIn wsX8_room (wsV RX8 191 RX2 yX2_homeOf wsX2_homeOf) := goodIn_app (goodIn_of _ (by decide +kernel)) ggX8_room_X2_homeOf
