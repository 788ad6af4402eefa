set_option maxRecDepth 20000 in
theorem ggX8_sail_X3_keep : GoodIn wsX8_sail wsX3_keep := goodIn_r _ [14, 15, 16, 17, 18, 19, 20, 21, 22, 23, 24, 25, 26, 27, 28, 29, 30, 31, 32, 33, 34, 35, 36, 37, 38, 39, 40, 41, 42, 43, 44, 45, 46, 47, 48, 49, 50, 51, 52, 53, 54, 55, 56, 57, 58, 59, 60, 61, 62, 63, 64, 65, 66, 67, 68, 69, 70, 71, 72, 73, 74, 75, 76, 77, 78, 79, 80, 81, 82, 83, 84, 85, 86, 87, 118, 119, 120, 102, 103, 104, 105, 106, 121, 122, 123, 124, 125, 126, 112, 113, 114, 115, 116, 117, 107, 108, 109, 110, 111] (by decide +kernel) (by decide +kernel)
set_option maxRecDepth 20000 in
theorem gX8_sail_X3_keep : GoodIn wsX8_sail (wsV RX8 286 RX3 yX3_keep wsX3_keep) := goodIn_app (goodIn_of _ (by decide +kernel)) ggX8_sail_X3_keep
set_option maxRecDepth 20000 in
theorem ggX8_sail_X4_addStop : GoodIn wsX8_sail wsX4_addStop := goodIn_r _ [91, 84, 62, 107, 108, 109, 110, 111] (by decide +kernel) (by decide +kernel)
set_option maxRecDepth 20000 in
theorem gX8_sail_X4_addStop : GoodIn wsX8_sail (wsV RX8 319 RX4 yX4_addStop wsX4_addStop) := goodIn_app (goodIn_of _ (by decide +kernel)) ggX8_sail_X4_addStop
theorem dX8_sail_0 : decode cX8_sail 0 = .ok (.aload_n 0, 1) := by decide +kernel
theorem dX8_sail_1 : decode cX8_sail 1 = .ok (.iload_n 1, 1) := by decide +kernel
theorem dX8_sail_2 : decode cX8_sail 2 = .ok (.invokevirtual 188, 3) := by decide +kernel
theorem dX8_sail_5 : decode cX8_sail 5 = .ok (.aload_n 0, 1) := by decide +kernel
theorem dX8_sail_6 : decode cX8_sail 6 = .ok (.getfield 10, 3) := by decide +kernel
theorem dX8_sail_9 : decode cX8_sail 9 = .ok (.getfield 137, 3) := by decide +kernel
theorem dX8_sail_12 : decode cX8_sail 12 = .ok (.getfield 141, 3) := by decide +kernel
theorem dX8_sail_15 : decode cX8_sail 15 = .ok (.bipush 16, 2) := by decide +kernel
theorem dX8_sail_17 : decode cX8_sail 17 = .ok (.if_icmp .lt 6, 3) := by decide +kernel
theorem dX8_sail_20 : decode cX8_sail 20 = .ok (.bipush (-2), 2) := by decide +kernel
theorem dX8_sail_22 : decode cX8_sail 22 = .ok (.ireturn, 1) := by decide +kernel
theorem dX8_sail_23 : decode cX8_sail 23 = .ok (.aload_n 0, 1) := by decide +kernel
theorem dX8_sail_24 : decode cX8_sail 24 = .ok (.getfield 19, 3) := by decide +kernel
theorem dX8_sail_27 : decode cX8_sail 27 = .ok (.aload_n 0, 1) := by decide +kernel
theorem dX8_sail_28 : decode cX8_sail 28 = .ok (.getfield 10, 3) := by decide +kernel
theorem dX8_sail_31 : decode cX8_sail 31 = .ok (.invokevirtual 286, 3) := by decide +kernel
theorem dX8_sail_34 : decode cX8_sail 34 = .ok (.aload_n 0, 1) := by decide +kernel
theorem dX8_sail_35 : decode cX8_sail 35 = .ok (.getfield 10, 3) := by decide +kernel
theorem dX8_sail_38 : decode cX8_sail 38 = .ok (.getfield 137, 3) := by decide +kernel
theorem dX8_sail_41 : decode cX8_sail 41 = .ok (.iload_n 1, 1) := by decide +kernel
theorem dX8_sail_42 : decode cX8_sail 42 = .ok (.invokevirtual 319, 3) := by decide +kernel
theorem dX8_sail_45 : decode cX8_sail 45 = .ok (.aload_n 0, 1) := by decide +kernel
theorem dX8_sail_46 : decode cX8_sail 46 = .ok (.getfield 10, 3) := by decide +kernel
theorem dX8_sail_49 : decode cX8_sail 49 = .ok (.getfield 137, 3) := by decide +kernel
theorem dX8_sail_52 : decode cX8_sail 52 = .ok (.getfield 141, 3) := by decide +kernel
theorem dX8_sail_55 : decode cX8_sail 55 = .ok (.ireturn, 1) := by decide +kernel
set_option maxRecDepth 20000 in
theorem ggX8_cut_X3_keep : GoodIn wsX8_cut wsX3_keep := goodIn_r _ [9, 10, 11, 12, 13, 14, 15, 16, 17, 18, 19, 20, 21, 22, 23, 24, 25, 26, 27, 28, 29, 30, 31, 32, 33, 34, 35, 36, 37, 38, 39, 40, 41, 42, 43, 44, 45, 46, 47, 48, 49, 50, 51, 52, 53, 54, 55, 56, 57, 58, 59, 60, 61, 62, 63, 64, 65, 66, 67, 68, 69, 70, 71, 72, 73, 74, 75, 76, 77, 78, 79, 80, 81, 82, 111, 112, 113, 101, 102, 103, 104, 105, 114, 115, 116, 117, 118, 119, 120, 121, 122, 123, 124, 125, 106, 107, 108, 109, 110] (by decide +kernel) (by decide +kernel)
set_option maxRecDepth 20000 in
theorem gX8_cut_X3_keep : GoodIn wsX8_cut (wsV RX8 286 RX3 yX3_keep wsX3_keep) := goodIn_app (goodIn_of _ (by decide +kernel)) ggX8_cut_X3_keep
set_option maxRecDepth 20000 in
theorem ggX8_cut_X4_stopAt : GoodIn wsX8_cut wsX4_stopAt := goodIn_r _ [86, 79, 57, 106, 107, 108, 109, 110] (by decide +kernel) (by decide +kernel)
set_option maxRecDepth 20000 in
theorem gX8_cut_X4_stopAt : GoodIn wsX8_cut (wsV RX8 218 RX4 yX4_stopAt wsX4_stopAt) := goodIn_app (goodIn_of _ (by decide +kernel)) ggX8_cut_X4_stopAt
set_option maxRecDepth 20000 in
theorem ggX8_cut_X4_dropStop : GoodIn wsX8_cut wsX4_dropStop := goodIn_r _ [90, 79, 57, 80, 106, 107, 108, 109, 110] (by decide +kernel) (by decide +kernel)
set_option maxRecDepth 20000 in
theorem gX8_cut_X4_dropStop : GoodIn wsX8_cut (wsV RX8 327 RX4 yX4_dropStop wsX4_dropStop) := goodIn_app (goodIn_of _ (by decide +kernel)) ggX8_cut_X4_dropStop
theorem dX8_cut_0 : decode cX8_cut 0 = .ok (.iload_n 1, 1) := by decide +kernel
theorem dX8_cut_1 : decode cX8_cut 1 = .ok (.ifCond .lt 17, 3) := by decide +kernel
theorem dX8_cut_4 : decode cX8_cut 4 = .ok (.iload_n 1, 1) := by decide +kernel
theorem dX8_cut_5 : decode cX8_cut 5 = .ok (.aload_n 0, 1) := by decide +kernel
theorem dX8_cut_6 : decode cX8_cut 6 = .ok (.getfield 10, 3) := by decide +kernel
theorem dX8_cut_9 : decode cX8_cut 9 = .ok (.getfield 137, 3) := by decide +kernel
theorem dX8_cut_12 : decode cX8_cut 12 = .ok (.getfield 141, 3) := by decide +kernel
theorem dX8_cut_15 : decode cX8_cut 15 = .ok (.if_icmp .lt 14, 3) := by decide +kernel
theorem dX8_cut_18 : decode cX8_cut 18 = .ok (.new 322, 3) := by decide +kernel
theorem dX8_cut_21 : decode cX8_cut 21 = .ok (.dup, 1) := by decide +kernel
theorem dX8_cut_22 : decode cX8_cut 22 = .ok (.ldc_w 324, 3) := by decide +kernel
theorem dX8_cut_25 : decode cX8_cut 25 = .ok (.invokespecial 326, 3) := by decide +kernel
theorem dX8_cut_28 : decode cX8_cut 28 = .ok (.athrow, 1) := by decide +kernel
theorem dX8_cut_29 : decode cX8_cut 29 = .ok (.aload_n 0, 1) := by decide +kernel
theorem dX8_cut_30 : decode cX8_cut 30 = .ok (.getfield 19, 3) := by decide +kernel
theorem dX8_cut_33 : decode cX8_cut 33 = .ok (.aload_n 0, 1) := by decide +kernel
theorem dX8_cut_34 : decode cX8_cut 34 = .ok (.getfield 10, 3) := by decide +kernel
theorem dX8_cut_37 : decode cX8_cut 37 = .ok (.invokevirtual 286, 3) := by decide +kernel
theorem dX8_cut_40 : decode cX8_cut 40 = .ok (.aload_n 0, 1) := by decide +kernel
theorem dX8_cut_41 : decode cX8_cut 41 = .ok (.getfield 10, 3) := by decide +kernel
theorem dX8_cut_44 : decode cX8_cut 44 = .ok (.getfield 137, 3) := by decide +kernel
theorem dX8_cut_47 : decode cX8_cut 47 = .ok (.iload_n 1, 1) := by decide +kernel
theorem dX8_cut_48 : decode cX8_cut 48 = .ok (.invokevirtual 218, 3) := by decide +kernel
theorem dX8_cut_51 : decode cX8_cut 51 = .ok (.istore_n 2, 1) := by decide +kernel
theorem dX8_cut_52 : decode cX8_cut 52 = .ok (.aload_n 0, 1) := by decide +kernel
theorem dX8_cut_53 : decode cX8_cut 53 = .ok (.getfield 10, 3) := by decide +kernel
theorem dX8_cut_56 : decode cX8_cut 56 = .ok (.getfield 137, 3) := by decide +kernel
theorem dX8_cut_59 : decode cX8_cut 59 = .ok (.iload_n 1, 1) := by decide +kernel
theorem dX8_cut_60 : decode cX8_cut 60 = .ok (.invokevirtual 327, 3) := by decide +kernel
theorem dX8_cut_63 : decode cX8_cut 63 = .ok (.iload_n 2, 1) := by decide +kernel
theorem dX8_cut_64 : decode cX8_cut 64 = .ok (.ireturn, 1) := by decide +kernel
set_option maxRecDepth 20000 in
theorem ggX8_turnPage_X8_needTurn : GoodIn wsX8_turnPage wsX8_needTurn := goodIn_ca (goodIn_r _ [6, 7, 8] (by decide +kernel) (by decide +kernel)) (goodIn_sub (fun _ h => List.mem_cons_of_mem _ (List.mem_append_right _ h)) (by decide +kernel))
set_option maxRecDepth 20000 in
theorem gX8_turnPage_X8_needTurn : GoodIn wsX8_turnPage (va_wsS RX8 240 yX8_needTurn wsX8_needTurn) := goodIn_app (goodIn_of _ (by decide +kernel)) ggX8_turnPage_X8_needTurn
set_option maxRecDepth 20000 in
theorem ggX8_turnPage_X3_keep : GoodIn wsX8_turnPage wsX3_keep := goodIn_r _ [13, 14, 15, 16, 17, 18, 19, 20, 21, 22, 23, 24, 25, 26, 27, 28, 29, 30, 31, 32, 33, 34, 35, 36, 37, 38, 39, 40, 41, 42, 43, 44, 45, 46, 47, 48, 49, 50, 51, 52, 53, 54, 55, 56, 57, 58, 59, 60, 61, 62, 63, 64, 65, 66, 67, 68, 69, 70, 71, 72, 73, 74, 75, 76, 77, 78, 79, 80, 81, 82, 83, 84, 85, 86, 112, 113, 114, 107, 108, 109, 110, 111, 115, 116, 117, 118, 119, 120, 121, 122, 123, 124, 125, 126, 127, 128, 129, 130, 131] (by decide +kernel) (by decide +kernel)
set_option maxRecDepth 20000 in
theorem gX8_turnPage_X3_keep : GoodIn wsX8_turnPage (wsV RX8 286 RX3 yX3_keep wsX3_keep) := goodIn_app (goodIn_of _ (by decide +kernel)) ggX8_turnPage_X3_keep
set_option maxRecDepth 20000 in
theorem ggX8_turnPage_X4_turnTo : GoodIn wsX8_turnPage wsX4_turnTo := goodIn_r _ [90, 85, 86, 91, 5, 92, 93, 94, 22, 95, 96, 21, 23, 127, 128, 129, 130, 131] (by decide +kernel) (by decide +kernel)
set_option maxRecDepth 20000 in
theorem gX8_turnPage_X4_turnTo : GoodIn wsX8_turnPage (wsV RX8 330 RX4 yX4_turnTo wsX4_turnTo) := goodIn_app (goodIn_of _ (by decide +kernel)) ggX8_turnPage_X4_turnTo
theorem dX8_turnPage_0 : decode cX8_turnPage 0 = .ok (.iload_n 1, 1) := by decide +kernel
theorem dX8_turnPage_1 : decode cX8_turnPage 1 = .ok (.invokestatic 240, 3) := by decide +kernel
theorem dX8_turnPage_4 : decode cX8_turnPage 4 = .ok (.aload_n 0, 1) := by decide +kernel
theorem dX8_turnPage_5 : decode cX8_turnPage 5 = .ok (.getfield 19, 3) := by decide +kernel
theorem dX8_turnPage_8 : decode cX8_turnPage 8 = .ok (.aload_n 0, 1) := by decide +kernel
theorem dX8_turnPage_9 : decode cX8_turnPage 9 = .ok (.getfield 10, 3) := by decide +kernel
theorem dX8_turnPage_12 : decode cX8_turnPage 12 = .ok (.invokevirtual 286, 3) := by decide +kernel
theorem dX8_turnPage_15 : decode cX8_turnPage 15 = .ok (.aload_n 0, 1) := by decide +kernel
theorem dX8_turnPage_16 : decode cX8_turnPage 16 = .ok (.getfield 10, 3) := by decide +kernel
theorem dX8_turnPage_19 : decode cX8_turnPage 19 = .ok (.getfield 137, 3) := by decide +kernel
theorem dX8_turnPage_22 : decode cX8_turnPage 22 = .ok (.iload_n 1, 1) := by decide +kernel
theorem dX8_turnPage_23 : decode cX8_turnPage 23 = .ok (.invokevirtual 330, 3) := by decide +kernel
theorem dX8_turnPage_26 : decode cX8_turnPage 26 = .ok (.ireturn, 1) := by decide +kernel
set_option maxRecDepth 20000 in
theorem ggX8_read_X3_keep : GoodIn wsX8_read wsX3_keep := goodIn_r _ [7, 8, 9, 10, 11, 12, 13, 14, 15, 16, 17, 18, 19, 20, 21, 22, 23, 24, 25, 26, 27, 28, 29, 30, 31, 32, 33, 34, 35, 36, 37, 38, 39, 40, 41, 42, 43, 44, 45, 46, 47, 48, 49, 50, 51, 52, 53, 54, 55, 56, 57, 58, 59, 60, 61, 62, 63, 64, 65, 66, 67, 68, 69, 70, 71, 72, 73, 74, 75, 76, 77, 78, 79, 80, 127, 128, 129, 117, 118, 119, 120, 121, 130, 131, 132, 133, 134, 135, 136, 137, 138, 139, 140, 141, 122, 123, 124, 125, 126] (by decide +kernel) (by decide +kernel)
set_option maxRecDepth 20000 in
theorem gX8_read_X3_keep : GoodIn wsX8_read (wsV RX8 286 RX3 yX3_keep wsX3_keep) := goodIn_app (goodIn_of _ (by decide +kernel)) ggX8_read_X3_keep
set_option maxRecDepth 20000 in
theorem ggX8_read_X4_stopAt : GoodIn wsX8_read wsX4_stopAt := goodIn_r _ [84, 77, 55, 122, 123, 124, 125, 126] (by decide +kernel) (by decide +kernel)
set_option maxRecDepth 20000 in
theorem gX8_read_X4_stopAt : GoodIn wsX8_read (wsV RX8 218 RX4 yX4_stopAt wsX4_stopAt) := goodIn_app (goodIn_of _ (by decide +kernel)) ggX8_read_X4_stopAt
set_option maxRecDepth 20000 in
theorem ggX8_read_X2_directionOf : GoodIn wsX8_read wsX2_directionOf := goodIn_r _ [88, 71, 49, 136, 137, 138, 139, 140, 141] (by decide +kernel) (by decide +kernel)
set_option maxRecDepth 20000 in
theorem gX8_read_X2_directionOf : GoodIn wsX8_read (wsV RX8 197 RX2 yX2_directionOf wsX2_directionOf) := goodIn_app (goodIn_of _ (by decide +kernel)) ggX8_read_X2_directionOf
set_option maxRecDepth 20000 in
theorem ggX8_read_X8_uprightTurn : GoodIn wsX8_read wsX8_uprightTurn := goodIn_r _ [92] (by decide +kernel) (by decide +kernel)
set_option maxRecDepth 20000 in
theorem gX8_read_X8_uprightTurn : GoodIn wsX8_read (va_wsS RX8 243 yX8_uprightTurn wsX8_uprightTurn) := goodIn_app (goodIn_of _ (by decide +kernel)) ggX8_read_X8_uprightTurn
set_option maxRecDepth 20000 in
theorem ggX8_read_X4_turnTo : GoodIn wsX8_read wsX4_turnTo := goodIn_r _ [96, 79, 80, 97, 91, 98, 99, 100, 16, 101, 102, 15, 17, 122, 123, 124, 125, 126] (by decide +kernel) (by decide +kernel)
set_option maxRecDepth 20000 in
theorem gX8_read_X4_turnTo : GoodIn wsX8_read (wsV RX8 330 RX4 yX4_turnTo wsX4_turnTo) := goodIn_app (goodIn_of _ (by decide +kernel)) ggX8_read_X4_turnTo
set_option maxRecDepth 20000 in
theorem ggX8_read_X4_goOn : GoodIn wsX8_read wsX4_goOn := goodIn_r _ [106, 78, 77, 122, 123, 124, 125, 126] (by decide +kernel) (by decide +kernel)
set_option maxRecDepth 20000 in
theorem gX8_read_X4_goOn : GoodIn wsX8_read (wsV RX8 333 RX4 yX4_goOn wsX4_goOn) := goodIn_app (goodIn_of _ (by decide +kernel)) ggX8_read_X4_goOn
theorem dX8_read_0 : decode cX8_read 0 = .ok (.aload_n 0, 1) := by decide +kernel
theorem dX8_read_1 : decode cX8_read 1 = .ok (.getfield 10, 3) := by decide +kernel
theorem dX8_read_4 : decode cX8_read 4 = .ok (.getfield 137, 3) := by decide +kernel
theorem dX8_read_7 : decode cX8_read 7 = .ok (.getfield 141, 3) := by decide +kernel
theorem dX8_read_10 : decode cX8_read 10 = .ok (.ifCond .ne 6, 3) := by decide +kernel
theorem dX8_read_13 : decode cX8_read 13 = .ok (.bipush (-3), 2) := by decide +kernel
theorem dX8_read_15 : decode cX8_read 15 = .ok (.ireturn, 1) := by decide +kernel
theorem dX8_read_16 : decode cX8_read 16 = .ok (.aload_n 0, 1) := by decide +kernel
theorem dX8_read_17 : decode cX8_read 17 = .ok (.getfield 19, 3) := by decide +kernel
theorem dX8_read_20 : decode cX8_read 20 = .ok (.aload_n 0, 1) := by decide +kernel
theorem dX8_read_21 : decode cX8_read 21 = .ok (.getfield 10, 3) := by decide +kernel
theorem dX8_read_24 : decode cX8_read 24 = .ok (.invokevirtual 286, 3) := by decide +kernel
theorem dX8_read_27 : decode cX8_read 27 = .ok (.aload_n 0, 1) := by decide +kernel
theorem dX8_read_28 : decode cX8_read 28 = .ok (.getfield 10, 3) := by decide +kernel
theorem dX8_read_31 : decode cX8_read 31 = .ok (.getfield 137, 3) := by decide +kernel
theorem dX8_read_34 : decode cX8_read 34 = .ok (.aload_n 0, 1) := by decide +kernel
theorem dX8_read_35 : decode cX8_read 35 = .ok (.getfield 10, 3) := by decide +kernel
theorem dX8_read_38 : decode cX8_read 38 = .ok (.getfield 137, 3) := by decide +kernel
theorem dX8_read_41 : decode cX8_read 41 = .ok (.getfield 147, 3) := by decide +kernel
theorem dX8_read_44 : decode cX8_read 44 = .ok (.invokevirtual 218, 3) := by decide +kernel
theorem dX8_read_47 : decode cX8_read 47 = .ok (.istore_n 1, 1) := by decide +kernel
theorem dX8_read_48 : decode cX8_read 48 = .ok (.aload_n 0, 1) := by decide +kernel
theorem dX8_read_49 : decode cX8_read 49 = .ok (.getfield 10, 3) := by decide +kernel
theorem dX8_read_52 : decode cX8_read 52 = .ok (.getfield 97, 3) := by decide +kernel
theorem dX8_read_55 : decode cX8_read 55 = .ok (.iload_n 1, 1) := by decide +kernel
theorem dX8_read_56 : decode cX8_read 56 = .ok (.invokevirtual 197, 3) := by decide +kernel
theorem dX8_read_59 : decode cX8_read 59 = .ok (.istore_n 2, 1) := by decide +kernel
theorem dX8_read_60 : decode cX8_read 60 = .ok (.iload_n 2, 1) := by decide +kernel
theorem dX8_read_61 : decode cX8_read 61 = .ok (.iconst (-1), 1) := by decide +kernel
theorem dX8_read_62 : decode cX8_read 62 = .ok (.if_icmp .eq 18, 3) := by decide +kernel
theorem dX8_read_65 : decode cX8_read 65 = .ok (.aload_n 0, 1) := by decide +kernel
theorem dX8_read_66 : decode cX8_read 66 = .ok (.getfield 10, 3) := by decide +kernel
theorem dX8_read_69 : decode cX8_read 69 = .ok (.getfield 137, 3) := by decide +kernel
theorem dX8_read_72 : decode cX8_read 72 = .ok (.iload_n 2, 1) := by decide +kernel
theorem dX8_read_73 : decode cX8_read 73 = .ok (.invokestatic 243, 3) := by decide +kernel
theorem dX8_read_76 : decode cX8_read 76 = .ok (.invokevirtual 330, 3) := by decide +kernel
theorem dX8_read_79 : decode cX8_read 79 = .ok (.pop, 1) := by decide +kernel
theorem dX8_read_80 : decode cX8_read 80 = .ok (.aload_n 0, 1) := by decide +kernel
theorem dX8_read_81 : decode cX8_read 81 = .ok (.getfield 10, 3) := by decide +kernel
theorem dX8_read_84 : decode cX8_read 84 = .ok (.getfield 137, 3) := by decide +kernel
theorem dX8_read_87 : decode cX8_read 87 = .ok (.invokevirtual 333, 3) := by decide +kernel
theorem dX8_read_90 : decode cX8_read 90 = .ok (.iload_n 1, 1) := by decide +kernel
theorem dX8_read_91 : decode cX8_read 91 = .ok (.ireturn, 1) := by decide +kernel
set_option maxRecDepth 20000 in
theorem ggX8_meanTurn_X4_stopAt : GoodIn wsX8_meanTurn wsX4_stopAt := goodIn_r _ [6, 7, 8, 59, 60, 61, 62, 63] (by decide +kernel) (by decide +kernel)
set_option maxRecDepth 20000 in
theorem gX8_meanTurn_X4_stopAt : GoodIn wsX8_meanTurn (wsV RX8 218 RX4 yX4_stopAt wsX4_stopAt) := goodIn_app (goodIn_of _ (by decide +kernel)) ggX8_meanTurn_X4_stopAt
set_option maxRecDepth 20000 in
theorem ggX8_meanTurn_X2_directionOf : GoodIn wsX8_meanTurn wsX2_directionOf := goodIn_r _ [13, 14, 15, 64, 65, 66, 67, 68, 69] (by decide +kernel) (by decide +kernel)
set_option maxRecDepth 20000 in
theorem gX8_meanTurn_X2_directionOf : GoodIn wsX8_meanTurn (wsV RX8 197 RX2 yX2_directionOf wsX2_directionOf) := goodIn_app (goodIn_of _ (by decide +kernel)) ggX8_meanTurn_X2_directionOf
set_option maxRecDepth 20000 in
theorem ggX8_meanTurn_X8_turning : GoodIn wsX8_meanTurn wsX8_turning := goodIn_r _ [20, 1, 21, 22, 23, 24, 25, 26, 27, 28, 29, 30, 5, 31, 7, 32, 3, 4, 6, 8, 33, 19, 34, 35, 36, 37, 38, 39, 40, 41, 42, 43, 44, 45, 46, 47, 48, 49, 50, 51, 52, 53, 54, 55, 56, 57, 58, 59, 60, 61, 62, 63, 64, 65, 66, 67, 68, 69] (by decide +kernel) (by decide +kernel)
set_option maxRecDepth 20000 in
theorem gX8_meanTurn_X8_turning : GoodIn wsX8_meanTurn (wsV RX8 336 RX8 yX8_turning wsX8_turning) := goodIn_app (goodIn_of _ (by decide +kernel)) ggX8_meanTurn_X8_turning
theorem dX8_meanTurn_0 : decode cX8_meanTurn 0 = .ok (.iconst 0, 1) := by decide +kernel
theorem dX8_meanTurn_1 : decode cX8_meanTurn 1 = .ok (.istore_n 1, 1) := by decide +kernel
theorem dX8_meanTurn_2 : decode cX8_meanTurn 2 = .ok (.iconst 0, 1) := by decide +kernel
theorem dX8_meanTurn_3 : decode cX8_meanTurn 3 = .ok (.istore_n 2, 1) := by decide +kernel
theorem dX8_meanTurn_4 : decode cX8_meanTurn 4 = .ok (.iload_n 2, 1) := by decide +kernel
theorem dX8_meanTurn_5 : decode cX8_meanTurn 5 = .ok (.aload_n 0, 1) := by decide +kernel
theorem dX8_meanTurn_6 : decode cX8_meanTurn 6 = .ok (.getfield 10, 3) := by decide +kernel
theorem dX8_meanTurn_9 : decode cX8_meanTurn 9 = .ok (.getfield 137, 3) := by decide +kernel
theorem dX8_meanTurn_12 : decode cX8_meanTurn 12 = .ok (.getfield 141, 3) := by decide +kernel
theorem dX8_meanTurn_15 : decode cX8_meanTurn 15 = .ok (.if_icmp .ge 37, 3) := by decide +kernel
theorem dX8_meanTurn_18 : decode cX8_meanTurn 18 = .ok (.aload_n 0, 1) := by decide +kernel
theorem dX8_meanTurn_19 : decode cX8_meanTurn 19 = .ok (.getfield 10, 3) := by decide +kernel
theorem dX8_meanTurn_22 : decode cX8_meanTurn 22 = .ok (.getfield 97, 3) := by decide +kernel
theorem dX8_meanTurn_25 : decode cX8_meanTurn 25 = .ok (.aload_n 0, 1) := by decide +kernel
theorem dX8_meanTurn_26 : decode cX8_meanTurn 26 = .ok (.getfield 10, 3) := by decide +kernel
theorem dX8_meanTurn_29 : decode cX8_meanTurn 29 = .ok (.getfield 137, 3) := by decide +kernel
theorem dX8_meanTurn_32 : decode cX8_meanTurn 32 = .ok (.iload_n 2, 1) := by decide +kernel
theorem dX8_meanTurn_33 : decode cX8_meanTurn 33 = .ok (.invokevirtual 218, 3) := by decide +kernel
theorem dX8_meanTurn_36 : decode cX8_meanTurn 36 = .ok (.invokevirtual 197, 3) := by decide +kernel
theorem dX8_meanTurn_39 : decode cX8_meanTurn 39 = .ok (.iconst (-1), 1) := by decide +kernel
theorem dX8_meanTurn_40 : decode cX8_meanTurn 40 = .ok (.if_icmp .eq 6, 3) := by decide +kernel
theorem dX8_meanTurn_43 : decode cX8_meanTurn 43 = .ok (.iinc 1 1, 3) := by decide +kernel
theorem dX8_meanTurn_46 : decode cX8_meanTurn 46 = .ok (.iinc 2 1, 3) := by decide +kernel
theorem dX8_meanTurn_49 : decode cX8_meanTurn 49 = .ok (.goto (-45), 3) := by decide +kernel
theorem dX8_meanTurn_52 : decode cX8_meanTurn 52 = .ok (.iload_n 1, 1) := by decide +kernel
theorem dX8_meanTurn_53 : decode cX8_meanTurn 53 = .ok (.ifCond .ne 7, 3) := by decide +kernel
theorem dX8_meanTurn_56 : decode cX8_meanTurn 56 = .ok (.dconst 0, 1) := by decide +kernel
theorem dX8_meanTurn_57 : decode cX8_meanTurn 57 = .ok (.goto 11, 3) := by decide +kernel
theorem dX8_meanTurn_60 : decode cX8_meanTurn 60 = .ok (.aload_n 0, 1) := by decide +kernel
theorem dX8_meanTurn_61 : decode cX8_meanTurn 61 = .ok (.invokevirtual 336, 3) := by decide +kernel
theorem dX8_meanTurn_64 : decode cX8_meanTurn 64 = .ok (.i2d, 1) := by decide +kernel
theorem dX8_meanTurn_65 : decode cX8_meanTurn 65 = .ok (.iload_n 1, 1) := by decide +kernel
theorem dX8_meanTurn_66 : decode cX8_meanTurn 66 = .ok (.i2d, 1) := by decide +kernel
theorem dX8_meanTurn_67 : decode cX8_meanTurn 67 = .ok (.ddiv, 1) := by decide +kernel
theorem dX8_meanTurn_68 : decode cX8_meanTurn 68 = .ok (.dreturn, 1) := by decide +kernel
set_option maxRecDepth 20000 in
theorem ggX8_cover_X1_landCells : GoodIn wsX8_cover wsX1_landCells := goodIn_r _ [6, 7, 35, 36, 37, 38, 39, 40] (by decide +kernel) (by decide +kernel)
set_option maxRecDepth 20000 in
theorem gX8_cover_X1_landCells : GoodIn wsX8_cover (wsV RX8 118 RX1 yX1_landCells wsX1_landCells) := goodIn_app (goodIn_of _ (by decide +kernel)) ggX8_cover_X1_landCells
set_option maxRecDepth 20000 in
theorem ggX8_cover_X1_cells : GoodIn wsX8_cover wsX1_cells := goodIn_r _ [11, 12, 13, 35, 36, 37, 38, 39, 40] (by decide +kernel) (by decide +kernel)
set_option maxRecDepth 20000 in
theorem gX8_cover_X1_cells : GoodIn wsX8_cover (wsV RX8 237 RX1 yX1_cells wsX1_cells) := goodIn_app (goodIn_of _ (by decide +kernel)) ggX8_cover_X1_cells
set_option maxRecDepth 20000 in
theorem ggX8_cover_X6_namesIn : GoodIn wsX8_cover wsX6_namesIn := goodIn_r _ [18, 19, 30, 31, 32, 33, 34] (by decide +kernel) (by decide +kernel)
set_option maxRecDepth 20000 in
theorem gX8_cover_X6_namesIn : GoodIn wsX8_cover (wsV RX8 180 RX6 yX6_namesIn wsX6_namesIn) := goodIn_app (goodIn_of _ (by decide +kernel)) ggX8_cover_X6_namesIn
theorem dX8_cover_0 : decode cX8_cover 0 = .ok (.aload_n 0, 1) := by decide +kernel
theorem dX8_cover_1 : decode cX8_cover 1 = .ok (.getfield 10, 3) := by decide +kernel
theorem dX8_cover_4 : decode cX8_cover 4 = .ok (.getfield 106, 3) := by decide +kernel
theorem dX8_cover_7 : decode cX8_cover 7 = .ok (.invokevirtual 118, 3) := by decide +kernel
theorem dX8_cover_10 : decode cX8_cover 10 = .ok (.istore_n 1, 1) := by decide +kernel
theorem dX8_cover_11 : decode cX8_cover 11 = .ok (.iconst 0, 1) := by decide +kernel
theorem dX8_cover_12 : decode cX8_cover 12 = .ok (.istore_n 2, 1) := by decide +kernel
theorem dX8_cover_13 : decode cX8_cover 13 = .ok (.iconst 0, 1) := by decide +kernel
theorem dX8_cover_14 : decode cX8_cover 14 = .ok (.istore_n 3, 1) := by decide +kernel
theorem dX8_cover_15 : decode cX8_cover 15 = .ok (.iload_n 3, 1) := by decide +kernel
theorem dX8_cover_16 : decode cX8_cover 16 = .ok (.aload_n 0, 1) := by decide +kernel
theorem dX8_cover_17 : decode cX8_cover 17 = .ok (.getfield 10, 3) := by decide +kernel
theorem dX8_cover_20 : decode cX8_cover 20 = .ok (.getfield 106, 3) := by decide +kernel
theorem dX8_cover_23 : decode cX8_cover 23 = .ok (.invokevirtual 237, 3) := by decide +kernel
theorem dX8_cover_26 : decode cX8_cover 26 = .ok (.if_icmp .ge 23, 3) := by decide +kernel
theorem dX8_cover_29 : decode cX8_cover 29 = .ok (.aload_n 0, 1) := by decide +kernel
theorem dX8_cover_30 : decode cX8_cover 30 = .ok (.getfield 10, 3) := by decide +kernel
theorem dX8_cover_33 : decode cX8_cover 33 = .ok (.iload_n 3, 1) := by decide +kernel
theorem dX8_cover_34 : decode cX8_cover 34 = .ok (.invokevirtual 180, 3) := by decide +kernel
theorem dX8_cover_37 : decode cX8_cover 37 = .ok (.ifCond .eq 6, 3) := by decide +kernel
theorem dX8_cover_40 : decode cX8_cover 40 = .ok (.iinc 2 1, 3) := by decide +kernel
theorem dX8_cover_43 : decode cX8_cover 43 = .ok (.iinc 3 1, 3) := by decide +kernel
theorem dX8_cover_46 : decode cX8_cover 46 = .ok (.goto (-31), 3) := by decide +kernel
theorem dX8_cover_49 : decode cX8_cover 49 = .ok (.iload_n 1, 1) := by decide +kernel
theorem dX8_cover_50 : decode cX8_cover 50 = .ok (.ifCond .ne 7, 3) := by decide +kernel
theorem dX8_cover_53 : decode cX8_cover 53 = .ok (.fconst 0, 1) := by decide +kernel
theorem dX8_cover_54 : decode cX8_cover 54 = .ok (.goto 8, 3) := by decide +kernel
theorem dX8_cover_57 : decode cX8_cover 57 = .ok (.iload_n 2, 1) := by decide +kernel
theorem dX8_cover_58 : decode cX8_cover 58 = .ok (.i2f, 1) := by decide +kernel
theorem dX8_cover_59 : decode cX8_cover 59 = .ok (.iload_n 1, 1) := by decide +kernel
theorem dX8_cover_60 : decode cX8_cover 60 = .ok (.i2f, 1) := by decide +kernel
theorem dX8_cover_61 : decode cX8_cover 61 = .ok (.fdiv, 1) := by decide +kernel
theorem dX8_cover_62 : decode cX8_cover 62 = .ok (.freturn, 1) := by decide +kernel
set_option maxRecDepth 20000 in
theorem ggX8_writeRow_X8_signOf : GoodIn wsX8_writeRow wsX8_signOf := goodIn_r _ [10, 3, 11, 12, 13, 14, 15, 16, 17, 18, 19, 20, 21, 22, 23, 24, 25, 26, 27, 28, 29, 30, 31, 32, 33, 34, 35, 36, 37, 38, 39, 40, 41, 42, 43, 44, 45, 46, 47, 48, 49, 50, 51, 52, 53, 54, 55, 62, 63, 64, 65, 66, 67, 56, 57, 58, 59, 60, 61] (by decide +kernel) (by decide +kernel)
set_option maxRecDepth 20000 in
theorem gX8_writeRow_X8_signOf : GoodIn wsX8_writeRow (wsV RX8 341 RX8 yX8_signOf wsX8_signOf) := goodIn_app (goodIn_of _ (by decide +kernel)) ggX8_writeRow_X8_signOf
theorem dX8_writeRow_0 : decode cX8_writeRow 0 = .ok (.iload_n 1, 1) := by decide +kernel
theorem dX8_writeRow_1 : decode cX8_writeRow 1 = .ok (.ifCond .lt 17, 3) := by decide +kernel
theorem dX8_writeRow_4 : decode cX8_writeRow 4 = .ok (.iload_n 1, 1) := by decide +kernel
theorem dX8_writeRow_5 : decode cX8_writeRow 5 = .ok (.aload_n 0, 1) := by decide +kernel
theorem dX8_writeRow_6 : decode cX8_writeRow 6 = .ok (.getfield 10, 3) := by decide +kernel
theorem dX8_writeRow_9 : decode cX8_writeRow 9 = .ok (.getfield 106, 3) := by decide +kernel
theorem dX8_writeRow_12 : decode cX8_writeRow 12 = .ok (.getfield 110, 3) := by decide +kernel
theorem dX8_writeRow_15 : decode cX8_writeRow 15 = .ok (.if_icmp .lt 14, 3) := by decide +kernel
theorem dX8_writeRow_18 : decode cX8_writeRow 18 = .ok (.new 322, 3) := by decide +kernel
theorem dX8_writeRow_21 : decode cX8_writeRow 21 = .ok (.dup, 1) := by decide +kernel
theorem dX8_writeRow_22 : decode cX8_writeRow 22 = .ok (.ldc_w 339, 3) := by decide +kernel
theorem dX8_writeRow_25 : decode cX8_writeRow 25 = .ok (.invokespecial 326, 3) := by decide +kernel
theorem dX8_writeRow_28 : decode cX8_writeRow 28 = .ok (.athrow, 1) := by decide +kernel
theorem dX8_writeRow_29 : decode cX8_writeRow 29 = .ok (.aload_n 0, 1) := by decide +kernel
theorem dX8_writeRow_30 : decode cX8_writeRow 30 = .ok (.getfield 10, 3) := by decide +kernel
theorem dX8_writeRow_33 : decode cX8_writeRow 33 = .ok (.getfield 106, 3) := by decide +kernel
theorem dX8_writeRow_36 : decode cX8_writeRow 36 = .ok (.getfield 115, 3) := by decide +kernel
theorem dX8_writeRow_39 : decode cX8_writeRow 39 = .ok (.istore_n 2, 1) := by decide +kernel
theorem dX8_writeRow_40 : decode cX8_writeRow 40 = .ok (.iconst 0, 1) := by decide +kernel
theorem dX8_writeRow_41 : decode cX8_writeRow 41 = .ok (.istore_n 3, 1) := by decide +kernel
theorem dX8_writeRow_42 : decode cX8_writeRow 42 = .ok (.iload_n 3, 1) := by decide +kernel
theorem dX8_writeRow_43 : decode cX8_writeRow 43 = .ok (.iload_n 2, 1) := by decide +kernel
theorem dX8_writeRow_44 : decode cX8_writeRow 44 = .ok (.if_icmp .ge 30, 3) := by decide +kernel
theorem dX8_writeRow_47 : decode cX8_writeRow 47 = .ok (.iload_n 3, 1) := by decide +kernel
