theorem dX8_writeRow_48 : decode cX8_writeRow 48 = .ok (.bipush 12, 2) := by decide +kernel
theorem dX8_writeRow_50 : decode cX8_writeRow 50 = .ok (.if_icmp .ge 24, 3) := by decide +kernel
theorem dX8_writeRow_53 : decode cX8_writeRow 53 = .ok (.aload_n 0, 1) := by decide +kernel
theorem dX8_writeRow_54 : decode cX8_writeRow 54 = .ok (.getfield 44, 3) := by decide +kernel
theorem dX8_writeRow_57 : decode cX8_writeRow 57 = .ok (.iload_n 3, 1) := by decide +kernel
theorem dX8_writeRow_58 : decode cX8_writeRow 58 = .ok (.aload_n 0, 1) := by decide +kernel
theorem dX8_writeRow_59 : decode cX8_writeRow 59 = .ok (.iload_n 1, 1) := by decide +kernel
theorem dX8_writeRow_60 : decode cX8_writeRow 60 = .ok (.iload_n 2, 1) := by decide +kernel
theorem dX8_writeRow_61 : decode cX8_writeRow 61 = .ok (.imul, 1) := by decide +kernel
theorem dX8_writeRow_62 : decode cX8_writeRow 62 = .ok (.iload_n 3, 1) := by decide +kernel
theorem dX8_writeRow_63 : decode cX8_writeRow 63 = .ok (.iadd, 1) := by decide +kernel
theorem dX8_writeRow_64 : decode cX8_writeRow 64 = .ok (.invokevirtual 341, 3) := by decide +kernel
theorem dX8_writeRow_67 : decode cX8_writeRow 67 = .ok (.iastore, 1) := by decide +kernel
theorem dX8_writeRow_68 : decode cX8_writeRow 68 = .ok (.iinc 3 1, 3) := by decide +kernel
theorem dX8_writeRow_71 : decode cX8_writeRow 71 = .ok (.goto (-29), 3) := by decide +kernel
theorem dX8_writeRow_74 : decode cX8_writeRow 74 = .ok (.aload_n 0, 1) := by decide +kernel
theorem dX8_writeRow_75 : decode cX8_writeRow 75 = .ok (.iload_n 2, 1) := by decide +kernel
theorem dX8_writeRow_76 : decode cX8_writeRow 76 = .ok (.putfield 344, 3) := by decide +kernel
theorem dX8_writeRow_79 : decode cX8_writeRow 79 = .ok (.aload_n 0, 1) := by decide +kernel
theorem dX8_writeRow_80 : decode cX8_writeRow 80 = .ok (.getfield 344, 3) := by decide +kernel
theorem dX8_writeRow_83 : decode cX8_writeRow 83 = .ok (.ireturn, 1) := by decide +kernel
theorem dX8_outputByte_0 : decode cX8_outputByte 0 = .ok (.iload_n 1, 1) := by decide +kernel
theorem dX8_outputByte_1 : decode cX8_outputByte 1 = .ok (.ifCond .lt 26, 3) := by decide +kernel
theorem dX8_outputByte_4 : decode cX8_outputByte 4 = .ok (.iload_n 1, 1) := by decide +kernel
theorem dX8_outputByte_5 : decode cX8_outputByte 5 = .ok (.aload_n 0, 1) := by decide +kernel
theorem dX8_outputByte_6 : decode cX8_outputByte 6 = .ok (.getfield 344, 3) := by decide +kernel
theorem dX8_outputByte_9 : decode cX8_outputByte 9 = .ok (.if_icmp .ge 18, 3) := by decide +kernel
theorem dX8_outputByte_12 : decode cX8_outputByte 12 = .ok (.iload_n 1, 1) := by decide +kernel
theorem dX8_outputByte_13 : decode cX8_outputByte 13 = .ok (.bipush 12, 2) := by decide +kernel
theorem dX8_outputByte_15 : decode cX8_outputByte 15 = .ok (.if_icmp .ge 12, 3) := by decide +kernel
theorem dX8_outputByte_18 : decode cX8_outputByte 18 = .ok (.aload_n 0, 1) := by decide +kernel
theorem dX8_outputByte_19 : decode cX8_outputByte 19 = .ok (.getfield 44, 3) := by decide +kernel
theorem dX8_outputByte_22 : decode cX8_outputByte 22 = .ok (.iload_n 1, 1) := by decide +kernel
theorem dX8_outputByte_23 : decode cX8_outputByte 23 = .ok (.iaload, 1) := by decide +kernel
theorem dX8_outputByte_24 : decode cX8_outputByte 24 = .ok (.goto 4, 3) := by decide +kernel
theorem dX8_outputByte_27 : decode cX8_outputByte 27 = .ok (.iconst (-1), 1) := by decide +kernel
theorem dX8_outputByte_28 : decode cX8_outputByte 28 = .ok (.ireturn, 1) := by decide +kernel
set_option maxRecDepth 20000 in
theorem ggX8_undo_X3_giveBack : GoodIn wsX8_undo wsX3_giveBack := goodIn_r _ [7, 8, 9, 10, 11, 12, 13, 14, 15, 16, 17, 18, 19, 20, 21, 22, 23, 24, 25, 26, 27, 28, 29, 30, 31, 32, 33, 34, 35, 36, 37, 38, 39, 40, 41, 42, 43, 44, 45, 46, 47, 48, 49, 50, 51, 52, 63, 64, 65, 66, 67, 68, 69, 70, 71, 72, 73, 74, 75, 76, 77, 78, 79, 80, 81, 82, 83, 84, 85, 86, 87] (by decide +kernel) (by decide +kernel)
set_option maxRecDepth 20000 in
theorem gX8_undo_X3_giveBack : GoodIn wsX8_undo (wsV RX8 347 RX3 yX3_giveBack wsX3_giveBack) := goodIn_app (goodIn_of _ (by decide +kernel)) ggX8_undo_X3_giveBack
theorem dX8_undo_0 : decode cX8_undo 0 = .ok (.aload_n 0, 1) := by decide +kernel
theorem dX8_undo_1 : decode cX8_undo 1 = .ok (.getfield 19, 3) := by decide +kernel
theorem dX8_undo_4 : decode cX8_undo 4 = .ok (.aload_n 0, 1) := by decide +kernel
theorem dX8_undo_5 : decode cX8_undo 5 = .ok (.getfield 10, 3) := by decide +kernel
theorem dX8_undo_8 : decode cX8_undo 8 = .ok (.invokevirtual 347, 3) := by decide +kernel
theorem dX8_undo_11 : decode cX8_undo 11 = .ok (.ifCond .eq 13, 3) := by decide +kernel
theorem dX8_undo_14 : decode cX8_undo 14 = .ok (.aload_n 0, 1) := by decide +kernel
theorem dX8_undo_15 : decode cX8_undo 15 = .ok (.getfield 19, 3) := by decide +kernel
theorem dX8_undo_18 : decode cX8_undo 18 = .ok (.getfield 153, 3) := by decide +kernel
theorem dX8_undo_21 : decode cX8_undo 21 = .ok (.goto 4, 3) := by decide +kernel
theorem dX8_undo_24 : decode cX8_undo 24 = .ok (.iconst (-1), 1) := by decide +kernel
theorem dX8_undo_25 : decode cX8_undo 25 = .ok (.ireturn, 1) := by decide +kernel
set_option maxRecDepth 20000 in
theorem ggX8_saveSnapshot_X8_needSlot : GoodIn wsX8_saveSnapshot wsX8_needSlot := goodIn_ca (goodIn_r _ [9, 10, 11] (by decide +kernel) (by decide +kernel)) (goodIn_sub (fun _ h => List.mem_cons_of_mem _ (List.mem_append_right _ h)) (by decide +kernel))
set_option maxRecDepth 20000 in
theorem gX8_saveSnapshot_X8_needSlot : GoodIn wsX8_saveSnapshot (va_wsS RX8 351 yX8_needSlot wsX8_needSlot) := goodIn_app (goodIn_of _ (by decide +kernel)) ggX8_saveSnapshot_X8_needSlot
set_option maxRecDepth 20000 in
theorem ggX8_saveSnapshot_X6_init : GoodIn wsX8_saveSnapshot wsX6_init := goodIn_r _ [13, 14, 15, 16, 17, 18, 19, 20, 21, 22, 23, 24, 25, 26, 27, 28, 29, 30, 31, 32, 33, 34, 35, 36, 37, 38, 39, 40, 41, 42, 43, 44, 45, 46, 47, 48, 49, 96, 97, 98, 99, 100, 101, 85, 86, 87, 88, 89, 90, 91, 92, 93, 94, 95, 102, 103, 104, 105, 106] (by decide +kernel) (by decide +kernel)
set_option maxRecDepth 20000 in
theorem gX8_saveSnapshot_X6_init_n9 : GoodIn wsX8_saveSnapshot (wsX6_init) := ggX8_saveSnapshot_X6_init
set_option maxRecDepth 20000 in
theorem ggX8_saveSnapshot_X6_copyFrom : GoodIn wsX8_saveSnapshot wsX6_copyFrom := goodIn_r _ [53, 20, 24, 28, 30, 31, 54, 55, 56, 19, 57, 58, 59, 60, 36, 37, 38, 61, 62, 63, 23, 64, 65, 66, 42, 43, 44, 45, 67, 68, 69, 27, 70, 71, 72, 73, 74, 49, 85, 86, 87, 88, 89, 96, 97, 98, 99, 100, 101, 90, 91, 92, 93, 94, 95, 102, 103, 104, 105, 106] (by decide +kernel) (by decide +kernel)
set_option maxRecDepth 20000 in
theorem gX8_saveSnapshot_X6_copyFrom : GoodIn wsX8_saveSnapshot (wsV RX8 90 RX6 yX6_copyFrom wsX6_copyFrom) := goodIn_app (goodIn_of _ (by decide +kernel)) ggX8_saveSnapshot_X6_copyFrom
theorem dX8_saveSnapshot_0 : decode cX8_saveSnapshot 0 = .ok (.iload_n 1, 1) := by decide +kernel
theorem dX8_saveSnapshot_1 : decode cX8_saveSnapshot 1 = .ok (.invokestatic 351, 3) := by decide +kernel
theorem dX8_saveSnapshot_4 : decode cX8_saveSnapshot 4 = .ok (.aload_n 0, 1) := by decide +kernel
theorem dX8_saveSnapshot_5 : decode cX8_saveSnapshot 5 = .ok (.getfield 48, 3) := by decide +kernel
theorem dX8_saveSnapshot_8 : decode cX8_saveSnapshot 8 = .ok (.iload_n 1, 1) := by decide +kernel
theorem dX8_saveSnapshot_9 : decode cX8_saveSnapshot 9 = .ok (.aaload, 1) := by decide +kernel
theorem dX8_saveSnapshot_10 : decode cX8_saveSnapshot 10 = .ok (.astore_n 2, 1) := by decide +kernel
theorem dX8_saveSnapshot_11 : decode cX8_saveSnapshot 11 = .ok (.aload_n 2, 1) := by decide +kernel
theorem dX8_saveSnapshot_12 : decode cX8_saveSnapshot 12 = .ok (.ifnonnull 18, 3) := by decide +kernel
theorem dX8_saveSnapshot_15 : decode cX8_saveSnapshot 15 = .ok (.new 7, 3) := by decide +kernel
theorem dX8_saveSnapshot_18 : decode cX8_saveSnapshot 18 = .ok (.dup, 1) := by decide +kernel
theorem dX8_saveSnapshot_19 : decode cX8_saveSnapshot 19 = .ok (.invokespecial 9, 3) := by decide +kernel
theorem dX8_saveSnapshot_22 : decode cX8_saveSnapshot 22 = .ok (.astore_n 2, 1) := by decide +kernel
theorem dX8_saveSnapshot_23 : decode cX8_saveSnapshot 23 = .ok (.aload_n 0, 1) := by decide +kernel
theorem dX8_saveSnapshot_24 : decode cX8_saveSnapshot 24 = .ok (.getfield 48, 3) := by decide +kernel
theorem dX8_saveSnapshot_27 : decode cX8_saveSnapshot 27 = .ok (.iload_n 1, 1) := by decide +kernel
theorem dX8_saveSnapshot_28 : decode cX8_saveSnapshot 28 = .ok (.aload_n 2, 1) := by decide +kernel
theorem dX8_saveSnapshot_29 : decode cX8_saveSnapshot 29 = .ok (.aastore, 1) := by decide +kernel
theorem dX8_saveSnapshot_30 : decode cX8_saveSnapshot 30 = .ok (.aload_n 2, 1) := by decide +kernel
theorem dX8_saveSnapshot_31 : decode cX8_saveSnapshot 31 = .ok (.aload_n 0, 1) := by decide +kernel
theorem dX8_saveSnapshot_32 : decode cX8_saveSnapshot 32 = .ok (.getfield 10, 3) := by decide +kernel
theorem dX8_saveSnapshot_35 : decode cX8_saveSnapshot 35 = .ok (.invokevirtual 90, 3) := by decide +kernel
theorem dX8_saveSnapshot_38 : decode cX8_saveSnapshot 38 = .ok (.aload_n 0, 1) := by decide +kernel
theorem dX8_saveSnapshot_39 : decode cX8_saveSnapshot 39 = .ok (.getfield 10, 3) := by decide +kernel
theorem dX8_saveSnapshot_42 : decode cX8_saveSnapshot 42 = .ok (.getfield 97, 3) := by decide +kernel
theorem dX8_saveSnapshot_45 : decode cX8_saveSnapshot 45 = .ok (.getfield 101, 3) := by decide +kernel
theorem dX8_saveSnapshot_48 : decode cX8_saveSnapshot 48 = .ok (.ireturn, 1) := by decide +kernel
set_option maxRecDepth 20000 in
theorem ggX8_restoreSnapshot_X8_needSlot : GoodIn wsX8_restoreSnapshot wsX8_needSlot := goodIn_ca (goodIn_r _ [7, 8, 9] (by decide +kernel) (by decide +kernel)) (goodIn_sub (fun _ h => List.mem_cons_of_mem _ (List.mem_append_right _ h)) (by decide +kernel))
set_option maxRecDepth 20000 in
theorem gX8_restoreSnapshot_X8_needSlot : GoodIn wsX8_restoreSnapshot (va_wsS RX8 351 yX8_needSlot wsX8_needSlot) := goodIn_app (goodIn_of _ (by decide +kernel)) ggX8_restoreSnapshot_X8_needSlot
set_option maxRecDepth 20000 in
theorem ggX8_restoreSnapshot_X6_copyFrom : GoodIn wsX8_restoreSnapshot wsX6_copyFrom := goodIn_r _ [14, 15, 16, 17, 18, 19, 20, 21, 22, 23, 24, 25, 26, 27, 28, 29, 30, 31, 32, 33, 34, 35, 36, 37, 38, 39, 40, 41, 42, 43, 44, 45, 46, 47, 48, 49, 50, 51, 68, 69, 70, 71, 72, 79, 80, 81, 82, 83, 84, 73, 74, 75, 76, 77, 78, 85, 86, 87, 88, 89] (by decide +kernel) (by decide +kernel)
set_option maxRecDepth 20000 in
theorem gX8_restoreSnapshot_X6_copyFrom : GoodIn wsX8_restoreSnapshot (wsV RX8 90 RX6 yX6_copyFrom wsX6_copyFrom) := goodIn_app (goodIn_of _ (by decide +kernel)) ggX8_restoreSnapshot_X6_copyFrom
set_option maxRecDepth 20000 in
theorem ggX8_restoreSnapshot_X3_forget : GoodIn wsX8_restoreSnapshot wsX3_forget := goodIn_r _ [56, 57, 90, 91, 92] (by decide +kernel) (by decide +kernel)
set_option maxRecDepth 20000 in
theorem gX8_restoreSnapshot_X3_forget : GoodIn wsX8_restoreSnapshot (wsV RX8 94 RX3 yX3_forget wsX3_forget) := goodIn_app (goodIn_of _ (by decide +kernel)) ggX8_restoreSnapshot_X3_forget
theorem dX8_restoreSnapshot_0 : decode cX8_restoreSnapshot 0 = .ok (.iload_n 1, 1) := by decide +kernel
theorem dX8_restoreSnapshot_1 : decode cX8_restoreSnapshot 1 = .ok (.invokestatic 351, 3) := by decide +kernel
theorem dX8_restoreSnapshot_4 : decode cX8_restoreSnapshot 4 = .ok (.aload_n 0, 1) := by decide +kernel
theorem dX8_restoreSnapshot_5 : decode cX8_restoreSnapshot 5 = .ok (.getfield 48, 3) := by decide +kernel
theorem dX8_restoreSnapshot_8 : decode cX8_restoreSnapshot 8 = .ok (.iload_n 1, 1) := by decide +kernel
theorem dX8_restoreSnapshot_9 : decode cX8_restoreSnapshot 9 = .ok (.aaload, 1) := by decide +kernel
theorem dX8_restoreSnapshot_10 : decode cX8_restoreSnapshot 10 = .ok (.astore_n 2, 1) := by decide +kernel
theorem dX8_restoreSnapshot_11 : decode cX8_restoreSnapshot 11 = .ok (.aload_n 2, 1) := by decide +kernel
theorem dX8_restoreSnapshot_12 : decode cX8_restoreSnapshot 12 = .ok (.ifnonnull 5, 3) := by decide +kernel
theorem dX8_restoreSnapshot_15 : decode cX8_restoreSnapshot 15 = .ok (.iconst (-1), 1) := by decide +kernel
theorem dX8_restoreSnapshot_16 : decode cX8_restoreSnapshot 16 = .ok (.ireturn, 1) := by decide +kernel
theorem dX8_restoreSnapshot_17 : decode cX8_restoreSnapshot 17 = .ok (.aload_n 0, 1) := by decide +kernel
theorem dX8_restoreSnapshot_18 : decode cX8_restoreSnapshot 18 = .ok (.getfield 10, 3) := by decide +kernel
theorem dX8_restoreSnapshot_21 : decode cX8_restoreSnapshot 21 = .ok (.aload_n 2, 1) := by decide +kernel
theorem dX8_restoreSnapshot_22 : decode cX8_restoreSnapshot 22 = .ok (.invokevirtual 90, 3) := by decide +kernel
theorem dX8_restoreSnapshot_25 : decode cX8_restoreSnapshot 25 = .ok (.aload_n 0, 1) := by decide +kernel
theorem dX8_restoreSnapshot_26 : decode cX8_restoreSnapshot 26 = .ok (.getfield 19, 3) := by decide +kernel
theorem dX8_restoreSnapshot_29 : decode cX8_restoreSnapshot 29 = .ok (.invokevirtual 94, 3) := by decide +kernel
theorem dX8_restoreSnapshot_32 : decode cX8_restoreSnapshot 32 = .ok (.aload_n 0, 1) := by decide +kernel
theorem dX8_restoreSnapshot_33 : decode cX8_restoreSnapshot 33 = .ok (.getfield 10, 3) := by decide +kernel
theorem dX8_restoreSnapshot_36 : decode cX8_restoreSnapshot 36 = .ok (.getfield 97, 3) := by decide +kernel
theorem dX8_restoreSnapshot_39 : decode cX8_restoreSnapshot 39 = .ok (.getfield 101, 3) := by decide +kernel
theorem dX8_restoreSnapshot_42 : decode cX8_restoreSnapshot 42 = .ok (.ireturn, 1) := by decide +kernel
set_option maxRecDepth 20000 in
theorem ggX8_needCell_X1_cells : GoodIn wsX8_needCell wsX1_cells := goodIn_r _ [8, 9, 10, 26, 27, 28, 29, 30, 31] (by decide +kernel) (by decide +kernel)
set_option maxRecDepth 20000 in
theorem gX8_needCell_X1_cells : GoodIn wsX8_needCell (wsV RX8 237 RX1 yX1_cells wsX1_cells) := goodIn_app (goodIn_of _ (by decide +kernel)) ggX8_needCell_X1_cells
theorem dX8_needCell_0 : decode cX8_needCell 0 = .ok (.iload_n 1, 1) := by decide +kernel
theorem dX8_needCell_1 : decode cX8_needCell 1 = .ok (.ifCond .lt 17, 3) := by decide +kernel
theorem dX8_needCell_4 : decode cX8_needCell 4 = .ok (.iload_n 1, 1) := by decide +kernel
theorem dX8_needCell_5 : decode cX8_needCell 5 = .ok (.aload_n 0, 1) := by decide +kernel
theorem dX8_needCell_6 : decode cX8_needCell 6 = .ok (.getfield 10, 3) := by decide +kernel
theorem dX8_needCell_9 : decode cX8_needCell 9 = .ok (.getfield 106, 3) := by decide +kernel
theorem dX8_needCell_12 : decode cX8_needCell 12 = .ok (.invokevirtual 237, 3) := by decide +kernel
theorem dX8_needCell_15 : decode cX8_needCell 15 = .ok (.if_icmp .lt 14, 3) := by decide +kernel
theorem dX8_needCell_18 : decode cX8_needCell 18 = .ok (.new 322, 3) := by decide +kernel
theorem dX8_needCell_21 : decode cX8_needCell 21 = .ok (.dup, 1) := by decide +kernel
theorem dX8_needCell_22 : decode cX8_needCell 22 = .ok (.ldc_w 354, 3) := by decide +kernel
theorem dX8_needCell_25 : decode cX8_needCell 25 = .ok (.invokespecial 326, 3) := by decide +kernel
theorem dX8_needCell_28 : decode cX8_needCell 28 = .ok (.athrow, 1) := by decide +kernel
theorem dX8_needCell_29 : decode cX8_needCell 29 = .ok (.return_, 1) := by decide +kernel
theorem dX8_needHarbour_0 : decode cX8_needHarbour 0 = .ok (.iload_n 1, 1) := by decide +kernel
theorem dX8_needHarbour_1 : decode cX8_needHarbour 1 = .ok (.ifCond .lt 17, 3) := by decide +kernel
theorem dX8_needHarbour_4 : decode cX8_needHarbour 4 = .ok (.iload_n 1, 1) := by decide +kernel
theorem dX8_needHarbour_5 : decode cX8_needHarbour 5 = .ok (.aload_n 0, 1) := by decide +kernel
theorem dX8_needHarbour_6 : decode cX8_needHarbour 6 = .ok (.getfield 10, 3) := by decide +kernel
theorem dX8_needHarbour_9 : decode cX8_needHarbour 9 = .ok (.getfield 97, 3) := by decide +kernel
theorem dX8_needHarbour_12 : decode cX8_needHarbour 12 = .ok (.getfield 101, 3) := by decide +kernel
theorem dX8_needHarbour_15 : decode cX8_needHarbour 15 = .ok (.if_icmp .lt 14, 3) := by decide +kernel
theorem dX8_needHarbour_18 : decode cX8_needHarbour 18 = .ok (.new 322, 3) := by decide +kernel
theorem dX8_needHarbour_21 : decode cX8_needHarbour 21 = .ok (.dup, 1) := by decide +kernel
theorem dX8_needHarbour_22 : decode cX8_needHarbour 22 = .ok (.ldc_w 356, 3) := by decide +kernel
theorem dX8_needHarbour_25 : decode cX8_needHarbour 25 = .ok (.invokespecial 326, 3) := by decide +kernel
theorem dX8_needHarbour_28 : decode cX8_needHarbour 28 = .ok (.athrow, 1) := by decide +kernel
theorem dX8_needHarbour_29 : decode cX8_needHarbour 29 = .ok (.return_, 1) := by decide +kernel
theorem dX8_needRiver_0 : decode cX8_needRiver 0 = .ok (.iload_n 1, 1) := by decide +kernel
theorem dX8_needRiver_1 : decode cX8_needRiver 1 = .ok (.ifCond .lt 17, 3) := by decide +kernel
theorem dX8_needRiver_4 : decode cX8_needRiver 4 = .ok (.iload_n 1, 1) := by decide +kernel
theorem dX8_needRiver_5 : decode cX8_needRiver 5 = .ok (.aload_n 0, 1) := by decide +kernel
theorem dX8_needRiver_6 : decode cX8_needRiver 6 = .ok (.getfield 10, 3) := by decide +kernel
theorem dX8_needRiver_9 : decode cX8_needRiver 9 = .ok (.getfield 106, 3) := by decide +kernel
theorem dX8_needRiver_12 : decode cX8_needRiver 12 = .ok (.getfield 122, 3) := by decide +kernel
theorem dX8_needRiver_15 : decode cX8_needRiver 15 = .ok (.if_icmp .lt 14, 3) := by decide +kernel
theorem dX8_needRiver_18 : decode cX8_needRiver 18 = .ok (.new 322, 3) := by decide +kernel
theorem dX8_needRiver_21 : decode cX8_needRiver 21 = .ok (.dup, 1) := by decide +kernel
theorem dX8_needRiver_22 : decode cX8_needRiver 22 = .ok (.ldc_w 358, 3) := by decide +kernel
theorem dX8_needRiver_25 : decode cX8_needRiver 25 = .ok (.invokespecial 326, 3) := by decide +kernel
theorem dX8_needRiver_28 : decode cX8_needRiver 28 = .ok (.athrow, 1) := by decide +kernel
theorem dX8_needRiver_29 : decode cX8_needRiver 29 = .ok (.return_, 1) := by decide +kernel
theorem dX8_needDirection_0 : decode cX8_needDirection 0 = .ok (.iload_n 0, 1) := by decide +kernel
theorem dX8_needDirection_1 : decode cX8_needDirection 1 = .ok (.ifCond .lt 8, 3) := by decide +kernel
theorem dX8_needDirection_4 : decode cX8_needDirection 4 = .ok (.iload_n 0, 1) := by decide +kernel
theorem dX8_needDirection_5 : decode cX8_needDirection 5 = .ok (.iconst 4, 1) := by decide +kernel
theorem dX8_needDirection_6 : decode cX8_needDirection 6 = .ok (.if_icmp .lt 14, 3) := by decide +kernel
theorem dX8_needDirection_9 : decode cX8_needDirection 9 = .ok (.new 154, 3) := by decide +kernel
theorem dX8_needDirection_12 : decode cX8_needDirection 12 = .ok (.dup, 1) := by decide +kernel
theorem dX8_needDirection_13 : decode cX8_needDirection 13 = .ok (.ldc_w 360, 3) := by decide +kernel
theorem dX8_needDirection_16 : decode cX8_needDirection 16 = .ok (.invokespecial 158, 3) := by decide +kernel
theorem dX8_needDirection_19 : decode cX8_needDirection 19 = .ok (.athrow, 1) := by decide +kernel
theorem dX8_needDirection_20 : decode cX8_needDirection 20 = .ok (.return_, 1) := by decide +kernel
theorem dX8_needTurn_0 : decode cX8_needTurn 0 = .ok (.iload_n 0, 1) := by decide +kernel
theorem dX8_needTurn_1 : decode cX8_needTurn 1 = .ok (.ifCond .lt 8, 3) := by decide +kernel
theorem dX8_needTurn_4 : decode cX8_needTurn 4 = .ok (.iload_n 0, 1) := by decide +kernel
theorem dX8_needTurn_5 : decode cX8_needTurn 5 = .ok (.iconst 4, 1) := by decide +kernel
theorem dX8_needTurn_6 : decode cX8_needTurn 6 = .ok (.if_icmp .lt 14, 3) := by decide +kernel
theorem dX8_needTurn_9 : decode cX8_needTurn 9 = .ok (.new 154, 3) := by decide +kernel
theorem dX8_needTurn_12 : decode cX8_needTurn 12 = .ok (.dup, 1) := by decide +kernel
theorem dX8_needTurn_13 : decode cX8_needTurn 13 = .ok (.ldc_w 362, 3) := by decide +kernel
theorem dX8_needTurn_16 : decode cX8_needTurn 16 = .ok (.invokespecial 158, 3) := by decide +kernel
theorem dX8_needTurn_19 : decode cX8_needTurn 19 = .ok (.athrow, 1) := by decide +kernel
theorem dX8_needTurn_20 : decode cX8_needTurn 20 = .ok (.return_, 1) := by decide +kernel
theorem dX8_needSlot_0 : decode cX8_needSlot 0 = .ok (.iload_n 0, 1) := by decide +kernel
theorem dX8_needSlot_1 : decode cX8_needSlot 1 = .ok (.ifCond .lt 8, 3) := by decide +kernel
theorem dX8_needSlot_4 : decode cX8_needSlot 4 = .ok (.iload_n 0, 1) := by decide +kernel
theorem dX8_needSlot_5 : decode cX8_needSlot 5 = .ok (.iconst 2, 1) := by decide +kernel
theorem dX8_needSlot_6 : decode cX8_needSlot 6 = .ok (.if_icmp .lt 14, 3) := by decide +kernel
theorem dX8_needSlot_9 : decode cX8_needSlot 9 = .ok (.new 154, 3) := by decide +kernel
theorem dX8_needSlot_12 : decode cX8_needSlot 12 = .ok (.dup, 1) := by decide +kernel
theorem dX8_needSlot_13 : decode cX8_needSlot 13 = .ok (.ldc_w 364, 3) := by decide +kernel
theorem dX8_needSlot_16 : decode cX8_needSlot 16 = .ok (.invokespecial 158, 3) := by decide +kernel
theorem dX8_needSlot_19 : decode cX8_needSlot 19 = .ok (.athrow, 1) := by decide +kernel
theorem dX8_needSlot_20 : decode cX8_needSlot 20 = .ok (.return_, 1) := by decide +kernel
set_option maxRecDepth 20000 in
theorem ggX8_wayFrom_X7_survey : GoodIn wsX8_wayFrom wsX7_survey := goodIn_r _ [7, 8, 9, 10, 11, 12, 13, 14, 15, 16, 17, 18, 19, 20, 21, 22, 23, 24, 25, 26, 27, 28, 29, 30, 31, 32, 33, 34, 35, 36, 37, 38, 39, 40, 41, 42, 43, 44, 45, 46, 47, 48, 49, 50, 51, 52, 53, 54, 55, 56, 57, 58, 59, 60, 61, 62, 6, 63, 64, 65, 66, 67, 68, 89, 90, 91, 92, 93, 94, 95, 96, 97, 98, 99, 100, 101, 102, 103, 104, 105, 106, 107, 108, 109] (by decide +kernel) (by decide +kernel)
set_option maxRecDepth 20000 in
theorem gX8_wayFrom_X7_survey : GoodIn wsX8_wayFrom (wsV RX8 279 RX7 yX7_survey wsX7_survey) := goodIn_app (goodIn_of _ (by decide +kernel)) ggX8_wayFrom_X7_survey
set_option maxRecDepth 20000 in
theorem ggX8_wayFrom_X7_trace : GoodIn wsX8_wayFrom wsX7_trace := goodIn_r _ [72, 73, 74, 13, 12, 65, 66, 67, 6, 68, 75, 76, 77, 78, 64, 55, 56, 17, 57, 19, 20, 94, 95, 96, 97, 98, 99, 100, 101, 102, 103] (by decide +kernel) (by decide +kernel)
set_option maxRecDepth 20000 in
theorem gX8_wayFrom_X7_trace : GoodIn wsX8_wayFrom (wsV RX8 282 RX7 yX7_trace wsX7_trace) := goodIn_app (goodIn_of _ (by decide +kernel)) ggX8_wayFrom_X7_trace
theorem dX8_wayFrom_0 : decode cX8_wayFrom 0 = .ok (.aload_n 0, 1) := by decide +kernel
theorem dX8_wayFrom_1 : decode cX8_wayFrom 1 = .ok (.getfield 26, 3) := by decide +kernel
theorem dX8_wayFrom_4 : decode cX8_wayFrom 4 = .ok (.aload_n 0, 1) := by decide +kernel
theorem dX8_wayFrom_5 : decode cX8_wayFrom 5 = .ok (.getfield 10, 3) := by decide +kernel
theorem dX8_wayFrom_8 : decode cX8_wayFrom 8 = .ok (.invokevirtual 279, 3) := by decide +kernel
theorem dX8_wayFrom_11 : decode cX8_wayFrom 11 = .ok (.aload_n 0, 1) := by decide +kernel
theorem dX8_wayFrom_12 : decode cX8_wayFrom 12 = .ok (.getfield 26, 3) := by decide +kernel
theorem dX8_wayFrom_15 : decode cX8_wayFrom 15 = .ok (.aload_n 0, 1) := by decide +kernel
theorem dX8_wayFrom_16 : decode cX8_wayFrom 16 = .ok (.getfield 10, 3) := by decide +kernel
theorem dX8_wayFrom_19 : decode cX8_wayFrom 19 = .ok (.getfield 106, 3) := by decide +kernel
theorem dX8_wayFrom_22 : decode cX8_wayFrom 22 = .ok (.iload_n 1, 1) := by decide +kernel
theorem dX8_wayFrom_23 : decode cX8_wayFrom 23 = .ok (.invokevirtual 282, 3) := by decide +kernel
theorem dX8_wayFrom_26 : decode cX8_wayFrom 26 = .ok (.ireturn, 1) := by decide +kernel
set_option maxRecDepth 20000 in
theorem ggX8_signOf_X1_isLand : GoodIn wsX8_signOf wsX1_isLand := goodIn_r _ [6, 7, 53, 54, 55, 56, 57, 58] (by decide +kernel) (by decide +kernel)
set_option maxRecDepth 20000 in
theorem gX8_signOf_X1_isLand : GoodIn wsX8_signOf (wsV RX8 168 RX1 yX1_isLand wsX1_isLand) := goodIn_app (goodIn_of _ (by decide +kernel)) ggX8_signOf_X1_isLand
set_option maxRecDepth 20000 in
theorem ggX8_signOf_X2_inCell : GoodIn wsX8_signOf wsX2_inCell := goodIn_r _ [12, 13, 14, 47, 48, 49, 50, 51, 52] (by decide +kernel) (by decide +kernel)
set_option maxRecDepth 20000 in
theorem gX8_signOf_X2_inCell : GoodIn wsX8_signOf (wsV RX8 171 RX2 yX2_inCell wsX2_inCell) := goodIn_app (goodIn_of _ (by decide +kernel)) ggX8_signOf_X2_inCell
set_option maxRecDepth 20000 in
theorem ggX8_signOf_X6_namesIn : GoodIn wsX8_signOf wsX6_namesIn := goodIn_r _ [19, 20, 42, 43, 44, 45, 46] (by decide +kernel) (by decide +kernel)
set_option maxRecDepth 20000 in
theorem gX8_signOf_X6_namesIn : GoodIn wsX8_signOf (wsV RX8 180 RX6 yX6_namesIn wsX6_namesIn) := goodIn_app (goodIn_of _ (by decide +kernel)) ggX8_signOf_X6_namesIn
set_option maxRecDepth 20000 in
theorem ggX8_signOf_X6_letterIn : GoodIn wsX8_signOf wsX6_letterIn := goodIn_r _ [24, 25, 26, 16, 17, 18, 19, 20, 42, 43, 44, 45, 46] (by decide +kernel) (by decide +kernel)
set_option maxRecDepth 20000 in
theorem gX8_signOf_X6_letterIn : GoodIn wsX8_signOf (wsV RX8 177 RX6 yX6_letterIn wsX6_letterIn) := goodIn_app (goodIn_of _ (by decide +kernel)) ggX8_signOf_X6_letterIn
set_option maxRecDepth 20000 in
theorem ggX8_signOf_X1_isRiver : GoodIn wsX8_signOf wsX1_isRiver := goodIn_r _ [30, 31, 53, 54, 55, 56, 57, 58] (by decide +kernel) (by decide +kernel)
set_option maxRecDepth 20000 in
theorem gX8_signOf_X1_isRiver : GoodIn wsX8_signOf (wsV RX8 164 RX1 yX1_isRiver wsX1_isRiver) := goodIn_app (goodIn_of _ (by decide +kernel)) ggX8_signOf_X1_isRiver
theorem dX8_signOf_0 : decode cX8_signOf 0 = .ok (.aload_n 0, 1) := by decide +kernel
theorem dX8_signOf_1 : decode cX8_signOf 1 = .ok (.getfield 10, 3) := by decide +kernel
theorem dX8_signOf_4 : decode cX8_signOf 4 = .ok (.getfield 106, 3) := by decide +kernel
theorem dX8_signOf_7 : decode cX8_signOf 7 = .ok (.iload_n 1, 1) := by decide +kernel
theorem dX8_signOf_8 : decode cX8_signOf 8 = .ok (.invokevirtual 168, 3) := by decide +kernel
theorem dX8_signOf_11 : decode cX8_signOf 11 = .ok (.ifCond .ne 6, 3) := by decide +kernel
theorem dX8_signOf_14 : decode cX8_signOf 14 = .ok (.bipush 126, 2) := by decide +kernel
theorem dX8_signOf_16 : decode cX8_signOf 16 = .ok (.ireturn, 1) := by decide +kernel
theorem dX8_signOf_17 : decode cX8_signOf 17 = .ok (.aload_n 0, 1) := by decide +kernel
theorem dX8_signOf_18 : decode cX8_signOf 18 = .ok (.getfield 10, 3) := by decide +kernel
theorem dX8_signOf_21 : decode cX8_signOf 21 = .ok (.getfield 97, 3) := by decide +kernel
theorem dX8_signOf_24 : decode cX8_signOf 24 = .ok (.iload_n 1, 1) := by decide +kernel
theorem dX8_signOf_25 : decode cX8_signOf 25 = .ok (.invokevirtual 171, 3) := by decide +kernel
theorem dX8_signOf_28 : decode cX8_signOf 28 = .ok (.iconst (-1), 1) := by decide +kernel
theorem dX8_signOf_29 : decode cX8_signOf 29 = .ok (.if_icmp .eq 6, 3) := by decide +kernel
theorem dX8_signOf_32 : decode cX8_signOf 32 = .ok (.bipush 64, 2) := by decide +kernel
theorem dX8_signOf_34 : decode cX8_signOf 34 = .ok (.ireturn, 1) := by decide +kernel
theorem dX8_signOf_35 : decode cX8_signOf 35 = .ok (.aload_n 0, 1) := by decide +kernel
theorem dX8_signOf_36 : decode cX8_signOf 36 = .ok (.getfield 10, 3) := by decide +kernel
theorem dX8_signOf_39 : decode cX8_signOf 39 = .ok (.iload_n 1, 1) := by decide +kernel
theorem dX8_signOf_40 : decode cX8_signOf 40 = .ok (.invokevirtual 180, 3) := by decide +kernel
theorem dX8_signOf_43 : decode cX8_signOf 43 = .ok (.istore_n 2, 1) := by decide +kernel
theorem dX8_signOf_44 : decode cX8_signOf 44 = .ok (.iload_n 2, 1) := by decide +kernel
theorem dX8_signOf_45 : decode cX8_signOf 45 = .ok (.ifCond .eq 51, 3) := by decide +kernel
theorem dX8_signOf_48 : decode cX8_signOf 48 = .ok (.iload_n 2, 1) := by decide +kernel
theorem dX8_signOf_49 : decode cX8_signOf 49 = .ok (.aload_n 0, 1) := by decide +kernel
theorem dX8_signOf_50 : decode cX8_signOf 50 = .ok (.getfield 10, 3) := by decide +kernel
theorem dX8_signOf_53 : decode cX8_signOf 53 = .ok (.getfield 97, 3) := by decide +kernel
theorem dX8_signOf_56 : decode cX8_signOf 56 = .ok (.getfield 134, 3) := by decide +kernel
theorem dX8_signOf_59 : decode cX8_signOf 59 = .ok (.iand, 1) := by decide +kernel
theorem dX8_signOf_60 : decode cX8_signOf 60 = .ok (.ifCond .eq 7, 3) := by decide +kernel
theorem dX8_signOf_63 : decode cX8_signOf 63 = .ok (.iconst 1, 1) := by decide +kernel
theorem dX8_signOf_64 : decode cX8_signOf 64 = .ok (.goto 4, 3) := by decide +kernel
theorem dX8_signOf_67 : decode cX8_signOf 67 = .ok (.iconst 0, 1) := by decide +kernel
theorem dX8_signOf_68 : decode cX8_signOf 68 = .ok (.istore_n 3, 1) := by decide +kernel
theorem dX8_signOf_69 : decode cX8_signOf 69 = .ok (.iload_n 3, 1) := by decide +kernel
theorem dX8_signOf_70 : decode cX8_signOf 70 = .ok (.ifCond .eq 17, 3) := by decide +kernel
theorem dX8_signOf_73 : decode cX8_signOf 73 = .ok (.aload_n 0, 1) := by decide +kernel
theorem dX8_signOf_74 : decode cX8_signOf 74 = .ok (.getfield 10, 3) := by decide +kernel
theorem dX8_signOf_77 : decode cX8_signOf 77 = .ok (.iload_n 1, 1) := by decide +kernel
theorem dX8_signOf_78 : decode cX8_signOf 78 = .ok (.invokevirtual 177, 3) := by decide +kernel
theorem dX8_signOf_81 : decode cX8_signOf 81 = .ok (.bipush 32, 2) := by decide +kernel
theorem dX8_signOf_83 : decode cX8_signOf 83 = .ok (.isub, 1) := by decide +kernel
theorem dX8_signOf_84 : decode cX8_signOf 84 = .ok (.goto 11, 3) := by decide +kernel
theorem dX8_signOf_87 : decode cX8_signOf 87 = .ok (.aload_n 0, 1) := by decide +kernel
theorem dX8_signOf_88 : decode cX8_signOf 88 = .ok (.getfield 10, 3) := by decide +kernel
theorem dX8_signOf_91 : decode cX8_signOf 91 = .ok (.iload_n 1, 1) := by decide +kernel
theorem dX8_signOf_92 : decode cX8_signOf 92 = .ok (.invokevirtual 177, 3) := by decide +kernel
theorem dX8_signOf_95 : decode cX8_signOf 95 = .ok (.ireturn, 1) := by decide +kernel
theorem dX8_signOf_96 : decode cX8_signOf 96 = .ok (.aload_n 0, 1) := by decide +kernel
theorem dX8_signOf_97 : decode cX8_signOf 97 = .ok (.getfield 10, 3) := by decide +kernel
theorem dX8_signOf_100 : decode cX8_signOf 100 = .ok (.getfield 106, 3) := by decide +kernel
theorem dX8_signOf_103 : decode cX8_signOf 103 = .ok (.iload_n 1, 1) := by decide +kernel
theorem dX8_signOf_104 : decode cX8_signOf 104 = .ok (.invokevirtual 164, 3) := by decide +kernel
theorem dX8_signOf_107 : decode cX8_signOf 107 = .ok (.ifCond .eq 8, 3) := by decide +kernel
theorem dX8_signOf_110 : decode cX8_signOf 110 = .ok (.bipush 61, 2) := by decide +kernel
theorem dX8_signOf_112 : decode cX8_signOf 112 = .ok (.goto 5, 3) := by decide +kernel
theorem dX8_signOf_115 : decode cX8_signOf 115 = .ok (.bipush 46, 2) := by decide +kernel
theorem dX8_signOf_117 : decode cX8_signOf 117 = .ok (.ireturn, 1) := by decide +kernel
theorem dX8_byteOf_0 : decode cX8_byteOf 0 = .ok (.lload_n 0, 1) := by decide +kernel
theorem dX8_byteOf_1 : decode cX8_byteOf 1 = .ok (.iload_n 2, 1) := by decide +kernel
theorem dX8_byteOf_2 : decode cX8_byteOf 2 = .ok (.lushr, 1) := by decide +kernel
theorem dX8_byteOf_3 : decode cX8_byteOf 3 = .ok (.ldc2_w 366, 3) := by decide +kernel
theorem dX8_byteOf_6 : decode cX8_byteOf 6 = .ok (.land, 1) := by decide +kernel
theorem dX8_byteOf_7 : decode cX8_byteOf 7 = .ok (.l2i, 1) := by decide +kernel
theorem dX8_byteOf_8 : decode cX8_byteOf 8 = .ok (.ireturn, 1) := by decide +kernel
theorem dX8_uprightTurn_0 : decode cX8_uprightTurn 0 = .ok (.iload_n 0, 1) := by decide +kernel
theorem dX8_uprightTurn_1 : decode cX8_uprightTurn 1 = .ok (.iconst 3, 1) := by decide +kernel
theorem dX8_uprightTurn_2 : decode cX8_uprightTurn 2 = .ok (.iadd, 1) := by decide +kernel
theorem dX8_uprightTurn_3 : decode cX8_uprightTurn 3 = .ok (.iconst 4, 1) := by decide +kernel
theorem dX8_uprightTurn_4 : decode cX8_uprightTurn 4 = .ok (.irem, 1) := by decide +kernel
theorem dX8_uprightTurn_5 : decode cX8_uprightTurn 5 = .ok (.ireturn, 1) := by decide +kernel
theorem dX8_quartersBetween_0 : decode cX8_quartersBetween 0 = .ok (.iload_n 0, 1) := by decide +kernel
theorem dX8_quartersBetween_1 : decode cX8_quartersBetween 1 = .ok (.iload_n 1, 1) := by decide +kernel
theorem dX8_quartersBetween_2 : decode cX8_quartersBetween 2 = .ok (.isub, 1) := by decide +kernel
theorem dX8_quartersBetween_3 : decode cX8_quartersBetween 3 = .ok (.invokestatic 368, 3) := by decide +kernel
theorem dX8_quartersBetween_6 : decode cX8_quartersBetween 6 = .ok (.istore_n 2, 1) := by decide +kernel
theorem dX8_quartersBetween_7 : decode cX8_quartersBetween 7 = .ok (.iload_n 2, 1) := by decide +kernel
theorem dX8_quartersBetween_8 : decode cX8_quartersBetween 8 = .ok (.iconst 4, 1) := by decide +kernel
theorem dX8_quartersBetween_9 : decode cX8_quartersBetween 9 = .ok (.iload_n 2, 1) := by decide +kernel
theorem dX8_quartersBetween_10 : decode cX8_quartersBetween 10 = .ok (.isub, 1) := by decide +kernel
theorem dX8_quartersBetween_11 : decode cX8_quartersBetween 11 = .ok (.invokestatic 373, 3) := by decide +kernel
theorem dX8_quartersBetween_14 : decode cX8_quartersBetween 14 = .ok (.ireturn, 1) := by decide +kernel
