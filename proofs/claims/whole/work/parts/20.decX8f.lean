theorem dX8_setRed_0 : decode cX8_setRed 0 = .ok (.aload_n 0, 1) := by decide +kernel
theorem dX8_setRed_1 : decode cX8_setRed 1 = .ok (.iload_n 1, 1) := by decide +kernel
theorem dX8_setRed_2 : decode cX8_setRed 2 = .ok (.invokevirtual 188, 3) := by decide +kernel
theorem dX8_setRed_5 : decode cX8_setRed 5 = .ok (.aload_n 0, 1) := by decide +kernel
theorem dX8_setRed_6 : decode cX8_setRed 6 = .ok (.getfield 19, 3) := by decide +kernel
theorem dX8_setRed_9 : decode cX8_setRed 9 = .ok (.aload_n 0, 1) := by decide +kernel
theorem dX8_setRed_10 : decode cX8_setRed 10 = .ok (.getfield 10, 3) := by decide +kernel
theorem dX8_setRed_13 : decode cX8_setRed 13 = .ok (.invokevirtual 286, 3) := by decide +kernel
theorem dX8_setRed_16 : decode cX8_setRed 16 = .ok (.aload_n 0, 1) := by decide +kernel
theorem dX8_setRed_17 : decode cX8_setRed 17 = .ok (.getfield 10, 3) := by decide +kernel
theorem dX8_setRed_20 : decode cX8_setRed 20 = .ok (.getfield 97, 3) := by decide +kernel
theorem dX8_setRed_23 : decode cX8_setRed 23 = .ok (.iload_n 1, 1) := by decide +kernel
theorem dX8_setRed_24 : decode cX8_setRed 24 = .ok (.invokevirtual 194, 3) := by decide +kernel
theorem dX8_setRed_27 : decode cX8_setRed 27 = .ok (.istore_n 3, 1) := by decide +kernel
theorem dX8_setRed_28 : decode cX8_setRed 28 = .ok (.iload_n 2, 1) := by decide +kernel
theorem dX8_setRed_29 : decode cX8_setRed 29 = .ok (.ifCond .eq 18, 3) := by decide +kernel
theorem dX8_setRed_32 : decode cX8_setRed 32 = .ok (.aload_n 0, 1) := by decide +kernel
theorem dX8_setRed_33 : decode cX8_setRed 33 = .ok (.getfield 10, 3) := by decide +kernel
theorem dX8_setRed_36 : decode cX8_setRed 36 = .ok (.aload_n 0, 1) := by decide +kernel
theorem dX8_setRed_37 : decode cX8_setRed 37 = .ok (.getfield 10, 3) := by decide +kernel
theorem dX8_setRed_40 : decode cX8_setRed 40 = .ok (.iload_n 1, 1) := by decide +kernel
theorem dX8_setRed_41 : decode cX8_setRed 41 = .ok (.invokevirtual 234, 3) := by decide +kernel
theorem dX8_setRed_44 : decode cX8_setRed 44 = .ok (.invokevirtual 295, 3) := by decide +kernel
theorem dX8_setRed_47 : decode cX8_setRed 47 = .ok (.aload_n 0, 1) := by decide +kernel
theorem dX8_setRed_48 : decode cX8_setRed 48 = .ok (.getfield 10, 3) := by decide +kernel
theorem dX8_setRed_51 : decode cX8_setRed 51 = .ok (.getfield 97, 3) := by decide +kernel
theorem dX8_setRed_54 : decode cX8_setRed 54 = .ok (.aload_n 0, 1) := by decide +kernel
theorem dX8_setRed_55 : decode cX8_setRed 55 = .ok (.getfield 10, 3) := by decide +kernel
theorem dX8_setRed_58 : decode cX8_setRed 58 = .ok (.getfield 97, 3) := by decide +kernel
theorem dX8_setRed_61 : decode cX8_setRed 61 = .ok (.iload_n 1, 1) := by decide +kernel
theorem dX8_setRed_62 : decode cX8_setRed 62 = .ok (.iload_n 2, 1) := by decide +kernel
theorem dX8_setRed_63 : decode cX8_setRed 63 = .ok (.invokevirtual 265, 3) := by decide +kernel
theorem dX8_setRed_66 : decode cX8_setRed 66 = .ok (.putfield 134, 3) := by decide +kernel
theorem dX8_setRed_69 : decode cX8_setRed 69 = .ok (.iload_n 3, 1) := by decide +kernel
theorem dX8_setRed_70 : decode cX8_setRed 70 = .ok (.ireturn, 1) := by decide +kernel
set_option maxRecDepth 20000 in
theorem ggX8_addRiver_X8_needCell : GoodIn wsX8_addRiver wsX8_needCell := goodIn_ca (goodIn_r _ [8, 9, 10, 1, 11, 12, 13, 14, 15, 16, 17, 192, 193, 194, 195, 196, 197, 198, 199, 200, 201, 202, 203, 204, 205, 206, 207, 208, 209, 210, 211, 212] (by decide +kernel) (by decide +kernel)) (goodIn_sub (fun _ h => List.mem_cons_of_mem _ (List.mem_append_right _ h)) (by decide +kernel))
set_option maxRecDepth 20000 in
theorem gX8_addRiver_X8_needCell : GoodIn wsX8_addRiver (wsV RX8 161 RX8 yX8_needCell wsX8_needCell) := goodIn_app (goodIn_of _ (by decide +kernel)) ggX8_addRiver_X8_needCell
set_option maxRecDepth 20000 in
theorem ggX8_addRiver_X8_wayFrom : GoodIn wsX8_addRiver wsX8_wayFrom := goodIn_r _ [21, 3, 1, 22, 23, 24, 25, 26, 27, 28, 29, 30, 31, 32, 33, 12, 13, 14, 15, 16, 17, 34, 35, 36, 37, 38, 39, 40, 41, 42, 43, 44, 45, 46, 47, 48, 49, 50, 51, 52, 53, 54, 55, 56, 57, 58, 59, 60, 61, 62, 63, 64, 65, 66, 67, 68, 69, 70, 71, 72, 73, 74, 75, 76, 77, 78, 79, 80, 81, 82, 83, 84, 85, 86, 87, 88, 89, 90, 91, 192, 193, 194, 195, 196, 197, 198, 199, 200, 201, 202, 203, 204, 205, 206, 213, 214, 215, 216, 207, 208, 209, 210, 211, 212, 217, 218, 219, 220, 221, 222] (by decide +kernel) (by decide +kernel)
set_option maxRecDepth 20000 in
theorem gX8_addRiver_X8_wayFrom : GoodIn wsX8_addRiver (wsV RX8 269 RX8 yX8_wayFrom wsX8_wayFrom) := goodIn_app (goodIn_of _ (by decide +kernel)) ggX8_addRiver_X8_wayFrom
set_option maxRecDepth 20000 in
theorem ggX8_addRiver_X3_keep : GoodIn wsX8_addRiver wsX3_keep := goodIn_r _ [96, 97, 98, 99, 100, 37, 101, 102, 28, 29, 30, 103, 104, 105, 106, 107, 108, 109, 14, 39, 110, 111, 54, 40, 112, 113, 114, 115, 116, 62, 117, 118, 119, 120, 121, 45, 50, 122, 123, 124, 125, 57, 126, 127, 128, 129, 130, 131, 132, 133, 134, 135, 136, 137, 138, 139, 140, 16, 17, 141, 142, 143, 144, 145, 56, 146, 147, 148, 149, 150, 151, 152, 153, 154, 223, 224, 225, 202, 203, 204, 205, 206, 207, 208, 209, 210, 211, 212, 217, 218, 219, 220, 221, 222, 226, 227, 228, 229, 230] (by decide +kernel) (by decide +kernel)
set_option maxRecDepth 20000 in
theorem gX8_addRiver_X3_keep : GoodIn wsX8_addRiver (wsV RX8 286 RX3 yX3_keep wsX3_keep) := goodIn_app (goodIn_of _ (by decide +kernel)) ggX8_addRiver_X3_keep
set_option maxRecDepth 20000 in
theorem ggX8_addRiver_X7_namesOnWay : GoodIn wsX8_addRiver wsX7_namesOnWay := goodIn_r _ [158, 86, 159, 160, 161, 25, 162, 87, 58, 59, 60, 37, 61, 62, 213, 214, 215, 216, 202, 203, 204, 205, 206] (by decide +kernel) (by decide +kernel)
set_option maxRecDepth 20000 in
theorem gX8_addRiver_X7_namesOnWay : GoodIn wsX8_addRiver (wsV RX8 275 RX7 yX7_namesOnWay wsX7_namesOnWay) := goodIn_app (goodIn_of _ (by decide +kernel)) ggX8_addRiver_X7_namesOnWay
set_option maxRecDepth 20000 in
theorem ggX8_addRiver_X6_takeNames : GoodIn wsX8_addRiver wsX6_takeNames := goodIn_r _ [166, 40, 167, 168, 169, 37, 170, 39, 62, 171, 172, 173, 54, 174, 56, 57, 175, 176, 177, 178, 126, 179, 180, 181, 182, 127, 183, 68, 69, 14, 70, 16, 17, 184, 185, 186, 187, 202, 203, 204, 205, 206, 217, 218, 219, 220, 221, 222, 207, 208, 209, 210, 211, 212] (by decide +kernel) (by decide +kernel)
set_option maxRecDepth 20000 in
theorem gX8_addRiver_X6_takeNames : GoodIn wsX8_addRiver (wsV RX8 295 RX6 yX6_takeNames wsX6_takeNames) := goodIn_app (goodIn_of _ (by decide +kernel)) ggX8_addRiver_X6_takeNames
set_option maxRecDepth 20000 in
theorem ggX8_addRiver_X1_layRiver : GoodIn wsX8_addRiver wsX1_layRiver := goodIn_r _ [191, 50, 141, 122, 207, 208, 209, 210, 211, 212] (by decide +kernel) (by decide +kernel)
set_option maxRecDepth 20000 in
theorem gX8_addRiver_X1_layRiver : GoodIn wsX8_addRiver (wsV RX8 302 RX1 yX1_layRiver wsX1_layRiver) := goodIn_app (goodIn_of _ (by decide +kernel)) ggX8_addRiver_X1_layRiver
theorem dX8_addRiver_0 : decode cX8_addRiver 0 = .ok (.aload_n 0, 1) := by decide +kernel
theorem dX8_addRiver_1 : decode cX8_addRiver 1 = .ok (.iload_n 1, 1) := by decide +kernel
theorem dX8_addRiver_2 : decode cX8_addRiver 2 = .ok (.invokevirtual 161, 3) := by decide +kernel
theorem dX8_addRiver_5 : decode cX8_addRiver 5 = .ok (.aload_n 0, 1) := by decide +kernel
theorem dX8_addRiver_6 : decode cX8_addRiver 6 = .ok (.getfield 10, 3) := by decide +kernel
theorem dX8_addRiver_9 : decode cX8_addRiver 9 = .ok (.getfield 106, 3) := by decide +kernel
theorem dX8_addRiver_12 : decode cX8_addRiver 12 = .ok (.getfield 122, 3) := by decide +kernel
theorem dX8_addRiver_15 : decode cX8_addRiver 15 = .ok (.bipush 8, 2) := by decide +kernel
theorem dX8_addRiver_17 : decode cX8_addRiver 17 = .ok (.if_icmp .lt 6, 3) := by decide +kernel
theorem dX8_addRiver_20 : decode cX8_addRiver 20 = .ok (.bipush (-2), 2) := by decide +kernel
theorem dX8_addRiver_22 : decode cX8_addRiver 22 = .ok (.ireturn, 1) := by decide +kernel
theorem dX8_addRiver_23 : decode cX8_addRiver 23 = .ok (.aload_n 0, 1) := by decide +kernel
theorem dX8_addRiver_24 : decode cX8_addRiver 24 = .ok (.iload_n 1, 1) := by decide +kernel
theorem dX8_addRiver_25 : decode cX8_addRiver 25 = .ok (.invokevirtual 269, 3) := by decide +kernel
theorem dX8_addRiver_28 : decode cX8_addRiver 28 = .ok (.ifCond .ne 6, 3) := by decide +kernel
theorem dX8_addRiver_31 : decode cX8_addRiver 31 = .ok (.bipush (-3), 2) := by decide +kernel
theorem dX8_addRiver_33 : decode cX8_addRiver 33 = .ok (.ireturn, 1) := by decide +kernel
theorem dX8_addRiver_34 : decode cX8_addRiver 34 = .ok (.aload_n 0, 1) := by decide +kernel
theorem dX8_addRiver_35 : decode cX8_addRiver 35 = .ok (.getfield 19, 3) := by decide +kernel
theorem dX8_addRiver_38 : decode cX8_addRiver 38 = .ok (.aload_n 0, 1) := by decide +kernel
theorem dX8_addRiver_39 : decode cX8_addRiver 39 = .ok (.getfield 10, 3) := by decide +kernel
theorem dX8_addRiver_42 : decode cX8_addRiver 42 = .ok (.invokevirtual 286, 3) := by decide +kernel
theorem dX8_addRiver_45 : decode cX8_addRiver 45 = .ok (.aload_n 0, 1) := by decide +kernel
theorem dX8_addRiver_46 : decode cX8_addRiver 46 = .ok (.getfield 10, 3) := by decide +kernel
theorem dX8_addRiver_49 : decode cX8_addRiver 49 = .ok (.aload_n 0, 1) := by decide +kernel
theorem dX8_addRiver_50 : decode cX8_addRiver 50 = .ok (.getfield 26, 3) := by decide +kernel
theorem dX8_addRiver_53 : decode cX8_addRiver 53 = .ok (.aload_n 0, 1) := by decide +kernel
theorem dX8_addRiver_54 : decode cX8_addRiver 54 = .ok (.getfield 10, 3) := by decide +kernel
theorem dX8_addRiver_57 : decode cX8_addRiver 57 = .ok (.invokevirtual 275, 3) := by decide +kernel
theorem dX8_addRiver_60 : decode cX8_addRiver 60 = .ok (.invokevirtual 295, 3) := by decide +kernel
theorem dX8_addRiver_63 : decode cX8_addRiver 63 = .ok (.aload_n 0, 1) := by decide +kernel
theorem dX8_addRiver_64 : decode cX8_addRiver 64 = .ok (.getfield 10, 3) := by decide +kernel
theorem dX8_addRiver_67 : decode cX8_addRiver 67 = .ok (.getfield 106, 3) := by decide +kernel
theorem dX8_addRiver_70 : decode cX8_addRiver 70 = .ok (.aload_n 0, 1) := by decide +kernel
theorem dX8_addRiver_71 : decode cX8_addRiver 71 = .ok (.getfield 26, 3) := by decide +kernel
theorem dX8_addRiver_74 : decode cX8_addRiver 74 = .ok (.getfield 298, 3) := by decide +kernel
theorem dX8_addRiver_77 : decode cX8_addRiver 77 = .ok (.aload_n 0, 1) := by decide +kernel
theorem dX8_addRiver_78 : decode cX8_addRiver 78 = .ok (.getfield 26, 3) := by decide +kernel
theorem dX8_addRiver_81 : decode cX8_addRiver 81 = .ok (.getfield 301, 3) := by decide +kernel
theorem dX8_addRiver_84 : decode cX8_addRiver 84 = .ok (.invokevirtual 302, 3) := by decide +kernel
theorem dX8_addRiver_87 : decode cX8_addRiver 87 = .ok (.aload_n 0, 1) := by decide +kernel
theorem dX8_addRiver_88 : decode cX8_addRiver 88 = .ok (.getfield 10, 3) := by decide +kernel
theorem dX8_addRiver_91 : decode cX8_addRiver 91 = .ok (.getfield 106, 3) := by decide +kernel
theorem dX8_addRiver_94 : decode cX8_addRiver 94 = .ok (.getfield 122, 3) := by decide +kernel
theorem dX8_addRiver_97 : decode cX8_addRiver 97 = .ok (.iconst 1, 1) := by decide +kernel
theorem dX8_addRiver_98 : decode cX8_addRiver 98 = .ok (.isub, 1) := by decide +kernel
theorem dX8_addRiver_99 : decode cX8_addRiver 99 = .ok (.ireturn, 1) := by decide +kernel
set_option maxRecDepth 20000 in
theorem ggX8_dropRiver_X8_needRiver : GoodIn wsX8_dropRiver wsX8_needRiver := goodIn_ca (goodIn_r _ [7, 8, 9, 2, 92, 93, 94, 95, 96, 97, 98, 99, 100, 101, 102, 103, 104, 105, 106, 107, 108, 109, 110, 111, 112] (by decide +kernel) (by decide +kernel)) (goodIn_sub (fun _ h => List.mem_cons_of_mem _ (List.mem_append_right _ h)) (by decide +kernel))
set_option maxRecDepth 20000 in
theorem gX8_dropRiver_X8_needRiver : GoodIn wsX8_dropRiver (wsV RX8 212 RX8 yX8_needRiver wsX8_needRiver) := goodIn_app (goodIn_of _ (by decide +kernel)) ggX8_dropRiver_X8_needRiver
set_option maxRecDepth 20000 in
theorem ggX8_dropRiver_X3_keep : GoodIn wsX8_dropRiver wsX3_keep := goodIn_r _ [14, 15, 16, 17, 18, 19, 20, 21, 22, 23, 24, 25, 26, 27, 28, 29, 30, 31, 32, 33, 34, 35, 36, 37, 38, 39, 40, 41, 42, 43, 44, 45, 46, 47, 48, 49, 50, 51, 52, 53, 54, 55, 56, 57, 58, 59, 60, 61, 62, 63, 64, 65, 66, 67, 68, 69, 70, 71, 72, 73, 74, 75, 76, 77, 78, 79, 80, 81, 82, 83, 84, 85, 86, 87, 113, 114, 115, 102, 103, 104, 105, 106, 107, 108, 109, 110, 111, 112, 116, 117, 118, 119, 120, 121, 122, 123, 124, 125, 126] (by decide +kernel) (by decide +kernel)
set_option maxRecDepth 20000 in
theorem gX8_dropRiver_X3_keep : GoodIn wsX8_dropRiver (wsV RX8 286 RX3 yX3_keep wsX3_keep) := goodIn_app (goodIn_of _ (by decide +kernel)) ggX8_dropRiver_X3_keep
set_option maxRecDepth 20000 in
theorem ggX8_dropRiver_X1_dryRiver : GoodIn wsX8_dropRiver wsX1_dryRiver := goodIn_r _ [91, 50, 51, 73, 107, 108, 109, 110, 111, 112] (by decide +kernel) (by decide +kernel)
set_option maxRecDepth 20000 in
theorem gX8_dropRiver_X1_dryRiver : GoodIn wsX8_dropRiver (wsV RX8 306 RX1 yX1_dryRiver wsX1_dryRiver) := goodIn_app (goodIn_of _ (by decide +kernel)) ggX8_dropRiver_X1_dryRiver
theorem dX8_dropRiver_0 : decode cX8_dropRiver 0 = .ok (.aload_n 0, 1) := by decide +kernel
theorem dX8_dropRiver_1 : decode cX8_dropRiver 1 = .ok (.iload_n 1, 1) := by decide +kernel
theorem dX8_dropRiver_2 : decode cX8_dropRiver 2 = .ok (.invokevirtual 212, 3) := by decide +kernel
theorem dX8_dropRiver_5 : decode cX8_dropRiver 5 = .ok (.aload_n 0, 1) := by decide +kernel
theorem dX8_dropRiver_6 : decode cX8_dropRiver 6 = .ok (.getfield 19, 3) := by decide +kernel
theorem dX8_dropRiver_9 : decode cX8_dropRiver 9 = .ok (.aload_n 0, 1) := by decide +kernel
theorem dX8_dropRiver_10 : decode cX8_dropRiver 10 = .ok (.getfield 10, 3) := by decide +kernel
theorem dX8_dropRiver_13 : decode cX8_dropRiver 13 = .ok (.invokevirtual 286, 3) := by decide +kernel
theorem dX8_dropRiver_16 : decode cX8_dropRiver 16 = .ok (.aload_n 0, 1) := by decide +kernel
theorem dX8_dropRiver_17 : decode cX8_dropRiver 17 = .ok (.getfield 10, 3) := by decide +kernel
theorem dX8_dropRiver_20 : decode cX8_dropRiver 20 = .ok (.getfield 106, 3) := by decide +kernel
theorem dX8_dropRiver_23 : decode cX8_dropRiver 23 = .ok (.iload_n 1, 1) := by decide +kernel
theorem dX8_dropRiver_24 : decode cX8_dropRiver 24 = .ok (.invokevirtual 306, 3) := by decide +kernel
theorem dX8_dropRiver_27 : decode cX8_dropRiver 27 = .ok (.ireturn, 1) := by decide +kernel
set_option maxRecDepth 20000 in
theorem ggX8_erode_X8_needCell : GoodIn wsX8_erode wsX8_needCell := goodIn_ca (goodIn_r _ [7, 8, 9, 1, 10, 11, 12, 13, 14, 15, 16, 151, 152, 153, 154, 155, 156, 157, 158, 159, 160, 161, 162, 163, 164, 165, 166, 167, 168, 169, 170, 171] (by decide +kernel) (by decide +kernel)) (goodIn_sub (fun _ h => List.mem_cons_of_mem _ (List.mem_append_right _ h)) (by decide +kernel))
set_option maxRecDepth 20000 in
theorem gX8_erode_X8_needCell : GoodIn wsX8_erode (wsV RX8 161 RX8 yX8_needCell wsX8_needCell) := goodIn_app (goodIn_of _ (by decide +kernel)) ggX8_erode_X8_needCell
set_option maxRecDepth 20000 in
theorem ggX8_erode_X6_isOpen : GoodIn wsX8_erode wsX6_isOpen := goodIn_r _ [21, 22, 23, 24, 25, 26, 13, 27, 28, 29, 30, 31, 32, 33, 34, 35, 36, 37, 38, 39, 40, 161, 162, 163, 164, 165, 166, 167, 168, 169, 170, 171, 172, 173, 174, 175, 176, 177] (by decide +kernel) (by decide +kernel)
set_option maxRecDepth 20000 in
theorem gX8_erode_X6_isOpen : GoodIn wsX8_erode (wsV RX8 231 RX6 yX6_isOpen wsX6_isOpen) := goodIn_app (goodIn_of _ (by decide +kernel)) ggX8_erode_X6_isOpen
set_option maxRecDepth 20000 in
theorem ggX8_erode_X3_keep : GoodIn wsX8_erode wsX3_keep := goodIn_r _ [45, 46, 47, 48, 49, 20, 50, 51, 52, 53, 54, 55, 56, 57, 58, 59, 60, 61, 13, 22, 62, 63, 37, 23, 64, 65, 66, 67, 68, 69, 70, 71, 72, 73, 74, 28, 33, 75, 76, 77, 78, 40, 79, 80, 81, 82, 83, 84, 85, 86, 87, 88, 89, 90, 91, 92, 93, 15, 16, 94, 95, 96, 97, 98, 39, 99, 100, 101, 102, 103, 104, 105, 106, 107, 178, 179, 180, 161, 162, 163, 164, 165, 166, 167, 168, 169, 170, 171, 172, 173, 174, 175, 176, 177, 181, 182, 183, 184, 185] (by decide +kernel) (by decide +kernel)
set_option maxRecDepth 20000 in
theorem gX8_erode_X3_keep : GoodIn wsX8_erode (wsV RX8 286 RX3 yX3_keep wsX3_keep) := goodIn_app (goodIn_of _ (by decide +kernel)) ggX8_erode_X3_keep
set_option maxRecDepth 20000 in
theorem ggX8_erode_X6_namesIn : GoodIn wsX8_erode wsX6_namesIn := goodIn_r _ [111, 69, 161, 162, 163, 164, 165] (by decide +kernel) (by decide +kernel)
set_option maxRecDepth 20000 in
theorem gX8_erode_X6_namesIn : GoodIn wsX8_erode (wsV RX8 180 RX6 yX6_namesIn wsX6_namesIn) := goodIn_app (goodIn_of _ (by decide +kernel)) ggX8_erode_X6_namesIn
set_option maxRecDepth 20000 in
theorem ggX8_erode_X6_takeNames : GoodIn wsX8_erode wsX6_takeNames := goodIn_r _ [115, 23, 116, 117, 118, 20, 119, 22, 69, 120, 121, 122, 37, 123, 39, 40, 124, 125, 126, 127, 79, 128, 129, 130, 131, 80, 132, 133, 134, 13, 135, 15, 16, 136, 137, 138, 139, 161, 162, 163, 164, 165, 172, 173, 174, 175, 176, 177, 166, 167, 168, 169, 170, 171] (by decide +kernel) (by decide +kernel)
set_option maxRecDepth 20000 in
theorem gX8_erode_X6_takeNames : GoodIn wsX8_erode (wsV RX8 295 RX6 yX6_takeNames wsX6_takeNames) := goodIn_app (goodIn_of _ (by decide +kernel)) ggX8_erode_X6_takeNames
set_option maxRecDepth 20000 in
theorem ggX8_erode_X1_setLand : GoodIn wsX8_erode wsX1_setLand := goodIn_r _ [143, 28, 166, 167, 168, 169, 170, 171] (by decide +kernel) (by decide +kernel)
set_option maxRecDepth 20000 in
theorem gX8_erode_X1_setLand : GoodIn wsX8_erode (wsV RX8 309 RX1 yX1_setLand wsX1_setLand) := goodIn_app (goodIn_of _ (by decide +kernel)) ggX8_erode_X1_setLand
set_option maxRecDepth 20000 in
theorem ggX8_erode_J6_bitCount_0f7a4 : GoodIn wsX8_erode wsJ6_bitCount_0f7a4 := goodIn_r _ [147, 148, 149, 150] (by decide +kernel) (by decide +kernel)
set_option maxRecDepth 20000 in
theorem gX8_erode_J6_bitCount_0f7a4 : GoodIn wsX8_erode (va_wsS RX8 128 yJ6_bitCount_0f7a4 wsJ6_bitCount_0f7a4) := goodIn_app (goodIn_of _ (by decide +kernel)) ggX8_erode_J6_bitCount_0f7a4
theorem dX8_erode_0 : decode cX8_erode 0 = .ok (.aload_n 0, 1) := by decide +kernel
theorem dX8_erode_1 : decode cX8_erode 1 = .ok (.iload_n 1, 1) := by decide +kernel
theorem dX8_erode_2 : decode cX8_erode 2 = .ok (.invokevirtual 161, 3) := by decide +kernel
theorem dX8_erode_5 : decode cX8_erode 5 = .ok (.aload_n 0, 1) := by decide +kernel
theorem dX8_erode_6 : decode cX8_erode 6 = .ok (.getfield 10, 3) := by decide +kernel
theorem dX8_erode_9 : decode cX8_erode 9 = .ok (.iload_n 1, 1) := by decide +kernel
theorem dX8_erode_10 : decode cX8_erode 10 = .ok (.invokevirtual 231, 3) := by decide +kernel
theorem dX8_erode_13 : decode cX8_erode 13 = .ok (.ifCond .ne 6, 3) := by decide +kernel
theorem dX8_erode_16 : decode cX8_erode 16 = .ok (.bipush (-3), 2) := by decide +kernel
theorem dX8_erode_18 : decode cX8_erode 18 = .ok (.ireturn, 1) := by decide +kernel
theorem dX8_erode_19 : decode cX8_erode 19 = .ok (.aload_n 0, 1) := by decide +kernel
theorem dX8_erode_20 : decode cX8_erode 20 = .ok (.getfield 19, 3) := by decide +kernel
theorem dX8_erode_23 : decode cX8_erode 23 = .ok (.aload_n 0, 1) := by decide +kernel
theorem dX8_erode_24 : decode cX8_erode 24 = .ok (.getfield 10, 3) := by decide +kernel
theorem dX8_erode_27 : decode cX8_erode 27 = .ok (.invokevirtual 286, 3) := by decide +kernel
theorem dX8_erode_30 : decode cX8_erode 30 = .ok (.aload_n 0, 1) := by decide +kernel
theorem dX8_erode_31 : decode cX8_erode 31 = .ok (.getfield 10, 3) := by decide +kernel
theorem dX8_erode_34 : decode cX8_erode 34 = .ok (.iload_n 1, 1) := by decide +kernel
theorem dX8_erode_35 : decode cX8_erode 35 = .ok (.invokevirtual 180, 3) := by decide +kernel
theorem dX8_erode_38 : decode cX8_erode 38 = .ok (.istore_n 2, 1) := by decide +kernel
theorem dX8_erode_39 : decode cX8_erode 39 = .ok (.aload_n 0, 1) := by decide +kernel
theorem dX8_erode_40 : decode cX8_erode 40 = .ok (.getfield 10, 3) := by decide +kernel
theorem dX8_erode_43 : decode cX8_erode 43 = .ok (.iload_n 2, 1) := by decide +kernel
theorem dX8_erode_44 : decode cX8_erode 44 = .ok (.invokevirtual 295, 3) := by decide +kernel
theorem dX8_erode_47 : decode cX8_erode 47 = .ok (.aload_n 0, 1) := by decide +kernel
theorem dX8_erode_48 : decode cX8_erode 48 = .ok (.getfield 10, 3) := by decide +kernel
theorem dX8_erode_51 : decode cX8_erode 51 = .ok (.getfield 106, 3) := by decide +kernel
theorem dX8_erode_54 : decode cX8_erode 54 = .ok (.iload_n 1, 1) := by decide +kernel
theorem dX8_erode_55 : decode cX8_erode 55 = .ok (.iconst 0, 1) := by decide +kernel
theorem dX8_erode_56 : decode cX8_erode 56 = .ok (.invokevirtual 309, 3) := by decide +kernel
theorem dX8_erode_59 : decode cX8_erode 59 = .ok (.iload_n 2, 1) := by decide +kernel
theorem dX8_erode_60 : decode cX8_erode 60 = .ok (.invokestatic 128, 3) := by decide +kernel
theorem dX8_erode_63 : decode cX8_erode 63 = .ok (.ireturn, 1) := by decide +kernel
set_option maxRecDepth 20000 in
theorem ggX8_raise_X8_needCell : GoodIn wsX8_raise wsX8_needCell := goodIn_ca (goodIn_r _ [7, 8, 9, 1, 10, 11, 12, 13, 14, 15, 16, 149, 150, 151, 152, 153, 154, 155, 156, 157, 158, 159, 160, 161, 162, 163, 164, 165, 166, 167, 168, 169] (by decide +kernel) (by decide +kernel)) (goodIn_sub (fun _ h => List.mem_cons_of_mem _ (List.mem_append_right _ h)) (by decide +kernel))
set_option maxRecDepth 20000 in
theorem gX8_raise_X8_needCell : GoodIn wsX8_raise (wsV RX8 161 RX8 yX8_needCell wsX8_needCell) := goodIn_app (goodIn_of _ (by decide +kernel)) ggX8_raise_X8_needCell
set_option maxRecDepth 20000 in
theorem ggX8_raise_X1_isLand : GoodIn wsX8_raise wsX1_isLand := goodIn_r _ [20, 21, 164, 165, 166, 167, 168, 169] (by decide +kernel) (by decide +kernel)
set_option maxRecDepth 20000 in
theorem gX8_raise_X1_isLand : GoodIn wsX8_raise (wsV RX8 168 RX1 yX1_isLand wsX1_isLand) := goodIn_app (goodIn_of _ (by decide +kernel)) ggX8_raise_X1_isLand
set_option maxRecDepth 20000 in
theorem ggX8_raise_X6_shutsHarbour : GoodIn wsX8_raise wsX6_shutsHarbour := goodIn_r _ [26, 27, 28, 29, 30, 31, 32, 33, 34, 35, 36, 37, 38, 13, 39, 40, 41, 42, 43, 15, 16, 44, 18, 19, 20, 21, 159, 160, 161, 162, 163, 170, 171, 172, 173, 174, 175, 164, 165, 166, 167, 168, 169] (by decide +kernel) (by decide +kernel)
set_option maxRecDepth 20000 in
theorem gX8_raise_X6_shutsHarbour : GoodIn wsX8_raise (wsV RX8 313 RX6 yX6_shutsHarbour wsX6_shutsHarbour) := goodIn_app (goodIn_of _ (by decide +kernel)) ggX8_raise_X6_shutsHarbour
set_option maxRecDepth 20000 in
theorem ggX8_raise_X3_keep : GoodIn wsX8_raise wsX3_keep := goodIn_r _ [49, 50, 51, 52, 53, 25, 54, 55, 56, 57, 58, 59, 60, 61, 62, 63, 64, 65, 13, 28, 66, 67, 32, 27, 68, 69, 70, 71, 72, 73, 74, 75, 76, 77, 78, 21, 79, 80, 81, 82, 83, 35, 84, 85, 86, 87, 88, 89, 90, 91, 92, 93, 94, 95, 96, 97, 98, 15, 16, 99, 100, 101, 102, 103, 34, 104, 105, 106, 107, 108, 109, 110, 111, 112, 176, 177, 178, 159, 160, 161, 162, 163, 164, 165, 166, 167, 168, 169, 170, 171, 172, 173, 174, 175, 179, 180, 181, 182, 183] (by decide +kernel) (by decide +kernel)
set_option maxRecDepth 20000 in
theorem gX8_raise_X3_keep : GoodIn wsX8_raise (wsV RX8 286 RX3 yX3_keep wsX3_keep) := goodIn_app (goodIn_of _ (by decide +kernel)) ggX8_raise_X3_keep
set_option maxRecDepth 20000 in
theorem ggX8_raise_X6_namesWithBackTo : GoodIn wsX8_raise wsX6_namesWithBackTo := goodIn_r _ [116, 27, 28, 117, 118, 119, 32, 120, 34, 84, 29, 30, 31, 33, 35, 121, 41, 42, 13, 43, 15, 16, 159, 160, 161, 162, 163, 170, 171, 172, 173, 174, 175, 164, 165, 166, 167, 168, 169] (by decide +kernel) (by decide +kernel)
set_option maxRecDepth 20000 in
theorem gX8_raise_X6_namesWithBackTo : GoodIn wsX8_raise (wsV RX8 316 RX6 yX6_namesWithBackTo wsX6_namesWithBackTo) := goodIn_app (goodIn_of _ (by decide +kernel)) ggX8_raise_X6_namesWithBackTo
set_option maxRecDepth 20000 in
theorem ggX8_raise_X6_takeNames : GoodIn wsX8_raise wsX6_takeNames := goodIn_r _ [125, 27, 126, 127, 128, 25, 129, 28, 73, 29, 30, 31, 32, 33, 34, 35, 117, 118, 119, 120, 84, 130, 131, 132, 133, 85, 121, 41, 42, 13, 43, 15, 16, 134, 135, 136, 137, 159, 160, 161, 162, 163, 170, 171, 172, 173, 174, 175, 164, 165, 166, 167, 168, 169] (by decide +kernel) (by decide +kernel)
set_option maxRecDepth 20000 in
theorem gX8_raise_X6_takeNames : GoodIn wsX8_raise (wsV RX8 295 RX6 yX6_takeNames wsX6_takeNames) := goodIn_app (goodIn_of _ (by decide +kernel)) ggX8_raise_X6_takeNames
set_option maxRecDepth 20000 in
theorem ggX8_raise_X1_setLand : GoodIn wsX8_raise wsX1_setLand := goodIn_r _ [141, 21, 164, 165, 166, 167, 168, 169] (by decide +kernel) (by decide +kernel)
set_option maxRecDepth 20000 in
theorem gX8_raise_X1_setLand : GoodIn wsX8_raise (wsV RX8 309 RX1 yX1_setLand wsX1_setLand) := goodIn_app (goodIn_of _ (by decide +kernel)) ggX8_raise_X1_setLand
set_option maxRecDepth 20000 in
theorem ggX8_raise_J6_bitCount_0f7a4 : GoodIn wsX8_raise wsJ6_bitCount_0f7a4 := goodIn_r _ [145, 146, 147, 148] (by decide +kernel) (by decide +kernel)
set_option maxRecDepth 20000 in
theorem gX8_raise_J6_bitCount_0f7a4 : GoodIn wsX8_raise (va_wsS RX8 128 yJ6_bitCount_0f7a4 wsJ6_bitCount_0f7a4) := goodIn_app (goodIn_of _ (by decide +kernel)) ggX8_raise_J6_bitCount_0f7a4
theorem dX8_raise_0 : decode cX8_raise 0 = .ok (.aload_n 0, 1) := by decide +kernel
theorem dX8_raise_1 : decode cX8_raise 1 = .ok (.iload_n 1, 1) := by decide +kernel
theorem dX8_raise_2 : decode cX8_raise 2 = .ok (.invokevirtual 161, 3) := by decide +kernel
theorem dX8_raise_5 : decode cX8_raise 5 = .ok (.aload_n 0, 1) := by decide +kernel
theorem dX8_raise_6 : decode cX8_raise 6 = .ok (.getfield 10, 3) := by decide +kernel
theorem dX8_raise_9 : decode cX8_raise 9 = .ok (.getfield 106, 3) := by decide +kernel
theorem dX8_raise_12 : decode cX8_raise 12 = .ok (.iload_n 1, 1) := by decide +kernel
theorem dX8_raise_13 : decode cX8_raise 13 = .ok (.invokevirtual 168, 3) := by decide +kernel
theorem dX8_raise_16 : decode cX8_raise 16 = .ok (.ifCond .ne 14, 3) := by decide +kernel
theorem dX8_raise_19 : decode cX8_raise 19 = .ok (.aload_n 0, 1) := by decide +kernel
theorem dX8_raise_20 : decode cX8_raise 20 = .ok (.getfield 10, 3) := by decide +kernel
theorem dX8_raise_23 : decode cX8_raise 23 = .ok (.iload_n 1, 1) := by decide +kernel
theorem dX8_raise_24 : decode cX8_raise 24 = .ok (.invokevirtual 313, 3) := by decide +kernel
theorem dX8_raise_27 : decode cX8_raise 27 = .ok (.ifCond .eq 6, 3) := by decide +kernel
theorem dX8_raise_30 : decode cX8_raise 30 = .ok (.bipush (-3), 2) := by decide +kernel
theorem dX8_raise_32 : decode cX8_raise 32 = .ok (.ireturn, 1) := by decide +kernel
theorem dX8_raise_33 : decode cX8_raise 33 = .ok (.aload_n 0, 1) := by decide +kernel
theorem dX8_raise_34 : decode cX8_raise 34 = .ok (.getfield 19, 3) := by decide +kernel
theorem dX8_raise_37 : decode cX8_raise 37 = .ok (.aload_n 0, 1) := by decide +kernel
theorem dX8_raise_38 : decode cX8_raise 38 = .ok (.getfield 10, 3) := by decide +kernel
theorem dX8_raise_41 : decode cX8_raise 41 = .ok (.invokevirtual 286, 3) := by decide +kernel
theorem dX8_raise_44 : decode cX8_raise 44 = .ok (.aload_n 0, 1) := by decide +kernel
theorem dX8_raise_45 : decode cX8_raise 45 = .ok (.getfield 10, 3) := by decide +kernel
theorem dX8_raise_48 : decode cX8_raise 48 = .ok (.iload_n 1, 1) := by decide +kernel
theorem dX8_raise_49 : decode cX8_raise 49 = .ok (.invokevirtual 316, 3) := by decide +kernel
theorem dX8_raise_52 : decode cX8_raise 52 = .ok (.istore_n 2, 1) := by decide +kernel
theorem dX8_raise_53 : decode cX8_raise 53 = .ok (.aload_n 0, 1) := by decide +kernel
theorem dX8_raise_54 : decode cX8_raise 54 = .ok (.getfield 10, 3) := by decide +kernel
theorem dX8_raise_57 : decode cX8_raise 57 = .ok (.iload_n 2, 1) := by decide +kernel
theorem dX8_raise_58 : decode cX8_raise 58 = .ok (.invokevirtual 295, 3) := by decide +kernel
theorem dX8_raise_61 : decode cX8_raise 61 = .ok (.aload_n 0, 1) := by decide +kernel
theorem dX8_raise_62 : decode cX8_raise 62 = .ok (.getfield 10, 3) := by decide +kernel
theorem dX8_raise_65 : decode cX8_raise 65 = .ok (.getfield 106, 3) := by decide +kernel
theorem dX8_raise_68 : decode cX8_raise 68 = .ok (.iload_n 1, 1) := by decide +kernel
theorem dX8_raise_69 : decode cX8_raise 69 = .ok (.iconst 1, 1) := by decide +kernel
theorem dX8_raise_70 : decode cX8_raise 70 = .ok (.invokevirtual 309, 3) := by decide +kernel
theorem dX8_raise_73 : decode cX8_raise 73 = .ok (.iload_n 2, 1) := by decide +kernel
theorem dX8_raise_74 : decode cX8_raise 74 = .ok (.invokestatic 128, 3) := by decide +kernel
theorem dX8_raise_77 : decode cX8_raise 77 = .ok (.ireturn, 1) := by decide +kernel
set_option maxRecDepth 20000 in
theorem ggX8_sail_X8_needHarbour : GoodIn wsX8_sail wsX8_needHarbour := goodIn_ca (goodIn_r _ [7, 8, 9, 1, 92, 93, 94, 95, 96, 97, 98, 99, 100, 101, 102, 103, 104, 105, 106, 112, 113, 114, 115, 116, 117] (by decide +kernel) (by decide +kernel)) (goodIn_sub (fun _ h => List.mem_cons_of_mem _ (List.mem_append_right _ h)) (by decide +kernel))
set_option maxRecDepth 20000 in
theorem gX8_sail_X8_needHarbour : GoodIn wsX8_sail (wsV RX8 188 RX8 yX8_needHarbour wsX8_needHarbour) := goodIn_app (goodIn_of _ (by decide +kernel)) ggX8_sail_X8_needHarbour
