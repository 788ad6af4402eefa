theorem dX8_mildest_0 : decode cX8_mildest 0 = .ok (.aload_n 0, 1) := by decide +kernel
theorem dX8_mildest_1 : decode cX8_mildest 1 = .ok (.getfield 26, 3) := by decide +kernel
theorem dX8_mildest_4 : decode cX8_mildest 4 = .ok (.aload_n 0, 1) := by decide +kernel
theorem dX8_mildest_5 : decode cX8_mildest 5 = .ok (.getfield 10, 3) := by decide +kernel
theorem dX8_mildest_8 : decode cX8_mildest 8 = .ok (.invokevirtual 279, 3) := by decide +kernel
theorem dX8_mildest_11 : decode cX8_mildest 11 = .ok (.aload_n 0, 1) := by decide +kernel
theorem dX8_mildest_12 : decode cX8_mildest 12 = .ok (.getfield 10, 3) := by decide +kernel
theorem dX8_mildest_15 : decode cX8_mildest 15 = .ok (.getfield 106, 3) := by decide +kernel
theorem dX8_mildest_18 : decode cX8_mildest 18 = .ok (.invokevirtual 237, 3) := by decide +kernel
theorem dX8_mildest_21 : decode cX8_mildest 21 = .ok (.istore_n 1, 1) := by decide +kernel
theorem dX8_mildest_22 : decode cX8_mildest 22 = .ok (.iconst (-1), 1) := by decide +kernel
theorem dX8_mildest_23 : decode cX8_mildest 23 = .ok (.istore_n 2, 1) := by decide +kernel
theorem dX8_mildest_24 : decode cX8_mildest 24 = .ok (.iconst 0, 1) := by decide +kernel
theorem dX8_mildest_25 : decode cX8_mildest 25 = .ok (.istore_n 3, 1) := by decide +kernel
theorem dX8_mildest_26 : decode cX8_mildest 26 = .ok (.iconst 0, 1) := by decide +kernel
theorem dX8_mildest_27 : decode cX8_mildest 27 = .ok (.istore 4, 2) := by decide +kernel
theorem dX8_mildest_29 : decode cX8_mildest 29 = .ok (.iconst 0, 1) := by decide +kernel
theorem dX8_mildest_30 : decode cX8_mildest 30 = .ok (.istore 5, 2) := by decide +kernel
theorem dX8_mildest_32 : decode cX8_mildest 32 = .ok (.iload 5, 2) := by decide +kernel
theorem dX8_mildest_34 : decode cX8_mildest 34 = .ok (.iload_n 1, 1) := by decide +kernel
theorem dX8_mildest_35 : decode cX8_mildest 35 = .ok (.if_icmp .ge 85, 3) := by decide +kernel
theorem dX8_mildest_38 : decode cX8_mildest 38 = .ok (.aload_n 0, 1) := by decide +kernel
theorem dX8_mildest_39 : decode cX8_mildest 39 = .ok (.getfield 26, 3) := by decide +kernel
theorem dX8_mildest_42 : decode cX8_mildest 42 = .ok (.aload_n 0, 1) := by decide +kernel
theorem dX8_mildest_43 : decode cX8_mildest 43 = .ok (.getfield 10, 3) := by decide +kernel
theorem dX8_mildest_46 : decode cX8_mildest 46 = .ok (.getfield 106, 3) := by decide +kernel
theorem dX8_mildest_49 : decode cX8_mildest 49 = .ok (.iload 5, 2) := by decide +kernel
theorem dX8_mildest_51 : decode cX8_mildest 51 = .ok (.invokevirtual 282, 3) := by decide +kernel
theorem dX8_mildest_54 : decode cX8_mildest 54 = .ok (.istore 6, 2) := by decide +kernel
theorem dX8_mildest_56 : decode cX8_mildest 56 = .ok (.iload 6, 2) := by decide +kernel
theorem dX8_mildest_58 : decode cX8_mildest 58 = .ok (.ifCond .ne 6, 3) := by decide +kernel
theorem dX8_mildest_61 : decode cX8_mildest 61 = .ok (.goto 53, 3) := by decide +kernel
theorem dX8_mildest_64 : decode cX8_mildest 64 = .ok (.aload_n 0, 1) := by decide +kernel
theorem dX8_mildest_65 : decode cX8_mildest 65 = .ok (.getfield 26, 3) := by decide +kernel
theorem dX8_mildest_68 : decode cX8_mildest 68 = .ok (.aload_n 0, 1) := by decide +kernel
theorem dX8_mildest_69 : decode cX8_mildest 69 = .ok (.getfield 10, 3) := by decide +kernel
theorem dX8_mildest_72 : decode cX8_mildest 72 = .ok (.invokevirtual 275, 3) := by decide +kernel
theorem dX8_mildest_75 : decode cX8_mildest 75 = .ok (.invokestatic 128, 3) := by decide +kernel
theorem dX8_mildest_78 : decode cX8_mildest 78 = .ok (.istore 7, 2) := by decide +kernel
theorem dX8_mildest_80 : decode cX8_mildest 80 = .ok (.iload_n 2, 1) := by decide +kernel
theorem dX8_mildest_81 : decode cX8_mildest 81 = .ok (.iconst (-1), 1) := by decide +kernel
theorem dX8_mildest_82 : decode cX8_mildest 82 = .ok (.if_icmp .eq 22, 3) := by decide +kernel
theorem dX8_mildest_85 : decode cX8_mildest 85 = .ok (.iload 7, 2) := by decide +kernel
theorem dX8_mildest_87 : decode cX8_mildest 87 = .ok (.iload_n 3, 1) := by decide +kernel
theorem dX8_mildest_88 : decode cX8_mildest 88 = .ok (.if_icmp .lt 16, 3) := by decide +kernel
theorem dX8_mildest_91 : decode cX8_mildest 91 = .ok (.iload 7, 2) := by decide +kernel
theorem dX8_mildest_93 : decode cX8_mildest 93 = .ok (.iload_n 3, 1) := by decide +kernel
theorem dX8_mildest_94 : decode cX8_mildest 94 = .ok (.if_icmp .ne 20, 3) := by decide +kernel
theorem dX8_mildest_97 : decode cX8_mildest 97 = .ok (.iload 6, 2) := by decide +kernel
theorem dX8_mildest_99 : decode cX8_mildest 99 = .ok (.iload 4, 2) := by decide +kernel
theorem dX8_mildest_101 : decode cX8_mildest 101 = .ok (.if_icmp .le 13, 3) := by decide +kernel
theorem dX8_mildest_104 : decode cX8_mildest 104 = .ok (.iload 5, 2) := by decide +kernel
theorem dX8_mildest_106 : decode cX8_mildest 106 = .ok (.istore_n 2, 1) := by decide +kernel
theorem dX8_mildest_107 : decode cX8_mildest 107 = .ok (.iload 7, 2) := by decide +kernel
theorem dX8_mildest_109 : decode cX8_mildest 109 = .ok (.istore_n 3, 1) := by decide +kernel
theorem dX8_mildest_110 : decode cX8_mildest 110 = .ok (.iload 6, 2) := by decide +kernel
theorem dX8_mildest_112 : decode cX8_mildest 112 = .ok (.istore 4, 2) := by decide +kernel
theorem dX8_mildest_114 : decode cX8_mildest 114 = .ok (.iinc 5 1, 3) := by decide +kernel
theorem dX8_mildest_117 : decode cX8_mildest 117 = .ok (.goto (-85), 3) := by decide +kernel
theorem dX8_mildest_120 : decode cX8_mildest 120 = .ok (.iload_n 2, 1) := by decide +kernel
theorem dX8_mildest_121 : decode cX8_mildest 121 = .ok (.ireturn, 1) := by decide +kernel
set_option maxRecDepth 20000 in
theorem ggX8_drowns_X8_needCell : GoodIn wsX8_drowns wsX8_needCell := goodIn_ca (goodIn_r _ [6, 7, 8, 1, 9, 10, 11, 12, 13, 14, 15, 22, 23, 24, 25, 26, 27, 28, 29, 30, 31, 32, 33, 34, 35, 36, 37, 38, 39, 40, 41, 42] (by decide +kernel) (by decide +kernel)) (goodIn_sub (fun _ h => List.mem_cons_of_mem _ (List.mem_append_right _ h)) (by decide +kernel))
set_option maxRecDepth 20000 in
theorem gX8_drowns_X8_needCell : GoodIn wsX8_drowns (wsV RX8 161 RX8 yX8_needCell wsX8_needCell) := goodIn_app (goodIn_of _ (by decide +kernel)) ggX8_drowns_X8_needCell
set_option maxRecDepth 20000 in
theorem ggX8_drowns_X6_namesIn : GoodIn wsX8_drowns wsX6_namesIn := goodIn_r _ [20, 21, 32, 33, 34, 35, 36] (by decide +kernel) (by decide +kernel)
set_option maxRecDepth 20000 in
theorem gX8_drowns_X6_namesIn : GoodIn wsX8_drowns (wsV RX8 180 RX6 yX6_namesIn wsX6_namesIn) := goodIn_app (goodIn_of _ (by decide +kernel)) ggX8_drowns_X6_namesIn
theorem dX8_drowns_0 : decode cX8_drowns 0 = .ok (.aload_n 0, 1) := by decide +kernel
theorem dX8_drowns_1 : decode cX8_drowns 1 = .ok (.iload_n 1, 1) := by decide +kernel
theorem dX8_drowns_2 : decode cX8_drowns 2 = .ok (.invokevirtual 161, 3) := by decide +kernel
theorem dX8_drowns_5 : decode cX8_drowns 5 = .ok (.aload_n 0, 1) := by decide +kernel
theorem dX8_drowns_6 : decode cX8_drowns 6 = .ok (.getfield 10, 3) := by decide +kernel
theorem dX8_drowns_9 : decode cX8_drowns 9 = .ok (.iload_n 1, 1) := by decide +kernel
theorem dX8_drowns_10 : decode cX8_drowns 10 = .ok (.invokevirtual 180, 3) := by decide +kernel
theorem dX8_drowns_13 : decode cX8_drowns 13 = .ok (.ireturn, 1) := by decide +kernel
set_option maxRecDepth 20000 in
theorem ggX8_place_X8_needHarbour : GoodIn wsX8_place wsX8_needHarbour := goodIn_ca (goodIn_r _ [7, 8, 9, 1, 163, 164, 165, 166, 167, 168, 169, 170, 171, 172, 173, 174, 175, 176, 177, 178, 179, 180, 181, 182, 183] (by decide +kernel) (by decide +kernel)) (goodIn_sub (fun _ h => List.mem_cons_of_mem _ (List.mem_append_left _ (List.mem_append_right _ h))) (by decide +kernel))
set_option maxRecDepth 20000 in
theorem gX8_place_X8_needHarbour : GoodIn wsX8_place (wsV RX8 188 RX8 yX8_needHarbour wsX8_needHarbour) := goodIn_app (goodIn_of _ (by decide +kernel)) ggX8_place_X8_needHarbour
set_option maxRecDepth 20000 in
theorem ggX8_place_X8_needDirection : GoodIn wsX8_place wsX8_needDirection := goodIn_ca (goodIn_r _ [12, 13, 14] (by decide +kernel) (by decide +kernel)) (goodIn_sub (fun _ h => List.mem_cons_of_mem _ (List.mem_append_right _ h)) (by decide +kernel))
set_option maxRecDepth 20000 in
theorem gX8_place_X8_needDirection : GoodIn wsX8_place (va_wsS RX8 221 yX8_needDirection wsX8_needDirection) := goodIn_app (goodIn_of _ (by decide +kernel)) ggX8_place_X8_needDirection
set_option maxRecDepth 20000 in
theorem ggX8_place_X6_reasonAgainst : GoodIn wsX8_place wsX6_reasonAgainst := goodIn_r _ [19, 20, 21, 22, 18, 23, 24, 25, 26, 27, 28, 29, 30, 31, 32, 33, 34, 35, 36, 37, 38, 39, 40, 41, 42, 43, 44, 45, 46, 47, 48, 49, 50, 51, 52, 53, 54, 55, 56, 57, 58, 59, 60, 61, 62, 63, 64, 65, 66, 67, 68, 69, 70, 71, 72, 73, 74, 75, 76, 77, 78, 79, 80, 81, 82, 173, 174, 175, 176, 177, 178, 179, 180, 181, 182, 183, 184, 185, 186, 187, 188, 189] (by decide +kernel) (by decide +kernel)
set_option maxRecDepth 20000 in
theorem gX8_place_X6_reasonAgainst : GoodIn wsX8_place (wsV RX8 224 RX6 yX6_reasonAgainst wsX6_reasonAgainst) := goodIn_app (goodIn_of _ (by decide +kernel)) ggX8_place_X6_reasonAgainst
set_option maxRecDepth 20000 in
theorem ggX8_place_X3_keep : GoodIn wsX8_place wsX3_keep := goodIn_r _ [87, 88, 89, 90, 91, 18, 92, 93, 94, 95, 96, 97, 98, 99, 100, 101, 102, 103, 36, 25, 104, 105, 29, 24, 106, 107, 108, 109, 110, 71, 76, 111, 112, 113, 114, 44, 58, 115, 116, 117, 118, 32, 119, 49, 81, 120, 121, 122, 123, 124, 125, 126, 127, 128, 129, 130, 131, 38, 39, 132, 133, 134, 135, 136, 31, 137, 138, 139, 140, 141, 142, 143, 144, 145, 190, 191, 192, 173, 174, 175, 176, 177, 184, 185, 186, 187, 188, 189, 178, 179, 180, 181, 182, 183, 193, 194, 195, 196, 197] (by decide +kernel) (by decide +kernel)
set_option maxRecDepth 20000 in
theorem gX8_place_X3_keep : GoodIn wsX8_place (wsV RX8 286 RX3 yX3_keep wsX3_keep) := goodIn_app (goodIn_of _ (by decide +kernel)) ggX8_place_X3_keep
set_option maxRecDepth 20000 in
theorem ggX8_place_X2_directionOf : GoodIn wsX8_place wsX2_directionOf := goodIn_r _ [149, 31, 119, 178, 179, 180, 181, 182, 183] (by decide +kernel) (by decide +kernel)
set_option maxRecDepth 20000 in
theorem gX8_place_X2_directionOf : GoodIn wsX8_place (wsV RX8 197 RX2 yX2_directionOf wsX2_directionOf) := goodIn_app (goodIn_of _ (by decide +kernel)) ggX8_place_X2_directionOf
set_option maxRecDepth 20000 in
theorem ggX8_place_X6_putName : GoodIn wsX8_place wsX6_putName := goodIn_r _ [153, 24, 25, 71, 76, 154, 155, 156, 18, 157, 26, 27, 28, 29, 30, 31, 32, 158, 147, 148, 149, 119, 45, 46, 47, 48, 49, 33, 34, 35, 36, 37, 38, 39, 159, 160, 161, 162, 77, 78, 79, 80, 81, 82, 173, 174, 175, 176, 177, 178, 179, 180, 181, 182, 183, 184, 185, 186, 187, 188, 189] (by decide +kernel) (by decide +kernel)
set_option maxRecDepth 20000 in
theorem gX8_place_X6_putName : GoodIn wsX8_place (wsV RX8 289 RX6 yX6_putName wsX6_putName) := goodIn_app (goodIn_of _ (by decide +kernel)) ggX8_place_X6_putName
theorem dX8_place_0 : decode cX8_place 0 = .ok (.aload_n 0, 1) := by decide +kernel
theorem dX8_place_1 : decode cX8_place 1 = .ok (.iload_n 1, 1) := by decide +kernel
theorem dX8_place_2 : decode cX8_place 2 = .ok (.invokevirtual 188, 3) := by decide +kernel
theorem dX8_place_5 : decode cX8_place 5 = .ok (.iload_n 2, 1) := by decide +kernel
theorem dX8_place_6 : decode cX8_place 6 = .ok (.invokestatic 221, 3) := by decide +kernel
theorem dX8_place_9 : decode cX8_place 9 = .ok (.aload_n 0, 1) := by decide +kernel
theorem dX8_place_10 : decode cX8_place 10 = .ok (.getfield 10, 3) := by decide +kernel
theorem dX8_place_13 : decode cX8_place 13 = .ok (.iload_n 1, 1) := by decide +kernel
theorem dX8_place_14 : decode cX8_place 14 = .ok (.iload_n 2, 1) := by decide +kernel
theorem dX8_place_15 : decode cX8_place 15 = .ok (.invokevirtual 224, 3) := by decide +kernel
theorem dX8_place_18 : decode cX8_place 18 = .ok (.ifCond .eq 6, 3) := by decide +kernel
theorem dX8_place_21 : decode cX8_place 21 = .ok (.bipush (-3), 2) := by decide +kernel
theorem dX8_place_23 : decode cX8_place 23 = .ok (.ireturn, 1) := by decide +kernel
theorem dX8_place_24 : decode cX8_place 24 = .ok (.aload_n 0, 1) := by decide +kernel
theorem dX8_place_25 : decode cX8_place 25 = .ok (.getfield 19, 3) := by decide +kernel
theorem dX8_place_28 : decode cX8_place 28 = .ok (.aload_n 0, 1) := by decide +kernel
theorem dX8_place_29 : decode cX8_place 29 = .ok (.getfield 10, 3) := by decide +kernel
theorem dX8_place_32 : decode cX8_place 32 = .ok (.invokevirtual 286, 3) := by decide +kernel
theorem dX8_place_35 : decode cX8_place 35 = .ok (.aload_n 0, 1) := by decide +kernel
theorem dX8_place_36 : decode cX8_place 36 = .ok (.getfield 10, 3) := by decide +kernel
theorem dX8_place_39 : decode cX8_place 39 = .ok (.getfield 97, 3) := by decide +kernel
theorem dX8_place_42 : decode cX8_place 42 = .ok (.iload_n 1, 1) := by decide +kernel
theorem dX8_place_43 : decode cX8_place 43 = .ok (.invokevirtual 197, 3) := by decide +kernel
theorem dX8_place_46 : decode cX8_place 46 = .ok (.istore_n 3, 1) := by decide +kernel
theorem dX8_place_47 : decode cX8_place 47 = .ok (.aload_n 0, 1) := by decide +kernel
theorem dX8_place_48 : decode cX8_place 48 = .ok (.getfield 10, 3) := by decide +kernel
theorem dX8_place_51 : decode cX8_place 51 = .ok (.iload_n 1, 1) := by decide +kernel
theorem dX8_place_52 : decode cX8_place 52 = .ok (.iload_n 2, 1) := by decide +kernel
theorem dX8_place_53 : decode cX8_place 53 = .ok (.invokevirtual 289, 3) := by decide +kernel
theorem dX8_place_56 : decode cX8_place 56 = .ok (.iload_n 3, 1) := by decide +kernel
theorem dX8_place_57 : decode cX8_place 57 = .ok (.ireturn, 1) := by decide +kernel
set_option maxRecDepth 20000 in
theorem ggX8_lift_X8_needHarbour : GoodIn wsX8_lift wsX8_needHarbour := goodIn_ca (goodIn_r _ [7, 8, 9, 1, 113, 114, 115, 116, 117, 118, 119, 120, 121, 122, 123, 124, 125, 126, 127, 128, 129, 130, 131, 132, 133] (by decide +kernel) (by decide +kernel)) (goodIn_sub (fun _ h => List.mem_cons_of_mem _ (List.mem_append_right _ h)) (by decide +kernel))
set_option maxRecDepth 20000 in
theorem gX8_lift_X8_needHarbour : GoodIn wsX8_lift (wsV RX8 188 RX8 yX8_needHarbour wsX8_needHarbour) := goodIn_app (goodIn_of _ (by decide +kernel)) ggX8_lift_X8_needHarbour
set_option maxRecDepth 20000 in
theorem ggX8_lift_X2_directionOf : GoodIn wsX8_lift wsX2_directionOf := goodIn_r _ [14, 15, 16, 128, 129, 130, 131, 132, 133] (by decide +kernel) (by decide +kernel)
set_option maxRecDepth 20000 in
theorem gX8_lift_X2_directionOf : GoodIn wsX8_lift (wsV RX8 197 RX2 yX2_directionOf wsX2_directionOf) := goodIn_app (goodIn_of _ (by decide +kernel)) ggX8_lift_X2_directionOf
set_option maxRecDepth 20000 in
theorem ggX8_lift_X3_keep : GoodIn wsX8_lift wsX3_keep := goodIn_r _ [21, 22, 23, 24, 25, 26, 27, 28, 29, 30, 31, 32, 33, 34, 35, 36, 37, 38, 39, 40, 41, 42, 13, 43, 44, 45, 46, 47, 48, 49, 50, 51, 52, 53, 54, 55, 56, 57, 58, 59, 60, 61, 16, 62, 63, 64, 65, 66, 67, 68, 69, 70, 71, 72, 73, 74, 75, 76, 77, 78, 79, 80, 81, 82, 15, 83, 84, 85, 86, 87, 88, 89, 90, 91, 134, 135, 136, 123, 124, 125, 126, 127, 137, 138, 139, 140, 141, 142, 128, 129, 130, 131, 132, 133, 143, 144, 145, 146, 147] (by decide +kernel) (by decide +kernel)
set_option maxRecDepth 20000 in
theorem gX8_lift_X3_keep : GoodIn wsX8_lift (wsV RX8 286 RX3 yX3_keep wsX3_keep) := goodIn_app (goodIn_of _ (by decide +kernel)) ggX8_lift_X3_keep
set_option maxRecDepth 20000 in
theorem ggX8_lift_X6_takeName : GoodIn wsX8_lift wsX6_takeName := goodIn_r _ [95, 43, 40, 49, 96, 97, 98, 13, 99, 15, 61, 100, 11, 12, 14, 16, 101, 102, 103, 104, 62, 105, 106, 107, 39, 108, 76, 77, 109, 110, 111, 112, 123, 124, 125, 126, 127, 128, 129, 130, 131, 132, 133, 137, 138, 139, 140, 141, 142] (by decide +kernel) (by decide +kernel)
set_option maxRecDepth 20000 in
theorem gX8_lift_X6_takeName : GoodIn wsX8_lift (wsV RX8 292 RX6 yX6_takeName wsX6_takeName) := goodIn_app (goodIn_of _ (by decide +kernel)) ggX8_lift_X6_takeName
theorem dX8_lift_0 : decode cX8_lift 0 = .ok (.aload_n 0, 1) := by decide +kernel
theorem dX8_lift_1 : decode cX8_lift 1 = .ok (.iload_n 1, 1) := by decide +kernel
theorem dX8_lift_2 : decode cX8_lift 2 = .ok (.invokevirtual 188, 3) := by decide +kernel
theorem dX8_lift_5 : decode cX8_lift 5 = .ok (.aload_n 0, 1) := by decide +kernel
theorem dX8_lift_6 : decode cX8_lift 6 = .ok (.getfield 10, 3) := by decide +kernel
theorem dX8_lift_9 : decode cX8_lift 9 = .ok (.getfield 97, 3) := by decide +kernel
theorem dX8_lift_12 : decode cX8_lift 12 = .ok (.iload_n 1, 1) := by decide +kernel
theorem dX8_lift_13 : decode cX8_lift 13 = .ok (.invokevirtual 197, 3) := by decide +kernel
theorem dX8_lift_16 : decode cX8_lift 16 = .ok (.istore_n 2, 1) := by decide +kernel
theorem dX8_lift_17 : decode cX8_lift 17 = .ok (.iload_n 2, 1) := by decide +kernel
theorem dX8_lift_18 : decode cX8_lift 18 = .ok (.iconst (-1), 1) := by decide +kernel
theorem dX8_lift_19 : decode cX8_lift 19 = .ok (.if_icmp .ne 6, 3) := by decide +kernel
theorem dX8_lift_22 : decode cX8_lift 22 = .ok (.bipush (-3), 2) := by decide +kernel
theorem dX8_lift_24 : decode cX8_lift 24 = .ok (.ireturn, 1) := by decide +kernel
theorem dX8_lift_25 : decode cX8_lift 25 = .ok (.aload_n 0, 1) := by decide +kernel
theorem dX8_lift_26 : decode cX8_lift 26 = .ok (.getfield 19, 3) := by decide +kernel
theorem dX8_lift_29 : decode cX8_lift 29 = .ok (.aload_n 0, 1) := by decide +kernel
theorem dX8_lift_30 : decode cX8_lift 30 = .ok (.getfield 10, 3) := by decide +kernel
theorem dX8_lift_33 : decode cX8_lift 33 = .ok (.invokevirtual 286, 3) := by decide +kernel
theorem dX8_lift_36 : decode cX8_lift 36 = .ok (.aload_n 0, 1) := by decide +kernel
theorem dX8_lift_37 : decode cX8_lift 37 = .ok (.getfield 10, 3) := by decide +kernel
theorem dX8_lift_40 : decode cX8_lift 40 = .ok (.iload_n 1, 1) := by decide +kernel
theorem dX8_lift_41 : decode cX8_lift 41 = .ok (.invokevirtual 292, 3) := by decide +kernel
theorem dX8_lift_44 : decode cX8_lift 44 = .ok (.iload_n 2, 1) := by decide +kernel
theorem dX8_lift_45 : decode cX8_lift 45 = .ok (.ireturn, 1) := by decide +kernel
set_option maxRecDepth 20000 in
theorem ggX8_arrange_X0_findBest : GoodIn wsX8_arrange wsX0_findBest := goodIn_r _ [8, 9, 10, 11, 12, 13, 14, 15, 16, 17, 18, 19, 7, 20, 21, 22, 23, 24, 25, 26, 27, 28, 29, 30, 31, 32, 33, 34, 35, 36, 37, 38, 39, 40, 41, 42, 43, 44, 45, 46, 47, 48, 49, 50, 51, 52, 53, 54, 55, 56, 57, 58, 59, 60, 61, 62, 63, 64, 65, 66, 67, 68, 69, 70, 71, 72, 73, 74, 75, 76, 77, 78, 79, 80, 81, 82, 83, 84, 85, 86, 87, 88, 89, 90, 91, 92, 93, 94, 95, 96, 97, 98, 99, 100, 101, 102, 103, 104, 105, 106, 107, 108, 109, 110, 111, 112, 113, 114, 115, 116, 117, 118, 119, 120, 121, 122, 123, 124, 125, 126, 237, 238, 239, 240, 241, 242, 243, 244, 245, 246, 226, 227, 228, 229, 230, 231, 232, 233, 234, 235, 236, 247, 248, 249, 250, 251, 252, 253, 254, 255, 256, 257] (by decide +kernel) (by decide +kernel)
set_option maxRecDepth 20000 in
theorem gX8_arrange_X0_findBest : GoodIn wsX8_arrange (wsV RX8 252 RX0 yX0_findBest wsX0_findBest) := goodIn_app (goodIn_of _ (by decide +kernel)) ggX8_arrange_X0_findBest
set_option maxRecDepth 20000 in
theorem ggX8_arrange_X3_keep : GoodIn wsX8_arrange wsX3_keep := goodIn_r _ [131, 132, 133, 134, 135, 24, 136, 137, 125, 122, 126, 138, 139, 140, 141, 142, 143, 144, 38, 27, 145, 146, 31, 26, 147, 148, 107, 149, 150, 151, 152, 153, 154, 155, 156, 46, 60, 157, 158, 159, 160, 34, 161, 51, 94, 162, 163, 164, 114, 165, 166, 167, 168, 169, 170, 171, 172, 40, 41, 173, 174, 175, 176, 177, 33, 178, 179, 180, 181, 182, 109, 183, 184, 185, 258, 259, 260, 226, 227, 228, 229, 230, 247, 248, 249, 250, 251, 252, 231, 232, 233, 234, 235, 236, 253, 254, 255, 256, 257] (by decide +kernel) (by decide +kernel)
set_option maxRecDepth 20000 in
theorem gX8_arrange_X3_keep : GoodIn wsX8_arrange (wsV RX8 286 RX3 yX3_keep wsX3_keep) := goodIn_app (goodIn_of _ (by decide +kernel)) ggX8_arrange_X3_keep
set_option maxRecDepth 20000 in
theorem ggX8_arrange_X2_placedNames : GoodIn wsX8_arrange wsX2_placedNames := goodIn_r _ [189, 33, 190, 191, 192, 31, 193, 161, 231, 232, 233, 234, 235, 236] (by decide +kernel) (by decide +kernel)
set_option maxRecDepth 20000 in
theorem gX8_arrange_X2_placedNames : GoodIn wsX8_arrange (wsV RX8 125 RX2 yX2_placedNames wsX2_placedNames) := goodIn_app (goodIn_of _ (by decide +kernel)) ggX8_arrange_X2_placedNames
set_option maxRecDepth 20000 in
theorem ggX8_arrange_X6_takeNames : GoodIn wsX8_arrange wsX6_takeNames := goodIn_r _ [197, 26, 198, 199, 200, 24, 201, 27, 151, 28, 29, 30, 31, 32, 33, 34, 202, 191, 192, 193, 161, 47, 48, 49, 50, 51, 35, 36, 37, 38, 39, 40, 41, 203, 204, 205, 206, 226, 227, 228, 229, 230, 231, 232, 233, 234, 235, 236, 247, 248, 249, 250, 251, 252] (by decide +kernel) (by decide +kernel)
set_option maxRecDepth 20000 in
theorem gX8_arrange_X6_takeNames : GoodIn wsX8_arrange (wsV RX8 295 RX6 yX6_takeNames wsX6_takeNames) := goodIn_app (goodIn_of _ (by decide +kernel)) ggX8_arrange_X6_takeNames
set_option maxRecDepth 20000 in
theorem ggX8_arrange_X0_bestDirection : GoodIn wsX8_arrange wsX0_bestDirection := goodIn_r _ [210, 14, 237, 238, 239, 240, 241, 242, 243, 244, 245, 246] (by decide +kernel) (by decide +kernel)
set_option maxRecDepth 20000 in
theorem gX8_arrange_X0_bestDirection : GoodIn wsX8_arrange (wsV RX8 262 RX0 yX0_bestDirection wsX0_bestDirection) := goodIn_app (goodIn_of _ (by decide +kernel)) ggX8_arrange_X0_bestDirection
set_option maxRecDepth 20000 in
theorem ggX8_arrange_X6_putName : GoodIn wsX8_arrange wsX6_putName := goodIn_r _ [214, 26, 27, 151, 152, 198, 199, 200, 24, 201, 28, 29, 30, 31, 32, 33, 34, 202, 191, 192, 193, 161, 47, 48, 49, 50, 51, 35, 36, 37, 38, 39, 40, 41, 203, 204, 205, 206, 215, 91, 92, 93, 94, 95, 226, 227, 228, 229, 230, 231, 232, 233, 234, 235, 236, 247, 248, 249, 250, 251, 252] (by decide +kernel) (by decide +kernel)
set_option maxRecDepth 20000 in
theorem gX8_arrange_X6_putName : GoodIn wsX8_arrange (wsV RX8 289 RX6 yX6_putName wsX6_putName) := goodIn_app (goodIn_of _ (by decide +kernel)) ggX8_arrange_X6_putName
theorem dX8_arrange_0 : decode cX8_arrange 0 = .ok (.aload_n 0, 1) := by decide +kernel
theorem dX8_arrange_1 : decode cX8_arrange 1 = .ok (.getfield 33, 3) := by decide +kernel
theorem dX8_arrange_4 : decode cX8_arrange 4 = .ok (.aload_n 0, 1) := by decide +kernel
theorem dX8_arrange_5 : decode cX8_arrange 5 = .ok (.getfield 10, 3) := by decide +kernel
theorem dX8_arrange_8 : decode cX8_arrange 8 = .ok (.iconst (-1), 1) := by decide +kernel
theorem dX8_arrange_9 : decode cX8_arrange 9 = .ok (.aload_n 0, 1) := by decide +kernel
theorem dX8_arrange_10 : decode cX8_arrange 10 = .ok (.getfield 10, 3) := by decide +kernel
theorem dX8_arrange_13 : decode cX8_arrange 13 = .ok (.getfield 97, 3) := by decide +kernel
theorem dX8_arrange_16 : decode cX8_arrange 16 = .ok (.getfield 134, 3) := by decide +kernel
theorem dX8_arrange_19 : decode cX8_arrange 19 = .ok (.invokevirtual 252, 3) := by decide +kernel
theorem dX8_arrange_22 : decode cX8_arrange 22 = .ok (.aload_n 0, 1) := by decide +kernel
theorem dX8_arrange_23 : decode cX8_arrange 23 = .ok (.getfield 19, 3) := by decide +kernel
theorem dX8_arrange_26 : decode cX8_arrange 26 = .ok (.aload_n 0, 1) := by decide +kernel
theorem dX8_arrange_27 : decode cX8_arrange 27 = .ok (.getfield 10, 3) := by decide +kernel
theorem dX8_arrange_30 : decode cX8_arrange 30 = .ok (.invokevirtual 286, 3) := by decide +kernel
theorem dX8_arrange_33 : decode cX8_arrange 33 = .ok (.aload_n 0, 1) := by decide +kernel
theorem dX8_arrange_34 : decode cX8_arrange 34 = .ok (.getfield 10, 3) := by decide +kernel
theorem dX8_arrange_37 : decode cX8_arrange 37 = .ok (.aload_n 0, 1) := by decide +kernel
theorem dX8_arrange_38 : decode cX8_arrange 38 = .ok (.getfield 10, 3) := by decide +kernel
theorem dX8_arrange_41 : decode cX8_arrange 41 = .ok (.getfield 97, 3) := by decide +kernel
theorem dX8_arrange_44 : decode cX8_arrange 44 = .ok (.invokevirtual 125, 3) := by decide +kernel
theorem dX8_arrange_47 : decode cX8_arrange 47 = .ok (.invokevirtual 295, 3) := by decide +kernel
theorem dX8_arrange_50 : decode cX8_arrange 50 = .ok (.iconst 0, 1) := by decide +kernel
theorem dX8_arrange_51 : decode cX8_arrange 51 = .ok (.istore_n 1, 1) := by decide +kernel
theorem dX8_arrange_52 : decode cX8_arrange 52 = .ok (.iload_n 1, 1) := by decide +kernel
theorem dX8_arrange_53 : decode cX8_arrange 53 = .ok (.aload_n 0, 1) := by decide +kernel
theorem dX8_arrange_54 : decode cX8_arrange 54 = .ok (.getfield 10, 3) := by decide +kernel
theorem dX8_arrange_57 : decode cX8_arrange 57 = .ok (.getfield 97, 3) := by decide +kernel
theorem dX8_arrange_60 : decode cX8_arrange 60 = .ok (.getfield 101, 3) := by decide +kernel
theorem dX8_arrange_63 : decode cX8_arrange 63 = .ok (.if_icmp .ge 32, 3) := by decide +kernel
theorem dX8_arrange_66 : decode cX8_arrange 66 = .ok (.aload_n 0, 1) := by decide +kernel
theorem dX8_arrange_67 : decode cX8_arrange 67 = .ok (.getfield 33, 3) := by decide +kernel
theorem dX8_arrange_70 : decode cX8_arrange 70 = .ok (.iload_n 1, 1) := by decide +kernel
theorem dX8_arrange_71 : decode cX8_arrange 71 = .ok (.invokevirtual 262, 3) := by decide +kernel
theorem dX8_arrange_74 : decode cX8_arrange 74 = .ok (.istore_n 2, 1) := by decide +kernel
theorem dX8_arrange_75 : decode cX8_arrange 75 = .ok (.iload_n 2, 1) := by decide +kernel
theorem dX8_arrange_76 : decode cX8_arrange 76 = .ok (.iconst (-1), 1) := by decide +kernel
theorem dX8_arrange_77 : decode cX8_arrange 77 = .ok (.if_icmp .eq 12, 3) := by decide +kernel
theorem dX8_arrange_80 : decode cX8_arrange 80 = .ok (.aload_n 0, 1) := by decide +kernel
theorem dX8_arrange_81 : decode cX8_arrange 81 = .ok (.getfield 10, 3) := by decide +kernel
theorem dX8_arrange_84 : decode cX8_arrange 84 = .ok (.iload_n 1, 1) := by decide +kernel
theorem dX8_arrange_85 : decode cX8_arrange 85 = .ok (.iload_n 2, 1) := by decide +kernel
theorem dX8_arrange_86 : decode cX8_arrange 86 = .ok (.invokevirtual 289, 3) := by decide +kernel
theorem dX8_arrange_89 : decode cX8_arrange 89 = .ok (.iinc 1 1, 3) := by decide +kernel
theorem dX8_arrange_92 : decode cX8_arrange 92 = .ok (.goto (-40), 3) := by decide +kernel
theorem dX8_arrange_95 : decode cX8_arrange 95 = .ok (.aload_n 0, 1) := by decide +kernel
theorem dX8_arrange_96 : decode cX8_arrange 96 = .ok (.getfield 33, 3) := by decide +kernel
theorem dX8_arrange_99 : decode cX8_arrange 99 = .ok (.getfield 259, 3) := by decide +kernel
theorem dX8_arrange_102 : decode cX8_arrange 102 = .ok (.ireturn, 1) := by decide +kernel
set_option maxRecDepth 20000 in
theorem ggX8_setRed_X8_needHarbour : GoodIn wsX8_setRed wsX8_needHarbour := goodIn_ca (goodIn_r _ [7, 8, 9, 2, 132, 133, 134, 135, 136, 137, 138, 139, 140, 141, 142, 143, 144, 145, 146, 147, 148, 149, 150, 151, 152] (by decide +kernel) (by decide +kernel)) (goodIn_sub (fun _ h => List.mem_cons_of_mem _ (List.mem_append_right _ h)) (by decide +kernel))
set_option maxRecDepth 20000 in
theorem gX8_setRed_X8_needHarbour : GoodIn wsX8_setRed (wsV RX8 188 RX8 yX8_needHarbour wsX8_needHarbour) := goodIn_app (goodIn_of _ (by decide +kernel)) ggX8_setRed_X8_needHarbour
set_option maxRecDepth 20000 in
theorem ggX8_setRed_X3_keep : GoodIn wsX8_setRed wsX3_keep := goodIn_r _ [14, 15, 16, 17, 18, 19, 20, 21, 22, 23, 24, 25, 26, 27, 28, 29, 30, 31, 32, 33, 34, 35, 36, 37, 38, 39, 40, 41, 42, 43, 44, 45, 46, 47, 48, 49, 50, 51, 52, 53, 54, 55, 56, 57, 58, 59, 60, 61, 62, 63, 64, 65, 66, 67, 68, 69, 70, 71, 72, 73, 74, 75, 76, 77, 78, 79, 80, 81, 82, 83, 84, 85, 86, 87, 153, 154, 155, 142, 143, 144, 145, 146, 156, 157, 158, 159, 160, 161, 147, 148, 149, 150, 151, 152, 162, 163, 164, 165, 166] (by decide +kernel) (by decide +kernel)
set_option maxRecDepth 20000 in
theorem gX8_setRed_X3_keep : GoodIn wsX8_setRed (wsV RX8 286 RX3 yX3_keep wsX3_keep) := goodIn_app (goodIn_of _ (by decide +kernel)) ggX8_setRed_X3_keep
set_option maxRecDepth 20000 in
theorem ggX8_setRed_X2_isRed : GoodIn wsX8_setRed wsX2_isRed := goodIn_r _ [91, 79, 147, 148, 149, 150, 151, 152] (by decide +kernel) (by decide +kernel)
set_option maxRecDepth 20000 in
theorem gX8_setRed_X2_isRed : GoodIn wsX8_setRed (wsV RX8 194 RX2 yX2_isRed wsX2_isRed) := goodIn_app (goodIn_of _ (by decide +kernel)) ggX8_setRed_X2_isRed
set_option maxRecDepth 20000 in
theorem ggX8_setRed_X6_crossedBy : GoodIn wsX8_setRed wsX6_crossedBy := goodIn_r _ [95, 37, 33, 96, 97, 98, 36, 99, 78, 55, 100, 101, 102, 103, 56, 104, 105, 106, 107, 57, 108, 109, 110, 32, 111, 71, 72, 112, 113, 114, 19, 115, 43, 142, 143, 144, 145, 146, 147, 148, 149, 150, 151, 152, 156, 157, 158, 159, 160, 161] (by decide +kernel) (by decide +kernel)
set_option maxRecDepth 20000 in
theorem gX8_setRed_X6_crossedBy : GoodIn wsX8_setRed (wsV RX8 234 RX6 yX6_crossedBy wsX6_crossedBy) := goodIn_app (goodIn_of _ (by decide +kernel)) ggX8_setRed_X6_crossedBy
set_option maxRecDepth 20000 in
theorem ggX8_setRed_X6_takeNames : GoodIn wsX8_setRed wsX6_takeNames := goodIn_r _ [119, 37, 120, 121, 122, 19, 123, 33, 43, 96, 97, 98, 36, 99, 78, 55, 100, 101, 102, 103, 56, 104, 105, 106, 107, 57, 108, 109, 110, 32, 111, 71, 72, 124, 125, 126, 127, 142, 143, 144, 145, 146, 147, 148, 149, 150, 151, 152, 156, 157, 158, 159, 160, 161] (by decide +kernel) (by decide +kernel)
set_option maxRecDepth 20000 in
theorem gX8_setRed_X6_takeNames : GoodIn wsX8_setRed (wsV RX8 295 RX6 yX6_takeNames wsX6_takeNames) := goodIn_app (goodIn_of _ (by decide +kernel)) ggX8_setRed_X6_takeNames
set_option maxRecDepth 20000 in
theorem ggX8_setRed_X2_redsIf : GoodIn wsX8_setRed wsX2_redsIf := goodIn_r _ [131, 79, 147, 148, 149, 150, 151, 152] (by decide +kernel) (by decide +kernel)
set_option maxRecDepth 20000 in
theorem gX8_setRed_X2_redsIf : GoodIn wsX8_setRed (wsV RX8 265 RX2 yX2_redsIf wsX2_redsIf) := goodIn_app (goodIn_of _ (by decide +kernel)) ggX8_setRed_X2_redsIf
