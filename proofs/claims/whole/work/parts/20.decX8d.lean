set_option maxRecDepth 20000 in
theorem ggX8_least_X0_findBest : GoodIn wsX8_least wsX0_findBest := goodIn_r _ [7, 8, 9, 10, 11, 12, 13, 14, 15, 16, 17, 18, 6, 19, 20, 21, 22, 23, 24, 25, 26, 27, 28, 29, 30, 31, 32, 33, 34, 35, 36, 37, 38, 39, 40, 41, 42, 43, 44, 45, 46, 47, 48, 49, 50, 51, 52, 53, 54, 55, 56, 57, 58, 59, 60, 61, 62, 63, 64, 65, 66, 67, 68, 69, 70, 71, 72, 73, 74, 75, 76, 77, 78, 79, 80, 81, 82, 83, 84, 85, 86, 87, 88, 89, 90, 91, 92, 93, 94, 95, 96, 97, 98, 99, 100, 101, 102, 103, 104, 105, 106, 107, 108, 109, 110, 111, 112, 113, 114, 115, 116, 117, 118, 119, 120, 121, 122, 123, 124, 125, 147, 148, 149, 150, 151, 152, 153, 154, 155, 156, 136, 137, 138, 139, 140, 141, 142, 143, 144, 145, 146, 157, 158, 159, 160, 161, 162, 163, 164, 165, 166, 167] (by decide +kernel) (by decide +kernel)
set_option maxRecDepth 20000 in
theorem gX8_least_X0_findBest : GoodIn wsX8_least (wsV RX8 252 RX0 yX0_findBest wsX0_findBest) := goodIn_app (goodIn_of _ (by decide +kernel)) ggX8_least_X0_findBest
theorem dX8_least_0 : decode cX8_least 0 = .ok (.aload_n 0, 1) := by decide +kernel
theorem dX8_least_1 : decode cX8_least 1 = .ok (.getfield 33, 3) := by decide +kernel
theorem dX8_least_4 : decode cX8_least 4 = .ok (.aload_n 0, 1) := by decide +kernel
theorem dX8_least_5 : decode cX8_least 5 = .ok (.getfield 10, 3) := by decide +kernel
theorem dX8_least_8 : decode cX8_least 8 = .ok (.iconst (-1), 1) := by decide +kernel
theorem dX8_least_9 : decode cX8_least 9 = .ok (.aload_n 0, 1) := by decide +kernel
theorem dX8_least_10 : decode cX8_least 10 = .ok (.getfield 10, 3) := by decide +kernel
theorem dX8_least_13 : decode cX8_least 13 = .ok (.getfield 97, 3) := by decide +kernel
theorem dX8_least_16 : decode cX8_least 16 = .ok (.getfield 134, 3) := by decide +kernel
theorem dX8_least_19 : decode cX8_least 19 = .ok (.invokevirtual 252, 3) := by decide +kernel
theorem dX8_least_22 : decode cX8_least 22 = .ok (.aload_n 0, 1) := by decide +kernel
theorem dX8_least_23 : decode cX8_least 23 = .ok (.getfield 33, 3) := by decide +kernel
theorem dX8_least_26 : decode cX8_least 26 = .ok (.getfield 256, 3) := by decide +kernel
theorem dX8_least_29 : decode cX8_least 29 = .ok (.ireturn, 1) := by decide +kernel
set_option maxRecDepth 20000 in
theorem ggX8_placedThen_X0_findBest : GoodIn wsX8_placedThen wsX0_findBest := goodIn_r _ [7, 8, 9, 10, 11, 12, 13, 14, 15, 16, 17, 18, 6, 19, 20, 21, 22, 23, 24, 25, 26, 27, 28, 29, 30, 31, 32, 33, 34, 35, 36, 37, 38, 39, 40, 41, 42, 43, 44, 45, 46, 47, 48, 49, 50, 51, 52, 53, 54, 55, 56, 57, 58, 59, 60, 61, 62, 63, 64, 65, 66, 67, 68, 69, 70, 71, 72, 73, 74, 75, 76, 77, 78, 79, 80, 81, 82, 83, 84, 85, 86, 87, 88, 89, 90, 91, 92, 93, 94, 95, 96, 97, 98, 99, 100, 101, 102, 103, 104, 105, 106, 107, 108, 109, 110, 111, 112, 113, 114, 115, 116, 117, 118, 119, 120, 121, 122, 123, 124, 125, 147, 148, 149, 150, 151, 152, 153, 154, 155, 156, 136, 137, 138, 139, 140, 141, 142, 143, 144, 145, 146, 157, 158, 159, 160, 161, 162, 163, 164, 165, 166, 167] (by decide +kernel) (by decide +kernel)
set_option maxRecDepth 20000 in
theorem gX8_placedThen_X0_findBest : GoodIn wsX8_placedThen (wsV RX8 252 RX0 yX0_findBest wsX0_findBest) := goodIn_app (goodIn_of _ (by decide +kernel)) ggX8_placedThen_X0_findBest
theorem dX8_placedThen_0 : decode cX8_placedThen 0 = .ok (.aload_n 0, 1) := by decide +kernel
theorem dX8_placedThen_1 : decode cX8_placedThen 1 = .ok (.getfield 33, 3) := by decide +kernel
theorem dX8_placedThen_4 : decode cX8_placedThen 4 = .ok (.aload_n 0, 1) := by decide +kernel
theorem dX8_placedThen_5 : decode cX8_placedThen 5 = .ok (.getfield 10, 3) := by decide +kernel
theorem dX8_placedThen_8 : decode cX8_placedThen 8 = .ok (.iconst (-1), 1) := by decide +kernel
theorem dX8_placedThen_9 : decode cX8_placedThen 9 = .ok (.aload_n 0, 1) := by decide +kernel
theorem dX8_placedThen_10 : decode cX8_placedThen 10 = .ok (.getfield 10, 3) := by decide +kernel
theorem dX8_placedThen_13 : decode cX8_placedThen 13 = .ok (.getfield 97, 3) := by decide +kernel
theorem dX8_placedThen_16 : decode cX8_placedThen 16 = .ok (.getfield 134, 3) := by decide +kernel
theorem dX8_placedThen_19 : decode cX8_placedThen 19 = .ok (.invokevirtual 252, 3) := by decide +kernel
theorem dX8_placedThen_22 : decode cX8_placedThen 22 = .ok (.aload_n 0, 1) := by decide +kernel
theorem dX8_placedThen_23 : decode cX8_placedThen 23 = .ok (.getfield 33, 3) := by decide +kernel
theorem dX8_placedThen_26 : decode cX8_placedThen 26 = .ok (.getfield 259, 3) := by decide +kernel
theorem dX8_placedThen_29 : decode cX8_placedThen 29 = .ok (.ireturn, 1) := by decide +kernel
set_option maxRecDepth 20000 in
theorem ggX8_arranged_X8_needHarbour : GoodIn wsX8_arranged wsX8_needHarbour := goodIn_ca (goodIn_r _ [7, 8, 9, 2, 136, 137, 138, 139, 140, 141, 142, 143, 144, 145, 146, 147, 148, 149, 150, 151, 152, 153, 154, 155, 156] (by decide +kernel) (by decide +kernel)) (goodIn_sub (fun _ h => List.mem_cons_of_mem _ (List.mem_append_right _ h)) (by decide +kernel))
set_option maxRecDepth 20000 in
theorem gX8_arranged_X8_needHarbour : GoodIn wsX8_arranged (wsV RX8 188 RX8 yX8_needHarbour wsX8_needHarbour) := goodIn_app (goodIn_of _ (by decide +kernel)) ggX8_arranged_X8_needHarbour
set_option maxRecDepth 20000 in
theorem ggX8_arranged_X0_findBest : GoodIn wsX8_arranged wsX0_findBest := goodIn_r _ [14, 15, 16, 17, 18, 19, 20, 21, 22, 23, 24, 25, 13, 26, 27, 28, 29, 30, 31, 32, 33, 34, 35, 36, 37, 38, 39, 40, 41, 42, 43, 44, 45, 46, 47, 48, 49, 50, 51, 52, 53, 54, 55, 56, 57, 58, 59, 60, 61, 62, 63, 64, 65, 66, 67, 68, 69, 70, 71, 72, 73, 74, 75, 76, 77, 78, 79, 80, 81, 82, 83, 84, 85, 86, 87, 88, 89, 90, 91, 92, 93, 94, 95, 96, 97, 98, 99, 100, 101, 102, 103, 104, 105, 106, 107, 108, 109, 110, 111, 112, 113, 114, 115, 116, 117, 118, 119, 120, 121, 6, 122, 123, 124, 125, 126, 127, 128, 129, 130, 131, 157, 158, 159, 160, 161, 162, 163, 164, 165, 166, 146, 147, 148, 149, 150, 151, 152, 153, 154, 155, 156, 167, 168, 169, 170, 171, 172, 173, 174, 175, 176, 177] (by decide +kernel) (by decide +kernel)
set_option maxRecDepth 20000 in
theorem gX8_arranged_X0_findBest : GoodIn wsX8_arranged (wsV RX8 252 RX0 yX0_findBest wsX0_findBest) := goodIn_app (goodIn_of _ (by decide +kernel)) ggX8_arranged_X0_findBest
set_option maxRecDepth 20000 in
theorem ggX8_arranged_X0_bestDirection : GoodIn wsX8_arranged wsX0_bestDirection := goodIn_r _ [135, 20, 157, 158, 159, 160, 161, 162, 163, 164, 165, 166] (by decide +kernel) (by decide +kernel)
set_option maxRecDepth 20000 in
theorem gX8_arranged_X0_bestDirection : GoodIn wsX8_arranged (wsV RX8 262 RX0 yX0_bestDirection wsX0_bestDirection) := goodIn_app (goodIn_of _ (by decide +kernel)) ggX8_arranged_X0_bestDirection
theorem dX8_arranged_0 : decode cX8_arranged 0 = .ok (.aload_n 0, 1) := by decide +kernel
theorem dX8_arranged_1 : decode cX8_arranged 1 = .ok (.iload_n 1, 1) := by decide +kernel
theorem dX8_arranged_2 : decode cX8_arranged 2 = .ok (.invokevirtual 188, 3) := by decide +kernel
theorem dX8_arranged_5 : decode cX8_arranged 5 = .ok (.aload_n 0, 1) := by decide +kernel
theorem dX8_arranged_6 : decode cX8_arranged 6 = .ok (.getfield 33, 3) := by decide +kernel
theorem dX8_arranged_9 : decode cX8_arranged 9 = .ok (.aload_n 0, 1) := by decide +kernel
theorem dX8_arranged_10 : decode cX8_arranged 10 = .ok (.getfield 10, 3) := by decide +kernel
theorem dX8_arranged_13 : decode cX8_arranged 13 = .ok (.iconst (-1), 1) := by decide +kernel
theorem dX8_arranged_14 : decode cX8_arranged 14 = .ok (.aload_n 0, 1) := by decide +kernel
theorem dX8_arranged_15 : decode cX8_arranged 15 = .ok (.getfield 10, 3) := by decide +kernel
theorem dX8_arranged_18 : decode cX8_arranged 18 = .ok (.getfield 97, 3) := by decide +kernel
theorem dX8_arranged_21 : decode cX8_arranged 21 = .ok (.getfield 134, 3) := by decide +kernel
theorem dX8_arranged_24 : decode cX8_arranged 24 = .ok (.invokevirtual 252, 3) := by decide +kernel
theorem dX8_arranged_27 : decode cX8_arranged 27 = .ok (.aload_n 0, 1) := by decide +kernel
theorem dX8_arranged_28 : decode cX8_arranged 28 = .ok (.getfield 33, 3) := by decide +kernel
theorem dX8_arranged_31 : decode cX8_arranged 31 = .ok (.iload_n 1, 1) := by decide +kernel
theorem dX8_arranged_32 : decode cX8_arranged 32 = .ok (.invokevirtual 262, 3) := by decide +kernel
theorem dX8_arranged_35 : decode cX8_arranged 35 = .ok (.ireturn, 1) := by decide +kernel
set_option maxRecDepth 20000 in
theorem ggX8_leastIf_X8_needHarbour : GoodIn wsX8_leastIf wsX8_needHarbour := goodIn_ca (goodIn_r _ [7, 8, 9, 2, 137, 138, 139, 140, 141, 142, 143, 144, 145, 146, 147, 148, 149, 150, 151, 162, 163, 164, 165, 166, 167] (by decide +kernel) (by decide +kernel)) (goodIn_sub (fun _ h => List.mem_cons_of_mem _ (List.mem_append_right _ h)) (by decide +kernel))
set_option maxRecDepth 20000 in
theorem gX8_leastIf_X8_needHarbour : GoodIn wsX8_leastIf (wsV RX8 188 RX8 yX8_needHarbour wsX8_needHarbour) := goodIn_app (goodIn_of _ (by decide +kernel)) ggX8_leastIf_X8_needHarbour
set_option maxRecDepth 20000 in
theorem ggX8_leastIf_X2_redsIf : GoodIn wsX8_leastIf wsX2_redsIf := goodIn_r _ [14, 15, 162, 163, 164, 165, 166, 167] (by decide +kernel) (by decide +kernel)
set_option maxRecDepth 20000 in
theorem gX8_leastIf_X2_redsIf : GoodIn wsX8_leastIf (wsV RX8 265 RX2 yX2_redsIf wsX2_redsIf) := goodIn_app (goodIn_of _ (by decide +kernel)) ggX8_leastIf_X2_redsIf
set_option maxRecDepth 20000 in
theorem ggX8_leastIf_X0_findBest : GoodIn wsX8_leastIf wsX0_findBest := goodIn_r _ [20, 21, 22, 23, 24, 25, 26, 27, 28, 29, 30, 31, 19, 32, 33, 34, 35, 36, 37, 38, 39, 40, 41, 42, 13, 43, 44, 45, 46, 47, 48, 49, 50, 51, 52, 53, 54, 55, 56, 57, 58, 59, 60, 61, 62, 63, 64, 65, 66, 67, 68, 69, 70, 71, 72, 73, 74, 75, 76, 77, 78, 79, 80, 81, 82, 83, 84, 85, 86, 87, 88, 89, 90, 91, 92, 93, 94, 95, 96, 97, 98, 99, 100, 101, 102, 103, 104, 105, 106, 107, 108, 109, 110, 111, 112, 113, 114, 115, 116, 117, 118, 119, 120, 121, 122, 123, 124, 125, 126, 6, 127, 128, 129, 130, 131, 132, 133, 134, 135, 136, 152, 153, 154, 155, 156, 157, 158, 159, 160, 161, 147, 148, 149, 150, 151, 162, 163, 164, 165, 166, 167, 168, 169, 170, 171, 172, 173, 174, 175, 176, 177, 178] (by decide +kernel) (by decide +kernel)
set_option maxRecDepth 20000 in
theorem gX8_leastIf_X0_findBest : GoodIn wsX8_leastIf (wsV RX8 252 RX0 yX0_findBest wsX0_findBest) := goodIn_app (goodIn_of _ (by decide +kernel)) ggX8_leastIf_X0_findBest
theorem dX8_leastIf_0 : decode cX8_leastIf 0 = .ok (.aload_n 0, 1) := by decide +kernel
theorem dX8_leastIf_1 : decode cX8_leastIf 1 = .ok (.iload_n 1, 1) := by decide +kernel
theorem dX8_leastIf_2 : decode cX8_leastIf 2 = .ok (.invokevirtual 188, 3) := by decide +kernel
theorem dX8_leastIf_5 : decode cX8_leastIf 5 = .ok (.aload_n 0, 1) := by decide +kernel
theorem dX8_leastIf_6 : decode cX8_leastIf 6 = .ok (.getfield 33, 3) := by decide +kernel
theorem dX8_leastIf_9 : decode cX8_leastIf 9 = .ok (.aload_n 0, 1) := by decide +kernel
theorem dX8_leastIf_10 : decode cX8_leastIf 10 = .ok (.getfield 10, 3) := by decide +kernel
theorem dX8_leastIf_13 : decode cX8_leastIf 13 = .ok (.iconst (-1), 1) := by decide +kernel
theorem dX8_leastIf_14 : decode cX8_leastIf 14 = .ok (.aload_n 0, 1) := by decide +kernel
theorem dX8_leastIf_15 : decode cX8_leastIf 15 = .ok (.getfield 10, 3) := by decide +kernel
theorem dX8_leastIf_18 : decode cX8_leastIf 18 = .ok (.getfield 97, 3) := by decide +kernel
theorem dX8_leastIf_21 : decode cX8_leastIf 21 = .ok (.iload_n 1, 1) := by decide +kernel
theorem dX8_leastIf_22 : decode cX8_leastIf 22 = .ok (.iload_n 2, 1) := by decide +kernel
theorem dX8_leastIf_23 : decode cX8_leastIf 23 = .ok (.invokevirtual 265, 3) := by decide +kernel
theorem dX8_leastIf_26 : decode cX8_leastIf 26 = .ok (.invokevirtual 252, 3) := by decide +kernel
theorem dX8_leastIf_29 : decode cX8_leastIf 29 = .ok (.aload_n 0, 1) := by decide +kernel
theorem dX8_leastIf_30 : decode cX8_leastIf 30 = .ok (.getfield 33, 3) := by decide +kernel
theorem dX8_leastIf_33 : decode cX8_leastIf 33 = .ok (.getfield 256, 3) := by decide +kernel
theorem dX8_leastIf_36 : decode cX8_leastIf 36 = .ok (.ireturn, 1) := by decide +kernel
set_option maxRecDepth 20000 in
theorem ggX8_placedIf_X8_needHarbour : GoodIn wsX8_placedIf wsX8_needHarbour := goodIn_ca (goodIn_r _ [7, 8, 9, 2, 137, 138, 139, 140, 141, 142, 143, 144, 145, 146, 147, 148, 149, 150, 151, 162, 163, 164, 165, 166, 167] (by decide +kernel) (by decide +kernel)) (goodIn_sub (fun _ h => List.mem_cons_of_mem _ (List.mem_append_right _ h)) (by decide +kernel))
set_option maxRecDepth 20000 in
theorem gX8_placedIf_X8_needHarbour : GoodIn wsX8_placedIf (wsV RX8 188 RX8 yX8_needHarbour wsX8_needHarbour) := goodIn_app (goodIn_of _ (by decide +kernel)) ggX8_placedIf_X8_needHarbour
set_option maxRecDepth 20000 in
theorem ggX8_placedIf_X2_redsIf : GoodIn wsX8_placedIf wsX2_redsIf := goodIn_r _ [14, 15, 162, 163, 164, 165, 166, 167] (by decide +kernel) (by decide +kernel)
set_option maxRecDepth 20000 in
theorem gX8_placedIf_X2_redsIf : GoodIn wsX8_placedIf (wsV RX8 265 RX2 yX2_redsIf wsX2_redsIf) := goodIn_app (goodIn_of _ (by decide +kernel)) ggX8_placedIf_X2_redsIf
set_option maxRecDepth 20000 in
theorem ggX8_placedIf_X0_findBest : GoodIn wsX8_placedIf wsX0_findBest := goodIn_r _ [20, 21, 22, 23, 24, 25, 26, 27, 28, 29, 30, 31, 19, 32, 33, 34, 35, 36, 37, 38, 39, 40, 41, 42, 13, 43, 44, 45, 46, 47, 48, 49, 50, 51, 52, 53, 54, 55, 56, 57, 58, 59, 60, 61, 62, 63, 64, 65, 66, 67, 68, 69, 70, 71, 72, 73, 74, 75, 76, 77, 78, 79, 80, 81, 82, 83, 84, 85, 86, 87, 88, 89, 90, 91, 92, 93, 94, 95, 96, 97, 98, 99, 100, 101, 102, 103, 104, 105, 106, 107, 108, 109, 110, 111, 112, 113, 114, 115, 116, 117, 118, 119, 120, 121, 122, 123, 124, 125, 126, 6, 127, 128, 129, 130, 131, 132, 133, 134, 135, 136, 152, 153, 154, 155, 156, 157, 158, 159, 160, 161, 147, 148, 149, 150, 151, 162, 163, 164, 165, 166, 167, 168, 169, 170, 171, 172, 173, 174, 175, 176, 177, 178] (by decide +kernel) (by decide +kernel)
set_option maxRecDepth 20000 in
theorem gX8_placedIf_X0_findBest : GoodIn wsX8_placedIf (wsV RX8 252 RX0 yX0_findBest wsX0_findBest) := goodIn_app (goodIn_of _ (by decide +kernel)) ggX8_placedIf_X0_findBest
theorem dX8_placedIf_0 : decode cX8_placedIf 0 = .ok (.aload_n 0, 1) := by decide +kernel
theorem dX8_placedIf_1 : decode cX8_placedIf 1 = .ok (.iload_n 1, 1) := by decide +kernel
theorem dX8_placedIf_2 : decode cX8_placedIf 2 = .ok (.invokevirtual 188, 3) := by decide +kernel
theorem dX8_placedIf_5 : decode cX8_placedIf 5 = .ok (.aload_n 0, 1) := by decide +kernel
theorem dX8_placedIf_6 : decode cX8_placedIf 6 = .ok (.getfield 33, 3) := by decide +kernel
theorem dX8_placedIf_9 : decode cX8_placedIf 9 = .ok (.aload_n 0, 1) := by decide +kernel
theorem dX8_placedIf_10 : decode cX8_placedIf 10 = .ok (.getfield 10, 3) := by decide +kernel
theorem dX8_placedIf_13 : decode cX8_placedIf 13 = .ok (.iconst (-1), 1) := by decide +kernel
theorem dX8_placedIf_14 : decode cX8_placedIf 14 = .ok (.aload_n 0, 1) := by decide +kernel
theorem dX8_placedIf_15 : decode cX8_placedIf 15 = .ok (.getfield 10, 3) := by decide +kernel
theorem dX8_placedIf_18 : decode cX8_placedIf 18 = .ok (.getfield 97, 3) := by decide +kernel
theorem dX8_placedIf_21 : decode cX8_placedIf 21 = .ok (.iload_n 1, 1) := by decide +kernel
theorem dX8_placedIf_22 : decode cX8_placedIf 22 = .ok (.iload_n 2, 1) := by decide +kernel
theorem dX8_placedIf_23 : decode cX8_placedIf 23 = .ok (.invokevirtual 265, 3) := by decide +kernel
theorem dX8_placedIf_26 : decode cX8_placedIf 26 = .ok (.invokevirtual 252, 3) := by decide +kernel
theorem dX8_placedIf_29 : decode cX8_placedIf 29 = .ok (.aload_n 0, 1) := by decide +kernel
theorem dX8_placedIf_30 : decode cX8_placedIf 30 = .ok (.getfield 33, 3) := by decide +kernel
theorem dX8_placedIf_33 : decode cX8_placedIf 33 = .ok (.getfield 259, 3) := by decide +kernel
theorem dX8_placedIf_36 : decode cX8_placedIf 36 = .ok (.ireturn, 1) := by decide +kernel
set_option maxRecDepth 20000 in
theorem ggX8_shy_X0_findBest : GoodIn wsX8_shy wsX0_findBest := goodIn_r _ [7, 8, 9, 10, 11, 12, 13, 14, 15, 16, 17, 18, 6, 19, 20, 21, 22, 23, 24, 25, 26, 27, 28, 29, 30, 31, 32, 33, 34, 35, 36, 37, 38, 39, 40, 41, 42, 43, 44, 45, 46, 47, 48, 49, 50, 51, 52, 53, 54, 55, 56, 57, 58, 59, 60, 61, 62, 63, 64, 65, 66, 67, 68, 69, 70, 71, 72, 73, 74, 75, 76, 77, 78, 79, 80, 81, 82, 83, 84, 85, 86, 87, 88, 89, 90, 91, 92, 93, 94, 95, 96, 97, 98, 99, 100, 101, 102, 103, 104, 105, 106, 107, 108, 109, 110, 111, 112, 113, 114, 115, 116, 117, 118, 119, 120, 121, 122, 123, 124, 125, 147, 148, 149, 150, 151, 152, 153, 154, 155, 156, 136, 137, 138, 139, 140, 141, 142, 143, 144, 145, 146, 157, 158, 159, 160, 161, 162, 163, 164, 165, 166, 167] (by decide +kernel) (by decide +kernel)
set_option maxRecDepth 20000 in
theorem gX8_shy_X0_findBest : GoodIn wsX8_shy (wsV RX8 252 RX0 yX0_findBest wsX0_findBest) := goodIn_app (goodIn_of _ (by decide +kernel)) ggX8_shy_X0_findBest
theorem dX8_shy_0 : decode cX8_shy 0 = .ok (.aload_n 0, 1) := by decide +kernel
theorem dX8_shy_1 : decode cX8_shy 1 = .ok (.getfield 10, 3) := by decide +kernel
theorem dX8_shy_4 : decode cX8_shy 4 = .ok (.getfield 97, 3) := by decide +kernel
theorem dX8_shy_7 : decode cX8_shy 7 = .ok (.getfield 101, 3) := by decide +kernel
theorem dX8_shy_10 : decode cX8_shy 10 = .ok (.iconst 1, 1) := by decide +kernel
theorem dX8_shy_11 : decode cX8_shy 11 = .ok (.isub, 1) := by decide +kernel
theorem dX8_shy_12 : decode cX8_shy 12 = .ok (.istore_n 1, 1) := by decide +kernel
theorem dX8_shy_13 : decode cX8_shy 13 = .ok (.iconst 0, 1) := by decide +kernel
theorem dX8_shy_14 : decode cX8_shy 14 = .ok (.istore_n 2, 1) := by decide +kernel
theorem dX8_shy_15 : decode cX8_shy 15 = .ok (.iconst 0, 1) := by decide +kernel
theorem dX8_shy_16 : decode cX8_shy 16 = .ok (.istore_n 3, 1) := by decide +kernel
theorem dX8_shy_17 : decode cX8_shy 17 = .ok (.iload_n 3, 1) := by decide +kernel
theorem dX8_shy_18 : decode cX8_shy 18 = .ok (.aload_n 0, 1) := by decide +kernel
theorem dX8_shy_19 : decode cX8_shy 19 = .ok (.getfield 10, 3) := by decide +kernel
theorem dX8_shy_22 : decode cX8_shy 22 = .ok (.getfield 97, 3) := by decide +kernel
theorem dX8_shy_25 : decode cX8_shy 25 = .ok (.getfield 101, 3) := by decide +kernel
theorem dX8_shy_28 : decode cX8_shy 28 = .ok (.if_icmp .ge 48, 3) := by decide +kernel
theorem dX8_shy_31 : decode cX8_shy 31 = .ok (.aload_n 0, 1) := by decide +kernel
theorem dX8_shy_32 : decode cX8_shy 32 = .ok (.getfield 33, 3) := by decide +kernel
theorem dX8_shy_35 : decode cX8_shy 35 = .ok (.aload_n 0, 1) := by decide +kernel
theorem dX8_shy_36 : decode cX8_shy 36 = .ok (.getfield 10, 3) := by decide +kernel
theorem dX8_shy_39 : decode cX8_shy 39 = .ok (.iload_n 3, 1) := by decide +kernel
theorem dX8_shy_40 : decode cX8_shy 40 = .ok (.aload_n 0, 1) := by decide +kernel
theorem dX8_shy_41 : decode cX8_shy 41 = .ok (.getfield 10, 3) := by decide +kernel
theorem dX8_shy_44 : decode cX8_shy 44 = .ok (.getfield 97, 3) := by decide +kernel
theorem dX8_shy_47 : decode cX8_shy 47 = .ok (.getfield 134, 3) := by decide +kernel
theorem dX8_shy_50 : decode cX8_shy 50 = .ok (.invokevirtual 252, 3) := by decide +kernel
theorem dX8_shy_53 : decode cX8_shy 53 = .ok (.aload_n 0, 1) := by decide +kernel
theorem dX8_shy_54 : decode cX8_shy 54 = .ok (.getfield 33, 3) := by decide +kernel
theorem dX8_shy_57 : decode cX8_shy 57 = .ok (.getfield 259, 3) := by decide +kernel
theorem dX8_shy_60 : decode cX8_shy 60 = .ok (.iload_n 1, 1) := by decide +kernel
theorem dX8_shy_61 : decode cX8_shy 61 = .ok (.if_icmp .ne 9, 3) := by decide +kernel
theorem dX8_shy_64 : decode cX8_shy 64 = .ok (.iload_n 2, 1) := by decide +kernel
theorem dX8_shy_65 : decode cX8_shy 65 = .ok (.iconst 1, 1) := by decide +kernel
theorem dX8_shy_66 : decode cX8_shy 66 = .ok (.iload_n 3, 1) := by decide +kernel
theorem dX8_shy_67 : decode cX8_shy 67 = .ok (.ishl, 1) := by decide +kernel
theorem dX8_shy_68 : decode cX8_shy 68 = .ok (.ior, 1) := by decide +kernel
theorem dX8_shy_69 : decode cX8_shy 69 = .ok (.istore_n 2, 1) := by decide +kernel
theorem dX8_shy_70 : decode cX8_shy 70 = .ok (.iinc 3 1, 3) := by decide +kernel
theorem dX8_shy_73 : decode cX8_shy 73 = .ok (.goto (-56), 3) := by decide +kernel
theorem dX8_shy_76 : decode cX8_shy 76 = .ok (.iload_n 2, 1) := by decide +kernel
theorem dX8_shy_77 : decode cX8_shy 77 = .ok (.ireturn, 1) := by decide +kernel
set_option maxRecDepth 20000 in
theorem ggX8_wayLength_X8_needCell : GoodIn wsX8_wayLength wsX8_needCell := goodIn_ca (goodIn_r _ [5, 6, 7, 8, 9, 10, 11, 12, 13, 14, 15, 91, 92, 93, 94, 95, 96, 97, 98, 99, 100, 101, 102, 103, 104, 105, 106, 107, 108, 109, 110, 111] (by decide +kernel) (by decide +kernel)) (goodIn_sub (fun _ h => List.mem_cons_of_mem _ (List.mem_append_right _ h)) (by decide +kernel))
set_option maxRecDepth 20000 in
theorem gX8_wayLength_X8_needCell : GoodIn wsX8_wayLength (wsV RX8 161 RX8 yX8_needCell wsX8_needCell) := goodIn_app (goodIn_of _ (by decide +kernel)) ggX8_wayLength_X8_needCell
set_option maxRecDepth 20000 in
theorem ggX8_wayLength_X8_wayFrom : GoodIn wsX8_wayLength wsX8_wayFrom := goodIn_r _ [19, 20, 8, 21, 22, 23, 24, 25, 26, 27, 28, 29, 30, 31, 32, 10, 11, 12, 13, 14, 15, 33, 34, 35, 36, 37, 38, 39, 40, 41, 42, 43, 44, 45, 46, 47, 48, 49, 50, 51, 52, 53, 54, 55, 56, 57, 58, 59, 60, 61, 62, 63, 64, 65, 66, 67, 68, 69, 70, 71, 72, 73, 74, 75, 76, 77, 78, 79, 80, 81, 82, 83, 84, 85, 86, 87, 88, 89, 90, 91, 92, 93, 94, 95, 96, 97, 98, 99, 100, 101, 102, 103, 104, 105, 112, 113, 114, 115, 106, 107, 108, 109, 110, 111, 116, 117, 118, 119, 120, 121] (by decide +kernel) (by decide +kernel)
set_option maxRecDepth 20000 in
theorem gX8_wayLength_X8_wayFrom : GoodIn wsX8_wayLength (wsV RX8 269 RX8 yX8_wayFrom wsX8_wayFrom) := goodIn_app (goodIn_of _ (by decide +kernel)) ggX8_wayLength_X8_wayFrom
theorem dX8_wayLength_0 : decode cX8_wayLength 0 = .ok (.aload_n 0, 1) := by decide +kernel
theorem dX8_wayLength_1 : decode cX8_wayLength 1 = .ok (.iload_n 1, 1) := by decide +kernel
theorem dX8_wayLength_2 : decode cX8_wayLength 2 = .ok (.invokevirtual 161, 3) := by decide +kernel
theorem dX8_wayLength_5 : decode cX8_wayLength 5 = .ok (.aload_n 0, 1) := by decide +kernel
theorem dX8_wayLength_6 : decode cX8_wayLength 6 = .ok (.iload_n 1, 1) := by decide +kernel
theorem dX8_wayLength_7 : decode cX8_wayLength 7 = .ok (.invokevirtual 269, 3) := by decide +kernel
theorem dX8_wayLength_10 : decode cX8_wayLength 10 = .ok (.istore_n 2, 1) := by decide +kernel
theorem dX8_wayLength_11 : decode cX8_wayLength 11 = .ok (.iload_n 2, 1) := by decide +kernel
theorem dX8_wayLength_12 : decode cX8_wayLength 12 = .ok (.ifCond .ne 8, 3) := by decide +kernel
theorem dX8_wayLength_15 : decode cX8_wayLength 15 = .ok (.bipush (-3), 2) := by decide +kernel
theorem dX8_wayLength_17 : decode cX8_wayLength 17 = .ok (.goto 4, 3) := by decide +kernel
theorem dX8_wayLength_20 : decode cX8_wayLength 20 = .ok (.iload_n 2, 1) := by decide +kernel
theorem dX8_wayLength_21 : decode cX8_wayLength 21 = .ok (.ireturn, 1) := by decide +kernel
set_option maxRecDepth 20000 in
theorem ggX8_wayCell_X8_needCell : GoodIn wsX8_wayCell wsX8_needCell := goodIn_ca (goodIn_r _ [6, 7, 8, 9, 10, 11, 12, 13, 14, 15, 16, 95, 96, 97, 98, 99, 100, 101, 102, 103, 104, 105, 106, 107, 108, 109, 110, 111, 112, 113, 114, 115] (by decide +kernel) (by decide +kernel)) (goodIn_sub (fun _ h => List.mem_cons_of_mem _ (List.mem_append_right _ h)) (by decide +kernel))
set_option maxRecDepth 20000 in
theorem gX8_wayCell_X8_needCell : GoodIn wsX8_wayCell (wsV RX8 161 RX8 yX8_needCell wsX8_needCell) := goodIn_app (goodIn_of _ (by decide +kernel)) ggX8_wayCell_X8_needCell
set_option maxRecDepth 20000 in
theorem ggX8_wayCell_X8_wayFrom : GoodIn wsX8_wayCell wsX8_wayFrom := goodIn_r _ [20, 1, 9, 21, 22, 23, 24, 25, 26, 27, 28, 29, 30, 31, 32, 11, 12, 13, 14, 15, 16, 33, 34, 35, 36, 37, 38, 39, 40, 41, 42, 43, 44, 45, 46, 47, 48, 49, 50, 51, 52, 53, 54, 55, 56, 57, 58, 59, 60, 61, 62, 63, 64, 65, 66, 67, 68, 69, 70, 71, 72, 73, 74, 75, 76, 77, 78, 79, 80, 81, 82, 83, 84, 85, 86, 87, 88, 89, 90, 95, 96, 97, 98, 99, 100, 101, 102, 103, 104, 105, 106, 107, 108, 109, 116, 117, 118, 119, 110, 111, 112, 113, 114, 115, 120, 121, 122, 123, 124, 125] (by decide +kernel) (by decide +kernel)
set_option maxRecDepth 20000 in
theorem gX8_wayCell_X8_wayFrom : GoodIn wsX8_wayCell (wsV RX8 269 RX8 yX8_wayFrom wsX8_wayFrom) := goodIn_app (goodIn_of _ (by decide +kernel)) ggX8_wayCell_X8_wayFrom
set_option maxRecDepth 20000 in
theorem ggX8_wayCell_X7_wayAt : GoodIn wsX8_wayCell wsX7_wayAt := goodIn_r _ [94, 85, 86, 116, 117, 118, 119] (by decide +kernel) (by decide +kernel)
set_option maxRecDepth 20000 in
theorem gX8_wayCell_X7_wayAt : GoodIn wsX8_wayCell (wsV RX8 272 RX7 yX7_wayAt wsX7_wayAt) := goodIn_app (goodIn_of _ (by decide +kernel)) ggX8_wayCell_X7_wayAt
theorem dX8_wayCell_0 : decode cX8_wayCell 0 = .ok (.aload_n 0, 1) := by decide +kernel
theorem dX8_wayCell_1 : decode cX8_wayCell 1 = .ok (.iload_n 1, 1) := by decide +kernel
theorem dX8_wayCell_2 : decode cX8_wayCell 2 = .ok (.invokevirtual 161, 3) := by decide +kernel
theorem dX8_wayCell_5 : decode cX8_wayCell 5 = .ok (.aload_n 0, 1) := by decide +kernel
theorem dX8_wayCell_6 : decode cX8_wayCell 6 = .ok (.iload_n 1, 1) := by decide +kernel
theorem dX8_wayCell_7 : decode cX8_wayCell 7 = .ok (.invokevirtual 269, 3) := by decide +kernel
theorem dX8_wayCell_10 : decode cX8_wayCell 10 = .ok (.pop, 1) := by decide +kernel
theorem dX8_wayCell_11 : decode cX8_wayCell 11 = .ok (.aload_n 0, 1) := by decide +kernel
theorem dX8_wayCell_12 : decode cX8_wayCell 12 = .ok (.getfield 26, 3) := by decide +kernel
theorem dX8_wayCell_15 : decode cX8_wayCell 15 = .ok (.iload_n 2, 1) := by decide +kernel
theorem dX8_wayCell_16 : decode cX8_wayCell 16 = .ok (.invokevirtual 272, 3) := by decide +kernel
theorem dX8_wayCell_19 : decode cX8_wayCell 19 = .ok (.ireturn, 1) := by decide +kernel
set_option maxRecDepth 20000 in
theorem ggX8_washes_X8_needCell : GoodIn wsX8_washes wsX8_needCell := goodIn_ca (goodIn_r _ [7, 8, 9, 2, 10, 11, 12, 13, 14, 15, 16, 99, 100, 101, 102, 103, 104, 105, 106, 107, 108, 109, 110, 111, 112, 113, 114, 115, 116, 117, 118, 119] (by decide +kernel) (by decide +kernel)) (goodIn_sub (fun _ h => List.mem_cons_of_mem _ (List.mem_append_right _ h)) (by decide +kernel))
set_option maxRecDepth 20000 in
theorem gX8_washes_X8_needCell : GoodIn wsX8_washes (wsV RX8 161 RX8 yX8_needCell wsX8_needCell) := goodIn_app (goodIn_of _ (by decide +kernel)) ggX8_washes_X8_needCell
set_option maxRecDepth 20000 in
theorem ggX8_washes_X8_wayFrom : GoodIn wsX8_washes wsX8_wayFrom := goodIn_r _ [20, 1, 2, 21, 22, 23, 24, 25, 26, 27, 28, 29, 30, 31, 32, 11, 12, 13, 14, 15, 16, 33, 34, 35, 36, 37, 38, 39, 40, 41, 42, 43, 44, 45, 46, 47, 48, 49, 50, 51, 52, 53, 54, 55, 56, 57, 58, 59, 60, 61, 62, 63, 64, 65, 66, 67, 68, 69, 70, 71, 72, 73, 74, 75, 76, 77, 78, 79, 80, 81, 82, 83, 84, 85, 86, 87, 88, 89, 90, 99, 100, 101, 102, 103, 104, 105, 106, 107, 108, 109, 110, 111, 112, 113, 120, 121, 122, 123, 114, 115, 116, 117, 118, 119, 124, 125, 126, 127, 128, 129] (by decide +kernel) (by decide +kernel)
set_option maxRecDepth 20000 in
theorem gX8_washes_X8_wayFrom : GoodIn wsX8_washes (wsV RX8 269 RX8 yX8_wayFrom wsX8_wayFrom) := goodIn_app (goodIn_of _ (by decide +kernel)) ggX8_washes_X8_wayFrom
set_option maxRecDepth 20000 in
theorem ggX8_washes_X7_namesOnWay : GoodIn wsX8_washes wsX7_namesOnWay := goodIn_r _ [94, 85, 95, 96, 97, 24, 98, 86, 57, 58, 59, 36, 60, 61, 120, 121, 122, 123, 109, 110, 111, 112, 113] (by decide +kernel) (by decide +kernel)
set_option maxRecDepth 20000 in
theorem gX8_washes_X7_namesOnWay : GoodIn wsX8_washes (wsV RX8 275 RX7 yX7_namesOnWay wsX7_namesOnWay) := goodIn_app (goodIn_of _ (by decide +kernel)) ggX8_washes_X7_namesOnWay
theorem dX8_washes_0 : decode cX8_washes 0 = .ok (.aload_n 0, 1) := by decide +kernel
theorem dX8_washes_1 : decode cX8_washes 1 = .ok (.iload_n 1, 1) := by decide +kernel
theorem dX8_washes_2 : decode cX8_washes 2 = .ok (.invokevirtual 161, 3) := by decide +kernel
theorem dX8_washes_5 : decode cX8_washes 5 = .ok (.aload_n 0, 1) := by decide +kernel
theorem dX8_washes_6 : decode cX8_washes 6 = .ok (.iload_n 1, 1) := by decide +kernel
theorem dX8_washes_7 : decode cX8_washes 7 = .ok (.invokevirtual 269, 3) := by decide +kernel
theorem dX8_washes_10 : decode cX8_washes 10 = .ok (.pop, 1) := by decide +kernel
theorem dX8_washes_11 : decode cX8_washes 11 = .ok (.aload_n 0, 1) := by decide +kernel
theorem dX8_washes_12 : decode cX8_washes 12 = .ok (.getfield 26, 3) := by decide +kernel
theorem dX8_washes_15 : decode cX8_washes 15 = .ok (.aload_n 0, 1) := by decide +kernel
theorem dX8_washes_16 : decode cX8_washes 16 = .ok (.getfield 10, 3) := by decide +kernel
theorem dX8_washes_19 : decode cX8_washes 19 = .ok (.invokevirtual 275, 3) := by decide +kernel
theorem dX8_washes_22 : decode cX8_washes 22 = .ok (.ireturn, 1) := by decide +kernel
set_option maxRecDepth 20000 in
theorem ggX8_mildest_X7_survey : GoodIn wsX8_mildest wsX7_survey := goodIn_r _ [7, 8, 9, 10, 11, 12, 13, 14, 15, 16, 17, 18, 19, 20, 21, 22, 23, 24, 25, 26, 27, 28, 29, 30, 31, 32, 33, 34, 35, 36, 37, 38, 39, 40, 41, 42, 43, 44, 45, 46, 47, 48, 49, 50, 51, 52, 53, 54, 55, 56, 57, 58, 59, 60, 61, 62, 6, 63, 64, 65, 66, 67, 68, 105, 106, 107, 108, 109, 110, 111, 112, 113, 114, 115, 116, 117, 118, 119, 120, 121, 122, 123, 124, 125] (by decide +kernel) (by decide +kernel)
set_option maxRecDepth 20000 in
theorem gX8_mildest_X7_survey : GoodIn wsX8_mildest (wsV RX8 279 RX7 yX7_survey wsX7_survey) := goodIn_app (goodIn_of _ (by decide +kernel)) ggX8_mildest_X7_survey
set_option maxRecDepth 20000 in
theorem ggX8_mildest_X1_cells : GoodIn wsX8_mildest wsX1_cells := goodIn_r _ [18, 19, 20, 114, 115, 116, 117, 118, 119] (by decide +kernel) (by decide +kernel)
set_option maxRecDepth 20000 in
theorem gX8_mildest_X1_cells : GoodIn wsX8_mildest (wsV RX8 237 RX1 yX1_cells wsX1_cells) := goodIn_app (goodIn_of _ (by decide +kernel)) ggX8_mildest_X1_cells
set_option maxRecDepth 20000 in
theorem ggX8_mildest_X7_trace : GoodIn wsX8_mildest wsX7_trace := goodIn_r _ [73, 74, 75, 13, 12, 65, 66, 67, 6, 68, 76, 77, 78, 79, 64, 55, 56, 17, 57, 19, 20, 110, 111, 112, 113, 114, 115, 116, 117, 118, 119] (by decide +kernel) (by decide +kernel)
set_option maxRecDepth 20000 in
theorem gX8_mildest_X7_trace : GoodIn wsX8_mildest (wsV RX8 282 RX7 yX7_trace wsX7_trace) := goodIn_app (goodIn_of _ (by decide +kernel)) ggX8_mildest_X7_trace
set_option maxRecDepth 20000 in
theorem ggX8_mildest_X7_namesOnWay : GoodIn wsX8_mildest wsX7_namesOnWay := goodIn_r _ [83, 74, 84, 85, 86, 6, 87, 75, 45, 46, 47, 24, 48, 49, 110, 111, 112, 113, 105, 106, 107, 108, 109] (by decide +kernel) (by decide +kernel)
set_option maxRecDepth 20000 in
theorem gX8_mildest_X7_namesOnWay : GoodIn wsX8_mildest (wsV RX8 275 RX7 yX7_namesOnWay wsX7_namesOnWay) := goodIn_app (goodIn_of _ (by decide +kernel)) ggX8_mildest_X7_namesOnWay
set_option maxRecDepth 20000 in
theorem ggX8_mildest_J6_bitCount_0f7a4 : GoodIn wsX8_mildest wsJ6_bitCount_0f7a4 := goodIn_r _ [91, 92, 93, 94] (by decide +kernel) (by decide +kernel)
set_option maxRecDepth 20000 in
theorem gX8_mildest_J6_bitCount_0f7a4 : GoodIn wsX8_mildest (va_wsS RX8 128 yJ6_bitCount_0f7a4 wsJ6_bitCount_0f7a4) := goodIn_app (goodIn_of _ (by decide +kernel)) ggX8_mildest_J6_bitCount_0f7a4
