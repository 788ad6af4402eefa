set_option maxRecDepth 20000 in
theorem ggX8_room_X1_ahead : GoodIn wsX8_room wsX1_ahead := goodIn_r _ [25, 26, 27, 70, 71, 72, 73, 74, 75] (by decide +kernel) (by decide +kernel)
set_option maxRecDepth 20000 in
theorem gX8_room_X1_ahead : GoodIn wsX8_room (wsV RX8 227 RX1 yX1_ahead wsX1_ahead) := goodIn_app (goodIn_of _ (by decide +kernel)) ggX8_room_X1_ahead
set_option maxRecDepth 20000 in
theorem ggX8_room_X6_isOpen : GoodIn wsX8_room wsX6_isOpen := goodIn_r _ [32, 33, 34, 35, 36, 37, 24, 38, 39, 40, 41, 42, 43, 44, 45, 46, 47, 17, 48, 19, 20, 59, 60, 61, 62, 63, 70, 71, 72, 73, 74, 75, 64, 65, 66, 67, 68, 69] (by decide +kernel) (by decide +kernel)
set_option maxRecDepth 20000 in
theorem gX8_room_X6_isOpen : GoodIn wsX8_room (wsV RX8 231 RX6 yX6_isOpen wsX6_isOpen) := goodIn_app (goodIn_of _ (by decide +kernel)) ggX8_room_X6_isOpen
theorem dX8_room_0 : decode cX8_room 0 = .ok (.aload_n 0, 1) := by decide +kernel
theorem dX8_room_1 : decode cX8_room 1 = .ok (.iload_n 1, 1) := by decide +kernel
theorem dX8_room_2 : decode cX8_room 2 = .ok (.invokevirtual 188, 3) := by decide +kernel
theorem dX8_room_5 : decode cX8_room 5 = .ok (.iload_n 2, 1) := by decide +kernel
theorem dX8_room_6 : decode cX8_room 6 = .ok (.invokestatic 221, 3) := by decide +kernel
theorem dX8_room_9 : decode cX8_room 9 = .ok (.aload_n 0, 1) := by decide +kernel
theorem dX8_room_10 : decode cX8_room 10 = .ok (.getfield 10, 3) := by decide +kernel
theorem dX8_room_13 : decode cX8_room 13 = .ok (.getfield 97, 3) := by decide +kernel
theorem dX8_room_16 : decode cX8_room 16 = .ok (.iload_n 1, 1) := by decide +kernel
theorem dX8_room_17 : decode cX8_room 17 = .ok (.invokevirtual 191, 3) := by decide +kernel
theorem dX8_room_20 : decode cX8_room 20 = .ok (.istore_n 3, 1) := by decide +kernel
theorem dX8_room_21 : decode cX8_room 21 = .ok (.iconst 1, 1) := by decide +kernel
theorem dX8_room_22 : decode cX8_room 22 = .ok (.istore 4, 2) := by decide +kernel
theorem dX8_room_24 : decode cX8_room 24 = .ok (.iload 4, 2) := by decide +kernel
theorem dX8_room_26 : decode cX8_room 26 = .ok (.bipush 12, 2) := by decide +kernel
theorem dX8_room_28 : decode cX8_room 28 = .ok (.if_icmp .ge 38, 3) := by decide +kernel
theorem dX8_room_31 : decode cX8_room 31 = .ok (.aload_n 0, 1) := by decide +kernel
theorem dX8_room_32 : decode cX8_room 32 = .ok (.getfield 10, 3) := by decide +kernel
theorem dX8_room_35 : decode cX8_room 35 = .ok (.aload_n 0, 1) := by decide +kernel
theorem dX8_room_36 : decode cX8_room 36 = .ok (.getfield 10, 3) := by decide +kernel
theorem dX8_room_39 : decode cX8_room 39 = .ok (.getfield 106, 3) := by decide +kernel
theorem dX8_room_42 : decode cX8_room 42 = .ok (.iload_n 3, 1) := by decide +kernel
theorem dX8_room_43 : decode cX8_room 43 = .ok (.iload_n 2, 1) := by decide +kernel
theorem dX8_room_44 : decode cX8_room 44 = .ok (.iload 4, 2) := by decide +kernel
theorem dX8_room_46 : decode cX8_room 46 = .ok (.invokevirtual 227, 3) := by decide +kernel
theorem dX8_room_49 : decode cX8_room 49 = .ok (.invokevirtual 231, 3) := by decide +kernel
theorem dX8_room_52 : decode cX8_room 52 = .ok (.ifCond .ne 8, 3) := by decide +kernel
theorem dX8_room_55 : decode cX8_room 55 = .ok (.iload 4, 2) := by decide +kernel
theorem dX8_room_57 : decode cX8_room 57 = .ok (.iconst 1, 1) := by decide +kernel
theorem dX8_room_58 : decode cX8_room 58 = .ok (.isub, 1) := by decide +kernel
theorem dX8_room_59 : decode cX8_room 59 = .ok (.ireturn, 1) := by decide +kernel
theorem dX8_room_60 : decode cX8_room 60 = .ok (.iinc 4 1, 3) := by decide +kernel
theorem dX8_room_63 : decode cX8_room 63 = .ok (.goto (-39), 3) := by decide +kernel
theorem dX8_room_66 : decode cX8_room 66 = .ok (.bipush 11, 2) := by decide +kernel
theorem dX8_room_68 : decode cX8_room 68 = .ok (.ireturn, 1) := by decide +kernel
set_option maxRecDepth 20000 in
theorem ggX8_crossings_X6_crossedBy : GoodIn wsX8_crossings wsX6_crossedBy := goodIn_r _ [6, 7, 8, 9, 10, 11, 12, 13, 14, 15, 16, 17, 18, 19, 20, 21, 22, 23, 24, 25, 26, 27, 28, 29, 30, 31, 32, 33, 34, 35, 5, 36, 37, 55, 56, 57, 58, 59, 60, 61, 62, 63, 64, 65, 66, 67, 68, 69, 70, 71] (by decide +kernel) (by decide +kernel)
set_option maxRecDepth 20000 in
theorem gX8_crossings_X6_crossedBy : GoodIn wsX8_crossings (wsV RX8 234 RX6 yX6_crossedBy wsX6_crossedBy) := goodIn_app (goodIn_of _ (by decide +kernel)) ggX8_crossings_X6_crossedBy
set_option maxRecDepth 20000 in
theorem ggX8_crossings_J6_bitCount_0f7a4 : GoodIn wsX8_crossings wsJ6_bitCount_0f7a4 := goodIn_r _ [41, 42, 43, 44] (by decide +kernel) (by decide +kernel)
set_option maxRecDepth 20000 in
theorem gX8_crossings_J6_bitCount_0f7a4 : GoodIn wsX8_crossings (va_wsS RX8 128 yJ6_bitCount_0f7a4 wsJ6_bitCount_0f7a4) := goodIn_app (goodIn_of _ (by decide +kernel)) ggX8_crossings_J6_bitCount_0f7a4
theorem dX8_crossings_0 : decode cX8_crossings 0 = .ok (.iconst 0, 1) := by decide +kernel
theorem dX8_crossings_1 : decode cX8_crossings 1 = .ok (.istore_n 1, 1) := by decide +kernel
theorem dX8_crossings_2 : decode cX8_crossings 2 = .ok (.iconst 0, 1) := by decide +kernel
theorem dX8_crossings_3 : decode cX8_crossings 3 = .ok (.istore_n 2, 1) := by decide +kernel
theorem dX8_crossings_4 : decode cX8_crossings 4 = .ok (.iload_n 2, 1) := by decide +kernel
theorem dX8_crossings_5 : decode cX8_crossings 5 = .ok (.aload_n 0, 1) := by decide +kernel
theorem dX8_crossings_6 : decode cX8_crossings 6 = .ok (.getfield 10, 3) := by decide +kernel
theorem dX8_crossings_9 : decode cX8_crossings 9 = .ok (.getfield 97, 3) := by decide +kernel
theorem dX8_crossings_12 : decode cX8_crossings 12 = .ok (.getfield 101, 3) := by decide +kernel
theorem dX8_crossings_15 : decode cX8_crossings 15 = .ok (.if_icmp .ge 23, 3) := by decide +kernel
theorem dX8_crossings_18 : decode cX8_crossings 18 = .ok (.iload_n 1, 1) := by decide +kernel
theorem dX8_crossings_19 : decode cX8_crossings 19 = .ok (.aload_n 0, 1) := by decide +kernel
theorem dX8_crossings_20 : decode cX8_crossings 20 = .ok (.getfield 10, 3) := by decide +kernel
theorem dX8_crossings_23 : decode cX8_crossings 23 = .ok (.iload_n 2, 1) := by decide +kernel
theorem dX8_crossings_24 : decode cX8_crossings 24 = .ok (.invokevirtual 234, 3) := by decide +kernel
theorem dX8_crossings_27 : decode cX8_crossings 27 = .ok (.invokestatic 128, 3) := by decide +kernel
theorem dX8_crossings_30 : decode cX8_crossings 30 = .ok (.iadd, 1) := by decide +kernel
theorem dX8_crossings_31 : decode cX8_crossings 31 = .ok (.istore_n 1, 1) := by decide +kernel
theorem dX8_crossings_32 : decode cX8_crossings 32 = .ok (.iinc 2 1, 3) := by decide +kernel
theorem dX8_crossings_35 : decode cX8_crossings 35 = .ok (.goto (-31), 3) := by decide +kernel
theorem dX8_crossings_38 : decode cX8_crossings 38 = .ok (.iload_n 1, 1) := by decide +kernel
theorem dX8_crossings_39 : decode cX8_crossings 39 = .ok (.iconst 2, 1) := by decide +kernel
theorem dX8_crossings_40 : decode cX8_crossings 40 = .ok (.idiv, 1) := by decide +kernel
theorem dX8_crossings_41 : decode cX8_crossings 41 = .ok (.ireturn, 1) := by decide +kernel
set_option maxRecDepth 20000 in
theorem ggX8_crossed_X8_needHarbour : GoodIn wsX8_crossed wsX8_needHarbour := goodIn_ca (goodIn_r _ [6, 7, 8, 1, 45, 46, 47, 48, 49, 50, 51, 52, 53, 54, 55, 56, 57, 58, 59, 60, 61, 62, 63, 64, 65] (by decide +kernel) (by decide +kernel)) (goodIn_sub (fun _ h => List.mem_cons_of_mem _ (List.mem_append_right _ h)) (by decide +kernel))
set_option maxRecDepth 20000 in
theorem gX8_crossed_X8_needHarbour : GoodIn wsX8_crossed (wsV RX8 188 RX8 yX8_needHarbour wsX8_needHarbour) := goodIn_app (goodIn_of _ (by decide +kernel)) ggX8_crossed_X8_needHarbour
set_option maxRecDepth 20000 in
theorem ggX8_crossed_X6_crossedBy : GoodIn wsX8_crossed wsX6_crossedBy := goodIn_r _ [13, 14, 15, 16, 17, 18, 19, 20, 21, 22, 23, 24, 25, 26, 27, 28, 29, 30, 31, 32, 33, 34, 35, 36, 37, 38, 39, 40, 41, 42, 12, 43, 44, 55, 56, 57, 58, 59, 60, 61, 62, 63, 64, 65, 66, 67, 68, 69, 70, 71] (by decide +kernel) (by decide +kernel)
set_option maxRecDepth 20000 in
theorem gX8_crossed_X6_crossedBy : GoodIn wsX8_crossed (wsV RX8 234 RX6 yX6_crossedBy wsX6_crossedBy) := goodIn_app (goodIn_of _ (by decide +kernel)) ggX8_crossed_X6_crossedBy
theorem dX8_crossed_0 : decode cX8_crossed 0 = .ok (.aload_n 0, 1) := by decide +kernel
theorem dX8_crossed_1 : decode cX8_crossed 1 = .ok (.iload_n 1, 1) := by decide +kernel
theorem dX8_crossed_2 : decode cX8_crossed 2 = .ok (.invokevirtual 188, 3) := by decide +kernel
theorem dX8_crossed_5 : decode cX8_crossed 5 = .ok (.aload_n 0, 1) := by decide +kernel
theorem dX8_crossed_6 : decode cX8_crossed 6 = .ok (.getfield 10, 3) := by decide +kernel
theorem dX8_crossed_9 : decode cX8_crossed 9 = .ok (.iload_n 1, 1) := by decide +kernel
theorem dX8_crossed_10 : decode cX8_crossed 10 = .ok (.invokevirtual 234, 3) := by decide +kernel
theorem dX8_crossed_13 : decode cX8_crossed 13 = .ok (.ireturn, 1) := by decide +kernel
set_option maxRecDepth 20000 in
theorem ggX8_free_X1_cells : GoodIn wsX8_free wsX1_cells := goodIn_r _ [6, 7, 8, 53, 54, 55, 56, 57, 58] (by decide +kernel) (by decide +kernel)
set_option maxRecDepth 20000 in
theorem gX8_free_X1_cells : GoodIn wsX8_free (wsV RX8 237 RX1 yX1_cells wsX1_cells) := goodIn_app (goodIn_of _ (by decide +kernel)) ggX8_free_X1_cells
set_option maxRecDepth 20000 in
theorem ggX8_free_X6_isOpen : GoodIn wsX8_free wsX6_isOpen := goodIn_r _ [13, 14, 15, 16, 17, 18, 5, 19, 20, 21, 22, 23, 24, 25, 26, 27, 28, 29, 30, 31, 32, 48, 49, 50, 51, 52, 53, 54, 55, 56, 57, 58, 59, 60, 61, 62, 63, 64] (by decide +kernel) (by decide +kernel)
set_option maxRecDepth 20000 in
theorem gX8_free_X6_isOpen : GoodIn wsX8_free (wsV RX8 231 RX6 yX6_isOpen wsX6_isOpen) := goodIn_app (goodIn_of _ (by decide +kernel)) ggX8_free_X6_isOpen
set_option maxRecDepth 20000 in
theorem ggX8_free_X6_namesIn : GoodIn wsX8_free wsX6_namesIn := goodIn_r _ [36, 37, 48, 49, 50, 51, 52] (by decide +kernel) (by decide +kernel)
set_option maxRecDepth 20000 in
theorem gX8_free_X6_namesIn : GoodIn wsX8_free (wsV RX8 180 RX6 yX6_namesIn wsX6_namesIn) := goodIn_app (goodIn_of _ (by decide +kernel)) ggX8_free_X6_namesIn
theorem dX8_free_0 : decode cX8_free 0 = .ok (.aload_n 0, 1) := by decide +kernel
theorem dX8_free_1 : decode cX8_free 1 = .ok (.getfield 10, 3) := by decide +kernel
theorem dX8_free_4 : decode cX8_free 4 = .ok (.getfield 106, 3) := by decide +kernel
theorem dX8_free_7 : decode cX8_free 7 = .ok (.invokevirtual 237, 3) := by decide +kernel
theorem dX8_free_10 : decode cX8_free 10 = .ok (.istore_n 1, 1) := by decide +kernel
theorem dX8_free_11 : decode cX8_free 11 = .ok (.iconst 0, 1) := by decide +kernel
theorem dX8_free_12 : decode cX8_free 12 = .ok (.istore_n 2, 1) := by decide +kernel
theorem dX8_free_13 : decode cX8_free 13 = .ok (.iconst 0, 1) := by decide +kernel
theorem dX8_free_14 : decode cX8_free 14 = .ok (.istore_n 3, 1) := by decide +kernel
theorem dX8_free_15 : decode cX8_free 15 = .ok (.iload_n 3, 1) := by decide +kernel
theorem dX8_free_16 : decode cX8_free 16 = .ok (.iload_n 1, 1) := by decide +kernel
theorem dX8_free_17 : decode cX8_free 17 = .ok (.if_icmp .ge 34, 3) := by decide +kernel
theorem dX8_free_20 : decode cX8_free 20 = .ok (.aload_n 0, 1) := by decide +kernel
theorem dX8_free_21 : decode cX8_free 21 = .ok (.getfield 10, 3) := by decide +kernel
theorem dX8_free_24 : decode cX8_free 24 = .ok (.iload_n 3, 1) := by decide +kernel
theorem dX8_free_25 : decode cX8_free 25 = .ok (.invokevirtual 231, 3) := by decide +kernel
theorem dX8_free_28 : decode cX8_free 28 = .ok (.ifCond .eq 17, 3) := by decide +kernel
theorem dX8_free_31 : decode cX8_free 31 = .ok (.aload_n 0, 1) := by decide +kernel
theorem dX8_free_32 : decode cX8_free 32 = .ok (.getfield 10, 3) := by decide +kernel
theorem dX8_free_35 : decode cX8_free 35 = .ok (.iload_n 3, 1) := by decide +kernel
theorem dX8_free_36 : decode cX8_free 36 = .ok (.invokevirtual 180, 3) := by decide +kernel
theorem dX8_free_39 : decode cX8_free 39 = .ok (.ifCond .ne 6, 3) := by decide +kernel
theorem dX8_free_42 : decode cX8_free 42 = .ok (.iinc 2 1, 3) := by decide +kernel
theorem dX8_free_45 : decode cX8_free 45 = .ok (.iinc 3 1, 3) := by decide +kernel
theorem dX8_free_48 : decode cX8_free 48 = .ok (.goto (-33), 3) := by decide +kernel
theorem dX8_free_51 : decode cX8_free 51 = .ok (.iload_n 2, 1) := by decide +kernel
theorem dX8_free_52 : decode cX8_free 52 = .ok (.ireturn, 1) := by decide +kernel
set_option maxRecDepth 20000 in
theorem ggX8_upright_X8_needTurn : GoodIn wsX8_upright wsX8_needTurn := goodIn_ca (goodIn_r _ [5, 6, 7] (by decide +kernel) (by decide +kernel)) (goodIn_sub (fun _ h => List.mem_cons_of_mem _ (List.mem_append_right _ h)) (by decide +kernel))
set_option maxRecDepth 20000 in
theorem gX8_upright_X8_needTurn : GoodIn wsX8_upright (va_wsS RX8 240 yX8_needTurn wsX8_needTurn) := goodIn_app (goodIn_of _ (by decide +kernel)) ggX8_upright_X8_needTurn
set_option maxRecDepth 20000 in
theorem ggX8_upright_X2_directionOf : GoodIn wsX8_upright wsX2_directionOf := goodIn_r _ [12, 13, 14, 33, 34, 35, 36, 37, 38] (by decide +kernel) (by decide +kernel)
set_option maxRecDepth 20000 in
theorem gX8_upright_X2_directionOf : GoodIn wsX8_upright (wsV RX8 197 RX2 yX2_directionOf wsX2_directionOf) := goodIn_app (goodIn_of _ (by decide +kernel)) ggX8_upright_X2_directionOf
set_option maxRecDepth 20000 in
theorem ggX8_upright_X8_uprightTurn : GoodIn wsX8_upright wsX8_uprightTurn := goodIn_r _ [17] (by decide +kernel) (by decide +kernel)
set_option maxRecDepth 20000 in
theorem gX8_upright_X8_uprightTurn : GoodIn wsX8_upright (va_wsS RX8 243 yX8_uprightTurn wsX8_uprightTurn) := goodIn_app (goodIn_of _ (by decide +kernel)) ggX8_upright_X8_uprightTurn
theorem dX8_upright_0 : decode cX8_upright 0 = .ok (.iload_n 1, 1) := by decide +kernel
theorem dX8_upright_1 : decode cX8_upright 1 = .ok (.invokestatic 240, 3) := by decide +kernel
theorem dX8_upright_4 : decode cX8_upright 4 = .ok (.iconst 0, 1) := by decide +kernel
theorem dX8_upright_5 : decode cX8_upright 5 = .ok (.istore_n 2, 1) := by decide +kernel
theorem dX8_upright_6 : decode cX8_upright 6 = .ok (.iconst 0, 1) := by decide +kernel
theorem dX8_upright_7 : decode cX8_upright 7 = .ok (.istore_n 3, 1) := by decide +kernel
theorem dX8_upright_8 : decode cX8_upright 8 = .ok (.iload_n 3, 1) := by decide +kernel
theorem dX8_upright_9 : decode cX8_upright 9 = .ok (.aload_n 0, 1) := by decide +kernel
theorem dX8_upright_10 : decode cX8_upright 10 = .ok (.getfield 10, 3) := by decide +kernel
theorem dX8_upright_13 : decode cX8_upright 13 = .ok (.getfield 97, 3) := by decide +kernel
theorem dX8_upright_16 : decode cX8_upright 16 = .ok (.getfield 101, 3) := by decide +kernel
theorem dX8_upright_19 : decode cX8_upright 19 = .ok (.if_icmp .ge 43, 3) := by decide +kernel
theorem dX8_upright_22 : decode cX8_upright 22 = .ok (.aload_n 0, 1) := by decide +kernel
theorem dX8_upright_23 : decode cX8_upright 23 = .ok (.getfield 10, 3) := by decide +kernel
theorem dX8_upright_26 : decode cX8_upright 26 = .ok (.getfield 97, 3) := by decide +kernel
theorem dX8_upright_29 : decode cX8_upright 29 = .ok (.iload_n 3, 1) := by decide +kernel
theorem dX8_upright_30 : decode cX8_upright 30 = .ok (.invokevirtual 197, 3) := by decide +kernel
theorem dX8_upright_33 : decode cX8_upright 33 = .ok (.istore 4, 2) := by decide +kernel
theorem dX8_upright_35 : decode cX8_upright 35 = .ok (.iload 4, 2) := by decide +kernel
theorem dX8_upright_37 : decode cX8_upright 37 = .ok (.iconst (-1), 1) := by decide +kernel
theorem dX8_upright_38 : decode cX8_upright 38 = .ok (.if_icmp .eq 18, 3) := by decide +kernel
theorem dX8_upright_41 : decode cX8_upright 41 = .ok (.iload 4, 2) := by decide +kernel
theorem dX8_upright_43 : decode cX8_upright 43 = .ok (.invokestatic 243, 3) := by decide +kernel
theorem dX8_upright_46 : decode cX8_upright 46 = .ok (.iload_n 1, 1) := by decide +kernel
theorem dX8_upright_47 : decode cX8_upright 47 = .ok (.if_icmp .ne 9, 3) := by decide +kernel
theorem dX8_upright_50 : decode cX8_upright 50 = .ok (.iload_n 2, 1) := by decide +kernel
theorem dX8_upright_51 : decode cX8_upright 51 = .ok (.iconst 1, 1) := by decide +kernel
theorem dX8_upright_52 : decode cX8_upright 52 = .ok (.iload_n 3, 1) := by decide +kernel
theorem dX8_upright_53 : decode cX8_upright 53 = .ok (.ishl, 1) := by decide +kernel
theorem dX8_upright_54 : decode cX8_upright 54 = .ok (.ior, 1) := by decide +kernel
theorem dX8_upright_55 : decode cX8_upright 55 = .ok (.istore_n 2, 1) := by decide +kernel
theorem dX8_upright_56 : decode cX8_upright 56 = .ok (.iinc 3 1, 3) := by decide +kernel
theorem dX8_upright_59 : decode cX8_upright 59 = .ok (.goto (-51), 3) := by decide +kernel
theorem dX8_upright_62 : decode cX8_upright 62 = .ok (.iload_n 2, 1) := by decide +kernel
theorem dX8_upright_63 : decode cX8_upright 63 = .ok (.ireturn, 1) := by decide +kernel
set_option maxRecDepth 20000 in
theorem ggX8_turning_X6_turningNow : GoodIn wsX8_turning wsX6_turningNow := goodIn_r _ [6, 7, 8, 9, 10, 11, 12, 13, 14, 15, 16, 17, 18, 19, 20, 21, 22, 23, 24, 25, 26, 27, 28, 29, 30, 31, 42, 43, 44, 45, 46, 52, 53, 54, 55, 56, 57, 47, 48, 49, 50, 51] (by decide +kernel) (by decide +kernel)
set_option maxRecDepth 20000 in
theorem gX8_turning_X6_turningNow : GoodIn wsX8_turning (wsV RX8 246 RX6 yX6_turningNow wsX6_turningNow) := goodIn_app (goodIn_of _ (by decide +kernel)) ggX8_turning_X6_turningNow
theorem dX8_turning_0 : decode cX8_turning 0 = .ok (.aload_n 0, 1) := by decide +kernel
theorem dX8_turning_1 : decode cX8_turning 1 = .ok (.getfield 10, 3) := by decide +kernel
theorem dX8_turning_4 : decode cX8_turning 4 = .ok (.aload_n 0, 1) := by decide +kernel
theorem dX8_turning_5 : decode cX8_turning 5 = .ok (.getfield 10, 3) := by decide +kernel
theorem dX8_turning_8 : decode cX8_turning 8 = .ok (.getfield 137, 3) := by decide +kernel
theorem dX8_turning_11 : decode cX8_turning 11 = .ok (.getfield 144, 3) := by decide +kernel
theorem dX8_turning_14 : decode cX8_turning 14 = .ok (.invokevirtual 246, 3) := by decide +kernel
theorem dX8_turning_17 : decode cX8_turning 17 = .ok (.ireturn, 1) := by decide +kernel
set_option maxRecDepth 20000 in
theorem ggX8_turningFrom_X8_needTurn : GoodIn wsX8_turningFrom wsX8_needTurn := goodIn_ca (goodIn_r _ [5, 6, 7] (by decide +kernel) (by decide +kernel)) (goodIn_sub (fun _ h => List.mem_cons_of_mem _ (List.mem_append_right _ h)) (by decide +kernel))
set_option maxRecDepth 20000 in
theorem gX8_turningFrom_X8_needTurn : GoodIn wsX8_turningFrom (va_wsS RX8 240 yX8_needTurn wsX8_needTurn) := goodIn_app (goodIn_of _ (by decide +kernel)) ggX8_turningFrom_X8_needTurn
set_option maxRecDepth 20000 in
theorem ggX8_turningFrom_X6_turningNow : GoodIn wsX8_turningFrom wsX6_turningNow := goodIn_r _ [12, 13, 14, 15, 16, 17, 18, 19, 20, 21, 22, 23, 24, 25, 26, 4, 27, 28, 29, 30, 31, 32, 33, 34, 35, 36, 47, 48, 49, 50, 51, 52, 53, 54, 55, 56, 57, 58, 59, 60, 61, 62] (by decide +kernel) (by decide +kernel)
set_option maxRecDepth 20000 in
theorem gX8_turningFrom_X6_turningNow : GoodIn wsX8_turningFrom (wsV RX8 246 RX6 yX6_turningNow wsX6_turningNow) := goodIn_app (goodIn_of _ (by decide +kernel)) ggX8_turningFrom_X6_turningNow
theorem dX8_turningFrom_0 : decode cX8_turningFrom 0 = .ok (.iload_n 1, 1) := by decide +kernel
theorem dX8_turningFrom_1 : decode cX8_turningFrom 1 = .ok (.invokestatic 240, 3) := by decide +kernel
theorem dX8_turningFrom_4 : decode cX8_turningFrom 4 = .ok (.aload_n 0, 1) := by decide +kernel
theorem dX8_turningFrom_5 : decode cX8_turningFrom 5 = .ok (.getfield 10, 3) := by decide +kernel
theorem dX8_turningFrom_8 : decode cX8_turningFrom 8 = .ok (.iload_n 1, 1) := by decide +kernel
theorem dX8_turningFrom_9 : decode cX8_turningFrom 9 = .ok (.invokevirtual 246, 3) := by decide +kernel
theorem dX8_turningFrom_12 : decode cX8_turningFrom 12 = .ok (.ireturn, 1) := by decide +kernel
set_option maxRecDepth 20000 in
theorem ggX8_bestTurn_X6_turningNow : GoodIn wsX8_bestTurn wsX6_turningNow := goodIn_r _ [6, 7, 8, 9, 10, 11, 12, 13, 14, 15, 16, 17, 18, 19, 20, 21, 22, 23, 24, 25, 26, 27, 28, 29, 30, 31, 42, 43, 44, 45, 46, 47, 48, 49, 50, 51, 52, 53, 54, 55, 56, 57] (by decide +kernel) (by decide +kernel)
set_option maxRecDepth 20000 in
theorem gX8_bestTurn_X6_turningNow : GoodIn wsX8_bestTurn (wsV RX8 246 RX6 yX6_turningNow wsX6_turningNow) := goodIn_app (goodIn_of _ (by decide +kernel)) ggX8_bestTurn_X6_turningNow
theorem dX8_bestTurn_0 : decode cX8_bestTurn 0 = .ok (.iconst 0, 1) := by decide +kernel
theorem dX8_bestTurn_1 : decode cX8_bestTurn 1 = .ok (.istore_n 1, 1) := by decide +kernel
theorem dX8_bestTurn_2 : decode cX8_bestTurn 2 = .ok (.aload_n 0, 1) := by decide +kernel
theorem dX8_bestTurn_3 : decode cX8_bestTurn 3 = .ok (.getfield 10, 3) := by decide +kernel
theorem dX8_bestTurn_6 : decode cX8_bestTurn 6 = .ok (.iconst 0, 1) := by decide +kernel
theorem dX8_bestTurn_7 : decode cX8_bestTurn 7 = .ok (.invokevirtual 246, 3) := by decide +kernel
theorem dX8_bestTurn_10 : decode cX8_bestTurn 10 = .ok (.istore_n 2, 1) := by decide +kernel
theorem dX8_bestTurn_11 : decode cX8_bestTurn 11 = .ok (.iconst 1, 1) := by decide +kernel
theorem dX8_bestTurn_12 : decode cX8_bestTurn 12 = .ok (.istore_n 3, 1) := by decide +kernel
theorem dX8_bestTurn_13 : decode cX8_bestTurn 13 = .ok (.iload_n 3, 1) := by decide +kernel
theorem dX8_bestTurn_14 : decode cX8_bestTurn 14 = .ok (.iconst 4, 1) := by decide +kernel
theorem dX8_bestTurn_15 : decode cX8_bestTurn 15 = .ok (.if_icmp .ge 30, 3) := by decide +kernel
theorem dX8_bestTurn_18 : decode cX8_bestTurn 18 = .ok (.aload_n 0, 1) := by decide +kernel
theorem dX8_bestTurn_19 : decode cX8_bestTurn 19 = .ok (.getfield 10, 3) := by decide +kernel
theorem dX8_bestTurn_22 : decode cX8_bestTurn 22 = .ok (.iload_n 3, 1) := by decide +kernel
theorem dX8_bestTurn_23 : decode cX8_bestTurn 23 = .ok (.invokevirtual 246, 3) := by decide +kernel
theorem dX8_bestTurn_26 : decode cX8_bestTurn 26 = .ok (.istore 4, 2) := by decide +kernel
theorem dX8_bestTurn_28 : decode cX8_bestTurn 28 = .ok (.iload 4, 2) := by decide +kernel
theorem dX8_bestTurn_30 : decode cX8_bestTurn 30 = .ok (.iload_n 2, 1) := by decide +kernel
theorem dX8_bestTurn_31 : decode cX8_bestTurn 31 = .ok (.if_icmp .ge 8, 3) := by decide +kernel
theorem dX8_bestTurn_34 : decode cX8_bestTurn 34 = .ok (.iload_n 3, 1) := by decide +kernel
theorem dX8_bestTurn_35 : decode cX8_bestTurn 35 = .ok (.istore_n 1, 1) := by decide +kernel
theorem dX8_bestTurn_36 : decode cX8_bestTurn 36 = .ok (.iload 4, 2) := by decide +kernel
theorem dX8_bestTurn_38 : decode cX8_bestTurn 38 = .ok (.istore_n 2, 1) := by decide +kernel
theorem dX8_bestTurn_39 : decode cX8_bestTurn 39 = .ok (.iinc 3 1, 3) := by decide +kernel
theorem dX8_bestTurn_42 : decode cX8_bestTurn 42 = .ok (.goto (-29), 3) := by decide +kernel
theorem dX8_bestTurn_45 : decode cX8_bestTurn 45 = .ok (.iload_n 1, 1) := by decide +kernel
theorem dX8_bestTurn_46 : decode cX8_bestTurn 46 = .ok (.ireturn, 1) := by decide +kernel
set_option maxRecDepth 20000 in
theorem ggX8_hardest_X4_stopAt : GoodIn wsX8_hardest wsX4_stopAt := goodIn_r _ [6, 7, 8, 45, 46, 47, 48, 49] (by decide +kernel) (by decide +kernel)
set_option maxRecDepth 20000 in
theorem gX8_hardest_X4_stopAt : GoodIn wsX8_hardest (wsV RX8 218 RX4 yX4_stopAt wsX4_stopAt) := goodIn_app (goodIn_of _ (by decide +kernel)) ggX8_hardest_X4_stopAt
set_option maxRecDepth 20000 in
theorem ggX8_hardest_X2_directionOf : GoodIn wsX8_hardest wsX2_directionOf := goodIn_r _ [13, 14, 15, 50, 51, 52, 53, 54, 55] (by decide +kernel) (by decide +kernel)
set_option maxRecDepth 20000 in
theorem gX8_hardest_X2_directionOf : GoodIn wsX8_hardest (wsV RX8 197 RX2 yX2_directionOf wsX2_directionOf) := goodIn_app (goodIn_of _ (by decide +kernel)) ggX8_hardest_X2_directionOf
set_option maxRecDepth 20000 in
theorem ggX8_hardest_X8_uprightTurn : GoodIn wsX8_hardest wsX8_uprightTurn := goodIn_r _ [19] (by decide +kernel) (by decide +kernel)
set_option maxRecDepth 20000 in
theorem gX8_hardest_X8_uprightTurn : GoodIn wsX8_hardest (va_wsS RX8 243 yX8_uprightTurn wsX8_uprightTurn) := goodIn_app (goodIn_of _ (by decide +kernel)) ggX8_hardest_X8_uprightTurn
set_option maxRecDepth 20000 in
theorem ggX8_hardest_X8_quartersBetween : GoodIn wsX8_hardest wsX8_quartersBetween := goodIn_r _ [22, 23, 24, 25, 26, 27, 28, 29] (by decide +kernel) (by decide +kernel)
set_option maxRecDepth 20000 in
theorem gX8_hardest_X8_quartersBetween : GoodIn wsX8_hardest (va_wsS RX8 249 yX8_quartersBetween wsX8_quartersBetween) := goodIn_app (goodIn_of _ (by decide +kernel)) ggX8_hardest_X8_quartersBetween
theorem dX8_hardest_0 : decode cX8_hardest 0 = .ok (.iconst (-1), 1) := by decide +kernel
theorem dX8_hardest_1 : decode cX8_hardest 1 = .ok (.istore_n 1, 1) := by decide +kernel
theorem dX8_hardest_2 : decode cX8_hardest 2 = .ok (.iconst 0, 1) := by decide +kernel
theorem dX8_hardest_3 : decode cX8_hardest 3 = .ok (.istore_n 2, 1) := by decide +kernel
theorem dX8_hardest_4 : decode cX8_hardest 4 = .ok (.aload_n 0, 1) := by decide +kernel
theorem dX8_hardest_5 : decode cX8_hardest 5 = .ok (.getfield 10, 3) := by decide +kernel
theorem dX8_hardest_8 : decode cX8_hardest 8 = .ok (.getfield 137, 3) := by decide +kernel
theorem dX8_hardest_11 : decode cX8_hardest 11 = .ok (.getfield 144, 3) := by decide +kernel
theorem dX8_hardest_14 : decode cX8_hardest 14 = .ok (.istore_n 3, 1) := by decide +kernel
theorem dX8_hardest_15 : decode cX8_hardest 15 = .ok (.iconst 0, 1) := by decide +kernel
theorem dX8_hardest_16 : decode cX8_hardest 16 = .ok (.istore 4, 2) := by decide +kernel
theorem dX8_hardest_18 : decode cX8_hardest 18 = .ok (.iload 4, 2) := by decide +kernel
theorem dX8_hardest_20 : decode cX8_hardest 20 = .ok (.aload_n 0, 1) := by decide +kernel
theorem dX8_hardest_21 : decode cX8_hardest 21 = .ok (.getfield 10, 3) := by decide +kernel
theorem dX8_hardest_24 : decode cX8_hardest 24 = .ok (.getfield 137, 3) := by decide +kernel
theorem dX8_hardest_27 : decode cX8_hardest 27 = .ok (.getfield 141, 3) := by decide +kernel
theorem dX8_hardest_30 : decode cX8_hardest 30 = .ok (.if_icmp .ge 68, 3) := by decide +kernel
theorem dX8_hardest_33 : decode cX8_hardest 33 = .ok (.aload_n 0, 1) := by decide +kernel
theorem dX8_hardest_34 : decode cX8_hardest 34 = .ok (.getfield 10, 3) := by decide +kernel
theorem dX8_hardest_37 : decode cX8_hardest 37 = .ok (.getfield 97, 3) := by decide +kernel
theorem dX8_hardest_40 : decode cX8_hardest 40 = .ok (.aload_n 0, 1) := by decide +kernel
theorem dX8_hardest_41 : decode cX8_hardest 41 = .ok (.getfield 10, 3) := by decide +kernel
theorem dX8_hardest_44 : decode cX8_hardest 44 = .ok (.getfield 137, 3) := by decide +kernel
theorem dX8_hardest_47 : decode cX8_hardest 47 = .ok (.iload 4, 2) := by decide +kernel
theorem dX8_hardest_49 : decode cX8_hardest 49 = .ok (.invokevirtual 218, 3) := by decide +kernel
theorem dX8_hardest_52 : decode cX8_hardest 52 = .ok (.invokevirtual 197, 3) := by decide +kernel
theorem dX8_hardest_55 : decode cX8_hardest 55 = .ok (.istore 5, 2) := by decide +kernel
theorem dX8_hardest_57 : decode cX8_hardest 57 = .ok (.iload 5, 2) := by decide +kernel
theorem dX8_hardest_59 : decode cX8_hardest 59 = .ok (.iconst (-1), 1) := by decide +kernel
theorem dX8_hardest_60 : decode cX8_hardest 60 = .ok (.if_icmp .eq 32, 3) := by decide +kernel
theorem dX8_hardest_63 : decode cX8_hardest 63 = .ok (.iload_n 3, 1) := by decide +kernel
theorem dX8_hardest_64 : decode cX8_hardest 64 = .ok (.iload 5, 2) := by decide +kernel
theorem dX8_hardest_66 : decode cX8_hardest 66 = .ok (.invokestatic 243, 3) := by decide +kernel
theorem dX8_hardest_69 : decode cX8_hardest 69 = .ok (.invokestatic 249, 3) := by decide +kernel
theorem dX8_hardest_72 : decode cX8_hardest 72 = .ok (.istore 6, 2) := by decide +kernel
theorem dX8_hardest_74 : decode cX8_hardest 74 = .ok (.iload 5, 2) := by decide +kernel
theorem dX8_hardest_76 : decode cX8_hardest 76 = .ok (.invokestatic 243, 3) := by decide +kernel
theorem dX8_hardest_79 : decode cX8_hardest 79 = .ok (.istore_n 3, 1) := by decide +kernel
theorem dX8_hardest_80 : decode cX8_hardest 80 = .ok (.iload 6, 2) := by decide +kernel
theorem dX8_hardest_82 : decode cX8_hardest 82 = .ok (.iload_n 2, 1) := by decide +kernel
theorem dX8_hardest_83 : decode cX8_hardest 83 = .ok (.if_icmp .le 9, 3) := by decide +kernel
theorem dX8_hardest_86 : decode cX8_hardest 86 = .ok (.iload 4, 2) := by decide +kernel
theorem dX8_hardest_88 : decode cX8_hardest 88 = .ok (.istore_n 1, 1) := by decide +kernel
theorem dX8_hardest_89 : decode cX8_hardest 89 = .ok (.iload 6, 2) := by decide +kernel
theorem dX8_hardest_91 : decode cX8_hardest 91 = .ok (.istore_n 2, 1) := by decide +kernel
theorem dX8_hardest_92 : decode cX8_hardest 92 = .ok (.iinc 4 1, 3) := by decide +kernel
theorem dX8_hardest_95 : decode cX8_hardest 95 = .ok (.goto (-77), 3) := by decide +kernel
theorem dX8_hardest_98 : decode cX8_hardest 98 = .ok (.iload_n 1, 1) := by decide +kernel
theorem dX8_hardest_99 : decode cX8_hardest 99 = .ok (.ireturn, 1) := by decide +kernel
