theorem dX0_init_0 : decode cX0_init 0 = .ok (.aload_n 0, 1) := by decide +kernel
theorem dX0_init_1 : decode cX0_init 1 = .ok (.invokespecial 3, 3) := by decide +kernel
theorem dX0_init_4 : decode cX0_init 4 = .ok (.aload_n 0, 1) := by decide +kernel
theorem dX0_init_5 : decode cX0_init 5 = .ok (.bipush 8, 2) := by decide +kernel
theorem dX0_init_7 : decode cX0_init 7 = .ok (.newarray .int, 2) := by decide +kernel
theorem dX0_init_9 : decode cX0_init 9 = .ok (.putfield 9, 3) := by decide +kernel
theorem dX0_init_12 : decode cX0_init 12 = .ok (.aload_n 0, 1) := by decide +kernel
theorem dX0_init_13 : decode cX0_init 13 = .ok (.bipush 32, 2) := by decide +kernel
theorem dX0_init_15 : decode cX0_init 15 = .ok (.newarray .int, 2) := by decide +kernel
theorem dX0_init_17 : decode cX0_init 17 = .ok (.putfield 15, 3) := by decide +kernel
theorem dX0_init_20 : decode cX0_init 20 = .ok (.aload_n 0, 1) := by decide +kernel
theorem dX0_init_21 : decode cX0_init 21 = .ok (.bipush 9, 2) := by decide +kernel
theorem dX0_init_23 : decode cX0_init 23 = .ok (.newarray .int, 2) := by decide +kernel
theorem dX0_init_25 : decode cX0_init 25 = .ok (.putfield 18, 3) := by decide +kernel
theorem dX0_init_28 : decode cX0_init 28 = .ok (.aload_n 0, 1) := by decide +kernel
theorem dX0_init_29 : decode cX0_init 29 = .ok (.bipush 9, 2) := by decide +kernel
theorem dX0_init_31 : decode cX0_init 31 = .ok (.newarray .int, 2) := by decide +kernel
theorem dX0_init_33 : decode cX0_init 33 = .ok (.putfield 21, 3) := by decide +kernel
theorem dX0_init_36 : decode cX0_init 36 = .ok (.aload_n 0, 1) := by decide +kernel
theorem dX0_init_37 : decode cX0_init 37 = .ok (.bipush 8, 2) := by decide +kernel
theorem dX0_init_39 : decode cX0_init 39 = .ok (.newarray .int, 2) := by decide +kernel
theorem dX0_init_41 : decode cX0_init 41 = .ok (.putfield 24, 3) := by decide +kernel
theorem dX0_init_44 : decode cX0_init 44 = .ok (.aload_n 0, 1) := by decide +kernel
theorem dX0_init_45 : decode cX0_init 45 = .ok (.bipush 8, 2) := by decide +kernel
theorem dX0_init_47 : decode cX0_init 47 = .ok (.newarray .int, 2) := by decide +kernel
theorem dX0_init_49 : decode cX0_init 49 = .ok (.putfield 27, 3) := by decide +kernel
theorem dX0_init_52 : decode cX0_init 52 = .ok (.return_, 1) := by decide +kernel
set_option maxRecDepth 20000 in
theorem ggX0_findBest_X0_groundWays : GoodIn wsX0_findBest wsX0_groundWays := goodIn_r _ [13, 14, 15, 16, 17, 18, 19, 20, 21, 22, 23, 24, 25, 26, 27, 28, 29, 30, 31, 32, 33, 34, 35, 36, 37, 38, 39, 40, 41, 42, 43, 44, 45, 46, 47, 48, 49, 50, 51, 52, 53, 54, 55, 56, 57, 130, 131, 132, 133, 134, 135, 136, 137, 138, 139, 140, 141, 142, 143, 144, 145, 146] (by decide +kernel) (by decide +kernel)
set_option maxRecDepth 20000 in
theorem gX0_findBest_X0_groundWays : GoodIn wsX0_findBest (wsV RX0 43 RX0 yX0_groundWays wsX0_groundWays) := goodIn_app (goodIn_of _ (by decide +kernel)) ggX0_findBest_X0_groundWays
set_option maxRecDepth 20000 in
theorem ggX0_findBest_X0_countLeft : GoodIn wsX0_findBest wsX0_countLeft := goodIn_r _ [61, 62, 63, 7, 1, 120, 121, 122, 123, 124, 125, 126, 127, 128, 129] (by decide +kernel) (by decide +kernel)
set_option maxRecDepth 20000 in
theorem gX0_findBest_X0_countLeft : GoodIn wsX0_findBest (wsV RX0 47 RX0 yX0_countLeft wsX0_countLeft) := goodIn_app (goodIn_of _ (by decide +kernel)) ggX0_findBest_X0_countLeft
set_option maxRecDepth 20000 in
theorem ggX0_findBest_X0_isAllowed : GoodIn wsX0_findBest wsX0_isAllowed := goodIn_r _ [67, 7, 120, 121, 122, 123, 124, 125, 126, 127, 128, 129] (by decide +kernel) (by decide +kernel)
set_option maxRecDepth 20000 in
theorem gX0_findBest_X0_isAllowed : GoodIn wsX0_findBest (wsV RX0 50 RX0 yX0_isAllowed wsX0_isAllowed) := goodIn_app (goodIn_of _ (by decide +kernel)) ggX0_findBest_X0_isAllowed
set_option maxRecDepth 20000 in
theorem ggX0_findBest_X0_foesOf : GoodIn wsX0_findBest wsX0_foesOf := goodIn_r _ [71, 8, 64, 65, 66, 12, 67, 7, 72, 73, 74, 75, 1, 76, 22, 23, 24, 25, 26, 27, 77, 41, 42, 43, 44, 78, 29, 30, 31, 32, 33, 34, 79, 80, 81, 82, 83, 84, 85, 86, 87, 88, 120, 121, 122, 123, 124, 125, 126, 127, 128, 129, 130, 131, 132, 133, 134, 135, 136, 137, 138, 139, 140, 141, 142, 143, 144, 145, 146] (by decide +kernel) (by decide +kernel)
set_option maxRecDepth 20000 in
theorem gX0_findBest_X0_foesOf : GoodIn wsX0_findBest (wsV RX0 54 RX0 yX0_foesOf wsX0_foesOf) := goodIn_app (goodIn_of _ (by decide +kernel)) ggX0_findBest_X0_foesOf
set_option maxRecDepth 20000 in
theorem ggX0_findBest_X0_seek : GoodIn wsX0_findBest wsX0_seek := goodIn_r _ [92, 63, 2, 62, 3, 8, 5, 1, 93, 94, 95, 12, 96, 4, 6, 97, 98, 99, 100, 101, 102, 103, 104, 105, 106, 107, 108, 109, 110, 111, 112, 113, 114, 115, 116, 117, 118, 119, 64, 65, 66, 67, 7, 89, 90, 91, 130, 131, 132, 133, 134, 135, 136, 137, 138, 139, 140, 120, 121, 122, 123, 124, 125, 126, 127, 128, 129, 147, 148, 149, 150, 151] (by decide +kernel) (by decide +kernel)
set_option maxRecDepth 20000 in
theorem gX0_findBest_X0_seek : GoodIn wsX0_findBest (wsV RX0 58 RX0 yX0_seek wsX0_seek) := goodIn_app (goodIn_of _ (by decide +kernel)) ggX0_findBest_X0_seek
theorem dX0_findBest_0 : decode cX0_findBest 0 = .ok (.aload_n 0, 1) := by decide +kernel
theorem dX0_findBest_1 : decode cX0_findBest 1 = .ok (.iload_n 3, 1) := by decide +kernel
theorem dX0_findBest_2 : decode cX0_findBest 2 = .ok (.putfield 30, 3) := by decide +kernel
theorem dX0_findBest_5 : decode cX0_findBest 5 = .ok (.aload_n 0, 1) := by decide +kernel
theorem dX0_findBest_6 : decode cX0_findBest 6 = .ok (.iconst (-1), 1) := by decide +kernel
theorem dX0_findBest_7 : decode cX0_findBest 7 = .ok (.putfield 34, 3) := by decide +kernel
theorem dX0_findBest_10 : decode cX0_findBest 10 = .ok (.aload_n 0, 1) := by decide +kernel
theorem dX0_findBest_11 : decode cX0_findBest 11 = .ok (.iconst (-1), 1) := by decide +kernel
theorem dX0_findBest_12 : decode cX0_findBest 12 = .ok (.putfield 37, 3) := by decide +kernel
theorem dX0_findBest_15 : decode cX0_findBest 15 = .ok (.aload_n 0, 1) := by decide +kernel
theorem dX0_findBest_16 : decode cX0_findBest 16 = .ok (.iconst 0, 1) := by decide +kernel
theorem dX0_findBest_17 : decode cX0_findBest 17 = .ok (.putfield 40, 3) := by decide +kernel
theorem dX0_findBest_20 : decode cX0_findBest 20 = .ok (.iconst 0, 1) := by decide +kernel
theorem dX0_findBest_21 : decode cX0_findBest 21 = .ok (.istore 4, 2) := by decide +kernel
theorem dX0_findBest_23 : decode cX0_findBest 23 = .ok (.iload 4, 2) := by decide +kernel
theorem dX0_findBest_25 : decode cX0_findBest 25 = .ok (.bipush 8, 2) := by decide +kernel
theorem dX0_findBest_27 : decode cX0_findBest 27 = .ok (.if_icmp .ge 50, 3) := by decide +kernel
theorem dX0_findBest_30 : decode cX0_findBest 30 = .ok (.aload_n 0, 1) := by decide +kernel
theorem dX0_findBest_31 : decode cX0_findBest 31 = .ok (.getfield 24, 3) := by decide +kernel
theorem dX0_findBest_34 : decode cX0_findBest 34 = .ok (.iload 4, 2) := by decide +kernel
theorem dX0_findBest_36 : decode cX0_findBest 36 = .ok (.iconst (-1), 1) := by decide +kernel
theorem dX0_findBest_37 : decode cX0_findBest 37 = .ok (.iastore, 1) := by decide +kernel
theorem dX0_findBest_38 : decode cX0_findBest 38 = .ok (.aload_n 0, 1) := by decide +kernel
theorem dX0_findBest_39 : decode cX0_findBest 39 = .ok (.getfield 27, 3) := by decide +kernel
theorem dX0_findBest_42 : decode cX0_findBest 42 = .ok (.iload 4, 2) := by decide +kernel
theorem dX0_findBest_44 : decode cX0_findBest 44 = .ok (.iconst (-1), 1) := by decide +kernel
theorem dX0_findBest_45 : decode cX0_findBest 45 = .ok (.iastore, 1) := by decide +kernel
theorem dX0_findBest_46 : decode cX0_findBest 46 = .ok (.aload_n 0, 1) := by decide +kernel
theorem dX0_findBest_47 : decode cX0_findBest 47 = .ok (.getfield 9, 3) := by decide +kernel
theorem dX0_findBest_50 : decode cX0_findBest 50 = .ok (.iload 4, 2) := by decide +kernel
theorem dX0_findBest_52 : decode cX0_findBest 52 = .ok (.iload 4, 2) := by decide +kernel
theorem dX0_findBest_54 : decode cX0_findBest 54 = .ok (.iload_n 2, 1) := by decide +kernel
theorem dX0_findBest_55 : decode cX0_findBest 55 = .ok (.if_icmp .ne 7, 3) := by decide +kernel
theorem dX0_findBest_58 : decode cX0_findBest 58 = .ok (.iconst 0, 1) := by decide +kernel
theorem dX0_findBest_59 : decode cX0_findBest 59 = .ok (.goto 11, 3) := by decide +kernel
theorem dX0_findBest_62 : decode cX0_findBest 62 = .ok (.aload_n 0, 1) := by decide +kernel
theorem dX0_findBest_63 : decode cX0_findBest 63 = .ok (.aload_n 1, 1) := by decide +kernel
theorem dX0_findBest_64 : decode cX0_findBest 64 = .ok (.iload 4, 2) := by decide +kernel
theorem dX0_findBest_66 : decode cX0_findBest 66 = .ok (.iload_n 2, 1) := by decide +kernel
theorem dX0_findBest_67 : decode cX0_findBest 67 = .ok (.invokevirtual 43, 3) := by decide +kernel
theorem dX0_findBest_70 : decode cX0_findBest 70 = .ok (.iastore, 1) := by decide +kernel
theorem dX0_findBest_71 : decode cX0_findBest 71 = .ok (.iinc 4 1, 3) := by decide +kernel
theorem dX0_findBest_74 : decode cX0_findBest 74 = .ok (.goto (-51), 3) := by decide +kernel
theorem dX0_findBest_77 : decode cX0_findBest 77 = .ok (.aload_n 0, 1) := by decide +kernel
theorem dX0_findBest_78 : decode cX0_findBest 78 = .ok (.invokevirtual 47, 3) := by decide +kernel
theorem dX0_findBest_81 : decode cX0_findBest 81 = .ok (.iconst 0, 1) := by decide +kernel
theorem dX0_findBest_82 : decode cX0_findBest 82 = .ok (.istore 4, 2) := by decide +kernel
theorem dX0_findBest_84 : decode cX0_findBest 84 = .ok (.iload 4, 2) := by decide +kernel
theorem dX0_findBest_86 : decode cX0_findBest 86 = .ok (.aload_n 0, 1) := by decide +kernel
theorem dX0_findBest_87 : decode cX0_findBest 87 = .ok (.getfield 15, 3) := by decide +kernel
theorem dX0_findBest_90 : decode cX0_findBest 90 = .ok (.arraylength, 1) := by decide +kernel
theorem dX0_findBest_91 : decode cX0_findBest 91 = .ok (.if_icmp .ge 36, 3) := by decide +kernel
theorem dX0_findBest_94 : decode cX0_findBest 94 = .ok (.aload_n 0, 1) := by decide +kernel
theorem dX0_findBest_95 : decode cX0_findBest 95 = .ok (.getfield 15, 3) := by decide +kernel
theorem dX0_findBest_98 : decode cX0_findBest 98 = .ok (.iload 4, 2) := by decide +kernel
theorem dX0_findBest_100 : decode cX0_findBest 100 = .ok (.aload_n 0, 1) := by decide +kernel
theorem dX0_findBest_101 : decode cX0_findBest 101 = .ok (.iload 4, 2) := by decide +kernel
theorem dX0_findBest_103 : decode cX0_findBest 103 = .ok (.invokevirtual 50, 3) := by decide +kernel
theorem dX0_findBest_106 : decode cX0_findBest 106 = .ok (.ifCond .eq 13, 3) := by decide +kernel
theorem dX0_findBest_109 : decode cX0_findBest 109 = .ok (.aload_n 0, 1) := by decide +kernel
theorem dX0_findBest_110 : decode cX0_findBest 110 = .ok (.aload_n 1, 1) := by decide +kernel
theorem dX0_findBest_111 : decode cX0_findBest 111 = .ok (.iload 4, 2) := by decide +kernel
theorem dX0_findBest_113 : decode cX0_findBest 113 = .ok (.invokevirtual 54, 3) := by decide +kernel
theorem dX0_findBest_116 : decode cX0_findBest 116 = .ok (.goto 4, 3) := by decide +kernel
theorem dX0_findBest_119 : decode cX0_findBest 119 = .ok (.iconst 0, 1) := by decide +kernel
theorem dX0_findBest_120 : decode cX0_findBest 120 = .ok (.iastore, 1) := by decide +kernel
theorem dX0_findBest_121 : decode cX0_findBest 121 = .ok (.iinc 4 1, 3) := by decide +kernel
theorem dX0_findBest_124 : decode cX0_findBest 124 = .ok (.goto (-40), 3) := by decide +kernel
theorem dX0_findBest_127 : decode cX0_findBest 127 = .ok (.aload_n 0, 1) := by decide +kernel
theorem dX0_findBest_128 : decode cX0_findBest 128 = .ok (.aload_n 1, 1) := by decide +kernel
theorem dX0_findBest_129 : decode cX0_findBest 129 = .ok (.iconst 0, 1) := by decide +kernel
theorem dX0_findBest_130 : decode cX0_findBest 130 = .ok (.iconst 0, 1) := by decide +kernel
theorem dX0_findBest_131 : decode cX0_findBest 131 = .ok (.iconst 0, 1) := by decide +kernel
theorem dX0_findBest_132 : decode cX0_findBest 132 = .ok (.iconst 0, 1) := by decide +kernel
theorem dX0_findBest_133 : decode cX0_findBest 133 = .ok (.invokevirtual 58, 3) := by decide +kernel
theorem dX0_findBest_136 : decode cX0_findBest 136 = .ok (.return_, 1) := by decide +kernel
theorem dX0_bestDirection_0 : decode cX0_bestDirection 0 = .ok (.iload_n 1, 1) := by decide +kernel
theorem dX0_bestDirection_1 : decode cX0_bestDirection 1 = .ok (.ifCond .lt 18, 3) := by decide +kernel
theorem dX0_bestDirection_4 : decode cX0_bestDirection 4 = .ok (.iload_n 1, 1) := by decide +kernel
theorem dX0_bestDirection_5 : decode cX0_bestDirection 5 = .ok (.bipush 8, 2) := by decide +kernel
theorem dX0_bestDirection_7 : decode cX0_bestDirection 7 = .ok (.if_icmp .ge 12, 3) := by decide +kernel
theorem dX0_bestDirection_10 : decode cX0_bestDirection 10 = .ok (.aload_n 0, 1) := by decide +kernel
theorem dX0_bestDirection_11 : decode cX0_bestDirection 11 = .ok (.getfield 27, 3) := by decide +kernel
theorem dX0_bestDirection_14 : decode cX0_bestDirection 14 = .ok (.iload_n 1, 1) := by decide +kernel
theorem dX0_bestDirection_15 : decode cX0_bestDirection 15 = .ok (.iaload, 1) := by decide +kernel
theorem dX0_bestDirection_16 : decode cX0_bestDirection 16 = .ok (.goto 4, 3) := by decide +kernel
theorem dX0_bestDirection_19 : decode cX0_bestDirection 19 = .ok (.iconst (-1), 1) := by decide +kernel
theorem dX0_bestDirection_20 : decode cX0_bestDirection 20 = .ok (.ireturn, 1) := by decide +kernel
set_option maxRecDepth 20000 in
theorem ggX0_groundWays_X6_groundReason : GoodIn wsX0_groundWays wsX6_groundReason := goodIn_r _ [5, 6, 7, 8, 9, 10, 11, 12, 13, 14, 15, 16, 17, 18, 19, 20, 21, 22, 23, 24, 25, 26, 27, 28, 29, 30, 31, 32, 33, 34, 4, 35, 36, 37, 38, 39, 40, 41, 42, 43, 44, 45, 46, 47, 48, 49, 50, 51, 52, 53, 54, 55, 56, 57, 58, 59, 60, 61] (by decide +kernel) (by decide +kernel)
set_option maxRecDepth 20000 in
theorem gX0_groundWays_X6_groundReason : GoodIn wsX0_groundWays (wsV RX0 73 RX6 yX6_groundReason wsX6_groundReason) := goodIn_app (goodIn_of _ (by decide +kernel)) ggX0_groundWays_X6_groundReason
theorem dX0_groundWays_0 : decode cX0_groundWays 0 = .ok (.iconst 0, 1) := by decide +kernel
theorem dX0_groundWays_1 : decode cX0_groundWays 1 = .ok (.istore 4, 2) := by decide +kernel
theorem dX0_groundWays_3 : decode cX0_groundWays 3 = .ok (.iconst 0, 1) := by decide +kernel
theorem dX0_groundWays_4 : decode cX0_groundWays 4 = .ok (.istore 5, 2) := by decide +kernel
theorem dX0_groundWays_6 : decode cX0_groundWays 6 = .ok (.iload 5, 2) := by decide +kernel
theorem dX0_groundWays_8 : decode cX0_groundWays 8 = .ok (.iconst 4, 1) := by decide +kernel
theorem dX0_groundWays_9 : decode cX0_groundWays 9 = .ok (.if_icmp .ge 40, 3) := by decide +kernel
theorem dX0_groundWays_12 : decode cX0_groundWays 12 = .ok (.iload_n 2, 1) := by decide +kernel
theorem dX0_groundWays_13 : decode cX0_groundWays 13 = .ok (.aload_n 1, 1) := by decide +kernel
theorem dX0_groundWays_14 : decode cX0_groundWays 14 = .ok (.getfield 62, 3) := by decide +kernel
theorem dX0_groundWays_17 : decode cX0_groundWays 17 = .ok (.getfield 68, 3) := by decide +kernel
theorem dX0_groundWays_20 : decode cX0_groundWays 20 = .ok (.if_icmp .ge 29, 3) := by decide +kernel
theorem dX0_groundWays_23 : decode cX0_groundWays 23 = .ok (.aload_n 1, 1) := by decide +kernel
theorem dX0_groundWays_24 : decode cX0_groundWays 24 = .ok (.iload_n 2, 1) := by decide +kernel
theorem dX0_groundWays_25 : decode cX0_groundWays 25 = .ok (.iload 5, 2) := by decide +kernel
theorem dX0_groundWays_27 : decode cX0_groundWays 27 = .ok (.iload_n 3, 1) := by decide +kernel
theorem dX0_groundWays_28 : decode cX0_groundWays 28 = .ok (.invokevirtual 73, 3) := by decide +kernel
theorem dX0_groundWays_31 : decode cX0_groundWays 31 = .ok (.ifCond .ne 12, 3) := by decide +kernel
theorem dX0_groundWays_34 : decode cX0_groundWays 34 = .ok (.iload 4, 2) := by decide +kernel
theorem dX0_groundWays_36 : decode cX0_groundWays 36 = .ok (.iconst 1, 1) := by decide +kernel
theorem dX0_groundWays_37 : decode cX0_groundWays 37 = .ok (.iload 5, 2) := by decide +kernel
theorem dX0_groundWays_39 : decode cX0_groundWays 39 = .ok (.ishl, 1) := by decide +kernel
theorem dX0_groundWays_40 : decode cX0_groundWays 40 = .ok (.ior, 1) := by decide +kernel
theorem dX0_groundWays_41 : decode cX0_groundWays 41 = .ok (.istore 4, 2) := by decide +kernel
theorem dX0_groundWays_43 : decode cX0_groundWays 43 = .ok (.iinc 5 1, 3) := by decide +kernel
theorem dX0_groundWays_46 : decode cX0_groundWays 46 = .ok (.goto (-40), 3) := by decide +kernel
theorem dX0_groundWays_49 : decode cX0_groundWays 49 = .ok (.iload 4, 2) := by decide +kernel
theorem dX0_groundWays_51 : decode cX0_groundWays 51 = .ok (.ireturn, 1) := by decide +kernel
theorem dX0_countLeft_0 : decode cX0_countLeft 0 = .ok (.aload_n 0, 1) := by decide +kernel
theorem dX0_countLeft_1 : decode cX0_countLeft 1 = .ok (.getfield 18, 3) := by decide +kernel
theorem dX0_countLeft_4 : decode cX0_countLeft 4 = .ok (.bipush 8, 2) := by decide +kernel
theorem dX0_countLeft_6 : decode cX0_countLeft 6 = .ok (.iconst 0, 1) := by decide +kernel
theorem dX0_countLeft_7 : decode cX0_countLeft 7 = .ok (.iastore, 1) := by decide +kernel
theorem dX0_countLeft_8 : decode cX0_countLeft 8 = .ok (.aload_n 0, 1) := by decide +kernel
theorem dX0_countLeft_9 : decode cX0_countLeft 9 = .ok (.getfield 21, 3) := by decide +kernel
theorem dX0_countLeft_12 : decode cX0_countLeft 12 = .ok (.bipush 8, 2) := by decide +kernel
theorem dX0_countLeft_14 : decode cX0_countLeft 14 = .ok (.iconst 0, 1) := by decide +kernel
theorem dX0_countLeft_15 : decode cX0_countLeft 15 = .ok (.iastore, 1) := by decide +kernel
theorem dX0_countLeft_16 : decode cX0_countLeft 16 = .ok (.bipush 7, 2) := by decide +kernel
theorem dX0_countLeft_18 : decode cX0_countLeft 18 = .ok (.istore_n 1, 1) := by decide +kernel
theorem dX0_countLeft_19 : decode cX0_countLeft 19 = .ok (.iload_n 1, 1) := by decide +kernel
theorem dX0_countLeft_20 : decode cX0_countLeft 20 = .ok (.ifCond .lt 65, 3) := by decide +kernel
theorem dX0_countLeft_23 : decode cX0_countLeft 23 = .ok (.aload_n 0, 1) := by decide +kernel
theorem dX0_countLeft_24 : decode cX0_countLeft 24 = .ok (.getfield 9, 3) := by decide +kernel
theorem dX0_countLeft_27 : decode cX0_countLeft 27 = .ok (.iload_n 1, 1) := by decide +kernel
theorem dX0_countLeft_28 : decode cX0_countLeft 28 = .ok (.iaload, 1) := by decide +kernel
theorem dX0_countLeft_29 : decode cX0_countLeft 29 = .ok (.ifCond .ne 7, 3) := by decide +kernel
theorem dX0_countLeft_32 : decode cX0_countLeft 32 = .ok (.iconst 0, 1) := by decide +kernel
theorem dX0_countLeft_33 : decode cX0_countLeft 33 = .ok (.goto 4, 3) := by decide +kernel
theorem dX0_countLeft_36 : decode cX0_countLeft 36 = .ok (.iconst 1, 1) := by decide +kernel
theorem dX0_countLeft_37 : decode cX0_countLeft 37 = .ok (.istore_n 2, 1) := by decide +kernel
theorem dX0_countLeft_38 : decode cX0_countLeft 38 = .ok (.aload_n 0, 1) := by decide +kernel
theorem dX0_countLeft_39 : decode cX0_countLeft 39 = .ok (.getfield 18, 3) := by decide +kernel
theorem dX0_countLeft_42 : decode cX0_countLeft 42 = .ok (.iload_n 1, 1) := by decide +kernel
theorem dX0_countLeft_43 : decode cX0_countLeft 43 = .ok (.aload_n 0, 1) := by decide +kernel
theorem dX0_countLeft_44 : decode cX0_countLeft 44 = .ok (.getfield 18, 3) := by decide +kernel
theorem dX0_countLeft_47 : decode cX0_countLeft 47 = .ok (.iload_n 1, 1) := by decide +kernel
theorem dX0_countLeft_48 : decode cX0_countLeft 48 = .ok (.iconst 1, 1) := by decide +kernel
theorem dX0_countLeft_49 : decode cX0_countLeft 49 = .ok (.iadd, 1) := by decide +kernel
theorem dX0_countLeft_50 : decode cX0_countLeft 50 = .ok (.iaload, 1) := by decide +kernel
theorem dX0_countLeft_51 : decode cX0_countLeft 51 = .ok (.iload_n 2, 1) := by decide +kernel
theorem dX0_countLeft_52 : decode cX0_countLeft 52 = .ok (.iadd, 1) := by decide +kernel
theorem dX0_countLeft_53 : decode cX0_countLeft 53 = .ok (.iastore, 1) := by decide +kernel
theorem dX0_countLeft_54 : decode cX0_countLeft 54 = .ok (.aload_n 0, 1) := by decide +kernel
theorem dX0_countLeft_55 : decode cX0_countLeft 55 = .ok (.getfield 21, 3) := by decide +kernel
theorem dX0_countLeft_58 : decode cX0_countLeft 58 = .ok (.iload_n 1, 1) := by decide +kernel
theorem dX0_countLeft_59 : decode cX0_countLeft 59 = .ok (.aload_n 0, 1) := by decide +kernel
theorem dX0_countLeft_60 : decode cX0_countLeft 60 = .ok (.getfield 21, 3) := by decide +kernel
theorem dX0_countLeft_63 : decode cX0_countLeft 63 = .ok (.iload_n 1, 1) := by decide +kernel
theorem dX0_countLeft_64 : decode cX0_countLeft 64 = .ok (.iconst 1, 1) := by decide +kernel
theorem dX0_countLeft_65 : decode cX0_countLeft 65 = .ok (.iadd, 1) := by decide +kernel
theorem dX0_countLeft_66 : decode cX0_countLeft 66 = .ok (.iaload, 1) := by decide +kernel
theorem dX0_countLeft_67 : decode cX0_countLeft 67 = .ok (.iload_n 2, 1) := by decide +kernel
theorem dX0_countLeft_68 : decode cX0_countLeft 68 = .ok (.aload_n 0, 1) := by decide +kernel
theorem dX0_countLeft_69 : decode cX0_countLeft 69 = .ok (.getfield 30, 3) := by decide +kernel
theorem dX0_countLeft_72 : decode cX0_countLeft 72 = .ok (.iload_n 1, 1) := by decide +kernel
theorem dX0_countLeft_73 : decode cX0_countLeft 73 = .ok (.ishr, 1) := by decide +kernel
theorem dX0_countLeft_74 : decode cX0_countLeft 74 = .ok (.iconst 1, 1) := by decide +kernel
theorem dX0_countLeft_75 : decode cX0_countLeft 75 = .ok (.iand, 1) := by decide +kernel
theorem dX0_countLeft_76 : decode cX0_countLeft 76 = .ok (.imul, 1) := by decide +kernel
theorem dX0_countLeft_77 : decode cX0_countLeft 77 = .ok (.iadd, 1) := by decide +kernel
theorem dX0_countLeft_78 : decode cX0_countLeft 78 = .ok (.iastore, 1) := by decide +kernel
theorem dX0_countLeft_79 : decode cX0_countLeft 79 = .ok (.iinc 1 (-1), 3) := by decide +kernel
theorem dX0_countLeft_82 : decode cX0_countLeft 82 = .ok (.goto (-63), 3) := by decide +kernel
theorem dX0_countLeft_85 : decode cX0_countLeft 85 = .ok (.return_, 1) := by decide +kernel
theorem dX0_isAllowed_0 : decode cX0_isAllowed 0 = .ok (.iload_n 1, 1) := by decide +kernel
theorem dX0_isAllowed_1 : decode cX0_isAllowed 1 = .ok (.iconst 4, 1) := by decide +kernel
theorem dX0_isAllowed_2 : decode cX0_isAllowed 2 = .ok (.idiv, 1) := by decide +kernel
theorem dX0_isAllowed_3 : decode cX0_isAllowed 3 = .ok (.istore_n 2, 1) := by decide +kernel
theorem dX0_isAllowed_4 : decode cX0_isAllowed 4 = .ok (.iload_n 2, 1) := by decide +kernel
theorem dX0_isAllowed_5 : decode cX0_isAllowed 5 = .ok (.bipush 8, 2) := by decide +kernel
theorem dX0_isAllowed_7 : decode cX0_isAllowed 7 = .ok (.if_icmp .ge 23, 3) := by decide +kernel
theorem dX0_isAllowed_10 : decode cX0_isAllowed 10 = .ok (.aload_n 0, 1) := by decide +kernel
theorem dX0_isAllowed_11 : decode cX0_isAllowed 11 = .ok (.getfield 9, 3) := by decide +kernel
theorem dX0_isAllowed_14 : decode cX0_isAllowed 14 = .ok (.iload_n 2, 1) := by decide +kernel
theorem dX0_isAllowed_15 : decode cX0_isAllowed 15 = .ok (.iaload, 1) := by decide +kernel
theorem dX0_isAllowed_16 : decode cX0_isAllowed 16 = .ok (.iload_n 1, 1) := by decide +kernel
theorem dX0_isAllowed_17 : decode cX0_isAllowed 17 = .ok (.iconst 4, 1) := by decide +kernel
theorem dX0_isAllowed_18 : decode cX0_isAllowed 18 = .ok (.irem, 1) := by decide +kernel
theorem dX0_isAllowed_19 : decode cX0_isAllowed 19 = .ok (.ishr, 1) := by decide +kernel
theorem dX0_isAllowed_20 : decode cX0_isAllowed 20 = .ok (.iconst 1, 1) := by decide +kernel
theorem dX0_isAllowed_21 : decode cX0_isAllowed 21 = .ok (.iand, 1) := by decide +kernel
theorem dX0_isAllowed_22 : decode cX0_isAllowed 22 = .ok (.iconst 1, 1) := by decide +kernel
theorem dX0_isAllowed_23 : decode cX0_isAllowed 23 = .ok (.if_icmp .ne 7, 3) := by decide +kernel
theorem dX0_isAllowed_26 : decode cX0_isAllowed 26 = .ok (.iconst 1, 1) := by decide +kernel
theorem dX0_isAllowed_27 : decode cX0_isAllowed 27 = .ok (.goto 4, 3) := by decide +kernel
theorem dX0_isAllowed_30 : decode cX0_isAllowed 30 = .ok (.iconst 0, 1) := by decide +kernel
theorem dX0_isAllowed_31 : decode cX0_isAllowed 31 = .ok (.ireturn, 1) := by decide +kernel
set_option maxRecDepth 20000 in
theorem ggX0_foesOf_X0_isAllowed : GoodIn wsX0_foesOf wsX0_isAllowed := goodIn_r _ [6, 7, 42, 43, 44, 45, 46, 47, 48, 49, 50, 51] (by decide +kernel) (by decide +kernel)
set_option maxRecDepth 20000 in
theorem gX0_foesOf_X0_isAllowed : GoodIn wsX0_foesOf (wsV RX0 50 RX0 yX0_isAllowed wsX0_isAllowed) := goodIn_app (goodIn_of _ (by decide +kernel)) ggX0_foesOf_X0_isAllowed
set_option maxRecDepth 20000 in
theorem ggX0_foesOf_X0_standAgainst : GoodIn wsX0_foesOf wsX0_standAgainst := goodIn_r _ [11, 12, 13, 14, 15, 16, 17, 18, 19, 20, 21, 22, 23, 24, 25, 26, 27, 28, 29, 30, 31, 32, 33, 34, 35, 36, 37, 38, 39, 40, 41, 42, 43, 44, 45, 46, 47, 48, 49, 50, 51, 52, 53, 54, 55, 56, 57, 58, 59, 60, 61, 62, 63, 64, 65, 66, 67, 68] (by decide +kernel) (by decide +kernel)
set_option maxRecDepth 20000 in
theorem gX0_foesOf_X0_standAgainst : GoodIn wsX0_foesOf (wsV RX0 77 RX0 yX0_standAgainst wsX0_standAgainst) := goodIn_app (goodIn_of _ (by decide +kernel)) ggX0_foesOf_X0_standAgainst
theorem dX0_foesOf_0 : decode cX0_foesOf 0 = .ok (.iconst 0, 1) := by decide +kernel
theorem dX0_foesOf_1 : decode cX0_foesOf 1 = .ok (.istore_n 3, 1) := by decide +kernel
theorem dX0_foesOf_2 : decode cX0_foesOf 2 = .ok (.iconst 0, 1) := by decide +kernel
theorem dX0_foesOf_3 : decode cX0_foesOf 3 = .ok (.istore 4, 2) := by decide +kernel
theorem dX0_foesOf_5 : decode cX0_foesOf 5 = .ok (.iload 4, 2) := by decide +kernel
theorem dX0_foesOf_7 : decode cX0_foesOf 7 = .ok (.aload_n 0, 1) := by decide +kernel
theorem dX0_foesOf_8 : decode cX0_foesOf 8 = .ok (.getfield 15, 3) := by decide +kernel
theorem dX0_foesOf_11 : decode cX0_foesOf 11 = .ok (.arraylength, 1) := by decide +kernel
theorem dX0_foesOf_12 : decode cX0_foesOf 12 = .ok (.if_icmp .ge 58, 3) := by decide +kernel
theorem dX0_foesOf_15 : decode cX0_foesOf 15 = .ok (.iload 4, 2) := by decide +kernel
theorem dX0_foesOf_17 : decode cX0_foesOf 17 = .ok (.iconst 4, 1) := by decide +kernel
theorem dX0_foesOf_18 : decode cX0_foesOf 18 = .ok (.idiv, 1) := by decide +kernel
theorem dX0_foesOf_19 : decode cX0_foesOf 19 = .ok (.iload_n 2, 1) := by decide +kernel
theorem dX0_foesOf_20 : decode cX0_foesOf 20 = .ok (.iconst 4, 1) := by decide +kernel
theorem dX0_foesOf_21 : decode cX0_foesOf 21 = .ok (.idiv, 1) := by decide +kernel
theorem dX0_foesOf_22 : decode cX0_foesOf 22 = .ok (.if_icmp .ne 7, 3) := by decide +kernel
theorem dX0_foesOf_25 : decode cX0_foesOf 25 = .ok (.iconst 1, 1) := by decide +kernel
theorem dX0_foesOf_26 : decode cX0_foesOf 26 = .ok (.goto 4, 3) := by decide +kernel
theorem dX0_foesOf_29 : decode cX0_foesOf 29 = .ok (.iconst 0, 1) := by decide +kernel
theorem dX0_foesOf_30 : decode cX0_foesOf 30 = .ok (.istore 5, 2) := by decide +kernel
theorem dX0_foesOf_32 : decode cX0_foesOf 32 = .ok (.iload 5, 2) := by decide +kernel
theorem dX0_foesOf_34 : decode cX0_foesOf 34 = .ok (.ifCond .ne 30, 3) := by decide +kernel
theorem dX0_foesOf_37 : decode cX0_foesOf 37 = .ok (.aload_n 0, 1) := by decide +kernel
theorem dX0_foesOf_38 : decode cX0_foesOf 38 = .ok (.iload 4, 2) := by decide +kernel
theorem dX0_foesOf_40 : decode cX0_foesOf 40 = .ok (.invokevirtual 50, 3) := by decide +kernel
theorem dX0_foesOf_43 : decode cX0_foesOf 43 = .ok (.ifCond .eq 21, 3) := by decide +kernel
theorem dX0_foesOf_46 : decode cX0_foesOf 46 = .ok (.aload_n 0, 1) := by decide +kernel
theorem dX0_foesOf_47 : decode cX0_foesOf 47 = .ok (.aload_n 1, 1) := by decide +kernel
theorem dX0_foesOf_48 : decode cX0_foesOf 48 = .ok (.iload_n 2, 1) := by decide +kernel
theorem dX0_foesOf_49 : decode cX0_foesOf 49 = .ok (.iload 4, 2) := by decide +kernel
theorem dX0_foesOf_51 : decode cX0_foesOf 51 = .ok (.invokevirtual 77, 3) := by decide +kernel
theorem dX0_foesOf_54 : decode cX0_foesOf 54 = .ok (.ifCond .eq 10, 3) := by decide +kernel
theorem dX0_foesOf_57 : decode cX0_foesOf 57 = .ok (.iload_n 3, 1) := by decide +kernel
theorem dX0_foesOf_58 : decode cX0_foesOf 58 = .ok (.iconst 1, 1) := by decide +kernel
theorem dX0_foesOf_59 : decode cX0_foesOf 59 = .ok (.iload 4, 2) := by decide +kernel
theorem dX0_foesOf_61 : decode cX0_foesOf 61 = .ok (.ishl, 1) := by decide +kernel
theorem dX0_foesOf_62 : decode cX0_foesOf 62 = .ok (.ior, 1) := by decide +kernel
theorem dX0_foesOf_63 : decode cX0_foesOf 63 = .ok (.istore_n 3, 1) := by decide +kernel
theorem dX0_foesOf_64 : decode cX0_foesOf 64 = .ok (.iinc 4 1, 3) := by decide +kernel
theorem dX0_foesOf_67 : decode cX0_foesOf 67 = .ok (.goto (-62), 3) := by decide +kernel
theorem dX0_foesOf_70 : decode cX0_foesOf 70 = .ok (.iload_n 3, 1) := by decide +kernel
theorem dX0_foesOf_71 : decode cX0_foesOf 71 = .ok (.ireturn, 1) := by decide +kernel
set_option maxRecDepth 20000 in
theorem ggX0_standAgainst_X2_homeOf : GoodIn wsX0_standAgainst wsX2_homeOf := goodIn_r _ [6, 7, 8, 46, 47, 48, 49, 50, 51] (by decide +kernel) (by decide +kernel)
set_option maxRecDepth 20000 in
theorem gX0_standAgainst_X2_homeOf : GoodIn wsX0_standAgainst (wsV RX0 81 RX2 yX2_homeOf wsX2_homeOf) := goodIn_app (goodIn_of _ (by decide +kernel)) ggX0_standAgainst_X2_homeOf
