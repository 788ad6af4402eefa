set_option maxRecDepth 20000 in
theorem ggX6_meetsOthers_X2_letterOf : GoodIn wsX6_meetsOthers wsX2_letterOf := goodIn_r _ [36, 37, 38, 11, 12, 6, 13, 8, 14, 44, 45, 46, 47, 48, 49] (by decide +kernel) (by decide +kernel)
set_option maxRecDepth 20000 in
theorem gX6_meetsOthers_X2_letterOf : GoodIn wsX6_meetsOthers (wsV RX6 99 RX2 yX2_letterOf wsX2_letterOf) := goodIn_app (goodIn_of _ (by decide +kernel)) ggX6_meetsOthers_X2_letterOf
theorem dX6_meetsOthers_0 : decode cX6_meetsOthers 0 = .ok (.iconst 1, 1) := by decide +kernel
theorem dX6_meetsOthers_1 : decode cX6_meetsOthers 1 = .ok (.iload_n 1, 1) := by decide +kernel
theorem dX6_meetsOthers_2 : decode cX6_meetsOthers 2 = .ok (.ishl, 1) := by decide +kernel
theorem dX6_meetsOthers_3 : decode cX6_meetsOthers 3 = .ok (.istore_n 3, 1) := by decide +kernel
theorem dX6_meetsOthers_4 : decode cX6_meetsOthers 4 = .ok (.aload_n 0, 1) := by decide +kernel
theorem dX6_meetsOthers_5 : decode cX6_meetsOthers 5 = .ok (.getfield 21, 3) := by decide +kernel
theorem dX6_meetsOthers_8 : decode cX6_meetsOthers 8 = .ok (.iload_n 1, 1) := by decide +kernel
theorem dX6_meetsOthers_9 : decode cX6_meetsOthers 9 = .ok (.invokevirtual 79, 3) := by decide +kernel
theorem dX6_meetsOthers_12 : decode cX6_meetsOthers 12 = .ok (.istore 4, 2) := by decide +kernel
theorem dX6_meetsOthers_14 : decode cX6_meetsOthers 14 = .ok (.iconst 0, 1) := by decide +kernel
theorem dX6_meetsOthers_15 : decode cX6_meetsOthers 15 = .ok (.istore 5, 2) := by decide +kernel
theorem dX6_meetsOthers_17 : decode cX6_meetsOthers 17 = .ok (.iload 5, 2) := by decide +kernel
theorem dX6_meetsOthers_19 : decode cX6_meetsOthers 19 = .ok (.aload_n 0, 1) := by decide +kernel
theorem dX6_meetsOthers_20 : decode cX6_meetsOthers 20 = .ok (.getfield 21, 3) := by decide +kernel
theorem dX6_meetsOthers_23 : decode cX6_meetsOthers 23 = .ok (.iload_n 1, 1) := by decide +kernel
theorem dX6_meetsOthers_24 : decode cX6_meetsOthers 24 = .ok (.invokevirtual 85, 3) := by decide +kernel
theorem dX6_meetsOthers_27 : decode cX6_meetsOthers 27 = .ok (.if_icmp .ge 90, 3) := by decide +kernel
theorem dX6_meetsOthers_30 : decode cX6_meetsOthers 30 = .ok (.aload_n 0, 1) := by decide +kernel
theorem dX6_meetsOthers_31 : decode cX6_meetsOthers 31 = .ok (.getfield 12, 3) := by decide +kernel
theorem dX6_meetsOthers_34 : decode cX6_meetsOthers 34 = .ok (.iload 4, 2) := by decide +kernel
theorem dX6_meetsOthers_36 : decode cX6_meetsOthers 36 = .ok (.iload_n 2, 1) := by decide +kernel
theorem dX6_meetsOthers_37 : decode cX6_meetsOthers 37 = .ok (.iload 5, 2) := by decide +kernel
theorem dX6_meetsOthers_39 : decode cX6_meetsOthers 39 = .ok (.iconst 1, 1) := by decide +kernel
theorem dX6_meetsOthers_40 : decode cX6_meetsOthers 40 = .ok (.iadd, 1) := by decide +kernel
theorem dX6_meetsOthers_41 : decode cX6_meetsOthers 41 = .ok (.invokevirtual 82, 3) := by decide +kernel
theorem dX6_meetsOthers_44 : decode cX6_meetsOthers 44 = .ok (.istore 6, 2) := by decide +kernel
theorem dX6_meetsOthers_46 : decode cX6_meetsOthers 46 = .ok (.aload_n 0, 1) := by decide +kernel
theorem dX6_meetsOthers_47 : decode cX6_meetsOthers 47 = .ok (.iload 6, 2) := by decide +kernel
theorem dX6_meetsOthers_49 : decode cX6_meetsOthers 49 = .ok (.invokevirtual 57, 3) := by decide +kernel
theorem dX6_meetsOthers_52 : decode cX6_meetsOthers 52 = .ok (.iload_n 3, 1) := by decide +kernel
theorem dX6_meetsOthers_53 : decode cX6_meetsOthers 53 = .ok (.iconst (-1), 1) := by decide +kernel
theorem dX6_meetsOthers_54 : decode cX6_meetsOthers 54 = .ok (.ixor, 1) := by decide +kernel
theorem dX6_meetsOthers_55 : decode cX6_meetsOthers 55 = .ok (.iand, 1) := by decide +kernel
theorem dX6_meetsOthers_56 : decode cX6_meetsOthers 56 = .ok (.istore 7, 2) := by decide +kernel
theorem dX6_meetsOthers_58 : decode cX6_meetsOthers 58 = .ok (.iload 7, 2) := by decide +kernel
theorem dX6_meetsOthers_60 : decode cX6_meetsOthers 60 = .ok (.iload_n 3, 1) := by decide +kernel
theorem dX6_meetsOthers_61 : decode cX6_meetsOthers 61 = .ok (.ior, 1) := by decide +kernel
theorem dX6_meetsOthers_62 : decode cX6_meetsOthers 62 = .ok (.aload_n 0, 1) := by decide +kernel
theorem dX6_meetsOthers_63 : decode cX6_meetsOthers 63 = .ok (.getfield 21, 3) := by decide +kernel
theorem dX6_meetsOthers_66 : decode cX6_meetsOthers 66 = .ok (.getfield 92, 3) := by decide +kernel
theorem dX6_meetsOthers_69 : decode cX6_meetsOthers 69 = .ok (.iand, 1) := by decide +kernel
theorem dX6_meetsOthers_70 : decode cX6_meetsOthers 70 = .ok (.ifCond .eq 7, 3) := by decide +kernel
theorem dX6_meetsOthers_73 : decode cX6_meetsOthers 73 = .ok (.iconst 1, 1) := by decide +kernel
theorem dX6_meetsOthers_74 : decode cX6_meetsOthers 74 = .ok (.goto 4, 3) := by decide +kernel
theorem dX6_meetsOthers_77 : decode cX6_meetsOthers 77 = .ok (.iconst 0, 1) := by decide +kernel
theorem dX6_meetsOthers_78 : decode cX6_meetsOthers 78 = .ok (.istore 8, 2) := by decide +kernel
theorem dX6_meetsOthers_80 : decode cX6_meetsOthers 80 = .ok (.iload 7, 2) := by decide +kernel
theorem dX6_meetsOthers_82 : decode cX6_meetsOthers 82 = .ok (.ifCond .eq 29, 3) := by decide +kernel
theorem dX6_meetsOthers_85 : decode cX6_meetsOthers 85 = .ok (.iload 8, 2) := by decide +kernel
theorem dX6_meetsOthers_87 : decode cX6_meetsOthers 87 = .ok (.ifCond .ne 22, 3) := by decide +kernel
theorem dX6_meetsOthers_90 : decode cX6_meetsOthers 90 = .ok (.aload_n 0, 1) := by decide +kernel
theorem dX6_meetsOthers_91 : decode cX6_meetsOthers 91 = .ok (.iload 6, 2) := by decide +kernel
theorem dX6_meetsOthers_93 : decode cX6_meetsOthers 93 = .ok (.invokevirtual 96, 3) := by decide +kernel
theorem dX6_meetsOthers_96 : decode cX6_meetsOthers 96 = .ok (.aload_n 0, 1) := by decide +kernel
theorem dX6_meetsOthers_97 : decode cX6_meetsOthers 97 = .ok (.getfield 21, 3) := by decide +kernel
theorem dX6_meetsOthers_100 : decode cX6_meetsOthers 100 = .ok (.iload_n 1, 1) := by decide +kernel
theorem dX6_meetsOthers_101 : decode cX6_meetsOthers 101 = .ok (.iload 5, 2) := by decide +kernel
theorem dX6_meetsOthers_103 : decode cX6_meetsOthers 103 = .ok (.invokevirtual 99, 3) := by decide +kernel
theorem dX6_meetsOthers_106 : decode cX6_meetsOthers 106 = .ok (.if_icmp .eq 5, 3) := by decide +kernel
theorem dX6_meetsOthers_109 : decode cX6_meetsOthers 109 = .ok (.iconst 1, 1) := by decide +kernel
theorem dX6_meetsOthers_110 : decode cX6_meetsOthers 110 = .ok (.ireturn, 1) := by decide +kernel
theorem dX6_meetsOthers_111 : decode cX6_meetsOthers 111 = .ok (.iinc 5 1, 3) := by decide +kernel
theorem dX6_meetsOthers_114 : decode cX6_meetsOthers 114 = .ok (.goto (-97), 3) := by decide +kernel
theorem dX6_meetsOthers_117 : decode cX6_meetsOthers 117 = .ok (.iconst 0, 1) := by decide +kernel
theorem dX6_meetsOthers_118 : decode cX6_meetsOthers 118 = .ok (.ireturn, 1) := by decide +kernel
set_option maxRecDepth 20000 in
theorem ggX6_putName_X6_takeName : GoodIn wsX6_putName wsX6_takeName := goodIn_r _ [9, 1, 2, 3, 10, 11, 12, 13, 14, 15, 16, 17, 18, 19, 20, 21, 22, 23, 24, 25, 26, 27, 28, 29, 30, 31, 32, 33, 34, 35, 36, 37, 44, 45, 46, 47, 48, 49, 50, 51, 52, 53, 54, 55, 56, 57, 58, 59, 60] (by decide +kernel) (by decide +kernel)
set_option maxRecDepth 20000 in
theorem gX6_putName_X6_takeName : GoodIn wsX6_putName (wsV RX6 102 RX6 yX6_takeName wsX6_takeName) := goodIn_app (goodIn_of _ (by decide +kernel)) ggX6_putName_X6_takeName
set_option maxRecDepth 20000 in
theorem ggX6_putName_X2_homeOf : GoodIn wsX6_putName wsX2_homeOf := goodIn_r _ [14, 15, 16, 49, 50, 51, 52, 53, 54] (by decide +kernel) (by decide +kernel)
set_option maxRecDepth 20000 in
theorem gX6_putName_X2_homeOf : GoodIn wsX6_putName (wsV RX6 79 RX2 yX2_homeOf wsX2_homeOf) := goodIn_app (goodIn_of _ (by decide +kernel)) ggX6_putName_X2_homeOf
set_option maxRecDepth 20000 in
theorem ggX6_putName_X2_lengthOf : GoodIn wsX6_putName wsX2_lengthOf := goodIn_r _ [25, 15, 26, 49, 50, 51, 52, 53, 54] (by decide +kernel) (by decide +kernel)
set_option maxRecDepth 20000 in
theorem gX6_putName_X2_lengthOf : GoodIn wsX6_putName (wsV RX6 85 RX2 yX2_lengthOf wsX2_lengthOf) := goodIn_app (goodIn_of _ (by decide +kernel)) ggX6_putName_X2_lengthOf
set_option maxRecDepth 20000 in
theorem ggX6_putName_X1_ahead : GoodIn wsX6_putName wsX1_ahead := goodIn_r _ [31, 32, 33, 55, 56, 57, 58, 59, 60] (by decide +kernel) (by decide +kernel)
set_option maxRecDepth 20000 in
theorem gX6_putName_X1_ahead : GoodIn wsX6_putName (wsV RX6 82 RX1 yX1_ahead wsX1_ahead) := goodIn_app (goodIn_of _ (by decide +kernel)) ggX6_putName_X1_ahead
set_option maxRecDepth 20000 in
theorem ggX6_putName_X2_letterOf : GoodIn wsX6_putName wsX2_letterOf := goodIn_r _ [41, 42, 43, 23, 24, 13, 25, 15, 26, 49, 50, 51, 52, 53, 54] (by decide +kernel) (by decide +kernel)
set_option maxRecDepth 20000 in
theorem gX6_putName_X2_letterOf : GoodIn wsX6_putName (wsV RX6 99 RX2 yX2_letterOf wsX2_letterOf) := goodIn_app (goodIn_of _ (by decide +kernel)) ggX6_putName_X2_letterOf
set_option maxRecDepth 20000 in
theorem ggX6_putName_X2_setDirection : GoodIn wsX6_putName wsX2_setDirection := goodIn_r _ [37, 15, 21, 49, 50, 51, 52, 53, 54] (by decide +kernel) (by decide +kernel)
set_option maxRecDepth 20000 in
theorem gX6_putName_X2_setDirection : GoodIn wsX6_putName (wsV RX6 106 RX2 yX2_setDirection wsX2_setDirection) := goodIn_app (goodIn_of _ (by decide +kernel)) ggX6_putName_X2_setDirection
theorem dX6_putName_0 : decode cX6_putName 0 = .ok (.aload_n 0, 1) := by decide +kernel
theorem dX6_putName_1 : decode cX6_putName 1 = .ok (.iload_n 1, 1) := by decide +kernel
theorem dX6_putName_2 : decode cX6_putName 2 = .ok (.invokevirtual 102, 3) := by decide +kernel
theorem dX6_putName_5 : decode cX6_putName 5 = .ok (.aload_n 0, 1) := by decide +kernel
theorem dX6_putName_6 : decode cX6_putName 6 = .ok (.getfield 21, 3) := by decide +kernel
theorem dX6_putName_9 : decode cX6_putName 9 = .ok (.iload_n 1, 1) := by decide +kernel
theorem dX6_putName_10 : decode cX6_putName 10 = .ok (.invokevirtual 79, 3) := by decide +kernel
theorem dX6_putName_13 : decode cX6_putName 13 = .ok (.istore_n 3, 1) := by decide +kernel
theorem dX6_putName_14 : decode cX6_putName 14 = .ok (.iconst 0, 1) := by decide +kernel
theorem dX6_putName_15 : decode cX6_putName 15 = .ok (.istore 4, 2) := by decide +kernel
theorem dX6_putName_17 : decode cX6_putName 17 = .ok (.iload 4, 2) := by decide +kernel
theorem dX6_putName_19 : decode cX6_putName 19 = .ok (.aload_n 0, 1) := by decide +kernel
theorem dX6_putName_20 : decode cX6_putName 20 = .ok (.getfield 21, 3) := by decide +kernel
theorem dX6_putName_23 : decode cX6_putName 23 = .ok (.iload_n 1, 1) := by decide +kernel
theorem dX6_putName_24 : decode cX6_putName 24 = .ok (.invokevirtual 85, 3) := by decide +kernel
theorem dX6_putName_27 : decode cX6_putName 27 = .ok (.if_icmp .ge 67, 3) := by decide +kernel
theorem dX6_putName_30 : decode cX6_putName 30 = .ok (.aload_n 0, 1) := by decide +kernel
theorem dX6_putName_31 : decode cX6_putName 31 = .ok (.getfield 12, 3) := by decide +kernel
theorem dX6_putName_34 : decode cX6_putName 34 = .ok (.iload_n 3, 1) := by decide +kernel
theorem dX6_putName_35 : decode cX6_putName 35 = .ok (.iload_n 2, 1) := by decide +kernel
theorem dX6_putName_36 : decode cX6_putName 36 = .ok (.iload 4, 2) := by decide +kernel
theorem dX6_putName_38 : decode cX6_putName 38 = .ok (.iconst 1, 1) := by decide +kernel
theorem dX6_putName_39 : decode cX6_putName 39 = .ok (.iadd, 1) := by decide +kernel
theorem dX6_putName_40 : decode cX6_putName 40 = .ok (.invokevirtual 82, 3) := by decide +kernel
theorem dX6_putName_43 : decode cX6_putName 43 = .ok (.istore 5, 2) := by decide +kernel
theorem dX6_putName_45 : decode cX6_putName 45 = .ok (.iload 5, 2) := by decide +kernel
theorem dX6_putName_47 : decode cX6_putName 47 = .ok (.ifCond .lt 41, 3) := by decide +kernel
theorem dX6_putName_50 : decode cX6_putName 50 = .ok (.iload 5, 2) := by decide +kernel
theorem dX6_putName_52 : decode cX6_putName 52 = .ok (.sipush 144, 3) := by decide +kernel
theorem dX6_putName_55 : decode cX6_putName 55 = .ok (.if_icmp .ge 33, 3) := by decide +kernel
theorem dX6_putName_58 : decode cX6_putName 58 = .ok (.aload_n 0, 1) := by decide +kernel
theorem dX6_putName_59 : decode cX6_putName 59 = .ok (.getfield 32, 3) := by decide +kernel
theorem dX6_putName_62 : decode cX6_putName 62 = .ok (.iload 5, 2) := by decide +kernel
theorem dX6_putName_64 : decode cX6_putName 64 = .ok (.dup2, 1) := by decide +kernel
theorem dX6_putName_65 : decode cX6_putName 65 = .ok (.iaload, 1) := by decide +kernel
theorem dX6_putName_66 : decode cX6_putName 66 = .ok (.iconst 1, 1) := by decide +kernel
theorem dX6_putName_67 : decode cX6_putName 67 = .ok (.iload_n 1, 1) := by decide +kernel
theorem dX6_putName_68 : decode cX6_putName 68 = .ok (.ishl, 1) := by decide +kernel
theorem dX6_putName_69 : decode cX6_putName 69 = .ok (.ior, 1) := by decide +kernel
theorem dX6_putName_70 : decode cX6_putName 70 = .ok (.iastore, 1) := by decide +kernel
theorem dX6_putName_71 : decode cX6_putName 71 = .ok (.aload_n 0, 1) := by decide +kernel
theorem dX6_putName_72 : decode cX6_putName 72 = .ok (.getfield 36, 3) := by decide +kernel
theorem dX6_putName_75 : decode cX6_putName 75 = .ok (.iload 5, 2) := by decide +kernel
theorem dX6_putName_77 : decode cX6_putName 77 = .ok (.aload_n 0, 1) := by decide +kernel
theorem dX6_putName_78 : decode cX6_putName 78 = .ok (.getfield 21, 3) := by decide +kernel
theorem dX6_putName_81 : decode cX6_putName 81 = .ok (.iload_n 1, 1) := by decide +kernel
theorem dX6_putName_82 : decode cX6_putName 82 = .ok (.iload 4, 2) := by decide +kernel
theorem dX6_putName_84 : decode cX6_putName 84 = .ok (.invokevirtual 99, 3) := by decide +kernel
theorem dX6_putName_87 : decode cX6_putName 87 = .ok (.iastore, 1) := by decide +kernel
theorem dX6_putName_88 : decode cX6_putName 88 = .ok (.iinc 4 1, 3) := by decide +kernel
theorem dX6_putName_91 : decode cX6_putName 91 = .ok (.goto (-74), 3) := by decide +kernel
theorem dX6_putName_94 : decode cX6_putName 94 = .ok (.aload_n 0, 1) := by decide +kernel
theorem dX6_putName_95 : decode cX6_putName 95 = .ok (.getfield 21, 3) := by decide +kernel
theorem dX6_putName_98 : decode cX6_putName 98 = .ok (.iload_n 1, 1) := by decide +kernel
theorem dX6_putName_99 : decode cX6_putName 99 = .ok (.iload_n 2, 1) := by decide +kernel
theorem dX6_putName_100 : decode cX6_putName 100 = .ok (.invokevirtual 106, 3) := by decide +kernel
theorem dX6_putName_103 : decode cX6_putName 103 = .ok (.return_, 1) := by decide +kernel
set_option maxRecDepth 20000 in
theorem ggX6_takeName_X2_homeOf : GoodIn wsX6_takeName wsX2_homeOf := goodIn_r _ [8, 9, 10, 37, 38, 39, 40, 41, 42] (by decide +kernel) (by decide +kernel)
set_option maxRecDepth 20000 in
theorem gX6_takeName_X2_homeOf : GoodIn wsX6_takeName (wsV RX6 79 RX2 yX2_homeOf wsX2_homeOf) := goodIn_app (goodIn_of _ (by decide +kernel)) ggX6_takeName_X2_homeOf
set_option maxRecDepth 20000 in
theorem ggX6_takeName_X2_directionOf : GoodIn wsX6_takeName wsX2_directionOf := goodIn_r _ [14, 9, 15, 37, 38, 39, 40, 41, 42] (by decide +kernel) (by decide +kernel)
set_option maxRecDepth 20000 in
theorem gX6_takeName_X2_directionOf : GoodIn wsX6_takeName (wsV RX6 109 RX2 yX2_directionOf wsX2_directionOf) := goodIn_app (goodIn_of _ (by decide +kernel)) ggX6_takeName_X2_directionOf
set_option maxRecDepth 20000 in
theorem ggX6_takeName_X2_lengthOf : GoodIn wsX6_takeName wsX2_lengthOf := goodIn_r _ [19, 9, 20, 37, 38, 39, 40, 41, 42] (by decide +kernel) (by decide +kernel)
set_option maxRecDepth 20000 in
theorem gX6_takeName_X2_lengthOf : GoodIn wsX6_takeName (wsV RX6 85 RX2 yX2_lengthOf wsX2_lengthOf) := goodIn_app (goodIn_of _ (by decide +kernel)) ggX6_takeName_X2_lengthOf
set_option maxRecDepth 20000 in
theorem ggX6_takeName_X1_ahead : GoodIn wsX6_takeName wsX1_ahead := goodIn_r _ [25, 26, 27, 43, 44, 45, 46, 47, 48] (by decide +kernel) (by decide +kernel)
set_option maxRecDepth 20000 in
theorem gX6_takeName_X1_ahead : GoodIn wsX6_takeName (wsV RX6 82 RX1 yX1_ahead wsX1_ahead) := goodIn_app (goodIn_of _ (by decide +kernel)) ggX6_takeName_X1_ahead
set_option maxRecDepth 20000 in
theorem ggX6_takeName_X2_setDirection : GoodIn wsX6_takeName wsX2_setDirection := goodIn_r _ [31, 9, 15, 37, 38, 39, 40, 41, 42] (by decide +kernel) (by decide +kernel)
set_option maxRecDepth 20000 in
theorem gX6_takeName_X2_setDirection : GoodIn wsX6_takeName (wsV RX6 106 RX2 yX2_setDirection wsX2_setDirection) := goodIn_app (goodIn_of _ (by decide +kernel)) ggX6_takeName_X2_setDirection
theorem dX6_takeName_0 : decode cX6_takeName 0 = .ok (.aload_n 0, 1) := by decide +kernel
theorem dX6_takeName_1 : decode cX6_takeName 1 = .ok (.getfield 21, 3) := by decide +kernel
theorem dX6_takeName_4 : decode cX6_takeName 4 = .ok (.iload_n 1, 1) := by decide +kernel
theorem dX6_takeName_5 : decode cX6_takeName 5 = .ok (.invokevirtual 79, 3) := by decide +kernel
theorem dX6_takeName_8 : decode cX6_takeName 8 = .ok (.istore_n 2, 1) := by decide +kernel
theorem dX6_takeName_9 : decode cX6_takeName 9 = .ok (.aload_n 0, 1) := by decide +kernel
theorem dX6_takeName_10 : decode cX6_takeName 10 = .ok (.getfield 21, 3) := by decide +kernel
theorem dX6_takeName_13 : decode cX6_takeName 13 = .ok (.iload_n 1, 1) := by decide +kernel
theorem dX6_takeName_14 : decode cX6_takeName 14 = .ok (.invokevirtual 109, 3) := by decide +kernel
theorem dX6_takeName_17 : decode cX6_takeName 17 = .ok (.istore_n 3, 1) := by decide +kernel
theorem dX6_takeName_18 : decode cX6_takeName 18 = .ok (.iconst 0, 1) := by decide +kernel
theorem dX6_takeName_19 : decode cX6_takeName 19 = .ok (.istore 4, 2) := by decide +kernel
theorem dX6_takeName_21 : decode cX6_takeName 21 = .ok (.iload 4, 2) := by decide +kernel
theorem dX6_takeName_23 : decode cX6_takeName 23 = .ok (.aload_n 0, 1) := by decide +kernel
theorem dX6_takeName_24 : decode cX6_takeName 24 = .ok (.getfield 21, 3) := by decide +kernel
theorem dX6_takeName_27 : decode cX6_takeName 27 = .ok (.iload_n 1, 1) := by decide +kernel
theorem dX6_takeName_28 : decode cX6_takeName 28 = .ok (.invokevirtual 85, 3) := by decide +kernel
theorem dX6_takeName_31 : decode cX6_takeName 31 = .ok (.if_icmp .ge 57, 3) := by decide +kernel
theorem dX6_takeName_34 : decode cX6_takeName 34 = .ok (.iload_n 3, 1) := by decide +kernel
theorem dX6_takeName_35 : decode cX6_takeName 35 = .ok (.iconst (-1), 1) := by decide +kernel
theorem dX6_takeName_36 : decode cX6_takeName 36 = .ok (.if_icmp .eq 52, 3) := by decide +kernel
theorem dX6_takeName_39 : decode cX6_takeName 39 = .ok (.aload_n 0, 1) := by decide +kernel
theorem dX6_takeName_40 : decode cX6_takeName 40 = .ok (.getfield 12, 3) := by decide +kernel
theorem dX6_takeName_43 : decode cX6_takeName 43 = .ok (.iload_n 2, 1) := by decide +kernel
theorem dX6_takeName_44 : decode cX6_takeName 44 = .ok (.iload_n 3, 1) := by decide +kernel
theorem dX6_takeName_45 : decode cX6_takeName 45 = .ok (.iload 4, 2) := by decide +kernel
theorem dX6_takeName_47 : decode cX6_takeName 47 = .ok (.iconst 1, 1) := by decide +kernel
theorem dX6_takeName_48 : decode cX6_takeName 48 = .ok (.iadd, 1) := by decide +kernel
theorem dX6_takeName_49 : decode cX6_takeName 49 = .ok (.invokevirtual 82, 3) := by decide +kernel
theorem dX6_takeName_52 : decode cX6_takeName 52 = .ok (.istore 5, 2) := by decide +kernel
theorem dX6_takeName_54 : decode cX6_takeName 54 = .ok (.iload 5, 2) := by decide +kernel
theorem dX6_takeName_56 : decode cX6_takeName 56 = .ok (.ifCond .lt 26, 3) := by decide +kernel
theorem dX6_takeName_59 : decode cX6_takeName 59 = .ok (.iload 5, 2) := by decide +kernel
theorem dX6_takeName_61 : decode cX6_takeName 61 = .ok (.sipush 144, 3) := by decide +kernel
theorem dX6_takeName_64 : decode cX6_takeName 64 = .ok (.if_icmp .ge 18, 3) := by decide +kernel
theorem dX6_takeName_67 : decode cX6_takeName 67 = .ok (.aload_n 0, 1) := by decide +kernel
theorem dX6_takeName_68 : decode cX6_takeName 68 = .ok (.getfield 32, 3) := by decide +kernel
theorem dX6_takeName_71 : decode cX6_takeName 71 = .ok (.iload 5, 2) := by decide +kernel
theorem dX6_takeName_73 : decode cX6_takeName 73 = .ok (.dup2, 1) := by decide +kernel
theorem dX6_takeName_74 : decode cX6_takeName 74 = .ok (.iaload, 1) := by decide +kernel
theorem dX6_takeName_75 : decode cX6_takeName 75 = .ok (.iconst 1, 1) := by decide +kernel
theorem dX6_takeName_76 : decode cX6_takeName 76 = .ok (.iload_n 1, 1) := by decide +kernel
theorem dX6_takeName_77 : decode cX6_takeName 77 = .ok (.ishl, 1) := by decide +kernel
theorem dX6_takeName_78 : decode cX6_takeName 78 = .ok (.iconst (-1), 1) := by decide +kernel
theorem dX6_takeName_79 : decode cX6_takeName 79 = .ok (.ixor, 1) := by decide +kernel
theorem dX6_takeName_80 : decode cX6_takeName 80 = .ok (.iand, 1) := by decide +kernel
theorem dX6_takeName_81 : decode cX6_takeName 81 = .ok (.iastore, 1) := by decide +kernel
theorem dX6_takeName_82 : decode cX6_takeName 82 = .ok (.iinc 4 1, 3) := by decide +kernel
theorem dX6_takeName_85 : decode cX6_takeName 85 = .ok (.goto (-64), 3) := by decide +kernel
theorem dX6_takeName_88 : decode cX6_takeName 88 = .ok (.aload_n 0, 1) := by decide +kernel
theorem dX6_takeName_89 : decode cX6_takeName 89 = .ok (.getfield 21, 3) := by decide +kernel
theorem dX6_takeName_92 : decode cX6_takeName 92 = .ok (.iload_n 1, 1) := by decide +kernel
theorem dX6_takeName_93 : decode cX6_takeName 93 = .ok (.iconst (-1), 1) := by decide +kernel
theorem dX6_takeName_94 : decode cX6_takeName 94 = .ok (.invokevirtual 106, 3) := by decide +kernel
theorem dX6_takeName_97 : decode cX6_takeName 97 = .ok (.return_, 1) := by decide +kernel
set_option maxRecDepth 20000 in
theorem ggX6_takeNames_X6_takeName : GoodIn wsX6_takeNames wsX6_takeName := goodIn_r _ [6, 1, 7, 8, 9, 10, 11, 12, 13, 14, 15, 16, 17, 18, 19, 20, 21, 22, 23, 24, 25, 26, 27, 28, 29, 30, 31, 32, 33, 34, 35, 36, 37, 38, 39, 40, 41, 42, 43, 44, 45, 46, 47, 48, 49, 50, 51, 52, 53] (by decide +kernel) (by decide +kernel)
set_option maxRecDepth 20000 in
theorem gX6_takeNames_X6_takeName : GoodIn wsX6_takeNames (wsV RX6 102 RX6 yX6_takeName wsX6_takeName) := goodIn_app (goodIn_of _ (by decide +kernel)) ggX6_takeNames_X6_takeName
theorem dX6_takeNames_0 : decode cX6_takeNames 0 = .ok (.iconst 0, 1) := by decide +kernel
theorem dX6_takeNames_1 : decode cX6_takeNames 1 = .ok (.istore_n 2, 1) := by decide +kernel
theorem dX6_takeNames_2 : decode cX6_takeNames 2 = .ok (.iload_n 2, 1) := by decide +kernel
theorem dX6_takeNames_3 : decode cX6_takeNames 3 = .ok (.aload_n 0, 1) := by decide +kernel
theorem dX6_takeNames_4 : decode cX6_takeNames 4 = .ok (.getfield 21, 3) := by decide +kernel
theorem dX6_takeNames_7 : decode cX6_takeNames 7 = .ok (.getfield 112, 3) := by decide +kernel
theorem dX6_takeNames_10 : decode cX6_takeNames 10 = .ok (.if_icmp .ge 23, 3) := by decide +kernel
theorem dX6_takeNames_13 : decode cX6_takeNames 13 = .ok (.iload_n 1, 1) := by decide +kernel
theorem dX6_takeNames_14 : decode cX6_takeNames 14 = .ok (.iload_n 2, 1) := by decide +kernel
theorem dX6_takeNames_15 : decode cX6_takeNames 15 = .ok (.ishr, 1) := by decide +kernel
theorem dX6_takeNames_16 : decode cX6_takeNames 16 = .ok (.iconst 1, 1) := by decide +kernel
theorem dX6_takeNames_17 : decode cX6_takeNames 17 = .ok (.iand, 1) := by decide +kernel
theorem dX6_takeNames_18 : decode cX6_takeNames 18 = .ok (.iconst 1, 1) := by decide +kernel
theorem dX6_takeNames_19 : decode cX6_takeNames 19 = .ok (.if_icmp .ne 8, 3) := by decide +kernel
theorem dX6_takeNames_22 : decode cX6_takeNames 22 = .ok (.aload_n 0, 1) := by decide +kernel
theorem dX6_takeNames_23 : decode cX6_takeNames 23 = .ok (.iload_n 2, 1) := by decide +kernel
theorem dX6_takeNames_24 : decode cX6_takeNames 24 = .ok (.invokevirtual 102, 3) := by decide +kernel
theorem dX6_takeNames_27 : decode cX6_takeNames 27 = .ok (.iinc 2 1, 3) := by decide +kernel
theorem dX6_takeNames_30 : decode cX6_takeNames 30 = .ok (.goto (-28), 3) := by decide +kernel
theorem dX6_takeNames_33 : decode cX6_takeNames 33 = .ok (.return_, 1) := by decide +kernel
set_option maxRecDepth 20000 in
theorem ggX6_crossedBy_X2_homeOf : GoodIn wsX6_crossedBy wsX2_homeOf := goodIn_r _ [7, 8, 9, 38, 39, 40, 41, 42, 43] (by decide +kernel) (by decide +kernel)
set_option maxRecDepth 20000 in
theorem gX6_crossedBy_X2_homeOf : GoodIn wsX6_crossedBy (wsV RX6 79 RX2 yX2_homeOf wsX2_homeOf) := goodIn_app (goodIn_of _ (by decide +kernel)) ggX6_crossedBy_X2_homeOf
set_option maxRecDepth 20000 in
theorem ggX6_crossedBy_X2_directionOf : GoodIn wsX6_crossedBy wsX2_directionOf := goodIn_r _ [13, 8, 14, 38, 39, 40, 41, 42, 43] (by decide +kernel) (by decide +kernel)
set_option maxRecDepth 20000 in
theorem gX6_crossedBy_X2_directionOf : GoodIn wsX6_crossedBy (wsV RX6 109 RX2 yX2_directionOf wsX2_directionOf) := goodIn_app (goodIn_of _ (by decide +kernel)) ggX6_crossedBy_X2_directionOf
set_option maxRecDepth 20000 in
theorem ggX6_crossedBy_X2_lengthOf : GoodIn wsX6_crossedBy wsX2_lengthOf := goodIn_r _ [18, 8, 19, 38, 39, 40, 41, 42, 43] (by decide +kernel) (by decide +kernel)
set_option maxRecDepth 20000 in
theorem gX6_crossedBy_X2_lengthOf : GoodIn wsX6_crossedBy (wsV RX6 85 RX2 yX2_lengthOf wsX2_lengthOf) := goodIn_app (goodIn_of _ (by decide +kernel)) ggX6_crossedBy_X2_lengthOf
set_option maxRecDepth 20000 in
theorem ggX6_crossedBy_X1_ahead : GoodIn wsX6_crossedBy wsX1_ahead := goodIn_r _ [24, 25, 26, 44, 45, 46, 47, 48, 49] (by decide +kernel) (by decide +kernel)
set_option maxRecDepth 20000 in
theorem gX6_crossedBy_X1_ahead : GoodIn wsX6_crossedBy (wsV RX6 82 RX1 yX1_ahead wsX1_ahead) := goodIn_app (goodIn_of _ (by decide +kernel)) ggX6_crossedBy_X1_ahead
set_option maxRecDepth 20000 in
theorem ggX6_crossedBy_X6_namesIn : GoodIn wsX6_crossedBy wsX6_namesIn := goodIn_r _ [31, 32, 33, 34, 35, 36, 37] (by decide +kernel) (by decide +kernel)
set_option maxRecDepth 20000 in
theorem gX6_crossedBy_X6_namesIn : GoodIn wsX6_crossedBy (wsV RX6 57 RX6 yX6_namesIn wsX6_namesIn) := goodIn_app (goodIn_of _ (by decide +kernel)) ggX6_crossedBy_X6_namesIn
theorem dX6_crossedBy_0 : decode cX6_crossedBy 0 = .ok (.aload_n 0, 1) := by decide +kernel
theorem dX6_crossedBy_1 : decode cX6_crossedBy 1 = .ok (.getfield 21, 3) := by decide +kernel
theorem dX6_crossedBy_4 : decode cX6_crossedBy 4 = .ok (.iload_n 1, 1) := by decide +kernel
theorem dX6_crossedBy_5 : decode cX6_crossedBy 5 = .ok (.invokevirtual 79, 3) := by decide +kernel
theorem dX6_crossedBy_8 : decode cX6_crossedBy 8 = .ok (.istore_n 2, 1) := by decide +kernel
theorem dX6_crossedBy_9 : decode cX6_crossedBy 9 = .ok (.aload_n 0, 1) := by decide +kernel
theorem dX6_crossedBy_10 : decode cX6_crossedBy 10 = .ok (.getfield 21, 3) := by decide +kernel
theorem dX6_crossedBy_13 : decode cX6_crossedBy 13 = .ok (.iload_n 1, 1) := by decide +kernel
theorem dX6_crossedBy_14 : decode cX6_crossedBy 14 = .ok (.invokevirtual 109, 3) := by decide +kernel
theorem dX6_crossedBy_17 : decode cX6_crossedBy 17 = .ok (.istore_n 3, 1) := by decide +kernel
theorem dX6_crossedBy_18 : decode cX6_crossedBy 18 = .ok (.iconst 0, 1) := by decide +kernel
theorem dX6_crossedBy_19 : decode cX6_crossedBy 19 = .ok (.istore 4, 2) := by decide +kernel
theorem dX6_crossedBy_21 : decode cX6_crossedBy 21 = .ok (.iconst 0, 1) := by decide +kernel
theorem dX6_crossedBy_22 : decode cX6_crossedBy 22 = .ok (.istore 5, 2) := by decide +kernel
theorem dX6_crossedBy_24 : decode cX6_crossedBy 24 = .ok (.iload 5, 2) := by decide +kernel
theorem dX6_crossedBy_26 : decode cX6_crossedBy 26 = .ok (.aload_n 0, 1) := by decide +kernel
theorem dX6_crossedBy_27 : decode cX6_crossedBy 27 = .ok (.getfield 21, 3) := by decide +kernel
theorem dX6_crossedBy_30 : decode cX6_crossedBy 30 = .ok (.iload_n 1, 1) := by decide +kernel
theorem dX6_crossedBy_31 : decode cX6_crossedBy 31 = .ok (.invokevirtual 85, 3) := by decide +kernel
theorem dX6_crossedBy_34 : decode cX6_crossedBy 34 = .ok (.if_icmp .ge 36, 3) := by decide +kernel
theorem dX6_crossedBy_37 : decode cX6_crossedBy 37 = .ok (.iload_n 3, 1) := by decide +kernel
theorem dX6_crossedBy_38 : decode cX6_crossedBy 38 = .ok (.iconst (-1), 1) := by decide +kernel
theorem dX6_crossedBy_39 : decode cX6_crossedBy 39 = .ok (.if_icmp .eq 31, 3) := by decide +kernel
theorem dX6_crossedBy_42 : decode cX6_crossedBy 42 = .ok (.iload 4, 2) := by decide +kernel
theorem dX6_crossedBy_44 : decode cX6_crossedBy 44 = .ok (.aload_n 0, 1) := by decide +kernel
theorem dX6_crossedBy_45 : decode cX6_crossedBy 45 = .ok (.aload_n 0, 1) := by decide +kernel
theorem dX6_crossedBy_46 : decode cX6_crossedBy 46 = .ok (.getfield 12, 3) := by decide +kernel
theorem dX6_crossedBy_49 : decode cX6_crossedBy 49 = .ok (.iload_n 2, 1) := by decide +kernel
theorem dX6_crossedBy_50 : decode cX6_crossedBy 50 = .ok (.iload_n 3, 1) := by decide +kernel
theorem dX6_crossedBy_51 : decode cX6_crossedBy 51 = .ok (.iload 5, 2) := by decide +kernel
theorem dX6_crossedBy_53 : decode cX6_crossedBy 53 = .ok (.iconst 1, 1) := by decide +kernel
theorem dX6_crossedBy_54 : decode cX6_crossedBy 54 = .ok (.iadd, 1) := by decide +kernel
theorem dX6_crossedBy_55 : decode cX6_crossedBy 55 = .ok (.invokevirtual 82, 3) := by decide +kernel
theorem dX6_crossedBy_58 : decode cX6_crossedBy 58 = .ok (.invokevirtual 57, 3) := by decide +kernel
theorem dX6_crossedBy_61 : decode cX6_crossedBy 61 = .ok (.ior, 1) := by decide +kernel
theorem dX6_crossedBy_62 : decode cX6_crossedBy 62 = .ok (.istore 4, 2) := by decide +kernel
theorem dX6_crossedBy_64 : decode cX6_crossedBy 64 = .ok (.iinc 5 1, 3) := by decide +kernel
theorem dX6_crossedBy_67 : decode cX6_crossedBy 67 = .ok (.goto (-43), 3) := by decide +kernel
theorem dX6_crossedBy_70 : decode cX6_crossedBy 70 = .ok (.iload 4, 2) := by decide +kernel
theorem dX6_crossedBy_72 : decode cX6_crossedBy 72 = .ok (.iconst 1, 1) := by decide +kernel
theorem dX6_crossedBy_73 : decode cX6_crossedBy 73 = .ok (.iload_n 1, 1) := by decide +kernel
theorem dX6_crossedBy_74 : decode cX6_crossedBy 74 = .ok (.ishl, 1) := by decide +kernel
theorem dX6_crossedBy_75 : decode cX6_crossedBy 75 = .ok (.iconst (-1), 1) := by decide +kernel
theorem dX6_crossedBy_76 : decode cX6_crossedBy 76 = .ok (.ixor, 1) := by decide +kernel
theorem dX6_crossedBy_77 : decode cX6_crossedBy 77 = .ok (.iand, 1) := by decide +kernel
theorem dX6_crossedBy_78 : decode cX6_crossedBy 78 = .ok (.ireturn, 1) := by decide +kernel
set_option maxRecDepth 20000 in
theorem ggX6_turningNow_X4_turningBy : GoodIn wsX6_turningNow wsX4_turningBy := goodIn_r _ [7, 8, 9, 10, 11, 6, 12, 13, 14, 15, 16, 17, 18, 19, 20, 21, 22, 23, 24, 25, 37, 38, 39, 40, 41] (by decide +kernel) (by decide +kernel)
set_option maxRecDepth 20000 in
theorem gX6_turningNow_X4_turningBy : GoodIn wsX6_turningNow (wsV RX6 118 RX4 yX4_turningBy wsX4_turningBy) := goodIn_app (goodIn_of _ (by decide +kernel)) ggX6_turningNow_X4_turningBy
theorem dX6_turningNow_0 : decode cX6_turningNow 0 = .ok (.aload_n 0, 1) := by decide +kernel
theorem dX6_turningNow_1 : decode cX6_turningNow 1 = .ok (.getfield 28, 3) := by decide +kernel
theorem dX6_turningNow_4 : decode cX6_turningNow 4 = .ok (.aload_n 0, 1) := by decide +kernel
theorem dX6_turningNow_5 : decode cX6_turningNow 5 = .ok (.getfield 21, 3) := by decide +kernel
theorem dX6_turningNow_8 : decode cX6_turningNow 8 = .ok (.getfield 115, 3) := by decide +kernel
theorem dX6_turningNow_11 : decode cX6_turningNow 11 = .ok (.iload_n 1, 1) := by decide +kernel
theorem dX6_turningNow_12 : decode cX6_turningNow 12 = .ok (.invokevirtual 118, 3) := by decide +kernel
theorem dX6_turningNow_15 : decode cX6_turningNow 15 = .ok (.ireturn, 1) := by decide +kernel
set_option maxRecDepth 20000 in
theorem ggX6_shutsHarbour_X2_homeOf : GoodIn wsX6_shutsHarbour wsX2_homeOf := goodIn_r _ [7, 8, 9, 31, 32, 33, 34, 35, 36] (by decide +kernel) (by decide +kernel)
set_option maxRecDepth 20000 in
theorem gX6_shutsHarbour_X2_homeOf : GoodIn wsX6_shutsHarbour (wsV RX6 79 RX2 yX2_homeOf wsX2_homeOf) := goodIn_app (goodIn_of _ (by decide +kernel)) ggX6_shutsHarbour_X2_homeOf
set_option maxRecDepth 20000 in
theorem ggX6_shutsHarbour_X1_hasSeaBeside : GoodIn wsX6_shutsHarbour wsX1_hasSeaBeside := goodIn_r _ [14, 15, 16, 17, 13, 18, 19, 20, 21, 22, 23, 24, 25, 37, 38, 39, 40, 41, 42] (by decide +kernel) (by decide +kernel)
set_option maxRecDepth 20000 in
theorem gX6_shutsHarbour_X1_hasSeaBeside : GoodIn wsX6_shutsHarbour (wsV RX6 122 RX1 yX1_hasSeaBeside wsX1_hasSeaBeside) := goodIn_app (goodIn_of _ (by decide +kernel)) ggX6_shutsHarbour_X1_hasSeaBeside
theorem dX6_shutsHarbour_0 : decode cX6_shutsHarbour 0 = .ok (.iconst 0, 1) := by decide +kernel
theorem dX6_shutsHarbour_1 : decode cX6_shutsHarbour 1 = .ok (.istore_n 2, 1) := by decide +kernel
theorem dX6_shutsHarbour_2 : decode cX6_shutsHarbour 2 = .ok (.iload_n 2, 1) := by decide +kernel
theorem dX6_shutsHarbour_3 : decode cX6_shutsHarbour 3 = .ok (.aload_n 0, 1) := by decide +kernel
theorem dX6_shutsHarbour_4 : decode cX6_shutsHarbour 4 = .ok (.getfield 21, 3) := by decide +kernel
theorem dX6_shutsHarbour_7 : decode cX6_shutsHarbour 7 = .ok (.getfield 112, 3) := by decide +kernel
theorem dX6_shutsHarbour_10 : decode cX6_shutsHarbour 10 = .ok (.if_icmp .ge 30, 3) := by decide +kernel
theorem dX6_shutsHarbour_13 : decode cX6_shutsHarbour 13 = .ok (.aload_n 0, 1) := by decide +kernel
theorem dX6_shutsHarbour_14 : decode cX6_shutsHarbour 14 = .ok (.getfield 12, 3) := by decide +kernel
theorem dX6_shutsHarbour_17 : decode cX6_shutsHarbour 17 = .ok (.aload_n 0, 1) := by decide +kernel
theorem dX6_shutsHarbour_18 : decode cX6_shutsHarbour 18 = .ok (.getfield 21, 3) := by decide +kernel
theorem dX6_shutsHarbour_21 : decode cX6_shutsHarbour 21 = .ok (.iload_n 2, 1) := by decide +kernel
theorem dX6_shutsHarbour_22 : decode cX6_shutsHarbour 22 = .ok (.invokevirtual 79, 3) := by decide +kernel
theorem dX6_shutsHarbour_25 : decode cX6_shutsHarbour 25 = .ok (.iload_n 1, 1) := by decide +kernel
theorem dX6_shutsHarbour_26 : decode cX6_shutsHarbour 26 = .ok (.invokevirtual 122, 3) := by decide +kernel
theorem dX6_shutsHarbour_29 : decode cX6_shutsHarbour 29 = .ok (.ifCond .ne 5, 3) := by decide +kernel
theorem dX6_shutsHarbour_32 : decode cX6_shutsHarbour 32 = .ok (.iconst 1, 1) := by decide +kernel
theorem dX6_shutsHarbour_33 : decode cX6_shutsHarbour 33 = .ok (.ireturn, 1) := by decide +kernel
theorem dX6_shutsHarbour_34 : decode cX6_shutsHarbour 34 = .ok (.iinc 2 1, 3) := by decide +kernel
theorem dX6_shutsHarbour_37 : decode cX6_shutsHarbour 37 = .ok (.goto (-35), 3) := by decide +kernel
theorem dX6_shutsHarbour_40 : decode cX6_shutsHarbour 40 = .ok (.iconst 0, 1) := by decide +kernel
theorem dX6_shutsHarbour_41 : decode cX6_shutsHarbour 41 = .ok (.ireturn, 1) := by decide +kernel
set_option maxRecDepth 20000 in
theorem ggX6_namesWithBackTo_X2_directionOf : GoodIn wsX6_namesWithBackTo wsX2_directionOf := goodIn_r _ [7, 8, 9, 27, 28, 29, 30, 31, 32] (by decide +kernel) (by decide +kernel)
set_option maxRecDepth 20000 in
theorem gX6_namesWithBackTo_X2_directionOf : GoodIn wsX6_namesWithBackTo (wsV RX6 109 RX2 yX2_directionOf wsX2_directionOf) := goodIn_app (goodIn_of _ (by decide +kernel)) ggX6_namesWithBackTo_X2_directionOf
set_option maxRecDepth 20000 in
theorem ggX6_namesWithBackTo_X2_homeOf : GoodIn wsX6_namesWithBackTo wsX2_homeOf := goodIn_r _ [13, 8, 14, 27, 28, 29, 30, 31, 32] (by decide +kernel) (by decide +kernel)
set_option maxRecDepth 20000 in
theorem gX6_namesWithBackTo_X2_homeOf : GoodIn wsX6_namesWithBackTo (wsV RX6 79 RX2 yX2_homeOf wsX2_homeOf) := goodIn_app (goodIn_of _ (by decide +kernel)) ggX6_namesWithBackTo_X2_homeOf
set_option maxRecDepth 20000 in
theorem ggX6_namesWithBackTo_X1_ahead : GoodIn wsX6_namesWithBackTo wsX1_ahead := goodIn_r _ [19, 20, 21, 33, 34, 35, 36, 37, 38] (by decide +kernel) (by decide +kernel)
set_option maxRecDepth 20000 in
theorem gX6_namesWithBackTo_X1_ahead : GoodIn wsX6_namesWithBackTo (wsV RX6 82 RX1 yX1_ahead wsX1_ahead) := goodIn_app (goodIn_of _ (by decide +kernel)) ggX6_namesWithBackTo_X1_ahead
theorem dX6_namesWithBackTo_0 : decode cX6_namesWithBackTo 0 = .ok (.iconst 0, 1) := by decide +kernel
theorem dX6_namesWithBackTo_1 : decode cX6_namesWithBackTo 1 = .ok (.istore_n 2, 1) := by decide +kernel
theorem dX6_namesWithBackTo_2 : decode cX6_namesWithBackTo 2 = .ok (.iconst 0, 1) := by decide +kernel
theorem dX6_namesWithBackTo_3 : decode cX6_namesWithBackTo 3 = .ok (.istore_n 3, 1) := by decide +kernel
theorem dX6_namesWithBackTo_4 : decode cX6_namesWithBackTo 4 = .ok (.iload_n 3, 1) := by decide +kernel
theorem dX6_namesWithBackTo_5 : decode cX6_namesWithBackTo 5 = .ok (.aload_n 0, 1) := by decide +kernel
theorem dX6_namesWithBackTo_6 : decode cX6_namesWithBackTo 6 = .ok (.getfield 21, 3) := by decide +kernel
theorem dX6_namesWithBackTo_9 : decode cX6_namesWithBackTo 9 = .ok (.getfield 112, 3) := by decide +kernel
theorem dX6_namesWithBackTo_12 : decode cX6_namesWithBackTo 12 = .ok (.if_icmp .ge 61, 3) := by decide +kernel
theorem dX6_namesWithBackTo_15 : decode cX6_namesWithBackTo 15 = .ok (.aload_n 0, 1) := by decide +kernel
theorem dX6_namesWithBackTo_16 : decode cX6_namesWithBackTo 16 = .ok (.getfield 21, 3) := by decide +kernel
theorem dX6_namesWithBackTo_19 : decode cX6_namesWithBackTo 19 = .ok (.iload_n 3, 1) := by decide +kernel
theorem dX6_namesWithBackTo_20 : decode cX6_namesWithBackTo 20 = .ok (.invokevirtual 109, 3) := by decide +kernel
theorem dX6_namesWithBackTo_23 : decode cX6_namesWithBackTo 23 = .ok (.istore 4, 2) := by decide +kernel
theorem dX6_namesWithBackTo_25 : decode cX6_namesWithBackTo 25 = .ok (.iload 4, 2) := by decide +kernel
theorem dX6_namesWithBackTo_27 : decode cX6_namesWithBackTo 27 = .ok (.iconst 2, 1) := by decide +kernel
theorem dX6_namesWithBackTo_28 : decode cX6_namesWithBackTo 28 = .ok (.iadd, 1) := by decide +kernel
theorem dX6_namesWithBackTo_29 : decode cX6_namesWithBackTo 29 = .ok (.iconst 4, 1) := by decide +kernel
theorem dX6_namesWithBackTo_30 : decode cX6_namesWithBackTo 30 = .ok (.irem, 1) := by decide +kernel
theorem dX6_namesWithBackTo_31 : decode cX6_namesWithBackTo 31 = .ok (.istore 5, 2) := by decide +kernel
theorem dX6_namesWithBackTo_33 : decode cX6_namesWithBackTo 33 = .ok (.iload 4, 2) := by decide +kernel
theorem dX6_namesWithBackTo_35 : decode cX6_namesWithBackTo 35 = .ok (.iconst (-1), 1) := by decide +kernel
theorem dX6_namesWithBackTo_36 : decode cX6_namesWithBackTo 36 = .ok (.if_icmp .eq 31, 3) := by decide +kernel
theorem dX6_namesWithBackTo_39 : decode cX6_namesWithBackTo 39 = .ok (.aload_n 0, 1) := by decide +kernel
theorem dX6_namesWithBackTo_40 : decode cX6_namesWithBackTo 40 = .ok (.getfield 12, 3) := by decide +kernel
theorem dX6_namesWithBackTo_43 : decode cX6_namesWithBackTo 43 = .ok (.aload_n 0, 1) := by decide +kernel
theorem dX6_namesWithBackTo_44 : decode cX6_namesWithBackTo 44 = .ok (.getfield 21, 3) := by decide +kernel
theorem dX6_namesWithBackTo_47 : decode cX6_namesWithBackTo 47 = .ok (.iload_n 3, 1) := by decide +kernel
theorem dX6_namesWithBackTo_48 : decode cX6_namesWithBackTo 48 = .ok (.invokevirtual 79, 3) := by decide +kernel
theorem dX6_namesWithBackTo_51 : decode cX6_namesWithBackTo 51 = .ok (.iload 5, 2) := by decide +kernel
theorem dX6_namesWithBackTo_53 : decode cX6_namesWithBackTo 53 = .ok (.iconst 1, 1) := by decide +kernel
theorem dX6_namesWithBackTo_54 : decode cX6_namesWithBackTo 54 = .ok (.invokevirtual 82, 3) := by decide +kernel
theorem dX6_namesWithBackTo_57 : decode cX6_namesWithBackTo 57 = .ok (.iload_n 1, 1) := by decide +kernel
theorem dX6_namesWithBackTo_58 : decode cX6_namesWithBackTo 58 = .ok (.if_icmp .ne 9, 3) := by decide +kernel
theorem dX6_namesWithBackTo_61 : decode cX6_namesWithBackTo 61 = .ok (.iload_n 2, 1) := by decide +kernel
theorem dX6_namesWithBackTo_62 : decode cX6_namesWithBackTo 62 = .ok (.iconst 1, 1) := by decide +kernel
theorem dX6_namesWithBackTo_63 : decode cX6_namesWithBackTo 63 = .ok (.iload_n 3, 1) := by decide +kernel
theorem dX6_namesWithBackTo_64 : decode cX6_namesWithBackTo 64 = .ok (.ishl, 1) := by decide +kernel
theorem dX6_namesWithBackTo_65 : decode cX6_namesWithBackTo 65 = .ok (.ior, 1) := by decide +kernel
theorem dX6_namesWithBackTo_66 : decode cX6_namesWithBackTo 66 = .ok (.istore_n 2, 1) := by decide +kernel
theorem dX6_namesWithBackTo_67 : decode cX6_namesWithBackTo 67 = .ok (.iinc 3 1, 3) := by decide +kernel
theorem dX6_namesWithBackTo_70 : decode cX6_namesWithBackTo 70 = .ok (.goto (-66), 3) := by decide +kernel
theorem dX6_namesWithBackTo_73 : decode cX6_namesWithBackTo 73 = .ok (.iload_n 2, 1) := by decide +kernel
theorem dX6_namesWithBackTo_74 : decode cX6_namesWithBackTo 74 = .ok (.ireturn, 1) := by decide +kernel
