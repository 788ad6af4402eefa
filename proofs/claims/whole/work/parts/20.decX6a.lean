set_option maxRecDepth 20000 in
theorem ggX6_init_X1_init : GoodIn wsX6_init wsX1_init := goodIn_r _ [20, 21, 2, 3, 22, 23, 16, 24, 25, 37, 38, 39, 40, 41, 42] (by decide +kernel) (by decide +kernel)
set_option maxRecDepth 20000 in
theorem gX6_init_X1_init_n11 : GoodIn wsX6_init (wsX1_init) := ggX6_init_X1_init
set_option maxRecDepth 20000 in
theorem ggX6_init_X2_init : GoodIn wsX6_init wsX2_init := goodIn_r _ [27, 28, 2, 3, 16, 29, 30, 31, 32, 48, 49, 50, 51, 52, 53] (by decide +kernel) (by decide +kernel)
set_option maxRecDepth 20000 in
theorem gX6_init_X2_init_n20 : GoodIn wsX6_init (wsX2_init) := ggX6_init_X2_init
set_option maxRecDepth 20000 in
theorem ggX6_init_X4_init : GoodIn wsX6_init wsX4_init := goodIn_r _ [34, 35, 2, 3, 16, 36, 54, 55, 56, 57, 58] (by decide +kernel) (by decide +kernel)
set_option maxRecDepth 20000 in
theorem gX6_init_X4_init_n27 : GoodIn wsX6_init (wsX4_init) := ggX6_init_X4_init
theorem dX6_init_0 : decode cX6_init 0 = .ok (.aload_n 0, 1) := by decide +kernel
theorem dX6_init_1 : decode cX6_init 1 = .ok (.invokespecial 3, 3) := by decide +kernel
theorem dX6_init_4 : decode cX6_init 4 = .ok (.aload_n 0, 1) := by decide +kernel
theorem dX6_init_5 : decode cX6_init 5 = .ok (.new 9, 3) := by decide +kernel
theorem dX6_init_8 : decode cX6_init 8 = .ok (.dup, 1) := by decide +kernel
theorem dX6_init_9 : decode cX6_init 9 = .ok (.invokespecial 11, 3) := by decide +kernel
theorem dX6_init_12 : decode cX6_init 12 = .ok (.putfield 12, 3) := by decide +kernel
theorem dX6_init_15 : decode cX6_init 15 = .ok (.aload_n 0, 1) := by decide +kernel
theorem dX6_init_16 : decode cX6_init 16 = .ok (.new 18, 3) := by decide +kernel
theorem dX6_init_19 : decode cX6_init 19 = .ok (.dup, 1) := by decide +kernel
theorem dX6_init_20 : decode cX6_init 20 = .ok (.invokespecial 20, 3) := by decide +kernel
theorem dX6_init_23 : decode cX6_init 23 = .ok (.putfield 21, 3) := by decide +kernel
theorem dX6_init_26 : decode cX6_init 26 = .ok (.aload_n 0, 1) := by decide +kernel
theorem dX6_init_27 : decode cX6_init 27 = .ok (.new 25, 3) := by decide +kernel
theorem dX6_init_30 : decode cX6_init 30 = .ok (.dup, 1) := by decide +kernel
theorem dX6_init_31 : decode cX6_init 31 = .ok (.invokespecial 27, 3) := by decide +kernel
theorem dX6_init_34 : decode cX6_init 34 = .ok (.putfield 28, 3) := by decide +kernel
theorem dX6_init_37 : decode cX6_init 37 = .ok (.aload_n 0, 1) := by decide +kernel
theorem dX6_init_38 : decode cX6_init 38 = .ok (.sipush 144, 3) := by decide +kernel
theorem dX6_init_41 : decode cX6_init 41 = .ok (.newarray .int, 2) := by decide +kernel
theorem dX6_init_43 : decode cX6_init 43 = .ok (.putfield 32, 3) := by decide +kernel
theorem dX6_init_46 : decode cX6_init 46 = .ok (.aload_n 0, 1) := by decide +kernel
theorem dX6_init_47 : decode cX6_init 47 = .ok (.sipush 144, 3) := by decide +kernel
theorem dX6_init_50 : decode cX6_init 50 = .ok (.newarray .int, 2) := by decide +kernel
theorem dX6_init_52 : decode cX6_init 52 = .ok (.putfield 36, 3) := by decide +kernel
theorem dX6_init_55 : decode cX6_init 55 = .ok (.return_, 1) := by decide +kernel
set_option maxRecDepth 20000 in
theorem ggX6_beginSea_X1_beginSea : GoodIn wsX6_beginSea wsX1_beginSea := goodIn_r _ [10, 11, 12, 13, 14, 15, 16, 38, 39, 40, 41, 42, 43] (by decide +kernel) (by decide +kernel)
set_option maxRecDepth 20000 in
theorem gX6_beginSea_X1_beginSea : GoodIn wsX6_beginSea (wsV RX6 39 RX1 yX1_beginSea wsX1_beginSea) := goodIn_app (goodIn_of _ (by decide +kernel)) ggX6_beginSea_X1_beginSea
set_option maxRecDepth 20000 in
theorem ggX6_beginSea_X2_beginEmpty : GoodIn wsX6_beginSea wsX2_beginEmpty := goodIn_r _ [21, 22, 23, 44, 45, 46, 47, 48, 49] (by decide +kernel) (by decide +kernel)
set_option maxRecDepth 20000 in
theorem gX6_beginSea_X2_beginEmpty : GoodIn wsX6_beginSea (wsV RX6 43 RX2 yX2_beginEmpty wsX2_beginEmpty) := goodIn_app (goodIn_of _ (by decide +kernel)) ggX6_beginSea_X2_beginEmpty
set_option maxRecDepth 20000 in
theorem ggX6_beginSea_X4_beginEmpty : GoodIn wsX6_beginSea wsX4_beginEmpty := goodIn_r _ [28, 29, 30, 31, 32, 50, 51, 52, 53, 54] (by decide +kernel) (by decide +kernel)
set_option maxRecDepth 20000 in
theorem gX6_beginSea_X4_beginEmpty : GoodIn wsX6_beginSea (wsV RX6 46 RX4 yX4_beginEmpty wsX4_beginEmpty) := goodIn_app (goodIn_of _ (by decide +kernel)) ggX6_beginSea_X4_beginEmpty
theorem dX6_beginSea_0 : decode cX6_beginSea 0 = .ok (.aload_n 0, 1) := by decide +kernel
theorem dX6_beginSea_1 : decode cX6_beginSea 1 = .ok (.getfield 12, 3) := by decide +kernel
theorem dX6_beginSea_4 : decode cX6_beginSea 4 = .ok (.iload_n 1, 1) := by decide +kernel
theorem dX6_beginSea_5 : decode cX6_beginSea 5 = .ok (.iload_n 2, 1) := by decide +kernel
theorem dX6_beginSea_6 : decode cX6_beginSea 6 = .ok (.invokevirtual 39, 3) := by decide +kernel
theorem dX6_beginSea_9 : decode cX6_beginSea 9 = .ok (.aload_n 0, 1) := by decide +kernel
theorem dX6_beginSea_10 : decode cX6_beginSea 10 = .ok (.getfield 21, 3) := by decide +kernel
theorem dX6_beginSea_13 : decode cX6_beginSea 13 = .ok (.invokevirtual 43, 3) := by decide +kernel
theorem dX6_beginSea_16 : decode cX6_beginSea 16 = .ok (.aload_n 0, 1) := by decide +kernel
theorem dX6_beginSea_17 : decode cX6_beginSea 17 = .ok (.getfield 28, 3) := by decide +kernel
theorem dX6_beginSea_20 : decode cX6_beginSea 20 = .ok (.invokevirtual 46, 3) := by decide +kernel
theorem dX6_beginSea_23 : decode cX6_beginSea 23 = .ok (.iconst 0, 1) := by decide +kernel
theorem dX6_beginSea_24 : decode cX6_beginSea 24 = .ok (.istore_n 3, 1) := by decide +kernel
theorem dX6_beginSea_25 : decode cX6_beginSea 25 = .ok (.iload_n 3, 1) := by decide +kernel
theorem dX6_beginSea_26 : decode cX6_beginSea 26 = .ok (.sipush 144, 3) := by decide +kernel
theorem dX6_beginSea_29 : decode cX6_beginSea 29 = .ok (.if_icmp .ge 23, 3) := by decide +kernel
theorem dX6_beginSea_32 : decode cX6_beginSea 32 = .ok (.aload_n 0, 1) := by decide +kernel
theorem dX6_beginSea_33 : decode cX6_beginSea 33 = .ok (.getfield 32, 3) := by decide +kernel
theorem dX6_beginSea_36 : decode cX6_beginSea 36 = .ok (.iload_n 3, 1) := by decide +kernel
theorem dX6_beginSea_37 : decode cX6_beginSea 37 = .ok (.iconst 0, 1) := by decide +kernel
theorem dX6_beginSea_38 : decode cX6_beginSea 38 = .ok (.iastore, 1) := by decide +kernel
theorem dX6_beginSea_39 : decode cX6_beginSea 39 = .ok (.aload_n 0, 1) := by decide +kernel
theorem dX6_beginSea_40 : decode cX6_beginSea 40 = .ok (.getfield 36, 3) := by decide +kernel
theorem dX6_beginSea_43 : decode cX6_beginSea 43 = .ok (.iload_n 3, 1) := by decide +kernel
theorem dX6_beginSea_44 : decode cX6_beginSea 44 = .ok (.iconst (-1), 1) := by decide +kernel
theorem dX6_beginSea_45 : decode cX6_beginSea 45 = .ok (.iastore, 1) := by decide +kernel
theorem dX6_beginSea_46 : decode cX6_beginSea 46 = .ok (.iinc 3 1, 3) := by decide +kernel
theorem dX6_beginSea_49 : decode cX6_beginSea 49 = .ok (.goto (-24), 3) := by decide +kernel
theorem dX6_beginSea_52 : decode cX6_beginSea 52 = .ok (.return_, 1) := by decide +kernel
set_option maxRecDepth 20000 in
theorem ggX6_copyFrom_X1_copyFrom : GoodIn wsX6_copyFrom wsX1_copyFrom := goodIn_r _ [10, 11, 12, 13, 14, 15, 16, 43, 44, 45, 46, 47, 48] (by decide +kernel) (by decide +kernel)
set_option maxRecDepth 20000 in
theorem gX6_copyFrom_X1_copyFrom : GoodIn wsX6_copyFrom (wsV RX6 47 RX1 yX1_copyFrom wsX1_copyFrom) := goodIn_app (goodIn_of _ (by decide +kernel)) ggX6_copyFrom_X1_copyFrom
set_option maxRecDepth 20000 in
theorem ggX6_copyFrom_X2_copyFrom : GoodIn wsX6_copyFrom wsX2_copyFrom := goodIn_r _ [21, 22, 23, 24, 25, 26, 27, 49, 50, 51, 52, 53, 54] (by decide +kernel) (by decide +kernel)
set_option maxRecDepth 20000 in
theorem gX6_copyFrom_X2_copyFrom : GoodIn wsX6_copyFrom (wsV RX6 51 RX2 yX2_copyFrom wsX2_copyFrom) := goodIn_app (goodIn_of _ (by decide +kernel)) ggX6_copyFrom_X2_copyFrom
set_option maxRecDepth 20000 in
theorem ggX6_copyFrom_X4_copyFrom : GoodIn wsX6_copyFrom wsX4_copyFrom := goodIn_r _ [32, 33, 34, 35, 36, 37, 55, 56, 57, 58, 59] (by decide +kernel) (by decide +kernel)
set_option maxRecDepth 20000 in
theorem gX6_copyFrom_X4_copyFrom : GoodIn wsX6_copyFrom (wsV RX6 54 RX4 yX4_copyFrom wsX4_copyFrom) := goodIn_app (goodIn_of _ (by decide +kernel)) ggX6_copyFrom_X4_copyFrom
theorem dX6_copyFrom_0 : decode cX6_copyFrom 0 = .ok (.aload_n 0, 1) := by decide +kernel
theorem dX6_copyFrom_1 : decode cX6_copyFrom 1 = .ok (.getfield 12, 3) := by decide +kernel
theorem dX6_copyFrom_4 : decode cX6_copyFrom 4 = .ok (.aload_n 1, 1) := by decide +kernel
theorem dX6_copyFrom_5 : decode cX6_copyFrom 5 = .ok (.getfield 12, 3) := by decide +kernel
theorem dX6_copyFrom_8 : decode cX6_copyFrom 8 = .ok (.invokevirtual 47, 3) := by decide +kernel
theorem dX6_copyFrom_11 : decode cX6_copyFrom 11 = .ok (.aload_n 0, 1) := by decide +kernel
theorem dX6_copyFrom_12 : decode cX6_copyFrom 12 = .ok (.getfield 21, 3) := by decide +kernel
theorem dX6_copyFrom_15 : decode cX6_copyFrom 15 = .ok (.aload_n 1, 1) := by decide +kernel
theorem dX6_copyFrom_16 : decode cX6_copyFrom 16 = .ok (.getfield 21, 3) := by decide +kernel
theorem dX6_copyFrom_19 : decode cX6_copyFrom 19 = .ok (.invokevirtual 51, 3) := by decide +kernel
theorem dX6_copyFrom_22 : decode cX6_copyFrom 22 = .ok (.aload_n 0, 1) := by decide +kernel
theorem dX6_copyFrom_23 : decode cX6_copyFrom 23 = .ok (.getfield 28, 3) := by decide +kernel
theorem dX6_copyFrom_26 : decode cX6_copyFrom 26 = .ok (.aload_n 1, 1) := by decide +kernel
theorem dX6_copyFrom_27 : decode cX6_copyFrom 27 = .ok (.getfield 28, 3) := by decide +kernel
theorem dX6_copyFrom_30 : decode cX6_copyFrom 30 = .ok (.invokevirtual 54, 3) := by decide +kernel
theorem dX6_copyFrom_33 : decode cX6_copyFrom 33 = .ok (.iconst 0, 1) := by decide +kernel
theorem dX6_copyFrom_34 : decode cX6_copyFrom 34 = .ok (.istore_n 2, 1) := by decide +kernel
theorem dX6_copyFrom_35 : decode cX6_copyFrom 35 = .ok (.iload_n 2, 1) := by decide +kernel
theorem dX6_copyFrom_36 : decode cX6_copyFrom 36 = .ok (.sipush 144, 3) := by decide +kernel
theorem dX6_copyFrom_39 : decode cX6_copyFrom 39 = .ok (.if_icmp .ge 33, 3) := by decide +kernel
theorem dX6_copyFrom_42 : decode cX6_copyFrom 42 = .ok (.aload_n 0, 1) := by decide +kernel
theorem dX6_copyFrom_43 : decode cX6_copyFrom 43 = .ok (.getfield 32, 3) := by decide +kernel
theorem dX6_copyFrom_46 : decode cX6_copyFrom 46 = .ok (.iload_n 2, 1) := by decide +kernel
theorem dX6_copyFrom_47 : decode cX6_copyFrom 47 = .ok (.aload_n 1, 1) := by decide +kernel
theorem dX6_copyFrom_48 : decode cX6_copyFrom 48 = .ok (.getfield 32, 3) := by decide +kernel
theorem dX6_copyFrom_51 : decode cX6_copyFrom 51 = .ok (.iload_n 2, 1) := by decide +kernel
theorem dX6_copyFrom_52 : decode cX6_copyFrom 52 = .ok (.iaload, 1) := by decide +kernel
theorem dX6_copyFrom_53 : decode cX6_copyFrom 53 = .ok (.iastore, 1) := by decide +kernel
theorem dX6_copyFrom_54 : decode cX6_copyFrom 54 = .ok (.aload_n 0, 1) := by decide +kernel
theorem dX6_copyFrom_55 : decode cX6_copyFrom 55 = .ok (.getfield 36, 3) := by decide +kernel
theorem dX6_copyFrom_58 : decode cX6_copyFrom 58 = .ok (.iload_n 2, 1) := by decide +kernel
theorem dX6_copyFrom_59 : decode cX6_copyFrom 59 = .ok (.aload_n 1, 1) := by decide +kernel
theorem dX6_copyFrom_60 : decode cX6_copyFrom 60 = .ok (.getfield 36, 3) := by decide +kernel
theorem dX6_copyFrom_63 : decode cX6_copyFrom 63 = .ok (.iload_n 2, 1) := by decide +kernel
theorem dX6_copyFrom_64 : decode cX6_copyFrom 64 = .ok (.iaload, 1) := by decide +kernel
theorem dX6_copyFrom_65 : decode cX6_copyFrom 65 = .ok (.iastore, 1) := by decide +kernel
theorem dX6_copyFrom_66 : decode cX6_copyFrom 66 = .ok (.iinc 2 1, 3) := by decide +kernel
theorem dX6_copyFrom_69 : decode cX6_copyFrom 69 = .ok (.goto (-34), 3) := by decide +kernel
theorem dX6_copyFrom_72 : decode cX6_copyFrom 72 = .ok (.return_, 1) := by decide +kernel
theorem dX6_namesIn_0 : decode cX6_namesIn 0 = .ok (.iload_n 1, 1) := by decide +kernel
theorem dX6_namesIn_1 : decode cX6_namesIn 1 = .ok (.ifCond .lt 19, 3) := by decide +kernel
theorem dX6_namesIn_4 : decode cX6_namesIn 4 = .ok (.iload_n 1, 1) := by decide +kernel
theorem dX6_namesIn_5 : decode cX6_namesIn 5 = .ok (.sipush 144, 3) := by decide +kernel
theorem dX6_namesIn_8 : decode cX6_namesIn 8 = .ok (.if_icmp .ge 12, 3) := by decide +kernel
theorem dX6_namesIn_11 : decode cX6_namesIn 11 = .ok (.aload_n 0, 1) := by decide +kernel
theorem dX6_namesIn_12 : decode cX6_namesIn 12 = .ok (.getfield 32, 3) := by decide +kernel
theorem dX6_namesIn_15 : decode cX6_namesIn 15 = .ok (.iload_n 1, 1) := by decide +kernel
theorem dX6_namesIn_16 : decode cX6_namesIn 16 = .ok (.iaload, 1) := by decide +kernel
theorem dX6_namesIn_17 : decode cX6_namesIn 17 = .ok (.goto 4, 3) := by decide +kernel
theorem dX6_namesIn_20 : decode cX6_namesIn 20 = .ok (.iconst 0, 1) := by decide +kernel
theorem dX6_namesIn_21 : decode cX6_namesIn 21 = .ok (.ireturn, 1) := by decide +kernel
set_option maxRecDepth 20000 in
theorem ggX6_letterIn_X6_namesIn : GoodIn wsX6_letterIn wsX6_namesIn := goodIn_r _ [6, 7, 8, 9, 10, 11, 12] (by decide +kernel) (by decide +kernel)
set_option maxRecDepth 20000 in
theorem gX6_letterIn_X6_namesIn : GoodIn wsX6_letterIn (wsV RX6 57 RX6 yX6_namesIn wsX6_namesIn) := goodIn_app (goodIn_of _ (by decide +kernel)) ggX6_letterIn_X6_namesIn
theorem dX6_letterIn_0 : decode cX6_letterIn 0 = .ok (.aload_n 0, 1) := by decide +kernel
theorem dX6_letterIn_1 : decode cX6_letterIn 1 = .ok (.iload_n 1, 1) := by decide +kernel
theorem dX6_letterIn_2 : decode cX6_letterIn 2 = .ok (.invokevirtual 57, 3) := by decide +kernel
theorem dX6_letterIn_5 : decode cX6_letterIn 5 = .ok (.ifCond .eq 12, 3) := by decide +kernel
theorem dX6_letterIn_8 : decode cX6_letterIn 8 = .ok (.aload_n 0, 1) := by decide +kernel
theorem dX6_letterIn_9 : decode cX6_letterIn 9 = .ok (.getfield 36, 3) := by decide +kernel
theorem dX6_letterIn_12 : decode cX6_letterIn 12 = .ok (.iload_n 1, 1) := by decide +kernel
theorem dX6_letterIn_13 : decode cX6_letterIn 13 = .ok (.iaload, 1) := by decide +kernel
theorem dX6_letterIn_14 : decode cX6_letterIn 14 = .ok (.goto 4, 3) := by decide +kernel
theorem dX6_letterIn_17 : decode cX6_letterIn 17 = .ok (.iconst (-1), 1) := by decide +kernel
theorem dX6_letterIn_18 : decode cX6_letterIn 18 = .ok (.ireturn, 1) := by decide +kernel
set_option maxRecDepth 20000 in
theorem ggX6_isOpen_X1_isLand : GoodIn wsX6_isOpen wsX1_isLand := goodIn_r _ [7, 8, 26, 27, 28, 29, 30, 31] (by decide +kernel) (by decide +kernel)
set_option maxRecDepth 20000 in
theorem gX6_isOpen_X1_isLand : GoodIn wsX6_isOpen (wsV RX6 61 RX1 yX1_isLand wsX1_isLand) := goodIn_app (goodIn_of _ (by decide +kernel)) ggX6_isOpen_X1_isLand
set_option maxRecDepth 20000 in
theorem ggX6_isOpen_X1_isRiver : GoodIn wsX6_isOpen wsX1_isRiver := goodIn_r _ [12, 13, 26, 27, 28, 29, 30, 31] (by decide +kernel) (by decide +kernel)
set_option maxRecDepth 20000 in
theorem gX6_isOpen_X1_isRiver : GoodIn wsX6_isOpen (wsV RX6 65 RX1 yX1_isRiver wsX1_isRiver) := goodIn_app (goodIn_of _ (by decide +kernel)) ggX6_isOpen_X1_isRiver
set_option maxRecDepth 20000 in
theorem ggX6_isOpen_X2_inCell : GoodIn wsX6_isOpen wsX2_inCell := goodIn_r _ [18, 19, 20, 32, 33, 34, 35, 36, 37] (by decide +kernel) (by decide +kernel)
set_option maxRecDepth 20000 in
theorem gX6_isOpen_X2_inCell : GoodIn wsX6_isOpen (wsV RX6 68 RX2 yX2_inCell wsX2_inCell) := goodIn_app (goodIn_of _ (by decide +kernel)) ggX6_isOpen_X2_inCell
theorem dX6_isOpen_0 : decode cX6_isOpen 0 = .ok (.aload_n 0, 1) := by decide +kernel
theorem dX6_isOpen_1 : decode cX6_isOpen 1 = .ok (.getfield 12, 3) := by decide +kernel
theorem dX6_isOpen_4 : decode cX6_isOpen 4 = .ok (.iload_n 1, 1) := by decide +kernel
theorem dX6_isOpen_5 : decode cX6_isOpen 5 = .ok (.invokevirtual 61, 3) := by decide +kernel
theorem dX6_isOpen_8 : decode cX6_isOpen 8 = .ok (.ifCond .eq 30, 3) := by decide +kernel
theorem dX6_isOpen_11 : decode cX6_isOpen 11 = .ok (.aload_n 0, 1) := by decide +kernel
theorem dX6_isOpen_12 : decode cX6_isOpen 12 = .ok (.getfield 12, 3) := by decide +kernel
theorem dX6_isOpen_15 : decode cX6_isOpen 15 = .ok (.iload_n 1, 1) := by decide +kernel
theorem dX6_isOpen_16 : decode cX6_isOpen 16 = .ok (.invokevirtual 65, 3) := by decide +kernel
theorem dX6_isOpen_19 : decode cX6_isOpen 19 = .ok (.ifCond .ne 19, 3) := by decide +kernel
theorem dX6_isOpen_22 : decode cX6_isOpen 22 = .ok (.aload_n 0, 1) := by decide +kernel
theorem dX6_isOpen_23 : decode cX6_isOpen 23 = .ok (.getfield 21, 3) := by decide +kernel
theorem dX6_isOpen_26 : decode cX6_isOpen 26 = .ok (.iload_n 1, 1) := by decide +kernel
theorem dX6_isOpen_27 : decode cX6_isOpen 27 = .ok (.invokevirtual 68, 3) := by decide +kernel
theorem dX6_isOpen_30 : decode cX6_isOpen 30 = .ok (.iconst (-1), 1) := by decide +kernel
theorem dX6_isOpen_31 : decode cX6_isOpen 31 = .ok (.if_icmp .ne 7, 3) := by decide +kernel
theorem dX6_isOpen_34 : decode cX6_isOpen 34 = .ok (.iconst 1, 1) := by decide +kernel
theorem dX6_isOpen_35 : decode cX6_isOpen 35 = .ok (.goto 4, 3) := by decide +kernel
theorem dX6_isOpen_38 : decode cX6_isOpen 38 = .ok (.iconst 0, 1) := by decide +kernel
theorem dX6_isOpen_39 : decode cX6_isOpen 39 = .ok (.ireturn, 1) := by decide +kernel
set_option maxRecDepth 20000 in
theorem ggX6_reasonAgainst_X6_groundReason : GoodIn wsX6_reasonAgainst wsX6_groundReason := goodIn_r _ [5, 6, 7, 8, 9, 10, 11, 12, 13, 14, 15, 16, 17, 18, 19, 20, 21, 22, 23, 24, 25, 26, 27, 28, 29, 30, 31, 32, 33, 34, 4, 35, 36, 37, 38, 39, 40, 41, 42, 43, 44, 65, 66, 67, 68, 69, 70, 71, 72, 73, 74, 75, 76, 77, 78, 79, 80, 81] (by decide +kernel) (by decide +kernel)
set_option maxRecDepth 20000 in
theorem gX6_reasonAgainst_X6_groundReason : GoodIn wsX6_reasonAgainst (wsV RX6 71 RX6 yX6_groundReason wsX6_groundReason) := goodIn_app (goodIn_of _ (by decide +kernel)) ggX6_reasonAgainst_X6_groundReason
set_option maxRecDepth 20000 in
theorem ggX6_reasonAgainst_X6_meetsOthers : GoodIn wsX6_reasonAgainst wsX6_meetsOthers := goodIn_r _ [48, 6, 7, 8, 9, 10, 11, 12, 13, 14, 27, 28, 29, 30, 31, 15, 16, 17, 18, 19, 20, 21, 49, 50, 51, 4, 52, 53, 54, 55, 56, 57, 58, 59, 60, 61, 62, 63, 64, 65, 66, 67, 68, 69, 70, 71, 72, 73, 74, 75, 76, 77, 78, 79, 80, 81] (by decide +kernel) (by decide +kernel)
set_option maxRecDepth 20000 in
theorem gX6_reasonAgainst_X6_meetsOthers : GoodIn wsX6_reasonAgainst (wsV RX6 75 RX6 yX6_meetsOthers wsX6_meetsOthers) := goodIn_app (goodIn_of _ (by decide +kernel)) ggX6_reasonAgainst_X6_meetsOthers
theorem dX6_reasonAgainst_0 : decode cX6_reasonAgainst 0 = .ok (.aload_n 0, 1) := by decide +kernel
theorem dX6_reasonAgainst_1 : decode cX6_reasonAgainst 1 = .ok (.iload_n 1, 1) := by decide +kernel
theorem dX6_reasonAgainst_2 : decode cX6_reasonAgainst 2 = .ok (.iload_n 2, 1) := by decide +kernel
theorem dX6_reasonAgainst_3 : decode cX6_reasonAgainst 3 = .ok (.iconst (-1), 1) := by decide +kernel
theorem dX6_reasonAgainst_4 : decode cX6_reasonAgainst 4 = .ok (.invokevirtual 71, 3) := by decide +kernel
theorem dX6_reasonAgainst_7 : decode cX6_reasonAgainst 7 = .ok (.istore_n 3, 1) := by decide +kernel
theorem dX6_reasonAgainst_8 : decode cX6_reasonAgainst 8 = .ok (.iload_n 3, 1) := by decide +kernel
theorem dX6_reasonAgainst_9 : decode cX6_reasonAgainst 9 = .ok (.ifCond .eq 5, 3) := by decide +kernel
theorem dX6_reasonAgainst_12 : decode cX6_reasonAgainst 12 = .ok (.iload_n 3, 1) := by decide +kernel
theorem dX6_reasonAgainst_13 : decode cX6_reasonAgainst 13 = .ok (.ireturn, 1) := by decide +kernel
theorem dX6_reasonAgainst_14 : decode cX6_reasonAgainst 14 = .ok (.aload_n 0, 1) := by decide +kernel
theorem dX6_reasonAgainst_15 : decode cX6_reasonAgainst 15 = .ok (.iload_n 1, 1) := by decide +kernel
theorem dX6_reasonAgainst_16 : decode cX6_reasonAgainst 16 = .ok (.iload_n 2, 1) := by decide +kernel
theorem dX6_reasonAgainst_17 : decode cX6_reasonAgainst 17 = .ok (.invokevirtual 75, 3) := by decide +kernel
theorem dX6_reasonAgainst_20 : decode cX6_reasonAgainst 20 = .ok (.ifCond .eq 8, 3) := by decide +kernel
theorem dX6_reasonAgainst_23 : decode cX6_reasonAgainst 23 = .ok (.bipush 6, 2) := by decide +kernel
theorem dX6_reasonAgainst_25 : decode cX6_reasonAgainst 25 = .ok (.goto 4, 3) := by decide +kernel
theorem dX6_reasonAgainst_28 : decode cX6_reasonAgainst 28 = .ok (.iconst 0, 1) := by decide +kernel
theorem dX6_reasonAgainst_29 : decode cX6_reasonAgainst 29 = .ok (.ireturn, 1) := by decide +kernel
set_option maxRecDepth 20000 in
theorem ggX6_groundReason_X2_homeOf : GoodIn wsX6_groundReason wsX2_homeOf := goodIn_r _ [7, 8, 9, 46, 47, 48, 49, 50, 51] (by decide +kernel) (by decide +kernel)
set_option maxRecDepth 20000 in
theorem gX6_groundReason_X2_homeOf : GoodIn wsX6_groundReason (wsV RX6 79 RX2 yX2_homeOf wsX2_homeOf) := goodIn_app (goodIn_of _ (by decide +kernel)) ggX6_groundReason_X2_homeOf
set_option maxRecDepth 20000 in
theorem ggX6_groundReason_X1_ahead : GoodIn wsX6_groundReason wsX1_ahead := goodIn_r _ [14, 15, 16, 52, 53, 54, 55, 56, 57] (by decide +kernel) (by decide +kernel)
set_option maxRecDepth 20000 in
theorem gX6_groundReason_X1_ahead : GoodIn wsX6_groundReason (wsV RX6 82 RX1 yX1_ahead wsX1_ahead) := goodIn_app (goodIn_of _ (by decide +kernel)) ggX6_groundReason_X1_ahead
set_option maxRecDepth 20000 in
theorem ggX6_groundReason_X1_isLand : GoodIn wsX6_groundReason wsX1_isLand := goodIn_r _ [20, 21, 52, 53, 54, 55, 56, 57] (by decide +kernel) (by decide +kernel)
set_option maxRecDepth 20000 in
theorem gX6_groundReason_X1_isLand : GoodIn wsX6_groundReason (wsV RX6 61 RX1 yX1_isLand wsX1_isLand) := goodIn_app (goodIn_of _ (by decide +kernel)) ggX6_groundReason_X1_isLand
set_option maxRecDepth 20000 in
theorem ggX6_groundReason_X2_lengthOf : GoodIn wsX6_groundReason wsX2_lengthOf := goodIn_r _ [25, 8, 26, 46, 47, 48, 49, 50, 51] (by decide +kernel) (by decide +kernel)
set_option maxRecDepth 20000 in
theorem gX6_groundReason_X2_lengthOf : GoodIn wsX6_groundReason (wsV RX6 85 RX2 yX2_lengthOf wsX2_lengthOf) := goodIn_app (goodIn_of _ (by decide +kernel)) ggX6_groundReason_X2_lengthOf
set_option maxRecDepth 20000 in
theorem ggX6_groundReason_X6_cellReason : GoodIn wsX6_groundReason wsX6_cellReason := goodIn_r _ [31, 2, 1, 17, 18, 19, 13, 20, 21, 32, 33, 34, 35, 36, 37, 38, 39, 6, 40, 8, 9, 41, 42, 43, 44, 45, 52, 53, 54, 55, 56, 57, 46, 47, 48, 49, 50, 51] (by decide +kernel) (by decide +kernel)
set_option maxRecDepth 20000 in
theorem gX6_groundReason_X6_cellReason : GoodIn wsX6_groundReason (wsV RX6 88 RX6 yX6_cellReason wsX6_cellReason) := goodIn_app (goodIn_of _ (by decide +kernel)) ggX6_groundReason_X6_cellReason
theorem dX6_groundReason_0 : decode cX6_groundReason 0 = .ok (.aload_n 0, 1) := by decide +kernel
theorem dX6_groundReason_1 : decode cX6_groundReason 1 = .ok (.getfield 21, 3) := by decide +kernel
theorem dX6_groundReason_4 : decode cX6_groundReason 4 = .ok (.iload_n 1, 1) := by decide +kernel
theorem dX6_groundReason_5 : decode cX6_groundReason 5 = .ok (.invokevirtual 79, 3) := by decide +kernel
theorem dX6_groundReason_8 : decode cX6_groundReason 8 = .ok (.istore 4, 2) := by decide +kernel
theorem dX6_groundReason_10 : decode cX6_groundReason 10 = .ok (.aload_n 0, 1) := by decide +kernel
theorem dX6_groundReason_11 : decode cX6_groundReason 11 = .ok (.getfield 12, 3) := by decide +kernel
theorem dX6_groundReason_14 : decode cX6_groundReason 14 = .ok (.aload_n 0, 1) := by decide +kernel
theorem dX6_groundReason_15 : decode cX6_groundReason 15 = .ok (.getfield 12, 3) := by decide +kernel
theorem dX6_groundReason_18 : decode cX6_groundReason 18 = .ok (.iload 4, 2) := by decide +kernel
theorem dX6_groundReason_20 : decode cX6_groundReason 20 = .ok (.iload_n 2, 1) := by decide +kernel
theorem dX6_groundReason_21 : decode cX6_groundReason 21 = .ok (.iconst 2, 1) := by decide +kernel
theorem dX6_groundReason_22 : decode cX6_groundReason 22 = .ok (.iadd, 1) := by decide +kernel
theorem dX6_groundReason_23 : decode cX6_groundReason 23 = .ok (.iconst 4, 1) := by decide +kernel
theorem dX6_groundReason_24 : decode cX6_groundReason 24 = .ok (.irem, 1) := by decide +kernel
theorem dX6_groundReason_25 : decode cX6_groundReason 25 = .ok (.iconst 1, 1) := by decide +kernel
theorem dX6_groundReason_26 : decode cX6_groundReason 26 = .ok (.invokevirtual 82, 3) := by decide +kernel
theorem dX6_groundReason_29 : decode cX6_groundReason 29 = .ok (.invokevirtual 61, 3) := by decide +kernel
theorem dX6_groundReason_32 : decode cX6_groundReason 32 = .ok (.ifCond .eq 5, 3) := by decide +kernel
theorem dX6_groundReason_35 : decode cX6_groundReason 35 = .ok (.iconst 1, 1) := by decide +kernel
theorem dX6_groundReason_36 : decode cX6_groundReason 36 = .ok (.ireturn, 1) := by decide +kernel
theorem dX6_groundReason_37 : decode cX6_groundReason 37 = .ok (.iconst 0, 1) := by decide +kernel
theorem dX6_groundReason_38 : decode cX6_groundReason 38 = .ok (.istore 5, 2) := by decide +kernel
theorem dX6_groundReason_40 : decode cX6_groundReason 40 = .ok (.iconst 0, 1) := by decide +kernel
theorem dX6_groundReason_41 : decode cX6_groundReason 41 = .ok (.istore 6, 2) := by decide +kernel
theorem dX6_groundReason_43 : decode cX6_groundReason 43 = .ok (.iload 6, 2) := by decide +kernel
theorem dX6_groundReason_45 : decode cX6_groundReason 45 = .ok (.aload_n 0, 1) := by decide +kernel
theorem dX6_groundReason_46 : decode cX6_groundReason 46 = .ok (.getfield 21, 3) := by decide +kernel
theorem dX6_groundReason_49 : decode cX6_groundReason 49 = .ok (.iload_n 1, 1) := by decide +kernel
theorem dX6_groundReason_50 : decode cX6_groundReason 50 = .ok (.invokevirtual 85, 3) := by decide +kernel
theorem dX6_groundReason_53 : decode cX6_groundReason 53 = .ok (.if_icmp .ge 51, 3) := by decide +kernel
theorem dX6_groundReason_56 : decode cX6_groundReason 56 = .ok (.aload_n 0, 1) := by decide +kernel
theorem dX6_groundReason_57 : decode cX6_groundReason 57 = .ok (.aload_n 0, 1) := by decide +kernel
theorem dX6_groundReason_58 : decode cX6_groundReason 58 = .ok (.getfield 12, 3) := by decide +kernel
theorem dX6_groundReason_61 : decode cX6_groundReason 61 = .ok (.iload 4, 2) := by decide +kernel
theorem dX6_groundReason_63 : decode cX6_groundReason 63 = .ok (.iload_n 2, 1) := by decide +kernel
theorem dX6_groundReason_64 : decode cX6_groundReason 64 = .ok (.iload 6, 2) := by decide +kernel
theorem dX6_groundReason_66 : decode cX6_groundReason 66 = .ok (.iconst 1, 1) := by decide +kernel
theorem dX6_groundReason_67 : decode cX6_groundReason 67 = .ok (.iadd, 1) := by decide +kernel
theorem dX6_groundReason_68 : decode cX6_groundReason 68 = .ok (.invokevirtual 82, 3) := by decide +kernel
theorem dX6_groundReason_71 : decode cX6_groundReason 71 = .ok (.iload_n 3, 1) := by decide +kernel
theorem dX6_groundReason_72 : decode cX6_groundReason 72 = .ok (.invokevirtual 88, 3) := by decide +kernel
theorem dX6_groundReason_75 : decode cX6_groundReason 75 = .ok (.istore 7, 2) := by decide +kernel
theorem dX6_groundReason_77 : decode cX6_groundReason 77 = .ok (.iload 7, 2) := by decide +kernel
theorem dX6_groundReason_79 : decode cX6_groundReason 79 = .ok (.ifCond .eq 19, 3) := by decide +kernel
theorem dX6_groundReason_82 : decode cX6_groundReason 82 = .ok (.iload 5, 2) := by decide +kernel
theorem dX6_groundReason_84 : decode cX6_groundReason 84 = .ok (.ifCond .eq 10, 3) := by decide +kernel
theorem dX6_groundReason_87 : decode cX6_groundReason 87 = .ok (.iload 7, 2) := by decide +kernel
theorem dX6_groundReason_89 : decode cX6_groundReason 89 = .ok (.iload 5, 2) := by decide +kernel
theorem dX6_groundReason_91 : decode cX6_groundReason 91 = .ok (.if_icmp .ge 7, 3) := by decide +kernel
theorem dX6_groundReason_94 : decode cX6_groundReason 94 = .ok (.iload 7, 2) := by decide +kernel
theorem dX6_groundReason_96 : decode cX6_groundReason 96 = .ok (.istore 5, 2) := by decide +kernel
theorem dX6_groundReason_98 : decode cX6_groundReason 98 = .ok (.iinc 6 1, 3) := by decide +kernel
theorem dX6_groundReason_101 : decode cX6_groundReason 101 = .ok (.goto (-58), 3) := by decide +kernel
theorem dX6_groundReason_104 : decode cX6_groundReason 104 = .ok (.iload 5, 2) := by decide +kernel
theorem dX6_groundReason_106 : decode cX6_groundReason 106 = .ok (.ireturn, 1) := by decide +kernel
set_option maxRecDepth 20000 in
theorem ggX6_cellReason_X1_isLand : GoodIn wsX6_cellReason wsX1_isLand := goodIn_r _ [7, 8, 26, 27, 28, 29, 30, 31] (by decide +kernel) (by decide +kernel)
set_option maxRecDepth 20000 in
theorem gX6_cellReason_X1_isLand : GoodIn wsX6_cellReason (wsV RX6 61 RX1 yX1_isLand wsX1_isLand) := goodIn_app (goodIn_of _ (by decide +kernel)) ggX6_cellReason_X1_isLand
set_option maxRecDepth 20000 in
theorem ggX6_cellReason_X1_isRiver : GoodIn wsX6_cellReason wsX1_isRiver := goodIn_r _ [12, 13, 26, 27, 28, 29, 30, 31] (by decide +kernel) (by decide +kernel)
set_option maxRecDepth 20000 in
theorem gX6_cellReason_X1_isRiver : GoodIn wsX6_cellReason (wsV RX6 65 RX1 yX1_isRiver wsX1_isRiver) := goodIn_app (goodIn_of _ (by decide +kernel)) ggX6_cellReason_X1_isRiver
set_option maxRecDepth 20000 in
theorem ggX6_cellReason_X2_inCell : GoodIn wsX6_cellReason wsX2_inCell := goodIn_r _ [18, 19, 20, 32, 33, 34, 35, 36, 37] (by decide +kernel) (by decide +kernel)
set_option maxRecDepth 20000 in
theorem gX6_cellReason_X2_inCell : GoodIn wsX6_cellReason (wsV RX6 68 RX2 yX2_inCell wsX2_inCell) := goodIn_app (goodIn_of _ (by decide +kernel)) ggX6_cellReason_X2_inCell
theorem dX6_cellReason_0 : decode cX6_cellReason 0 = .ok (.iload_n 1, 1) := by decide +kernel
theorem dX6_cellReason_1 : decode cX6_cellReason 1 = .ok (.iconst (-1), 1) := by decide +kernel
theorem dX6_cellReason_2 : decode cX6_cellReason 2 = .ok (.if_icmp .ne 5, 3) := by decide +kernel
theorem dX6_cellReason_5 : decode cX6_cellReason 5 = .ok (.iconst 2, 1) := by decide +kernel
theorem dX6_cellReason_6 : decode cX6_cellReason 6 = .ok (.ireturn, 1) := by decide +kernel
theorem dX6_cellReason_7 : decode cX6_cellReason 7 = .ok (.aload_n 0, 1) := by decide +kernel
theorem dX6_cellReason_8 : decode cX6_cellReason 8 = .ok (.getfield 12, 3) := by decide +kernel
theorem dX6_cellReason_11 : decode cX6_cellReason 11 = .ok (.iload_n 1, 1) := by decide +kernel
theorem dX6_cellReason_12 : decode cX6_cellReason 12 = .ok (.invokevirtual 61, 3) := by decide +kernel
theorem dX6_cellReason_15 : decode cX6_cellReason 15 = .ok (.ifCond .ne 5, 3) := by decide +kernel
theorem dX6_cellReason_18 : decode cX6_cellReason 18 = .ok (.iconst 3, 1) := by decide +kernel
theorem dX6_cellReason_19 : decode cX6_cellReason 19 = .ok (.ireturn, 1) := by decide +kernel
theorem dX6_cellReason_20 : decode cX6_cellReason 20 = .ok (.aload_n 0, 1) := by decide +kernel
theorem dX6_cellReason_21 : decode cX6_cellReason 21 = .ok (.getfield 12, 3) := by decide +kernel
theorem dX6_cellReason_24 : decode cX6_cellReason 24 = .ok (.iload_n 1, 1) := by decide +kernel
theorem dX6_cellReason_25 : decode cX6_cellReason 25 = .ok (.invokevirtual 65, 3) := by decide +kernel
theorem dX6_cellReason_28 : decode cX6_cellReason 28 = .ok (.ifCond .eq 5, 3) := by decide +kernel
theorem dX6_cellReason_31 : decode cX6_cellReason 31 = .ok (.iconst 4, 1) := by decide +kernel
theorem dX6_cellReason_32 : decode cX6_cellReason 32 = .ok (.ireturn, 1) := by decide +kernel
theorem dX6_cellReason_33 : decode cX6_cellReason 33 = .ok (.aload_n 0, 1) := by decide +kernel
theorem dX6_cellReason_34 : decode cX6_cellReason 34 = .ok (.getfield 21, 3) := by decide +kernel
theorem dX6_cellReason_37 : decode cX6_cellReason 37 = .ok (.iload_n 1, 1) := by decide +kernel
theorem dX6_cellReason_38 : decode cX6_cellReason 38 = .ok (.invokevirtual 68, 3) := by decide +kernel
theorem dX6_cellReason_41 : decode cX6_cellReason 41 = .ok (.istore_n 3, 1) := by decide +kernel
theorem dX6_cellReason_42 : decode cX6_cellReason 42 = .ok (.iload_n 3, 1) := by decide +kernel
theorem dX6_cellReason_43 : decode cX6_cellReason 43 = .ok (.iconst (-1), 1) := by decide +kernel
theorem dX6_cellReason_44 : decode cX6_cellReason 44 = .ok (.if_icmp .eq 12, 3) := by decide +kernel
theorem dX6_cellReason_47 : decode cX6_cellReason 47 = .ok (.iload_n 3, 1) := by decide +kernel
theorem dX6_cellReason_48 : decode cX6_cellReason 48 = .ok (.iload_n 2, 1) := by decide +kernel
theorem dX6_cellReason_49 : decode cX6_cellReason 49 = .ok (.if_icmp .eq 7, 3) := by decide +kernel
theorem dX6_cellReason_52 : decode cX6_cellReason 52 = .ok (.iconst 5, 1) := by decide +kernel
theorem dX6_cellReason_53 : decode cX6_cellReason 53 = .ok (.goto 4, 3) := by decide +kernel
theorem dX6_cellReason_56 : decode cX6_cellReason 56 = .ok (.iconst 0, 1) := by decide +kernel
theorem dX6_cellReason_57 : decode cX6_cellReason 57 = .ok (.ireturn, 1) := by decide +kernel
set_option maxRecDepth 20000 in
theorem ggX6_meetsOthers_X2_homeOf : GoodIn wsX6_meetsOthers wsX2_homeOf := goodIn_r _ [7, 8, 9, 44, 45, 46, 47, 48, 49] (by decide +kernel) (by decide +kernel)
set_option maxRecDepth 20000 in
theorem gX6_meetsOthers_X2_homeOf : GoodIn wsX6_meetsOthers (wsV RX6 79 RX2 yX2_homeOf wsX2_homeOf) := goodIn_app (goodIn_of _ (by decide +kernel)) ggX6_meetsOthers_X2_homeOf
set_option maxRecDepth 20000 in
theorem ggX6_meetsOthers_X2_lengthOf : GoodIn wsX6_meetsOthers wsX2_lengthOf := goodIn_r _ [13, 8, 14, 44, 45, 46, 47, 48, 49] (by decide +kernel) (by decide +kernel)
set_option maxRecDepth 20000 in
theorem gX6_meetsOthers_X2_lengthOf : GoodIn wsX6_meetsOthers (wsV RX6 85 RX2 yX2_lengthOf wsX2_lengthOf) := goodIn_app (goodIn_of _ (by decide +kernel)) ggX6_meetsOthers_X2_lengthOf
set_option maxRecDepth 20000 in
theorem ggX6_meetsOthers_X1_ahead : GoodIn wsX6_meetsOthers wsX1_ahead := goodIn_r _ [19, 20, 21, 50, 51, 52, 53, 54, 55] (by decide +kernel) (by decide +kernel)
set_option maxRecDepth 20000 in
theorem gX6_meetsOthers_X1_ahead : GoodIn wsX6_meetsOthers (wsV RX6 82 RX1 yX1_ahead wsX1_ahead) := goodIn_app (goodIn_of _ (by decide +kernel)) ggX6_meetsOthers_X1_ahead
set_option maxRecDepth 20000 in
theorem ggX6_meetsOthers_X6_namesIn : GoodIn wsX6_meetsOthers wsX6_namesIn := goodIn_r _ [26, 27, 39, 40, 41, 42, 43] (by decide +kernel) (by decide +kernel)
set_option maxRecDepth 20000 in
theorem gX6_meetsOthers_X6_namesIn : GoodIn wsX6_meetsOthers (wsV RX6 57 RX6 yX6_namesIn wsX6_namesIn) := goodIn_app (goodIn_of _ (by decide +kernel)) ggX6_meetsOthers_X6_namesIn
set_option maxRecDepth 20000 in
theorem ggX6_meetsOthers_X6_letterIn : GoodIn wsX6_meetsOthers wsX6_letterIn := goodIn_r _ [31, 32, 22, 23, 24, 25, 26, 27, 39, 40, 41, 42, 43] (by decide +kernel) (by decide +kernel)
set_option maxRecDepth 20000 in
theorem gX6_meetsOthers_X6_letterIn : GoodIn wsX6_meetsOthers (wsV RX6 96 RX6 yX6_letterIn wsX6_letterIn) := goodIn_app (goodIn_of _ (by decide +kernel)) ggX6_meetsOthers_X6_letterIn
