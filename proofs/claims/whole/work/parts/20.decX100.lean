theorem dX1_init_0 : decode cX1_init 0 = .ok (.aload_n 0, 1) := by decide +kernel
theorem dX1_init_1 : decode cX1_init 1 = .ok (.invokespecial 3, 3) := by decide +kernel
theorem dX1_init_4 : decode cX1_init 4 = .ok (.aload_n 0, 1) := by decide +kernel
theorem dX1_init_5 : decode cX1_init 5 = .ok (.sipush 144, 3) := by decide +kernel
theorem dX1_init_8 : decode cX1_init 8 = .ok (.newarray .boolean, 2) := by decide +kernel
theorem dX1_init_10 : decode cX1_init 10 = .ok (.putfield 9, 3) := by decide +kernel
theorem dX1_init_13 : decode cX1_init 13 = .ok (.aload_n 0, 1) := by decide +kernel
theorem dX1_init_14 : decode cX1_init 14 = .ok (.sipush 144, 3) := by decide +kernel
theorem dX1_init_17 : decode cX1_init 17 = .ok (.newarray .int, 2) := by decide +kernel
theorem dX1_init_19 : decode cX1_init 19 = .ok (.putfield 15, 3) := by decide +kernel
theorem dX1_init_22 : decode cX1_init 22 = .ok (.aload_n 0, 1) := by decide +kernel
theorem dX1_init_23 : decode cX1_init 23 = .ok (.sipush 144, 3) := by decide +kernel
theorem dX1_init_26 : decode cX1_init 26 = .ok (.newarray .int, 2) := by decide +kernel
theorem dX1_init_28 : decode cX1_init 28 = .ok (.putfield 19, 3) := by decide +kernel
theorem dX1_init_31 : decode cX1_init 31 = .ok (.return_, 1) := by decide +kernel
theorem dX1_beginSea_0 : decode cX1_beginSea 0 = .ok (.aload_n 0, 1) := by decide +kernel
theorem dX1_beginSea_1 : decode cX1_beginSea 1 = .ok (.iload_n 1, 1) := by decide +kernel
theorem dX1_beginSea_2 : decode cX1_beginSea 2 = .ok (.putfield 22, 3) := by decide +kernel
theorem dX1_beginSea_5 : decode cX1_beginSea 5 = .ok (.aload_n 0, 1) := by decide +kernel
theorem dX1_beginSea_6 : decode cX1_beginSea 6 = .ok (.iload_n 2, 1) := by decide +kernel
theorem dX1_beginSea_7 : decode cX1_beginSea 7 = .ok (.putfield 26, 3) := by decide +kernel
theorem dX1_beginSea_10 : decode cX1_beginSea 10 = .ok (.aload_n 0, 1) := by decide +kernel
theorem dX1_beginSea_11 : decode cX1_beginSea 11 = .ok (.iconst 0, 1) := by decide +kernel
theorem dX1_beginSea_12 : decode cX1_beginSea 12 = .ok (.putfield 29, 3) := by decide +kernel
theorem dX1_beginSea_15 : decode cX1_beginSea 15 = .ok (.iconst 0, 1) := by decide +kernel
theorem dX1_beginSea_16 : decode cX1_beginSea 16 = .ok (.istore_n 3, 1) := by decide +kernel
theorem dX1_beginSea_17 : decode cX1_beginSea 17 = .ok (.iload_n 3, 1) := by decide +kernel
theorem dX1_beginSea_18 : decode cX1_beginSea 18 = .ok (.sipush 144, 3) := by decide +kernel
theorem dX1_beginSea_21 : decode cX1_beginSea 21 = .ok (.if_icmp .ge 30, 3) := by decide +kernel
theorem dX1_beginSea_24 : decode cX1_beginSea 24 = .ok (.aload_n 0, 1) := by decide +kernel
theorem dX1_beginSea_25 : decode cX1_beginSea 25 = .ok (.getfield 9, 3) := by decide +kernel
theorem dX1_beginSea_28 : decode cX1_beginSea 28 = .ok (.iload_n 3, 1) := by decide +kernel
theorem dX1_beginSea_29 : decode cX1_beginSea 29 = .ok (.iconst 0, 1) := by decide +kernel
theorem dX1_beginSea_30 : decode cX1_beginSea 30 = .ok (.bastore, 1) := by decide +kernel
theorem dX1_beginSea_31 : decode cX1_beginSea 31 = .ok (.aload_n 0, 1) := by decide +kernel
theorem dX1_beginSea_32 : decode cX1_beginSea 32 = .ok (.getfield 15, 3) := by decide +kernel
theorem dX1_beginSea_35 : decode cX1_beginSea 35 = .ok (.iload_n 3, 1) := by decide +kernel
theorem dX1_beginSea_36 : decode cX1_beginSea 36 = .ok (.iconst (-1), 1) := by decide +kernel
theorem dX1_beginSea_37 : decode cX1_beginSea 37 = .ok (.iastore, 1) := by decide +kernel
theorem dX1_beginSea_38 : decode cX1_beginSea 38 = .ok (.aload_n 0, 1) := by decide +kernel
theorem dX1_beginSea_39 : decode cX1_beginSea 39 = .ok (.getfield 19, 3) := by decide +kernel
theorem dX1_beginSea_42 : decode cX1_beginSea 42 = .ok (.iload_n 3, 1) := by decide +kernel
theorem dX1_beginSea_43 : decode cX1_beginSea 43 = .ok (.iconst (-1), 1) := by decide +kernel
theorem dX1_beginSea_44 : decode cX1_beginSea 44 = .ok (.iastore, 1) := by decide +kernel
theorem dX1_beginSea_45 : decode cX1_beginSea 45 = .ok (.iinc 3 1, 3) := by decide +kernel
theorem dX1_beginSea_48 : decode cX1_beginSea 48 = .ok (.goto (-31), 3) := by decide +kernel
theorem dX1_beginSea_51 : decode cX1_beginSea 51 = .ok (.return_, 1) := by decide +kernel
theorem dX1_copyFrom_0 : decode cX1_copyFrom 0 = .ok (.aload_n 0, 1) := by decide +kernel
theorem dX1_copyFrom_1 : decode cX1_copyFrom 1 = .ok (.aload_n 1, 1) := by decide +kernel
theorem dX1_copyFrom_2 : decode cX1_copyFrom 2 = .ok (.getfield 22, 3) := by decide +kernel
theorem dX1_copyFrom_5 : decode cX1_copyFrom 5 = .ok (.putfield 22, 3) := by decide +kernel
theorem dX1_copyFrom_8 : decode cX1_copyFrom 8 = .ok (.aload_n 0, 1) := by decide +kernel
theorem dX1_copyFrom_9 : decode cX1_copyFrom 9 = .ok (.aload_n 1, 1) := by decide +kernel
theorem dX1_copyFrom_10 : decode cX1_copyFrom 10 = .ok (.getfield 26, 3) := by decide +kernel
theorem dX1_copyFrom_13 : decode cX1_copyFrom 13 = .ok (.putfield 26, 3) := by decide +kernel
theorem dX1_copyFrom_16 : decode cX1_copyFrom 16 = .ok (.aload_n 0, 1) := by decide +kernel
theorem dX1_copyFrom_17 : decode cX1_copyFrom 17 = .ok (.aload_n 1, 1) := by decide +kernel
theorem dX1_copyFrom_18 : decode cX1_copyFrom 18 = .ok (.getfield 29, 3) := by decide +kernel
theorem dX1_copyFrom_21 : decode cX1_copyFrom 21 = .ok (.putfield 29, 3) := by decide +kernel
theorem dX1_copyFrom_24 : decode cX1_copyFrom 24 = .ok (.iconst 0, 1) := by decide +kernel
theorem dX1_copyFrom_25 : decode cX1_copyFrom 25 = .ok (.istore_n 2, 1) := by decide +kernel
theorem dX1_copyFrom_26 : decode cX1_copyFrom 26 = .ok (.iload_n 2, 1) := by decide +kernel
theorem dX1_copyFrom_27 : decode cX1_copyFrom 27 = .ok (.sipush 144, 3) := by decide +kernel
theorem dX1_copyFrom_30 : decode cX1_copyFrom 30 = .ok (.if_icmp .ge 45, 3) := by decide +kernel
theorem dX1_copyFrom_33 : decode cX1_copyFrom 33 = .ok (.aload_n 0, 1) := by decide +kernel
theorem dX1_copyFrom_34 : decode cX1_copyFrom 34 = .ok (.getfield 9, 3) := by decide +kernel
theorem dX1_copyFrom_37 : decode cX1_copyFrom 37 = .ok (.iload_n 2, 1) := by decide +kernel
theorem dX1_copyFrom_38 : decode cX1_copyFrom 38 = .ok (.aload_n 1, 1) := by decide +kernel
theorem dX1_copyFrom_39 : decode cX1_copyFrom 39 = .ok (.getfield 9, 3) := by decide +kernel
theorem dX1_copyFrom_42 : decode cX1_copyFrom 42 = .ok (.iload_n 2, 1) := by decide +kernel
theorem dX1_copyFrom_43 : decode cX1_copyFrom 43 = .ok (.baload, 1) := by decide +kernel
theorem dX1_copyFrom_44 : decode cX1_copyFrom 44 = .ok (.bastore, 1) := by decide +kernel
theorem dX1_copyFrom_45 : decode cX1_copyFrom 45 = .ok (.aload_n 0, 1) := by decide +kernel
theorem dX1_copyFrom_46 : decode cX1_copyFrom 46 = .ok (.getfield 15, 3) := by decide +kernel
theorem dX1_copyFrom_49 : decode cX1_copyFrom 49 = .ok (.iload_n 2, 1) := by decide +kernel
theorem dX1_copyFrom_50 : decode cX1_copyFrom 50 = .ok (.aload_n 1, 1) := by decide +kernel
theorem dX1_copyFrom_51 : decode cX1_copyFrom 51 = .ok (.getfield 15, 3) := by decide +kernel
theorem dX1_copyFrom_54 : decode cX1_copyFrom 54 = .ok (.iload_n 2, 1) := by decide +kernel
theorem dX1_copyFrom_55 : decode cX1_copyFrom 55 = .ok (.iaload, 1) := by decide +kernel
theorem dX1_copyFrom_56 : decode cX1_copyFrom 56 = .ok (.iastore, 1) := by decide +kernel
theorem dX1_copyFrom_57 : decode cX1_copyFrom 57 = .ok (.aload_n 0, 1) := by decide +kernel
theorem dX1_copyFrom_58 : decode cX1_copyFrom 58 = .ok (.getfield 19, 3) := by decide +kernel
theorem dX1_copyFrom_61 : decode cX1_copyFrom 61 = .ok (.iload_n 2, 1) := by decide +kernel
theorem dX1_copyFrom_62 : decode cX1_copyFrom 62 = .ok (.aload_n 1, 1) := by decide +kernel
theorem dX1_copyFrom_63 : decode cX1_copyFrom 63 = .ok (.getfield 19, 3) := by decide +kernel
theorem dX1_copyFrom_66 : decode cX1_copyFrom 66 = .ok (.iload_n 2, 1) := by decide +kernel
theorem dX1_copyFrom_67 : decode cX1_copyFrom 67 = .ok (.iaload, 1) := by decide +kernel
theorem dX1_copyFrom_68 : decode cX1_copyFrom 68 = .ok (.iastore, 1) := by decide +kernel
theorem dX1_copyFrom_69 : decode cX1_copyFrom 69 = .ok (.iinc 2 1, 3) := by decide +kernel
theorem dX1_copyFrom_72 : decode cX1_copyFrom 72 = .ok (.goto (-46), 3) := by decide +kernel
theorem dX1_copyFrom_75 : decode cX1_copyFrom 75 = .ok (.return_, 1) := by decide +kernel
theorem dX1_cells_0 : decode cX1_cells 0 = .ok (.aload_n 0, 1) := by decide +kernel
theorem dX1_cells_1 : decode cX1_cells 1 = .ok (.getfield 22, 3) := by decide +kernel
theorem dX1_cells_4 : decode cX1_cells 4 = .ok (.aload_n 0, 1) := by decide +kernel
theorem dX1_cells_5 : decode cX1_cells 5 = .ok (.getfield 26, 3) := by decide +kernel
theorem dX1_cells_8 : decode cX1_cells 8 = .ok (.imul, 1) := by decide +kernel
theorem dX1_cells_9 : decode cX1_cells 9 = .ok (.ireturn, 1) := by decide +kernel
theorem dX1_ahead_0 : decode cX1_ahead 0 = .ok (.iload_n 1, 1) := by decide +kernel
theorem dX1_ahead_1 : decode cX1_ahead 1 = .ok (.ifCond .lt 32, 3) := by decide +kernel
theorem dX1_ahead_4 : decode cX1_ahead 4 = .ok (.iload_n 1, 1) := by decide +kernel
theorem dX1_ahead_5 : decode cX1_ahead 5 = .ok (.aload_n 0, 1) := by decide +kernel
theorem dX1_ahead_6 : decode cX1_ahead 6 = .ok (.getfield 22, 3) := by decide +kernel
theorem dX1_ahead_9 : decode cX1_ahead 9 = .ok (.aload_n 0, 1) := by decide +kernel
theorem dX1_ahead_10 : decode cX1_ahead 10 = .ok (.getfield 26, 3) := by decide +kernel
theorem dX1_ahead_13 : decode cX1_ahead 13 = .ok (.imul, 1) := by decide +kernel
theorem dX1_ahead_14 : decode cX1_ahead 14 = .ok (.if_icmp .ge 19, 3) := by decide +kernel
theorem dX1_ahead_17 : decode cX1_ahead 17 = .ok (.iload_n 2, 1) := by decide +kernel
theorem dX1_ahead_18 : decode cX1_ahead 18 = .ok (.ifCond .lt 15, 3) := by decide +kernel
theorem dX1_ahead_21 : decode cX1_ahead 21 = .ok (.iload_n 2, 1) := by decide +kernel
theorem dX1_ahead_22 : decode cX1_ahead 22 = .ok (.iconst 4, 1) := by decide +kernel
theorem dX1_ahead_23 : decode cX1_ahead 23 = .ok (.if_icmp .ge 10, 3) := by decide +kernel
theorem dX1_ahead_26 : decode cX1_ahead 26 = .ok (.aload_n 0, 1) := by decide +kernel
theorem dX1_ahead_27 : decode cX1_ahead 27 = .ok (.getfield 26, 3) := by decide +kernel
theorem dX1_ahead_30 : decode cX1_ahead 30 = .ok (.ifCond .gt 5, 3) := by decide +kernel
theorem dX1_ahead_33 : decode cX1_ahead 33 = .ok (.iconst (-1), 1) := by decide +kernel
theorem dX1_ahead_34 : decode cX1_ahead 34 = .ok (.ireturn, 1) := by decide +kernel
theorem dX1_ahead_35 : decode cX1_ahead 35 = .ok (.iload_n 1, 1) := by decide +kernel
theorem dX1_ahead_36 : decode cX1_ahead 36 = .ok (.aload_n 0, 1) := by decide +kernel
theorem dX1_ahead_37 : decode cX1_ahead 37 = .ok (.getfield 26, 3) := by decide +kernel
theorem dX1_ahead_40 : decode cX1_ahead 40 = .ok (.idiv, 1) := by decide +kernel
theorem dX1_ahead_41 : decode cX1_ahead 41 = .ok (.getstatic 32, 3) := by decide +kernel
theorem dX1_ahead_44 : decode cX1_ahead 44 = .ok (.iload_n 2, 1) := by decide +kernel
theorem dX1_ahead_45 : decode cX1_ahead 45 = .ok (.iaload, 1) := by decide +kernel
theorem dX1_ahead_46 : decode cX1_ahead 46 = .ok (.iload_n 3, 1) := by decide +kernel
theorem dX1_ahead_47 : decode cX1_ahead 47 = .ok (.imul, 1) := by decide +kernel
theorem dX1_ahead_48 : decode cX1_ahead 48 = .ok (.iadd, 1) := by decide +kernel
theorem dX1_ahead_49 : decode cX1_ahead 49 = .ok (.istore 4, 2) := by decide +kernel
theorem dX1_ahead_51 : decode cX1_ahead 51 = .ok (.iload_n 1, 1) := by decide +kernel
theorem dX1_ahead_52 : decode cX1_ahead 52 = .ok (.aload_n 0, 1) := by decide +kernel
theorem dX1_ahead_53 : decode cX1_ahead 53 = .ok (.getfield 26, 3) := by decide +kernel
theorem dX1_ahead_56 : decode cX1_ahead 56 = .ok (.irem, 1) := by decide +kernel
theorem dX1_ahead_57 : decode cX1_ahead 57 = .ok (.getstatic 35, 3) := by decide +kernel
theorem dX1_ahead_60 : decode cX1_ahead 60 = .ok (.iload_n 2, 1) := by decide +kernel
theorem dX1_ahead_61 : decode cX1_ahead 61 = .ok (.iaload, 1) := by decide +kernel
theorem dX1_ahead_62 : decode cX1_ahead 62 = .ok (.iload_n 3, 1) := by decide +kernel
theorem dX1_ahead_63 : decode cX1_ahead 63 = .ok (.imul, 1) := by decide +kernel
theorem dX1_ahead_64 : decode cX1_ahead 64 = .ok (.iadd, 1) := by decide +kernel
theorem dX1_ahead_65 : decode cX1_ahead 65 = .ok (.istore 5, 2) := by decide +kernel
theorem dX1_ahead_67 : decode cX1_ahead 67 = .ok (.iload 4, 2) := by decide +kernel
theorem dX1_ahead_69 : decode cX1_ahead 69 = .ok (.ifCond .lt 30, 3) := by decide +kernel
theorem dX1_ahead_72 : decode cX1_ahead 72 = .ok (.iload 4, 2) := by decide +kernel
theorem dX1_ahead_74 : decode cX1_ahead 74 = .ok (.aload_n 0, 1) := by decide +kernel
theorem dX1_ahead_75 : decode cX1_ahead 75 = .ok (.getfield 22, 3) := by decide +kernel
theorem dX1_ahead_78 : decode cX1_ahead 78 = .ok (.if_icmp .ge 21, 3) := by decide +kernel
theorem dX1_ahead_81 : decode cX1_ahead 81 = .ok (.iload 5, 2) := by decide +kernel
theorem dX1_ahead_83 : decode cX1_ahead 83 = .ok (.ifCond .lt 16, 3) := by decide +kernel
theorem dX1_ahead_86 : decode cX1_ahead 86 = .ok (.iload 5, 2) := by decide +kernel
theorem dX1_ahead_88 : decode cX1_ahead 88 = .ok (.aload_n 0, 1) := by decide +kernel
theorem dX1_ahead_89 : decode cX1_ahead 89 = .ok (.getfield 26, 3) := by decide +kernel
theorem dX1_ahead_92 : decode cX1_ahead 92 = .ok (.if_icmp .ge 7, 3) := by decide +kernel
theorem dX1_ahead_95 : decode cX1_ahead 95 = .ok (.iconst 1, 1) := by decide +kernel
theorem dX1_ahead_96 : decode cX1_ahead 96 = .ok (.goto 4, 3) := by decide +kernel
theorem dX1_ahead_99 : decode cX1_ahead 99 = .ok (.iconst 0, 1) := by decide +kernel
theorem dX1_ahead_100 : decode cX1_ahead 100 = .ok (.istore 6, 2) := by decide +kernel
theorem dX1_ahead_102 : decode cX1_ahead 102 = .ok (.iload 6, 2) := by decide +kernel
theorem dX1_ahead_104 : decode cX1_ahead 104 = .ok (.ifCond .eq 16, 3) := by decide +kernel
theorem dX1_ahead_107 : decode cX1_ahead 107 = .ok (.iload 4, 2) := by decide +kernel
theorem dX1_ahead_109 : decode cX1_ahead 109 = .ok (.aload_n 0, 1) := by decide +kernel
theorem dX1_ahead_110 : decode cX1_ahead 110 = .ok (.getfield 26, 3) := by decide +kernel
theorem dX1_ahead_113 : decode cX1_ahead 113 = .ok (.imul, 1) := by decide +kernel
theorem dX1_ahead_114 : decode cX1_ahead 114 = .ok (.iload 5, 2) := by decide +kernel
theorem dX1_ahead_116 : decode cX1_ahead 116 = .ok (.iadd, 1) := by decide +kernel
theorem dX1_ahead_117 : decode cX1_ahead 117 = .ok (.goto 4, 3) := by decide +kernel
theorem dX1_ahead_120 : decode cX1_ahead 120 = .ok (.iconst (-1), 1) := by decide +kernel
theorem dX1_ahead_121 : decode cX1_ahead 121 = .ok (.ireturn, 1) := by decide +kernel
theorem dX1_stepsTo_0 : decode cX1_stepsTo 0 = .ok (.iload_n 2, 1) := by decide +kernel
theorem dX1_stepsTo_1 : decode cX1_stepsTo 1 = .ok (.ifCond .lt 15, 3) := by decide +kernel
theorem dX1_stepsTo_4 : decode cX1_stepsTo 4 = .ok (.iload_n 2, 1) := by decide +kernel
theorem dX1_stepsTo_5 : decode cX1_stepsTo 5 = .ok (.iconst 4, 1) := by decide +kernel
theorem dX1_stepsTo_6 : decode cX1_stepsTo 6 = .ok (.if_icmp .ge 10, 3) := by decide +kernel
theorem dX1_stepsTo_9 : decode cX1_stepsTo 9 = .ok (.aload_n 0, 1) := by decide +kernel
theorem dX1_stepsTo_10 : decode cX1_stepsTo 10 = .ok (.getfield 26, 3) := by decide +kernel
theorem dX1_stepsTo_13 : decode cX1_stepsTo 13 = .ok (.ifCond .gt 5, 3) := by decide +kernel
theorem dX1_stepsTo_16 : decode cX1_stepsTo 16 = .ok (.iconst (-1), 1) := by decide +kernel
theorem dX1_stepsTo_17 : decode cX1_stepsTo 17 = .ok (.ireturn, 1) := by decide +kernel
theorem dX1_stepsTo_18 : decode cX1_stepsTo 18 = .ok (.iload_n 3, 1) := by decide +kernel
theorem dX1_stepsTo_19 : decode cX1_stepsTo 19 = .ok (.aload_n 0, 1) := by decide +kernel
theorem dX1_stepsTo_20 : decode cX1_stepsTo 20 = .ok (.getfield 26, 3) := by decide +kernel
theorem dX1_stepsTo_23 : decode cX1_stepsTo 23 = .ok (.idiv, 1) := by decide +kernel
theorem dX1_stepsTo_24 : decode cX1_stepsTo 24 = .ok (.iload_n 1, 1) := by decide +kernel
theorem dX1_stepsTo_25 : decode cX1_stepsTo 25 = .ok (.aload_n 0, 1) := by decide +kernel
theorem dX1_stepsTo_26 : decode cX1_stepsTo 26 = .ok (.getfield 26, 3) := by decide +kernel
theorem dX1_stepsTo_29 : decode cX1_stepsTo 29 = .ok (.idiv, 1) := by decide +kernel
theorem dX1_stepsTo_30 : decode cX1_stepsTo 30 = .ok (.isub, 1) := by decide +kernel
theorem dX1_stepsTo_31 : decode cX1_stepsTo 31 = .ok (.istore 4, 2) := by decide +kernel
theorem dX1_stepsTo_33 : decode cX1_stepsTo 33 = .ok (.iload_n 3, 1) := by decide +kernel
theorem dX1_stepsTo_34 : decode cX1_stepsTo 34 = .ok (.aload_n 0, 1) := by decide +kernel
theorem dX1_stepsTo_35 : decode cX1_stepsTo 35 = .ok (.getfield 26, 3) := by decide +kernel
theorem dX1_stepsTo_38 : decode cX1_stepsTo 38 = .ok (.irem, 1) := by decide +kernel
theorem dX1_stepsTo_39 : decode cX1_stepsTo 39 = .ok (.iload_n 1, 1) := by decide +kernel
theorem dX1_stepsTo_40 : decode cX1_stepsTo 40 = .ok (.aload_n 0, 1) := by decide +kernel
theorem dX1_stepsTo_41 : decode cX1_stepsTo 41 = .ok (.getfield 26, 3) := by decide +kernel
theorem dX1_stepsTo_44 : decode cX1_stepsTo 44 = .ok (.irem, 1) := by decide +kernel
theorem dX1_stepsTo_45 : decode cX1_stepsTo 45 = .ok (.isub, 1) := by decide +kernel
theorem dX1_stepsTo_46 : decode cX1_stepsTo 46 = .ok (.istore 5, 2) := by decide +kernel
theorem dX1_stepsTo_48 : decode cX1_stepsTo 48 = .ok (.iload 4, 2) := by decide +kernel
theorem dX1_stepsTo_50 : decode cX1_stepsTo 50 = .ok (.getstatic 35, 3) := by decide +kernel
theorem dX1_stepsTo_53 : decode cX1_stepsTo 53 = .ok (.iload_n 2, 1) := by decide +kernel
theorem dX1_stepsTo_54 : decode cX1_stepsTo 54 = .ok (.iaload, 1) := by decide +kernel
theorem dX1_stepsTo_55 : decode cX1_stepsTo 55 = .ok (.imul, 1) := by decide +kernel
theorem dX1_stepsTo_56 : decode cX1_stepsTo 56 = .ok (.iload 5, 2) := by decide +kernel
theorem dX1_stepsTo_58 : decode cX1_stepsTo 58 = .ok (.getstatic 32, 3) := by decide +kernel
theorem dX1_stepsTo_61 : decode cX1_stepsTo 61 = .ok (.iload_n 2, 1) := by decide +kernel
theorem dX1_stepsTo_62 : decode cX1_stepsTo 62 = .ok (.iaload, 1) := by decide +kernel
theorem dX1_stepsTo_63 : decode cX1_stepsTo 63 = .ok (.imul, 1) := by decide +kernel
theorem dX1_stepsTo_64 : decode cX1_stepsTo 64 = .ok (.iadd, 1) := by decide +kernel
theorem dX1_stepsTo_65 : decode cX1_stepsTo 65 = .ok (.istore 6, 2) := by decide +kernel
theorem dX1_stepsTo_67 : decode cX1_stepsTo 67 = .ok (.iload 4, 2) := by decide +kernel
theorem dX1_stepsTo_69 : decode cX1_stepsTo 69 = .ok (.getstatic 32, 3) := by decide +kernel
theorem dX1_stepsTo_72 : decode cX1_stepsTo 72 = .ok (.iload_n 2, 1) := by decide +kernel
theorem dX1_stepsTo_73 : decode cX1_stepsTo 73 = .ok (.iaload, 1) := by decide +kernel
theorem dX1_stepsTo_74 : decode cX1_stepsTo 74 = .ok (.imul, 1) := by decide +kernel
theorem dX1_stepsTo_75 : decode cX1_stepsTo 75 = .ok (.iload 5, 2) := by decide +kernel
theorem dX1_stepsTo_77 : decode cX1_stepsTo 77 = .ok (.getstatic 35, 3) := by decide +kernel
theorem dX1_stepsTo_80 : decode cX1_stepsTo 80 = .ok (.iload_n 2, 1) := by decide +kernel
theorem dX1_stepsTo_81 : decode cX1_stepsTo 81 = .ok (.iaload, 1) := by decide +kernel
theorem dX1_stepsTo_82 : decode cX1_stepsTo 82 = .ok (.imul, 1) := by decide +kernel
theorem dX1_stepsTo_83 : decode cX1_stepsTo 83 = .ok (.iadd, 1) := by decide +kernel
theorem dX1_stepsTo_84 : decode cX1_stepsTo 84 = .ok (.istore 7, 2) := by decide +kernel
theorem dX1_stepsTo_86 : decode cX1_stepsTo 86 = .ok (.iload 6, 2) := by decide +kernel
theorem dX1_stepsTo_88 : decode cX1_stepsTo 88 = .ok (.ifCond .ne 13, 3) := by decide +kernel
theorem dX1_stepsTo_91 : decode cX1_stepsTo 91 = .ok (.iload 7, 2) := by decide +kernel
theorem dX1_stepsTo_93 : decode cX1_stepsTo 93 = .ok (.ifCond .le 8, 3) := by decide +kernel
theorem dX1_stepsTo_96 : decode cX1_stepsTo 96 = .ok (.iload 7, 2) := by decide +kernel
theorem dX1_stepsTo_98 : decode cX1_stepsTo 98 = .ok (.goto 4, 3) := by decide +kernel
theorem dX1_stepsTo_101 : decode cX1_stepsTo 101 = .ok (.iconst (-1), 1) := by decide +kernel
theorem dX1_stepsTo_102 : decode cX1_stepsTo 102 = .ok (.ireturn, 1) := by decide +kernel
theorem dX1_isLand_0 : decode cX1_isLand 0 = .ok (.iload_n 1, 1) := by decide +kernel
theorem dX1_isLand_1 : decode cX1_isLand 1 = .ok (.ifCond .lt 23, 3) := by decide +kernel
theorem dX1_isLand_4 : decode cX1_isLand 4 = .ok (.iload_n 1, 1) := by decide +kernel
theorem dX1_isLand_5 : decode cX1_isLand 5 = .ok (.sipush 144, 3) := by decide +kernel
theorem dX1_isLand_8 : decode cX1_isLand 8 = .ok (.if_icmp .ge 16, 3) := by decide +kernel
theorem dX1_isLand_11 : decode cX1_isLand 11 = .ok (.aload_n 0, 1) := by decide +kernel
theorem dX1_isLand_12 : decode cX1_isLand 12 = .ok (.getfield 9, 3) := by decide +kernel
theorem dX1_isLand_15 : decode cX1_isLand 15 = .ok (.iload_n 1, 1) := by decide +kernel
theorem dX1_isLand_16 : decode cX1_isLand 16 = .ok (.baload, 1) := by decide +kernel
theorem dX1_isLand_17 : decode cX1_isLand 17 = .ok (.ifCond .eq 7, 3) := by decide +kernel
theorem dX1_isLand_20 : decode cX1_isLand 20 = .ok (.iconst 1, 1) := by decide +kernel
theorem dX1_isLand_21 : decode cX1_isLand 21 = .ok (.goto 4, 3) := by decide +kernel
theorem dX1_isLand_24 : decode cX1_isLand 24 = .ok (.iconst 0, 1) := by decide +kernel
theorem dX1_isLand_25 : decode cX1_isLand 25 = .ok (.ireturn, 1) := by decide +kernel
theorem dX1_riverIn_0 : decode cX1_riverIn 0 = .ok (.iload_n 1, 1) := by decide +kernel
theorem dX1_riverIn_1 : decode cX1_riverIn 1 = .ok (.ifCond .lt 19, 3) := by decide +kernel
theorem dX1_riverIn_4 : decode cX1_riverIn 4 = .ok (.iload_n 1, 1) := by decide +kernel
theorem dX1_riverIn_5 : decode cX1_riverIn 5 = .ok (.sipush 144, 3) := by decide +kernel
theorem dX1_riverIn_8 : decode cX1_riverIn 8 = .ok (.if_icmp .ge 12, 3) := by decide +kernel
theorem dX1_riverIn_11 : decode cX1_riverIn 11 = .ok (.aload_n 0, 1) := by decide +kernel
theorem dX1_riverIn_12 : decode cX1_riverIn 12 = .ok (.getfield 15, 3) := by decide +kernel
theorem dX1_riverIn_15 : decode cX1_riverIn 15 = .ok (.iload_n 1, 1) := by decide +kernel
theorem dX1_riverIn_16 : decode cX1_riverIn 16 = .ok (.iaload, 1) := by decide +kernel
theorem dX1_riverIn_17 : decode cX1_riverIn 17 = .ok (.goto 4, 3) := by decide +kernel
theorem dX1_riverIn_20 : decode cX1_riverIn 20 = .ok (.iconst (-1), 1) := by decide +kernel
theorem dX1_riverIn_21 : decode cX1_riverIn 21 = .ok (.ireturn, 1) := by decide +kernel
theorem dX1_isRiver_0 : decode cX1_isRiver 0 = .ok (.iload_n 1, 1) := by decide +kernel
theorem dX1_isRiver_1 : decode cX1_isRiver 1 = .ok (.ifCond .lt 24, 3) := by decide +kernel
theorem dX1_isRiver_4 : decode cX1_isRiver 4 = .ok (.iload_n 1, 1) := by decide +kernel
theorem dX1_isRiver_5 : decode cX1_isRiver 5 = .ok (.sipush 144, 3) := by decide +kernel
theorem dX1_isRiver_8 : decode cX1_isRiver 8 = .ok (.if_icmp .ge 17, 3) := by decide +kernel
theorem dX1_isRiver_11 : decode cX1_isRiver 11 = .ok (.aload_n 0, 1) := by decide +kernel
theorem dX1_isRiver_12 : decode cX1_isRiver 12 = .ok (.getfield 15, 3) := by decide +kernel
theorem dX1_isRiver_15 : decode cX1_isRiver 15 = .ok (.iload_n 1, 1) := by decide +kernel
theorem dX1_isRiver_16 : decode cX1_isRiver 16 = .ok (.iaload, 1) := by decide +kernel
theorem dX1_isRiver_17 : decode cX1_isRiver 17 = .ok (.iconst (-1), 1) := by decide +kernel
theorem dX1_isRiver_18 : decode cX1_isRiver 18 = .ok (.if_icmp .eq 7, 3) := by decide +kernel
theorem dX1_isRiver_21 : decode cX1_isRiver 21 = .ok (.iconst 1, 1) := by decide +kernel
theorem dX1_isRiver_22 : decode cX1_isRiver 22 = .ok (.goto 4, 3) := by decide +kernel
theorem dX1_isRiver_25 : decode cX1_isRiver 25 = .ok (.iconst 0, 1) := by decide +kernel
theorem dX1_isRiver_26 : decode cX1_isRiver 26 = .ok (.ireturn, 1) := by decide +kernel
theorem dX1_setLand_0 : decode cX1_setLand 0 = .ok (.iload_n 1, 1) := by decide +kernel
theorem dX1_setLand_1 : decode cX1_setLand 1 = .ok (.ifCond .lt 17, 3) := by decide +kernel
theorem dX1_setLand_4 : decode cX1_setLand 4 = .ok (.iload_n 1, 1) := by decide +kernel
theorem dX1_setLand_5 : decode cX1_setLand 5 = .ok (.sipush 144, 3) := by decide +kernel
theorem dX1_setLand_8 : decode cX1_setLand 8 = .ok (.if_icmp .ge 10, 3) := by decide +kernel
theorem dX1_setLand_11 : decode cX1_setLand 11 = .ok (.aload_n 0, 1) := by decide +kernel
theorem dX1_setLand_12 : decode cX1_setLand 12 = .ok (.getfield 9, 3) := by decide +kernel
theorem dX1_setLand_15 : decode cX1_setLand 15 = .ok (.iload_n 1, 1) := by decide +kernel
theorem dX1_setLand_16 : decode cX1_setLand 16 = .ok (.iload_n 2, 1) := by decide +kernel
theorem dX1_setLand_17 : decode cX1_setLand 17 = .ok (.bastore, 1) := by decide +kernel
theorem dX1_setLand_18 : decode cX1_setLand 18 = .ok (.return_, 1) := by decide +kernel
theorem dX1_landCells_0 : decode cX1_landCells 0 = .ok (.iconst 0, 1) := by decide +kernel
theorem dX1_landCells_1 : decode cX1_landCells 1 = .ok (.istore_n 1, 1) := by decide +kernel
theorem dX1_landCells_2 : decode cX1_landCells 2 = .ok (.iconst 0, 1) := by decide +kernel
theorem dX1_landCells_3 : decode cX1_landCells 3 = .ok (.istore_n 2, 1) := by decide +kernel
theorem dX1_landCells_4 : decode cX1_landCells 4 = .ok (.iload_n 2, 1) := by decide +kernel
theorem dX1_landCells_5 : decode cX1_landCells 5 = .ok (.sipush 144, 3) := by decide +kernel
theorem dX1_landCells_8 : decode cX1_landCells 8 = .ok (.if_icmp .ge 21, 3) := by decide +kernel
theorem dX1_landCells_11 : decode cX1_landCells 11 = .ok (.aload_n 0, 1) := by decide +kernel
theorem dX1_landCells_12 : decode cX1_landCells 12 = .ok (.getfield 9, 3) := by decide +kernel
theorem dX1_landCells_15 : decode cX1_landCells 15 = .ok (.iload_n 2, 1) := by decide +kernel
theorem dX1_landCells_16 : decode cX1_landCells 16 = .ok (.baload, 1) := by decide +kernel
theorem dX1_landCells_17 : decode cX1_landCells 17 = .ok (.ifCond .eq 6, 3) := by decide +kernel
theorem dX1_landCells_20 : decode cX1_landCells 20 = .ok (.iinc 1 1, 3) := by decide +kernel
theorem dX1_landCells_23 : decode cX1_landCells 23 = .ok (.iinc 2 1, 3) := by decide +kernel
theorem dX1_landCells_26 : decode cX1_landCells 26 = .ok (.goto (-22), 3) := by decide +kernel
theorem dX1_landCells_29 : decode cX1_landCells 29 = .ok (.iload_n 1, 1) := by decide +kernel
theorem dX1_landCells_30 : decode cX1_landCells 30 = .ok (.ireturn, 1) := by decide +kernel
theorem dX1_hasSeaBeside_0 : decode cX1_hasSeaBeside 0 = .ok (.iconst 0, 1) := by decide +kernel
theorem dX1_hasSeaBeside_1 : decode cX1_hasSeaBeside 1 = .ok (.istore_n 3, 1) := by decide +kernel
theorem dX1_hasSeaBeside_2 : decode cX1_hasSeaBeside 2 = .ok (.iload_n 3, 1) := by decide +kernel
theorem dX1_hasSeaBeside_3 : decode cX1_hasSeaBeside 3 = .ok (.iconst 4, 1) := by decide +kernel
theorem dX1_hasSeaBeside_4 : decode cX1_hasSeaBeside 4 = .ok (.if_icmp .ge 41, 3) := by decide +kernel
theorem dX1_hasSeaBeside_7 : decode cX1_hasSeaBeside 7 = .ok (.aload_n 0, 1) := by decide +kernel
theorem dX1_hasSeaBeside_8 : decode cX1_hasSeaBeside 8 = .ok (.iload_n 1, 1) := by decide +kernel
theorem dX1_hasSeaBeside_9 : decode cX1_hasSeaBeside 9 = .ok (.iload_n 3, 1) := by decide +kernel
theorem dX1_hasSeaBeside_10 : decode cX1_hasSeaBeside 10 = .ok (.iconst 1, 1) := by decide +kernel
theorem dX1_hasSeaBeside_11 : decode cX1_hasSeaBeside 11 = .ok (.invokevirtual 38, 3) := by decide +kernel
theorem dX1_hasSeaBeside_14 : decode cX1_hasSeaBeside 14 = .ok (.istore 4, 2) := by decide +kernel
theorem dX1_hasSeaBeside_16 : decode cX1_hasSeaBeside 16 = .ok (.iload 4, 2) := by decide +kernel
theorem dX1_hasSeaBeside_18 : decode cX1_hasSeaBeside 18 = .ok (.iconst (-1), 1) := by decide +kernel
theorem dX1_hasSeaBeside_19 : decode cX1_hasSeaBeside 19 = .ok (.if_icmp .eq 18, 3) := by decide +kernel
theorem dX1_hasSeaBeside_22 : decode cX1_hasSeaBeside 22 = .ok (.iload 4, 2) := by decide +kernel
theorem dX1_hasSeaBeside_24 : decode cX1_hasSeaBeside 24 = .ok (.iload_n 2, 1) := by decide +kernel
theorem dX1_hasSeaBeside_25 : decode cX1_hasSeaBeside 25 = .ok (.if_icmp .eq 14, 3) := by decide +kernel
theorem dX1_hasSeaBeside_28 : decode cX1_hasSeaBeside 28 = .ok (.aload_n 0, 1) := by decide +kernel
theorem dX1_hasSeaBeside_29 : decode cX1_hasSeaBeside 29 = .ok (.iload 4, 2) := by decide +kernel
theorem dX1_hasSeaBeside_31 : decode cX1_hasSeaBeside 31 = .ok (.invokevirtual 42, 3) := by decide +kernel
theorem dX1_hasSeaBeside_34 : decode cX1_hasSeaBeside 34 = .ok (.ifCond .ne 5, 3) := by decide +kernel
theorem dX1_hasSeaBeside_37 : decode cX1_hasSeaBeside 37 = .ok (.iconst 1, 1) := by decide +kernel
theorem dX1_hasSeaBeside_38 : decode cX1_hasSeaBeside 38 = .ok (.ireturn, 1) := by decide +kernel
theorem dX1_hasSeaBeside_39 : decode cX1_hasSeaBeside 39 = .ok (.iinc 3 1, 3) := by decide +kernel
theorem dX1_hasSeaBeside_42 : decode cX1_hasSeaBeside 42 = .ok (.goto (-40), 3) := by decide +kernel
theorem dX1_hasSeaBeside_45 : decode cX1_hasSeaBeside 45 = .ok (.iconst 0, 1) := by decide +kernel
theorem dX1_hasSeaBeside_46 : decode cX1_hasSeaBeside 46 = .ok (.ireturn, 1) := by decide +kernel
theorem dX1_endsRiver_0 : decode cX1_endsRiver 0 = .ok (.iconst 0, 1) := by decide +kernel
theorem dX1_endsRiver_1 : decode cX1_endsRiver 1 = .ok (.istore_n 2, 1) := by decide +kernel
theorem dX1_endsRiver_2 : decode cX1_endsRiver 2 = .ok (.iload_n 2, 1) := by decide +kernel
theorem dX1_endsRiver_3 : decode cX1_endsRiver 3 = .ok (.iconst 4, 1) := by decide +kernel
theorem dX1_endsRiver_4 : decode cX1_endsRiver 4 = .ok (.if_icmp .ge 35, 3) := by decide +kernel
theorem dX1_endsRiver_7 : decode cX1_endsRiver 7 = .ok (.aload_n 0, 1) := by decide +kernel
theorem dX1_endsRiver_8 : decode cX1_endsRiver 8 = .ok (.iload_n 1, 1) := by decide +kernel
theorem dX1_endsRiver_9 : decode cX1_endsRiver 9 = .ok (.iload_n 2, 1) := by decide +kernel
theorem dX1_endsRiver_10 : decode cX1_endsRiver 10 = .ok (.iconst 1, 1) := by decide +kernel
theorem dX1_endsRiver_11 : decode cX1_endsRiver 11 = .ok (.invokevirtual 38, 3) := by decide +kernel
theorem dX1_endsRiver_14 : decode cX1_endsRiver 14 = .ok (.istore_n 3, 1) := by decide +kernel
theorem dX1_endsRiver_15 : decode cX1_endsRiver 15 = .ok (.aload_n 0, 1) := by decide +kernel
theorem dX1_endsRiver_16 : decode cX1_endsRiver 16 = .ok (.iload_n 3, 1) := by decide +kernel
theorem dX1_endsRiver_17 : decode cX1_endsRiver 17 = .ok (.invokevirtual 42, 3) := by decide +kernel
theorem dX1_endsRiver_20 : decode cX1_endsRiver 20 = .ok (.ifCond .eq 11, 3) := by decide +kernel
theorem dX1_endsRiver_23 : decode cX1_endsRiver 23 = .ok (.aload_n 0, 1) := by decide +kernel
theorem dX1_endsRiver_24 : decode cX1_endsRiver 24 = .ok (.iload_n 3, 1) := by decide +kernel
theorem dX1_endsRiver_25 : decode cX1_endsRiver 25 = .ok (.invokevirtual 46, 3) := by decide +kernel
theorem dX1_endsRiver_28 : decode cX1_endsRiver 28 = .ok (.ifCond .eq 5, 3) := by decide +kernel
theorem dX1_endsRiver_31 : decode cX1_endsRiver 31 = .ok (.iconst 1, 1) := by decide +kernel
theorem dX1_endsRiver_32 : decode cX1_endsRiver 32 = .ok (.ireturn, 1) := by decide +kernel
theorem dX1_endsRiver_33 : decode cX1_endsRiver 33 = .ok (.iinc 2 1, 3) := by decide +kernel
theorem dX1_endsRiver_36 : decode cX1_endsRiver 36 = .ok (.goto (-34), 3) := by decide +kernel
theorem dX1_endsRiver_39 : decode cX1_endsRiver 39 = .ok (.iconst 0, 1) := by decide +kernel
theorem dX1_endsRiver_40 : decode cX1_endsRiver 40 = .ok (.ireturn, 1) := by decide +kernel
theorem dX1_depthOf_0 : decode cX1_depthOf 0 = .ok (.aload_n 0, 1) := by decide +kernel
theorem dX1_depthOf_1 : decode cX1_depthOf 1 = .ok (.iload_n 1, 1) := by decide +kernel
theorem dX1_depthOf_2 : decode cX1_depthOf 2 = .ok (.invokevirtual 42, 3) := by decide +kernel
theorem dX1_depthOf_5 : decode cX1_depthOf 5 = .ok (.ifCond .eq 10, 3) := by decide +kernel
theorem dX1_depthOf_8 : decode cX1_depthOf 8 = .ok (.aload_n 0, 1) := by decide +kernel
theorem dX1_depthOf_9 : decode cX1_depthOf 9 = .ok (.getfield 26, 3) := by decide +kernel
theorem dX1_depthOf_12 : decode cX1_depthOf 12 = .ok (.ifCond .gt 5, 3) := by decide +kernel
theorem dX1_depthOf_15 : decode cX1_depthOf 15 = .ok (.iconst 0, 1) := by decide +kernel
theorem dX1_depthOf_16 : decode cX1_depthOf 16 = .ok (.ireturn, 1) := by decide +kernel
theorem dX1_depthOf_17 : decode cX1_depthOf 17 = .ok (.iload_n 1, 1) := by decide +kernel
theorem dX1_depthOf_18 : decode cX1_depthOf 18 = .ok (.aload_n 0, 1) := by decide +kernel
theorem dX1_depthOf_19 : decode cX1_depthOf 19 = .ok (.getfield 26, 3) := by decide +kernel
theorem dX1_depthOf_22 : decode cX1_depthOf 22 = .ok (.idiv, 1) := by decide +kernel
theorem dX1_depthOf_23 : decode cX1_depthOf 23 = .ok (.istore_n 2, 1) := by decide +kernel
theorem dX1_depthOf_24 : decode cX1_depthOf 24 = .ok (.iload_n 1, 1) := by decide +kernel
theorem dX1_depthOf_25 : decode cX1_depthOf 25 = .ok (.aload_n 0, 1) := by decide +kernel
theorem dX1_depthOf_26 : decode cX1_depthOf 26 = .ok (.getfield 26, 3) := by decide +kernel
theorem dX1_depthOf_29 : decode cX1_depthOf 29 = .ok (.irem, 1) := by decide +kernel
theorem dX1_depthOf_30 : decode cX1_depthOf 30 = .ok (.istore_n 3, 1) := by decide +kernel
theorem dX1_depthOf_31 : decode cX1_depthOf 31 = .ok (.iload_n 2, 1) := by decide +kernel
theorem dX1_depthOf_32 : decode cX1_depthOf 32 = .ok (.iconst 1, 1) := by decide +kernel
theorem dX1_depthOf_33 : decode cX1_depthOf 33 = .ok (.iadd, 1) := by decide +kernel
theorem dX1_depthOf_34 : decode cX1_depthOf 34 = .ok (.aload_n 0, 1) := by decide +kernel
theorem dX1_depthOf_35 : decode cX1_depthOf 35 = .ok (.getfield 22, 3) := by decide +kernel
theorem dX1_depthOf_38 : decode cX1_depthOf 38 = .ok (.iload_n 2, 1) := by decide +kernel
theorem dX1_depthOf_39 : decode cX1_depthOf 39 = .ok (.isub, 1) := by decide +kernel
theorem dX1_depthOf_40 : decode cX1_depthOf 40 = .ok (.invokestatic 49, 3) := by decide +kernel
theorem dX1_depthOf_43 : decode cX1_depthOf 43 = .ok (.istore 4, 2) := by decide +kernel
theorem dX1_depthOf_45 : decode cX1_depthOf 45 = .ok (.iload_n 3, 1) := by decide +kernel
theorem dX1_depthOf_46 : decode cX1_depthOf 46 = .ok (.iconst 1, 1) := by decide +kernel
theorem dX1_depthOf_47 : decode cX1_depthOf 47 = .ok (.iadd, 1) := by decide +kernel
theorem dX1_depthOf_48 : decode cX1_depthOf 48 = .ok (.aload_n 0, 1) := by decide +kernel
theorem dX1_depthOf_49 : decode cX1_depthOf 49 = .ok (.getfield 26, 3) := by decide +kernel
theorem dX1_depthOf_52 : decode cX1_depthOf 52 = .ok (.iload_n 3, 1) := by decide +kernel
theorem dX1_depthOf_53 : decode cX1_depthOf 53 = .ok (.isub, 1) := by decide +kernel
theorem dX1_depthOf_54 : decode cX1_depthOf 54 = .ok (.invokestatic 49, 3) := by decide +kernel
theorem dX1_depthOf_57 : decode cX1_depthOf 57 = .ok (.istore 5, 2) := by decide +kernel
theorem dX1_depthOf_59 : decode cX1_depthOf 59 = .ok (.iload 4, 2) := by decide +kernel
theorem dX1_depthOf_61 : decode cX1_depthOf 61 = .ok (.iload 5, 2) := by decide +kernel
theorem dX1_depthOf_63 : decode cX1_depthOf 63 = .ok (.invokestatic 49, 3) := by decide +kernel
theorem dX1_depthOf_66 : decode cX1_depthOf 66 = .ok (.istore 6, 2) := by decide +kernel
theorem dX1_depthOf_68 : decode cX1_depthOf 68 = .ok (.iconst 0, 1) := by decide +kernel
theorem dX1_depthOf_69 : decode cX1_depthOf 69 = .ok (.istore 7, 2) := by decide +kernel
theorem dX1_depthOf_71 : decode cX1_depthOf 71 = .ok (.iload 7, 2) := by decide +kernel
theorem dX1_depthOf_73 : decode cX1_depthOf 73 = .ok (.aload_n 0, 1) := by decide +kernel
theorem dX1_depthOf_74 : decode cX1_depthOf 74 = .ok (.invokevirtual 55, 3) := by decide +kernel
theorem dX1_depthOf_77 : decode cX1_depthOf 77 = .ok (.if_icmp .ge 54, 3) := by decide +kernel
theorem dX1_depthOf_80 : decode cX1_depthOf 80 = .ok (.aload_n 0, 1) := by decide +kernel
theorem dX1_depthOf_81 : decode cX1_depthOf 81 = .ok (.iload 7, 2) := by decide +kernel
theorem dX1_depthOf_83 : decode cX1_depthOf 83 = .ok (.invokevirtual 42, 3) := by decide +kernel
theorem dX1_depthOf_86 : decode cX1_depthOf 86 = .ok (.ifCond .ne 39, 3) := by decide +kernel
theorem dX1_depthOf_89 : decode cX1_depthOf 89 = .ok (.iload 7, 2) := by decide +kernel
theorem dX1_depthOf_91 : decode cX1_depthOf 91 = .ok (.aload_n 0, 1) := by decide +kernel
theorem dX1_depthOf_92 : decode cX1_depthOf 92 = .ok (.getfield 26, 3) := by decide +kernel
theorem dX1_depthOf_95 : decode cX1_depthOf 95 = .ok (.idiv, 1) := by decide +kernel
theorem dX1_depthOf_96 : decode cX1_depthOf 96 = .ok (.iload_n 2, 1) := by decide +kernel
theorem dX1_depthOf_97 : decode cX1_depthOf 97 = .ok (.isub, 1) := by decide +kernel
theorem dX1_depthOf_98 : decode cX1_depthOf 98 = .ok (.invokestatic 59, 3) := by decide +kernel
theorem dX1_depthOf_101 : decode cX1_depthOf 101 = .ok (.iload 7, 2) := by decide +kernel
theorem dX1_depthOf_103 : decode cX1_depthOf 103 = .ok (.aload_n 0, 1) := by decide +kernel
theorem dX1_depthOf_104 : decode cX1_depthOf 104 = .ok (.getfield 26, 3) := by decide +kernel
theorem dX1_depthOf_107 : decode cX1_depthOf 107 = .ok (.irem, 1) := by decide +kernel
theorem dX1_depthOf_108 : decode cX1_depthOf 108 = .ok (.iload_n 3, 1) := by decide +kernel
theorem dX1_depthOf_109 : decode cX1_depthOf 109 = .ok (.isub, 1) := by decide +kernel
theorem dX1_depthOf_110 : decode cX1_depthOf 110 = .ok (.invokestatic 59, 3) := by decide +kernel
theorem dX1_depthOf_113 : decode cX1_depthOf 113 = .ok (.iadd, 1) := by decide +kernel
theorem dX1_depthOf_114 : decode cX1_depthOf 114 = .ok (.istore 8, 2) := by decide +kernel
theorem dX1_depthOf_116 : decode cX1_depthOf 116 = .ok (.iload 6, 2) := by decide +kernel
theorem dX1_depthOf_118 : decode cX1_depthOf 118 = .ok (.iload 8, 2) := by decide +kernel
theorem dX1_depthOf_120 : decode cX1_depthOf 120 = .ok (.invokestatic 49, 3) := by decide +kernel
theorem dX1_depthOf_123 : decode cX1_depthOf 123 = .ok (.istore 6, 2) := by decide +kernel
theorem dX1_depthOf_125 : decode cX1_depthOf 125 = .ok (.iinc 7 1, 3) := by decide +kernel
theorem dX1_depthOf_128 : decode cX1_depthOf 128 = .ok (.goto (-57), 3) := by decide +kernel
theorem dX1_depthOf_131 : decode cX1_depthOf 131 = .ok (.iload 6, 2) := by decide +kernel
theorem dX1_depthOf_133 : decode cX1_depthOf 133 = .ok (.ireturn, 1) := by decide +kernel
theorem dX1_riverCell_0 : decode cX1_riverCell 0 = .ok (.iconst 0, 1) := by decide +kernel
theorem dX1_riverCell_1 : decode cX1_riverCell 1 = .ok (.istore_n 3, 1) := by decide +kernel
theorem dX1_riverCell_2 : decode cX1_riverCell 2 = .ok (.iload_n 3, 1) := by decide +kernel
theorem dX1_riverCell_3 : decode cX1_riverCell 3 = .ok (.sipush 144, 3) := by decide +kernel
theorem dX1_riverCell_6 : decode cX1_riverCell 6 = .ok (.if_icmp .ge 35, 3) := by decide +kernel
theorem dX1_riverCell_9 : decode cX1_riverCell 9 = .ok (.iload_n 2, 1) := by decide +kernel
theorem dX1_riverCell_10 : decode cX1_riverCell 10 = .ok (.ifCond .lt 25, 3) := by decide +kernel
theorem dX1_riverCell_13 : decode cX1_riverCell 13 = .ok (.aload_n 0, 1) := by decide +kernel
theorem dX1_riverCell_14 : decode cX1_riverCell 14 = .ok (.getfield 15, 3) := by decide +kernel
theorem dX1_riverCell_17 : decode cX1_riverCell 17 = .ok (.iload_n 3, 1) := by decide +kernel
theorem dX1_riverCell_18 : decode cX1_riverCell 18 = .ok (.iaload, 1) := by decide +kernel
theorem dX1_riverCell_19 : decode cX1_riverCell 19 = .ok (.iload_n 1, 1) := by decide +kernel
theorem dX1_riverCell_20 : decode cX1_riverCell 20 = .ok (.if_icmp .ne 15, 3) := by decide +kernel
theorem dX1_riverCell_23 : decode cX1_riverCell 23 = .ok (.aload_n 0, 1) := by decide +kernel
theorem dX1_riverCell_24 : decode cX1_riverCell 24 = .ok (.getfield 19, 3) := by decide +kernel
theorem dX1_riverCell_27 : decode cX1_riverCell 27 = .ok (.iload_n 3, 1) := by decide +kernel
theorem dX1_riverCell_28 : decode cX1_riverCell 28 = .ok (.iaload, 1) := by decide +kernel
theorem dX1_riverCell_29 : decode cX1_riverCell 29 = .ok (.iload_n 2, 1) := by decide +kernel
theorem dX1_riverCell_30 : decode cX1_riverCell 30 = .ok (.if_icmp .ne 5, 3) := by decide +kernel
theorem dX1_riverCell_33 : decode cX1_riverCell 33 = .ok (.iload_n 3, 1) := by decide +kernel
theorem dX1_riverCell_34 : decode cX1_riverCell 34 = .ok (.ireturn, 1) := by decide +kernel
theorem dX1_riverCell_35 : decode cX1_riverCell 35 = .ok (.iinc 3 1, 3) := by decide +kernel
theorem dX1_riverCell_38 : decode cX1_riverCell 38 = .ok (.goto (-36), 3) := by decide +kernel
theorem dX1_riverCell_41 : decode cX1_riverCell 41 = .ok (.iconst (-1), 1) := by decide +kernel
theorem dX1_riverCell_42 : decode cX1_riverCell 42 = .ok (.ireturn, 1) := by decide +kernel
theorem dX1_layRiver_0 : decode cX1_layRiver 0 = .ok (.iconst 0, 1) := by decide +kernel
theorem dX1_layRiver_1 : decode cX1_layRiver 1 = .ok (.istore_n 3, 1) := by decide +kernel
