theorem dX2_init_0 : decode cX2_init 0 = .ok (.aload_n 0, 1) := by decide +kernel
theorem dX2_init_1 : decode cX2_init 1 = .ok (.invokespecial 3, 3) := by decide +kernel
theorem dX2_init_4 : decode cX2_init 4 = .ok (.aload_n 0, 1) := by decide +kernel
theorem dX2_init_5 : decode cX2_init 5 = .ok (.bipush 8, 2) := by decide +kernel
theorem dX2_init_7 : decode cX2_init 7 = .ok (.newarray .int, 2) := by decide +kernel
theorem dX2_init_9 : decode cX2_init 9 = .ok (.putfield 9, 3) := by decide +kernel
theorem dX2_init_12 : decode cX2_init 12 = .ok (.aload_n 0, 1) := by decide +kernel
theorem dX2_init_13 : decode cX2_init 13 = .ok (.bipush 8, 2) := by decide +kernel
theorem dX2_init_15 : decode cX2_init 15 = .ok (.newarray .int, 2) := by decide +kernel
theorem dX2_init_17 : decode cX2_init 17 = .ok (.putfield 15, 3) := by decide +kernel
theorem dX2_init_20 : decode cX2_init 20 = .ok (.aload_n 0, 1) := by decide +kernel
theorem dX2_init_21 : decode cX2_init 21 = .ok (.bipush 8, 2) := by decide +kernel
theorem dX2_init_23 : decode cX2_init 23 = .ok (.newarray .int, 2) := by decide +kernel
theorem dX2_init_25 : decode cX2_init 25 = .ok (.putfield 18, 3) := by decide +kernel
theorem dX2_init_28 : decode cX2_init 28 = .ok (.aload_n 0, 1) := by decide +kernel
theorem dX2_init_29 : decode cX2_init 29 = .ok (.bipush 64, 2) := by decide +kernel
theorem dX2_init_31 : decode cX2_init 31 = .ok (.newarray .int, 2) := by decide +kernel
theorem dX2_init_33 : decode cX2_init 33 = .ok (.putfield 21, 3) := by decide +kernel
theorem dX2_init_36 : decode cX2_init 36 = .ok (.return_, 1) := by decide +kernel
theorem dX2_beginEmpty_0 : decode cX2_beginEmpty 0 = .ok (.aload_n 0, 1) := by decide +kernel
theorem dX2_beginEmpty_1 : decode cX2_beginEmpty 1 = .ok (.iconst 0, 1) := by decide +kernel
theorem dX2_beginEmpty_2 : decode cX2_beginEmpty 2 = .ok (.putfield 24, 3) := by decide +kernel
theorem dX2_beginEmpty_5 : decode cX2_beginEmpty 5 = .ok (.aload_n 0, 1) := by decide +kernel
theorem dX2_beginEmpty_6 : decode cX2_beginEmpty 6 = .ok (.iconst 0, 1) := by decide +kernel
theorem dX2_beginEmpty_7 : decode cX2_beginEmpty 7 = .ok (.putfield 28, 3) := by decide +kernel
theorem dX2_beginEmpty_10 : decode cX2_beginEmpty 10 = .ok (.return_, 1) := by decide +kernel
theorem dX2_copyFrom_0 : decode cX2_copyFrom 0 = .ok (.aload_n 0, 1) := by decide +kernel
theorem dX2_copyFrom_1 : decode cX2_copyFrom 1 = .ok (.aload_n 1, 1) := by decide +kernel
theorem dX2_copyFrom_2 : decode cX2_copyFrom 2 = .ok (.getfield 24, 3) := by decide +kernel
theorem dX2_copyFrom_5 : decode cX2_copyFrom 5 = .ok (.putfield 24, 3) := by decide +kernel
theorem dX2_copyFrom_8 : decode cX2_copyFrom 8 = .ok (.aload_n 0, 1) := by decide +kernel
theorem dX2_copyFrom_9 : decode cX2_copyFrom 9 = .ok (.aload_n 1, 1) := by decide +kernel
theorem dX2_copyFrom_10 : decode cX2_copyFrom 10 = .ok (.getfield 28, 3) := by decide +kernel
theorem dX2_copyFrom_13 : decode cX2_copyFrom 13 = .ok (.putfield 28, 3) := by decide +kernel
theorem dX2_copyFrom_16 : decode cX2_copyFrom 16 = .ok (.iconst 0, 1) := by decide +kernel
theorem dX2_copyFrom_17 : decode cX2_copyFrom 17 = .ok (.istore_n 2, 1) := by decide +kernel
theorem dX2_copyFrom_18 : decode cX2_copyFrom 18 = .ok (.iload_n 2, 1) := by decide +kernel
theorem dX2_copyFrom_19 : decode cX2_copyFrom 19 = .ok (.bipush 8, 2) := by decide +kernel
theorem dX2_copyFrom_21 : decode cX2_copyFrom 21 = .ok (.if_icmp .ge 45, 3) := by decide +kernel
theorem dX2_copyFrom_24 : decode cX2_copyFrom 24 = .ok (.aload_n 0, 1) := by decide +kernel
theorem dX2_copyFrom_25 : decode cX2_copyFrom 25 = .ok (.getfield 9, 3) := by decide +kernel
theorem dX2_copyFrom_28 : decode cX2_copyFrom 28 = .ok (.iload_n 2, 1) := by decide +kernel
theorem dX2_copyFrom_29 : decode cX2_copyFrom 29 = .ok (.aload_n 1, 1) := by decide +kernel
theorem dX2_copyFrom_30 : decode cX2_copyFrom 30 = .ok (.getfield 9, 3) := by decide +kernel
theorem dX2_copyFrom_33 : decode cX2_copyFrom 33 = .ok (.iload_n 2, 1) := by decide +kernel
theorem dX2_copyFrom_34 : decode cX2_copyFrom 34 = .ok (.iaload, 1) := by decide +kernel
theorem dX2_copyFrom_35 : decode cX2_copyFrom 35 = .ok (.iastore, 1) := by decide +kernel
theorem dX2_copyFrom_36 : decode cX2_copyFrom 36 = .ok (.aload_n 0, 1) := by decide +kernel
theorem dX2_copyFrom_37 : decode cX2_copyFrom 37 = .ok (.getfield 15, 3) := by decide +kernel
theorem dX2_copyFrom_40 : decode cX2_copyFrom 40 = .ok (.iload_n 2, 1) := by decide +kernel
theorem dX2_copyFrom_41 : decode cX2_copyFrom 41 = .ok (.aload_n 1, 1) := by decide +kernel
theorem dX2_copyFrom_42 : decode cX2_copyFrom 42 = .ok (.getfield 15, 3) := by decide +kernel
theorem dX2_copyFrom_45 : decode cX2_copyFrom 45 = .ok (.iload_n 2, 1) := by decide +kernel
theorem dX2_copyFrom_46 : decode cX2_copyFrom 46 = .ok (.iaload, 1) := by decide +kernel
theorem dX2_copyFrom_47 : decode cX2_copyFrom 47 = .ok (.iastore, 1) := by decide +kernel
theorem dX2_copyFrom_48 : decode cX2_copyFrom 48 = .ok (.aload_n 0, 1) := by decide +kernel
theorem dX2_copyFrom_49 : decode cX2_copyFrom 49 = .ok (.getfield 18, 3) := by decide +kernel
theorem dX2_copyFrom_52 : decode cX2_copyFrom 52 = .ok (.iload_n 2, 1) := by decide +kernel
theorem dX2_copyFrom_53 : decode cX2_copyFrom 53 = .ok (.aload_n 1, 1) := by decide +kernel
theorem dX2_copyFrom_54 : decode cX2_copyFrom 54 = .ok (.getfield 18, 3) := by decide +kernel
theorem dX2_copyFrom_57 : decode cX2_copyFrom 57 = .ok (.iload_n 2, 1) := by decide +kernel
theorem dX2_copyFrom_58 : decode cX2_copyFrom 58 = .ok (.iaload, 1) := by decide +kernel
theorem dX2_copyFrom_59 : decode cX2_copyFrom 59 = .ok (.iastore, 1) := by decide +kernel
theorem dX2_copyFrom_60 : decode cX2_copyFrom 60 = .ok (.iinc 2 1, 3) := by decide +kernel
theorem dX2_copyFrom_63 : decode cX2_copyFrom 63 = .ok (.goto (-45), 3) := by decide +kernel
theorem dX2_copyFrom_66 : decode cX2_copyFrom 66 = .ok (.iconst 0, 1) := by decide +kernel
theorem dX2_copyFrom_67 : decode cX2_copyFrom 67 = .ok (.istore_n 2, 1) := by decide +kernel
theorem dX2_copyFrom_68 : decode cX2_copyFrom 68 = .ok (.iload_n 2, 1) := by decide +kernel
theorem dX2_copyFrom_69 : decode cX2_copyFrom 69 = .ok (.aload_n 0, 1) := by decide +kernel
theorem dX2_copyFrom_70 : decode cX2_copyFrom 70 = .ok (.getfield 21, 3) := by decide +kernel
theorem dX2_copyFrom_73 : decode cX2_copyFrom 73 = .ok (.arraylength, 1) := by decide +kernel
theorem dX2_copyFrom_74 : decode cX2_copyFrom 74 = .ok (.if_icmp .ge 21, 3) := by decide +kernel
theorem dX2_copyFrom_77 : decode cX2_copyFrom 77 = .ok (.aload_n 0, 1) := by decide +kernel
theorem dX2_copyFrom_78 : decode cX2_copyFrom 78 = .ok (.getfield 21, 3) := by decide +kernel
theorem dX2_copyFrom_81 : decode cX2_copyFrom 81 = .ok (.iload_n 2, 1) := by decide +kernel
theorem dX2_copyFrom_82 : decode cX2_copyFrom 82 = .ok (.aload_n 1, 1) := by decide +kernel
theorem dX2_copyFrom_83 : decode cX2_copyFrom 83 = .ok (.getfield 21, 3) := by decide +kernel
theorem dX2_copyFrom_86 : decode cX2_copyFrom 86 = .ok (.iload_n 2, 1) := by decide +kernel
theorem dX2_copyFrom_87 : decode cX2_copyFrom 87 = .ok (.iaload, 1) := by decide +kernel
theorem dX2_copyFrom_88 : decode cX2_copyFrom 88 = .ok (.iastore, 1) := by decide +kernel
theorem dX2_copyFrom_89 : decode cX2_copyFrom 89 = .ok (.iinc 2 1, 3) := by decide +kernel
theorem dX2_copyFrom_92 : decode cX2_copyFrom 92 = .ok (.goto (-24), 3) := by decide +kernel
theorem dX2_copyFrom_95 : decode cX2_copyFrom 95 = .ok (.return_, 1) := by decide +kernel
theorem dX2_addHarbour_0 : decode cX2_addHarbour 0 = .ok (.aload_n 0, 1) := by decide +kernel
theorem dX2_addHarbour_1 : decode cX2_addHarbour 1 = .ok (.getfield 24, 3) := by decide +kernel
theorem dX2_addHarbour_4 : decode cX2_addHarbour 4 = .ok (.bipush 8, 2) := by decide +kernel
theorem dX2_addHarbour_6 : decode cX2_addHarbour 6 = .ok (.if_icmp .ge 7, 3) := by decide +kernel
theorem dX2_addHarbour_9 : decode cX2_addHarbour 9 = .ok (.iload_n 3, 1) := by decide +kernel
theorem dX2_addHarbour_10 : decode cX2_addHarbour 10 = .ok (.ifCond .ge 4, 3) := by decide +kernel
theorem dX2_addHarbour_13 : decode cX2_addHarbour 13 = .ok (.return_, 1) := by decide +kernel
theorem dX2_addHarbour_14 : decode cX2_addHarbour 14 = .ok (.aload_n 0, 1) := by decide +kernel
theorem dX2_addHarbour_15 : decode cX2_addHarbour 15 = .ok (.getfield 9, 3) := by decide +kernel
theorem dX2_addHarbour_18 : decode cX2_addHarbour 18 = .ok (.aload_n 0, 1) := by decide +kernel
theorem dX2_addHarbour_19 : decode cX2_addHarbour 19 = .ok (.getfield 24, 3) := by decide +kernel
theorem dX2_addHarbour_22 : decode cX2_addHarbour 22 = .ok (.iload_n 1, 1) := by decide +kernel
theorem dX2_addHarbour_23 : decode cX2_addHarbour 23 = .ok (.iastore, 1) := by decide +kernel
theorem dX2_addHarbour_24 : decode cX2_addHarbour 24 = .ok (.aload_n 0, 1) := by decide +kernel
theorem dX2_addHarbour_25 : decode cX2_addHarbour 25 = .ok (.getfield 15, 3) := by decide +kernel
theorem dX2_addHarbour_28 : decode cX2_addHarbour 28 = .ok (.aload_n 0, 1) := by decide +kernel
theorem dX2_addHarbour_29 : decode cX2_addHarbour 29 = .ok (.getfield 24, 3) := by decide +kernel
theorem dX2_addHarbour_32 : decode cX2_addHarbour 32 = .ok (.iconst (-1), 1) := by decide +kernel
theorem dX2_addHarbour_33 : decode cX2_addHarbour 33 = .ok (.iastore, 1) := by decide +kernel
theorem dX2_addHarbour_34 : decode cX2_addHarbour 34 = .ok (.aload_n 0, 1) := by decide +kernel
theorem dX2_addHarbour_35 : decode cX2_addHarbour 35 = .ok (.getfield 18, 3) := by decide +kernel
theorem dX2_addHarbour_38 : decode cX2_addHarbour 38 = .ok (.aload_n 0, 1) := by decide +kernel
theorem dX2_addHarbour_39 : decode cX2_addHarbour 39 = .ok (.getfield 24, 3) := by decide +kernel
theorem dX2_addHarbour_42 : decode cX2_addHarbour 42 = .ok (.iload 4, 2) := by decide +kernel
theorem dX2_addHarbour_44 : decode cX2_addHarbour 44 = .ok (.bipush 8, 2) := by decide +kernel
theorem dX2_addHarbour_46 : decode cX2_addHarbour 46 = .ok (.invokestatic 31, 3) := by decide +kernel
theorem dX2_addHarbour_49 : decode cX2_addHarbour 49 = .ok (.iastore, 1) := by decide +kernel
theorem dX2_addHarbour_50 : decode cX2_addHarbour 50 = .ok (.iconst 0, 1) := by decide +kernel
theorem dX2_addHarbour_51 : decode cX2_addHarbour 51 = .ok (.istore 5, 2) := by decide +kernel
theorem dX2_addHarbour_53 : decode cX2_addHarbour 53 = .ok (.iload 5, 2) := by decide +kernel
theorem dX2_addHarbour_55 : decode cX2_addHarbour 55 = .ok (.aload_n 0, 1) := by decide +kernel
theorem dX2_addHarbour_56 : decode cX2_addHarbour 56 = .ok (.getfield 18, 3) := by decide +kernel
theorem dX2_addHarbour_59 : decode cX2_addHarbour 59 = .ok (.aload_n 0, 1) := by decide +kernel
theorem dX2_addHarbour_60 : decode cX2_addHarbour 60 = .ok (.getfield 24, 3) := by decide +kernel
theorem dX2_addHarbour_63 : decode cX2_addHarbour 63 = .ok (.iaload, 1) := by decide +kernel
theorem dX2_addHarbour_64 : decode cX2_addHarbour 64 = .ok (.if_icmp .ge 39, 3) := by decide +kernel
theorem dX2_addHarbour_67 : decode cX2_addHarbour 67 = .ok (.iload_n 3, 1) := by decide +kernel
theorem dX2_addHarbour_68 : decode cX2_addHarbour 68 = .ok (.iload 5, 2) := by decide +kernel
theorem dX2_addHarbour_70 : decode cX2_addHarbour 70 = .ok (.iadd, 1) := by decide +kernel
theorem dX2_addHarbour_71 : decode cX2_addHarbour 71 = .ok (.aload_n 2, 1) := by decide +kernel
theorem dX2_addHarbour_72 : decode cX2_addHarbour 72 = .ok (.arraylength, 1) := by decide +kernel
theorem dX2_addHarbour_73 : decode cX2_addHarbour 73 = .ok (.if_icmp .ge 30, 3) := by decide +kernel
theorem dX2_addHarbour_76 : decode cX2_addHarbour 76 = .ok (.aload_n 0, 1) := by decide +kernel
theorem dX2_addHarbour_77 : decode cX2_addHarbour 77 = .ok (.getfield 21, 3) := by decide +kernel
theorem dX2_addHarbour_80 : decode cX2_addHarbour 80 = .ok (.aload_n 0, 1) := by decide +kernel
theorem dX2_addHarbour_81 : decode cX2_addHarbour 81 = .ok (.getfield 24, 3) := by decide +kernel
theorem dX2_addHarbour_84 : decode cX2_addHarbour 84 = .ok (.bipush 8, 2) := by decide +kernel
theorem dX2_addHarbour_86 : decode cX2_addHarbour 86 = .ok (.imul, 1) := by decide +kernel
theorem dX2_addHarbour_87 : decode cX2_addHarbour 87 = .ok (.iload 5, 2) := by decide +kernel
theorem dX2_addHarbour_89 : decode cX2_addHarbour 89 = .ok (.iadd, 1) := by decide +kernel
theorem dX2_addHarbour_90 : decode cX2_addHarbour 90 = .ok (.aload_n 2, 1) := by decide +kernel
theorem dX2_addHarbour_91 : decode cX2_addHarbour 91 = .ok (.iload_n 3, 1) := by decide +kernel
theorem dX2_addHarbour_92 : decode cX2_addHarbour 92 = .ok (.iload 5, 2) := by decide +kernel
theorem dX2_addHarbour_94 : decode cX2_addHarbour 94 = .ok (.iadd, 1) := by decide +kernel
theorem dX2_addHarbour_95 : decode cX2_addHarbour 95 = .ok (.iaload, 1) := by decide +kernel
theorem dX2_addHarbour_96 : decode cX2_addHarbour 96 = .ok (.iastore, 1) := by decide +kernel
theorem dX2_addHarbour_97 : decode cX2_addHarbour 97 = .ok (.iinc 5 1, 3) := by decide +kernel
theorem dX2_addHarbour_100 : decode cX2_addHarbour 100 = .ok (.goto (-47), 3) := by decide +kernel
theorem dX2_addHarbour_103 : decode cX2_addHarbour 103 = .ok (.aload_n 0, 1) := by decide +kernel
theorem dX2_addHarbour_104 : decode cX2_addHarbour 104 = .ok (.dup, 1) := by decide +kernel
theorem dX2_addHarbour_105 : decode cX2_addHarbour 105 = .ok (.getfield 24, 3) := by decide +kernel
theorem dX2_addHarbour_108 : decode cX2_addHarbour 108 = .ok (.iconst 1, 1) := by decide +kernel
theorem dX2_addHarbour_109 : decode cX2_addHarbour 109 = .ok (.iadd, 1) := by decide +kernel
theorem dX2_addHarbour_110 : decode cX2_addHarbour 110 = .ok (.putfield 24, 3) := by decide +kernel
theorem dX2_addHarbour_113 : decode cX2_addHarbour 113 = .ok (.return_, 1) := by decide +kernel
theorem dX2_homeOf_0 : decode cX2_homeOf 0 = .ok (.iload_n 1, 1) := by decide +kernel
theorem dX2_homeOf_1 : decode cX2_homeOf 1 = .ok (.ifCond .lt 26, 3) := by decide +kernel
theorem dX2_homeOf_4 : decode cX2_homeOf 4 = .ok (.iload_n 1, 1) := by decide +kernel
theorem dX2_homeOf_5 : decode cX2_homeOf 5 = .ok (.aload_n 0, 1) := by decide +kernel
theorem dX2_homeOf_6 : decode cX2_homeOf 6 = .ok (.getfield 24, 3) := by decide +kernel
theorem dX2_homeOf_9 : decode cX2_homeOf 9 = .ok (.if_icmp .ge 18, 3) := by decide +kernel
theorem dX2_homeOf_12 : decode cX2_homeOf 12 = .ok (.iload_n 1, 1) := by decide +kernel
theorem dX2_homeOf_13 : decode cX2_homeOf 13 = .ok (.bipush 8, 2) := by decide +kernel
theorem dX2_homeOf_15 : decode cX2_homeOf 15 = .ok (.if_icmp .ge 12, 3) := by decide +kernel
theorem dX2_homeOf_18 : decode cX2_homeOf 18 = .ok (.aload_n 0, 1) := by decide +kernel
theorem dX2_homeOf_19 : decode cX2_homeOf 19 = .ok (.getfield 9, 3) := by decide +kernel
theorem dX2_homeOf_22 : decode cX2_homeOf 22 = .ok (.iload_n 1, 1) := by decide +kernel
theorem dX2_homeOf_23 : decode cX2_homeOf 23 = .ok (.iaload, 1) := by decide +kernel
theorem dX2_homeOf_24 : decode cX2_homeOf 24 = .ok (.goto 4, 3) := by decide +kernel
theorem dX2_homeOf_27 : decode cX2_homeOf 27 = .ok (.iconst (-1), 1) := by decide +kernel
theorem dX2_homeOf_28 : decode cX2_homeOf 28 = .ok (.ireturn, 1) := by decide +kernel
theorem dX2_directionOf_0 : decode cX2_directionOf 0 = .ok (.iload_n 1, 1) := by decide +kernel
theorem dX2_directionOf_1 : decode cX2_directionOf 1 = .ok (.ifCond .lt 26, 3) := by decide +kernel
theorem dX2_directionOf_4 : decode cX2_directionOf 4 = .ok (.iload_n 1, 1) := by decide +kernel
theorem dX2_directionOf_5 : decode cX2_directionOf 5 = .ok (.aload_n 0, 1) := by decide +kernel
theorem dX2_directionOf_6 : decode cX2_directionOf 6 = .ok (.getfield 24, 3) := by decide +kernel
theorem dX2_directionOf_9 : decode cX2_directionOf 9 = .ok (.if_icmp .ge 18, 3) := by decide +kernel
theorem dX2_directionOf_12 : decode cX2_directionOf 12 = .ok (.iload_n 1, 1) := by decide +kernel
theorem dX2_directionOf_13 : decode cX2_directionOf 13 = .ok (.bipush 8, 2) := by decide +kernel
theorem dX2_directionOf_15 : decode cX2_directionOf 15 = .ok (.if_icmp .ge 12, 3) := by decide +kernel
theorem dX2_directionOf_18 : decode cX2_directionOf 18 = .ok (.aload_n 0, 1) := by decide +kernel
theorem dX2_directionOf_19 : decode cX2_directionOf 19 = .ok (.getfield 15, 3) := by decide +kernel
theorem dX2_directionOf_22 : decode cX2_directionOf 22 = .ok (.iload_n 1, 1) := by decide +kernel
theorem dX2_directionOf_23 : decode cX2_directionOf 23 = .ok (.iaload, 1) := by decide +kernel
theorem dX2_directionOf_24 : decode cX2_directionOf 24 = .ok (.goto 4, 3) := by decide +kernel
theorem dX2_directionOf_27 : decode cX2_directionOf 27 = .ok (.iconst (-1), 1) := by decide +kernel
theorem dX2_directionOf_28 : decode cX2_directionOf 28 = .ok (.ireturn, 1) := by decide +kernel
theorem dX2_setDirection_0 : decode cX2_setDirection 0 = .ok (.iload_n 1, 1) := by decide +kernel
theorem dX2_setDirection_1 : decode cX2_setDirection 1 = .ok (.ifCond .lt 24, 3) := by decide +kernel
theorem dX2_setDirection_4 : decode cX2_setDirection 4 = .ok (.iload_n 1, 1) := by decide +kernel
theorem dX2_setDirection_5 : decode cX2_setDirection 5 = .ok (.aload_n 0, 1) := by decide +kernel
theorem dX2_setDirection_6 : decode cX2_setDirection 6 = .ok (.getfield 24, 3) := by decide +kernel
theorem dX2_setDirection_9 : decode cX2_setDirection 9 = .ok (.if_icmp .ge 16, 3) := by decide +kernel
theorem dX2_setDirection_12 : decode cX2_setDirection 12 = .ok (.iload_n 1, 1) := by decide +kernel
theorem dX2_setDirection_13 : decode cX2_setDirection 13 = .ok (.bipush 8, 2) := by decide +kernel
theorem dX2_setDirection_15 : decode cX2_setDirection 15 = .ok (.if_icmp .ge 10, 3) := by decide +kernel
theorem dX2_setDirection_18 : decode cX2_setDirection 18 = .ok (.aload_n 0, 1) := by decide +kernel
theorem dX2_setDirection_19 : decode cX2_setDirection 19 = .ok (.getfield 15, 3) := by decide +kernel
theorem dX2_setDirection_22 : decode cX2_setDirection 22 = .ok (.iload_n 1, 1) := by decide +kernel
theorem dX2_setDirection_23 : decode cX2_setDirection 23 = .ok (.iload_n 2, 1) := by decide +kernel
theorem dX2_setDirection_24 : decode cX2_setDirection 24 = .ok (.iastore, 1) := by decide +kernel
theorem dX2_setDirection_25 : decode cX2_setDirection 25 = .ok (.return_, 1) := by decide +kernel
theorem dX2_lengthOf_0 : decode cX2_lengthOf 0 = .ok (.iload_n 1, 1) := by decide +kernel
theorem dX2_lengthOf_1 : decode cX2_lengthOf 1 = .ok (.ifCond .lt 26, 3) := by decide +kernel
theorem dX2_lengthOf_4 : decode cX2_lengthOf 4 = .ok (.iload_n 1, 1) := by decide +kernel
theorem dX2_lengthOf_5 : decode cX2_lengthOf 5 = .ok (.aload_n 0, 1) := by decide +kernel
theorem dX2_lengthOf_6 : decode cX2_lengthOf 6 = .ok (.getfield 24, 3) := by decide +kernel
theorem dX2_lengthOf_9 : decode cX2_lengthOf 9 = .ok (.if_icmp .ge 18, 3) := by decide +kernel
theorem dX2_lengthOf_12 : decode cX2_lengthOf 12 = .ok (.iload_n 1, 1) := by decide +kernel
theorem dX2_lengthOf_13 : decode cX2_lengthOf 13 = .ok (.bipush 8, 2) := by decide +kernel
theorem dX2_lengthOf_15 : decode cX2_lengthOf 15 = .ok (.if_icmp .ge 12, 3) := by decide +kernel
theorem dX2_lengthOf_18 : decode cX2_lengthOf 18 = .ok (.aload_n 0, 1) := by decide +kernel
theorem dX2_lengthOf_19 : decode cX2_lengthOf 19 = .ok (.getfield 18, 3) := by decide +kernel
theorem dX2_lengthOf_22 : decode cX2_lengthOf 22 = .ok (.iload_n 1, 1) := by decide +kernel
theorem dX2_lengthOf_23 : decode cX2_lengthOf 23 = .ok (.iaload, 1) := by decide +kernel
theorem dX2_lengthOf_24 : decode cX2_lengthOf 24 = .ok (.goto 4, 3) := by decide +kernel
theorem dX2_lengthOf_27 : decode cX2_lengthOf 27 = .ok (.iconst 0, 1) := by decide +kernel
theorem dX2_lengthOf_28 : decode cX2_lengthOf 28 = .ok (.ireturn, 1) := by decide +kernel
theorem dX2_letterOf_0 : decode cX2_letterOf 0 = .ok (.iload_n 2, 1) := by decide +kernel
theorem dX2_letterOf_1 : decode cX2_letterOf 1 = .ok (.ifCond .lt 22, 3) := by decide +kernel
theorem dX2_letterOf_4 : decode cX2_letterOf 4 = .ok (.iload_n 2, 1) := by decide +kernel
theorem dX2_letterOf_5 : decode cX2_letterOf 5 = .ok (.aload_n 0, 1) := by decide +kernel
theorem dX2_letterOf_6 : decode cX2_letterOf 6 = .ok (.iload_n 1, 1) := by decide +kernel
theorem dX2_letterOf_7 : decode cX2_letterOf 7 = .ok (.invokevirtual 37, 3) := by decide +kernel
theorem dX2_letterOf_10 : decode cX2_letterOf 10 = .ok (.if_icmp .ge 13, 3) := by decide +kernel
theorem dX2_letterOf_13 : decode cX2_letterOf 13 = .ok (.iload_n 2, 1) := by decide +kernel
theorem dX2_letterOf_14 : decode cX2_letterOf 14 = .ok (.bipush 8, 2) := by decide +kernel
theorem dX2_letterOf_16 : decode cX2_letterOf 16 = .ok (.if_icmp .ge 7, 3) := by decide +kernel
theorem dX2_letterOf_19 : decode cX2_letterOf 19 = .ok (.iconst 1, 1) := by decide +kernel
theorem dX2_letterOf_20 : decode cX2_letterOf 20 = .ok (.goto 4, 3) := by decide +kernel
theorem dX2_letterOf_23 : decode cX2_letterOf 23 = .ok (.iconst 0, 1) := by decide +kernel
theorem dX2_letterOf_24 : decode cX2_letterOf 24 = .ok (.istore_n 3, 1) := by decide +kernel
theorem dX2_letterOf_25 : decode cX2_letterOf 25 = .ok (.iload_n 3, 1) := by decide +kernel
theorem dX2_letterOf_26 : decode cX2_letterOf 26 = .ok (.ifCond .eq 17, 3) := by decide +kernel
theorem dX2_letterOf_29 : decode cX2_letterOf 29 = .ok (.aload_n 0, 1) := by decide +kernel
theorem dX2_letterOf_30 : decode cX2_letterOf 30 = .ok (.getfield 21, 3) := by decide +kernel
theorem dX2_letterOf_33 : decode cX2_letterOf 33 = .ok (.iload_n 1, 1) := by decide +kernel
theorem dX2_letterOf_34 : decode cX2_letterOf 34 = .ok (.bipush 8, 2) := by decide +kernel
theorem dX2_letterOf_36 : decode cX2_letterOf 36 = .ok (.imul, 1) := by decide +kernel
theorem dX2_letterOf_37 : decode cX2_letterOf 37 = .ok (.iload_n 2, 1) := by decide +kernel
theorem dX2_letterOf_38 : decode cX2_letterOf 38 = .ok (.iadd, 1) := by decide +kernel
theorem dX2_letterOf_39 : decode cX2_letterOf 39 = .ok (.iaload, 1) := by decide +kernel
theorem dX2_letterOf_40 : decode cX2_letterOf 40 = .ok (.goto 4, 3) := by decide +kernel
theorem dX2_letterOf_43 : decode cX2_letterOf 43 = .ok (.iconst (-1), 1) := by decide +kernel
theorem dX2_letterOf_44 : decode cX2_letterOf 44 = .ok (.ireturn, 1) := by decide +kernel
theorem dX2_isRed_0 : decode cX2_isRed 0 = .ok (.aload_n 0, 1) := by decide +kernel
theorem dX2_isRed_1 : decode cX2_isRed 1 = .ok (.getfield 28, 3) := by decide +kernel
theorem dX2_isRed_4 : decode cX2_isRed 4 = .ok (.iload_n 1, 1) := by decide +kernel
theorem dX2_isRed_5 : decode cX2_isRed 5 = .ok (.ishr, 1) := by decide +kernel
theorem dX2_isRed_6 : decode cX2_isRed 6 = .ok (.iconst 1, 1) := by decide +kernel
theorem dX2_isRed_7 : decode cX2_isRed 7 = .ok (.iand, 1) := by decide +kernel
theorem dX2_isRed_8 : decode cX2_isRed 8 = .ok (.iconst 1, 1) := by decide +kernel
theorem dX2_isRed_9 : decode cX2_isRed 9 = .ok (.if_icmp .ne 7, 3) := by decide +kernel
theorem dX2_isRed_12 : decode cX2_isRed 12 = .ok (.iconst 1, 1) := by decide +kernel
theorem dX2_isRed_13 : decode cX2_isRed 13 = .ok (.goto 4, 3) := by decide +kernel
theorem dX2_isRed_16 : decode cX2_isRed 16 = .ok (.iconst 0, 1) := by decide +kernel
theorem dX2_isRed_17 : decode cX2_isRed 17 = .ok (.ireturn, 1) := by decide +kernel
theorem dX2_redsIf_0 : decode cX2_redsIf 0 = .ok (.iconst 1, 1) := by decide +kernel
theorem dX2_redsIf_1 : decode cX2_redsIf 1 = .ok (.iload_n 1, 1) := by decide +kernel
theorem dX2_redsIf_2 : decode cX2_redsIf 2 = .ok (.ishl, 1) := by decide +kernel
theorem dX2_redsIf_3 : decode cX2_redsIf 3 = .ok (.istore_n 3, 1) := by decide +kernel
theorem dX2_redsIf_4 : decode cX2_redsIf 4 = .ok (.iload_n 2, 1) := by decide +kernel
theorem dX2_redsIf_5 : decode cX2_redsIf 5 = .ok (.ifCond .eq 12, 3) := by decide +kernel
theorem dX2_redsIf_8 : decode cX2_redsIf 8 = .ok (.aload_n 0, 1) := by decide +kernel
theorem dX2_redsIf_9 : decode cX2_redsIf 9 = .ok (.getfield 28, 3) := by decide +kernel
theorem dX2_redsIf_12 : decode cX2_redsIf 12 = .ok (.iload_n 3, 1) := by decide +kernel
theorem dX2_redsIf_13 : decode cX2_redsIf 13 = .ok (.ior, 1) := by decide +kernel
theorem dX2_redsIf_14 : decode cX2_redsIf 14 = .ok (.goto 11, 3) := by decide +kernel
theorem dX2_redsIf_17 : decode cX2_redsIf 17 = .ok (.aload_n 0, 1) := by decide +kernel
theorem dX2_redsIf_18 : decode cX2_redsIf 18 = .ok (.getfield 28, 3) := by decide +kernel
theorem dX2_redsIf_21 : decode cX2_redsIf 21 = .ok (.iload_n 3, 1) := by decide +kernel
theorem dX2_redsIf_22 : decode cX2_redsIf 22 = .ok (.iconst (-1), 1) := by decide +kernel
theorem dX2_redsIf_23 : decode cX2_redsIf 23 = .ok (.ixor, 1) := by decide +kernel
theorem dX2_redsIf_24 : decode cX2_redsIf 24 = .ok (.iand, 1) := by decide +kernel
theorem dX2_redsIf_25 : decode cX2_redsIf 25 = .ok (.ireturn, 1) := by decide +kernel
theorem dX2_inCell_0 : decode cX2_inCell 0 = .ok (.iconst 0, 1) := by decide +kernel
theorem dX2_inCell_1 : decode cX2_inCell 1 = .ok (.istore_n 2, 1) := by decide +kernel
theorem dX2_inCell_2 : decode cX2_inCell 2 = .ok (.iload_n 2, 1) := by decide +kernel
theorem dX2_inCell_3 : decode cX2_inCell 3 = .ok (.aload_n 0, 1) := by decide +kernel
theorem dX2_inCell_4 : decode cX2_inCell 4 = .ok (.getfield 24, 3) := by decide +kernel
theorem dX2_inCell_7 : decode cX2_inCell 7 = .ok (.if_icmp .ge 27, 3) := by decide +kernel
theorem dX2_inCell_10 : decode cX2_inCell 10 = .ok (.iload_n 2, 1) := by decide +kernel
theorem dX2_inCell_11 : decode cX2_inCell 11 = .ok (.bipush 8, 2) := by decide +kernel
theorem dX2_inCell_13 : decode cX2_inCell 13 = .ok (.if_icmp .ge 21, 3) := by decide +kernel
theorem dX2_inCell_16 : decode cX2_inCell 16 = .ok (.aload_n 0, 1) := by decide +kernel
theorem dX2_inCell_17 : decode cX2_inCell 17 = .ok (.getfield 9, 3) := by decide +kernel
theorem dX2_inCell_20 : decode cX2_inCell 20 = .ok (.iload_n 2, 1) := by decide +kernel
theorem dX2_inCell_21 : decode cX2_inCell 21 = .ok (.iaload, 1) := by decide +kernel
theorem dX2_inCell_22 : decode cX2_inCell 22 = .ok (.iload_n 1, 1) := by decide +kernel
theorem dX2_inCell_23 : decode cX2_inCell 23 = .ok (.if_icmp .ne 5, 3) := by decide +kernel
theorem dX2_inCell_26 : decode cX2_inCell 26 = .ok (.iload_n 2, 1) := by decide +kernel
theorem dX2_inCell_27 : decode cX2_inCell 27 = .ok (.ireturn, 1) := by decide +kernel
theorem dX2_inCell_28 : decode cX2_inCell 28 = .ok (.iinc 2 1, 3) := by decide +kernel
theorem dX2_inCell_31 : decode cX2_inCell 31 = .ok (.goto (-29), 3) := by decide +kernel
theorem dX2_inCell_34 : decode cX2_inCell 34 = .ok (.iconst (-1), 1) := by decide +kernel
theorem dX2_inCell_35 : decode cX2_inCell 35 = .ok (.ireturn, 1) := by decide +kernel
theorem dX2_placedNames_0 : decode cX2_placedNames 0 = .ok (.iconst 0, 1) := by decide +kernel
theorem dX2_placedNames_1 : decode cX2_placedNames 1 = .ok (.istore_n 1, 1) := by decide +kernel
theorem dX2_placedNames_2 : decode cX2_placedNames 2 = .ok (.iconst 0, 1) := by decide +kernel
theorem dX2_placedNames_3 : decode cX2_placedNames 3 = .ok (.istore_n 2, 1) := by decide +kernel
theorem dX2_placedNames_4 : decode cX2_placedNames 4 = .ok (.iload_n 2, 1) := by decide +kernel
theorem dX2_placedNames_5 : decode cX2_placedNames 5 = .ok (.aload_n 0, 1) := by decide +kernel
theorem dX2_placedNames_6 : decode cX2_placedNames 6 = .ok (.getfield 24, 3) := by decide +kernel
theorem dX2_placedNames_9 : decode cX2_placedNames 9 = .ok (.if_icmp .ge 24, 3) := by decide +kernel
theorem dX2_placedNames_12 : decode cX2_placedNames 12 = .ok (.aload_n 0, 1) := by decide +kernel
theorem dX2_placedNames_13 : decode cX2_placedNames 13 = .ok (.iload_n 2, 1) := by decide +kernel
theorem dX2_placedNames_14 : decode cX2_placedNames 14 = .ok (.invokevirtual 41, 3) := by decide +kernel
theorem dX2_placedNames_17 : decode cX2_placedNames 17 = .ok (.iconst (-1), 1) := by decide +kernel
theorem dX2_placedNames_18 : decode cX2_placedNames 18 = .ok (.if_icmp .eq 9, 3) := by decide +kernel
theorem dX2_placedNames_21 : decode cX2_placedNames 21 = .ok (.iload_n 1, 1) := by decide +kernel
theorem dX2_placedNames_22 : decode cX2_placedNames 22 = .ok (.iconst 1, 1) := by decide +kernel
theorem dX2_placedNames_23 : decode cX2_placedNames 23 = .ok (.iload_n 2, 1) := by decide +kernel
theorem dX2_placedNames_24 : decode cX2_placedNames 24 = .ok (.ishl, 1) := by decide +kernel
theorem dX2_placedNames_25 : decode cX2_placedNames 25 = .ok (.ior, 1) := by decide +kernel
theorem dX2_placedNames_26 : decode cX2_placedNames 26 = .ok (.istore_n 1, 1) := by decide +kernel
theorem dX2_placedNames_27 : decode cX2_placedNames 27 = .ok (.iinc 2 1, 3) := by decide +kernel
theorem dX2_placedNames_30 : decode cX2_placedNames 30 = .ok (.goto (-26), 3) := by decide +kernel
theorem dX2_placedNames_33 : decode cX2_placedNames 33 = .ok (.iload_n 1, 1) := by decide +kernel
theorem dX2_placedNames_34 : decode cX2_placedNames 34 = .ok (.ireturn, 1) := by decide +kernel
