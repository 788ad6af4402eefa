theorem dX0_init_0 : decode cX0_init 0 = .ok (.aload_n 0, 1) := by decide +kernel
theorem dX0_init_1 : decode cX0_init 1 = .ok (.invokespecial 3, 3) := by decide +kernel
theorem dX0_init_4 : decode cX0_init 4 = .ok (.aload_n 0, 1) := by decide +kernel
theorem dX0_init_5 : decode cX0_init 5 = .ok (.bipush 8, 2) := by decide +kernel
theorem dX0_init_7 : decode cX0_init 7 = .ok (.newarray .int, 2) := by decide +kernel
theorem dX0_init_9 : decode cX0_init 9 = .ok (.putfield 9, 3) := by decide +kernel
theorem dX0_init_12 : decode cX0_init 12 = .ok (.aload_n 0, 1) := by decide +kernel
theorem dX0_init_13 : decode cX0_init 13 = .ok (.bipush 32, 2) := by decide +kernel
theorem dX0_init_15 : decode cX0_init 15 = .ok (.newarray .int, 2) := by decide +kernel
theorem dX0_init_17 : decode cX0_init 17 = .ok (.putfield 15, 3) := by decide +kernel
theorem dX0_init_20 : decode cX0_init 20 = .ok (.aload_n 0, 1) := by decide +kernel
theorem dX0_init_21 : decode cX0_init 21 = .ok (.bipush 9, 2) := by decide +kernel
theorem dX0_init_23 : decode cX0_init 23 = .ok (.newarray .int, 2) := by decide +kernel
theorem dX0_init_25 : decode cX0_init 25 = .ok (.putfield 18, 3) := by decide +kernel
theorem dX0_init_28 : decode cX0_init 28 = .ok (.aload_n 0, 1) := by decide +kernel
theorem dX0_init_29 : decode cX0_init 29 = .ok (.bipush 9, 2) := by decide +kernel
theorem dX0_init_31 : decode cX0_init 31 = .ok (.newarray .int, 2) := by decide +kernel
theorem dX0_init_33 : decode cX0_init 33 = .ok (.putfield 21, 3) := by decide +kernel
theorem dX0_init_36 : decode cX0_init 36 = .ok (.aload_n 0, 1) := by decide +kernel
theorem dX0_init_37 : decode cX0_init 37 = .ok (.bipush 8, 2) := by decide +kernel
theorem dX0_init_39 : decode cX0_init 39 = .ok (.newarray .int, 2) := by decide +kernel
theorem dX0_init_41 : decode cX0_init 41 = .ok (.putfield 24, 3) := by decide +kernel
theorem dX0_init_44 : decode cX0_init 44 = .ok (.aload_n 0, 1) := by decide +kernel
theorem dX0_init_45 : decode cX0_init 45 = .ok (.bipush 8, 2) := by decide +kernel
theorem dX0_init_47 : decode cX0_init 47 = .ok (.newarray .int, 2) := by decide +kernel
theorem dX0_init_49 : decode cX0_init 49 = .ok (.putfield 27, 3) := by decide +kernel
theorem dX0_init_52 : decode cX0_init 52 = .ok (.return_, 1) := by decide +kernel
theorem dX0_findBest_0 : decode cX0_findBest 0 = .ok (.aload_n 0, 1) := by decide +kernel
theorem dX0_findBest_1 : decode cX0_findBest 1 = .ok (.iload_n 3, 1) := by decide +kernel
theorem dX0_findBest_2 : decode cX0_findBest 2 = .ok (.putfield 30, 3) := by decide +kernel
theorem dX0_findBest_5 : decode cX0_findBest 5 = .ok (.aload_n 0, 1) := by decide +kernel
theorem dX0_findBest_6 : decode cX0_findBest 6 = .ok (.iconst (-1), 1) := by decide +kernel
theorem dX0_findBest_7 : decode cX0_findBest 7 = .ok (.putfield 34, 3) := by decide +kernel
theorem dX0_findBest_10 : decode cX0_findBest 10 = .ok (.aload_n 0, 1) := by decide +kernel
theorem dX0_findBest_11 : decode cX0_findBest 11 = .ok (.iconst (-1), 1) := by decide +kernel
theorem dX0_findBest_12 : decode cX0_findBest 12 = .ok (.putfield 37, 3) := by decide +kernel
theorem dX0_findBest_15 : decode cX0_findBest 15 = .ok (.aload_n 0, 1) := by decide +kernel
theorem dX0_findBest_16 : decode cX0_findBest 16 = .ok (.iconst 0, 1) := by decide +kernel
theorem dX0_findBest_17 : decode cX0_findBest 17 = .ok (.putfield 40, 3) := by decide +kernel
theorem dX0_findBest_20 : decode cX0_findBest 20 = .ok (.iconst 0, 1) := by decide +kernel
theorem dX0_findBest_21 : decode cX0_findBest 21 = .ok (.istore 4, 2) := by decide +kernel
theorem dX0_findBest_23 : decode cX0_findBest 23 = .ok (.iload 4, 2) := by decide +kernel
theorem dX0_findBest_25 : decode cX0_findBest 25 = .ok (.bipush 8, 2) := by decide +kernel
theorem dX0_findBest_27 : decode cX0_findBest 27 = .ok (.if_icmp .ge 50, 3) := by decide +kernel
theorem dX0_findBest_30 : decode cX0_findBest 30 = .ok (.aload_n 0, 1) := by decide +kernel
theorem dX0_findBest_31 : decode cX0_findBest 31 = .ok (.getfield 24, 3) := by decide +kernel
theorem dX0_findBest_34 : decode cX0_findBest 34 = .ok (.iload 4, 2) := by decide +kernel
theorem dX0_findBest_36 : decode cX0_findBest 36 = .ok (.iconst (-1), 1) := by decide +kernel
theorem dX0_findBest_37 : decode cX0_findBest 37 = .ok (.iastore, 1) := by decide +kernel
theorem dX0_findBest_38 : decode cX0_findBest 38 = .ok (.aload_n 0, 1) := by decide +kernel
theorem dX0_findBest_39 : decode cX0_findBest 39 = .ok (.getfield 27, 3) := by decide +kernel
theorem dX0_findBest_42 : decode cX0_findBest 42 = .ok (.iload 4, 2) := by decide +kernel
theorem dX0_findBest_44 : decode cX0_findBest 44 = .ok (.iconst (-1), 1) := by decide +kernel
theorem dX0_findBest_45 : decode cX0_findBest 45 = .ok (.iastore, 1) := by decide +kernel
theorem dX0_findBest_46 : decode cX0_findBest 46 = .ok (.aload_n 0, 1) := by decide +kernel
theorem dX0_findBest_47 : decode cX0_findBest 47 = .ok (.getfield 9, 3) := by decide +kernel
theorem dX0_findBest_50 : decode cX0_findBest 50 = .ok (.iload 4, 2) := by decide +kernel
theorem dX0_findBest_52 : decode cX0_findBest 52 = .ok (.iload 4, 2) := by decide +kernel
theorem dX0_findBest_54 : decode cX0_findBest 54 = .ok (.iload_n 2, 1) := by decide +kernel
theorem dX0_findBest_55 : decode cX0_findBest 55 = .ok (.if_icmp .ne 7, 3) := by decide +kernel
theorem dX0_findBest_58 : decode cX0_findBest 58 = .ok (.iconst 0, 1) := by decide +kernel
theorem dX0_findBest_59 : decode cX0_findBest 59 = .ok (.goto 11, 3) := by decide +kernel
theorem dX0_findBest_62 : decode cX0_findBest 62 = .ok (.aload_n 0, 1) := by decide +kernel
theorem dX0_findBest_63 : decode cX0_findBest 63 = .ok (.aload_n 1, 1) := by decide +kernel
theorem dX0_findBest_64 : decode cX0_findBest 64 = .ok (.iload 4, 2) := by decide +kernel
theorem dX0_findBest_66 : decode cX0_findBest 66 = .ok (.iload_n 2, 1) := by decide +kernel
theorem dX0_findBest_67 : decode cX0_findBest 67 = .ok (.invokevirtual 43, 3) := by decide +kernel
theorem dX0_findBest_70 : decode cX0_findBest 70 = .ok (.iastore, 1) := by decide +kernel
theorem dX0_findBest_71 : decode cX0_findBest 71 = .ok (.iinc 4 1, 3) := by decide +kernel
theorem dX0_findBest_74 : decode cX0_findBest 74 = .ok (.goto (-51), 3) := by decide +kernel
theorem dX0_findBest_77 : decode cX0_findBest 77 = .ok (.aload_n 0, 1) := by decide +kernel
theorem dX0_findBest_78 : decode cX0_findBest 78 = .ok (.invokevirtual 47, 3) := by decide +kernel
theorem dX0_findBest_81 : decode cX0_findBest 81 = .ok (.iconst 0, 1) := by decide +kernel
theorem dX0_findBest_82 : decode cX0_findBest 82 = .ok (.istore 4, 2) := by decide +kernel
theorem dX0_findBest_84 : decode cX0_findBest 84 = .ok (.iload 4, 2) := by decide +kernel
theorem dX0_findBest_86 : decode cX0_findBest 86 = .ok (.aload_n 0, 1) := by decide +kernel
theorem dX0_findBest_87 : decode cX0_findBest 87 = .ok (.getfield 15, 3) := by decide +kernel
theorem dX0_findBest_90 : decode cX0_findBest 90 = .ok (.arraylength, 1) := by decide +kernel
theorem dX0_findBest_91 : decode cX0_findBest 91 = .ok (.if_icmp .ge 36, 3) := by decide +kernel
theorem dX0_findBest_94 : decode cX0_findBest 94 = .ok (.aload_n 0, 1) := by decide +kernel
theorem dX0_findBest_95 : decode cX0_findBest 95 = .ok (.getfield 15, 3) := by decide +kernel
theorem dX0_findBest_98 : decode cX0_findBest 98 = .ok (.iload 4, 2) := by decide +kernel
theorem dX0_findBest_100 : decode cX0_findBest 100 = .ok (.aload_n 0, 1) := by decide +kernel
theorem dX0_findBest_101 : decode cX0_findBest 101 = .ok (.iload 4, 2) := by decide +kernel
theorem dX0_findBest_103 : decode cX0_findBest 103 = .ok (.invokevirtual 50, 3) := by decide +kernel
theorem dX0_findBest_106 : decode cX0_findBest 106 = .ok (.ifCond .eq 13, 3) := by decide +kernel
theorem dX0_findBest_109 : decode cX0_findBest 109 = .ok (.aload_n 0, 1) := by decide +kernel
theorem dX0_findBest_110 : decode cX0_findBest 110 = .ok (.aload_n 1, 1) := by decide +kernel
theorem dX0_findBest_111 : decode cX0_findBest 111 = .ok (.iload 4, 2) := by decide +kernel
theorem dX0_findBest_113 : decode cX0_findBest 113 = .ok (.invokevirtual 54, 3) := by decide +kernel
theorem dX0_findBest_116 : decode cX0_findBest 116 = .ok (.goto 4, 3) := by decide +kernel
theorem dX0_findBest_119 : decode cX0_findBest 119 = .ok (.iconst 0, 1) := by decide +kernel
theorem dX0_findBest_120 : decode cX0_findBest 120 = .ok (.iastore, 1) := by decide +kernel
theorem dX0_findBest_121 : decode cX0_findBest 121 = .ok (.iinc 4 1, 3) := by decide +kernel
theorem dX0_findBest_124 : decode cX0_findBest 124 = .ok (.goto (-40), 3) := by decide +kernel
theorem dX0_findBest_127 : decode cX0_findBest 127 = .ok (.aload_n 0, 1) := by decide +kernel
theorem dX0_findBest_128 : decode cX0_findBest 128 = .ok (.aload_n 1, 1) := by decide +kernel
theorem dX0_findBest_129 : decode cX0_findBest 129 = .ok (.iconst 0, 1) := by decide +kernel
theorem dX0_findBest_130 : decode cX0_findBest 130 = .ok (.iconst 0, 1) := by decide +kernel
theorem dX0_findBest_131 : decode cX0_findBest 131 = .ok (.iconst 0, 1) := by decide +kernel
theorem dX0_findBest_132 : decode cX0_findBest 132 = .ok (.iconst 0, 1) := by decide +kernel
theorem dX0_findBest_133 : decode cX0_findBest 133 = .ok (.invokevirtual 58, 3) := by decide +kernel
theorem dX0_findBest_136 : decode cX0_findBest 136 = .ok (.return_, 1) := by decide +kernel
theorem dX0_bestDirection_0 : decode cX0_bestDirection 0 = .ok (.iload_n 1, 1) := by decide +kernel
theorem dX0_bestDirection_1 : decode cX0_bestDirection 1 = .ok (.ifCond .lt 18, 3) := by decide +kernel
theorem dX0_bestDirection_4 : decode cX0_bestDirection 4 = .ok (.iload_n 1, 1) := by decide +kernel
theorem dX0_bestDirection_5 : decode cX0_bestDirection 5 = .ok (.bipush 8, 2) := by decide +kernel
theorem dX0_bestDirection_7 : decode cX0_bestDirection 7 = .ok (.if_icmp .ge 12, 3) := by decide +kernel
theorem dX0_bestDirection_10 : decode cX0_bestDirection 10 = .ok (.aload_n 0, 1) := by decide +kernel
theorem dX0_bestDirection_11 : decode cX0_bestDirection 11 = .ok (.getfield 27, 3) := by decide +kernel
theorem dX0_bestDirection_14 : decode cX0_bestDirection 14 = .ok (.iload_n 1, 1) := by decide +kernel
theorem dX0_bestDirection_15 : decode cX0_bestDirection 15 = .ok (.iaload, 1) := by decide +kernel
theorem dX0_bestDirection_16 : decode cX0_bestDirection 16 = .ok (.goto 4, 3) := by decide +kernel
theorem dX0_bestDirection_19 : decode cX0_bestDirection 19 = .ok (.iconst (-1), 1) := by decide +kernel
theorem dX0_bestDirection_20 : decode cX0_bestDirection 20 = .ok (.ireturn, 1) := by decide +kernel
theorem dX0_groundWays_0 : decode cX0_groundWays 0 = .ok (.iconst 0, 1) := by decide +kernel
theorem dX0_groundWays_1 : decode cX0_groundWays 1 = .ok (.istore 4, 2) := by decide +kernel
theorem dX0_groundWays_3 : decode cX0_groundWays 3 = .ok (.iconst 0, 1) := by decide +kernel
theorem dX0_groundWays_4 : decode cX0_groundWays 4 = .ok (.istore 5, 2) := by decide +kernel
theorem dX0_groundWays_6 : decode cX0_groundWays 6 = .ok (.iload 5, 2) := by decide +kernel
theorem dX0_groundWays_8 : decode cX0_groundWays 8 = .ok (.iconst 4, 1) := by decide +kernel
theorem dX0_groundWays_9 : decode cX0_groundWays 9 = .ok (.if_icmp .ge 40, 3) := by decide +kernel
theorem dX0_groundWays_12 : decode cX0_groundWays 12 = .ok (.iload_n 2, 1) := by decide +kernel
theorem dX0_groundWays_13 : decode cX0_groundWays 13 = .ok (.aload_n 1, 1) := by decide +kernel
theorem dX0_groundWays_14 : decode cX0_groundWays 14 = .ok (.getfield 62, 3) := by decide +kernel
theorem dX0_groundWays_17 : decode cX0_groundWays 17 = .ok (.getfield 68, 3) := by decide +kernel
theorem dX0_groundWays_20 : decode cX0_groundWays 20 = .ok (.if_icmp .ge 29, 3) := by decide +kernel
theorem dX0_groundWays_23 : decode cX0_groundWays 23 = .ok (.aload_n 1, 1) := by decide +kernel
theorem dX0_groundWays_24 : decode cX0_groundWays 24 = .ok (.iload_n 2, 1) := by decide +kernel
theorem dX0_groundWays_25 : decode cX0_groundWays 25 = .ok (.iload 5, 2) := by decide +kernel
theorem dX0_groundWays_27 : decode cX0_groundWays 27 = .ok (.iload_n 3, 1) := by decide +kernel
theorem dX0_groundWays_28 : decode cX0_groundWays 28 = .ok (.invokevirtual 73, 3) := by decide +kernel
theorem dX0_groundWays_31 : decode cX0_groundWays 31 = .ok (.ifCond .ne 12, 3) := by decide +kernel
theorem dX0_groundWays_34 : decode cX0_groundWays 34 = .ok (.iload 4, 2) := by decide +kernel
theorem dX0_groundWays_36 : decode cX0_groundWays 36 = .ok (.iconst 1, 1) := by decide +kernel
theorem dX0_groundWays_37 : decode cX0_groundWays 37 = .ok (.iload 5, 2) := by decide +kernel
theorem dX0_groundWays_39 : decode cX0_groundWays 39 = .ok (.ishl, 1) := by decide +kernel
theorem dX0_groundWays_40 : decode cX0_groundWays 40 = .ok (.ior, 1) := by decide +kernel
theorem dX0_groundWays_41 : decode cX0_groundWays 41 = .ok (.istore 4, 2) := by decide +kernel
theorem dX0_groundWays_43 : decode cX0_groundWays 43 = .ok (.iinc 5 1, 3) := by decide +kernel
theorem dX0_groundWays_46 : decode cX0_groundWays 46 = .ok (.goto (-40), 3) := by decide +kernel
theorem dX0_groundWays_49 : decode cX0_groundWays 49 = .ok (.iload 4, 2) := by decide +kernel
theorem dX0_groundWays_51 : decode cX0_groundWays 51 = .ok (.ireturn, 1) := by decide +kernel
theorem dX0_countLeft_0 : decode cX0_countLeft 0 = .ok (.aload_n 0, 1) := by decide +kernel
theorem dX0_countLeft_1 : decode cX0_countLeft 1 = .ok (.getfield 18, 3) := by decide +kernel
theorem dX0_countLeft_4 : decode cX0_countLeft 4 = .ok (.bipush 8, 2) := by decide +kernel
theorem dX0_countLeft_6 : decode cX0_countLeft 6 = .ok (.iconst 0, 1) := by decide +kernel
theorem dX0_countLeft_7 : decode cX0_countLeft 7 = .ok (.iastore, 1) := by decide +kernel
theorem dX0_countLeft_8 : decode cX0_countLeft 8 = .ok (.aload_n 0, 1) := by decide +kernel
theorem dX0_countLeft_9 : decode cX0_countLeft 9 = .ok (.getfield 21, 3) := by decide +kernel
theorem dX0_countLeft_12 : decode cX0_countLeft 12 = .ok (.bipush 8, 2) := by decide +kernel
theorem dX0_countLeft_14 : decode cX0_countLeft 14 = .ok (.iconst 0, 1) := by decide +kernel
theorem dX0_countLeft_15 : decode cX0_countLeft 15 = .ok (.iastore, 1) := by decide +kernel
theorem dX0_countLeft_16 : decode cX0_countLeft 16 = .ok (.bipush 7, 2) := by decide +kernel
theorem dX0_countLeft_18 : decode cX0_countLeft 18 = .ok (.istore_n 1, 1) := by decide +kernel
theorem dX0_countLeft_19 : decode cX0_countLeft 19 = .ok (.iload_n 1, 1) := by decide +kernel
theorem dX0_countLeft_20 : decode cX0_countLeft 20 = .ok (.ifCond .lt 65, 3) := by decide +kernel
theorem dX0_countLeft_23 : decode cX0_countLeft 23 = .ok (.aload_n 0, 1) := by decide +kernel
theorem dX0_countLeft_24 : decode cX0_countLeft 24 = .ok (.getfield 9, 3) := by decide +kernel
theorem dX0_countLeft_27 : decode cX0_countLeft 27 = .ok (.iload_n 1, 1) := by decide +kernel
theorem dX0_countLeft_28 : decode cX0_countLeft 28 = .ok (.iaload, 1) := by decide +kernel
theorem dX0_countLeft_29 : decode cX0_countLeft 29 = .ok (.ifCond .ne 7, 3) := by decide +kernel
theorem dX0_countLeft_32 : decode cX0_countLeft 32 = .ok (.iconst 0, 1) := by decide +kernel
theorem dX0_countLeft_33 : decode cX0_countLeft 33 = .ok (.goto 4, 3) := by decide +kernel
theorem dX0_countLeft_36 : decode cX0_countLeft 36 = .ok (.iconst 1, 1) := by decide +kernel
theorem dX0_countLeft_37 : decode cX0_countLeft 37 = .ok (.istore_n 2, 1) := by decide +kernel
theorem dX0_countLeft_38 : decode cX0_countLeft 38 = .ok (.aload_n 0, 1) := by decide +kernel
theorem dX0_countLeft_39 : decode cX0_countLeft 39 = .ok (.getfield 18, 3) := by decide +kernel
theorem dX0_countLeft_42 : decode cX0_countLeft 42 = .ok (.iload_n 1, 1) := by decide +kernel
theorem dX0_countLeft_43 : decode cX0_countLeft 43 = .ok (.aload_n 0, 1) := by decide +kernel
theorem dX0_countLeft_44 : decode cX0_countLeft 44 = .ok (.getfield 18, 3) := by decide +kernel
theorem dX0_countLeft_47 : decode cX0_countLeft 47 = .ok (.iload_n 1, 1) := by decide +kernel
theorem dX0_countLeft_48 : decode cX0_countLeft 48 = .ok (.iconst 1, 1) := by decide +kernel
theorem dX0_countLeft_49 : decode cX0_countLeft 49 = .ok (.iadd, 1) := by decide +kernel
theorem dX0_countLeft_50 : decode cX0_countLeft 50 = .ok (.iaload, 1) := by decide +kernel
theorem dX0_countLeft_51 : decode cX0_countLeft 51 = .ok (.iload_n 2, 1) := by decide +kernel
theorem dX0_countLeft_52 : decode cX0_countLeft 52 = .ok (.iadd, 1) := by decide +kernel
theorem dX0_countLeft_53 : decode cX0_countLeft 53 = .ok (.iastore, 1) := by decide +kernel
theorem dX0_countLeft_54 : decode cX0_countLeft 54 = .ok (.aload_n 0, 1) := by decide +kernel
theorem dX0_countLeft_55 : decode cX0_countLeft 55 = .ok (.getfield 21, 3) := by decide +kernel
theorem dX0_countLeft_58 : decode cX0_countLeft 58 = .ok (.iload_n 1, 1) := by decide +kernel
theorem dX0_countLeft_59 : decode cX0_countLeft 59 = .ok (.aload_n 0, 1) := by decide +kernel
theorem dX0_countLeft_60 : decode cX0_countLeft 60 = .ok (.getfield 21, 3) := by decide +kernel
theorem dX0_countLeft_63 : decode cX0_countLeft 63 = .ok (.iload_n 1, 1) := by decide +kernel
theorem dX0_countLeft_64 : decode cX0_countLeft 64 = .ok (.iconst 1, 1) := by decide +kernel
theorem dX0_countLeft_65 : decode cX0_countLeft 65 = .ok (.iadd, 1) := by decide +kernel
theorem dX0_countLeft_66 : decode cX0_countLeft 66 = .ok (.iaload, 1) := by decide +kernel
theorem dX0_countLeft_67 : decode cX0_countLeft 67 = .ok (.iload_n 2, 1) := by decide +kernel
theorem dX0_countLeft_68 : decode cX0_countLeft 68 = .ok (.aload_n 0, 1) := by decide +kernel
theorem dX0_countLeft_69 : decode cX0_countLeft 69 = .ok (.getfield 30, 3) := by decide +kernel
theorem dX0_countLeft_72 : decode cX0_countLeft 72 = .ok (.iload_n 1, 1) := by decide +kernel
theorem dX0_countLeft_73 : decode cX0_countLeft 73 = .ok (.ishr, 1) := by decide +kernel
theorem dX0_countLeft_74 : decode cX0_countLeft 74 = .ok (.iconst 1, 1) := by decide +kernel
theorem dX0_countLeft_75 : decode cX0_countLeft 75 = .ok (.iand, 1) := by decide +kernel
theorem dX0_countLeft_76 : decode cX0_countLeft 76 = .ok (.imul, 1) := by decide +kernel
theorem dX0_countLeft_77 : decode cX0_countLeft 77 = .ok (.iadd, 1) := by decide +kernel
theorem dX0_countLeft_78 : decode cX0_countLeft 78 = .ok (.iastore, 1) := by decide +kernel
theorem dX0_countLeft_79 : decode cX0_countLeft 79 = .ok (.iinc 1 (-1), 3) := by decide +kernel
theorem dX0_countLeft_82 : decode cX0_countLeft 82 = .ok (.goto (-63), 3) := by decide +kernel
theorem dX0_countLeft_85 : decode cX0_countLeft 85 = .ok (.return_, 1) := by decide +kernel
theorem dX0_isAllowed_0 : decode cX0_isAllowed 0 = .ok (.iload_n 1, 1) := by decide +kernel
theorem dX0_isAllowed_1 : decode cX0_isAllowed 1 = .ok (.iconst 4, 1) := by decide +kernel
theorem dX0_isAllowed_2 : decode cX0_isAllowed 2 = .ok (.idiv, 1) := by decide +kernel
theorem dX0_isAllowed_3 : decode cX0_isAllowed 3 = .ok (.istore_n 2, 1) := by decide +kernel
theorem dX0_isAllowed_4 : decode cX0_isAllowed 4 = .ok (.iload_n 2, 1) := by decide +kernel
theorem dX0_isAllowed_5 : decode cX0_isAllowed 5 = .ok (.bipush 8, 2) := by decide +kernel
theorem dX0_isAllowed_7 : decode cX0_isAllowed 7 = .ok (.if_icmp .ge 23, 3) := by decide +kernel
theorem dX0_isAllowed_10 : decode cX0_isAllowed 10 = .ok (.aload_n 0, 1) := by decide +kernel
theorem dX0_isAllowed_11 : decode cX0_isAllowed 11 = .ok (.getfield 9, 3) := by decide +kernel
theorem dX0_isAllowed_14 : decode cX0_isAllowed 14 = .ok (.iload_n 2, 1) := by decide +kernel
theorem dX0_isAllowed_15 : decode cX0_isAllowed 15 = .ok (.iaload, 1) := by decide +kernel
theorem dX0_isAllowed_16 : decode cX0_isAllowed 16 = .ok (.iload_n 1, 1) := by decide +kernel
theorem dX0_isAllowed_17 : decode cX0_isAllowed 17 = .ok (.iconst 4, 1) := by decide +kernel
theorem dX0_isAllowed_18 : decode cX0_isAllowed 18 = .ok (.irem, 1) := by decide +kernel
theorem dX0_isAllowed_19 : decode cX0_isAllowed 19 = .ok (.ishr, 1) := by decide +kernel
theorem dX0_isAllowed_20 : decode cX0_isAllowed 20 = .ok (.iconst 1, 1) := by decide +kernel
theorem dX0_isAllowed_21 : decode cX0_isAllowed 21 = .ok (.iand, 1) := by decide +kernel
theorem dX0_isAllowed_22 : decode cX0_isAllowed 22 = .ok (.iconst 1, 1) := by decide +kernel
theorem dX0_isAllowed_23 : decode cX0_isAllowed 23 = .ok (.if_icmp .ne 7, 3) := by decide +kernel
theorem dX0_isAllowed_26 : decode cX0_isAllowed 26 = .ok (.iconst 1, 1) := by decide +kernel
theorem dX0_isAllowed_27 : decode cX0_isAllowed 27 = .ok (.goto 4, 3) := by decide +kernel
theorem dX0_isAllowed_30 : decode cX0_isAllowed 30 = .ok (.iconst 0, 1) := by decide +kernel
theorem dX0_isAllowed_31 : decode cX0_isAllowed 31 = .ok (.ireturn, 1) := by decide +kernel
theorem dX0_foesOf_0 : decode cX0_foesOf 0 = .ok (.iconst 0, 1) := by decide +kernel
theorem dX0_foesOf_1 : decode cX0_foesOf 1 = .ok (.istore_n 3, 1) := by decide +kernel
theorem dX0_foesOf_2 : decode cX0_foesOf 2 = .ok (.iconst 0, 1) := by decide +kernel
theorem dX0_foesOf_3 : decode cX0_foesOf 3 = .ok (.istore 4, 2) := by decide +kernel
theorem dX0_foesOf_5 : decode cX0_foesOf 5 = .ok (.iload 4, 2) := by decide +kernel
theorem dX0_foesOf_7 : decode cX0_foesOf 7 = .ok (.aload_n 0, 1) := by decide +kernel
theorem dX0_foesOf_8 : decode cX0_foesOf 8 = .ok (.getfield 15, 3) := by decide +kernel
theorem dX0_foesOf_11 : decode cX0_foesOf 11 = .ok (.arraylength, 1) := by decide +kernel
theorem dX0_foesOf_12 : decode cX0_foesOf 12 = .ok (.if_icmp .ge 58, 3) := by decide +kernel
theorem dX0_foesOf_15 : decode cX0_foesOf 15 = .ok (.iload 4, 2) := by decide +kernel
theorem dX0_foesOf_17 : decode cX0_foesOf 17 = .ok (.iconst 4, 1) := by decide +kernel
theorem dX0_foesOf_18 : decode cX0_foesOf 18 = .ok (.idiv, 1) := by decide +kernel
theorem dX0_foesOf_19 : decode cX0_foesOf 19 = .ok (.iload_n 2, 1) := by decide +kernel
theorem dX0_foesOf_20 : decode cX0_foesOf 20 = .ok (.iconst 4, 1) := by decide +kernel
theorem dX0_foesOf_21 : decode cX0_foesOf 21 = .ok (.idiv, 1) := by decide +kernel
theorem dX0_foesOf_22 : decode cX0_foesOf 22 = .ok (.if_icmp .ne 7, 3) := by decide +kernel
theorem dX0_foesOf_25 : decode cX0_foesOf 25 = .ok (.iconst 1, 1) := by decide +kernel
theorem dX0_foesOf_26 : decode cX0_foesOf 26 = .ok (.goto 4, 3) := by decide +kernel
theorem dX0_foesOf_29 : decode cX0_foesOf 29 = .ok (.iconst 0, 1) := by decide +kernel
theorem dX0_foesOf_30 : decode cX0_foesOf 30 = .ok (.istore 5, 2) := by decide +kernel
theorem dX0_foesOf_32 : decode cX0_foesOf 32 = .ok (.iload 5, 2) := by decide +kernel
theorem dX0_foesOf_34 : decode cX0_foesOf 34 = .ok (.ifCond .ne 30, 3) := by decide +kernel
theorem dX0_foesOf_37 : decode cX0_foesOf 37 = .ok (.aload_n 0, 1) := by decide +kernel
theorem dX0_foesOf_38 : decode cX0_foesOf 38 = .ok (.iload 4, 2) := by decide +kernel
theorem dX0_foesOf_40 : decode cX0_foesOf 40 = .ok (.invokevirtual 50, 3) := by decide +kernel
theorem dX0_foesOf_43 : decode cX0_foesOf 43 = .ok (.ifCond .eq 21, 3) := by decide +kernel
theorem dX0_foesOf_46 : decode cX0_foesOf 46 = .ok (.aload_n 0, 1) := by decide +kernel
theorem dX0_foesOf_47 : decode cX0_foesOf 47 = .ok (.aload_n 1, 1) := by decide +kernel
theorem dX0_foesOf_48 : decode cX0_foesOf 48 = .ok (.iload_n 2, 1) := by decide +kernel
theorem dX0_foesOf_49 : decode cX0_foesOf 49 = .ok (.iload 4, 2) := by decide +kernel
theorem dX0_foesOf_51 : decode cX0_foesOf 51 = .ok (.invokevirtual 77, 3) := by decide +kernel
theorem dX0_foesOf_54 : decode cX0_foesOf 54 = .ok (.ifCond .eq 10, 3) := by decide +kernel
theorem dX0_foesOf_57 : decode cX0_foesOf 57 = .ok (.iload_n 3, 1) := by decide +kernel
theorem dX0_foesOf_58 : decode cX0_foesOf 58 = .ok (.iconst 1, 1) := by decide +kernel
theorem dX0_foesOf_59 : decode cX0_foesOf 59 = .ok (.iload 4, 2) := by decide +kernel
theorem dX0_foesOf_61 : decode cX0_foesOf 61 = .ok (.ishl, 1) := by decide +kernel
theorem dX0_foesOf_62 : decode cX0_foesOf 62 = .ok (.ior, 1) := by decide +kernel
theorem dX0_foesOf_63 : decode cX0_foesOf 63 = .ok (.istore_n 3, 1) := by decide +kernel
theorem dX0_foesOf_64 : decode cX0_foesOf 64 = .ok (.iinc 4 1, 3) := by decide +kernel
theorem dX0_foesOf_67 : decode cX0_foesOf 67 = .ok (.goto (-62), 3) := by decide +kernel
theorem dX0_foesOf_70 : decode cX0_foesOf 70 = .ok (.iload_n 3, 1) := by decide +kernel
theorem dX0_foesOf_71 : decode cX0_foesOf 71 = .ok (.ireturn, 1) := by decide +kernel
theorem dX0_standAgainst_0 : decode cX0_standAgainst 0 = .ok (.iload_n 2, 1) := by decide +kernel
theorem dX0_standAgainst_1 : decode cX0_standAgainst 1 = .ok (.iconst 4, 1) := by decide +kernel
theorem dX0_standAgainst_2 : decode cX0_standAgainst 2 = .ok (.idiv, 1) := by decide +kernel
theorem dX0_standAgainst_3 : decode cX0_standAgainst 3 = .ok (.istore 4, 2) := by decide +kernel
theorem dX0_standAgainst_5 : decode cX0_standAgainst 5 = .ok (.iload_n 3, 1) := by decide +kernel
theorem dX0_standAgainst_6 : decode cX0_standAgainst 6 = .ok (.iconst 4, 1) := by decide +kernel
theorem dX0_standAgainst_7 : decode cX0_standAgainst 7 = .ok (.idiv, 1) := by decide +kernel
theorem dX0_standAgainst_8 : decode cX0_standAgainst 8 = .ok (.istore 5, 2) := by decide +kernel
theorem dX0_standAgainst_10 : decode cX0_standAgainst 10 = .ok (.iconst 1, 1) := by decide +kernel
theorem dX0_standAgainst_11 : decode cX0_standAgainst 11 = .ok (.iload 4, 2) := by decide +kernel
theorem dX0_standAgainst_13 : decode cX0_standAgainst 13 = .ok (.ishl, 1) := by decide +kernel
theorem dX0_standAgainst_14 : decode cX0_standAgainst 14 = .ok (.iconst 1, 1) := by decide +kernel
theorem dX0_standAgainst_15 : decode cX0_standAgainst 15 = .ok (.iload 5, 2) := by decide +kernel
theorem dX0_standAgainst_17 : decode cX0_standAgainst 17 = .ok (.ishl, 1) := by decide +kernel
theorem dX0_standAgainst_18 : decode cX0_standAgainst 18 = .ok (.ior, 1) := by decide +kernel
theorem dX0_standAgainst_19 : decode cX0_standAgainst 19 = .ok (.aload_n 0, 1) := by decide +kernel
theorem dX0_standAgainst_20 : decode cX0_standAgainst 20 = .ok (.getfield 30, 3) := by decide +kernel
theorem dX0_standAgainst_23 : decode cX0_standAgainst 23 = .ok (.iand, 1) := by decide +kernel
theorem dX0_standAgainst_24 : decode cX0_standAgainst 24 = .ok (.ifCond .eq 7, 3) := by decide +kernel
theorem dX0_standAgainst_27 : decode cX0_standAgainst 27 = .ok (.iconst 1, 1) := by decide +kernel
theorem dX0_standAgainst_28 : decode cX0_standAgainst 28 = .ok (.goto 4, 3) := by decide +kernel
theorem dX0_standAgainst_31 : decode cX0_standAgainst 31 = .ok (.iconst 0, 1) := by decide +kernel
theorem dX0_standAgainst_32 : decode cX0_standAgainst 32 = .ok (.istore 6, 2) := by decide +kernel
theorem dX0_standAgainst_34 : decode cX0_standAgainst 34 = .ok (.aload_n 1, 1) := by decide +kernel
theorem dX0_standAgainst_35 : decode cX0_standAgainst 35 = .ok (.getfield 62, 3) := by decide +kernel
theorem dX0_standAgainst_38 : decode cX0_standAgainst 38 = .ok (.iload 4, 2) := by decide +kernel
theorem dX0_standAgainst_40 : decode cX0_standAgainst 40 = .ok (.invokevirtual 81, 3) := by decide +kernel
theorem dX0_standAgainst_43 : decode cX0_standAgainst 43 = .ok (.istore 7, 2) := by decide +kernel
theorem dX0_standAgainst_45 : decode cX0_standAgainst 45 = .ok (.aload_n 1, 1) := by decide +kernel
theorem dX0_standAgainst_46 : decode cX0_standAgainst 46 = .ok (.getfield 62, 3) := by decide +kernel
theorem dX0_standAgainst_49 : decode cX0_standAgainst 49 = .ok (.iload 5, 2) := by decide +kernel
theorem dX0_standAgainst_51 : decode cX0_standAgainst 51 = .ok (.invokevirtual 81, 3) := by decide +kernel
theorem dX0_standAgainst_54 : decode cX0_standAgainst 54 = .ok (.istore 8, 2) := by decide +kernel
theorem dX0_standAgainst_56 : decode cX0_standAgainst 56 = .ok (.iconst 0, 1) := by decide +kernel
theorem dX0_standAgainst_57 : decode cX0_standAgainst 57 = .ok (.istore 9, 2) := by decide +kernel
theorem dX0_standAgainst_59 : decode cX0_standAgainst 59 = .ok (.iload 9, 2) := by decide +kernel
theorem dX0_standAgainst_61 : decode cX0_standAgainst 61 = .ok (.aload_n 1, 1) := by decide +kernel
theorem dX0_standAgainst_62 : decode cX0_standAgainst 62 = .ok (.getfield 62, 3) := by decide +kernel
theorem dX0_standAgainst_65 : decode cX0_standAgainst 65 = .ok (.iload 4, 2) := by decide +kernel
theorem dX0_standAgainst_67 : decode cX0_standAgainst 67 = .ok (.invokevirtual 85, 3) := by decide +kernel
theorem dX0_standAgainst_70 : decode cX0_standAgainst 70 = .ok (.if_icmp .ge 87, 3) := by decide +kernel
theorem dX0_standAgainst_73 : decode cX0_standAgainst 73 = .ok (.aload_n 1, 1) := by decide +kernel
theorem dX0_standAgainst_74 : decode cX0_standAgainst 74 = .ok (.getfield 88, 3) := by decide +kernel
theorem dX0_standAgainst_77 : decode cX0_standAgainst 77 = .ok (.iload 7, 2) := by decide +kernel
theorem dX0_standAgainst_79 : decode cX0_standAgainst 79 = .ok (.iload_n 2, 1) := by decide +kernel
theorem dX0_standAgainst_80 : decode cX0_standAgainst 80 = .ok (.iconst 4, 1) := by decide +kernel
theorem dX0_standAgainst_81 : decode cX0_standAgainst 81 = .ok (.irem, 1) := by decide +kernel
theorem dX0_standAgainst_82 : decode cX0_standAgainst 82 = .ok (.iload 9, 2) := by decide +kernel
theorem dX0_standAgainst_84 : decode cX0_standAgainst 84 = .ok (.iconst 1, 1) := by decide +kernel
theorem dX0_standAgainst_85 : decode cX0_standAgainst 85 = .ok (.iadd, 1) := by decide +kernel
theorem dX0_standAgainst_86 : decode cX0_standAgainst 86 = .ok (.invokevirtual 92, 3) := by decide +kernel
theorem dX0_standAgainst_89 : decode cX0_standAgainst 89 = .ok (.istore 10, 2) := by decide +kernel
theorem dX0_standAgainst_91 : decode cX0_standAgainst 91 = .ok (.aload_n 1, 1) := by decide +kernel
theorem dX0_standAgainst_92 : decode cX0_standAgainst 92 = .ok (.getfield 88, 3) := by decide +kernel
theorem dX0_standAgainst_95 : decode cX0_standAgainst 95 = .ok (.iload 8, 2) := by decide +kernel
theorem dX0_standAgainst_97 : decode cX0_standAgainst 97 = .ok (.iload_n 3, 1) := by decide +kernel
theorem dX0_standAgainst_98 : decode cX0_standAgainst 98 = .ok (.iconst 4, 1) := by decide +kernel
theorem dX0_standAgainst_99 : decode cX0_standAgainst 99 = .ok (.irem, 1) := by decide +kernel
theorem dX0_standAgainst_100 : decode cX0_standAgainst 100 = .ok (.iload 10, 2) := by decide +kernel
theorem dX0_standAgainst_102 : decode cX0_standAgainst 102 = .ok (.invokevirtual 97, 3) := by decide +kernel
theorem dX0_standAgainst_105 : decode cX0_standAgainst 105 = .ok (.istore 11, 2) := by decide +kernel
theorem dX0_standAgainst_107 : decode cX0_standAgainst 107 = .ok (.aload_n 1, 1) := by decide +kernel
theorem dX0_standAgainst_108 : decode cX0_standAgainst 108 = .ok (.getfield 62, 3) := by decide +kernel
theorem dX0_standAgainst_111 : decode cX0_standAgainst 111 = .ok (.iload 5, 2) := by decide +kernel
theorem dX0_standAgainst_113 : decode cX0_standAgainst 113 = .ok (.iload 11, 2) := by decide +kernel
theorem dX0_standAgainst_115 : decode cX0_standAgainst 115 = .ok (.iconst 1, 1) := by decide +kernel
theorem dX0_standAgainst_116 : decode cX0_standAgainst 116 = .ok (.isub, 1) := by decide +kernel
theorem dX0_standAgainst_117 : decode cX0_standAgainst 117 = .ok (.invokevirtual 100, 3) := by decide +kernel
theorem dX0_standAgainst_120 : decode cX0_standAgainst 120 = .ok (.istore 12, 2) := by decide +kernel
theorem dX0_standAgainst_122 : decode cX0_standAgainst 122 = .ok (.iload 12, 2) := by decide +kernel
theorem dX0_standAgainst_124 : decode cX0_standAgainst 124 = .ok (.iconst (-1), 1) := by decide +kernel
theorem dX0_standAgainst_125 : decode cX0_standAgainst 125 = .ok (.if_icmp .eq 26, 3) := by decide +kernel
theorem dX0_standAgainst_128 : decode cX0_standAgainst 128 = .ok (.iload 6, 2) := by decide +kernel
theorem dX0_standAgainst_130 : decode cX0_standAgainst 130 = .ok (.ifCond .ne 19, 3) := by decide +kernel
theorem dX0_standAgainst_133 : decode cX0_standAgainst 133 = .ok (.iload 12, 2) := by decide +kernel
theorem dX0_standAgainst_135 : decode cX0_standAgainst 135 = .ok (.aload_n 1, 1) := by decide +kernel
theorem dX0_standAgainst_136 : decode cX0_standAgainst 136 = .ok (.getfield 62, 3) := by decide +kernel
theorem dX0_standAgainst_139 : decode cX0_standAgainst 139 = .ok (.iload 4, 2) := by decide +kernel
theorem dX0_standAgainst_141 : decode cX0_standAgainst 141 = .ok (.iload 9, 2) := by decide +kernel
theorem dX0_standAgainst_143 : decode cX0_standAgainst 143 = .ok (.invokevirtual 100, 3) := by decide +kernel
theorem dX0_standAgainst_146 : decode cX0_standAgainst 146 = .ok (.if_icmp .eq 5, 3) := by decide +kernel
theorem dX0_standAgainst_149 : decode cX0_standAgainst 149 = .ok (.iconst 1, 1) := by decide +kernel
theorem dX0_standAgainst_150 : decode cX0_standAgainst 150 = .ok (.ireturn, 1) := by decide +kernel
theorem dX0_standAgainst_151 : decode cX0_standAgainst 151 = .ok (.iinc 9 1, 3) := by decide +kernel
theorem dX0_standAgainst_154 : decode cX0_standAgainst 154 = .ok (.goto (-95), 3) := by decide +kernel
theorem dX0_standAgainst_157 : decode cX0_standAgainst 157 = .ok (.iconst 0, 1) := by decide +kernel
theorem dX0_standAgainst_158 : decode cX0_standAgainst 158 = .ok (.ireturn, 1) := by decide +kernel
theorem dX0_seek_0 : decode cX0_seek 0 = .ok (.iload_n 2, 1) := by decide +kernel
theorem dX0_seek_1 : decode cX0_seek 1 = .ok (.bipush 8, 2) := by decide +kernel
theorem dX0_seek_3 : decode cX0_seek 3 = .ok (.if_icmp .ge 14, 3) := by decide +kernel
theorem dX0_seek_6 : decode cX0_seek 6 = .ok (.iload_n 2, 1) := by decide +kernel
theorem dX0_seek_7 : decode cX0_seek 7 = .ok (.aload_n 1, 1) := by decide +kernel
theorem dX0_seek_8 : decode cX0_seek 8 = .ok (.getfield 62, 3) := by decide +kernel
theorem dX0_seek_11 : decode cX0_seek 11 = .ok (.getfield 68, 3) := by decide +kernel
theorem dX0_seek_14 : decode cX0_seek 14 = .ok (.if_icmp .lt 13, 3) := by decide +kernel
theorem dX0_seek_17 : decode cX0_seek 17 = .ok (.aload_n 0, 1) := by decide +kernel
theorem dX0_seek_18 : decode cX0_seek 18 = .ok (.aload_n 1, 1) := by decide +kernel
theorem dX0_seek_19 : decode cX0_seek 19 = .ok (.iload 4, 2) := by decide +kernel
theorem dX0_seek_21 : decode cX0_seek 21 = .ok (.iload 5, 2) := by decide +kernel
theorem dX0_seek_23 : decode cX0_seek 23 = .ok (.invokevirtual 104, 3) := by decide +kernel
theorem dX0_seek_26 : decode cX0_seek 26 = .ok (.return_, 1) := by decide +kernel
theorem dX0_seek_27 : decode cX0_seek 27 = .ok (.iload 4, 2) := by decide +kernel
theorem dX0_seek_29 : decode cX0_seek 29 = .ok (.aload_n 0, 1) := by decide +kernel
theorem dX0_seek_30 : decode cX0_seek 30 = .ok (.getfield 21, 3) := by decide +kernel
theorem dX0_seek_33 : decode cX0_seek 33 = .ok (.iload_n 2, 1) := by decide +kernel
theorem dX0_seek_34 : decode cX0_seek 34 = .ok (.iaload, 1) := by decide +kernel
theorem dX0_seek_35 : decode cX0_seek 35 = .ok (.iadd, 1) := by decide +kernel
theorem dX0_seek_36 : decode cX0_seek 36 = .ok (.istore 6, 2) := by decide +kernel
theorem dX0_seek_38 : decode cX0_seek 38 = .ok (.iload 6, 2) := by decide +kernel
theorem dX0_seek_40 : decode cX0_seek 40 = .ok (.aload_n 0, 1) := by decide +kernel
theorem dX0_seek_41 : decode cX0_seek 41 = .ok (.getfield 34, 3) := by decide +kernel
theorem dX0_seek_44 : decode cX0_seek 44 = .ok (.if_icmp .lt 28, 3) := by decide +kernel
theorem dX0_seek_47 : decode cX0_seek 47 = .ok (.iload 6, 2) := by decide +kernel
theorem dX0_seek_49 : decode cX0_seek 49 = .ok (.aload_n 0, 1) := by decide +kernel
theorem dX0_seek_50 : decode cX0_seek 50 = .ok (.getfield 34, 3) := by decide +kernel
theorem dX0_seek_53 : decode cX0_seek 53 = .ok (.if_icmp .ne 20, 3) := by decide +kernel
theorem dX0_seek_56 : decode cX0_seek 56 = .ok (.iload 5, 2) := by decide +kernel
theorem dX0_seek_58 : decode cX0_seek 58 = .ok (.aload_n 0, 1) := by decide +kernel
theorem dX0_seek_59 : decode cX0_seek 59 = .ok (.getfield 18, 3) := by decide +kernel
theorem dX0_seek_62 : decode cX0_seek 62 = .ok (.iload_n 2, 1) := by decide +kernel
theorem dX0_seek_63 : decode cX0_seek 63 = .ok (.iaload, 1) := by decide +kernel
theorem dX0_seek_64 : decode cX0_seek 64 = .ok (.iadd, 1) := by decide +kernel
theorem dX0_seek_65 : decode cX0_seek 65 = .ok (.aload_n 0, 1) := by decide +kernel
theorem dX0_seek_66 : decode cX0_seek 66 = .ok (.getfield 37, 3) := by decide +kernel
theorem dX0_seek_69 : decode cX0_seek 69 = .ok (.if_icmp .ge 4, 3) := by decide +kernel
theorem dX0_seek_72 : decode cX0_seek 72 = .ok (.return_, 1) := by decide +kernel
theorem dX0_seek_73 : decode cX0_seek 73 = .ok (.iconst 0, 1) := by decide +kernel
theorem dX0_seek_74 : decode cX0_seek 74 = .ok (.istore 7, 2) := by decide +kernel
theorem dX0_seek_76 : decode cX0_seek 76 = .ok (.iload 7, 2) := by decide +kernel
theorem dX0_seek_78 : decode cX0_seek 78 = .ok (.iconst 4, 1) := by decide +kernel
theorem dX0_seek_79 : decode cX0_seek 79 = .ok (.if_icmp .ge 75, 3) := by decide +kernel
theorem dX0_seek_82 : decode cX0_seek 82 = .ok (.iload_n 2, 1) := by decide +kernel
theorem dX0_seek_83 : decode cX0_seek 83 = .ok (.iconst 4, 1) := by decide +kernel
theorem dX0_seek_84 : decode cX0_seek 84 = .ok (.imul, 1) := by decide +kernel
theorem dX0_seek_85 : decode cX0_seek 85 = .ok (.iload 7, 2) := by decide +kernel
theorem dX0_seek_87 : decode cX0_seek 87 = .ok (.iadd, 1) := by decide +kernel
theorem dX0_seek_88 : decode cX0_seek 88 = .ok (.istore 8, 2) := by decide +kernel
theorem dX0_seek_90 : decode cX0_seek 90 = .ok (.aload_n 0, 1) := by decide +kernel
theorem dX0_seek_91 : decode cX0_seek 91 = .ok (.iload 8, 2) := by decide +kernel
theorem dX0_seek_93 : decode cX0_seek 93 = .ok (.invokevirtual 50, 3) := by decide +kernel
theorem dX0_seek_96 : decode cX0_seek 96 = .ok (.ifCond .eq 52, 3) := by decide +kernel
theorem dX0_seek_99 : decode cX0_seek 99 = .ok (.aload_n 0, 1) := by decide +kernel
theorem dX0_seek_100 : decode cX0_seek 100 = .ok (.getfield 15, 3) := by decide +kernel
theorem dX0_seek_103 : decode cX0_seek 103 = .ok (.iload 8, 2) := by decide +kernel
theorem dX0_seek_105 : decode cX0_seek 105 = .ok (.iaload, 1) := by decide +kernel
theorem dX0_seek_106 : decode cX0_seek 106 = .ok (.iload_n 3, 1) := by decide +kernel
theorem dX0_seek_107 : decode cX0_seek 107 = .ok (.iand, 1) := by decide +kernel
theorem dX0_seek_108 : decode cX0_seek 108 = .ok (.ifCond .ne 40, 3) := by decide +kernel
theorem dX0_seek_111 : decode cX0_seek 111 = .ok (.aload_n 0, 1) := by decide +kernel
theorem dX0_seek_112 : decode cX0_seek 112 = .ok (.getfield 24, 3) := by decide +kernel
theorem dX0_seek_115 : decode cX0_seek 115 = .ok (.iload_n 2, 1) := by decide +kernel
theorem dX0_seek_116 : decode cX0_seek 116 = .ok (.iload 7, 2) := by decide +kernel
theorem dX0_seek_118 : decode cX0_seek 118 = .ok (.iastore, 1) := by decide +kernel
theorem dX0_seek_119 : decode cX0_seek 119 = .ok (.aload_n 0, 1) := by decide +kernel
theorem dX0_seek_120 : decode cX0_seek 120 = .ok (.aload_n 1, 1) := by decide +kernel
theorem dX0_seek_121 : decode cX0_seek 121 = .ok (.iload_n 2, 1) := by decide +kernel
theorem dX0_seek_122 : decode cX0_seek 122 = .ok (.iconst 1, 1) := by decide +kernel
theorem dX0_seek_123 : decode cX0_seek 123 = .ok (.iadd, 1) := by decide +kernel
theorem dX0_seek_124 : decode cX0_seek 124 = .ok (.iload_n 3, 1) := by decide +kernel
theorem dX0_seek_125 : decode cX0_seek 125 = .ok (.iconst 1, 1) := by decide +kernel
theorem dX0_seek_126 : decode cX0_seek 126 = .ok (.iload 8, 2) := by decide +kernel
theorem dX0_seek_128 : decode cX0_seek 128 = .ok (.ishl, 1) := by decide +kernel
theorem dX0_seek_129 : decode cX0_seek 129 = .ok (.ior, 1) := by decide +kernel
theorem dX0_seek_130 : decode cX0_seek 130 = .ok (.iload 4, 2) := by decide +kernel
theorem dX0_seek_132 : decode cX0_seek 132 = .ok (.aload_n 0, 1) := by decide +kernel
theorem dX0_seek_133 : decode cX0_seek 133 = .ok (.getfield 30, 3) := by decide +kernel
theorem dX0_seek_136 : decode cX0_seek 136 = .ok (.iload_n 2, 1) := by decide +kernel
theorem dX0_seek_137 : decode cX0_seek 137 = .ok (.ishr, 1) := by decide +kernel
theorem dX0_seek_138 : decode cX0_seek 138 = .ok (.iconst 1, 1) := by decide +kernel
theorem dX0_seek_139 : decode cX0_seek 139 = .ok (.iand, 1) := by decide +kernel
theorem dX0_seek_140 : decode cX0_seek 140 = .ok (.iadd, 1) := by decide +kernel
theorem dX0_seek_141 : decode cX0_seek 141 = .ok (.iload 5, 2) := by decide +kernel
theorem dX0_seek_143 : decode cX0_seek 143 = .ok (.iconst 1, 1) := by decide +kernel
theorem dX0_seek_144 : decode cX0_seek 144 = .ok (.iadd, 1) := by decide +kernel
theorem dX0_seek_145 : decode cX0_seek 145 = .ok (.invokevirtual 58, 3) := by decide +kernel
theorem dX0_seek_148 : decode cX0_seek 148 = .ok (.iinc 7 1, 3) := by decide +kernel
theorem dX0_seek_151 : decode cX0_seek 151 = .ok (.goto (-75), 3) := by decide +kernel
theorem dX0_seek_154 : decode cX0_seek 154 = .ok (.aload_n 0, 1) := by decide +kernel
theorem dX0_seek_155 : decode cX0_seek 155 = .ok (.getfield 24, 3) := by decide +kernel
theorem dX0_seek_158 : decode cX0_seek 158 = .ok (.iload_n 2, 1) := by decide +kernel
theorem dX0_seek_159 : decode cX0_seek 159 = .ok (.iconst (-1), 1) := by decide +kernel
theorem dX0_seek_160 : decode cX0_seek 160 = .ok (.iastore, 1) := by decide +kernel
theorem dX0_seek_161 : decode cX0_seek 161 = .ok (.aload_n 0, 1) := by decide +kernel
theorem dX0_seek_162 : decode cX0_seek 162 = .ok (.aload_n 1, 1) := by decide +kernel
theorem dX0_seek_163 : decode cX0_seek 163 = .ok (.iload_n 2, 1) := by decide +kernel
