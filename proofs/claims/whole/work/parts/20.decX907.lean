theorem dX9_upright_49 : decode cX9_upright 49 = .ok (.goto 4, 3) := by decide +kernel
theorem dX9_upright_52 : decode cX9_upright 52 = .ok (.iconst 0, 1) := by decide +kernel
theorem dX9_upright_53 : decode cX9_upright 53 = .ok (.ior, 1) := by decide +kernel
theorem dX9_upright_54 : decode cX9_upright 54 = .ok (.istore_n 2, 1) := by decide +kernel
theorem dX9_upright_55 : decode cX9_upright 55 = .ok (.iinc 3 1, 3) := by decide +kernel
theorem dX9_upright_58 : decode cX9_upright 58 = .ok (.goto (-44), 3) := by decide +kernel
theorem dX9_upright_61 : decode cX9_upright 61 = .ok (.iload_n 2, 1) := by decide +kernel
theorem dX9_upright_62 : decode cX9_upright 62 = .ok (.ireturn, 1) := by decide +kernel
theorem dX9_turning_0 : decode cX9_turning 0 = .ok (.aload_n 0, 1) := by decide +kernel
theorem dX9_turning_1 : decode cX9_turning 1 = .ok (.iconst 0, 1) := by decide +kernel
theorem dX9_turning_2 : decode cX9_turning 2 = .ok (.putfield 64, 3) := by decide +kernel
theorem dX9_turning_5 : decode cX9_turning 5 = .ok (.aload_n 0, 1) := by decide +kernel
theorem dX9_turning_6 : decode cX9_turning 6 = .ok (.aload_n 0, 1) := by decide +kernel
theorem dX9_turning_7 : decode cX9_turning 7 = .ok (.getfield 7, 3) := by decide +kernel
theorem dX9_turning_10 : decode cX9_turning 10 = .ok (.iconst 5, 1) := by decide +kernel
theorem dX9_turning_11 : decode cX9_turning 11 = .ok (.iaload, 1) := by decide +kernel
theorem dX9_turning_12 : decode cX9_turning 12 = .ok (.invokevirtual 405, 3) := by decide +kernel
theorem dX9_turning_15 : decode cX9_turning 15 = .ok (.ireturn, 1) := by decide +kernel
theorem dX9_turningFrom_0 : decode cX9_turningFrom 0 = .ok (.aload_n 0, 1) := by decide +kernel
theorem dX9_turningFrom_1 : decode cX9_turningFrom 1 = .ok (.iload_n 1, 1) := by decide +kernel
theorem dX9_turningFrom_2 : decode cX9_turningFrom 2 = .ok (.invokevirtual 402, 3) := by decide +kernel
theorem dX9_turningFrom_5 : decode cX9_turningFrom 5 = .ok (.ifCond .eq 11, 3) := by decide +kernel
theorem dX9_turningFrom_8 : decode cX9_turningFrom 8 = .ok (.aload_n 0, 1) := by decide +kernel
theorem dX9_turningFrom_9 : decode cX9_turningFrom 9 = .ok (.iload_n 1, 1) := by decide +kernel
theorem dX9_turningFrom_10 : decode cX9_turningFrom 10 = .ok (.invokevirtual 405, 3) := by decide +kernel
theorem dX9_turningFrom_13 : decode cX9_turningFrom 13 = .ok (.goto 4, 3) := by decide +kernel
theorem dX9_turningFrom_16 : decode cX9_turningFrom 16 = .ok (.iconst 0, 1) := by decide +kernel
theorem dX9_turningFrom_17 : decode cX9_turningFrom 17 = .ok (.ireturn, 1) := by decide +kernel
theorem dX9_bestTurn_0 : decode cX9_bestTurn 0 = .ok (.aload_n 0, 1) := by decide +kernel
theorem dX9_bestTurn_1 : decode cX9_bestTurn 1 = .ok (.iconst 0, 1) := by decide +kernel
theorem dX9_bestTurn_2 : decode cX9_bestTurn 2 = .ok (.putfield 64, 3) := by decide +kernel
theorem dX9_bestTurn_5 : decode cX9_bestTurn 5 = .ok (.iconst 0, 1) := by decide +kernel
theorem dX9_bestTurn_6 : decode cX9_bestTurn 6 = .ok (.istore_n 1, 1) := by decide +kernel
theorem dX9_bestTurn_7 : decode cX9_bestTurn 7 = .ok (.iconst 1, 1) := by decide +kernel
theorem dX9_bestTurn_8 : decode cX9_bestTurn 8 = .ok (.istore_n 2, 1) := by decide +kernel
theorem dX9_bestTurn_9 : decode cX9_bestTurn 9 = .ok (.iload_n 2, 1) := by decide +kernel
theorem dX9_bestTurn_10 : decode cX9_bestTurn 10 = .ok (.iconst 4, 1) := by decide +kernel
theorem dX9_bestTurn_11 : decode cX9_bestTurn 11 = .ok (.if_icmp .ge 28, 3) := by decide +kernel
theorem dX9_bestTurn_14 : decode cX9_bestTurn 14 = .ok (.aload_n 0, 1) := by decide +kernel
theorem dX9_bestTurn_15 : decode cX9_bestTurn 15 = .ok (.iload_n 2, 1) := by decide +kernel
theorem dX9_bestTurn_16 : decode cX9_bestTurn 16 = .ok (.invokevirtual 405, 3) := by decide +kernel
theorem dX9_bestTurn_19 : decode cX9_bestTurn 19 = .ok (.aload_n 0, 1) := by decide +kernel
theorem dX9_bestTurn_20 : decode cX9_bestTurn 20 = .ok (.iload_n 1, 1) := by decide +kernel
theorem dX9_bestTurn_21 : decode cX9_bestTurn 21 = .ok (.invokevirtual 405, 3) := by decide +kernel
theorem dX9_bestTurn_24 : decode cX9_bestTurn 24 = .ok (.if_icmp .ge 7, 3) := by decide +kernel
theorem dX9_bestTurn_27 : decode cX9_bestTurn 27 = .ok (.iload_n 2, 1) := by decide +kernel
theorem dX9_bestTurn_28 : decode cX9_bestTurn 28 = .ok (.goto 4, 3) := by decide +kernel
theorem dX9_bestTurn_31 : decode cX9_bestTurn 31 = .ok (.iload_n 1, 1) := by decide +kernel
theorem dX9_bestTurn_32 : decode cX9_bestTurn 32 = .ok (.istore_n 1, 1) := by decide +kernel
theorem dX9_bestTurn_33 : decode cX9_bestTurn 33 = .ok (.iinc 2 1, 3) := by decide +kernel
theorem dX9_bestTurn_36 : decode cX9_bestTurn 36 = .ok (.goto (-27), 3) := by decide +kernel
theorem dX9_bestTurn_39 : decode cX9_bestTurn 39 = .ok (.iload_n 1, 1) := by decide +kernel
theorem dX9_bestTurn_40 : decode cX9_bestTurn 40 = .ok (.ireturn, 1) := by decide +kernel
theorem dX9_hardest_0 : decode cX9_hardest 0 = .ok (.aload_n 0, 1) := by decide +kernel
theorem dX9_hardest_1 : decode cX9_hardest 1 = .ok (.iconst 0, 1) := by decide +kernel
theorem dX9_hardest_2 : decode cX9_hardest 2 = .ok (.putfield 64, 3) := by decide +kernel
theorem dX9_hardest_5 : decode cX9_hardest 5 = .ok (.iconst (-1), 1) := by decide +kernel
theorem dX9_hardest_6 : decode cX9_hardest 6 = .ok (.istore_n 1, 1) := by decide +kernel
theorem dX9_hardest_7 : decode cX9_hardest 7 = .ok (.iconst 0, 1) := by decide +kernel
theorem dX9_hardest_8 : decode cX9_hardest 8 = .ok (.istore_n 2, 1) := by decide +kernel
theorem dX9_hardest_9 : decode cX9_hardest 9 = .ok (.aload_n 0, 1) := by decide +kernel
theorem dX9_hardest_10 : decode cX9_hardest 10 = .ok (.getfield 7, 3) := by decide +kernel
theorem dX9_hardest_13 : decode cX9_hardest 13 = .ok (.iconst 5, 1) := by decide +kernel
theorem dX9_hardest_14 : decode cX9_hardest 14 = .ok (.iaload, 1) := by decide +kernel
theorem dX9_hardest_15 : decode cX9_hardest 15 = .ok (.istore_n 3, 1) := by decide +kernel
theorem dX9_hardest_16 : decode cX9_hardest 16 = .ok (.iconst 0, 1) := by decide +kernel
theorem dX9_hardest_17 : decode cX9_hardest 17 = .ok (.istore 4, 2) := by decide +kernel
theorem dX9_hardest_19 : decode cX9_hardest 19 = .ok (.iload 4, 2) := by decide +kernel
theorem dX9_hardest_21 : decode cX9_hardest 21 = .ok (.aload_n 0, 1) := by decide +kernel
theorem dX9_hardest_22 : decode cX9_hardest 22 = .ok (.getfield 7, 3) := by decide +kernel
theorem dX9_hardest_25 : decode cX9_hardest 25 = .ok (.iconst 4, 1) := by decide +kernel
theorem dX9_hardest_26 : decode cX9_hardest 26 = .ok (.iaload, 1) := by decide +kernel
theorem dX9_hardest_27 : decode cX9_hardest 27 = .ok (.if_icmp .ge 81, 3) := by decide +kernel
theorem dX9_hardest_30 : decode cX9_hardest 30 = .ok (.aload_n 0, 1) := by decide +kernel
theorem dX9_hardest_31 : decode cX9_hardest 31 = .ok (.getfield 7, 3) := by decide +kernel
theorem dX9_hardest_34 : decode cX9_hardest 34 = .ok (.sipush 536, 3) := by decide +kernel
theorem dX9_hardest_37 : decode cX9_hardest 37 = .ok (.iload 4, 2) := by decide +kernel
theorem dX9_hardest_39 : decode cX9_hardest 39 = .ok (.iadd, 1) := by decide +kernel
theorem dX9_hardest_40 : decode cX9_hardest 40 = .ok (.iaload, 1) := by decide +kernel
theorem dX9_hardest_41 : decode cX9_hardest 41 = .ok (.istore 5, 2) := by decide +kernel
theorem dX9_hardest_43 : decode cX9_hardest 43 = .ok (.aload_n 0, 1) := by decide +kernel
theorem dX9_hardest_44 : decode cX9_hardest 44 = .ok (.iload 5, 2) := by decide +kernel
theorem dX9_hardest_46 : decode cX9_hardest 46 = .ok (.invokevirtual 103, 3) := by decide +kernel
theorem dX9_hardest_49 : decode cX9_hardest 49 = .ok (.ifCond .ne 6, 3) := by decide +kernel
theorem dX9_hardest_52 : decode cX9_hardest 52 = .ok (.goto 50, 3) := by decide +kernel
theorem dX9_hardest_55 : decode cX9_hardest 55 = .ok (.iload_n 3, 1) := by decide +kernel
theorem dX9_hardest_56 : decode cX9_hardest 56 = .ok (.aload_n 0, 1) := by decide +kernel
theorem dX9_hardest_57 : decode cX9_hardest 57 = .ok (.iload 5, 2) := by decide +kernel
theorem dX9_hardest_59 : decode cX9_hardest 59 = .ok (.iconst 2, 1) := by decide +kernel
theorem dX9_hardest_60 : decode cX9_hardest 60 = .ok (.invokevirtual 100, 3) := by decide +kernel
theorem dX9_hardest_63 : decode cX9_hardest 63 = .ok (.invokestatic 176, 3) := by decide +kernel
theorem dX9_hardest_66 : decode cX9_hardest 66 = .ok (.invokestatic 179, 3) := by decide +kernel
theorem dX9_hardest_69 : decode cX9_hardest 69 = .ok (.istore 6, 2) := by decide +kernel
theorem dX9_hardest_71 : decode cX9_hardest 71 = .ok (.iload 6, 2) := by decide +kernel
theorem dX9_hardest_73 : decode cX9_hardest 73 = .ok (.iload_n 2, 1) := by decide +kernel
theorem dX9_hardest_74 : decode cX9_hardest 74 = .ok (.if_icmp .le 8, 3) := by decide +kernel
theorem dX9_hardest_77 : decode cX9_hardest 77 = .ok (.iload 4, 2) := by decide +kernel
theorem dX9_hardest_79 : decode cX9_hardest 79 = .ok (.goto 4, 3) := by decide +kernel
theorem dX9_hardest_82 : decode cX9_hardest 82 = .ok (.iload_n 1, 1) := by decide +kernel
theorem dX9_hardest_83 : decode cX9_hardest 83 = .ok (.istore_n 1, 1) := by decide +kernel
theorem dX9_hardest_84 : decode cX9_hardest 84 = .ok (.iload_n 2, 1) := by decide +kernel
theorem dX9_hardest_85 : decode cX9_hardest 85 = .ok (.iload 6, 2) := by decide +kernel
theorem dX9_hardest_87 : decode cX9_hardest 87 = .ok (.invokestatic 112, 3) := by decide +kernel
theorem dX9_hardest_90 : decode cX9_hardest 90 = .ok (.istore_n 2, 1) := by decide +kernel
theorem dX9_hardest_91 : decode cX9_hardest 91 = .ok (.aload_n 0, 1) := by decide +kernel
theorem dX9_hardest_92 : decode cX9_hardest 92 = .ok (.iload 5, 2) := by decide +kernel
theorem dX9_hardest_94 : decode cX9_hardest 94 = .ok (.iconst 2, 1) := by decide +kernel
theorem dX9_hardest_95 : decode cX9_hardest 95 = .ok (.invokevirtual 100, 3) := by decide +kernel
theorem dX9_hardest_98 : decode cX9_hardest 98 = .ok (.invokestatic 176, 3) := by decide +kernel
theorem dX9_hardest_101 : decode cX9_hardest 101 = .ok (.istore_n 3, 1) := by decide +kernel
theorem dX9_hardest_102 : decode cX9_hardest 102 = .ok (.iinc 4 1, 3) := by decide +kernel
theorem dX9_hardest_105 : decode cX9_hardest 105 = .ok (.goto (-86), 3) := by decide +kernel
theorem dX9_hardest_108 : decode cX9_hardest 108 = .ok (.iload_n 1, 1) := by decide +kernel
theorem dX9_hardest_109 : decode cX9_hardest 109 = .ok (.ireturn, 1) := by decide +kernel
theorem dX9_least_0 : decode cX9_least 0 = .ok (.aload_n 0, 1) := by decide +kernel
theorem dX9_least_1 : decode cX9_least 1 = .ok (.iconst 0, 1) := by decide +kernel
theorem dX9_least_2 : decode cX9_least 2 = .ok (.putfield 64, 3) := by decide +kernel
theorem dX9_least_5 : decode cX9_least 5 = .ok (.aload_n 0, 1) := by decide +kernel
theorem dX9_least_6 : decode cX9_least 6 = .ok (.invokevirtual 408, 3) := by decide +kernel
theorem dX9_least_9 : decode cX9_least 9 = .ok (.aload_n 0, 1) := by decide +kernel
theorem dX9_least_10 : decode cX9_least 10 = .ok (.getfield 200, 3) := by decide +kernel
theorem dX9_least_13 : decode cX9_least 13 = .ok (.ireturn, 1) := by decide +kernel
theorem dX9_placedThen_0 : decode cX9_placedThen 0 = .ok (.aload_n 0, 1) := by decide +kernel
theorem dX9_placedThen_1 : decode cX9_placedThen 1 = .ok (.iconst 0, 1) := by decide +kernel
theorem dX9_placedThen_2 : decode cX9_placedThen 2 = .ok (.putfield 64, 3) := by decide +kernel
theorem dX9_placedThen_5 : decode cX9_placedThen 5 = .ok (.aload_n 0, 1) := by decide +kernel
theorem dX9_placedThen_6 : decode cX9_placedThen 6 = .ok (.invokevirtual 408, 3) := by decide +kernel
theorem dX9_placedThen_9 : decode cX9_placedThen 9 = .ok (.aload_n 0, 1) := by decide +kernel
theorem dX9_placedThen_10 : decode cX9_placedThen 10 = .ok (.getfield 197, 3) := by decide +kernel
theorem dX9_placedThen_13 : decode cX9_placedThen 13 = .ok (.ireturn, 1) := by decide +kernel
theorem dX9_arranged_0 : decode cX9_arranged 0 = .ok (.aload_n 0, 1) := by decide +kernel
theorem dX9_arranged_1 : decode cX9_arranged 1 = .ok (.iload_n 1, 1) := by decide +kernel
theorem dX9_arranged_2 : decode cX9_arranged 2 = .ok (.invokevirtual 388, 3) := by decide +kernel
theorem dX9_arranged_5 : decode cX9_arranged 5 = .ok (.ifCond .ne 5, 3) := by decide +kernel
theorem dX9_arranged_8 : decode cX9_arranged 8 = .ok (.iconst 0, 1) := by decide +kernel
theorem dX9_arranged_9 : decode cX9_arranged 9 = .ok (.ireturn, 1) := by decide +kernel
theorem dX9_arranged_10 : decode cX9_arranged 10 = .ok (.aload_n 0, 1) := by decide +kernel
theorem dX9_arranged_11 : decode cX9_arranged 11 = .ok (.invokevirtual 408, 3) := by decide +kernel
theorem dX9_arranged_14 : decode cX9_arranged 14 = .ok (.aload_n 0, 1) := by decide +kernel
theorem dX9_arranged_15 : decode cX9_arranged 15 = .ok (.getfield 38, 3) := by decide +kernel
theorem dX9_arranged_18 : decode cX9_arranged 18 = .ok (.iload_n 1, 1) := by decide +kernel
theorem dX9_arranged_19 : decode cX9_arranged 19 = .ok (.iaload, 1) := by decide +kernel
theorem dX9_arranged_20 : decode cX9_arranged 20 = .ok (.ireturn, 1) := by decide +kernel
theorem dX9_leastIf_0 : decode cX9_leastIf 0 = .ok (.aload_n 0, 1) := by decide +kernel
theorem dX9_leastIf_1 : decode cX9_leastIf 1 = .ok (.iload_n 1, 1) := by decide +kernel
theorem dX9_leastIf_2 : decode cX9_leastIf 2 = .ok (.invokevirtual 388, 3) := by decide +kernel
theorem dX9_leastIf_5 : decode cX9_leastIf 5 = .ok (.ifCond .ne 5, 3) := by decide +kernel
theorem dX9_leastIf_8 : decode cX9_leastIf 8 = .ok (.iconst 0, 1) := by decide +kernel
theorem dX9_leastIf_9 : decode cX9_leastIf 9 = .ok (.ireturn, 1) := by decide +kernel
theorem dX9_leastIf_10 : decode cX9_leastIf 10 = .ok (.aload_n 0, 1) := by decide +kernel
theorem dX9_leastIf_11 : decode cX9_leastIf 11 = .ok (.iload_n 1, 1) := by decide +kernel
theorem dX9_leastIf_12 : decode cX9_leastIf 12 = .ok (.iload_n 2, 1) := by decide +kernel
theorem dX9_leastIf_13 : decode cX9_leastIf 13 = .ok (.invokevirtual 411, 3) := by decide +kernel
theorem dX9_leastIf_16 : decode cX9_leastIf 16 = .ok (.aload_n 0, 1) := by decide +kernel
theorem dX9_leastIf_17 : decode cX9_leastIf 17 = .ok (.getfield 200, 3) := by decide +kernel
theorem dX9_leastIf_20 : decode cX9_leastIf 20 = .ok (.ireturn, 1) := by decide +kernel
theorem dX9_placedIf_0 : decode cX9_placedIf 0 = .ok (.aload_n 0, 1) := by decide +kernel
theorem dX9_placedIf_1 : decode cX9_placedIf 1 = .ok (.iload_n 1, 1) := by decide +kernel
theorem dX9_placedIf_2 : decode cX9_placedIf 2 = .ok (.invokevirtual 388, 3) := by decide +kernel
theorem dX9_placedIf_5 : decode cX9_placedIf 5 = .ok (.ifCond .ne 5, 3) := by decide +kernel
theorem dX9_placedIf_8 : decode cX9_placedIf 8 = .ok (.iconst 0, 1) := by decide +kernel
theorem dX9_placedIf_9 : decode cX9_placedIf 9 = .ok (.ireturn, 1) := by decide +kernel
theorem dX9_placedIf_10 : decode cX9_placedIf 10 = .ok (.aload_n 0, 1) := by decide +kernel
theorem dX9_placedIf_11 : decode cX9_placedIf 11 = .ok (.iload_n 1, 1) := by decide +kernel
theorem dX9_placedIf_12 : decode cX9_placedIf 12 = .ok (.iload_n 2, 1) := by decide +kernel
theorem dX9_placedIf_13 : decode cX9_placedIf 13 = .ok (.invokevirtual 411, 3) := by decide +kernel
theorem dX9_placedIf_16 : decode cX9_placedIf 16 = .ok (.aload_n 0, 1) := by decide +kernel
theorem dX9_placedIf_17 : decode cX9_placedIf 17 = .ok (.getfield 197, 3) := by decide +kernel
theorem dX9_placedIf_20 : decode cX9_placedIf 20 = .ok (.ireturn, 1) := by decide +kernel
theorem dX9_shy_0 : decode cX9_shy 0 = .ok (.aload_n 0, 1) := by decide +kernel
theorem dX9_shy_1 : decode cX9_shy 1 = .ok (.iconst 0, 1) := by decide +kernel
theorem dX9_shy_2 : decode cX9_shy 2 = .ok (.putfield 64, 3) := by decide +kernel
theorem dX9_shy_5 : decode cX9_shy 5 = .ok (.iconst 0, 1) := by decide +kernel
theorem dX9_shy_6 : decode cX9_shy 6 = .ok (.istore_n 1, 1) := by decide +kernel
theorem dX9_shy_7 : decode cX9_shy 7 = .ok (.iconst 0, 1) := by decide +kernel
theorem dX9_shy_8 : decode cX9_shy 8 = .ok (.istore_n 2, 1) := by decide +kernel
theorem dX9_shy_9 : decode cX9_shy 9 = .ok (.iload_n 2, 1) := by decide +kernel
theorem dX9_shy_10 : decode cX9_shy 10 = .ok (.aload_n 0, 1) := by decide +kernel
theorem dX9_shy_11 : decode cX9_shy 11 = .ok (.getfield 7, 3) := by decide +kernel
theorem dX9_shy_14 : decode cX9_shy 14 = .ok (.iconst 2, 1) := by decide +kernel
theorem dX9_shy_15 : decode cX9_shy 15 = .ok (.iaload, 1) := by decide +kernel
theorem dX9_shy_16 : decode cX9_shy 16 = .ok (.if_icmp .ge 68, 3) := by decide +kernel
theorem dX9_shy_19 : decode cX9_shy 19 = .ok (.iconst 0, 1) := by decide +kernel
theorem dX9_shy_20 : decode cX9_shy 20 = .ok (.istore_n 3, 1) := by decide +kernel
theorem dX9_shy_21 : decode cX9_shy 21 = .ok (.iload_n 3, 1) := by decide +kernel
theorem dX9_shy_22 : decode cX9_shy 22 = .ok (.aload_n 0, 1) := by decide +kernel
theorem dX9_shy_23 : decode cX9_shy 23 = .ok (.getfield 7, 3) := by decide +kernel
theorem dX9_shy_26 : decode cX9_shy 26 = .ok (.iconst 2, 1) := by decide +kernel
theorem dX9_shy_27 : decode cX9_shy 27 = .ok (.iaload, 1) := by decide +kernel
theorem dX9_shy_28 : decode cX9_shy 28 = .ok (.if_icmp .ge 20, 3) := by decide +kernel
theorem dX9_shy_31 : decode cX9_shy 31 = .ok (.aload_n 0, 1) := by decide +kernel
theorem dX9_shy_32 : decode cX9_shy 32 = .ok (.getfield 41, 3) := by decide +kernel
theorem dX9_shy_35 : decode cX9_shy 35 = .ok (.iload_n 3, 1) := by decide +kernel
theorem dX9_shy_36 : decode cX9_shy 36 = .ok (.aload_n 0, 1) := by decide +kernel
theorem dX9_shy_37 : decode cX9_shy 37 = .ok (.iload_n 3, 1) := by decide +kernel
theorem dX9_shy_38 : decode cX9_shy 38 = .ok (.invokevirtual 124, 3) := by decide +kernel
theorem dX9_shy_41 : decode cX9_shy 41 = .ok (.bastore, 1) := by decide +kernel
theorem dX9_shy_42 : decode cX9_shy 42 = .ok (.iinc 3 1, 3) := by decide +kernel
theorem dX9_shy_45 : decode cX9_shy 45 = .ok (.goto (-24), 3) := by decide +kernel
theorem dX9_shy_48 : decode cX9_shy 48 = .ok (.aload_n 0, 1) := by decide +kernel
theorem dX9_shy_49 : decode cX9_shy 49 = .ok (.iload_n 2, 1) := by decide +kernel
theorem dX9_shy_50 : decode cX9_shy 50 = .ok (.invokevirtual 207, 3) := by decide +kernel
theorem dX9_shy_53 : decode cX9_shy 53 = .ok (.iload_n 1, 1) := by decide +kernel
theorem dX9_shy_54 : decode cX9_shy 54 = .ok (.aload_n 0, 1) := by decide +kernel
theorem dX9_shy_55 : decode cX9_shy 55 = .ok (.getfield 197, 3) := by decide +kernel
theorem dX9_shy_58 : decode cX9_shy 58 = .ok (.aload_n 0, 1) := by decide +kernel
theorem dX9_shy_59 : decode cX9_shy 59 = .ok (.getfield 7, 3) := by decide +kernel
theorem dX9_shy_62 : decode cX9_shy 62 = .ok (.iconst 2, 1) := by decide +kernel
theorem dX9_shy_63 : decode cX9_shy 63 = .ok (.iaload, 1) := by decide +kernel
theorem dX9_shy_64 : decode cX9_shy 64 = .ok (.iconst 1, 1) := by decide +kernel
theorem dX9_shy_65 : decode cX9_shy 65 = .ok (.isub, 1) := by decide +kernel
theorem dX9_shy_66 : decode cX9_shy 66 = .ok (.if_icmp .ne 9, 3) := by decide +kernel
theorem dX9_shy_69 : decode cX9_shy 69 = .ok (.iconst 1, 1) := by decide +kernel
theorem dX9_shy_70 : decode cX9_shy 70 = .ok (.iload_n 2, 1) := by decide +kernel
theorem dX9_shy_71 : decode cX9_shy 71 = .ok (.ishl, 1) := by decide +kernel
theorem dX9_shy_72 : decode cX9_shy 72 = .ok (.goto 4, 3) := by decide +kernel
theorem dX9_shy_75 : decode cX9_shy 75 = .ok (.iconst 0, 1) := by decide +kernel
theorem dX9_shy_76 : decode cX9_shy 76 = .ok (.ior, 1) := by decide +kernel
theorem dX9_shy_77 : decode cX9_shy 77 = .ok (.istore_n 1, 1) := by decide +kernel
theorem dX9_shy_78 : decode cX9_shy 78 = .ok (.iinc 2 1, 3) := by decide +kernel
theorem dX9_shy_81 : decode cX9_shy 81 = .ok (.goto (-72), 3) := by decide +kernel
theorem dX9_shy_84 : decode cX9_shy 84 = .ok (.iload_n 1, 1) := by decide +kernel
theorem dX9_shy_85 : decode cX9_shy 85 = .ok (.ireturn, 1) := by decide +kernel
theorem dX9_mayCell_0 : decode cX9_mayCell 0 = .ok (.aload_n 0, 1) := by decide +kernel
theorem dX9_mayCell_1 : decode cX9_mayCell 1 = .ok (.aload_n 0, 1) := by decide +kernel
theorem dX9_mayCell_2 : decode cX9_mayCell 2 = .ok (.iload_n 1, 1) := by decide +kernel
theorem dX9_mayCell_3 : decode cX9_mayCell 3 = .ok (.invokevirtual 366, 3) := by decide +kernel
theorem dX9_mayCell_6 : decode cX9_mayCell 6 = .ok (.iconst 1, 1) := by decide +kernel
theorem dX9_mayCell_7 : decode cX9_mayCell 7 = .ok (.invokevirtual 355, 3) := by decide +kernel
theorem dX9_mayCell_10 : decode cX9_mayCell 10 = .ok (.ireturn, 1) := by decide +kernel
theorem dX9_wayLength_0 : decode cX9_wayLength 0 = .ok (.aload_n 0, 1) := by decide +kernel
theorem dX9_wayLength_1 : decode cX9_wayLength 1 = .ok (.iload_n 1, 1) := by decide +kernel
theorem dX9_wayLength_2 : decode cX9_wayLength 2 = .ok (.invokevirtual 415, 3) := by decide +kernel
theorem dX9_wayLength_5 : decode cX9_wayLength 5 = .ok (.ifCond .ne 5, 3) := by decide +kernel
theorem dX9_wayLength_8 : decode cX9_wayLength 8 = .ok (.iconst 0, 1) := by decide +kernel
theorem dX9_wayLength_9 : decode cX9_wayLength 9 = .ok (.ireturn, 1) := by decide +kernel
theorem dX9_wayLength_10 : decode cX9_wayLength 10 = .ok (.aload_n 0, 1) := by decide +kernel
theorem dX9_wayLength_11 : decode cX9_wayLength 11 = .ok (.iload_n 1, 1) := by decide +kernel
theorem dX9_wayLength_12 : decode cX9_wayLength 12 = .ok (.invokevirtual 327, 3) := by decide +kernel
theorem dX9_wayLength_15 : decode cX9_wayLength 15 = .ok (.ifCond .eq 10, 3) := by decide +kernel
theorem dX9_wayLength_18 : decode cX9_wayLength 18 = .ok (.aload_n 0, 1) := by decide +kernel
theorem dX9_wayLength_19 : decode cX9_wayLength 19 = .ok (.getfield 158, 3) := by decide +kernel
theorem dX9_wayLength_22 : decode cX9_wayLength 22 = .ok (.goto 5, 3) := by decide +kernel
theorem dX9_wayLength_25 : decode cX9_wayLength 25 = .ok (.bipush (-3), 2) := by decide +kernel
theorem dX9_wayLength_27 : decode cX9_wayLength 27 = .ok (.ireturn, 1) := by decide +kernel
theorem dX9_wayCell_0 : decode cX9_wayCell 0 = .ok (.aload_n 0, 1) := by decide +kernel
theorem dX9_wayCell_1 : decode cX9_wayCell 1 = .ok (.iload_n 1, 1) := by decide +kernel
theorem dX9_wayCell_2 : decode cX9_wayCell 2 = .ok (.invokevirtual 415, 3) := by decide +kernel
theorem dX9_wayCell_5 : decode cX9_wayCell 5 = .ok (.ifCond .ne 5, 3) := by decide +kernel
theorem dX9_wayCell_8 : decode cX9_wayCell 8 = .ok (.iconst 0, 1) := by decide +kernel
theorem dX9_wayCell_9 : decode cX9_wayCell 9 = .ok (.ireturn, 1) := by decide +kernel
theorem dX9_wayCell_10 : decode cX9_wayCell 10 = .ok (.aload_n 0, 1) := by decide +kernel
theorem dX9_wayCell_11 : decode cX9_wayCell 11 = .ok (.iload_n 1, 1) := by decide +kernel
theorem dX9_wayCell_12 : decode cX9_wayCell 12 = .ok (.invokevirtual 327, 3) := by decide +kernel
theorem dX9_wayCell_15 : decode cX9_wayCell 15 = .ok (.ifCond .eq 28, 3) := by decide +kernel
theorem dX9_wayCell_18 : decode cX9_wayCell 18 = .ok (.iload_n 2, 1) := by decide +kernel
theorem dX9_wayCell_19 : decode cX9_wayCell 19 = .ok (.i2l, 1) := by decide +kernel
theorem dX9_wayCell_20 : decode cX9_wayCell 20 = .ok (.lconst 0, 1) := by decide +kernel
theorem dX9_wayCell_21 : decode cX9_wayCell 21 = .ok (.aload_n 0, 1) := by decide +kernel
theorem dX9_wayCell_22 : decode cX9_wayCell 22 = .ok (.getfield 158, 3) := by decide +kernel
theorem dX9_wayCell_25 : decode cX9_wayCell 25 = .ok (.iconst 1, 1) := by decide +kernel
theorem dX9_wayCell_26 : decode cX9_wayCell 26 = .ok (.isub, 1) := by decide +kernel
theorem dX9_wayCell_27 : decode cX9_wayCell 27 = .ok (.i2l, 1) := by decide +kernel
theorem dX9_wayCell_28 : decode cX9_wayCell 28 = .ok (.invokestatic 78, 3) := by decide +kernel
theorem dX9_wayCell_31 : decode cX9_wayCell 31 = .ok (.ifCond .eq 12, 3) := by decide +kernel
theorem dX9_wayCell_34 : decode cX9_wayCell 34 = .ok (.aload_n 0, 1) := by decide +kernel
theorem dX9_wayCell_35 : decode cX9_wayCell 35 = .ok (.getfield 32, 3) := by decide +kernel
theorem dX9_wayCell_38 : decode cX9_wayCell 38 = .ok (.iload_n 2, 1) := by decide +kernel
theorem dX9_wayCell_39 : decode cX9_wayCell 39 = .ok (.iaload, 1) := by decide +kernel
theorem dX9_wayCell_40 : decode cX9_wayCell 40 = .ok (.goto 4, 3) := by decide +kernel
theorem dX9_wayCell_43 : decode cX9_wayCell 43 = .ok (.iconst (-1), 1) := by decide +kernel
theorem dX9_wayCell_44 : decode cX9_wayCell 44 = .ok (.ireturn, 1) := by decide +kernel
theorem dX9_washes_0 : decode cX9_washes 0 = .ok (.aload_n 0, 1) := by decide +kernel
theorem dX9_washes_1 : decode cX9_washes 1 = .ok (.iload_n 1, 1) := by decide +kernel
theorem dX9_washes_2 : decode cX9_washes 2 = .ok (.invokevirtual 415, 3) := by decide +kernel
theorem dX9_washes_5 : decode cX9_washes 5 = .ok (.ifCond .ne 5, 3) := by decide +kernel
theorem dX9_washes_8 : decode cX9_washes 8 = .ok (.iconst 0, 1) := by decide +kernel
theorem dX9_washes_9 : decode cX9_washes 9 = .ok (.ireturn, 1) := by decide +kernel
theorem dX9_washes_10 : decode cX9_washes 10 = .ok (.aload_n 0, 1) := by decide +kernel
theorem dX9_washes_11 : decode cX9_washes 11 = .ok (.iload_n 1, 1) := by decide +kernel
theorem dX9_washes_12 : decode cX9_washes 12 = .ok (.invokevirtual 327, 3) := by decide +kernel
theorem dX9_washes_15 : decode cX9_washes 15 = .ok (.ifCond .eq 10, 3) := by decide +kernel
theorem dX9_washes_18 : decode cX9_washes 18 = .ok (.aload_n 0, 1) := by decide +kernel
theorem dX9_washes_19 : decode cX9_washes 19 = .ok (.invokevirtual 170, 3) := by decide +kernel
theorem dX9_washes_22 : decode cX9_washes 22 = .ok (.goto 4, 3) := by decide +kernel
theorem dX9_washes_25 : decode cX9_washes 25 = .ok (.iconst 0, 1) := by decide +kernel
theorem dX9_washes_26 : decode cX9_washes 26 = .ok (.ireturn, 1) := by decide +kernel
theorem dX9_mildest_0 : decode cX9_mildest 0 = .ok (.aload_n 0, 1) := by decide +kernel
theorem dX9_mildest_1 : decode cX9_mildest 1 = .ok (.iconst 0, 1) := by decide +kernel
theorem dX9_mildest_2 : decode cX9_mildest 2 = .ok (.putfield 64, 3) := by decide +kernel
theorem dX9_mildest_5 : decode cX9_mildest 5 = .ok (.aload_n 0, 1) := by decide +kernel
theorem dX9_mildest_6 : decode cX9_mildest 6 = .ok (.invokevirtual 164, 3) := by decide +kernel
theorem dX9_mildest_9 : decode cX9_mildest 9 = .ok (.iconst (-1), 1) := by decide +kernel
theorem dX9_mildest_10 : decode cX9_mildest 10 = .ok (.istore_n 1, 1) := by decide +kernel
theorem dX9_mildest_11 : decode cX9_mildest 11 = .ok (.iconst 0, 1) := by decide +kernel
theorem dX9_mildest_12 : decode cX9_mildest 12 = .ok (.istore_n 2, 1) := by decide +kernel
theorem dX9_mildest_13 : decode cX9_mildest 13 = .ok (.iconst 0, 1) := by decide +kernel
theorem dX9_mildest_14 : decode cX9_mildest 14 = .ok (.istore_n 3, 1) := by decide +kernel
theorem dX9_mildest_15 : decode cX9_mildest 15 = .ok (.iconst 0, 1) := by decide +kernel
theorem dX9_mildest_16 : decode cX9_mildest 16 = .ok (.istore 4, 2) := by decide +kernel
theorem dX9_mildest_18 : decode cX9_mildest 18 = .ok (.iload 4, 2) := by decide +kernel
theorem dX9_mildest_20 : decode cX9_mildest 20 = .ok (.aload_n 0, 1) := by decide +kernel
theorem dX9_mildest_21 : decode cX9_mildest 21 = .ok (.invokevirtual 74, 3) := by decide +kernel
theorem dX9_mildest_24 : decode cX9_mildest 24 = .ok (.if_icmp .ge 66, 3) := by decide +kernel
theorem dX9_mildest_27 : decode cX9_mildest 27 = .ok (.aload_n 0, 1) := by decide +kernel
theorem dX9_mildest_28 : decode cX9_mildest 28 = .ok (.iload 4, 2) := by decide +kernel
theorem dX9_mildest_30 : decode cX9_mildest 30 = .ok (.invokevirtual 167, 3) := by decide +kernel
theorem dX9_mildest_33 : decode cX9_mildest 33 = .ok (.ifCond .ne 6, 3) := by decide +kernel
theorem dX9_mildest_36 : decode cX9_mildest 36 = .ok (.goto 48, 3) := by decide +kernel
theorem dX9_mildest_39 : decode cX9_mildest 39 = .ok (.aload_n 0, 1) := by decide +kernel
theorem dX9_mildest_40 : decode cX9_mildest 40 = .ok (.invokevirtual 170, 3) := by decide +kernel
theorem dX9_mildest_43 : decode cX9_mildest 43 = .ok (.invokestatic 139, 3) := by decide +kernel
theorem dX9_mildest_46 : decode cX9_mildest 46 = .ok (.istore 5, 2) := by decide +kernel
theorem dX9_mildest_48 : decode cX9_mildest 48 = .ok (.iload_n 1, 1) := by decide +kernel
theorem dX9_mildest_49 : decode cX9_mildest 49 = .ok (.iconst (-1), 1) := by decide +kernel
theorem dX9_mildest_50 : decode cX9_mildest 50 = .ok (.if_icmp .eq 23, 3) := by decide +kernel
theorem dX9_mildest_53 : decode cX9_mildest 53 = .ok (.iload 5, 2) := by decide +kernel
theorem dX9_mildest_55 : decode cX9_mildest 55 = .ok (.iload_n 2, 1) := by decide +kernel
theorem dX9_mildest_56 : decode cX9_mildest 56 = .ok (.if_icmp .lt 17, 3) := by decide +kernel
theorem dX9_mildest_59 : decode cX9_mildest 59 = .ok (.iload 5, 2) := by decide +kernel
theorem dX9_mildest_61 : decode cX9_mildest 61 = .ok (.iload_n 2, 1) := by decide +kernel
theorem dX9_mildest_62 : decode cX9_mildest 62 = .ok (.if_icmp .ne 22, 3) := by decide +kernel
theorem dX9_mildest_65 : decode cX9_mildest 65 = .ok (.aload_n 0, 1) := by decide +kernel
theorem dX9_mildest_66 : decode cX9_mildest 66 = .ok (.getfield 158, 3) := by decide +kernel
theorem dX9_mildest_69 : decode cX9_mildest 69 = .ok (.iload_n 3, 1) := by decide +kernel
theorem dX9_mildest_70 : decode cX9_mildest 70 = .ok (.if_icmp .le 14, 3) := by decide +kernel
theorem dX9_mildest_73 : decode cX9_mildest 73 = .ok (.iload 4, 2) := by decide +kernel
theorem dX9_mildest_75 : decode cX9_mildest 75 = .ok (.istore_n 1, 1) := by decide +kernel
theorem dX9_mildest_76 : decode cX9_mildest 76 = .ok (.iload 5, 2) := by decide +kernel
theorem dX9_mildest_78 : decode cX9_mildest 78 = .ok (.istore_n 2, 1) := by decide +kernel
theorem dX9_mildest_79 : decode cX9_mildest 79 = .ok (.aload_n 0, 1) := by decide +kernel
theorem dX9_mildest_80 : decode cX9_mildest 80 = .ok (.getfield 158, 3) := by decide +kernel
theorem dX9_mildest_83 : decode cX9_mildest 83 = .ok (.istore_n 3, 1) := by decide +kernel
theorem dX9_mildest_84 : decode cX9_mildest 84 = .ok (.iinc 4 1, 3) := by decide +kernel
theorem dX9_mildest_87 : decode cX9_mildest 87 = .ok (.goto (-69), 3) := by decide +kernel
theorem dX9_mildest_90 : decode cX9_mildest 90 = .ok (.iload_n 1, 1) := by decide +kernel
theorem dX9_mildest_91 : decode cX9_mildest 91 = .ok (.ireturn, 1) := by decide +kernel
theorem dX9_drowns_0 : decode cX9_drowns 0 = .ok (.aload_n 0, 1) := by decide +kernel
theorem dX9_drowns_1 : decode cX9_drowns 1 = .ok (.iload_n 1, 1) := by decide +kernel
theorem dX9_drowns_2 : decode cX9_drowns 2 = .ok (.invokevirtual 415, 3) := by decide +kernel
theorem dX9_drowns_5 : decode cX9_drowns 5 = .ok (.ifCond .eq 11, 3) := by decide +kernel
theorem dX9_drowns_8 : decode cX9_drowns 8 = .ok (.aload_n 0, 1) := by decide +kernel
theorem dX9_drowns_9 : decode cX9_drowns 9 = .ok (.iload_n 1, 1) := by decide +kernel
theorem dX9_drowns_10 : decode cX9_drowns 10 = .ok (.invokevirtual 145, 3) := by decide +kernel
theorem dX9_drowns_13 : decode cX9_drowns 13 = .ok (.goto 4, 3) := by decide +kernel
theorem dX9_drowns_16 : decode cX9_drowns 16 = .ok (.iconst 0, 1) := by decide +kernel
theorem dX9_drowns_17 : decode cX9_drowns 17 = .ok (.ireturn, 1) := by decide +kernel
theorem dX9_place_0 : decode cX9_place 0 = .ok (.aload_n 0, 1) := by decide +kernel
theorem dX9_place_1 : decode cX9_place 1 = .ok (.aload_n 0, 1) := by decide +kernel
theorem dX9_place_2 : decode cX9_place 2 = .ok (.iload_n 1, 1) := by decide +kernel
theorem dX9_place_3 : decode cX9_place 3 = .ok (.invokevirtual 380, 3) := by decide +kernel
theorem dX9_place_6 : decode cX9_place 6 = .ok (.iload_n 2, 1) := by decide +kernel
theorem dX9_place_7 : decode cX9_place 7 = .ok (.invokestatic 396, 3) := by decide +kernel
theorem dX9_place_10 : decode cX9_place 10 = .ok (.invokevirtual 355, 3) := by decide +kernel
theorem dX9_place_13 : decode cX9_place 13 = .ok (.ifCond .ne 5, 3) := by decide +kernel
theorem dX9_place_16 : decode cX9_place 16 = .ok (.iconst 0, 1) := by decide +kernel
theorem dX9_place_17 : decode cX9_place 17 = .ok (.ireturn, 1) := by decide +kernel
theorem dX9_place_18 : decode cX9_place 18 = .ok (.aload_n 0, 1) := by decide +kernel
theorem dX9_place_19 : decode cX9_place 19 = .ok (.iload_n 1, 1) := by decide +kernel
theorem dX9_place_20 : decode cX9_place 20 = .ok (.iload_n 2, 1) := by decide +kernel
theorem dX9_place_21 : decode cX9_place 21 = .ok (.invokevirtual 344, 3) := by decide +kernel
theorem dX9_place_24 : decode cX9_place 24 = .ok (.ifCond .eq 6, 3) := by decide +kernel
theorem dX9_place_27 : decode cX9_place 27 = .ok (.bipush (-3), 2) := by decide +kernel
theorem dX9_place_29 : decode cX9_place 29 = .ok (.ireturn, 1) := by decide +kernel
theorem dX9_place_30 : decode cX9_place 30 = .ok (.aload_n 0, 1) := by decide +kernel
theorem dX9_place_31 : decode cX9_place 31 = .ok (.invokevirtual 418, 3) := by decide +kernel
theorem dX9_place_34 : decode cX9_place 34 = .ok (.aload_n 0, 1) := by decide +kernel
theorem dX9_place_35 : decode cX9_place 35 = .ok (.iload_n 1, 1) := by decide +kernel
theorem dX9_place_36 : decode cX9_place 36 = .ok (.iconst 2, 1) := by decide +kernel
theorem dX9_place_37 : decode cX9_place 37 = .ok (.invokevirtual 100, 3) := by decide +kernel
theorem dX9_place_40 : decode cX9_place 40 = .ok (.istore_n 3, 1) := by decide +kernel
theorem dX9_place_41 : decode cX9_place 41 = .ok (.aload_n 0, 1) := by decide +kernel
theorem dX9_place_42 : decode cX9_place 42 = .ok (.iload_n 1, 1) := by decide +kernel
theorem dX9_place_43 : decode cX9_place 43 = .ok (.iconst 2, 1) := by decide +kernel
theorem dX9_place_44 : decode cX9_place 44 = .ok (.iload_n 2, 1) := by decide +kernel
theorem dX9_place_45 : decode cX9_place 45 = .ok (.invokevirtual 135, 3) := by decide +kernel
theorem dX9_place_48 : decode cX9_place 48 = .ok (.iload_n 3, 1) := by decide +kernel
theorem dX9_place_49 : decode cX9_place 49 = .ok (.ireturn, 1) := by decide +kernel
theorem dX9_lift_0 : decode cX9_lift 0 = .ok (.aload_n 0, 1) := by decide +kernel
theorem dX9_lift_1 : decode cX9_lift 1 = .ok (.iload_n 1, 1) := by decide +kernel
theorem dX9_lift_2 : decode cX9_lift 2 = .ok (.invokevirtual 388, 3) := by decide +kernel
theorem dX9_lift_5 : decode cX9_lift 5 = .ok (.ifCond .ne 5, 3) := by decide +kernel
theorem dX9_lift_8 : decode cX9_lift 8 = .ok (.iconst 0, 1) := by decide +kernel
theorem dX9_lift_9 : decode cX9_lift 9 = .ok (.ireturn, 1) := by decide +kernel
theorem dX9_lift_10 : decode cX9_lift 10 = .ok (.aload_n 0, 1) := by decide +kernel
theorem dX9_lift_11 : decode cX9_lift 11 = .ok (.iload_n 1, 1) := by decide +kernel
theorem dX9_lift_12 : decode cX9_lift 12 = .ok (.iconst 2, 1) := by decide +kernel
theorem dX9_lift_13 : decode cX9_lift 13 = .ok (.invokevirtual 100, 3) := by decide +kernel
theorem dX9_lift_16 : decode cX9_lift 16 = .ok (.istore_n 2, 1) := by decide +kernel
theorem dX9_lift_17 : decode cX9_lift 17 = .ok (.iload_n 2, 1) := by decide +kernel
theorem dX9_lift_18 : decode cX9_lift 18 = .ok (.iconst (-1), 1) := by decide +kernel
theorem dX9_lift_19 : decode cX9_lift 19 = .ok (.if_icmp .ne 6, 3) := by decide +kernel
theorem dX9_lift_22 : decode cX9_lift 22 = .ok (.bipush (-3), 2) := by decide +kernel
theorem dX9_lift_24 : decode cX9_lift 24 = .ok (.ireturn, 1) := by decide +kernel
theorem dX9_lift_25 : decode cX9_lift 25 = .ok (.aload_n 0, 1) := by decide +kernel
theorem dX9_lift_26 : decode cX9_lift 26 = .ok (.invokevirtual 418, 3) := by decide +kernel
theorem dX9_lift_29 : decode cX9_lift 29 = .ok (.aload_n 0, 1) := by decide +kernel
theorem dX9_lift_30 : decode cX9_lift 30 = .ok (.iload_n 1, 1) := by decide +kernel
theorem dX9_lift_31 : decode cX9_lift 31 = .ok (.iconst 2, 1) := by decide +kernel
theorem dX9_lift_32 : decode cX9_lift 32 = .ok (.iconst (-1), 1) := by decide +kernel
theorem dX9_lift_33 : decode cX9_lift 33 = .ok (.invokevirtual 135, 3) := by decide +kernel
theorem dX9_lift_36 : decode cX9_lift 36 = .ok (.iload_n 2, 1) := by decide +kernel
theorem dX9_lift_37 : decode cX9_lift 37 = .ok (.ireturn, 1) := by decide +kernel
theorem dX9_arrange_0 : decode cX9_arrange 0 = .ok (.aload_n 0, 1) := by decide +kernel
theorem dX9_arrange_1 : decode cX9_arrange 1 = .ok (.iconst 0, 1) := by decide +kernel
theorem dX9_arrange_2 : decode cX9_arrange 2 = .ok (.putfield 64, 3) := by decide +kernel
theorem dX9_arrange_5 : decode cX9_arrange 5 = .ok (.aload_n 0, 1) := by decide +kernel
theorem dX9_arrange_6 : decode cX9_arrange 6 = .ok (.invokevirtual 408, 3) := by decide +kernel
theorem dX9_arrange_9 : decode cX9_arrange 9 = .ok (.aload_n 0, 1) := by decide +kernel
theorem dX9_arrange_10 : decode cX9_arrange 10 = .ok (.invokevirtual 418, 3) := by decide +kernel
theorem dX9_arrange_13 : decode cX9_arrange 13 = .ok (.iconst 0, 1) := by decide +kernel
theorem dX9_arrange_14 : decode cX9_arrange 14 = .ok (.istore_n 1, 1) := by decide +kernel
theorem dX9_arrange_15 : decode cX9_arrange 15 = .ok (.iload_n 1, 1) := by decide +kernel
theorem dX9_arrange_16 : decode cX9_arrange 16 = .ok (.aload_n 0, 1) := by decide +kernel
theorem dX9_arrange_17 : decode cX9_arrange 17 = .ok (.getfield 7, 3) := by decide +kernel
theorem dX9_arrange_20 : decode cX9_arrange 20 = .ok (.iconst 2, 1) := by decide +kernel
theorem dX9_arrange_21 : decode cX9_arrange 21 = .ok (.iaload, 1) := by decide +kernel
theorem dX9_arrange_22 : decode cX9_arrange 22 = .ok (.if_icmp .ge 21, 3) := by decide +kernel
theorem dX9_arrange_25 : decode cX9_arrange 25 = .ok (.aload_n 0, 1) := by decide +kernel
theorem dX9_arrange_26 : decode cX9_arrange 26 = .ok (.iload_n 1, 1) := by decide +kernel
theorem dX9_arrange_27 : decode cX9_arrange 27 = .ok (.iconst 2, 1) := by decide +kernel
theorem dX9_arrange_28 : decode cX9_arrange 28 = .ok (.aload_n 0, 1) := by decide +kernel
theorem dX9_arrange_29 : decode cX9_arrange 29 = .ok (.getfield 38, 3) := by decide +kernel
theorem dX9_arrange_32 : decode cX9_arrange 32 = .ok (.iload_n 1, 1) := by decide +kernel
theorem dX9_arrange_33 : decode cX9_arrange 33 = .ok (.iaload, 1) := by decide +kernel
theorem dX9_arrange_34 : decode cX9_arrange 34 = .ok (.invokevirtual 135, 3) := by decide +kernel
theorem dX9_arrange_37 : decode cX9_arrange 37 = .ok (.iinc 1 1, 3) := by decide +kernel
theorem dX9_arrange_40 : decode cX9_arrange 40 = .ok (.goto (-25), 3) := by decide +kernel
theorem dX9_arrange_43 : decode cX9_arrange 43 = .ok (.aload_n 0, 1) := by decide +kernel
theorem dX9_arrange_44 : decode cX9_arrange 44 = .ok (.getfield 197, 3) := by decide +kernel
theorem dX9_arrange_47 : decode cX9_arrange 47 = .ok (.ireturn, 1) := by decide +kernel
theorem dX9_setRed_0 : decode cX9_setRed 0 = .ok (.aload_n 0, 1) := by decide +kernel
theorem dX9_setRed_1 : decode cX9_setRed 1 = .ok (.iload_n 1, 1) := by decide +kernel
theorem dX9_setRed_2 : decode cX9_setRed 2 = .ok (.invokevirtual 388, 3) := by decide +kernel
theorem dX9_setRed_5 : decode cX9_setRed 5 = .ok (.ifCond .ne 5, 3) := by decide +kernel
theorem dX9_setRed_8 : decode cX9_setRed 8 = .ok (.iconst 0, 1) := by decide +kernel
theorem dX9_setRed_9 : decode cX9_setRed 9 = .ok (.ireturn, 1) := by decide +kernel
theorem dX9_setRed_10 : decode cX9_setRed 10 = .ok (.aload_n 0, 1) := by decide +kernel
theorem dX9_setRed_11 : decode cX9_setRed 11 = .ok (.invokevirtual 418, 3) := by decide +kernel
theorem dX9_setRed_14 : decode cX9_setRed 14 = .ok (.aload_n 0, 1) := by decide +kernel
theorem dX9_setRed_15 : decode cX9_setRed 15 = .ok (.iload_n 1, 1) := by decide +kernel
theorem dX9_setRed_16 : decode cX9_setRed 16 = .ok (.invokevirtual 124, 3) := by decide +kernel
theorem dX9_setRed_19 : decode cX9_setRed 19 = .ok (.istore_n 3, 1) := by decide +kernel
theorem dX9_setRed_20 : decode cX9_setRed 20 = .ok (.aload_n 0, 1) := by decide +kernel
theorem dX9_setRed_21 : decode cX9_setRed 21 = .ok (.iload_n 1, 1) := by decide +kernel
theorem dX9_setRed_22 : decode cX9_setRed 22 = .ok (.iconst 1, 1) := by decide +kernel
theorem dX9_setRed_23 : decode cX9_setRed 23 = .ok (.iload_n 2, 1) := by decide +kernel
theorem dX9_setRed_24 : decode cX9_setRed 24 = .ok (.ifCond .eq 7, 3) := by decide +kernel
theorem dX9_setRed_27 : decode cX9_setRed 27 = .ok (.iconst 1, 1) := by decide +kernel
theorem dX9_setRed_28 : decode cX9_setRed 28 = .ok (.goto 4, 3) := by decide +kernel
