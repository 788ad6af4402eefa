theorem dX8_free_13 : decode cX8_free 13 = .ok (.iconst 0, 1) := by decide +kernel
theorem dX8_free_14 : decode cX8_free 14 = .ok (.istore_n 3, 1) := by decide +kernel
theorem dX8_free_15 : decode cX8_free 15 = .ok (.iload_n 3, 1) := by decide +kernel
theorem dX8_free_16 : decode cX8_free 16 = .ok (.iload_n 1, 1) := by decide +kernel
theorem dX8_free_17 : decode cX8_free 17 = .ok (.if_icmp .ge 34, 3) := by decide +kernel
theorem dX8_free_20 : decode cX8_free 20 = .ok (.aload_n 0, 1) := by decide +kernel
theorem dX8_free_21 : decode cX8_free 21 = .ok (.getfield 10, 3) := by decide +kernel
theorem dX8_free_24 : decode cX8_free 24 = .ok (.iload_n 3, 1) := by decide +kernel
theorem dX8_free_25 : decode cX8_free 25 = .ok (.invokevirtual 231, 3) := by decide +kernel
theorem dX8_free_28 : decode cX8_free 28 = .ok (.ifCond .eq 17, 3) := by decide +kernel
theorem dX8_free_31 : decode cX8_free 31 = .ok (.aload_n 0, 1) := by decide +kernel
theorem dX8_free_32 : decode cX8_free 32 = .ok (.getfield 10, 3) := by decide +kernel
theorem dX8_free_35 : decode cX8_free 35 = .ok (.iload_n 3, 1) := by decide +kernel
theorem dX8_free_36 : decode cX8_free 36 = .ok (.invokevirtual 180, 3) := by decide +kernel
theorem dX8_free_39 : decode cX8_free 39 = .ok (.ifCond .ne 6, 3) := by decide +kernel
theorem dX8_free_42 : decode cX8_free 42 = .ok (.iinc 2 1, 3) := by decide +kernel
theorem dX8_free_45 : decode cX8_free 45 = .ok (.iinc 3 1, 3) := by decide +kernel
theorem dX8_free_48 : decode cX8_free 48 = .ok (.goto (-33), 3) := by decide +kernel
theorem dX8_free_51 : decode cX8_free 51 = .ok (.iload_n 2, 1) := by decide +kernel
theorem dX8_free_52 : decode cX8_free 52 = .ok (.ireturn, 1) := by decide +kernel
theorem dX8_upright_0 : decode cX8_upright 0 = .ok (.iload_n 1, 1) := by decide +kernel
theorem dX8_upright_1 : decode cX8_upright 1 = .ok (.invokestatic 240, 3) := by decide +kernel
theorem dX8_upright_4 : decode cX8_upright 4 = .ok (.iconst 0, 1) := by decide +kernel
theorem dX8_upright_5 : decode cX8_upright 5 = .ok (.istore_n 2, 1) := by decide +kernel
theorem dX8_upright_6 : decode cX8_upright 6 = .ok (.iconst 0, 1) := by decide +kernel
theorem dX8_upright_7 : decode cX8_upright 7 = .ok (.istore_n 3, 1) := by decide +kernel
theorem dX8_upright_8 : decode cX8_upright 8 = .ok (.iload_n 3, 1) := by decide +kernel
theorem dX8_upright_9 : decode cX8_upright 9 = .ok (.aload_n 0, 1) := by decide +kernel
theorem dX8_upright_10 : decode cX8_upright 10 = .ok (.getfield 10, 3) := by decide +kernel
theorem dX8_upright_13 : decode cX8_upright 13 = .ok (.getfield 97, 3) := by decide +kernel
theorem dX8_upright_16 : decode cX8_upright 16 = .ok (.getfield 101, 3) := by decide +kernel
theorem dX8_upright_19 : decode cX8_upright 19 = .ok (.if_icmp .ge 43, 3) := by decide +kernel
theorem dX8_upright_22 : decode cX8_upright 22 = .ok (.aload_n 0, 1) := by decide +kernel
theorem dX8_upright_23 : decode cX8_upright 23 = .ok (.getfield 10, 3) := by decide +kernel
theorem dX8_upright_26 : decode cX8_upright 26 = .ok (.getfield 97, 3) := by decide +kernel
theorem dX8_upright_29 : decode cX8_upright 29 = .ok (.iload_n 3, 1) := by decide +kernel
theorem dX8_upright_30 : decode cX8_upright 30 = .ok (.invokevirtual 197, 3) := by decide +kernel
theorem dX8_upright_33 : decode cX8_upright 33 = .ok (.istore 4, 2) := by decide +kernel
theorem dX8_upright_35 : decode cX8_upright 35 = .ok (.iload 4, 2) := by decide +kernel
theorem dX8_upright_37 : decode cX8_upright 37 = .ok (.iconst (-1), 1) := by decide +kernel
theorem dX8_upright_38 : decode cX8_upright 38 = .ok (.if_icmp .eq 18, 3) := by decide +kernel
theorem dX8_upright_41 : decode cX8_upright 41 = .ok (.iload 4, 2) := by decide +kernel
theorem dX8_upright_43 : decode cX8_upright 43 = .ok (.invokestatic 243, 3) := by decide +kernel
theorem dX8_upright_46 : decode cX8_upright 46 = .ok (.iload_n 1, 1) := by decide +kernel
theorem dX8_upright_47 : decode cX8_upright 47 = .ok (.if_icmp .ne 9, 3) := by decide +kernel
theorem dX8_upright_50 : decode cX8_upright 50 = .ok (.iload_n 2, 1) := by decide +kernel
theorem dX8_upright_51 : decode cX8_upright 51 = .ok (.iconst 1, 1) := by decide +kernel
theorem dX8_upright_52 : decode cX8_upright 52 = .ok (.iload_n 3, 1) := by decide +kernel
theorem dX8_upright_53 : decode cX8_upright 53 = .ok (.ishl, 1) := by decide +kernel
theorem dX8_upright_54 : decode cX8_upright 54 = .ok (.ior, 1) := by decide +kernel
theorem dX8_upright_55 : decode cX8_upright 55 = .ok (.istore_n 2, 1) := by decide +kernel
theorem dX8_upright_56 : decode cX8_upright 56 = .ok (.iinc 3 1, 3) := by decide +kernel
theorem dX8_upright_59 : decode cX8_upright 59 = .ok (.goto (-51), 3) := by decide +kernel
theorem dX8_upright_62 : decode cX8_upright 62 = .ok (.iload_n 2, 1) := by decide +kernel
theorem dX8_upright_63 : decode cX8_upright 63 = .ok (.ireturn, 1) := by decide +kernel
theorem dX8_turning_0 : decode cX8_turning 0 = .ok (.aload_n 0, 1) := by decide +kernel
theorem dX8_turning_1 : decode cX8_turning 1 = .ok (.getfield 10, 3) := by decide +kernel
theorem dX8_turning_4 : decode cX8_turning 4 = .ok (.aload_n 0, 1) := by decide +kernel
theorem dX8_turning_5 : decode cX8_turning 5 = .ok (.getfield 10, 3) := by decide +kernel
theorem dX8_turning_8 : decode cX8_turning 8 = .ok (.getfield 137, 3) := by decide +kernel
theorem dX8_turning_11 : decode cX8_turning 11 = .ok (.getfield 144, 3) := by decide +kernel
theorem dX8_turning_14 : decode cX8_turning 14 = .ok (.invokevirtual 246, 3) := by decide +kernel
theorem dX8_turning_17 : decode cX8_turning 17 = .ok (.ireturn, 1) := by decide +kernel
theorem dX8_turningFrom_0 : decode cX8_turningFrom 0 = .ok (.iload_n 1, 1) := by decide +kernel
theorem dX8_turningFrom_1 : decode cX8_turningFrom 1 = .ok (.invokestatic 240, 3) := by decide +kernel
theorem dX8_turningFrom_4 : decode cX8_turningFrom 4 = .ok (.aload_n 0, 1) := by decide +kernel
theorem dX8_turningFrom_5 : decode cX8_turningFrom 5 = .ok (.getfield 10, 3) := by decide +kernel
theorem dX8_turningFrom_8 : decode cX8_turningFrom 8 = .ok (.iload_n 1, 1) := by decide +kernel
theorem dX8_turningFrom_9 : decode cX8_turningFrom 9 = .ok (.invokevirtual 246, 3) := by decide +kernel
theorem dX8_turningFrom_12 : decode cX8_turningFrom 12 = .ok (.ireturn, 1) := by decide +kernel
theorem dX8_bestTurn_0 : decode cX8_bestTurn 0 = .ok (.iconst 0, 1) := by decide +kernel
theorem dX8_bestTurn_1 : decode cX8_bestTurn 1 = .ok (.istore_n 1, 1) := by decide +kernel
theorem dX8_bestTurn_2 : decode cX8_bestTurn 2 = .ok (.aload_n 0, 1) := by decide +kernel
theorem dX8_bestTurn_3 : decode cX8_bestTurn 3 = .ok (.getfield 10, 3) := by decide +kernel
theorem dX8_bestTurn_6 : decode cX8_bestTurn 6 = .ok (.iconst 0, 1) := by decide +kernel
theorem dX8_bestTurn_7 : decode cX8_bestTurn 7 = .ok (.invokevirtual 246, 3) := by decide +kernel
theorem dX8_bestTurn_10 : decode cX8_bestTurn 10 = .ok (.istore_n 2, 1) := by decide +kernel
theorem dX8_bestTurn_11 : decode cX8_bestTurn 11 = .ok (.iconst 1, 1) := by decide +kernel
theorem dX8_bestTurn_12 : decode cX8_bestTurn 12 = .ok (.istore_n 3, 1) := by decide +kernel
theorem dX8_bestTurn_13 : decode cX8_bestTurn 13 = .ok (.iload_n 3, 1) := by decide +kernel
theorem dX8_bestTurn_14 : decode cX8_bestTurn 14 = .ok (.iconst 4, 1) := by decide +kernel
theorem dX8_bestTurn_15 : decode cX8_bestTurn 15 = .ok (.if_icmp .ge 30, 3) := by decide +kernel
theorem dX8_bestTurn_18 : decode cX8_bestTurn 18 = .ok (.aload_n 0, 1) := by decide +kernel
theorem dX8_bestTurn_19 : decode cX8_bestTurn 19 = .ok (.getfield 10, 3) := by decide +kernel
theorem dX8_bestTurn_22 : decode cX8_bestTurn 22 = .ok (.iload_n 3, 1) := by decide +kernel
theorem dX8_bestTurn_23 : decode cX8_bestTurn 23 = .ok (.invokevirtual 246, 3) := by decide +kernel
theorem dX8_bestTurn_26 : decode cX8_bestTurn 26 = .ok (.istore 4, 2) := by decide +kernel
theorem dX8_bestTurn_28 : decode cX8_bestTurn 28 = .ok (.iload 4, 2) := by decide +kernel
theorem dX8_bestTurn_30 : decode cX8_bestTurn 30 = .ok (.iload_n 2, 1) := by decide +kernel
theorem dX8_bestTurn_31 : decode cX8_bestTurn 31 = .ok (.if_icmp .ge 8, 3) := by decide +kernel
theorem dX8_bestTurn_34 : decode cX8_bestTurn 34 = .ok (.iload_n 3, 1) := by decide +kernel
theorem dX8_bestTurn_35 : decode cX8_bestTurn 35 = .ok (.istore_n 1, 1) := by decide +kernel
theorem dX8_bestTurn_36 : decode cX8_bestTurn 36 = .ok (.iload 4, 2) := by decide +kernel
theorem dX8_bestTurn_38 : decode cX8_bestTurn 38 = .ok (.istore_n 2, 1) := by decide +kernel
theorem dX8_bestTurn_39 : decode cX8_bestTurn 39 = .ok (.iinc 3 1, 3) := by decide +kernel
theorem dX8_bestTurn_42 : decode cX8_bestTurn 42 = .ok (.goto (-29), 3) := by decide +kernel
theorem dX8_bestTurn_45 : decode cX8_bestTurn 45 = .ok (.iload_n 1, 1) := by decide +kernel
theorem dX8_bestTurn_46 : decode cX8_bestTurn 46 = .ok (.ireturn, 1) := by decide +kernel
theorem dX8_hardest_0 : decode cX8_hardest 0 = .ok (.iconst (-1), 1) := by decide +kernel
theorem dX8_hardest_1 : decode cX8_hardest 1 = .ok (.istore_n 1, 1) := by decide +kernel
theorem dX8_hardest_2 : decode cX8_hardest 2 = .ok (.iconst 0, 1) := by decide +kernel
theorem dX8_hardest_3 : decode cX8_hardest 3 = .ok (.istore_n 2, 1) := by decide +kernel
theorem dX8_hardest_4 : decode cX8_hardest 4 = .ok (.aload_n 0, 1) := by decide +kernel
theorem dX8_hardest_5 : decode cX8_hardest 5 = .ok (.getfield 10, 3) := by decide +kernel
theorem dX8_hardest_8 : decode cX8_hardest 8 = .ok (.getfield 137, 3) := by decide +kernel
theorem dX8_hardest_11 : decode cX8_hardest 11 = .ok (.getfield 144, 3) := by decide +kernel
theorem dX8_hardest_14 : decode cX8_hardest 14 = .ok (.istore_n 3, 1) := by decide +kernel
theorem dX8_hardest_15 : decode cX8_hardest 15 = .ok (.iconst 0, 1) := by decide +kernel
theorem dX8_hardest_16 : decode cX8_hardest 16 = .ok (.istore 4, 2) := by decide +kernel
theorem dX8_hardest_18 : decode cX8_hardest 18 = .ok (.iload 4, 2) := by decide +kernel
theorem dX8_hardest_20 : decode cX8_hardest 20 = .ok (.aload_n 0, 1) := by decide +kernel
theorem dX8_hardest_21 : decode cX8_hardest 21 = .ok (.getfield 10, 3) := by decide +kernel
theorem dX8_hardest_24 : decode cX8_hardest 24 = .ok (.getfield 137, 3) := by decide +kernel
theorem dX8_hardest_27 : decode cX8_hardest 27 = .ok (.getfield 141, 3) := by decide +kernel
theorem dX8_hardest_30 : decode cX8_hardest 30 = .ok (.if_icmp .ge 68, 3) := by decide +kernel
theorem dX8_hardest_33 : decode cX8_hardest 33 = .ok (.aload_n 0, 1) := by decide +kernel
theorem dX8_hardest_34 : decode cX8_hardest 34 = .ok (.getfield 10, 3) := by decide +kernel
theorem dX8_hardest_37 : decode cX8_hardest 37 = .ok (.getfield 97, 3) := by decide +kernel
theorem dX8_hardest_40 : decode cX8_hardest 40 = .ok (.aload_n 0, 1) := by decide +kernel
theorem dX8_hardest_41 : decode cX8_hardest 41 = .ok (.getfield 10, 3) := by decide +kernel
theorem dX8_hardest_44 : decode cX8_hardest 44 = .ok (.getfield 137, 3) := by decide +kernel
theorem dX8_hardest_47 : decode cX8_hardest 47 = .ok (.iload 4, 2) := by decide +kernel
theorem dX8_hardest_49 : decode cX8_hardest 49 = .ok (.invokevirtual 218, 3) := by decide +kernel
theorem dX8_hardest_52 : decode cX8_hardest 52 = .ok (.invokevirtual 197, 3) := by decide +kernel
theorem dX8_hardest_55 : decode cX8_hardest 55 = .ok (.istore 5, 2) := by decide +kernel
theorem dX8_hardest_57 : decode cX8_hardest 57 = .ok (.iload 5, 2) := by decide +kernel
theorem dX8_hardest_59 : decode cX8_hardest 59 = .ok (.iconst (-1), 1) := by decide +kernel
theorem dX8_hardest_60 : decode cX8_hardest 60 = .ok (.if_icmp .eq 32, 3) := by decide +kernel
theorem dX8_hardest_63 : decode cX8_hardest 63 = .ok (.iload_n 3, 1) := by decide +kernel
theorem dX8_hardest_64 : decode cX8_hardest 64 = .ok (.iload 5, 2) := by decide +kernel
theorem dX8_hardest_66 : decode cX8_hardest 66 = .ok (.invokestatic 243, 3) := by decide +kernel
theorem dX8_hardest_69 : decode cX8_hardest 69 = .ok (.invokestatic 249, 3) := by decide +kernel
theorem dX8_hardest_72 : decode cX8_hardest 72 = .ok (.istore 6, 2) := by decide +kernel
theorem dX8_hardest_74 : decode cX8_hardest 74 = .ok (.iload 5, 2) := by decide +kernel
theorem dX8_hardest_76 : decode cX8_hardest 76 = .ok (.invokestatic 243, 3) := by decide +kernel
theorem dX8_hardest_79 : decode cX8_hardest 79 = .ok (.istore_n 3, 1) := by decide +kernel
theorem dX8_hardest_80 : decode cX8_hardest 80 = .ok (.iload 6, 2) := by decide +kernel
theorem dX8_hardest_82 : decode cX8_hardest 82 = .ok (.iload_n 2, 1) := by decide +kernel
theorem dX8_hardest_83 : decode cX8_hardest 83 = .ok (.if_icmp .le 9, 3) := by decide +kernel
theorem dX8_hardest_86 : decode cX8_hardest 86 = .ok (.iload 4, 2) := by decide +kernel
theorem dX8_hardest_88 : decode cX8_hardest 88 = .ok (.istore_n 1, 1) := by decide +kernel
theorem dX8_hardest_89 : decode cX8_hardest 89 = .ok (.iload 6, 2) := by decide +kernel
theorem dX8_hardest_91 : decode cX8_hardest 91 = .ok (.istore_n 2, 1) := by decide +kernel
theorem dX8_hardest_92 : decode cX8_hardest 92 = .ok (.iinc 4 1, 3) := by decide +kernel
theorem dX8_hardest_95 : decode cX8_hardest 95 = .ok (.goto (-77), 3) := by decide +kernel
theorem dX8_hardest_98 : decode cX8_hardest 98 = .ok (.iload_n 1, 1) := by decide +kernel
theorem dX8_hardest_99 : decode cX8_hardest 99 = .ok (.ireturn, 1) := by decide +kernel
theorem dX8_least_0 : decode cX8_least 0 = .ok (.aload_n 0, 1) := by decide +kernel
theorem dX8_least_1 : decode cX8_least 1 = .ok (.getfield 33, 3) := by decide +kernel
theorem dX8_least_4 : decode cX8_least 4 = .ok (.aload_n 0, 1) := by decide +kernel
theorem dX8_least_5 : decode cX8_least 5 = .ok (.getfield 10, 3) := by decide +kernel
theorem dX8_least_8 : decode cX8_least 8 = .ok (.iconst (-1), 1) := by decide +kernel
theorem dX8_least_9 : decode cX8_least 9 = .ok (.aload_n 0, 1) := by decide +kernel
theorem dX8_least_10 : decode cX8_least 10 = .ok (.getfield 10, 3) := by decide +kernel
theorem dX8_least_13 : decode cX8_least 13 = .ok (.getfield 97, 3) := by decide +kernel
theorem dX8_least_16 : decode cX8_least 16 = .ok (.getfield 134, 3) := by decide +kernel
theorem dX8_least_19 : decode cX8_least 19 = .ok (.invokevirtual 252, 3) := by decide +kernel
theorem dX8_least_22 : decode cX8_least 22 = .ok (.aload_n 0, 1) := by decide +kernel
theorem dX8_least_23 : decode cX8_least 23 = .ok (.getfield 33, 3) := by decide +kernel
theorem dX8_least_26 : decode cX8_least 26 = .ok (.getfield 256, 3) := by decide +kernel
theorem dX8_least_29 : decode cX8_least 29 = .ok (.ireturn, 1) := by decide +kernel
theorem dX8_placedThen_0 : decode cX8_placedThen 0 = .ok (.aload_n 0, 1) := by decide +kernel
theorem dX8_placedThen_1 : decode cX8_placedThen 1 = .ok (.getfield 33, 3) := by decide +kernel
theorem dX8_placedThen_4 : decode cX8_placedThen 4 = .ok (.aload_n 0, 1) := by decide +kernel
theorem dX8_placedThen_5 : decode cX8_placedThen 5 = .ok (.getfield 10, 3) := by decide +kernel
theorem dX8_placedThen_8 : decode cX8_placedThen 8 = .ok (.iconst (-1), 1) := by decide +kernel
theorem dX8_placedThen_9 : decode cX8_placedThen 9 = .ok (.aload_n 0, 1) := by decide +kernel
theorem dX8_placedThen_10 : decode cX8_placedThen 10 = .ok (.getfield 10, 3) := by decide +kernel
theorem dX8_placedThen_13 : decode cX8_placedThen 13 = .ok (.getfield 97, 3) := by decide +kernel
theorem dX8_placedThen_16 : decode cX8_placedThen 16 = .ok (.getfield 134, 3) := by decide +kernel
theorem dX8_placedThen_19 : decode cX8_placedThen 19 = .ok (.invokevirtual 252, 3) := by decide +kernel
theorem dX8_placedThen_22 : decode cX8_placedThen 22 = .ok (.aload_n 0, 1) := by decide +kernel
theorem dX8_placedThen_23 : decode cX8_placedThen 23 = .ok (.getfield 33, 3) := by decide +kernel
theorem dX8_placedThen_26 : decode cX8_placedThen 26 = .ok (.getfield 259, 3) := by decide +kernel
theorem dX8_placedThen_29 : decode cX8_placedThen 29 = .ok (.ireturn, 1) := by decide +kernel
theorem dX8_arranged_0 : decode cX8_arranged 0 = .ok (.aload_n 0, 1) := by decide +kernel
theorem dX8_arranged_1 : decode cX8_arranged 1 = .ok (.iload_n 1, 1) := by decide +kernel
theorem dX8_arranged_2 : decode cX8_arranged 2 = .ok (.invokevirtual 188, 3) := by decide +kernel
theorem dX8_arranged_5 : decode cX8_arranged 5 = .ok (.aload_n 0, 1) := by decide +kernel
theorem dX8_arranged_6 : decode cX8_arranged 6 = .ok (.getfield 33, 3) := by decide +kernel
theorem dX8_arranged_9 : decode cX8_arranged 9 = .ok (.aload_n 0, 1) := by decide +kernel
theorem dX8_arranged_10 : decode cX8_arranged 10 = .ok (.getfield 10, 3) := by decide +kernel
theorem dX8_arranged_13 : decode cX8_arranged 13 = .ok (.iconst (-1), 1) := by decide +kernel
theorem dX8_arranged_14 : decode cX8_arranged 14 = .ok (.aload_n 0, 1) := by decide +kernel
theorem dX8_arranged_15 : decode cX8_arranged 15 = .ok (.getfield 10, 3) := by decide +kernel
theorem dX8_arranged_18 : decode cX8_arranged 18 = .ok (.getfield 97, 3) := by decide +kernel
theorem dX8_arranged_21 : decode cX8_arranged 21 = .ok (.getfield 134, 3) := by decide +kernel
theorem dX8_arranged_24 : decode cX8_arranged 24 = .ok (.invokevirtual 252, 3) := by decide +kernel
theorem dX8_arranged_27 : decode cX8_arranged 27 = .ok (.aload_n 0, 1) := by decide +kernel
theorem dX8_arranged_28 : decode cX8_arranged 28 = .ok (.getfield 33, 3) := by decide +kernel
theorem dX8_arranged_31 : decode cX8_arranged 31 = .ok (.iload_n 1, 1) := by decide +kernel
theorem dX8_arranged_32 : decode cX8_arranged 32 = .ok (.invokevirtual 262, 3) := by decide +kernel
theorem dX8_arranged_35 : decode cX8_arranged 35 = .ok (.ireturn, 1) := by decide +kernel
theorem dX8_leastIf_0 : decode cX8_leastIf 0 = .ok (.aload_n 0, 1) := by decide +kernel
theorem dX8_leastIf_1 : decode cX8_leastIf 1 = .ok (.iload_n 1, 1) := by decide +kernel
theorem dX8_leastIf_2 : decode cX8_leastIf 2 = .ok (.invokevirtual 188, 3) := by decide +kernel
theorem dX8_leastIf_5 : decode cX8_leastIf 5 = .ok (.aload_n 0, 1) := by decide +kernel
theorem dX8_leastIf_6 : decode cX8_leastIf 6 = .ok (.getfield 33, 3) := by decide +kernel
theorem dX8_leastIf_9 : decode cX8_leastIf 9 = .ok (.aload_n 0, 1) := by decide +kernel
theorem dX8_leastIf_10 : decode cX8_leastIf 10 = .ok (.getfield 10, 3) := by decide +kernel
theorem dX8_leastIf_13 : decode cX8_leastIf 13 = .ok (.iconst (-1), 1) := by decide +kernel
theorem dX8_leastIf_14 : decode cX8_leastIf 14 = .ok (.aload_n 0, 1) := by decide +kernel
theorem dX8_leastIf_15 : decode cX8_leastIf 15 = .ok (.getfield 10, 3) := by decide +kernel
theorem dX8_leastIf_18 : decode cX8_leastIf 18 = .ok (.getfield 97, 3) := by decide +kernel
theorem dX8_leastIf_21 : decode cX8_leastIf 21 = .ok (.iload_n 1, 1) := by decide +kernel
theorem dX8_leastIf_22 : decode cX8_leastIf 22 = .ok (.iload_n 2, 1) := by decide +kernel
theorem dX8_leastIf_23 : decode cX8_leastIf 23 = .ok (.invokevirtual 265, 3) := by decide +kernel
theorem dX8_leastIf_26 : decode cX8_leastIf 26 = .ok (.invokevirtual 252, 3) := by decide +kernel
theorem dX8_leastIf_29 : decode cX8_leastIf 29 = .ok (.aload_n 0, 1) := by decide +kernel
theorem dX8_leastIf_30 : decode cX8_leastIf 30 = .ok (.getfield 33, 3) := by decide +kernel
theorem dX8_leastIf_33 : decode cX8_leastIf 33 = .ok (.getfield 256, 3) := by decide +kernel
theorem dX8_leastIf_36 : decode cX8_leastIf 36 = .ok (.ireturn, 1) := by decide +kernel
theorem dX8_placedIf_0 : decode cX8_placedIf 0 = .ok (.aload_n 0, 1) := by decide +kernel
theorem dX8_placedIf_1 : decode cX8_placedIf 1 = .ok (.iload_n 1, 1) := by decide +kernel
theorem dX8_placedIf_2 : decode cX8_placedIf 2 = .ok (.invokevirtual 188, 3) := by decide +kernel
theorem dX8_placedIf_5 : decode cX8_placedIf 5 = .ok (.aload_n 0, 1) := by decide +kernel
theorem dX8_placedIf_6 : decode cX8_placedIf 6 = .ok (.getfield 33, 3) := by decide +kernel
theorem dX8_placedIf_9 : decode cX8_placedIf 9 = .ok (.aload_n 0, 1) := by decide +kernel
theorem dX8_placedIf_10 : decode cX8_placedIf 10 = .ok (.getfield 10, 3) := by decide +kernel
theorem dX8_placedIf_13 : decode cX8_placedIf 13 = .ok (.iconst (-1), 1) := by decide +kernel
theorem dX8_placedIf_14 : decode cX8_placedIf 14 = .ok (.aload_n 0, 1) := by decide +kernel
theorem dX8_placedIf_15 : decode cX8_placedIf 15 = .ok (.getfield 10, 3) := by decide +kernel
theorem dX8_placedIf_18 : decode cX8_placedIf 18 = .ok (.getfield 97, 3) := by decide +kernel
theorem dX8_placedIf_21 : decode cX8_placedIf 21 = .ok (.iload_n 1, 1) := by decide +kernel
theorem dX8_placedIf_22 : decode cX8_placedIf 22 = .ok (.iload_n 2, 1) := by decide +kernel
theorem dX8_placedIf_23 : decode cX8_placedIf 23 = .ok (.invokevirtual 265, 3) := by decide +kernel
theorem dX8_placedIf_26 : decode cX8_placedIf 26 = .ok (.invokevirtual 252, 3) := by decide +kernel
theorem dX8_placedIf_29 : decode cX8_placedIf 29 = .ok (.aload_n 0, 1) := by decide +kernel
theorem dX8_placedIf_30 : decode cX8_placedIf 30 = .ok (.getfield 33, 3) := by decide +kernel
theorem dX8_placedIf_33 : decode cX8_placedIf 33 = .ok (.getfield 259, 3) := by decide +kernel
theorem dX8_placedIf_36 : decode cX8_placedIf 36 = .ok (.ireturn, 1) := by decide +kernel
theorem dX8_shy_0 : decode cX8_shy 0 = .ok (.aload_n 0, 1) := by decide +kernel
theorem dX8_shy_1 : decode cX8_shy 1 = .ok (.getfield 10, 3) := by decide +kernel
theorem dX8_shy_4 : decode cX8_shy 4 = .ok (.getfield 97, 3) := by decide +kernel
theorem dX8_shy_7 : decode cX8_shy 7 = .ok (.getfield 101, 3) := by decide +kernel
theorem dX8_shy_10 : decode cX8_shy 10 = .ok (.iconst 1, 1) := by decide +kernel
theorem dX8_shy_11 : decode cX8_shy 11 = .ok (.isub, 1) := by decide +kernel
theorem dX8_shy_12 : decode cX8_shy 12 = .ok (.istore_n 1, 1) := by decide +kernel
theorem dX8_shy_13 : decode cX8_shy 13 = .ok (.iconst 0, 1) := by decide +kernel
theorem dX8_shy_14 : decode cX8_shy 14 = .ok (.istore_n 2, 1) := by decide +kernel
theorem dX8_shy_15 : decode cX8_shy 15 = .ok (.iconst 0, 1) := by decide +kernel
theorem dX8_shy_16 : decode cX8_shy 16 = .ok (.istore_n 3, 1) := by decide +kernel
theorem dX8_shy_17 : decode cX8_shy 17 = .ok (.iload_n 3, 1) := by decide +kernel
theorem dX8_shy_18 : decode cX8_shy 18 = .ok (.aload_n 0, 1) := by decide +kernel
theorem dX8_shy_19 : decode cX8_shy 19 = .ok (.getfield 10, 3) := by decide +kernel
theorem dX8_shy_22 : decode cX8_shy 22 = .ok (.getfield 97, 3) := by decide +kernel
theorem dX8_shy_25 : decode cX8_shy 25 = .ok (.getfield 101, 3) := by decide +kernel
theorem dX8_shy_28 : decode cX8_shy 28 = .ok (.if_icmp .ge 48, 3) := by decide +kernel
theorem dX8_shy_31 : decode cX8_shy 31 = .ok (.aload_n 0, 1) := by decide +kernel
theorem dX8_shy_32 : decode cX8_shy 32 = .ok (.getfield 33, 3) := by decide +kernel
theorem dX8_shy_35 : decode cX8_shy 35 = .ok (.aload_n 0, 1) := by decide +kernel
theorem dX8_shy_36 : decode cX8_shy 36 = .ok (.getfield 10, 3) := by decide +kernel
theorem dX8_shy_39 : decode cX8_shy 39 = .ok (.iload_n 3, 1) := by decide +kernel
theorem dX8_shy_40 : decode cX8_shy 40 = .ok (.aload_n 0, 1) := by decide +kernel
theorem dX8_shy_41 : decode cX8_shy 41 = .ok (.getfield 10, 3) := by decide +kernel
theorem dX8_shy_44 : decode cX8_shy 44 = .ok (.getfield 97, 3) := by decide +kernel
theorem dX8_shy_47 : decode cX8_shy 47 = .ok (.getfield 134, 3) := by decide +kernel
theorem dX8_shy_50 : decode cX8_shy 50 = .ok (.invokevirtual 252, 3) := by decide +kernel
theorem dX8_shy_53 : decode cX8_shy 53 = .ok (.aload_n 0, 1) := by decide +kernel
theorem dX8_shy_54 : decode cX8_shy 54 = .ok (.getfield 33, 3) := by decide +kernel
theorem dX8_shy_57 : decode cX8_shy 57 = .ok (.getfield 259, 3) := by decide +kernel
theorem dX8_shy_60 : decode cX8_shy 60 = .ok (.iload_n 1, 1) := by decide +kernel
theorem dX8_shy_61 : decode cX8_shy 61 = .ok (.if_icmp .ne 9, 3) := by decide +kernel
theorem dX8_shy_64 : decode cX8_shy 64 = .ok (.iload_n 2, 1) := by decide +kernel
theorem dX8_shy_65 : decode cX8_shy 65 = .ok (.iconst 1, 1) := by decide +kernel
theorem dX8_shy_66 : decode cX8_shy 66 = .ok (.iload_n 3, 1) := by decide +kernel
theorem dX8_shy_67 : decode cX8_shy 67 = .ok (.ishl, 1) := by decide +kernel
theorem dX8_shy_68 : decode cX8_shy 68 = .ok (.ior, 1) := by decide +kernel
theorem dX8_shy_69 : decode cX8_shy 69 = .ok (.istore_n 2, 1) := by decide +kernel
theorem dX8_shy_70 : decode cX8_shy 70 = .ok (.iinc 3 1, 3) := by decide +kernel
theorem dX8_shy_73 : decode cX8_shy 73 = .ok (.goto (-56), 3) := by decide +kernel
theorem dX8_shy_76 : decode cX8_shy 76 = .ok (.iload_n 2, 1) := by decide +kernel
theorem dX8_shy_77 : decode cX8_shy 77 = .ok (.ireturn, 1) := by decide +kernel
theorem dX8_wayLength_0 : decode cX8_wayLength 0 = .ok (.aload_n 0, 1) := by decide +kernel
theorem dX8_wayLength_1 : decode cX8_wayLength 1 = .ok (.iload_n 1, 1) := by decide +kernel
theorem dX8_wayLength_2 : decode cX8_wayLength 2 = .ok (.invokevirtual 161, 3) := by decide +kernel
theorem dX8_wayLength_5 : decode cX8_wayLength 5 = .ok (.aload_n 0, 1) := by decide +kernel
theorem dX8_wayLength_6 : decode cX8_wayLength 6 = .ok (.iload_n 1, 1) := by decide +kernel
theorem dX8_wayLength_7 : decode cX8_wayLength 7 = .ok (.invokevirtual 269, 3) := by decide +kernel
theorem dX8_wayLength_10 : decode cX8_wayLength 10 = .ok (.istore_n 2, 1) := by decide +kernel
theorem dX8_wayLength_11 : decode cX8_wayLength 11 = .ok (.iload_n 2, 1) := by decide +kernel
theorem dX8_wayLength_12 : decode cX8_wayLength 12 = .ok (.ifCond .ne 8, 3) := by decide +kernel
theorem dX8_wayLength_15 : decode cX8_wayLength 15 = .ok (.bipush (-3), 2) := by decide +kernel
theorem dX8_wayLength_17 : decode cX8_wayLength 17 = .ok (.goto 4, 3) := by decide +kernel
theorem dX8_wayLength_20 : decode cX8_wayLength 20 = .ok (.iload_n 2, 1) := by decide +kernel
theorem dX8_wayLength_21 : decode cX8_wayLength 21 = .ok (.ireturn, 1) := by decide +kernel
theorem dX8_wayCell_0 : decode cX8_wayCell 0 = .ok (.aload_n 0, 1) := by decide +kernel
theorem dX8_wayCell_1 : decode cX8_wayCell 1 = .ok (.iload_n 1, 1) := by decide +kernel
theorem dX8_wayCell_2 : decode cX8_wayCell 2 = .ok (.invokevirtual 161, 3) := by decide +kernel
theorem dX8_wayCell_5 : decode cX8_wayCell 5 = .ok (.aload_n 0, 1) := by decide +kernel
theorem dX8_wayCell_6 : decode cX8_wayCell 6 = .ok (.iload_n 1, 1) := by decide +kernel
theorem dX8_wayCell_7 : decode cX8_wayCell 7 = .ok (.invokevirtual 269, 3) := by decide +kernel
theorem dX8_wayCell_10 : decode cX8_wayCell 10 = .ok (.pop, 1) := by decide +kernel
theorem dX8_wayCell_11 : decode cX8_wayCell 11 = .ok (.aload_n 0, 1) := by decide +kernel
theorem dX8_wayCell_12 : decode cX8_wayCell 12 = .ok (.getfield 26, 3) := by decide +kernel
theorem dX8_wayCell_15 : decode cX8_wayCell 15 = .ok (.iload_n 2, 1) := by decide +kernel
theorem dX8_wayCell_16 : decode cX8_wayCell 16 = .ok (.invokevirtual 272, 3) := by decide +kernel
theorem dX8_wayCell_19 : decode cX8_wayCell 19 = .ok (.ireturn, 1) := by decide +kernel
theorem dX8_washes_0 : decode cX8_washes 0 = .ok (.aload_n 0, 1) := by decide +kernel
theorem dX8_washes_1 : decode cX8_washes 1 = .ok (.iload_n 1, 1) := by decide +kernel
theorem dX8_washes_2 : decode cX8_washes 2 = .ok (.invokevirtual 161, 3) := by decide +kernel
theorem dX8_washes_5 : decode cX8_washes 5 = .ok (.aload_n 0, 1) := by decide +kernel
theorem dX8_washes_6 : decode cX8_washes 6 = .ok (.iload_n 1, 1) := by decide +kernel
theorem dX8_washes_7 : decode cX8_washes 7 = .ok (.invokevirtual 269, 3) := by decide +kernel
theorem dX8_washes_10 : decode cX8_washes 10 = .ok (.pop, 1) := by decide +kernel
theorem dX8_washes_11 : decode cX8_washes 11 = .ok (.aload_n 0, 1) := by decide +kernel
theorem dX8_washes_12 : decode cX8_washes 12 = .ok (.getfield 26, 3) := by decide +kernel
theorem dX8_washes_15 : decode cX8_washes 15 = .ok (.aload_n 0, 1) := by decide +kernel
theorem dX8_washes_16 : decode cX8_washes 16 = .ok (.getfield 10, 3) := by decide +kernel
theorem dX8_washes_19 : decode cX8_washes 19 = .ok (.invokevirtual 275, 3) := by decide +kernel
theorem dX8_washes_22 : decode cX8_washes 22 = .ok (.ireturn, 1) := by decide +kernel
theorem dX8_mildest_0 : decode cX8_mildest 0 = .ok (.aload_n 0, 1) := by decide +kernel
theorem dX8_mildest_1 : decode cX8_mildest 1 = .ok (.getfield 26, 3) := by decide +kernel
theorem dX8_mildest_4 : decode cX8_mildest 4 = .ok (.aload_n 0, 1) := by decide +kernel
theorem dX8_mildest_5 : decode cX8_mildest 5 = .ok (.getfield 10, 3) := by decide +kernel
theorem dX8_mildest_8 : decode cX8_mildest 8 = .ok (.invokevirtual 279, 3) := by decide +kernel
theorem dX8_mildest_11 : decode cX8_mildest 11 = .ok (.aload_n 0, 1) := by decide +kernel
theorem dX8_mildest_12 : decode cX8_mildest 12 = .ok (.getfield 10, 3) := by decide +kernel
theorem dX8_mildest_15 : decode cX8_mildest 15 = .ok (.getfield 106, 3) := by decide +kernel
theorem dX8_mildest_18 : decode cX8_mildest 18 = .ok (.invokevirtual 237, 3) := by decide +kernel
theorem dX8_mildest_21 : decode cX8_mildest 21 = .ok (.istore_n 1, 1) := by decide +kernel
theorem dX8_mildest_22 : decode cX8_mildest 22 = .ok (.iconst (-1), 1) := by decide +kernel
theorem dX8_mildest_23 : decode cX8_mildest 23 = .ok (.istore_n 2, 1) := by decide +kernel
theorem dX8_mildest_24 : decode cX8_mildest 24 = .ok (.iconst 0, 1) := by decide +kernel
theorem dX8_mildest_25 : decode cX8_mildest 25 = .ok (.istore_n 3, 1) := by decide +kernel
theorem dX8_mildest_26 : decode cX8_mildest 26 = .ok (.iconst 0, 1) := by decide +kernel
theorem dX8_mildest_27 : decode cX8_mildest 27 = .ok (.istore 4, 2) := by decide +kernel
theorem dX8_mildest_29 : decode cX8_mildest 29 = .ok (.iconst 0, 1) := by decide +kernel
theorem dX8_mildest_30 : decode cX8_mildest 30 = .ok (.istore 5, 2) := by decide +kernel
theorem dX8_mildest_32 : decode cX8_mildest 32 = .ok (.iload 5, 2) := by decide +kernel
theorem dX8_mildest_34 : decode cX8_mildest 34 = .ok (.iload_n 1, 1) := by decide +kernel
theorem dX8_mildest_35 : decode cX8_mildest 35 = .ok (.if_icmp .ge 85, 3) := by decide +kernel
theorem dX8_mildest_38 : decode cX8_mildest 38 = .ok (.aload_n 0, 1) := by decide +kernel
theorem dX8_mildest_39 : decode cX8_mildest 39 = .ok (.getfield 26, 3) := by decide +kernel
theorem dX8_mildest_42 : decode cX8_mildest 42 = .ok (.aload_n 0, 1) := by decide +kernel
theorem dX8_mildest_43 : decode cX8_mildest 43 = .ok (.getfield 10, 3) := by decide +kernel
theorem dX8_mildest_46 : decode cX8_mildest 46 = .ok (.getfield 106, 3) := by decide +kernel
theorem dX8_mildest_49 : decode cX8_mildest 49 = .ok (.iload 5, 2) := by decide +kernel
theorem dX8_mildest_51 : decode cX8_mildest 51 = .ok (.invokevirtual 282, 3) := by decide +kernel
theorem dX8_mildest_54 : decode cX8_mildest 54 = .ok (.istore 6, 2) := by decide +kernel
theorem dX8_mildest_56 : decode cX8_mildest 56 = .ok (.iload 6, 2) := by decide +kernel
theorem dX8_mildest_58 : decode cX8_mildest 58 = .ok (.ifCond .ne 6, 3) := by decide +kernel
theorem dX8_mildest_61 : decode cX8_mildest 61 = .ok (.goto 53, 3) := by decide +kernel
theorem dX8_mildest_64 : decode cX8_mildest 64 = .ok (.aload_n 0, 1) := by decide +kernel
theorem dX8_mildest_65 : decode cX8_mildest 65 = .ok (.getfield 26, 3) := by decide +kernel
theorem dX8_mildest_68 : decode cX8_mildest 68 = .ok (.aload_n 0, 1) := by decide +kernel
theorem dX8_mildest_69 : decode cX8_mildest 69 = .ok (.getfield 10, 3) := by decide +kernel
theorem dX8_mildest_72 : decode cX8_mildest 72 = .ok (.invokevirtual 275, 3) := by decide +kernel
theorem dX8_mildest_75 : decode cX8_mildest 75 = .ok (.invokestatic 128, 3) := by decide +kernel
theorem dX8_mildest_78 : decode cX8_mildest 78 = .ok (.istore 7, 2) := by decide +kernel
theorem dX8_mildest_80 : decode cX8_mildest 80 = .ok (.iload_n 2, 1) := by decide +kernel
theorem dX8_mildest_81 : decode cX8_mildest 81 = .ok (.iconst (-1), 1) := by decide +kernel
theorem dX8_mildest_82 : decode cX8_mildest 82 = .ok (.if_icmp .eq 22, 3) := by decide +kernel
theorem dX8_mildest_85 : decode cX8_mildest 85 = .ok (.iload 7, 2) := by decide +kernel
theorem dX8_mildest_87 : decode cX8_mildest 87 = .ok (.iload_n 3, 1) := by decide +kernel
theorem dX8_mildest_88 : decode cX8_mildest 88 = .ok (.if_icmp .lt 16, 3) := by decide +kernel
theorem dX8_mildest_91 : decode cX8_mildest 91 = .ok (.iload 7, 2) := by decide +kernel
theorem dX8_mildest_93 : decode cX8_mildest 93 = .ok (.iload_n 3, 1) := by decide +kernel
theorem dX8_mildest_94 : decode cX8_mildest 94 = .ok (.if_icmp .ne 20, 3) := by decide +kernel
theorem dX8_mildest_97 : decode cX8_mildest 97 = .ok (.iload 6, 2) := by decide +kernel
theorem dX8_mildest_99 : decode cX8_mildest 99 = .ok (.iload 4, 2) := by decide +kernel
theorem dX8_mildest_101 : decode cX8_mildest 101 = .ok (.if_icmp .le 13, 3) := by decide +kernel
theorem dX8_mildest_104 : decode cX8_mildest 104 = .ok (.iload 5, 2) := by decide +kernel
theorem dX8_mildest_106 : decode cX8_mildest 106 = .ok (.istore_n 2, 1) := by decide +kernel
theorem dX8_mildest_107 : decode cX8_mildest 107 = .ok (.iload 7, 2) := by decide +kernel
theorem dX8_mildest_109 : decode cX8_mildest 109 = .ok (.istore_n 3, 1) := by decide +kernel
theorem dX8_mildest_110 : decode cX8_mildest 110 = .ok (.iload 6, 2) := by decide +kernel
theorem dX8_mildest_112 : decode cX8_mildest 112 = .ok (.istore 4, 2) := by decide +kernel
theorem dX8_mildest_114 : decode cX8_mildest 114 = .ok (.iinc 5 1, 3) := by decide +kernel
theorem dX8_mildest_117 : decode cX8_mildest 117 = .ok (.goto (-85), 3) := by decide +kernel
theorem dX8_mildest_120 : decode cX8_mildest 120 = .ok (.iload_n 2, 1) := by decide +kernel
theorem dX8_mildest_121 : decode cX8_mildest 121 = .ok (.ireturn, 1) := by decide +kernel
theorem dX8_drowns_0 : decode cX8_drowns 0 = .ok (.aload_n 0, 1) := by decide +kernel
theorem dX8_drowns_1 : decode cX8_drowns 1 = .ok (.iload_n 1, 1) := by decide +kernel
theorem dX8_drowns_2 : decode cX8_drowns 2 = .ok (.invokevirtual 161, 3) := by decide +kernel
theorem dX8_drowns_5 : decode cX8_drowns 5 = .ok (.aload_n 0, 1) := by decide +kernel
theorem dX8_drowns_6 : decode cX8_drowns 6 = .ok (.getfield 10, 3) := by decide +kernel
theorem dX8_drowns_9 : decode cX8_drowns 9 = .ok (.iload_n 1, 1) := by decide +kernel
theorem dX8_drowns_10 : decode cX8_drowns 10 = .ok (.invokevirtual 180, 3) := by decide +kernel
theorem dX8_drowns_13 : decode cX8_drowns 13 = .ok (.ireturn, 1) := by decide +kernel
theorem dX8_place_0 : decode cX8_place 0 = .ok (.aload_n 0, 1) := by decide +kernel
theorem dX8_place_1 : decode cX8_place 1 = .ok (.iload_n 1, 1) := by decide +kernel
theorem dX8_place_2 : decode cX8_place 2 = .ok (.invokevirtual 188, 3) := by decide +kernel
theorem dX8_place_5 : decode cX8_place 5 = .ok (.iload_n 2, 1) := by decide +kernel
theorem dX8_place_6 : decode cX8_place 6 = .ok (.invokestatic 221, 3) := by decide +kernel
theorem dX8_place_9 : decode cX8_place 9 = .ok (.aload_n 0, 1) := by decide +kernel
theorem dX8_place_10 : decode cX8_place 10 = .ok (.getfield 10, 3) := by decide +kernel
theorem dX8_place_13 : decode cX8_place 13 = .ok (.iload_n 1, 1) := by decide +kernel
theorem dX8_place_14 : decode cX8_place 14 = .ok (.iload_n 2, 1) := by decide +kernel
theorem dX8_place_15 : decode cX8_place 15 = .ok (.invokevirtual 224, 3) := by decide +kernel
theorem dX8_place_18 : decode cX8_place 18 = .ok (.ifCond .eq 6, 3) := by decide +kernel
theorem dX8_place_21 : decode cX8_place 21 = .ok (.bipush (-3), 2) := by decide +kernel
theorem dX8_place_23 : decode cX8_place 23 = .ok (.ireturn, 1) := by decide +kernel
theorem dX8_place_24 : decode cX8_place 24 = .ok (.aload_n 0, 1) := by decide +kernel
theorem dX8_place_25 : decode cX8_place 25 = .ok (.getfield 19, 3) := by decide +kernel
theorem dX8_place_28 : decode cX8_place 28 = .ok (.aload_n 0, 1) := by decide +kernel
theorem dX8_place_29 : decode cX8_place 29 = .ok (.getfield 10, 3) := by decide +kernel
theorem dX8_place_32 : decode cX8_place 32 = .ok (.invokevirtual 286, 3) := by decide +kernel
theorem dX8_place_35 : decode cX8_place 35 = .ok (.aload_n 0, 1) := by decide +kernel
theorem dX8_place_36 : decode cX8_place 36 = .ok (.getfield 10, 3) := by decide +kernel
theorem dX8_place_39 : decode cX8_place 39 = .ok (.getfield 97, 3) := by decide +kernel
theorem dX8_place_42 : decode cX8_place 42 = .ok (.iload_n 1, 1) := by decide +kernel
theorem dX8_place_43 : decode cX8_place 43 = .ok (.invokevirtual 197, 3) := by decide +kernel
theorem dX8_place_46 : decode cX8_place 46 = .ok (.istore_n 3, 1) := by decide +kernel
theorem dX8_place_47 : decode cX8_place 47 = .ok (.aload_n 0, 1) := by decide +kernel
theorem dX8_place_48 : decode cX8_place 48 = .ok (.getfield 10, 3) := by decide +kernel
theorem dX8_place_51 : decode cX8_place 51 = .ok (.iload_n 1, 1) := by decide +kernel
theorem dX8_place_52 : decode cX8_place 52 = .ok (.iload_n 2, 1) := by decide +kernel
theorem dX8_place_53 : decode cX8_place 53 = .ok (.invokevirtual 289, 3) := by decide +kernel
theorem dX8_place_56 : decode cX8_place 56 = .ok (.iload_n 3, 1) := by decide +kernel
theorem dX8_place_57 : decode cX8_place 57 = .ok (.ireturn, 1) := by decide +kernel
theorem dX8_lift_0 : decode cX8_lift 0 = .ok (.aload_n 0, 1) := by decide +kernel
theorem dX8_lift_1 : decode cX8_lift 1 = .ok (.iload_n 1, 1) := by decide +kernel
theorem dX8_lift_2 : decode cX8_lift 2 = .ok (.invokevirtual 188, 3) := by decide +kernel
theorem dX8_lift_5 : decode cX8_lift 5 = .ok (.aload_n 0, 1) := by decide +kernel
theorem dX8_lift_6 : decode cX8_lift 6 = .ok (.getfield 10, 3) := by decide +kernel
theorem dX8_lift_9 : decode cX8_lift 9 = .ok (.getfield 97, 3) := by decide +kernel
theorem dX8_lift_12 : decode cX8_lift 12 = .ok (.iload_n 1, 1) := by decide +kernel
theorem dX8_lift_13 : decode cX8_lift 13 = .ok (.invokevirtual 197, 3) := by decide +kernel
theorem dX8_lift_16 : decode cX8_lift 16 = .ok (.istore_n 2, 1) := by decide +kernel
theorem dX8_lift_17 : decode cX8_lift 17 = .ok (.iload_n 2, 1) := by decide +kernel
theorem dX8_lift_18 : decode cX8_lift 18 = .ok (.iconst (-1), 1) := by decide +kernel
theorem dX8_lift_19 : decode cX8_lift 19 = .ok (.if_icmp .ne 6, 3) := by decide +kernel
theorem dX8_lift_22 : decode cX8_lift 22 = .ok (.bipush (-3), 2) := by decide +kernel
theorem dX8_lift_24 : decode cX8_lift 24 = .ok (.ireturn, 1) := by decide +kernel
theorem dX8_lift_25 : decode cX8_lift 25 = .ok (.aload_n 0, 1) := by decide +kernel
theorem dX8_lift_26 : decode cX8_lift 26 = .ok (.getfield 19, 3) := by decide +kernel
theorem dX8_lift_29 : decode cX8_lift 29 = .ok (.aload_n 0, 1) := by decide +kernel
theorem dX8_lift_30 : decode cX8_lift 30 = .ok (.getfield 10, 3) := by decide +kernel
theorem dX8_lift_33 : decode cX8_lift 33 = .ok (.invokevirtual 286, 3) := by decide +kernel
theorem dX8_lift_36 : decode cX8_lift 36 = .ok (.aload_n 0, 1) := by decide +kernel
theorem dX8_lift_37 : decode cX8_lift 37 = .ok (.getfield 10, 3) := by decide +kernel
theorem dX8_lift_40 : decode cX8_lift 40 = .ok (.iload_n 1, 1) := by decide +kernel
theorem dX8_lift_41 : decode cX8_lift 41 = .ok (.invokevirtual 292, 3) := by decide +kernel
theorem dX8_lift_44 : decode cX8_lift 44 = .ok (.iload_n 2, 1) := by decide +kernel
theorem dX8_lift_45 : decode cX8_lift 45 = .ok (.ireturn, 1) := by decide +kernel
theorem dX8_arrange_0 : decode cX8_arrange 0 = .ok (.aload_n 0, 1) := by decide +kernel
theorem dX8_arrange_1 : decode cX8_arrange 1 = .ok (.getfield 33, 3) := by decide +kernel
theorem dX8_arrange_4 : decode cX8_arrange 4 = .ok (.aload_n 0, 1) := by decide +kernel
theorem dX8_arrange_5 : decode cX8_arrange 5 = .ok (.getfield 10, 3) := by decide +kernel
theorem dX8_arrange_8 : decode cX8_arrange 8 = .ok (.iconst (-1), 1) := by decide +kernel
theorem dX8_arrange_9 : decode cX8_arrange 9 = .ok (.aload_n 0, 1) := by decide +kernel
theorem dX8_arrange_10 : decode cX8_arrange 10 = .ok (.getfield 10, 3) := by decide +kernel
theorem dX8_arrange_13 : decode cX8_arrange 13 = .ok (.getfield 97, 3) := by decide +kernel
theorem dX8_arrange_16 : decode cX8_arrange 16 = .ok (.getfield 134, 3) := by decide +kernel
theorem dX8_arrange_19 : decode cX8_arrange 19 = .ok (.invokevirtual 252, 3) := by decide +kernel
theorem dX8_arrange_22 : decode cX8_arrange 22 = .ok (.aload_n 0, 1) := by decide +kernel
theorem dX8_arrange_23 : decode cX8_arrange 23 = .ok (.getfield 19, 3) := by decide +kernel
theorem dX8_arrange_26 : decode cX8_arrange 26 = .ok (.aload_n 0, 1) := by decide +kernel
theorem dX8_arrange_27 : decode cX8_arrange 27 = .ok (.getfield 10, 3) := by decide +kernel
