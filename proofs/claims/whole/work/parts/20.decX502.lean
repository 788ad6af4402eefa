theorem dX5_readVoyage_59 : decode cX5_readVoyage 59 = .ok (.aload_n 0, 1) := by decide +kernel
theorem dX5_readVoyage_60 : decode cX5_readVoyage 60 = .ok (.iconst 3, 1) := by decide +kernel
theorem dX5_readVoyage_61 : decode cX5_readVoyage 61 = .ok (.aload_n 0, 1) := by decide +kernel
theorem dX5_readVoyage_62 : decode cX5_readVoyage 62 = .ok (.getfield 85, 3) := by decide +kernel
theorem dX5_readVoyage_65 : decode cX5_readVoyage 65 = .ok (.invokevirtual 95, 3) := by decide +kernel
theorem dX5_readVoyage_68 : decode cX5_readVoyage 68 = .ok (.ireturn, 1) := by decide +kernel
theorem dX5_readVoyage_69 : decode cX5_readVoyage 69 = .ok (.aload_n 0, 1) := by decide +kernel
theorem dX5_readVoyage_70 : decode cX5_readVoyage 70 = .ok (.invokevirtual 196, 3) := by decide +kernel
theorem dX5_readVoyage_73 : decode cX5_readVoyage 73 = .ok (.istore_n 2, 1) := by decide +kernel
theorem dX5_readVoyage_74 : decode cX5_readVoyage 74 = .ok (.iload_n 2, 1) := by decide +kernel
theorem dX5_readVoyage_75 : decode cX5_readVoyage 75 = .ok (.iconst (-1), 1) := by decide +kernel
theorem dX5_readVoyage_76 : decode cX5_readVoyage 76 = .ok (.if_icmp .ne 13, 3) := by decide +kernel
theorem dX5_readVoyage_79 : decode cX5_readVoyage 79 = .ok (.aload_n 0, 1) := by decide +kernel
theorem dX5_readVoyage_80 : decode cX5_readVoyage 80 = .ok (.iconst 4, 1) := by decide +kernel
theorem dX5_readVoyage_81 : decode cX5_readVoyage 81 = .ok (.aload_n 0, 1) := by decide +kernel
theorem dX5_readVoyage_82 : decode cX5_readVoyage 82 = .ok (.getfield 85, 3) := by decide +kernel
theorem dX5_readVoyage_85 : decode cX5_readVoyage 85 = .ok (.invokevirtual 95, 3) := by decide +kernel
theorem dX5_readVoyage_88 : decode cX5_readVoyage 88 = .ok (.ireturn, 1) := by decide +kernel
theorem dX5_readVoyage_89 : decode cX5_readVoyage 89 = .ok (.aload_n 0, 1) := by decide +kernel
theorem dX5_readVoyage_90 : decode cX5_readVoyage 90 = .ok (.getfield 12, 3) := by decide +kernel
theorem dX5_readVoyage_93 : decode cX5_readVoyage 93 = .ok (.getfield 265, 3) := by decide +kernel
theorem dX5_readVoyage_96 : decode cX5_readVoyage 96 = .ok (.iload_n 2, 1) := by decide +kernel
theorem dX5_readVoyage_97 : decode cX5_readVoyage 97 = .ok (.invokevirtual 269, 3) := by decide +kernel
theorem dX5_readVoyage_100 : decode cX5_readVoyage 100 = .ok (.iinc 1 1, 3) := by decide +kernel
theorem dX5_readVoyage_103 : decode cX5_readVoyage 103 = .ok (.goto (-79), 3) := by decide +kernel
theorem dX5_readVoyage_106 : decode cX5_readVoyage 106 = .ok (.iconst 1, 1) := by decide +kernel
theorem dX5_readVoyage_107 : decode cX5_readVoyage 107 = .ok (.ireturn, 1) := by decide +kernel
theorem dX5_readTurn_0 : decode cX5_readTurn 0 = .ok (.aload_n 0, 1) := by decide +kernel
theorem dX5_readTurn_1 : decode cX5_readTurn 1 = .ok (.iconst 0, 1) := by decide +kernel
theorem dX5_readTurn_2 : decode cX5_readTurn 2 = .ok (.iconst 3, 1) := by decide +kernel
theorem dX5_readTurn_3 : decode cX5_readTurn 3 = .ok (.invokevirtual 149, 3) := by decide +kernel
theorem dX5_readTurn_6 : decode cX5_readTurn 6 = .ok (.ifCond .ne 5, 3) := by decide +kernel
theorem dX5_readTurn_9 : decode cX5_readTurn 9 = .ok (.iconst 0, 1) := by decide +kernel
theorem dX5_readTurn_10 : decode cX5_readTurn 10 = .ok (.ireturn, 1) := by decide +kernel
theorem dX5_readTurn_11 : decode cX5_readTurn 11 = .ok (.aload_n 0, 1) := by decide +kernel
theorem dX5_readTurn_12 : decode cX5_readTurn 12 = .ok (.getfield 12, 3) := by decide +kernel
theorem dX5_readTurn_15 : decode cX5_readTurn 15 = .ok (.getfield 265, 3) := by decide +kernel
theorem dX5_readTurn_18 : decode cX5_readTurn 18 = .ok (.aload_n 0, 1) := by decide +kernel
theorem dX5_readTurn_19 : decode cX5_readTurn 19 = .ok (.getfield 110, 3) := by decide +kernel
theorem dX5_readTurn_22 : decode cX5_readTurn 22 = .ok (.putfield 274, 3) := by decide +kernel
theorem dX5_readTurn_25 : decode cX5_readTurn 25 = .ok (.iconst 1, 1) := by decide +kernel
theorem dX5_readTurn_26 : decode cX5_readTurn 26 = .ok (.ireturn, 1) := by decide +kernel
