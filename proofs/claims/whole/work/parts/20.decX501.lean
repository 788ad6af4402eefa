theorem dX5_readChart_28 : decode cX5_readChart 28 = .ok (.aload_n 0, 1) := by decide +kernel
theorem dX5_readChart_29 : decode cX5_readChart 29 = .ok (.iconst 3, 1) := by decide +kernel
theorem dX5_readChart_30 : decode cX5_readChart 30 = .ok (.bipush 12, 2) := by decide +kernel
theorem dX5_readChart_32 : decode cX5_readChart 32 = .ok (.invokevirtual 149, 3) := by decide +kernel
theorem dX5_readChart_35 : decode cX5_readChart 35 = .ok (.ifCond .ne 5, 3) := by decide +kernel
theorem dX5_readChart_38 : decode cX5_readChart 38 = .ok (.iconst 0, 1) := by decide +kernel
theorem dX5_readChart_39 : decode cX5_readChart 39 = .ok (.ireturn, 1) := by decide +kernel
theorem dX5_readChart_40 : decode cX5_readChart 40 = .ok (.aload_n 0, 1) := by decide +kernel
theorem dX5_readChart_41 : decode cX5_readChart 41 = .ok (.getfield 110, 3) := by decide +kernel
theorem dX5_readChart_44 : decode cX5_readChart 44 = .ok (.istore_n 1, 1) := by decide +kernel
theorem dX5_readChart_45 : decode cX5_readChart 45 = .ok (.aload_n 0, 1) := by decide +kernel
theorem dX5_readChart_46 : decode cX5_readChart 46 = .ok (.iconst 3, 1) := by decide +kernel
theorem dX5_readChart_47 : decode cX5_readChart 47 = .ok (.bipush 12, 2) := by decide +kernel
theorem dX5_readChart_49 : decode cX5_readChart 49 = .ok (.invokevirtual 149, 3) := by decide +kernel
theorem dX5_readChart_52 : decode cX5_readChart 52 = .ok (.ifCond .ne 5, 3) := by decide +kernel
theorem dX5_readChart_55 : decode cX5_readChart 55 = .ok (.iconst 0, 1) := by decide +kernel
theorem dX5_readChart_56 : decode cX5_readChart 56 = .ok (.ireturn, 1) := by decide +kernel
theorem dX5_readChart_57 : decode cX5_readChart 57 = .ok (.aload_n 0, 1) := by decide +kernel
theorem dX5_readChart_58 : decode cX5_readChart 58 = .ok (.getfield 12, 3) := by decide +kernel
theorem dX5_readChart_61 : decode cX5_readChart 61 = .ok (.iload_n 1, 1) := by decide +kernel
theorem dX5_readChart_62 : decode cX5_readChart 62 = .ok (.aload_n 0, 1) := by decide +kernel
theorem dX5_readChart_63 : decode cX5_readChart 63 = .ok (.getfield 110, 3) := by decide +kernel
theorem dX5_readChart_66 : decode cX5_readChart 66 = .ok (.invokevirtual 164, 3) := by decide +kernel
theorem dX5_readChart_69 : decode cX5_readChart 69 = .ok (.iconst 1, 1) := by decide +kernel
theorem dX5_readChart_70 : decode cX5_readChart 70 = .ok (.ireturn, 1) := by decide +kernel
theorem dX5_takeSemicolon_0 : decode cX5_takeSemicolon 0 = .ok (.aload_n 0, 1) := by decide +kernel
theorem dX5_takeSemicolon_1 : decode cX5_takeSemicolon 1 = .ok (.invokevirtual 53, 3) := by decide +kernel
theorem dX5_takeSemicolon_4 : decode cX5_takeSemicolon 4 = .ok (.bipush 59, 2) := by decide +kernel
theorem dX5_takeSemicolon_6 : decode cX5_takeSemicolon 6 = .ok (.if_icmp .eq 13, 3) := by decide +kernel
theorem dX5_takeSemicolon_9 : decode cX5_takeSemicolon 9 = .ok (.aload_n 0, 1) := by decide +kernel
theorem dX5_takeSemicolon_10 : decode cX5_takeSemicolon 10 = .ok (.iconst 1, 1) := by decide +kernel
theorem dX5_takeSemicolon_11 : decode cX5_takeSemicolon 11 = .ok (.aload_n 0, 1) := by decide +kernel
theorem dX5_takeSemicolon_12 : decode cX5_takeSemicolon 12 = .ok (.getfield 33, 3) := by decide +kernel
theorem dX5_takeSemicolon_15 : decode cX5_takeSemicolon 15 = .ok (.invokevirtual 95, 3) := by decide +kernel
theorem dX5_takeSemicolon_18 : decode cX5_takeSemicolon 18 = .ok (.ireturn, 1) := by decide +kernel
theorem dX5_takeSemicolon_19 : decode cX5_takeSemicolon 19 = .ok (.aload_n 0, 1) := by decide +kernel
theorem dX5_takeSemicolon_20 : decode cX5_takeSemicolon 20 = .ok (.dup, 1) := by decide +kernel
theorem dX5_takeSemicolon_21 : decode cX5_takeSemicolon 21 = .ok (.getfield 33, 3) := by decide +kernel
theorem dX5_takeSemicolon_24 : decode cX5_takeSemicolon 24 = .ok (.iconst 1, 1) := by decide +kernel
theorem dX5_takeSemicolon_25 : decode cX5_takeSemicolon 25 = .ok (.iadd, 1) := by decide +kernel
theorem dX5_takeSemicolon_26 : decode cX5_takeSemicolon 26 = .ok (.putfield 33, 3) := by decide +kernel
theorem dX5_takeSemicolon_29 : decode cX5_takeSemicolon 29 = .ok (.aload_n 0, 1) := by decide +kernel
theorem dX5_takeSemicolon_30 : decode cX5_takeSemicolon 30 = .ok (.dup, 1) := by decide +kernel
theorem dX5_takeSemicolon_31 : decode cX5_takeSemicolon 31 = .ok (.getfield 36, 3) := by decide +kernel
theorem dX5_takeSemicolon_34 : decode cX5_takeSemicolon 34 = .ok (.iconst 1, 1) := by decide +kernel
theorem dX5_takeSemicolon_35 : decode cX5_takeSemicolon 35 = .ok (.iadd, 1) := by decide +kernel
theorem dX5_takeSemicolon_36 : decode cX5_takeSemicolon 36 = .ok (.putfield 36, 3) := by decide +kernel
theorem dX5_takeSemicolon_39 : decode cX5_takeSemicolon 39 = .ok (.iconst 1, 1) := by decide +kernel
theorem dX5_takeSemicolon_40 : decode cX5_takeSemicolon 40 = .ok (.ireturn, 1) := by decide +kernel
theorem dX5_takeKeyword_0 : decode cX5_takeKeyword 0 = .ok (.aload_n 0, 1) := by decide +kernel
theorem dX5_takeKeyword_1 : decode cX5_takeKeyword 1 = .ok (.invokevirtual 122, 3) := by decide +kernel
theorem dX5_takeKeyword_4 : decode cX5_takeKeyword 4 = .ok (.ifCond .ne 5, 3) := by decide +kernel
theorem dX5_takeKeyword_7 : decode cX5_takeKeyword 7 = .ok (.iconst (-1), 1) := by decide +kernel
theorem dX5_takeKeyword_8 : decode cX5_takeKeyword 8 = .ok (.ireturn, 1) := by decide +kernel
theorem dX5_takeKeyword_9 : decode cX5_takeKeyword 9 = .ok (.aload_n 0, 1) := by decide +kernel
theorem dX5_takeKeyword_10 : decode cX5_takeKeyword 10 = .ok (.ldc 168, 2) := by decide +kernel
theorem dX5_takeKeyword_12 : decode cX5_takeKeyword 12 = .ok (.invokevirtual 160, 3) := by decide +kernel
theorem dX5_takeKeyword_15 : decode cX5_takeKeyword 15 = .ok (.ifCond .eq 7, 3) := by decide +kernel
theorem dX5_takeKeyword_18 : decode cX5_takeKeyword 18 = .ok (.iconst 1, 1) := by decide +kernel
theorem dX5_takeKeyword_19 : decode cX5_takeKeyword 19 = .ok (.goto 70, 3) := by decide +kernel
theorem dX5_takeKeyword_22 : decode cX5_takeKeyword 22 = .ok (.aload_n 0, 1) := by decide +kernel
theorem dX5_takeKeyword_23 : decode cX5_takeKeyword 23 = .ok (.ldc 170, 2) := by decide +kernel
theorem dX5_takeKeyword_25 : decode cX5_takeKeyword 25 = .ok (.invokevirtual 160, 3) := by decide +kernel
theorem dX5_takeKeyword_28 : decode cX5_takeKeyword 28 = .ok (.ifCond .eq 7, 3) := by decide +kernel
theorem dX5_takeKeyword_31 : decode cX5_takeKeyword 31 = .ok (.iconst 2, 1) := by decide +kernel
theorem dX5_takeKeyword_32 : decode cX5_takeKeyword 32 = .ok (.goto 57, 3) := by decide +kernel
theorem dX5_takeKeyword_35 : decode cX5_takeKeyword 35 = .ok (.aload_n 0, 1) := by decide +kernel
theorem dX5_takeKeyword_36 : decode cX5_takeKeyword 36 = .ok (.ldc 172, 2) := by decide +kernel
theorem dX5_takeKeyword_38 : decode cX5_takeKeyword 38 = .ok (.invokevirtual 160, 3) := by decide +kernel
theorem dX5_takeKeyword_41 : decode cX5_takeKeyword 41 = .ok (.ifCond .eq 7, 3) := by decide +kernel
theorem dX5_takeKeyword_44 : decode cX5_takeKeyword 44 = .ok (.iconst 3, 1) := by decide +kernel
theorem dX5_takeKeyword_45 : decode cX5_takeKeyword 45 = .ok (.goto 44, 3) := by decide +kernel
theorem dX5_takeKeyword_48 : decode cX5_takeKeyword 48 = .ok (.aload_n 0, 1) := by decide +kernel
theorem dX5_takeKeyword_49 : decode cX5_takeKeyword 49 = .ok (.ldc 174, 2) := by decide +kernel
theorem dX5_takeKeyword_51 : decode cX5_takeKeyword 51 = .ok (.invokevirtual 160, 3) := by decide +kernel
theorem dX5_takeKeyword_54 : decode cX5_takeKeyword 54 = .ok (.ifCond .eq 7, 3) := by decide +kernel
theorem dX5_takeKeyword_57 : decode cX5_takeKeyword 57 = .ok (.iconst 4, 1) := by decide +kernel
theorem dX5_takeKeyword_58 : decode cX5_takeKeyword 58 = .ok (.goto 31, 3) := by decide +kernel
theorem dX5_takeKeyword_61 : decode cX5_takeKeyword 61 = .ok (.aload_n 0, 1) := by decide +kernel
theorem dX5_takeKeyword_62 : decode cX5_takeKeyword 62 = .ok (.ldc 176, 2) := by decide +kernel
theorem dX5_takeKeyword_64 : decode cX5_takeKeyword 64 = .ok (.invokevirtual 160, 3) := by decide +kernel
theorem dX5_takeKeyword_67 : decode cX5_takeKeyword 67 = .ok (.ifCond .eq 7, 3) := by decide +kernel
theorem dX5_takeKeyword_70 : decode cX5_takeKeyword 70 = .ok (.iconst 5, 1) := by decide +kernel
theorem dX5_takeKeyword_71 : decode cX5_takeKeyword 71 = .ok (.goto 18, 3) := by decide +kernel
theorem dX5_takeKeyword_74 : decode cX5_takeKeyword 74 = .ok (.aload_n 0, 1) := by decide +kernel
theorem dX5_takeKeyword_75 : decode cX5_takeKeyword 75 = .ok (.ldc 178, 2) := by decide +kernel
theorem dX5_takeKeyword_77 : decode cX5_takeKeyword 77 = .ok (.invokevirtual 160, 3) := by decide +kernel
theorem dX5_takeKeyword_80 : decode cX5_takeKeyword 80 = .ok (.ifCond .eq 8, 3) := by decide +kernel
theorem dX5_takeKeyword_83 : decode cX5_takeKeyword 83 = .ok (.bipush 6, 2) := by decide +kernel
theorem dX5_takeKeyword_85 : decode cX5_takeKeyword 85 = .ok (.goto 4, 3) := by decide +kernel
theorem dX5_takeKeyword_88 : decode cX5_takeKeyword 88 = .ok (.iconst (-1), 1) := by decide +kernel
theorem dX5_takeKeyword_89 : decode cX5_takeKeyword 89 = .ok (.istore_n 1, 1) := by decide +kernel
theorem dX5_takeKeyword_90 : decode cX5_takeKeyword 90 = .ok (.iload_n 1, 1) := by decide +kernel
theorem dX5_takeKeyword_91 : decode cX5_takeKeyword 91 = .ok (.iconst (-1), 1) := by decide +kernel
theorem dX5_takeKeyword_92 : decode cX5_takeKeyword 92 = .ok (.if_icmp .ne 13, 3) := by decide +kernel
theorem dX5_takeKeyword_95 : decode cX5_takeKeyword 95 = .ok (.aload_n 0, 1) := by decide +kernel
theorem dX5_takeKeyword_96 : decode cX5_takeKeyword 96 = .ok (.iconst 1, 1) := by decide +kernel
theorem dX5_takeKeyword_97 : decode cX5_takeKeyword 97 = .ok (.aload_n 0, 1) := by decide +kernel
theorem dX5_takeKeyword_98 : decode cX5_takeKeyword 98 = .ok (.getfield 85, 3) := by decide +kernel
theorem dX5_takeKeyword_101 : decode cX5_takeKeyword 101 = .ok (.invokevirtual 95, 3) := by decide +kernel
theorem dX5_takeKeyword_104 : decode cX5_takeKeyword 104 = .ok (.pop, 1) := by decide +kernel
theorem dX5_takeKeyword_105 : decode cX5_takeKeyword 105 = .ok (.iload_n 1, 1) := by decide +kernel
theorem dX5_takeKeyword_106 : decode cX5_takeKeyword 106 = .ok (.ireturn, 1) := by decide +kernel
theorem dX5_readLand_0 : decode cX5_readLand 0 = .ok (.aload_n 0, 1) := by decide +kernel
theorem dX5_readLand_1 : decode cX5_readLand 1 = .ok (.getfield 12, 3) := by decide +kernel
theorem dX5_readLand_4 : decode cX5_readLand 4 = .ok (.getfield 125, 3) := by decide +kernel
theorem dX5_readLand_7 : decode cX5_readLand 7 = .ok (.getfield 129, 3) := by decide +kernel
theorem dX5_readLand_10 : decode cX5_readLand 10 = .ok (.ifCond .gt 16, 3) := by decide +kernel
theorem dX5_readLand_13 : decode cX5_readLand 13 = .ok (.aload_n 0, 1) := by decide +kernel
theorem dX5_readLand_14 : decode cX5_readLand 14 = .ok (.getfield 12, 3) := by decide +kernel
theorem dX5_readLand_17 : decode cX5_readLand 17 = .ok (.getfield 140, 3) := by decide +kernel
theorem dX5_readLand_20 : decode cX5_readLand 20 = .ok (.getfield 180, 3) := by decide +kernel
theorem dX5_readLand_23 : decode cX5_readLand 23 = .ok (.ifCond .le 13, 3) := by decide +kernel
theorem dX5_readLand_26 : decode cX5_readLand 26 = .ok (.aload_n 0, 1) := by decide +kernel
theorem dX5_readLand_27 : decode cX5_readLand 27 = .ok (.iconst 3, 1) := by decide +kernel
theorem dX5_readLand_28 : decode cX5_readLand 28 = .ok (.aload_n 0, 1) := by decide +kernel
theorem dX5_readLand_29 : decode cX5_readLand 29 = .ok (.getfield 85, 3) := by decide +kernel
theorem dX5_readLand_32 : decode cX5_readLand 32 = .ok (.invokevirtual 95, 3) := by decide +kernel
theorem dX5_readLand_35 : decode cX5_readLand 35 = .ok (.ireturn, 1) := by decide +kernel
theorem dX5_readLand_36 : decode cX5_readLand 36 = .ok (.aload_n 0, 1) := by decide +kernel
theorem dX5_readLand_37 : decode cX5_readLand 37 = .ok (.invokevirtual 183, 3) := by decide +kernel
theorem dX5_readLand_40 : decode cX5_readLand 40 = .ok (.ifCond .ne 5, 3) := by decide +kernel
theorem dX5_readLand_43 : decode cX5_readLand 43 = .ok (.iconst 0, 1) := by decide +kernel
theorem dX5_readLand_44 : decode cX5_readLand 44 = .ok (.ireturn, 1) := by decide +kernel
theorem dX5_readLand_45 : decode cX5_readLand 45 = .ok (.aload_n 0, 1) := by decide +kernel
theorem dX5_readLand_46 : decode cX5_readLand 46 = .ok (.getfield 155, 3) := by decide +kernel
theorem dX5_readLand_49 : decode cX5_readLand 49 = .ok (.istore_n 1, 1) := by decide +kernel
theorem dX5_readLand_50 : decode cX5_readLand 50 = .ok (.aload_n 0, 1) := by decide +kernel
theorem dX5_readLand_51 : decode cX5_readLand 51 = .ok (.aload_n 0, 1) := by decide +kernel
theorem dX5_readLand_52 : decode cX5_readLand 52 = .ok (.getfield 110, 3) := by decide +kernel
theorem dX5_readLand_55 : decode cX5_readLand 55 = .ok (.aload_n 0, 1) := by decide +kernel
theorem dX5_readLand_56 : decode cX5_readLand 56 = .ok (.getfield 12, 3) := by decide +kernel
theorem dX5_readLand_59 : decode cX5_readLand 59 = .ok (.getfield 140, 3) := by decide +kernel
theorem dX5_readLand_62 : decode cX5_readLand 62 = .ok (.getfield 152, 3) := by decide +kernel
theorem dX5_readLand_65 : decode cX5_readLand 65 = .ok (.iconst 1, 1) := by decide +kernel
theorem dX5_readLand_66 : decode cX5_readLand 66 = .ok (.isub, 1) := by decide +kernel
theorem dX5_readLand_67 : decode cX5_readLand 67 = .ok (.invokevirtual 149, 3) := by decide +kernel
theorem dX5_readLand_70 : decode cX5_readLand 70 = .ok (.ifCond .ne 5, 3) := by decide +kernel
theorem dX5_readLand_73 : decode cX5_readLand 73 = .ok (.iconst 0, 1) := by decide +kernel
theorem dX5_readLand_74 : decode cX5_readLand 74 = .ok (.ireturn, 1) := by decide +kernel
theorem dX5_readLand_75 : decode cX5_readLand 75 = .ok (.iload_n 1, 1) := by decide +kernel
theorem dX5_readLand_76 : decode cX5_readLand 76 = .ok (.iload_n 1, 1) := by decide +kernel
theorem dX5_readLand_77 : decode cX5_readLand 77 = .ok (.iconst 1, 1) := by decide +kernel
theorem dX5_readLand_78 : decode cX5_readLand 78 = .ok (.aload_n 0, 1) := by decide +kernel
theorem dX5_readLand_79 : decode cX5_readLand 79 = .ok (.getfield 12, 3) := by decide +kernel
theorem dX5_readLand_82 : decode cX5_readLand 82 = .ok (.getfield 140, 3) := by decide +kernel
theorem dX5_readLand_85 : decode cX5_readLand 85 = .ok (.getfield 152, 3) := by decide +kernel
theorem dX5_readLand_88 : decode cX5_readLand 88 = .ok (.invokestatic 186, 3) := by decide +kernel
theorem dX5_readLand_91 : decode cX5_readLand 91 = .ok (.irem, 1) := by decide +kernel
theorem dX5_readLand_92 : decode cX5_readLand 92 = .ok (.isub, 1) := by decide +kernel
theorem dX5_readLand_93 : decode cX5_readLand 93 = .ok (.aload_n 0, 1) := by decide +kernel
theorem dX5_readLand_94 : decode cX5_readLand 94 = .ok (.getfield 110, 3) := by decide +kernel
theorem dX5_readLand_97 : decode cX5_readLand 97 = .ok (.iadd, 1) := by decide +kernel
theorem dX5_readLand_98 : decode cX5_readLand 98 = .ok (.istore_n 2, 1) := by decide +kernel
theorem dX5_readLand_99 : decode cX5_readLand 99 = .ok (.iload_n 1, 1) := by decide +kernel
theorem dX5_readLand_100 : decode cX5_readLand 100 = .ok (.istore_n 3, 1) := by decide +kernel
theorem dX5_readLand_101 : decode cX5_readLand 101 = .ok (.iload_n 3, 1) := by decide +kernel
theorem dX5_readLand_102 : decode cX5_readLand 102 = .ok (.iload_n 2, 1) := by decide +kernel
theorem dX5_readLand_103 : decode cX5_readLand 103 = .ok (.if_icmp .gt 21, 3) := by decide +kernel
theorem dX5_readLand_106 : decode cX5_readLand 106 = .ok (.aload_n 0, 1) := by decide +kernel
theorem dX5_readLand_107 : decode cX5_readLand 107 = .ok (.getfield 12, 3) := by decide +kernel
theorem dX5_readLand_110 : decode cX5_readLand 110 = .ok (.getfield 140, 3) := by decide +kernel
theorem dX5_readLand_113 : decode cX5_readLand 113 = .ok (.iload_n 3, 1) := by decide +kernel
theorem dX5_readLand_114 : decode cX5_readLand 114 = .ok (.iconst 1, 1) := by decide +kernel
theorem dX5_readLand_115 : decode cX5_readLand 115 = .ok (.invokevirtual 189, 3) := by decide +kernel
theorem dX5_readLand_118 : decode cX5_readLand 118 = .ok (.iinc 3 1, 3) := by decide +kernel
theorem dX5_readLand_121 : decode cX5_readLand 121 = .ok (.goto (-20), 3) := by decide +kernel
theorem dX5_readLand_124 : decode cX5_readLand 124 = .ok (.iconst 1, 1) := by decide +kernel
theorem dX5_readLand_125 : decode cX5_readLand 125 = .ok (.ireturn, 1) := by decide +kernel
theorem dX5_readHarbour_0 : decode cX5_readHarbour 0 = .ok (.aload_n 0, 1) := by decide +kernel
theorem dX5_readHarbour_1 : decode cX5_readHarbour 1 = .ok (.getfield 12, 3) := by decide +kernel
theorem dX5_readHarbour_4 : decode cX5_readHarbour 4 = .ok (.getfield 125, 3) := by decide +kernel
theorem dX5_readHarbour_7 : decode cX5_readHarbour 7 = .ok (.getfield 129, 3) := by decide +kernel
theorem dX5_readHarbour_10 : decode cX5_readHarbour 10 = .ok (.bipush 8, 2) := by decide +kernel
theorem dX5_readHarbour_12 : decode cX5_readHarbour 12 = .ok (.if_icmp .lt 13, 3) := by decide +kernel
theorem dX5_readHarbour_15 : decode cX5_readHarbour 15 = .ok (.aload_n 0, 1) := by decide +kernel
theorem dX5_readHarbour_16 : decode cX5_readHarbour 16 = .ok (.iconst 3, 1) := by decide +kernel
theorem dX5_readHarbour_17 : decode cX5_readHarbour 17 = .ok (.aload_n 0, 1) := by decide +kernel
theorem dX5_readHarbour_18 : decode cX5_readHarbour 18 = .ok (.getfield 85, 3) := by decide +kernel
theorem dX5_readHarbour_21 : decode cX5_readHarbour 21 = .ok (.invokevirtual 95, 3) := by decide +kernel
theorem dX5_readHarbour_24 : decode cX5_readHarbour 24 = .ok (.ireturn, 1) := by decide +kernel
theorem dX5_readHarbour_25 : decode cX5_readHarbour 25 = .ok (.aload_n 0, 1) := by decide +kernel
theorem dX5_readHarbour_26 : decode cX5_readHarbour 26 = .ok (.invokevirtual 193, 3) := by decide +kernel
theorem dX5_readHarbour_29 : decode cX5_readHarbour 29 = .ok (.ifCond .ne 5, 3) := by decide +kernel
theorem dX5_readHarbour_32 : decode cX5_readHarbour 32 = .ok (.iconst 0, 1) := by decide +kernel
theorem dX5_readHarbour_33 : decode cX5_readHarbour 33 = .ok (.ireturn, 1) := by decide +kernel
theorem dX5_readHarbour_34 : decode cX5_readHarbour 34 = .ok (.aload_n 0, 1) := by decide +kernel
theorem dX5_readHarbour_35 : decode cX5_readHarbour 35 = .ok (.invokevirtual 196, 3) := by decide +kernel
theorem dX5_readHarbour_38 : decode cX5_readHarbour 38 = .ok (.iconst (-1), 1) := by decide +kernel
theorem dX5_readHarbour_39 : decode cX5_readHarbour 39 = .ok (.if_icmp .eq 13, 3) := by decide +kernel
theorem dX5_readHarbour_42 : decode cX5_readHarbour 42 = .ok (.aload_n 0, 1) := by decide +kernel
theorem dX5_readHarbour_43 : decode cX5_readHarbour 43 = .ok (.iconst 3, 1) := by decide +kernel
theorem dX5_readHarbour_44 : decode cX5_readHarbour 44 = .ok (.aload_n 0, 1) := by decide +kernel
theorem dX5_readHarbour_45 : decode cX5_readHarbour 45 = .ok (.getfield 85, 3) := by decide +kernel
theorem dX5_readHarbour_48 : decode cX5_readHarbour 48 = .ok (.invokevirtual 95, 3) := by decide +kernel
theorem dX5_readHarbour_51 : decode cX5_readHarbour 51 = .ok (.ireturn, 1) := by decide +kernel
theorem dX5_readHarbour_52 : decode cX5_readHarbour 52 = .ok (.aload_n 0, 1) := by decide +kernel
theorem dX5_readHarbour_53 : decode cX5_readHarbour 53 = .ok (.getfield 85, 3) := by decide +kernel
theorem dX5_readHarbour_56 : decode cX5_readHarbour 56 = .ok (.istore_n 1, 1) := by decide +kernel
theorem dX5_readHarbour_57 : decode cX5_readHarbour 57 = .ok (.aload_n 0, 1) := by decide +kernel
theorem dX5_readHarbour_58 : decode cX5_readHarbour 58 = .ok (.getfield 92, 3) := by decide +kernel
theorem dX5_readHarbour_61 : decode cX5_readHarbour 61 = .ok (.istore_n 2, 1) := by decide +kernel
theorem dX5_readHarbour_62 : decode cX5_readHarbour 62 = .ok (.aload_n 0, 1) := by decide +kernel
theorem dX5_readHarbour_63 : decode cX5_readHarbour 63 = .ok (.invokevirtual 183, 3) := by decide +kernel
theorem dX5_readHarbour_66 : decode cX5_readHarbour 66 = .ok (.ifCond .ne 5, 3) := by decide +kernel
theorem dX5_readHarbour_69 : decode cX5_readHarbour 69 = .ok (.iconst 0, 1) := by decide +kernel
theorem dX5_readHarbour_70 : decode cX5_readHarbour 70 = .ok (.ireturn, 1) := by decide +kernel
theorem dX5_readHarbour_71 : decode cX5_readHarbour 71 = .ok (.aload_n 0, 1) := by decide +kernel
theorem dX5_readHarbour_72 : decode cX5_readHarbour 72 = .ok (.getfield 12, 3) := by decide +kernel
theorem dX5_readHarbour_75 : decode cX5_readHarbour 75 = .ok (.aload_n 0, 1) := by decide +kernel
theorem dX5_readHarbour_76 : decode cX5_readHarbour 76 = .ok (.getfield 155, 3) := by decide +kernel
theorem dX5_readHarbour_79 : decode cX5_readHarbour 79 = .ok (.invokevirtual 199, 3) := by decide +kernel
theorem dX5_readHarbour_82 : decode cX5_readHarbour 82 = .ok (.ifCond .eq 35, 3) := by decide +kernel
theorem dX5_readHarbour_85 : decode cX5_readHarbour 85 = .ok (.aload_n 0, 1) := by decide +kernel
theorem dX5_readHarbour_86 : decode cX5_readHarbour 86 = .ok (.getfield 12, 3) := by decide +kernel
theorem dX5_readHarbour_89 : decode cX5_readHarbour 89 = .ok (.aload_n 0, 1) := by decide +kernel
theorem dX5_readHarbour_90 : decode cX5_readHarbour 90 = .ok (.getfield 155, 3) := by decide +kernel
theorem dX5_readHarbour_93 : decode cX5_readHarbour 93 = .ok (.invokevirtual 202, 3) := by decide +kernel
theorem dX5_readHarbour_96 : decode cX5_readHarbour 96 = .ok (.ifCond .ne 21, 3) := by decide +kernel
theorem dX5_readHarbour_99 : decode cX5_readHarbour 99 = .ok (.aload_n 0, 1) := by decide +kernel
theorem dX5_readHarbour_100 : decode cX5_readHarbour 100 = .ok (.getfield 12, 3) := by decide +kernel
theorem dX5_readHarbour_103 : decode cX5_readHarbour 103 = .ok (.getfield 140, 3) := by decide +kernel
theorem dX5_readHarbour_106 : decode cX5_readHarbour 106 = .ok (.aload_n 0, 1) := by decide +kernel
theorem dX5_readHarbour_107 : decode cX5_readHarbour 107 = .ok (.getfield 155, 3) := by decide +kernel
theorem dX5_readHarbour_110 : decode cX5_readHarbour 110 = .ok (.iconst (-1), 1) := by decide +kernel
theorem dX5_readHarbour_111 : decode cX5_readHarbour 111 = .ok (.invokevirtual 205, 3) := by decide +kernel
theorem dX5_readHarbour_114 : decode cX5_readHarbour 114 = .ok (.ifCond .ne 13, 3) := by decide +kernel
theorem dX5_readHarbour_117 : decode cX5_readHarbour 117 = .ok (.aload_n 0, 1) := by decide +kernel
theorem dX5_readHarbour_118 : decode cX5_readHarbour 118 = .ok (.iconst 3, 1) := by decide +kernel
theorem dX5_readHarbour_119 : decode cX5_readHarbour 119 = .ok (.aload_n 0, 1) := by decide +kernel
theorem dX5_readHarbour_120 : decode cX5_readHarbour 120 = .ok (.getfield 107, 3) := by decide +kernel
theorem dX5_readHarbour_123 : decode cX5_readHarbour 123 = .ok (.invokevirtual 95, 3) := by decide +kernel
theorem dX5_readHarbour_126 : decode cX5_readHarbour 126 = .ok (.ireturn, 1) := by decide +kernel
theorem dX5_readHarbour_127 : decode cX5_readHarbour 127 = .ok (.aload_n 0, 1) := by decide +kernel
theorem dX5_readHarbour_128 : decode cX5_readHarbour 128 = .ok (.getfield 12, 3) := by decide +kernel
theorem dX5_readHarbour_131 : decode cX5_readHarbour 131 = .ok (.getfield 125, 3) := by decide +kernel
theorem dX5_readHarbour_134 : decode cX5_readHarbour 134 = .ok (.aload_n 0, 1) := by decide +kernel
theorem dX5_readHarbour_135 : decode cX5_readHarbour 135 = .ok (.getfield 155, 3) := by decide +kernel
theorem dX5_readHarbour_138 : decode cX5_readHarbour 138 = .ok (.aload_n 0, 1) := by decide +kernel
theorem dX5_readHarbour_139 : decode cX5_readHarbour 139 = .ok (.getfield 25, 3) := by decide +kernel
theorem dX5_readHarbour_142 : decode cX5_readHarbour 142 = .ok (.iload_n 1, 1) := by decide +kernel
theorem dX5_readHarbour_143 : decode cX5_readHarbour 143 = .ok (.iload_n 2, 1) := by decide +kernel
theorem dX5_readHarbour_144 : decode cX5_readHarbour 144 = .ok (.invokevirtual 208, 3) := by decide +kernel
theorem dX5_readHarbour_147 : decode cX5_readHarbour 147 = .ok (.aload_n 0, 1) := by decide +kernel
theorem dX5_readHarbour_148 : decode cX5_readHarbour 148 = .ok (.aload_n 0, 1) := by decide +kernel
theorem dX5_readHarbour_149 : decode cX5_readHarbour 149 = .ok (.getfield 12, 3) := by decide +kernel
theorem dX5_readHarbour_152 : decode cX5_readHarbour 152 = .ok (.getfield 125, 3) := by decide +kernel
theorem dX5_readHarbour_155 : decode cX5_readHarbour 155 = .ok (.getfield 129, 3) := by decide +kernel
theorem dX5_readHarbour_158 : decode cX5_readHarbour 158 = .ok (.iconst 1, 1) := by decide +kernel
theorem dX5_readHarbour_159 : decode cX5_readHarbour 159 = .ok (.isub, 1) := by decide +kernel
theorem dX5_readHarbour_160 : decode cX5_readHarbour 160 = .ok (.invokevirtual 212, 3) := by decide +kernel
theorem dX5_readHarbour_163 : decode cX5_readHarbour 163 = .ok (.ireturn, 1) := by decide +kernel
theorem dX5_readRed_0 : decode cX5_readRed 0 = .ok (.aload_n 0, 1) := by decide +kernel
theorem dX5_readRed_1 : decode cX5_readRed 1 = .ok (.invokevirtual 53, 3) := by decide +kernel
theorem dX5_readRed_4 : decode cX5_readRed 4 = .ok (.invokestatic 88, 3) := by decide +kernel
theorem dX5_readRed_7 : decode cX5_readRed 7 = .ok (.ifCond .ne 5, 3) := by decide +kernel
theorem dX5_readRed_10 : decode cX5_readRed 10 = .ok (.iconst 1, 1) := by decide +kernel
theorem dX5_readRed_11 : decode cX5_readRed 11 = .ok (.ireturn, 1) := by decide +kernel
theorem dX5_readRed_12 : decode cX5_readRed 12 = .ok (.aload_n 0, 1) := by decide +kernel
theorem dX5_readRed_13 : decode cX5_readRed 13 = .ok (.invokevirtual 122, 3) := by decide +kernel
theorem dX5_readRed_16 : decode cX5_readRed 16 = .ok (.pop, 1) := by decide +kernel
theorem dX5_readRed_17 : decode cX5_readRed 17 = .ok (.aload_n 0, 1) := by decide +kernel
theorem dX5_readRed_18 : decode cX5_readRed 18 = .ok (.ldc 215, 2) := by decide +kernel
theorem dX5_readRed_20 : decode cX5_readRed 20 = .ok (.invokevirtual 160, 3) := by decide +kernel
theorem dX5_readRed_23 : decode cX5_readRed 23 = .ok (.ifCond .ne 13, 3) := by decide +kernel
theorem dX5_readRed_26 : decode cX5_readRed 26 = .ok (.aload_n 0, 1) := by decide +kernel
theorem dX5_readRed_27 : decode cX5_readRed 27 = .ok (.iconst 1, 1) := by decide +kernel
theorem dX5_readRed_28 : decode cX5_readRed 28 = .ok (.aload_n 0, 1) := by decide +kernel
theorem dX5_readRed_29 : decode cX5_readRed 29 = .ok (.getfield 85, 3) := by decide +kernel
theorem dX5_readRed_32 : decode cX5_readRed 32 = .ok (.invokevirtual 95, 3) := by decide +kernel
theorem dX5_readRed_35 : decode cX5_readRed 35 = .ok (.ireturn, 1) := by decide +kernel
theorem dX5_readRed_36 : decode cX5_readRed 36 = .ok (.aload_n 0, 1) := by decide +kernel
theorem dX5_readRed_37 : decode cX5_readRed 37 = .ok (.getfield 12, 3) := by decide +kernel
theorem dX5_readRed_40 : decode cX5_readRed 40 = .ok (.getfield 125, 3) := by decide +kernel
theorem dX5_readRed_43 : decode cX5_readRed 43 = .ok (.aload_n 0, 1) := by decide +kernel
theorem dX5_readRed_44 : decode cX5_readRed 44 = .ok (.getfield 12, 3) := by decide +kernel
theorem dX5_readRed_47 : decode cX5_readRed 47 = .ok (.getfield 125, 3) := by decide +kernel
theorem dX5_readRed_50 : decode cX5_readRed 50 = .ok (.iload_n 1, 1) := by decide +kernel
theorem dX5_readRed_51 : decode cX5_readRed 51 = .ok (.iconst 1, 1) := by decide +kernel
theorem dX5_readRed_52 : decode cX5_readRed 52 = .ok (.invokevirtual 217, 3) := by decide +kernel
theorem dX5_readRed_55 : decode cX5_readRed 55 = .ok (.putfield 221, 3) := by decide +kernel
theorem dX5_readRed_58 : decode cX5_readRed 58 = .ok (.iconst 1, 1) := by decide +kernel
theorem dX5_readRed_59 : decode cX5_readRed 59 = .ok (.ireturn, 1) := by decide +kernel
theorem dX5_readRiver_0 : decode cX5_readRiver 0 = .ok (.aload_n 0, 1) := by decide +kernel
theorem dX5_readRiver_1 : decode cX5_readRiver 1 = .ok (.getfield 12, 3) := by decide +kernel
theorem dX5_readRiver_4 : decode cX5_readRiver 4 = .ok (.getfield 140, 3) := by decide +kernel
theorem dX5_readRiver_7 : decode cX5_readRiver 7 = .ok (.getfield 180, 3) := by decide +kernel
theorem dX5_readRiver_10 : decode cX5_readRiver 10 = .ok (.bipush 8, 2) := by decide +kernel
theorem dX5_readRiver_12 : decode cX5_readRiver 12 = .ok (.if_icmp .lt 13, 3) := by decide +kernel
theorem dX5_readRiver_15 : decode cX5_readRiver 15 = .ok (.aload_n 0, 1) := by decide +kernel
theorem dX5_readRiver_16 : decode cX5_readRiver 16 = .ok (.iconst 3, 1) := by decide +kernel
theorem dX5_readRiver_17 : decode cX5_readRiver 17 = .ok (.aload_n 0, 1) := by decide +kernel
theorem dX5_readRiver_18 : decode cX5_readRiver 18 = .ok (.getfield 85, 3) := by decide +kernel
theorem dX5_readRiver_21 : decode cX5_readRiver 21 = .ok (.invokevirtual 95, 3) := by decide +kernel
theorem dX5_readRiver_24 : decode cX5_readRiver 24 = .ok (.ireturn, 1) := by decide +kernel
theorem dX5_readRiver_25 : decode cX5_readRiver 25 = .ok (.aload_n 0, 1) := by decide +kernel
theorem dX5_readRiver_26 : decode cX5_readRiver 26 = .ok (.invokevirtual 183, 3) := by decide +kernel
theorem dX5_readRiver_29 : decode cX5_readRiver 29 = .ok (.ifCond .ne 5, 3) := by decide +kernel
theorem dX5_readRiver_32 : decode cX5_readRiver 32 = .ok (.iconst 0, 1) := by decide +kernel
theorem dX5_readRiver_33 : decode cX5_readRiver 33 = .ok (.ireturn, 1) := by decide +kernel
theorem dX5_readRiver_34 : decode cX5_readRiver 34 = .ok (.aload_n 0, 1) := by decide +kernel
theorem dX5_readRiver_35 : decode cX5_readRiver 35 = .ok (.getfield 21, 3) := by decide +kernel
theorem dX5_readRiver_38 : decode cX5_readRiver 38 = .ok (.aload_n 0, 1) := by decide +kernel
theorem dX5_readRiver_39 : decode cX5_readRiver 39 = .ok (.getfield 12, 3) := by decide +kernel
theorem dX5_readRiver_42 : decode cX5_readRiver 42 = .ok (.invokevirtual 224, 3) := by decide +kernel
theorem dX5_readRiver_45 : decode cX5_readRiver 45 = .ok (.aload_n 0, 1) := by decide +kernel
theorem dX5_readRiver_46 : decode cX5_readRiver 46 = .ok (.getfield 21, 3) := by decide +kernel
theorem dX5_readRiver_49 : decode cX5_readRiver 49 = .ok (.aload_n 0, 1) := by decide +kernel
theorem dX5_readRiver_50 : decode cX5_readRiver 50 = .ok (.getfield 12, 3) := by decide +kernel
theorem dX5_readRiver_53 : decode cX5_readRiver 53 = .ok (.getfield 140, 3) := by decide +kernel
theorem dX5_readRiver_56 : decode cX5_readRiver 56 = .ok (.aload_n 0, 1) := by decide +kernel
theorem dX5_readRiver_57 : decode cX5_readRiver 57 = .ok (.getfield 155, 3) := by decide +kernel
theorem dX5_readRiver_60 : decode cX5_readRiver 60 = .ok (.invokevirtual 228, 3) := by decide +kernel
theorem dX5_readRiver_63 : decode cX5_readRiver 63 = .ok (.ifCond .ne 13, 3) := by decide +kernel
theorem dX5_readRiver_66 : decode cX5_readRiver 66 = .ok (.aload_n 0, 1) := by decide +kernel
theorem dX5_readRiver_67 : decode cX5_readRiver 67 = .ok (.iconst 3, 1) := by decide +kernel
theorem dX5_readRiver_68 : decode cX5_readRiver 68 = .ok (.aload_n 0, 1) := by decide +kernel
theorem dX5_readRiver_69 : decode cX5_readRiver 69 = .ok (.getfield 107, 3) := by decide +kernel
theorem dX5_readRiver_72 : decode cX5_readRiver 72 = .ok (.invokevirtual 95, 3) := by decide +kernel
theorem dX5_readRiver_75 : decode cX5_readRiver 75 = .ok (.ireturn, 1) := by decide +kernel
theorem dX5_readRiver_76 : decode cX5_readRiver 76 = .ok (.aload_n 0, 1) := by decide +kernel
theorem dX5_readRiver_77 : decode cX5_readRiver 77 = .ok (.getfield 12, 3) := by decide +kernel
theorem dX5_readRiver_80 : decode cX5_readRiver 80 = .ok (.aload_n 0, 1) := by decide +kernel
theorem dX5_readRiver_81 : decode cX5_readRiver 81 = .ok (.getfield 21, 3) := by decide +kernel
theorem dX5_readRiver_84 : decode cX5_readRiver 84 = .ok (.aload_n 0, 1) := by decide +kernel
theorem dX5_readRiver_85 : decode cX5_readRiver 85 = .ok (.getfield 12, 3) := by decide +kernel
theorem dX5_readRiver_88 : decode cX5_readRiver 88 = .ok (.invokevirtual 232, 3) := by decide +kernel
theorem dX5_readRiver_91 : decode cX5_readRiver 91 = .ok (.invokevirtual 236, 3) := by decide +kernel
theorem dX5_readRiver_94 : decode cX5_readRiver 94 = .ok (.aload_n 0, 1) := by decide +kernel
theorem dX5_readRiver_95 : decode cX5_readRiver 95 = .ok (.getfield 12, 3) := by decide +kernel
theorem dX5_readRiver_98 : decode cX5_readRiver 98 = .ok (.getfield 140, 3) := by decide +kernel
theorem dX5_readRiver_101 : decode cX5_readRiver 101 = .ok (.aload_n 0, 1) := by decide +kernel
theorem dX5_readRiver_102 : decode cX5_readRiver 102 = .ok (.getfield 21, 3) := by decide +kernel
theorem dX5_readRiver_105 : decode cX5_readRiver 105 = .ok (.getfield 240, 3) := by decide +kernel
theorem dX5_readRiver_108 : decode cX5_readRiver 108 = .ok (.aload_n 0, 1) := by decide +kernel
theorem dX5_readRiver_109 : decode cX5_readRiver 109 = .ok (.getfield 21, 3) := by decide +kernel
theorem dX5_readRiver_112 : decode cX5_readRiver 112 = .ok (.getfield 243, 3) := by decide +kernel
theorem dX5_readRiver_115 : decode cX5_readRiver 115 = .ok (.invokevirtual 244, 3) := by decide +kernel
theorem dX5_readRiver_118 : decode cX5_readRiver 118 = .ok (.iconst 1, 1) := by decide +kernel
theorem dX5_readRiver_119 : decode cX5_readRiver 119 = .ok (.ireturn, 1) := by decide +kernel
theorem dX5_directionWord_0 : decode cX5_directionWord 0 = .ok (.aload_n 0, 1) := by decide +kernel
theorem dX5_directionWord_1 : decode cX5_directionWord 1 = .ok (.ldc 248, 2) := by decide +kernel
theorem dX5_directionWord_3 : decode cX5_directionWord 3 = .ok (.invokevirtual 160, 3) := by decide +kernel
theorem dX5_directionWord_6 : decode cX5_directionWord 6 = .ok (.ifCond .eq 7, 3) := by decide +kernel
theorem dX5_directionWord_9 : decode cX5_directionWord 9 = .ok (.iconst 0, 1) := by decide +kernel
theorem dX5_directionWord_10 : decode cX5_directionWord 10 = .ok (.goto 43, 3) := by decide +kernel
theorem dX5_directionWord_13 : decode cX5_directionWord 13 = .ok (.aload_n 0, 1) := by decide +kernel
theorem dX5_directionWord_14 : decode cX5_directionWord 14 = .ok (.ldc 250, 2) := by decide +kernel
theorem dX5_directionWord_16 : decode cX5_directionWord 16 = .ok (.invokevirtual 160, 3) := by decide +kernel
theorem dX5_directionWord_19 : decode cX5_directionWord 19 = .ok (.ifCond .eq 7, 3) := by decide +kernel
theorem dX5_directionWord_22 : decode cX5_directionWord 22 = .ok (.iconst 1, 1) := by decide +kernel
theorem dX5_directionWord_23 : decode cX5_directionWord 23 = .ok (.goto 30, 3) := by decide +kernel
theorem dX5_directionWord_26 : decode cX5_directionWord 26 = .ok (.aload_n 0, 1) := by decide +kernel
theorem dX5_directionWord_27 : decode cX5_directionWord 27 = .ok (.ldc 252, 2) := by decide +kernel
theorem dX5_directionWord_29 : decode cX5_directionWord 29 = .ok (.invokevirtual 160, 3) := by decide +kernel
theorem dX5_directionWord_32 : decode cX5_directionWord 32 = .ok (.ifCond .eq 7, 3) := by decide +kernel
theorem dX5_directionWord_35 : decode cX5_directionWord 35 = .ok (.iconst 2, 1) := by decide +kernel
theorem dX5_directionWord_36 : decode cX5_directionWord 36 = .ok (.goto 17, 3) := by decide +kernel
theorem dX5_directionWord_39 : decode cX5_directionWord 39 = .ok (.aload_n 0, 1) := by decide +kernel
theorem dX5_directionWord_40 : decode cX5_directionWord 40 = .ok (.ldc 254, 2) := by decide +kernel
theorem dX5_directionWord_42 : decode cX5_directionWord 42 = .ok (.invokevirtual 160, 3) := by decide +kernel
theorem dX5_directionWord_45 : decode cX5_directionWord 45 = .ok (.ifCond .eq 7, 3) := by decide +kernel
theorem dX5_directionWord_48 : decode cX5_directionWord 48 = .ok (.iconst 3, 1) := by decide +kernel
theorem dX5_directionWord_49 : decode cX5_directionWord 49 = .ok (.goto 4, 3) := by decide +kernel
theorem dX5_directionWord_52 : decode cX5_directionWord 52 = .ok (.iconst (-1), 1) := by decide +kernel
theorem dX5_directionWord_53 : decode cX5_directionWord 53 = .ok (.ireturn, 1) := by decide +kernel
theorem dX5_readPlace_0 : decode cX5_readPlace 0 = .ok (.aload_n 0, 1) := by decide +kernel
theorem dX5_readPlace_1 : decode cX5_readPlace 1 = .ok (.invokevirtual 193, 3) := by decide +kernel
theorem dX5_readPlace_4 : decode cX5_readPlace 4 = .ok (.ifCond .ne 5, 3) := by decide +kernel
theorem dX5_readPlace_7 : decode cX5_readPlace 7 = .ok (.iconst 0, 1) := by decide +kernel
theorem dX5_readPlace_8 : decode cX5_readPlace 8 = .ok (.ireturn, 1) := by decide +kernel
theorem dX5_readPlace_9 : decode cX5_readPlace 9 = .ok (.aload_n 0, 1) := by decide +kernel
theorem dX5_readPlace_10 : decode cX5_readPlace 10 = .ok (.invokevirtual 196, 3) := by decide +kernel
theorem dX5_readPlace_13 : decode cX5_readPlace 13 = .ok (.istore_n 1, 1) := by decide +kernel
theorem dX5_readPlace_14 : decode cX5_readPlace 14 = .ok (.iload_n 1, 1) := by decide +kernel
theorem dX5_readPlace_15 : decode cX5_readPlace 15 = .ok (.iconst (-1), 1) := by decide +kernel
theorem dX5_readPlace_16 : decode cX5_readPlace 16 = .ok (.if_icmp .ne 13, 3) := by decide +kernel
theorem dX5_readPlace_19 : decode cX5_readPlace 19 = .ok (.aload_n 0, 1) := by decide +kernel
theorem dX5_readPlace_20 : decode cX5_readPlace 20 = .ok (.iconst 4, 1) := by decide +kernel
theorem dX5_readPlace_21 : decode cX5_readPlace 21 = .ok (.aload_n 0, 1) := by decide +kernel
theorem dX5_readPlace_22 : decode cX5_readPlace 22 = .ok (.getfield 85, 3) := by decide +kernel
theorem dX5_readPlace_25 : decode cX5_readPlace 25 = .ok (.invokevirtual 95, 3) := by decide +kernel
theorem dX5_readPlace_28 : decode cX5_readPlace 28 = .ok (.ireturn, 1) := by decide +kernel
theorem dX5_readPlace_29 : decode cX5_readPlace 29 = .ok (.aload_n 0, 1) := by decide +kernel
theorem dX5_readPlace_30 : decode cX5_readPlace 30 = .ok (.invokevirtual 122, 3) := by decide +kernel
theorem dX5_readPlace_33 : decode cX5_readPlace 33 = .ok (.ifCond .ne 5, 3) := by decide +kernel
theorem dX5_readPlace_36 : decode cX5_readPlace 36 = .ok (.iconst 0, 1) := by decide +kernel
theorem dX5_readPlace_37 : decode cX5_readPlace 37 = .ok (.ireturn, 1) := by decide +kernel
theorem dX5_readPlace_38 : decode cX5_readPlace 38 = .ok (.aload_n 0, 1) := by decide +kernel
theorem dX5_readPlace_39 : decode cX5_readPlace 39 = .ok (.invokevirtual 256, 3) := by decide +kernel
theorem dX5_readPlace_42 : decode cX5_readPlace 42 = .ok (.istore_n 2, 1) := by decide +kernel
theorem dX5_readPlace_43 : decode cX5_readPlace 43 = .ok (.iload_n 2, 1) := by decide +kernel
theorem dX5_readPlace_44 : decode cX5_readPlace 44 = .ok (.iconst (-1), 1) := by decide +kernel
theorem dX5_readPlace_45 : decode cX5_readPlace 45 = .ok (.if_icmp .ne 13, 3) := by decide +kernel
theorem dX5_readPlace_48 : decode cX5_readPlace 48 = .ok (.aload_n 0, 1) := by decide +kernel
theorem dX5_readPlace_49 : decode cX5_readPlace 49 = .ok (.iconst 1, 1) := by decide +kernel
theorem dX5_readPlace_50 : decode cX5_readPlace 50 = .ok (.aload_n 0, 1) := by decide +kernel
theorem dX5_readPlace_51 : decode cX5_readPlace 51 = .ok (.getfield 85, 3) := by decide +kernel
theorem dX5_readPlace_54 : decode cX5_readPlace 54 = .ok (.invokevirtual 95, 3) := by decide +kernel
theorem dX5_readPlace_57 : decode cX5_readPlace 57 = .ok (.ireturn, 1) := by decide +kernel
theorem dX5_readPlace_58 : decode cX5_readPlace 58 = .ok (.aload_n 0, 1) := by decide +kernel
theorem dX5_readPlace_59 : decode cX5_readPlace 59 = .ok (.getfield 12, 3) := by decide +kernel
theorem dX5_readPlace_62 : decode cX5_readPlace 62 = .ok (.iload_n 1, 1) := by decide +kernel
theorem dX5_readPlace_63 : decode cX5_readPlace 63 = .ok (.iload_n 2, 1) := by decide +kernel
theorem dX5_readPlace_64 : decode cX5_readPlace 64 = .ok (.invokevirtual 259, 3) := by decide +kernel
theorem dX5_readPlace_67 : decode cX5_readPlace 67 = .ok (.ifCond .eq 13, 3) := by decide +kernel
theorem dX5_readPlace_70 : decode cX5_readPlace 70 = .ok (.aload_n 0, 1) := by decide +kernel
theorem dX5_readPlace_71 : decode cX5_readPlace 71 = .ok (.iconst 3, 1) := by decide +kernel
theorem dX5_readPlace_72 : decode cX5_readPlace 72 = .ok (.aload_n 0, 1) := by decide +kernel
theorem dX5_readPlace_73 : decode cX5_readPlace 73 = .ok (.getfield 85, 3) := by decide +kernel
theorem dX5_readPlace_76 : decode cX5_readPlace 76 = .ok (.invokevirtual 95, 3) := by decide +kernel
theorem dX5_readPlace_79 : decode cX5_readPlace 79 = .ok (.ireturn, 1) := by decide +kernel
theorem dX5_readPlace_80 : decode cX5_readPlace 80 = .ok (.aload_n 0, 1) := by decide +kernel
theorem dX5_readPlace_81 : decode cX5_readPlace 81 = .ok (.getfield 12, 3) := by decide +kernel
theorem dX5_readPlace_84 : decode cX5_readPlace 84 = .ok (.iload_n 1, 1) := by decide +kernel
theorem dX5_readPlace_85 : decode cX5_readPlace 85 = .ok (.iload_n 2, 1) := by decide +kernel
theorem dX5_readPlace_86 : decode cX5_readPlace 86 = .ok (.invokevirtual 262, 3) := by decide +kernel
theorem dX5_readPlace_89 : decode cX5_readPlace 89 = .ok (.iconst 1, 1) := by decide +kernel
theorem dX5_readPlace_90 : decode cX5_readPlace 90 = .ok (.ireturn, 1) := by decide +kernel
theorem dX5_readVoyage_0 : decode cX5_readVoyage 0 = .ok (.aload_n 0, 1) := by decide +kernel
theorem dX5_readVoyage_1 : decode cX5_readVoyage 1 = .ok (.getfield 45, 3) := by decide +kernel
theorem dX5_readVoyage_4 : decode cX5_readVoyage 4 = .ok (.ifCond .eq 13, 3) := by decide +kernel
theorem dX5_readVoyage_7 : decode cX5_readVoyage 7 = .ok (.aload_n 0, 1) := by decide +kernel
theorem dX5_readVoyage_8 : decode cX5_readVoyage 8 = .ok (.iconst 3, 1) := by decide +kernel
theorem dX5_readVoyage_9 : decode cX5_readVoyage 9 = .ok (.aload_n 0, 1) := by decide +kernel
theorem dX5_readVoyage_10 : decode cX5_readVoyage 10 = .ok (.getfield 85, 3) := by decide +kernel
theorem dX5_readVoyage_13 : decode cX5_readVoyage 13 = .ok (.invokevirtual 95, 3) := by decide +kernel
theorem dX5_readVoyage_16 : decode cX5_readVoyage 16 = .ok (.ireturn, 1) := by decide +kernel
theorem dX5_readVoyage_17 : decode cX5_readVoyage 17 = .ok (.aload_n 0, 1) := by decide +kernel
theorem dX5_readVoyage_18 : decode cX5_readVoyage 18 = .ok (.iconst 1, 1) := by decide +kernel
theorem dX5_readVoyage_19 : decode cX5_readVoyage 19 = .ok (.putfield 45, 3) := by decide +kernel
theorem dX5_readVoyage_22 : decode cX5_readVoyage 22 = .ok (.iconst 0, 1) := by decide +kernel
theorem dX5_readVoyage_23 : decode cX5_readVoyage 23 = .ok (.istore_n 1, 1) := by decide +kernel
theorem dX5_readVoyage_24 : decode cX5_readVoyage 24 = .ok (.iload_n 1, 1) := by decide +kernel
theorem dX5_readVoyage_25 : decode cX5_readVoyage 25 = .ok (.ifCond .eq 19, 3) := by decide +kernel
theorem dX5_readVoyage_28 : decode cX5_readVoyage 28 = .ok (.aload_n 0, 1) := by decide +kernel
theorem dX5_readVoyage_29 : decode cX5_readVoyage 29 = .ok (.invokevirtual 53, 3) := by decide +kernel
theorem dX5_readVoyage_32 : decode cX5_readVoyage 32 = .ok (.invokestatic 88, 3) := by decide +kernel
theorem dX5_readVoyage_35 : decode cX5_readVoyage 35 = .ok (.ifCond .eq 71, 3) := by decide +kernel
theorem dX5_readVoyage_38 : decode cX5_readVoyage 38 = .ok (.iload_n 1, 1) := by decide +kernel
theorem dX5_readVoyage_39 : decode cX5_readVoyage 39 = .ok (.bipush 16, 2) := by decide +kernel
theorem dX5_readVoyage_41 : decode cX5_readVoyage 41 = .ok (.if_icmp .gt 65, 3) := by decide +kernel
theorem dX5_readVoyage_44 : decode cX5_readVoyage 44 = .ok (.aload_n 0, 1) := by decide +kernel
theorem dX5_readVoyage_45 : decode cX5_readVoyage 45 = .ok (.invokevirtual 193, 3) := by decide +kernel
theorem dX5_readVoyage_48 : decode cX5_readVoyage 48 = .ok (.ifCond .ne 5, 3) := by decide +kernel
theorem dX5_readVoyage_51 : decode cX5_readVoyage 51 = .ok (.iconst 0, 1) := by decide +kernel
theorem dX5_readVoyage_52 : decode cX5_readVoyage 52 = .ok (.ireturn, 1) := by decide +kernel
theorem dX5_readVoyage_53 : decode cX5_readVoyage 53 = .ok (.iload_n 1, 1) := by decide +kernel
theorem dX5_readVoyage_54 : decode cX5_readVoyage 54 = .ok (.bipush 16, 2) := by decide +kernel
theorem dX5_readVoyage_56 : decode cX5_readVoyage 56 = .ok (.if_icmp .ne 13, 3) := by decide +kernel
