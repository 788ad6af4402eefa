theorem dX8_arrange_30 : decode cX8_arrange 30 = .ok (.invokevirtual 286, 3) := by decide +kernel
theorem dX8_arrange_33 : decode cX8_arrange 33 = .ok (.aload_n 0, 1) := by decide +kernel
theorem dX8_arrange_34 : decode cX8_arrange 34 = .ok (.getfield 10, 3) := by decide +kernel
theorem dX8_arrange_37 : decode cX8_arrange 37 = .ok (.aload_n 0, 1) := by decide +kernel
theorem dX8_arrange_38 : decode cX8_arrange 38 = .ok (.getfield 10, 3) := by decide +kernel
theorem dX8_arrange_41 : decode cX8_arrange 41 = .ok (.getfield 97, 3) := by decide +kernel
theorem dX8_arrange_44 : decode cX8_arrange 44 = .ok (.invokevirtual 125, 3) := by decide +kernel
theorem dX8_arrange_47 : decode cX8_arrange 47 = .ok (.invokevirtual 295, 3) := by decide +kernel
theorem dX8_arrange_50 : decode cX8_arrange 50 = .ok (.iconst 0, 1) := by decide +kernel
theorem dX8_arrange_51 : decode cX8_arrange 51 = .ok (.istore_n 1, 1) := by decide +kernel
theorem dX8_arrange_52 : decode cX8_arrange 52 = .ok (.iload_n 1, 1) := by decide +kernel
theorem dX8_arrange_53 : decode cX8_arrange 53 = .ok (.aload_n 0, 1) := by decide +kernel
theorem dX8_arrange_54 : decode cX8_arrange 54 = .ok (.getfield 10, 3) := by decide +kernel
theorem dX8_arrange_57 : decode cX8_arrange 57 = .ok (.getfield 97, 3) := by decide +kernel
theorem dX8_arrange_60 : decode cX8_arrange 60 = .ok (.getfield 101, 3) := by decide +kernel
theorem dX8_arrange_63 : decode cX8_arrange 63 = .ok (.if_icmp .ge 32, 3) := by decide +kernel
theorem dX8_arrange_66 : decode cX8_arrange 66 = .ok (.aload_n 0, 1) := by decide +kernel
theorem dX8_arrange_67 : decode cX8_arrange 67 = .ok (.getfield 33, 3) := by decide +kernel
theorem dX8_arrange_70 : decode cX8_arrange 70 = .ok (.iload_n 1, 1) := by decide +kernel
theorem dX8_arrange_71 : decode cX8_arrange 71 = .ok (.invokevirtual 262, 3) := by decide +kernel
theorem dX8_arrange_74 : decode cX8_arrange 74 = .ok (.istore_n 2, 1) := by decide +kernel
theorem dX8_arrange_75 : decode cX8_arrange 75 = .ok (.iload_n 2, 1) := by decide +kernel
theorem dX8_arrange_76 : decode cX8_arrange 76 = .ok (.iconst (-1), 1) := by decide +kernel
theorem dX8_arrange_77 : decode cX8_arrange 77 = .ok (.if_icmp .eq 12, 3) := by decide +kernel
theorem dX8_arrange_80 : decode cX8_arrange 80 = .ok (.aload_n 0, 1) := by decide +kernel
theorem dX8_arrange_81 : decode cX8_arrange 81 = .ok (.getfield 10, 3) := by decide +kernel
theorem dX8_arrange_84 : decode cX8_arrange 84 = .ok (.iload_n 1, 1) := by decide +kernel
theorem dX8_arrange_85 : decode cX8_arrange 85 = .ok (.iload_n 2, 1) := by decide +kernel
theorem dX8_arrange_86 : decode cX8_arrange 86 = .ok (.invokevirtual 289, 3) := by decide +kernel
theorem dX8_arrange_89 : decode cX8_arrange 89 = .ok (.iinc 1 1, 3) := by decide +kernel
theorem dX8_arrange_92 : decode cX8_arrange 92 = .ok (.goto (-40), 3) := by decide +kernel
theorem dX8_arrange_95 : decode cX8_arrange 95 = .ok (.aload_n 0, 1) := by decide +kernel
theorem dX8_arrange_96 : decode cX8_arrange 96 = .ok (.getfield 33, 3) := by decide +kernel
theorem dX8_arrange_99 : decode cX8_arrange 99 = .ok (.getfield 259, 3) := by decide +kernel
theorem dX8_arrange_102 : decode cX8_arrange 102 = .ok (.ireturn, 1) := by decide +kernel
theorem dX8_setRed_0 : decode cX8_setRed 0 = .ok (.aload_n 0, 1) := by decide +kernel
theorem dX8_setRed_1 : decode cX8_setRed 1 = .ok (.iload_n 1, 1) := by decide +kernel
theorem dX8_setRed_2 : decode cX8_setRed 2 = .ok (.invokevirtual 188, 3) := by decide +kernel
theorem dX8_setRed_5 : decode cX8_setRed 5 = .ok (.aload_n 0, 1) := by decide +kernel
theorem dX8_setRed_6 : decode cX8_setRed 6 = .ok (.getfield 19, 3) := by decide +kernel
theorem dX8_setRed_9 : decode cX8_setRed 9 = .ok (.aload_n 0, 1) := by decide +kernel
theorem dX8_setRed_10 : decode cX8_setRed 10 = .ok (.getfield 10, 3) := by decide +kernel
theorem dX8_setRed_13 : decode cX8_setRed 13 = .ok (.invokevirtual 286, 3) := by decide +kernel
theorem dX8_setRed_16 : decode cX8_setRed 16 = .ok (.aload_n 0, 1) := by decide +kernel
theorem dX8_setRed_17 : decode cX8_setRed 17 = .ok (.getfield 10, 3) := by decide +kernel
theorem dX8_setRed_20 : decode cX8_setRed 20 = .ok (.getfield 97, 3) := by decide +kernel
theorem dX8_setRed_23 : decode cX8_setRed 23 = .ok (.iload_n 1, 1) := by decide +kernel
theorem dX8_setRed_24 : decode cX8_setRed 24 = .ok (.invokevirtual 194, 3) := by decide +kernel
theorem dX8_setRed_27 : decode cX8_setRed 27 = .ok (.istore_n 3, 1) := by decide +kernel
theorem dX8_setRed_28 : decode cX8_setRed 28 = .ok (.iload_n 2, 1) := by decide +kernel
theorem dX8_setRed_29 : decode cX8_setRed 29 = .ok (.ifCond .eq 18, 3) := by decide +kernel
theorem dX8_setRed_32 : decode cX8_setRed 32 = .ok (.aload_n 0, 1) := by decide +kernel
theorem dX8_setRed_33 : decode cX8_setRed 33 = .ok (.getfield 10, 3) := by decide +kernel
theorem dX8_setRed_36 : decode cX8_setRed 36 = .ok (.aload_n 0, 1) := by decide +kernel
theorem dX8_setRed_37 : decode cX8_setRed 37 = .ok (.getfield 10, 3) := by decide +kernel
theorem dX8_setRed_40 : decode cX8_setRed 40 = .ok (.iload_n 1, 1) := by decide +kernel
theorem dX8_setRed_41 : decode cX8_setRed 41 = .ok (.invokevirtual 234, 3) := by decide +kernel
theorem dX8_setRed_44 : decode cX8_setRed 44 = .ok (.invokevirtual 295, 3) := by decide +kernel
theorem dX8_setRed_47 : decode cX8_setRed 47 = .ok (.aload_n 0, 1) := by decide +kernel
theorem dX8_setRed_48 : decode cX8_setRed 48 = .ok (.getfield 10, 3) := by decide +kernel
theorem dX8_setRed_51 : decode cX8_setRed 51 = .ok (.getfield 97, 3) := by decide +kernel
theorem dX8_setRed_54 : decode cX8_setRed 54 = .ok (.aload_n 0, 1) := by decide +kernel
theorem dX8_setRed_55 : decode cX8_setRed 55 = .ok (.getfield 10, 3) := by decide +kernel
theorem dX8_setRed_58 : decode cX8_setRed 58 = .ok (.getfield 97, 3) := by decide +kernel
theorem dX8_setRed_61 : decode cX8_setRed 61 = .ok (.iload_n 1, 1) := by decide +kernel
theorem dX8_setRed_62 : decode cX8_setRed 62 = .ok (.iload_n 2, 1) := by decide +kernel
theorem dX8_setRed_63 : decode cX8_setRed 63 = .ok (.invokevirtual 265, 3) := by decide +kernel
theorem dX8_setRed_66 : decode cX8_setRed 66 = .ok (.putfield 134, 3) := by decide +kernel
theorem dX8_setRed_69 : decode cX8_setRed 69 = .ok (.iload_n 3, 1) := by decide +kernel
theorem dX8_setRed_70 : decode cX8_setRed 70 = .ok (.ireturn, 1) := by decide +kernel
theorem dX8_addRiver_0 : decode cX8_addRiver 0 = .ok (.aload_n 0, 1) := by decide +kernel
theorem dX8_addRiver_1 : decode cX8_addRiver 1 = .ok (.iload_n 1, 1) := by decide +kernel
theorem dX8_addRiver_2 : decode cX8_addRiver 2 = .ok (.invokevirtual 161, 3) := by decide +kernel
theorem dX8_addRiver_5 : decode cX8_addRiver 5 = .ok (.aload_n 0, 1) := by decide +kernel
theorem dX8_addRiver_6 : decode cX8_addRiver 6 = .ok (.getfield 10, 3) := by decide +kernel
theorem dX8_addRiver_9 : decode cX8_addRiver 9 = .ok (.getfield 106, 3) := by decide +kernel
theorem dX8_addRiver_12 : decode cX8_addRiver 12 = .ok (.getfield 122, 3) := by decide +kernel
theorem dX8_addRiver_15 : decode cX8_addRiver 15 = .ok (.bipush 8, 2) := by decide +kernel
theorem dX8_addRiver_17 : decode cX8_addRiver 17 = .ok (.if_icmp .lt 6, 3) := by decide +kernel
theorem dX8_addRiver_20 : decode cX8_addRiver 20 = .ok (.bipush (-2), 2) := by decide +kernel
theorem dX8_addRiver_22 : decode cX8_addRiver 22 = .ok (.ireturn, 1) := by decide +kernel
theorem dX8_addRiver_23 : decode cX8_addRiver 23 = .ok (.aload_n 0, 1) := by decide +kernel
theorem dX8_addRiver_24 : decode cX8_addRiver 24 = .ok (.iload_n 1, 1) := by decide +kernel
theorem dX8_addRiver_25 : decode cX8_addRiver 25 = .ok (.invokevirtual 269, 3) := by decide +kernel
theorem dX8_addRiver_28 : decode cX8_addRiver 28 = .ok (.ifCond .ne 6, 3) := by decide +kernel
theorem dX8_addRiver_31 : decode cX8_addRiver 31 = .ok (.bipush (-3), 2) := by decide +kernel
theorem dX8_addRiver_33 : decode cX8_addRiver 33 = .ok (.ireturn, 1) := by decide +kernel
theorem dX8_addRiver_34 : decode cX8_addRiver 34 = .ok (.aload_n 0, 1) := by decide +kernel
theorem dX8_addRiver_35 : decode cX8_addRiver 35 = .ok (.getfield 19, 3) := by decide +kernel
theorem dX8_addRiver_38 : decode cX8_addRiver 38 = .ok (.aload_n 0, 1) := by decide +kernel
theorem dX8_addRiver_39 : decode cX8_addRiver 39 = .ok (.getfield 10, 3) := by decide +kernel
theorem dX8_addRiver_42 : decode cX8_addRiver 42 = .ok (.invokevirtual 286, 3) := by decide +kernel
theorem dX8_addRiver_45 : decode cX8_addRiver 45 = .ok (.aload_n 0, 1) := by decide +kernel
theorem dX8_addRiver_46 : decode cX8_addRiver 46 = .ok (.getfield 10, 3) := by decide +kernel
theorem dX8_addRiver_49 : decode cX8_addRiver 49 = .ok (.aload_n 0, 1) := by decide +kernel
theorem dX8_addRiver_50 : decode cX8_addRiver 50 = .ok (.getfield 26, 3) := by decide +kernel
theorem dX8_addRiver_53 : decode cX8_addRiver 53 = .ok (.aload_n 0, 1) := by decide +kernel
theorem dX8_addRiver_54 : decode cX8_addRiver 54 = .ok (.getfield 10, 3) := by decide +kernel
theorem dX8_addRiver_57 : decode cX8_addRiver 57 = .ok (.invokevirtual 275, 3) := by decide +kernel
theorem dX8_addRiver_60 : decode cX8_addRiver 60 = .ok (.invokevirtual 295, 3) := by decide +kernel
theorem dX8_addRiver_63 : decode cX8_addRiver 63 = .ok (.aload_n 0, 1) := by decide +kernel
theorem dX8_addRiver_64 : decode cX8_addRiver 64 = .ok (.getfield 10, 3) := by decide +kernel
theorem dX8_addRiver_67 : decode cX8_addRiver 67 = .ok (.getfield 106, 3) := by decide +kernel
theorem dX8_addRiver_70 : decode cX8_addRiver 70 = .ok (.aload_n 0, 1) := by decide +kernel
theorem dX8_addRiver_71 : decode cX8_addRiver 71 = .ok (.getfield 26, 3) := by decide +kernel
theorem dX8_addRiver_74 : decode cX8_addRiver 74 = .ok (.getfield 298, 3) := by decide +kernel
theorem dX8_addRiver_77 : decode cX8_addRiver 77 = .ok (.aload_n 0, 1) := by decide +kernel
theorem dX8_addRiver_78 : decode cX8_addRiver 78 = .ok (.getfield 26, 3) := by decide +kernel
theorem dX8_addRiver_81 : decode cX8_addRiver 81 = .ok (.getfield 301, 3) := by decide +kernel
theorem dX8_addRiver_84 : decode cX8_addRiver 84 = .ok (.invokevirtual 302, 3) := by decide +kernel
theorem dX8_addRiver_87 : decode cX8_addRiver 87 = .ok (.aload_n 0, 1) := by decide +kernel
theorem dX8_addRiver_88 : decode cX8_addRiver 88 = .ok (.getfield 10, 3) := by decide +kernel
theorem dX8_addRiver_91 : decode cX8_addRiver 91 = .ok (.getfield 106, 3) := by decide +kernel
theorem dX8_addRiver_94 : decode cX8_addRiver 94 = .ok (.getfield 122, 3) := by decide +kernel
theorem dX8_addRiver_97 : decode cX8_addRiver 97 = .ok (.iconst 1, 1) := by decide +kernel
theorem dX8_addRiver_98 : decode cX8_addRiver 98 = .ok (.isub, 1) := by decide +kernel
theorem dX8_addRiver_99 : decode cX8_addRiver 99 = .ok (.ireturn, 1) := by decide +kernel
theorem dX8_dropRiver_0 : decode cX8_dropRiver 0 = .ok (.aload_n 0, 1) := by decide +kernel
theorem dX8_dropRiver_1 : decode cX8_dropRiver 1 = .ok (.iload_n 1, 1) := by decide +kernel
theorem dX8_dropRiver_2 : decode cX8_dropRiver 2 = .ok (.invokevirtual 212, 3) := by decide +kernel
theorem dX8_dropRiver_5 : decode cX8_dropRiver 5 = .ok (.aload_n 0, 1) := by decide +kernel
theorem dX8_dropRiver_6 : decode cX8_dropRiver 6 = .ok (.getfield 19, 3) := by decide +kernel
theorem dX8_dropRiver_9 : decode cX8_dropRiver 9 = .ok (.aload_n 0, 1) := by decide +kernel
theorem dX8_dropRiver_10 : decode cX8_dropRiver 10 = .ok (.getfield 10, 3) := by decide +kernel
theorem dX8_dropRiver_13 : decode cX8_dropRiver 13 = .ok (.invokevirtual 286, 3) := by decide +kernel
theorem dX8_dropRiver_16 : decode cX8_dropRiver 16 = .ok (.aload_n 0, 1) := by decide +kernel
theorem dX8_dropRiver_17 : decode cX8_dropRiver 17 = .ok (.getfield 10, 3) := by decide +kernel
theorem dX8_dropRiver_20 : decode cX8_dropRiver 20 = .ok (.getfield 106, 3) := by decide +kernel
theorem dX8_dropRiver_23 : decode cX8_dropRiver 23 = .ok (.iload_n 1, 1) := by decide +kernel
theorem dX8_dropRiver_24 : decode cX8_dropRiver 24 = .ok (.invokevirtual 306, 3) := by decide +kernel
theorem dX8_dropRiver_27 : decode cX8_dropRiver 27 = .ok (.ireturn, 1) := by decide +kernel
theorem dX8_erode_0 : decode cX8_erode 0 = .ok (.aload_n 0, 1) := by decide +kernel
theorem dX8_erode_1 : decode cX8_erode 1 = .ok (.iload_n 1, 1) := by decide +kernel
theorem dX8_erode_2 : decode cX8_erode 2 = .ok (.invokevirtual 161, 3) := by decide +kernel
theorem dX8_erode_5 : decode cX8_erode 5 = .ok (.aload_n 0, 1) := by decide +kernel
theorem dX8_erode_6 : decode cX8_erode 6 = .ok (.getfield 10, 3) := by decide +kernel
theorem dX8_erode_9 : decode cX8_erode 9 = .ok (.iload_n 1, 1) := by decide +kernel
theorem dX8_erode_10 : decode cX8_erode 10 = .ok (.invokevirtual 231, 3) := by decide +kernel
theorem dX8_erode_13 : decode cX8_erode 13 = .ok (.ifCond .ne 6, 3) := by decide +kernel
theorem dX8_erode_16 : decode cX8_erode 16 = .ok (.bipush (-3), 2) := by decide +kernel
theorem dX8_erode_18 : decode cX8_erode 18 = .ok (.ireturn, 1) := by decide +kernel
theorem dX8_erode_19 : decode cX8_erode 19 = .ok (.aload_n 0, 1) := by decide +kernel
theorem dX8_erode_20 : decode cX8_erode 20 = .ok (.getfield 19, 3) := by decide +kernel
theorem dX8_erode_23 : decode cX8_erode 23 = .ok (.aload_n 0, 1) := by decide +kernel
theorem dX8_erode_24 : decode cX8_erode 24 = .ok (.getfield 10, 3) := by decide +kernel
theorem dX8_erode_27 : decode cX8_erode 27 = .ok (.invokevirtual 286, 3) := by decide +kernel
theorem dX8_erode_30 : decode cX8_erode 30 = .ok (.aload_n 0, 1) := by decide +kernel
theorem dX8_erode_31 : decode cX8_erode 31 = .ok (.getfield 10, 3) := by decide +kernel
theorem dX8_erode_34 : decode cX8_erode 34 = .ok (.iload_n 1, 1) := by decide +kernel
theorem dX8_erode_35 : decode cX8_erode 35 = .ok (.invokevirtual 180, 3) := by decide +kernel
theorem dX8_erode_38 : decode cX8_erode 38 = .ok (.istore_n 2, 1) := by decide +kernel
theorem dX8_erode_39 : decode cX8_erode 39 = .ok (.aload_n 0, 1) := by decide +kernel
theorem dX8_erode_40 : decode cX8_erode 40 = .ok (.getfield 10, 3) := by decide +kernel
theorem dX8_erode_43 : decode cX8_erode 43 = .ok (.iload_n 2, 1) := by decide +kernel
theorem dX8_erode_44 : decode cX8_erode 44 = .ok (.invokevirtual 295, 3) := by decide +kernel
theorem dX8_erode_47 : decode cX8_erode 47 = .ok (.aload_n 0, 1) := by decide +kernel
theorem dX8_erode_48 : decode cX8_erode 48 = .ok (.getfield 10, 3) := by decide +kernel
theorem dX8_erode_51 : decode cX8_erode 51 = .ok (.getfield 106, 3) := by decide +kernel
theorem dX8_erode_54 : decode cX8_erode 54 = .ok (.iload_n 1, 1) := by decide +kernel
theorem dX8_erode_55 : decode cX8_erode 55 = .ok (.iconst 0, 1) := by decide +kernel
theorem dX8_erode_56 : decode cX8_erode 56 = .ok (.invokevirtual 309, 3) := by decide +kernel
theorem dX8_erode_59 : decode cX8_erode 59 = .ok (.iload_n 2, 1) := by decide +kernel
theorem dX8_erode_60 : decode cX8_erode 60 = .ok (.invokestatic 128, 3) := by decide +kernel
theorem dX8_erode_63 : decode cX8_erode 63 = .ok (.ireturn, 1) := by decide +kernel
theorem dX8_raise_0 : decode cX8_raise 0 = .ok (.aload_n 0, 1) := by decide +kernel
theorem dX8_raise_1 : decode cX8_raise 1 = .ok (.iload_n 1, 1) := by decide +kernel
theorem dX8_raise_2 : decode cX8_raise 2 = .ok (.invokevirtual 161, 3) := by decide +kernel
theorem dX8_raise_5 : decode cX8_raise 5 = .ok (.aload_n 0, 1) := by decide +kernel
theorem dX8_raise_6 : decode cX8_raise 6 = .ok (.getfield 10, 3) := by decide +kernel
theorem dX8_raise_9 : decode cX8_raise 9 = .ok (.getfield 106, 3) := by decide +kernel
theorem dX8_raise_12 : decode cX8_raise 12 = .ok (.iload_n 1, 1) := by decide +kernel
theorem dX8_raise_13 : decode cX8_raise 13 = .ok (.invokevirtual 168, 3) := by decide +kernel
theorem dX8_raise_16 : decode cX8_raise 16 = .ok (.ifCond .ne 14, 3) := by decide +kernel
theorem dX8_raise_19 : decode cX8_raise 19 = .ok (.aload_n 0, 1) := by decide +kernel
theorem dX8_raise_20 : decode cX8_raise 20 = .ok (.getfield 10, 3) := by decide +kernel
theorem dX8_raise_23 : decode cX8_raise 23 = .ok (.iload_n 1, 1) := by decide +kernel
theorem dX8_raise_24 : decode cX8_raise 24 = .ok (.invokevirtual 313, 3) := by decide +kernel
theorem dX8_raise_27 : decode cX8_raise 27 = .ok (.ifCond .eq 6, 3) := by decide +kernel
theorem dX8_raise_30 : decode cX8_raise 30 = .ok (.bipush (-3), 2) := by decide +kernel
theorem dX8_raise_32 : decode cX8_raise 32 = .ok (.ireturn, 1) := by decide +kernel
theorem dX8_raise_33 : decode cX8_raise 33 = .ok (.aload_n 0, 1) := by decide +kernel
theorem dX8_raise_34 : decode cX8_raise 34 = .ok (.getfield 19, 3) := by decide +kernel
theorem dX8_raise_37 : decode cX8_raise 37 = .ok (.aload_n 0, 1) := by decide +kernel
theorem dX8_raise_38 : decode cX8_raise 38 = .ok (.getfield 10, 3) := by decide +kernel
theorem dX8_raise_41 : decode cX8_raise 41 = .ok (.invokevirtual 286, 3) := by decide +kernel
theorem dX8_raise_44 : decode cX8_raise 44 = .ok (.aload_n 0, 1) := by decide +kernel
theorem dX8_raise_45 : decode cX8_raise 45 = .ok (.getfield 10, 3) := by decide +kernel
theorem dX8_raise_48 : decode cX8_raise 48 = .ok (.iload_n 1, 1) := by decide +kernel
theorem dX8_raise_49 : decode cX8_raise 49 = .ok (.invokevirtual 316, 3) := by decide +kernel
theorem dX8_raise_52 : decode cX8_raise 52 = .ok (.istore_n 2, 1) := by decide +kernel
theorem dX8_raise_53 : decode cX8_raise 53 = .ok (.aload_n 0, 1) := by decide +kernel
theorem dX8_raise_54 : decode cX8_raise 54 = .ok (.getfield 10, 3) := by decide +kernel
theorem dX8_raise_57 : decode cX8_raise 57 = .ok (.iload_n 2, 1) := by decide +kernel
theorem dX8_raise_58 : decode cX8_raise 58 = .ok (.invokevirtual 295, 3) := by decide +kernel
theorem dX8_raise_61 : decode cX8_raise 61 = .ok (.aload_n 0, 1) := by decide +kernel
theorem dX8_raise_62 : decode cX8_raise 62 = .ok (.getfield 10, 3) := by decide +kernel
theorem dX8_raise_65 : decode cX8_raise 65 = .ok (.getfield 106, 3) := by decide +kernel
theorem dX8_raise_68 : decode cX8_raise 68 = .ok (.iload_n 1, 1) := by decide +kernel
theorem dX8_raise_69 : decode cX8_raise 69 = .ok (.iconst 1, 1) := by decide +kernel
theorem dX8_raise_70 : decode cX8_raise 70 = .ok (.invokevirtual 309, 3) := by decide +kernel
theorem dX8_raise_73 : decode cX8_raise 73 = .ok (.iload_n 2, 1) := by decide +kernel
theorem dX8_raise_74 : decode cX8_raise 74 = .ok (.invokestatic 128, 3) := by decide +kernel
theorem dX8_raise_77 : decode cX8_raise 77 = .ok (.ireturn, 1) := by decide +kernel
theorem dX8_sail_0 : decode cX8_sail 0 = .ok (.aload_n 0, 1) := by decide +kernel
theorem dX8_sail_1 : decode cX8_sail 1 = .ok (.iload_n 1, 1) := by decide +kernel
theorem dX8_sail_2 : decode cX8_sail 2 = .ok (.invokevirtual 188, 3) := by decide +kernel
theorem dX8_sail_5 : decode cX8_sail 5 = .ok (.aload_n 0, 1) := by decide +kernel
theorem dX8_sail_6 : decode cX8_sail 6 = .ok (.getfield 10, 3) := by decide +kernel
theorem dX8_sail_9 : decode cX8_sail 9 = .ok (.getfield 137, 3) := by decide +kernel
theorem dX8_sail_12 : decode cX8_sail 12 = .ok (.getfield 141, 3) := by decide +kernel
theorem dX8_sail_15 : decode cX8_sail 15 = .ok (.bipush 16, 2) := by decide +kernel
theorem dX8_sail_17 : decode cX8_sail 17 = .ok (.if_icmp .lt 6, 3) := by decide +kernel
theorem dX8_sail_20 : decode cX8_sail 20 = .ok (.bipush (-2), 2) := by decide +kernel
theorem dX8_sail_22 : decode cX8_sail 22 = .ok (.ireturn, 1) := by decide +kernel
theorem dX8_sail_23 : decode cX8_sail 23 = .ok (.aload_n 0, 1) := by decide +kernel
theorem dX8_sail_24 : decode cX8_sail 24 = .ok (.getfield 19, 3) := by decide +kernel
theorem dX8_sail_27 : decode cX8_sail 27 = .ok (.aload_n 0, 1) := by decide +kernel
theorem dX8_sail_28 : decode cX8_sail 28 = .ok (.getfield 10, 3) := by decide +kernel
theorem dX8_sail_31 : decode cX8_sail 31 = .ok (.invokevirtual 286, 3) := by decide +kernel
theorem dX8_sail_34 : decode cX8_sail 34 = .ok (.aload_n 0, 1) := by decide +kernel
theorem dX8_sail_35 : decode cX8_sail 35 = .ok (.getfield 10, 3) := by decide +kernel
theorem dX8_sail_38 : decode cX8_sail 38 = .ok (.getfield 137, 3) := by decide +kernel
theorem dX8_sail_41 : decode cX8_sail 41 = .ok (.iload_n 1, 1) := by decide +kernel
theorem dX8_sail_42 : decode cX8_sail 42 = .ok (.invokevirtual 319, 3) := by decide +kernel
theorem dX8_sail_45 : decode cX8_sail 45 = .ok (.aload_n 0, 1) := by decide +kernel
theorem dX8_sail_46 : decode cX8_sail 46 = .ok (.getfield 10, 3) := by decide +kernel
theorem dX8_sail_49 : decode cX8_sail 49 = .ok (.getfield 137, 3) := by decide +kernel
theorem dX8_sail_52 : decode cX8_sail 52 = .ok (.getfield 141, 3) := by decide +kernel
theorem dX8_sail_55 : decode cX8_sail 55 = .ok (.ireturn, 1) := by decide +kernel
theorem dX8_cut_0 : decode cX8_cut 0 = .ok (.iload_n 1, 1) := by decide +kernel
theorem dX8_cut_1 : decode cX8_cut 1 = .ok (.ifCond .lt 17, 3) := by decide +kernel
theorem dX8_cut_4 : decode cX8_cut 4 = .ok (.iload_n 1, 1) := by decide +kernel
theorem dX8_cut_5 : decode cX8_cut 5 = .ok (.aload_n 0, 1) := by decide +kernel
theorem dX8_cut_6 : decode cX8_cut 6 = .ok (.getfield 10, 3) := by decide +kernel
theorem dX8_cut_9 : decode cX8_cut 9 = .ok (.getfield 137, 3) := by decide +kernel
theorem dX8_cut_12 : decode cX8_cut 12 = .ok (.getfield 141, 3) := by decide +kernel
theorem dX8_cut_15 : decode cX8_cut 15 = .ok (.if_icmp .lt 14, 3) := by decide +kernel
theorem dX8_cut_18 : decode cX8_cut 18 = .ok (.new 322, 3) := by decide +kernel
theorem dX8_cut_21 : decode cX8_cut 21 = .ok (.dup, 1) := by decide +kernel
theorem dX8_cut_22 : decode cX8_cut 22 = .ok (.ldc_w 324, 3) := by decide +kernel
theorem dX8_cut_25 : decode cX8_cut 25 = .ok (.invokespecial 326, 3) := by decide +kernel
theorem dX8_cut_28 : decode cX8_cut 28 = .ok (.athrow, 1) := by decide +kernel
theorem dX8_cut_29 : decode cX8_cut 29 = .ok (.aload_n 0, 1) := by decide +kernel
theorem dX8_cut_30 : decode cX8_cut 30 = .ok (.getfield 19, 3) := by decide +kernel
theorem dX8_cut_33 : decode cX8_cut 33 = .ok (.aload_n 0, 1) := by decide +kernel
theorem dX8_cut_34 : decode cX8_cut 34 = .ok (.getfield 10, 3) := by decide +kernel
theorem dX8_cut_37 : decode cX8_cut 37 = .ok (.invokevirtual 286, 3) := by decide +kernel
theorem dX8_cut_40 : decode cX8_cut 40 = .ok (.aload_n 0, 1) := by decide +kernel
theorem dX8_cut_41 : decode cX8_cut 41 = .ok (.getfield 10, 3) := by decide +kernel
theorem dX8_cut_44 : decode cX8_cut 44 = .ok (.getfield 137, 3) := by decide +kernel
theorem dX8_cut_47 : decode cX8_cut 47 = .ok (.iload_n 1, 1) := by decide +kernel
theorem dX8_cut_48 : decode cX8_cut 48 = .ok (.invokevirtual 218, 3) := by decide +kernel
theorem dX8_cut_51 : decode cX8_cut 51 = .ok (.istore_n 2, 1) := by decide +kernel
theorem dX8_cut_52 : decode cX8_cut 52 = .ok (.aload_n 0, 1) := by decide +kernel
theorem dX8_cut_53 : decode cX8_cut 53 = .ok (.getfield 10, 3) := by decide +kernel
theorem dX8_cut_56 : decode cX8_cut 56 = .ok (.getfield 137, 3) := by decide +kernel
theorem dX8_cut_59 : decode cX8_cut 59 = .ok (.iload_n 1, 1) := by decide +kernel
theorem dX8_cut_60 : decode cX8_cut 60 = .ok (.invokevirtual 327, 3) := by decide +kernel
theorem dX8_cut_63 : decode cX8_cut 63 = .ok (.iload_n 2, 1) := by decide +kernel
theorem dX8_cut_64 : decode cX8_cut 64 = .ok (.ireturn, 1) := by decide +kernel
theorem dX8_turnPage_0 : decode cX8_turnPage 0 = .ok (.iload_n 1, 1) := by decide +kernel
theorem dX8_turnPage_1 : decode cX8_turnPage 1 = .ok (.invokestatic 240, 3) := by decide +kernel
theorem dX8_turnPage_4 : decode cX8_turnPage 4 = .ok (.aload_n 0, 1) := by decide +kernel
theorem dX8_turnPage_5 : decode cX8_turnPage 5 = .ok (.getfield 19, 3) := by decide +kernel
theorem dX8_turnPage_8 : decode cX8_turnPage 8 = .ok (.aload_n 0, 1) := by decide +kernel
theorem dX8_turnPage_9 : decode cX8_turnPage 9 = .ok (.getfield 10, 3) := by decide +kernel
theorem dX8_turnPage_12 : decode cX8_turnPage 12 = .ok (.invokevirtual 286, 3) := by decide +kernel
theorem dX8_turnPage_15 : decode cX8_turnPage 15 = .ok (.aload_n 0, 1) := by decide +kernel
theorem dX8_turnPage_16 : decode cX8_turnPage 16 = .ok (.getfield 10, 3) := by decide +kernel
theorem dX8_turnPage_19 : decode cX8_turnPage 19 = .ok (.getfield 137, 3) := by decide +kernel
theorem dX8_turnPage_22 : decode cX8_turnPage 22 = .ok (.iload_n 1, 1) := by decide +kernel
theorem dX8_turnPage_23 : decode cX8_turnPage 23 = .ok (.invokevirtual 330, 3) := by decide +kernel
theorem dX8_turnPage_26 : decode cX8_turnPage 26 = .ok (.ireturn, 1) := by decide +kernel
theorem dX8_read_0 : decode cX8_read 0 = .ok (.aload_n 0, 1) := by decide +kernel
theorem dX8_read_1 : decode cX8_read 1 = .ok (.getfield 10, 3) := by decide +kernel
theorem dX8_read_4 : decode cX8_read 4 = .ok (.getfield 137, 3) := by decide +kernel
theorem dX8_read_7 : decode cX8_read 7 = .ok (.getfield 141, 3) := by decide +kernel
theorem dX8_read_10 : decode cX8_read 10 = .ok (.ifCond .ne 6, 3) := by decide +kernel
theorem dX8_read_13 : decode cX8_read 13 = .ok (.bipush (-3), 2) := by decide +kernel
theorem dX8_read_15 : decode cX8_read 15 = .ok (.ireturn, 1) := by decide +kernel
theorem dX8_read_16 : decode cX8_read 16 = .ok (.aload_n 0, 1) := by decide +kernel
theorem dX8_read_17 : decode cX8_read 17 = .ok (.getfield 19, 3) := by decide +kernel
theorem dX8_read_20 : decode cX8_read 20 = .ok (.aload_n 0, 1) := by decide +kernel
theorem dX8_read_21 : decode cX8_read 21 = .ok (.getfield 10, 3) := by decide +kernel
theorem dX8_read_24 : decode cX8_read 24 = .ok (.invokevirtual 286, 3) := by decide +kernel
theorem dX8_read_27 : decode cX8_read 27 = .ok (.aload_n 0, 1) := by decide +kernel
theorem dX8_read_28 : decode cX8_read 28 = .ok (.getfield 10, 3) := by decide +kernel
theorem dX8_read_31 : decode cX8_read 31 = .ok (.getfield 137, 3) := by decide +kernel
theorem dX8_read_34 : decode cX8_read 34 = .ok (.aload_n 0, 1) := by decide +kernel
theorem dX8_read_35 : decode cX8_read 35 = .ok (.getfield 10, 3) := by decide +kernel
theorem dX8_read_38 : decode cX8_read 38 = .ok (.getfield 137, 3) := by decide +kernel
theorem dX8_read_41 : decode cX8_read 41 = .ok (.getfield 147, 3) := by decide +kernel
theorem dX8_read_44 : decode cX8_read 44 = .ok (.invokevirtual 218, 3) := by decide +kernel
theorem dX8_read_47 : decode cX8_read 47 = .ok (.istore_n 1, 1) := by decide +kernel
theorem dX8_read_48 : decode cX8_read 48 = .ok (.aload_n 0, 1) := by decide +kernel
theorem dX8_read_49 : decode cX8_read 49 = .ok (.getfield 10, 3) := by decide +kernel
theorem dX8_read_52 : decode cX8_read 52 = .ok (.getfield 97, 3) := by decide +kernel
theorem dX8_read_55 : decode cX8_read 55 = .ok (.iload_n 1, 1) := by decide +kernel
theorem dX8_read_56 : decode cX8_read 56 = .ok (.invokevirtual 197, 3) := by decide +kernel
theorem dX8_read_59 : decode cX8_read 59 = .ok (.istore_n 2, 1) := by decide +kernel
theorem dX8_read_60 : decode cX8_read 60 = .ok (.iload_n 2, 1) := by decide +kernel
theorem dX8_read_61 : decode cX8_read 61 = .ok (.iconst (-1), 1) := by decide +kernel
theorem dX8_read_62 : decode cX8_read 62 = .ok (.if_icmp .eq 18, 3) := by decide +kernel
theorem dX8_read_65 : decode cX8_read 65 = .ok (.aload_n 0, 1) := by decide +kernel
theorem dX8_read_66 : decode cX8_read 66 = .ok (.getfield 10, 3) := by decide +kernel
theorem dX8_read_69 : decode cX8_read 69 = .ok (.getfield 137, 3) := by decide +kernel
theorem dX8_read_72 : decode cX8_read 72 = .ok (.iload_n 2, 1) := by decide +kernel
theorem dX8_read_73 : decode cX8_read 73 = .ok (.invokestatic 243, 3) := by decide +kernel
theorem dX8_read_76 : decode cX8_read 76 = .ok (.invokevirtual 330, 3) := by decide +kernel
theorem dX8_read_79 : decode cX8_read 79 = .ok (.pop, 1) := by decide +kernel
theorem dX8_read_80 : decode cX8_read 80 = .ok (.aload_n 0, 1) := by decide +kernel
theorem dX8_read_81 : decode cX8_read 81 = .ok (.getfield 10, 3) := by decide +kernel
theorem dX8_read_84 : decode cX8_read 84 = .ok (.getfield 137, 3) := by decide +kernel
theorem dX8_read_87 : decode cX8_read 87 = .ok (.invokevirtual 333, 3) := by decide +kernel
theorem dX8_read_90 : decode cX8_read 90 = .ok (.iload_n 1, 1) := by decide +kernel
theorem dX8_read_91 : decode cX8_read 91 = .ok (.ireturn, 1) := by decide +kernel
theorem dX8_meanTurn_0 : decode cX8_meanTurn 0 = .ok (.iconst 0, 1) := by decide +kernel
theorem dX8_meanTurn_1 : decode cX8_meanTurn 1 = .ok (.istore_n 1, 1) := by decide +kernel
theorem dX8_meanTurn_2 : decode cX8_meanTurn 2 = .ok (.iconst 0, 1) := by decide +kernel
theorem dX8_meanTurn_3 : decode cX8_meanTurn 3 = .ok (.istore_n 2, 1) := by decide +kernel
theorem dX8_meanTurn_4 : decode cX8_meanTurn 4 = .ok (.iload_n 2, 1) := by decide +kernel
theorem dX8_meanTurn_5 : decode cX8_meanTurn 5 = .ok (.aload_n 0, 1) := by decide +kernel
theorem dX8_meanTurn_6 : decode cX8_meanTurn 6 = .ok (.getfield 10, 3) := by decide +kernel
theorem dX8_meanTurn_9 : decode cX8_meanTurn 9 = .ok (.getfield 137, 3) := by decide +kernel
theorem dX8_meanTurn_12 : decode cX8_meanTurn 12 = .ok (.getfield 141, 3) := by decide +kernel
theorem dX8_meanTurn_15 : decode cX8_meanTurn 15 = .ok (.if_icmp .ge 37, 3) := by decide +kernel
theorem dX8_meanTurn_18 : decode cX8_meanTurn 18 = .ok (.aload_n 0, 1) := by decide +kernel
theorem dX8_meanTurn_19 : decode cX8_meanTurn 19 = .ok (.getfield 10, 3) := by decide +kernel
theorem dX8_meanTurn_22 : decode cX8_meanTurn 22 = .ok (.getfield 97, 3) := by decide +kernel
theorem dX8_meanTurn_25 : decode cX8_meanTurn 25 = .ok (.aload_n 0, 1) := by decide +kernel
theorem dX8_meanTurn_26 : decode cX8_meanTurn 26 = .ok (.getfield 10, 3) := by decide +kernel
theorem dX8_meanTurn_29 : decode cX8_meanTurn 29 = .ok (.getfield 137, 3) := by decide +kernel
theorem dX8_meanTurn_32 : decode cX8_meanTurn 32 = .ok (.iload_n 2, 1) := by decide +kernel
theorem dX8_meanTurn_33 : decode cX8_meanTurn 33 = .ok (.invokevirtual 218, 3) := by decide +kernel
theorem dX8_meanTurn_36 : decode cX8_meanTurn 36 = .ok (.invokevirtual 197, 3) := by decide +kernel
theorem dX8_meanTurn_39 : decode cX8_meanTurn 39 = .ok (.iconst (-1), 1) := by decide +kernel
theorem dX8_meanTurn_40 : decode cX8_meanTurn 40 = .ok (.if_icmp .eq 6, 3) := by decide +kernel
theorem dX8_meanTurn_43 : decode cX8_meanTurn 43 = .ok (.iinc 1 1, 3) := by decide +kernel
theorem dX8_meanTurn_46 : decode cX8_meanTurn 46 = .ok (.iinc 2 1, 3) := by decide +kernel
theorem dX8_meanTurn_49 : decode cX8_meanTurn 49 = .ok (.goto (-45), 3) := by decide +kernel
theorem dX8_meanTurn_52 : decode cX8_meanTurn 52 = .ok (.iload_n 1, 1) := by decide +kernel
theorem dX8_meanTurn_53 : decode cX8_meanTurn 53 = .ok (.ifCond .ne 7, 3) := by decide +kernel
theorem dX8_meanTurn_56 : decode cX8_meanTurn 56 = .ok (.dconst 0, 1) := by decide +kernel
theorem dX8_meanTurn_57 : decode cX8_meanTurn 57 = .ok (.goto 11, 3) := by decide +kernel
theorem dX8_meanTurn_60 : decode cX8_meanTurn 60 = .ok (.aload_n 0, 1) := by decide +kernel
theorem dX8_meanTurn_61 : decode cX8_meanTurn 61 = .ok (.invokevirtual 336, 3) := by decide +kernel
theorem dX8_meanTurn_64 : decode cX8_meanTurn 64 = .ok (.i2d, 1) := by decide +kernel
theorem dX8_meanTurn_65 : decode cX8_meanTurn 65 = .ok (.iload_n 1, 1) := by decide +kernel
theorem dX8_meanTurn_66 : decode cX8_meanTurn 66 = .ok (.i2d, 1) := by decide +kernel
theorem dX8_meanTurn_67 : decode cX8_meanTurn 67 = .ok (.ddiv, 1) := by decide +kernel
theorem dX8_meanTurn_68 : decode cX8_meanTurn 68 = .ok (.dreturn, 1) := by decide +kernel
theorem dX8_cover_0 : decode cX8_cover 0 = .ok (.aload_n 0, 1) := by decide +kernel
theorem dX8_cover_1 : decode cX8_cover 1 = .ok (.getfield 10, 3) := by decide +kernel
theorem dX8_cover_4 : decode cX8_cover 4 = .ok (.getfield 106, 3) := by decide +kernel
theorem dX8_cover_7 : decode cX8_cover 7 = .ok (.invokevirtual 118, 3) := by decide +kernel
theorem dX8_cover_10 : decode cX8_cover 10 = .ok (.istore_n 1, 1) := by decide +kernel
theorem dX8_cover_11 : decode cX8_cover 11 = .ok (.iconst 0, 1) := by decide +kernel
theorem dX8_cover_12 : decode cX8_cover 12 = .ok (.istore_n 2, 1) := by decide +kernel
theorem dX8_cover_13 : decode cX8_cover 13 = .ok (.iconst 0, 1) := by decide +kernel
theorem dX8_cover_14 : decode cX8_cover 14 = .ok (.istore_n 3, 1) := by decide +kernel
theorem dX8_cover_15 : decode cX8_cover 15 = .ok (.iload_n 3, 1) := by decide +kernel
theorem dX8_cover_16 : decode cX8_cover 16 = .ok (.aload_n 0, 1) := by decide +kernel
theorem dX8_cover_17 : decode cX8_cover 17 = .ok (.getfield 10, 3) := by decide +kernel
theorem dX8_cover_20 : decode cX8_cover 20 = .ok (.getfield 106, 3) := by decide +kernel
theorem dX8_cover_23 : decode cX8_cover 23 = .ok (.invokevirtual 237, 3) := by decide +kernel
theorem dX8_cover_26 : decode cX8_cover 26 = .ok (.if_icmp .ge 23, 3) := by decide +kernel
theorem dX8_cover_29 : decode cX8_cover 29 = .ok (.aload_n 0, 1) := by decide +kernel
theorem dX8_cover_30 : decode cX8_cover 30 = .ok (.getfield 10, 3) := by decide +kernel
theorem dX8_cover_33 : decode cX8_cover 33 = .ok (.iload_n 3, 1) := by decide +kernel
theorem dX8_cover_34 : decode cX8_cover 34 = .ok (.invokevirtual 180, 3) := by decide +kernel
theorem dX8_cover_37 : decode cX8_cover 37 = .ok (.ifCond .eq 6, 3) := by decide +kernel
theorem dX8_cover_40 : decode cX8_cover 40 = .ok (.iinc 2 1, 3) := by decide +kernel
theorem dX8_cover_43 : decode cX8_cover 43 = .ok (.iinc 3 1, 3) := by decide +kernel
theorem dX8_cover_46 : decode cX8_cover 46 = .ok (.goto (-31), 3) := by decide +kernel
theorem dX8_cover_49 : decode cX8_cover 49 = .ok (.iload_n 1, 1) := by decide +kernel
theorem dX8_cover_50 : decode cX8_cover 50 = .ok (.ifCond .ne 7, 3) := by decide +kernel
theorem dX8_cover_53 : decode cX8_cover 53 = .ok (.fconst 0, 1) := by decide +kernel
theorem dX8_cover_54 : decode cX8_cover 54 = .ok (.goto 8, 3) := by decide +kernel
theorem dX8_cover_57 : decode cX8_cover 57 = .ok (.iload_n 2, 1) := by decide +kernel
theorem dX8_cover_58 : decode cX8_cover 58 = .ok (.i2f, 1) := by decide +kernel
theorem dX8_cover_59 : decode cX8_cover 59 = .ok (.iload_n 1, 1) := by decide +kernel
theorem dX8_cover_60 : decode cX8_cover 60 = .ok (.i2f, 1) := by decide +kernel
theorem dX8_cover_61 : decode cX8_cover 61 = .ok (.fdiv, 1) := by decide +kernel
theorem dX8_cover_62 : decode cX8_cover 62 = .ok (.freturn, 1) := by decide +kernel
theorem dX8_writeRow_0 : decode cX8_writeRow 0 = .ok (.iload_n 1, 1) := by decide +kernel
theorem dX8_writeRow_1 : decode cX8_writeRow 1 = .ok (.ifCond .lt 17, 3) := by decide +kernel
theorem dX8_writeRow_4 : decode cX8_writeRow 4 = .ok (.iload_n 1, 1) := by decide +kernel
theorem dX8_writeRow_5 : decode cX8_writeRow 5 = .ok (.aload_n 0, 1) := by decide +kernel
theorem dX8_writeRow_6 : decode cX8_writeRow 6 = .ok (.getfield 10, 3) := by decide +kernel
theorem dX8_writeRow_9 : decode cX8_writeRow 9 = .ok (.getfield 106, 3) := by decide +kernel
theorem dX8_writeRow_12 : decode cX8_writeRow 12 = .ok (.getfield 110, 3) := by decide +kernel
theorem dX8_writeRow_15 : decode cX8_writeRow 15 = .ok (.if_icmp .lt 14, 3) := by decide +kernel
theorem dX8_writeRow_18 : decode cX8_writeRow 18 = .ok (.new 322, 3) := by decide +kernel
theorem dX8_writeRow_21 : decode cX8_writeRow 21 = .ok (.dup, 1) := by decide +kernel
theorem dX8_writeRow_22 : decode cX8_writeRow 22 = .ok (.ldc_w 339, 3) := by decide +kernel
theorem dX8_writeRow_25 : decode cX8_writeRow 25 = .ok (.invokespecial 326, 3) := by decide +kernel
theorem dX8_writeRow_28 : decode cX8_writeRow 28 = .ok (.athrow, 1) := by decide +kernel
theorem dX8_writeRow_29 : decode cX8_writeRow 29 = .ok (.aload_n 0, 1) := by decide +kernel
theorem dX8_writeRow_30 : decode cX8_writeRow 30 = .ok (.getfield 10, 3) := by decide +kernel
theorem dX8_writeRow_33 : decode cX8_writeRow 33 = .ok (.getfield 106, 3) := by decide +kernel
theorem dX8_writeRow_36 : decode cX8_writeRow 36 = .ok (.getfield 115, 3) := by decide +kernel
theorem dX8_writeRow_39 : decode cX8_writeRow 39 = .ok (.istore_n 2, 1) := by decide +kernel
theorem dX8_writeRow_40 : decode cX8_writeRow 40 = .ok (.iconst 0, 1) := by decide +kernel
theorem dX8_writeRow_41 : decode cX8_writeRow 41 = .ok (.istore_n 3, 1) := by decide +kernel
theorem dX8_writeRow_42 : decode cX8_writeRow 42 = .ok (.iload_n 3, 1) := by decide +kernel
theorem dX8_writeRow_43 : decode cX8_writeRow 43 = .ok (.iload_n 2, 1) := by decide +kernel
theorem dX8_writeRow_44 : decode cX8_writeRow 44 = .ok (.if_icmp .ge 30, 3) := by decide +kernel
theorem dX8_writeRow_47 : decode cX8_writeRow 47 = .ok (.iload_n 3, 1) := by decide +kernel
theorem dX8_writeRow_48 : decode cX8_writeRow 48 = .ok (.bipush 12, 2) := by decide +kernel
theorem dX8_writeRow_50 : decode cX8_writeRow 50 = .ok (.if_icmp .ge 24, 3) := by decide +kernel
theorem dX8_writeRow_53 : decode cX8_writeRow 53 = .ok (.aload_n 0, 1) := by decide +kernel
theorem dX8_writeRow_54 : decode cX8_writeRow 54 = .ok (.getfield 44, 3) := by decide +kernel
theorem dX8_writeRow_57 : decode cX8_writeRow 57 = .ok (.iload_n 3, 1) := by decide +kernel
theorem dX8_writeRow_58 : decode cX8_writeRow 58 = .ok (.aload_n 0, 1) := by decide +kernel
theorem dX8_writeRow_59 : decode cX8_writeRow 59 = .ok (.iload_n 1, 1) := by decide +kernel
theorem dX8_writeRow_60 : decode cX8_writeRow 60 = .ok (.iload_n 2, 1) := by decide +kernel
theorem dX8_writeRow_61 : decode cX8_writeRow 61 = .ok (.imul, 1) := by decide +kernel
theorem dX8_writeRow_62 : decode cX8_writeRow 62 = .ok (.iload_n 3, 1) := by decide +kernel
theorem dX8_writeRow_63 : decode cX8_writeRow 63 = .ok (.iadd, 1) := by decide +kernel
theorem dX8_writeRow_64 : decode cX8_writeRow 64 = .ok (.invokevirtual 341, 3) := by decide +kernel
theorem dX8_writeRow_67 : decode cX8_writeRow 67 = .ok (.iastore, 1) := by decide +kernel
theorem dX8_writeRow_68 : decode cX8_writeRow 68 = .ok (.iinc 3 1, 3) := by decide +kernel
theorem dX8_writeRow_71 : decode cX8_writeRow 71 = .ok (.goto (-29), 3) := by decide +kernel
theorem dX8_writeRow_74 : decode cX8_writeRow 74 = .ok (.aload_n 0, 1) := by decide +kernel
theorem dX8_writeRow_75 : decode cX8_writeRow 75 = .ok (.iload_n 2, 1) := by decide +kernel
theorem dX8_writeRow_76 : decode cX8_writeRow 76 = .ok (.putfield 344, 3) := by decide +kernel
theorem dX8_writeRow_79 : decode cX8_writeRow 79 = .ok (.aload_n 0, 1) := by decide +kernel
theorem dX8_writeRow_80 : decode cX8_writeRow 80 = .ok (.getfield 344, 3) := by decide +kernel
theorem dX8_writeRow_83 : decode cX8_writeRow 83 = .ok (.ireturn, 1) := by decide +kernel
theorem dX8_outputByte_0 : decode cX8_outputByte 0 = .ok (.iload_n 1, 1) := by decide +kernel
theorem dX8_outputByte_1 : decode cX8_outputByte 1 = .ok (.ifCond .lt 26, 3) := by decide +kernel
theorem dX8_outputByte_4 : decode cX8_outputByte 4 = .ok (.iload_n 1, 1) := by decide +kernel
theorem dX8_outputByte_5 : decode cX8_outputByte 5 = .ok (.aload_n 0, 1) := by decide +kernel
theorem dX8_outputByte_6 : decode cX8_outputByte 6 = .ok (.getfield 344, 3) := by decide +kernel
theorem dX8_outputByte_9 : decode cX8_outputByte 9 = .ok (.if_icmp .ge 18, 3) := by decide +kernel
theorem dX8_outputByte_12 : decode cX8_outputByte 12 = .ok (.iload_n 1, 1) := by decide +kernel
theorem dX8_outputByte_13 : decode cX8_outputByte 13 = .ok (.bipush 12, 2) := by decide +kernel
theorem dX8_outputByte_15 : decode cX8_outputByte 15 = .ok (.if_icmp .ge 12, 3) := by decide +kernel
theorem dX8_outputByte_18 : decode cX8_outputByte 18 = .ok (.aload_n 0, 1) := by decide +kernel
theorem dX8_outputByte_19 : decode cX8_outputByte 19 = .ok (.getfield 44, 3) := by decide +kernel
theorem dX8_outputByte_22 : decode cX8_outputByte 22 = .ok (.iload_n 1, 1) := by decide +kernel
theorem dX8_outputByte_23 : decode cX8_outputByte 23 = .ok (.iaload, 1) := by decide +kernel
theorem dX8_outputByte_24 : decode cX8_outputByte 24 = .ok (.goto 4, 3) := by decide +kernel
theorem dX8_outputByte_27 : decode cX8_outputByte 27 = .ok (.iconst (-1), 1) := by decide +kernel
theorem dX8_outputByte_28 : decode cX8_outputByte 28 = .ok (.ireturn, 1) := by decide +kernel
theorem dX8_undo_0 : decode cX8_undo 0 = .ok (.aload_n 0, 1) := by decide +kernel
theorem dX8_undo_1 : decode cX8_undo 1 = .ok (.getfield 19, 3) := by decide +kernel
theorem dX8_undo_4 : decode cX8_undo 4 = .ok (.aload_n 0, 1) := by decide +kernel
theorem dX8_undo_5 : decode cX8_undo 5 = .ok (.getfield 10, 3) := by decide +kernel
theorem dX8_undo_8 : decode cX8_undo 8 = .ok (.invokevirtual 347, 3) := by decide +kernel
