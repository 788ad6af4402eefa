theorem dX9_setRed_31 : decode cX9_setRed 31 = .ok (.iconst 0, 1) := by decide +kernel
theorem dX9_setRed_32 : decode cX9_setRed 32 = .ok (.invokevirtual 135, 3) := by decide +kernel
theorem dX9_setRed_35 : decode cX9_setRed 35 = .ok (.iload_n 2, 1) := by decide +kernel
theorem dX9_setRed_36 : decode cX9_setRed 36 = .ok (.ifCond .eq 14, 3) := by decide +kernel
theorem dX9_setRed_39 : decode cX9_setRed 39 = .ok (.aload_n 0, 1) := by decide +kernel
theorem dX9_setRed_40 : decode cX9_setRed 40 = .ok (.aload_n 0, 1) := by decide +kernel
theorem dX9_setRed_41 : decode cX9_setRed 41 = .ok (.iload_n 1, 1) := by decide +kernel
theorem dX9_setRed_42 : decode cX9_setRed 42 = .ok (.invokevirtual 399, 3) := by decide +kernel
theorem dX9_setRed_45 : decode cX9_setRed 45 = .ok (.invokevirtual 173, 3) := by decide +kernel
theorem dX9_setRed_48 : decode cX9_setRed 48 = .ok (.istore 4, 2) := by decide +kernel
theorem dX9_setRed_50 : decode cX9_setRed 50 = .ok (.iload_n 3, 1) := by decide +kernel
theorem dX9_setRed_51 : decode cX9_setRed 51 = .ok (.ireturn, 1) := by decide +kernel
theorem dX9_addRiver_0 : decode cX9_addRiver 0 = .ok (.aload_n 0, 1) := by decide +kernel
theorem dX9_addRiver_1 : decode cX9_addRiver 1 = .ok (.iload_n 1, 1) := by decide +kernel
theorem dX9_addRiver_2 : decode cX9_addRiver 2 = .ok (.invokevirtual 415, 3) := by decide +kernel
theorem dX9_addRiver_5 : decode cX9_addRiver 5 = .ok (.ifCond .ne 5, 3) := by decide +kernel
theorem dX9_addRiver_8 : decode cX9_addRiver 8 = .ok (.iconst 0, 1) := by decide +kernel
theorem dX9_addRiver_9 : decode cX9_addRiver 9 = .ok (.ireturn, 1) := by decide +kernel
theorem dX9_addRiver_10 : decode cX9_addRiver 10 = .ok (.aload_n 0, 1) := by decide +kernel
theorem dX9_addRiver_11 : decode cX9_addRiver 11 = .ok (.getfield 7, 3) := by decide +kernel
theorem dX9_addRiver_14 : decode cX9_addRiver 14 = .ok (.iconst 3, 1) := by decide +kernel
theorem dX9_addRiver_15 : decode cX9_addRiver 15 = .ok (.iaload, 1) := by decide +kernel
theorem dX9_addRiver_16 : decode cX9_addRiver 16 = .ok (.bipush 8, 2) := by decide +kernel
theorem dX9_addRiver_18 : decode cX9_addRiver 18 = .ok (.if_icmp .ne 6, 3) := by decide +kernel
theorem dX9_addRiver_21 : decode cX9_addRiver 21 = .ok (.bipush (-2), 2) := by decide +kernel
theorem dX9_addRiver_23 : decode cX9_addRiver 23 = .ok (.ireturn, 1) := by decide +kernel
theorem dX9_addRiver_24 : decode cX9_addRiver 24 = .ok (.aload_n 0, 1) := by decide +kernel
theorem dX9_addRiver_25 : decode cX9_addRiver 25 = .ok (.iload_n 1, 1) := by decide +kernel
theorem dX9_addRiver_26 : decode cX9_addRiver 26 = .ok (.invokevirtual 327, 3) := by decide +kernel
theorem dX9_addRiver_29 : decode cX9_addRiver 29 = .ok (.ifCond .ne 6, 3) := by decide +kernel
theorem dX9_addRiver_32 : decode cX9_addRiver 32 = .ok (.bipush (-3), 2) := by decide +kernel
theorem dX9_addRiver_34 : decode cX9_addRiver 34 = .ok (.ireturn, 1) := by decide +kernel
theorem dX9_addRiver_35 : decode cX9_addRiver 35 = .ok (.aload_n 0, 1) := by decide +kernel
theorem dX9_addRiver_36 : decode cX9_addRiver 36 = .ok (.invokevirtual 418, 3) := by decide +kernel
theorem dX9_addRiver_39 : decode cX9_addRiver 39 = .ok (.aload_n 0, 1) := by decide +kernel
theorem dX9_addRiver_40 : decode cX9_addRiver 40 = .ok (.invokevirtual 330, 3) := by decide +kernel
theorem dX9_addRiver_43 : decode cX9_addRiver 43 = .ok (.aload_n 0, 1) := by decide +kernel
theorem dX9_addRiver_44 : decode cX9_addRiver 44 = .ok (.getfield 7, 3) := by decide +kernel
theorem dX9_addRiver_47 : decode cX9_addRiver 47 = .ok (.iconst 3, 1) := by decide +kernel
theorem dX9_addRiver_48 : decode cX9_addRiver 48 = .ok (.iaload, 1) := by decide +kernel
theorem dX9_addRiver_49 : decode cX9_addRiver 49 = .ok (.iconst 1, 1) := by decide +kernel
theorem dX9_addRiver_50 : decode cX9_addRiver 50 = .ok (.isub, 1) := by decide +kernel
theorem dX9_addRiver_51 : decode cX9_addRiver 51 = .ok (.ireturn, 1) := by decide +kernel
theorem dX9_dropRiver_0 : decode cX9_dropRiver 0 = .ok (.aload_n 0, 1) := by decide +kernel
theorem dX9_dropRiver_1 : decode cX9_dropRiver 1 = .ok (.iload_n 1, 1) := by decide +kernel
theorem dX9_dropRiver_2 : decode cX9_dropRiver 2 = .ok (.invokevirtual 391, 3) := by decide +kernel
theorem dX9_dropRiver_5 : decode cX9_dropRiver 5 = .ok (.ifCond .ne 5, 3) := by decide +kernel
theorem dX9_dropRiver_8 : decode cX9_dropRiver 8 = .ok (.iconst 0, 1) := by decide +kernel
theorem dX9_dropRiver_9 : decode cX9_dropRiver 9 = .ok (.ireturn, 1) := by decide +kernel
theorem dX9_dropRiver_10 : decode cX9_dropRiver 10 = .ok (.aload_n 0, 1) := by decide +kernel
theorem dX9_dropRiver_11 : decode cX9_dropRiver 11 = .ok (.invokevirtual 418, 3) := by decide +kernel
theorem dX9_dropRiver_14 : decode cX9_dropRiver 14 = .ok (.iconst 0, 1) := by decide +kernel
theorem dX9_dropRiver_15 : decode cX9_dropRiver 15 = .ok (.istore_n 2, 1) := by decide +kernel
theorem dX9_dropRiver_16 : decode cX9_dropRiver 16 = .ok (.iconst 0, 1) := by decide +kernel
theorem dX9_dropRiver_17 : decode cX9_dropRiver 17 = .ok (.istore_n 3, 1) := by decide +kernel
theorem dX9_dropRiver_18 : decode cX9_dropRiver 18 = .ok (.iload_n 3, 1) := by decide +kernel
theorem dX9_dropRiver_19 : decode cX9_dropRiver 19 = .ok (.aload_n 0, 1) := by decide +kernel
theorem dX9_dropRiver_20 : decode cX9_dropRiver 20 = .ok (.invokevirtual 74, 3) := by decide +kernel
theorem dX9_dropRiver_23 : decode cX9_dropRiver 23 = .ok (.if_icmp .ge 95, 3) := by decide +kernel
theorem dX9_dropRiver_26 : decode cX9_dropRiver 26 = .ok (.aload_n 0, 1) := by decide +kernel
theorem dX9_dropRiver_27 : decode cX9_dropRiver 27 = .ok (.iload_n 3, 1) := by decide +kernel
theorem dX9_dropRiver_28 : decode cX9_dropRiver 28 = .ok (.invokevirtual 371, 3) := by decide +kernel
theorem dX9_dropRiver_31 : decode cX9_dropRiver 31 = .ok (.istore 4, 2) := by decide +kernel
theorem dX9_dropRiver_33 : decode cX9_dropRiver 33 = .ok (.iload_n 2, 1) := by decide +kernel
theorem dX9_dropRiver_34 : decode cX9_dropRiver 34 = .ok (.iload 4, 2) := by decide +kernel
theorem dX9_dropRiver_36 : decode cX9_dropRiver 36 = .ok (.iload_n 1, 1) := by decide +kernel
theorem dX9_dropRiver_37 : decode cX9_dropRiver 37 = .ok (.if_icmp .ne 7, 3) := by decide +kernel
theorem dX9_dropRiver_40 : decode cX9_dropRiver 40 = .ok (.iconst 1, 1) := by decide +kernel
theorem dX9_dropRiver_41 : decode cX9_dropRiver 41 = .ok (.goto 4, 3) := by decide +kernel
theorem dX9_dropRiver_44 : decode cX9_dropRiver 44 = .ok (.iconst 0, 1) := by decide +kernel
theorem dX9_dropRiver_45 : decode cX9_dropRiver 45 = .ok (.iadd, 1) := by decide +kernel
theorem dX9_dropRiver_46 : decode cX9_dropRiver 46 = .ok (.istore_n 2, 1) := by decide +kernel
theorem dX9_dropRiver_47 : decode cX9_dropRiver 47 = .ok (.aload_n 0, 1) := by decide +kernel
theorem dX9_dropRiver_48 : decode cX9_dropRiver 48 = .ok (.getfield 7, 3) := by decide +kernel
theorem dX9_dropRiver_51 : decode cX9_dropRiver 51 = .ok (.sipush 152, 3) := by decide +kernel
theorem dX9_dropRiver_54 : decode cX9_dropRiver 54 = .ok (.iload_n 3, 1) := by decide +kernel
theorem dX9_dropRiver_55 : decode cX9_dropRiver 55 = .ok (.iadd, 1) := by decide +kernel
theorem dX9_dropRiver_56 : decode cX9_dropRiver 56 = .ok (.iload 4, 2) := by decide +kernel
theorem dX9_dropRiver_58 : decode cX9_dropRiver 58 = .ok (.iload_n 1, 1) := by decide +kernel
theorem dX9_dropRiver_59 : decode cX9_dropRiver 59 = .ok (.if_icmp .ne 7, 3) := by decide +kernel
theorem dX9_dropRiver_62 : decode cX9_dropRiver 62 = .ok (.iconst 0, 1) := by decide +kernel
theorem dX9_dropRiver_63 : decode cX9_dropRiver 63 = .ok (.goto 18, 3) := by decide +kernel
theorem dX9_dropRiver_66 : decode cX9_dropRiver 66 = .ok (.iload 4, 2) := by decide +kernel
theorem dX9_dropRiver_68 : decode cX9_dropRiver 68 = .ok (.iload_n 1, 1) := by decide +kernel
theorem dX9_dropRiver_69 : decode cX9_dropRiver 69 = .ok (.if_icmp .le 8, 3) := by decide +kernel
theorem dX9_dropRiver_72 : decode cX9_dropRiver 72 = .ok (.iload 4, 2) := by decide +kernel
theorem dX9_dropRiver_74 : decode cX9_dropRiver 74 = .ok (.goto 7, 3) := by decide +kernel
theorem dX9_dropRiver_77 : decode cX9_dropRiver 77 = .ok (.iload 4, 2) := by decide +kernel
theorem dX9_dropRiver_79 : decode cX9_dropRiver 79 = .ok (.iconst 1, 1) := by decide +kernel
theorem dX9_dropRiver_80 : decode cX9_dropRiver 80 = .ok (.iadd, 1) := by decide +kernel
theorem dX9_dropRiver_81 : decode cX9_dropRiver 81 = .ok (.iastore, 1) := by decide +kernel
theorem dX9_dropRiver_82 : decode cX9_dropRiver 82 = .ok (.aload_n 0, 1) := by decide +kernel
theorem dX9_dropRiver_83 : decode cX9_dropRiver 83 = .ok (.getfield 7, 3) := by decide +kernel
theorem dX9_dropRiver_86 : decode cX9_dropRiver 86 = .ok (.sipush 296, 3) := by decide +kernel
theorem dX9_dropRiver_89 : decode cX9_dropRiver 89 = .ok (.iload_n 3, 1) := by decide +kernel
theorem dX9_dropRiver_90 : decode cX9_dropRiver 90 = .ok (.iadd, 1) := by decide +kernel
theorem dX9_dropRiver_91 : decode cX9_dropRiver 91 = .ok (.iload 4, 2) := by decide +kernel
theorem dX9_dropRiver_93 : decode cX9_dropRiver 93 = .ok (.iload_n 1, 1) := by decide +kernel
theorem dX9_dropRiver_94 : decode cX9_dropRiver 94 = .ok (.if_icmp .ne 7, 3) := by decide +kernel
theorem dX9_dropRiver_97 : decode cX9_dropRiver 97 = .ok (.iconst 0, 1) := by decide +kernel
theorem dX9_dropRiver_98 : decode cX9_dropRiver 98 = .ok (.goto 13, 3) := by decide +kernel
theorem dX9_dropRiver_101 : decode cX9_dropRiver 101 = .ok (.aload_n 0, 1) := by decide +kernel
theorem dX9_dropRiver_102 : decode cX9_dropRiver 102 = .ok (.getfield 7, 3) := by decide +kernel
theorem dX9_dropRiver_105 : decode cX9_dropRiver 105 = .ok (.sipush 296, 3) := by decide +kernel
theorem dX9_dropRiver_108 : decode cX9_dropRiver 108 = .ok (.iload_n 3, 1) := by decide +kernel
theorem dX9_dropRiver_109 : decode cX9_dropRiver 109 = .ok (.iadd, 1) := by decide +kernel
theorem dX9_dropRiver_110 : decode cX9_dropRiver 110 = .ok (.iaload, 1) := by decide +kernel
theorem dX9_dropRiver_111 : decode cX9_dropRiver 111 = .ok (.iastore, 1) := by decide +kernel
theorem dX9_dropRiver_112 : decode cX9_dropRiver 112 = .ok (.iinc 3 1, 3) := by decide +kernel
theorem dX9_dropRiver_115 : decode cX9_dropRiver 115 = .ok (.goto (-97), 3) := by decide +kernel
theorem dX9_dropRiver_118 : decode cX9_dropRiver 118 = .ok (.aload_n 0, 1) := by decide +kernel
theorem dX9_dropRiver_119 : decode cX9_dropRiver 119 = .ok (.getfield 7, 3) := by decide +kernel
theorem dX9_dropRiver_122 : decode cX9_dropRiver 122 = .ok (.iconst 3, 1) := by decide +kernel
theorem dX9_dropRiver_123 : decode cX9_dropRiver 123 = .ok (.dup2, 1) := by decide +kernel
theorem dX9_dropRiver_124 : decode cX9_dropRiver 124 = .ok (.iaload, 1) := by decide +kernel
theorem dX9_dropRiver_125 : decode cX9_dropRiver 125 = .ok (.iconst 1, 1) := by decide +kernel
theorem dX9_dropRiver_126 : decode cX9_dropRiver 126 = .ok (.isub, 1) := by decide +kernel
theorem dX9_dropRiver_127 : decode cX9_dropRiver 127 = .ok (.iastore, 1) := by decide +kernel
theorem dX9_dropRiver_128 : decode cX9_dropRiver 128 = .ok (.iload_n 2, 1) := by decide +kernel
theorem dX9_dropRiver_129 : decode cX9_dropRiver 129 = .ok (.ireturn, 1) := by decide +kernel
theorem dX9_erode_0 : decode cX9_erode 0 = .ok (.aload_n 0, 1) := by decide +kernel
theorem dX9_erode_1 : decode cX9_erode 1 = .ok (.iload_n 1, 1) := by decide +kernel
theorem dX9_erode_2 : decode cX9_erode 2 = .ok (.invokevirtual 415, 3) := by decide +kernel
theorem dX9_erode_5 : decode cX9_erode 5 = .ok (.ifCond .ne 5, 3) := by decide +kernel
theorem dX9_erode_8 : decode cX9_erode 8 = .ok (.iconst 0, 1) := by decide +kernel
theorem dX9_erode_9 : decode cX9_erode 9 = .ok (.ireturn, 1) := by decide +kernel
theorem dX9_erode_10 : decode cX9_erode 10 = .ok (.aload_n 0, 1) := by decide +kernel
theorem dX9_erode_11 : decode cX9_erode 11 = .ok (.iload_n 1, 1) := by decide +kernel
theorem dX9_erode_12 : decode cX9_erode 12 = .ok (.invokevirtual 148, 3) := by decide +kernel
theorem dX9_erode_15 : decode cX9_erode 15 = .ok (.ifCond .ne 6, 3) := by decide +kernel
theorem dX9_erode_18 : decode cX9_erode 18 = .ok (.bipush (-3), 2) := by decide +kernel
theorem dX9_erode_20 : decode cX9_erode 20 = .ok (.ireturn, 1) := by decide +kernel
theorem dX9_erode_21 : decode cX9_erode 21 = .ok (.aload_n 0, 1) := by decide +kernel
theorem dX9_erode_22 : decode cX9_erode 22 = .ok (.invokevirtual 418, 3) := by decide +kernel
theorem dX9_erode_25 : decode cX9_erode 25 = .ok (.aload_n 0, 1) := by decide +kernel
theorem dX9_erode_26 : decode cX9_erode 26 = .ok (.aload_n 0, 1) := by decide +kernel
theorem dX9_erode_27 : decode cX9_erode 27 = .ok (.iload_n 1, 1) := by decide +kernel
theorem dX9_erode_28 : decode cX9_erode 28 = .ok (.invokevirtual 145, 3) := by decide +kernel
theorem dX9_erode_31 : decode cX9_erode 31 = .ok (.invokevirtual 173, 3) := by decide +kernel
theorem dX9_erode_34 : decode cX9_erode 34 = .ok (.istore_n 2, 1) := by decide +kernel
theorem dX9_erode_35 : decode cX9_erode 35 = .ok (.aload_n 0, 1) := by decide +kernel
theorem dX9_erode_36 : decode cX9_erode 36 = .ok (.getfield 7, 3) := by decide +kernel
theorem dX9_erode_39 : decode cX9_erode 39 = .ok (.bipush 8, 2) := by decide +kernel
theorem dX9_erode_41 : decode cX9_erode 41 = .ok (.iload_n 1, 1) := by decide +kernel
theorem dX9_erode_42 : decode cX9_erode 42 = .ok (.iadd, 1) := by decide +kernel
theorem dX9_erode_43 : decode cX9_erode 43 = .ok (.iconst 0, 1) := by decide +kernel
theorem dX9_erode_44 : decode cX9_erode 44 = .ok (.iastore, 1) := by decide +kernel
theorem dX9_erode_45 : decode cX9_erode 45 = .ok (.iload_n 2, 1) := by decide +kernel
theorem dX9_erode_46 : decode cX9_erode 46 = .ok (.ireturn, 1) := by decide +kernel
theorem dX9_raise_0 : decode cX9_raise 0 = .ok (.aload_n 0, 1) := by decide +kernel
theorem dX9_raise_1 : decode cX9_raise 1 = .ok (.iload_n 1, 1) := by decide +kernel
theorem dX9_raise_2 : decode cX9_raise 2 = .ok (.invokevirtual 415, 3) := by decide +kernel
theorem dX9_raise_5 : decode cX9_raise 5 = .ok (.ifCond .ne 5, 3) := by decide +kernel
theorem dX9_raise_8 : decode cX9_raise 8 = .ok (.iconst 0, 1) := by decide +kernel
theorem dX9_raise_9 : decode cX9_raise 9 = .ok (.ireturn, 1) := by decide +kernel
theorem dX9_raise_10 : decode cX9_raise 10 = .ok (.aload_n 0, 1) := by decide +kernel
theorem dX9_raise_11 : decode cX9_raise 11 = .ok (.iload_n 1, 1) := by decide +kernel
theorem dX9_raise_12 : decode cX9_raise 12 = .ok (.invokevirtual 82, 3) := by decide +kernel
theorem dX9_raise_15 : decode cX9_raise 15 = .ok (.ifCond .eq 6, 3) := by decide +kernel
theorem dX9_raise_18 : decode cX9_raise 18 = .ok (.bipush (-3), 2) := by decide +kernel
theorem dX9_raise_20 : decode cX9_raise 20 = .ok (.ireturn, 1) := by decide +kernel
theorem dX9_raise_21 : decode cX9_raise 21 = .ok (.aload_n 0, 1) := by decide +kernel
theorem dX9_raise_22 : decode cX9_raise 22 = .ok (.getfield 7, 3) := by decide +kernel
theorem dX9_raise_25 : decode cX9_raise 25 = .ok (.bipush 8, 2) := by decide +kernel
theorem dX9_raise_27 : decode cX9_raise 27 = .ok (.iload_n 1, 1) := by decide +kernel
theorem dX9_raise_28 : decode cX9_raise 28 = .ok (.iadd, 1) := by decide +kernel
theorem dX9_raise_29 : decode cX9_raise 29 = .ok (.iconst 1, 1) := by decide +kernel
theorem dX9_raise_30 : decode cX9_raise 30 = .ok (.iastore, 1) := by decide +kernel
theorem dX9_raise_31 : decode cX9_raise 31 = .ok (.iconst 1, 1) := by decide +kernel
theorem dX9_raise_32 : decode cX9_raise 32 = .ok (.istore_n 2, 1) := by decide +kernel
theorem dX9_raise_33 : decode cX9_raise 33 = .ok (.iconst 0, 1) := by decide +kernel
theorem dX9_raise_34 : decode cX9_raise 34 = .ok (.istore_n 3, 1) := by decide +kernel
theorem dX9_raise_35 : decode cX9_raise 35 = .ok (.iconst 0, 1) := by decide +kernel
theorem dX9_raise_36 : decode cX9_raise 36 = .ok (.istore 4, 2) := by decide +kernel
theorem dX9_raise_38 : decode cX9_raise 38 = .ok (.iload 4, 2) := by decide +kernel
theorem dX9_raise_40 : decode cX9_raise 40 = .ok (.aload_n 0, 1) := by decide +kernel
theorem dX9_raise_41 : decode cX9_raise 41 = .ok (.getfield 7, 3) := by decide +kernel
theorem dX9_raise_44 : decode cX9_raise 44 = .ok (.iconst 2, 1) := by decide +kernel
theorem dX9_raise_45 : decode cX9_raise 45 = .ok (.iaload, 1) := by decide +kernel
theorem dX9_raise_46 : decode cX9_raise 46 = .ok (.if_icmp .ge 83, 3) := by decide +kernel
theorem dX9_raise_49 : decode cX9_raise 49 = .ok (.iload_n 2, 1) := by decide +kernel
theorem dX9_raise_50 : decode cX9_raise 50 = .ok (.ifCond .eq 21, 3) := by decide +kernel
theorem dX9_raise_53 : decode cX9_raise 53 = .ok (.aload_n 0, 1) := by decide +kernel
theorem dX9_raise_54 : decode cX9_raise 54 = .ok (.aload_n 0, 1) := by decide +kernel
theorem dX9_raise_55 : decode cX9_raise 55 = .ok (.iload 4, 2) := by decide +kernel
theorem dX9_raise_57 : decode cX9_raise 57 = .ok (.iconst 0, 1) := by decide +kernel
theorem dX9_raise_58 : decode cX9_raise 58 = .ok (.invokevirtual 100, 3) := by decide +kernel
theorem dX9_raise_61 : decode cX9_raise 61 = .ok (.invokevirtual 142, 3) := by decide +kernel
theorem dX9_raise_64 : decode cX9_raise 64 = .ok (.ifCond .eq 7, 3) := by decide +kernel
theorem dX9_raise_67 : decode cX9_raise 67 = .ok (.iconst 1, 1) := by decide +kernel
theorem dX9_raise_68 : decode cX9_raise 68 = .ok (.goto 4, 3) := by decide +kernel
theorem dX9_raise_71 : decode cX9_raise 71 = .ok (.iconst 0, 1) := by decide +kernel
theorem dX9_raise_72 : decode cX9_raise 72 = .ok (.istore_n 2, 1) := by decide +kernel
theorem dX9_raise_73 : decode cX9_raise 73 = .ok (.iload_n 3, 1) := by decide +kernel
theorem dX9_raise_74 : decode cX9_raise 74 = .ok (.aload_n 0, 1) := by decide +kernel
theorem dX9_raise_75 : decode cX9_raise 75 = .ok (.iload 4, 2) := by decide +kernel
theorem dX9_raise_77 : decode cX9_raise 77 = .ok (.invokevirtual 103, 3) := by decide +kernel
theorem dX9_raise_80 : decode cX9_raise 80 = .ok (.ifCond .eq 40, 3) := by decide +kernel
theorem dX9_raise_83 : decode cX9_raise 83 = .ok (.aload_n 0, 1) := by decide +kernel
theorem dX9_raise_84 : decode cX9_raise 84 = .ok (.aload_n 0, 1) := by decide +kernel
theorem dX9_raise_85 : decode cX9_raise 85 = .ok (.aload_n 0, 1) := by decide +kernel
theorem dX9_raise_86 : decode cX9_raise 86 = .ok (.iload 4, 2) := by decide +kernel
theorem dX9_raise_88 : decode cX9_raise 88 = .ok (.iconst 0, 1) := by decide +kernel
theorem dX9_raise_89 : decode cX9_raise 89 = .ok (.invokevirtual 100, 3) := by decide +kernel
theorem dX9_raise_92 : decode cX9_raise 92 = .ok (.aload_n 0, 1) := by decide +kernel
theorem dX9_raise_93 : decode cX9_raise 93 = .ok (.iload 4, 2) := by decide +kernel
theorem dX9_raise_95 : decode cX9_raise 95 = .ok (.iconst 2, 1) := by decide +kernel
theorem dX9_raise_96 : decode cX9_raise 96 = .ok (.invokevirtual 100, 3) := by decide +kernel
theorem dX9_raise_99 : decode cX9_raise 99 = .ok (.iconst 2, 1) := by decide +kernel
theorem dX9_raise_100 : decode cX9_raise 100 = .ok (.iadd, 1) := by decide +kernel
theorem dX9_raise_101 : decode cX9_raise 101 = .ok (.iconst 4, 1) := by decide +kernel
theorem dX9_raise_102 : decode cX9_raise 102 = .ok (.irem, 1) := by decide +kernel
theorem dX9_raise_103 : decode cX9_raise 103 = .ok (.iconst 1, 1) := by decide +kernel
theorem dX9_raise_104 : decode cX9_raise 104 = .ok (.invokevirtual 86, 3) := by decide +kernel
theorem dX9_raise_107 : decode cX9_raise 107 = .ok (.invokevirtual 82, 3) := by decide +kernel
theorem dX9_raise_110 : decode cX9_raise 110 = .ok (.ifCond .eq 10, 3) := by decide +kernel
theorem dX9_raise_113 : decode cX9_raise 113 = .ok (.iconst 1, 1) := by decide +kernel
theorem dX9_raise_114 : decode cX9_raise 114 = .ok (.iload 4, 2) := by decide +kernel
theorem dX9_raise_116 : decode cX9_raise 116 = .ok (.ishl, 1) := by decide +kernel
theorem dX9_raise_117 : decode cX9_raise 117 = .ok (.goto 4, 3) := by decide +kernel
theorem dX9_raise_120 : decode cX9_raise 120 = .ok (.iconst 0, 1) := by decide +kernel
theorem dX9_raise_121 : decode cX9_raise 121 = .ok (.ior, 1) := by decide +kernel
theorem dX9_raise_122 : decode cX9_raise 122 = .ok (.istore_n 3, 1) := by decide +kernel
theorem dX9_raise_123 : decode cX9_raise 123 = .ok (.iinc 4 1, 3) := by decide +kernel
theorem dX9_raise_126 : decode cX9_raise 126 = .ok (.goto (-88), 3) := by decide +kernel
theorem dX9_raise_129 : decode cX9_raise 129 = .ok (.aload_n 0, 1) := by decide +kernel
theorem dX9_raise_130 : decode cX9_raise 130 = .ok (.getfield 7, 3) := by decide +kernel
theorem dX9_raise_133 : decode cX9_raise 133 = .ok (.bipush 8, 2) := by decide +kernel
theorem dX9_raise_135 : decode cX9_raise 135 = .ok (.iload_n 1, 1) := by decide +kernel
theorem dX9_raise_136 : decode cX9_raise 136 = .ok (.iadd, 1) := by decide +kernel
theorem dX9_raise_137 : decode cX9_raise 137 = .ok (.iconst 0, 1) := by decide +kernel
theorem dX9_raise_138 : decode cX9_raise 138 = .ok (.iastore, 1) := by decide +kernel
theorem dX9_raise_139 : decode cX9_raise 139 = .ok (.iload_n 2, 1) := by decide +kernel
theorem dX9_raise_140 : decode cX9_raise 140 = .ok (.ifCond .ne 6, 3) := by decide +kernel
theorem dX9_raise_143 : decode cX9_raise 143 = .ok (.bipush (-3), 2) := by decide +kernel
theorem dX9_raise_145 : decode cX9_raise 145 = .ok (.ireturn, 1) := by decide +kernel
theorem dX9_raise_146 : decode cX9_raise 146 = .ok (.aload_n 0, 1) := by decide +kernel
theorem dX9_raise_147 : decode cX9_raise 147 = .ok (.invokevirtual 418, 3) := by decide +kernel
theorem dX9_raise_150 : decode cX9_raise 150 = .ok (.aload_n 0, 1) := by decide +kernel
theorem dX9_raise_151 : decode cX9_raise 151 = .ok (.getfield 7, 3) := by decide +kernel
theorem dX9_raise_154 : decode cX9_raise 154 = .ok (.bipush 8, 2) := by decide +kernel
theorem dX9_raise_156 : decode cX9_raise 156 = .ok (.iload_n 1, 1) := by decide +kernel
theorem dX9_raise_157 : decode cX9_raise 157 = .ok (.iadd, 1) := by decide +kernel
theorem dX9_raise_158 : decode cX9_raise 158 = .ok (.iconst 1, 1) := by decide +kernel
theorem dX9_raise_159 : decode cX9_raise 159 = .ok (.iastore, 1) := by decide +kernel
theorem dX9_raise_160 : decode cX9_raise 160 = .ok (.aload_n 0, 1) := by decide +kernel
theorem dX9_raise_161 : decode cX9_raise 161 = .ok (.iload_n 3, 1) := by decide +kernel
theorem dX9_raise_162 : decode cX9_raise 162 = .ok (.invokevirtual 173, 3) := by decide +kernel
theorem dX9_raise_165 : decode cX9_raise 165 = .ok (.ireturn, 1) := by decide +kernel
theorem dX9_sail_0 : decode cX9_sail 0 = .ok (.aload_n 0, 1) := by decide +kernel
theorem dX9_sail_1 : decode cX9_sail 1 = .ok (.iload_n 1, 1) := by decide +kernel
theorem dX9_sail_2 : decode cX9_sail 2 = .ok (.invokevirtual 388, 3) := by decide +kernel
theorem dX9_sail_5 : decode cX9_sail 5 = .ok (.ifCond .ne 5, 3) := by decide +kernel
theorem dX9_sail_8 : decode cX9_sail 8 = .ok (.iconst 0, 1) := by decide +kernel
theorem dX9_sail_9 : decode cX9_sail 9 = .ok (.ireturn, 1) := by decide +kernel
theorem dX9_sail_10 : decode cX9_sail 10 = .ok (.aload_n 0, 1) := by decide +kernel
theorem dX9_sail_11 : decode cX9_sail 11 = .ok (.getfield 7, 3) := by decide +kernel
theorem dX9_sail_14 : decode cX9_sail 14 = .ok (.iconst 4, 1) := by decide +kernel
theorem dX9_sail_15 : decode cX9_sail 15 = .ok (.iaload, 1) := by decide +kernel
theorem dX9_sail_16 : decode cX9_sail 16 = .ok (.bipush 16, 2) := by decide +kernel
theorem dX9_sail_18 : decode cX9_sail 18 = .ok (.if_icmp .ne 6, 3) := by decide +kernel
theorem dX9_sail_21 : decode cX9_sail 21 = .ok (.bipush (-2), 2) := by decide +kernel
theorem dX9_sail_23 : decode cX9_sail 23 = .ok (.ireturn, 1) := by decide +kernel
theorem dX9_sail_24 : decode cX9_sail 24 = .ok (.aload_n 0, 1) := by decide +kernel
theorem dX9_sail_25 : decode cX9_sail 25 = .ok (.invokevirtual 418, 3) := by decide +kernel
theorem dX9_sail_28 : decode cX9_sail 28 = .ok (.aload_n 0, 1) := by decide +kernel
theorem dX9_sail_29 : decode cX9_sail 29 = .ok (.getfield 7, 3) := by decide +kernel
theorem dX9_sail_32 : decode cX9_sail 32 = .ok (.sipush 536, 3) := by decide +kernel
theorem dX9_sail_35 : decode cX9_sail 35 = .ok (.aload_n 0, 1) := by decide +kernel
theorem dX9_sail_36 : decode cX9_sail 36 = .ok (.getfield 7, 3) := by decide +kernel
theorem dX9_sail_39 : decode cX9_sail 39 = .ok (.iconst 4, 1) := by decide +kernel
theorem dX9_sail_40 : decode cX9_sail 40 = .ok (.iaload, 1) := by decide +kernel
theorem dX9_sail_41 : decode cX9_sail 41 = .ok (.iadd, 1) := by decide +kernel
theorem dX9_sail_42 : decode cX9_sail 42 = .ok (.iload_n 1, 1) := by decide +kernel
theorem dX9_sail_43 : decode cX9_sail 43 = .ok (.iastore, 1) := by decide +kernel
theorem dX9_sail_44 : decode cX9_sail 44 = .ok (.aload_n 0, 1) := by decide +kernel
theorem dX9_sail_45 : decode cX9_sail 45 = .ok (.getfield 7, 3) := by decide +kernel
theorem dX9_sail_48 : decode cX9_sail 48 = .ok (.iconst 4, 1) := by decide +kernel
theorem dX9_sail_49 : decode cX9_sail 49 = .ok (.dup2, 1) := by decide +kernel
theorem dX9_sail_50 : decode cX9_sail 50 = .ok (.iaload, 1) := by decide +kernel
theorem dX9_sail_51 : decode cX9_sail 51 = .ok (.iconst 1, 1) := by decide +kernel
theorem dX9_sail_52 : decode cX9_sail 52 = .ok (.iadd, 1) := by decide +kernel
theorem dX9_sail_53 : decode cX9_sail 53 = .ok (.iastore, 1) := by decide +kernel
theorem dX9_sail_54 : decode cX9_sail 54 = .ok (.aload_n 0, 1) := by decide +kernel
theorem dX9_sail_55 : decode cX9_sail 55 = .ok (.getfield 7, 3) := by decide +kernel
theorem dX9_sail_58 : decode cX9_sail 58 = .ok (.iconst 4, 1) := by decide +kernel
theorem dX9_sail_59 : decode cX9_sail 59 = .ok (.iaload, 1) := by decide +kernel
theorem dX9_sail_60 : decode cX9_sail 60 = .ok (.ireturn, 1) := by decide +kernel
theorem dX9_cut_0 : decode cX9_cut 0 = .ok (.aload_n 0, 1) := by decide +kernel
theorem dX9_cut_1 : decode cX9_cut 1 = .ok (.iload_n 1, 1) := by decide +kernel
theorem dX9_cut_2 : decode cX9_cut 2 = .ok (.i2l, 1) := by decide +kernel
theorem dX9_cut_3 : decode cX9_cut 3 = .ok (.lconst 0, 1) := by decide +kernel
theorem dX9_cut_4 : decode cX9_cut 4 = .ok (.aload_n 0, 1) := by decide +kernel
theorem dX9_cut_5 : decode cX9_cut 5 = .ok (.getfield 7, 3) := by decide +kernel
theorem dX9_cut_8 : decode cX9_cut 8 = .ok (.iconst 4, 1) := by decide +kernel
theorem dX9_cut_9 : decode cX9_cut 9 = .ok (.iaload, 1) := by decide +kernel
theorem dX9_cut_10 : decode cX9_cut 10 = .ok (.iconst 1, 1) := by decide +kernel
theorem dX9_cut_11 : decode cX9_cut 11 = .ok (.isub, 1) := by decide +kernel
theorem dX9_cut_12 : decode cX9_cut 12 = .ok (.i2l, 1) := by decide +kernel
theorem dX9_cut_13 : decode cX9_cut 13 = .ok (.invokestatic 78, 3) := by decide +kernel
theorem dX9_cut_16 : decode cX9_cut 16 = .ok (.iconst 1, 1) := by decide +kernel
theorem dX9_cut_17 : decode cX9_cut 17 = .ok (.invokevirtual 355, 3) := by decide +kernel
theorem dX9_cut_20 : decode cX9_cut 20 = .ok (.ifCond .ne 5, 3) := by decide +kernel
theorem dX9_cut_23 : decode cX9_cut 23 = .ok (.iconst 0, 1) := by decide +kernel
theorem dX9_cut_24 : decode cX9_cut 24 = .ok (.ireturn, 1) := by decide +kernel
theorem dX9_cut_25 : decode cX9_cut 25 = .ok (.aload_n 0, 1) := by decide +kernel
theorem dX9_cut_26 : decode cX9_cut 26 = .ok (.invokevirtual 418, 3) := by decide +kernel
theorem dX9_cut_29 : decode cX9_cut 29 = .ok (.aload_n 0, 1) := by decide +kernel
theorem dX9_cut_30 : decode cX9_cut 30 = .ok (.getfield 7, 3) := by decide +kernel
theorem dX9_cut_33 : decode cX9_cut 33 = .ok (.sipush 536, 3) := by decide +kernel
theorem dX9_cut_36 : decode cX9_cut 36 = .ok (.iload_n 1, 1) := by decide +kernel
theorem dX9_cut_37 : decode cX9_cut 37 = .ok (.iadd, 1) := by decide +kernel
theorem dX9_cut_38 : decode cX9_cut 38 = .ok (.iaload, 1) := by decide +kernel
theorem dX9_cut_39 : decode cX9_cut 39 = .ok (.istore_n 2, 1) := by decide +kernel
theorem dX9_cut_40 : decode cX9_cut 40 = .ok (.aload_n 0, 1) := by decide +kernel
theorem dX9_cut_41 : decode cX9_cut 41 = .ok (.getfield 7, 3) := by decide +kernel
theorem dX9_cut_44 : decode cX9_cut 44 = .ok (.iconst 4, 1) := by decide +kernel
theorem dX9_cut_45 : decode cX9_cut 45 = .ok (.dup2, 1) := by decide +kernel
theorem dX9_cut_46 : decode cX9_cut 46 = .ok (.iaload, 1) := by decide +kernel
theorem dX9_cut_47 : decode cX9_cut 47 = .ok (.iconst 1, 1) := by decide +kernel
theorem dX9_cut_48 : decode cX9_cut 48 = .ok (.isub, 1) := by decide +kernel
theorem dX9_cut_49 : decode cX9_cut 49 = .ok (.iastore, 1) := by decide +kernel
theorem dX9_cut_50 : decode cX9_cut 50 = .ok (.iload_n 1, 1) := by decide +kernel
theorem dX9_cut_51 : decode cX9_cut 51 = .ok (.istore_n 3, 1) := by decide +kernel
theorem dX9_cut_52 : decode cX9_cut 52 = .ok (.iload_n 3, 1) := by decide +kernel
theorem dX9_cut_53 : decode cX9_cut 53 = .ok (.aload_n 0, 1) := by decide +kernel
theorem dX9_cut_54 : decode cX9_cut 54 = .ok (.getfield 7, 3) := by decide +kernel
theorem dX9_cut_57 : decode cX9_cut 57 = .ok (.iconst 4, 1) := by decide +kernel
theorem dX9_cut_58 : decode cX9_cut 58 = .ok (.iaload, 1) := by decide +kernel
theorem dX9_cut_59 : decode cX9_cut 59 = .ok (.if_icmp .ge 31, 3) := by decide +kernel
theorem dX9_cut_62 : decode cX9_cut 62 = .ok (.aload_n 0, 1) := by decide +kernel
theorem dX9_cut_63 : decode cX9_cut 63 = .ok (.getfield 7, 3) := by decide +kernel
theorem dX9_cut_66 : decode cX9_cut 66 = .ok (.sipush 536, 3) := by decide +kernel
theorem dX9_cut_69 : decode cX9_cut 69 = .ok (.iload_n 3, 1) := by decide +kernel
theorem dX9_cut_70 : decode cX9_cut 70 = .ok (.iadd, 1) := by decide +kernel
theorem dX9_cut_71 : decode cX9_cut 71 = .ok (.aload_n 0, 1) := by decide +kernel
theorem dX9_cut_72 : decode cX9_cut 72 = .ok (.getfield 7, 3) := by decide +kernel
theorem dX9_cut_75 : decode cX9_cut 75 = .ok (.sipush 536, 3) := by decide +kernel
theorem dX9_cut_78 : decode cX9_cut 78 = .ok (.iload_n 3, 1) := by decide +kernel
theorem dX9_cut_79 : decode cX9_cut 79 = .ok (.iadd, 1) := by decide +kernel
theorem dX9_cut_80 : decode cX9_cut 80 = .ok (.iconst 1, 1) := by decide +kernel
theorem dX9_cut_81 : decode cX9_cut 81 = .ok (.iadd, 1) := by decide +kernel
theorem dX9_cut_82 : decode cX9_cut 82 = .ok (.iaload, 1) := by decide +kernel
theorem dX9_cut_83 : decode cX9_cut 83 = .ok (.iastore, 1) := by decide +kernel
theorem dX9_cut_84 : decode cX9_cut 84 = .ok (.iinc 3 1, 3) := by decide +kernel
theorem dX9_cut_87 : decode cX9_cut 87 = .ok (.goto (-35), 3) := by decide +kernel
theorem dX9_cut_90 : decode cX9_cut 90 = .ok (.aload_n 0, 1) := by decide +kernel
theorem dX9_cut_91 : decode cX9_cut 91 = .ok (.getfield 7, 3) := by decide +kernel
theorem dX9_cut_94 : decode cX9_cut 94 = .ok (.sipush 536, 3) := by decide +kernel
theorem dX9_cut_97 : decode cX9_cut 97 = .ok (.aload_n 0, 1) := by decide +kernel
theorem dX9_cut_98 : decode cX9_cut 98 = .ok (.getfield 7, 3) := by decide +kernel
theorem dX9_cut_101 : decode cX9_cut 101 = .ok (.iconst 4, 1) := by decide +kernel
theorem dX9_cut_102 : decode cX9_cut 102 = .ok (.iaload, 1) := by decide +kernel
theorem dX9_cut_103 : decode cX9_cut 103 = .ok (.iadd, 1) := by decide +kernel
theorem dX9_cut_104 : decode cX9_cut 104 = .ok (.iconst 0, 1) := by decide +kernel
theorem dX9_cut_105 : decode cX9_cut 105 = .ok (.iastore, 1) := by decide +kernel
theorem dX9_cut_106 : decode cX9_cut 106 = .ok (.aload_n 0, 1) := by decide +kernel
theorem dX9_cut_107 : decode cX9_cut 107 = .ok (.getfield 7, 3) := by decide +kernel
theorem dX9_cut_110 : decode cX9_cut 110 = .ok (.bipush 6, 2) := by decide +kernel
theorem dX9_cut_112 : decode cX9_cut 112 = .ok (.dup2, 1) := by decide +kernel
theorem dX9_cut_113 : decode cX9_cut 113 = .ok (.iaload, 1) := by decide +kernel
theorem dX9_cut_114 : decode cX9_cut 114 = .ok (.aload_n 0, 1) := by decide +kernel
theorem dX9_cut_115 : decode cX9_cut 115 = .ok (.getfield 7, 3) := by decide +kernel
theorem dX9_cut_118 : decode cX9_cut 118 = .ok (.bipush 6, 2) := by decide +kernel
theorem dX9_cut_120 : decode cX9_cut 120 = .ok (.iaload, 1) := by decide +kernel
theorem dX9_cut_121 : decode cX9_cut 121 = .ok (.iload_n 1, 1) := by decide +kernel
theorem dX9_cut_122 : decode cX9_cut 122 = .ok (.if_icmp .le 7, 3) := by decide +kernel
theorem dX9_cut_125 : decode cX9_cut 125 = .ok (.iconst 1, 1) := by decide +kernel
theorem dX9_cut_126 : decode cX9_cut 126 = .ok (.goto 4, 3) := by decide +kernel
theorem dX9_cut_129 : decode cX9_cut 129 = .ok (.iconst 0, 1) := by decide +kernel
theorem dX9_cut_130 : decode cX9_cut 130 = .ok (.isub, 1) := by decide +kernel
theorem dX9_cut_131 : decode cX9_cut 131 = .ok (.iastore, 1) := by decide +kernel
theorem dX9_cut_132 : decode cX9_cut 132 = .ok (.aload_n 0, 1) := by decide +kernel
theorem dX9_cut_133 : decode cX9_cut 133 = .ok (.getfield 7, 3) := by decide +kernel
theorem dX9_cut_136 : decode cX9_cut 136 = .ok (.bipush 6, 2) := by decide +kernel
theorem dX9_cut_138 : decode cX9_cut 138 = .ok (.aload_n 0, 1) := by decide +kernel
theorem dX9_cut_139 : decode cX9_cut 139 = .ok (.getfield 7, 3) := by decide +kernel
theorem dX9_cut_142 : decode cX9_cut 142 = .ok (.bipush 6, 2) := by decide +kernel
theorem dX9_cut_144 : decode cX9_cut 144 = .ok (.iaload, 1) := by decide +kernel
theorem dX9_cut_145 : decode cX9_cut 145 = .ok (.aload_n 0, 1) := by decide +kernel
theorem dX9_cut_146 : decode cX9_cut 146 = .ok (.getfield 7, 3) := by decide +kernel
theorem dX9_cut_149 : decode cX9_cut 149 = .ok (.iconst 4, 1) := by decide +kernel
theorem dX9_cut_150 : decode cX9_cut 150 = .ok (.iaload, 1) := by decide +kernel
theorem dX9_cut_151 : decode cX9_cut 151 = .ok (.if_icmp .ge 13, 3) := by decide +kernel
theorem dX9_cut_154 : decode cX9_cut 154 = .ok (.aload_n 0, 1) := by decide +kernel
theorem dX9_cut_155 : decode cX9_cut 155 = .ok (.getfield 7, 3) := by decide +kernel
theorem dX9_cut_158 : decode cX9_cut 158 = .ok (.bipush 6, 2) := by decide +kernel
theorem dX9_cut_160 : decode cX9_cut 160 = .ok (.iaload, 1) := by decide +kernel
theorem dX9_cut_161 : decode cX9_cut 161 = .ok (.goto 4, 3) := by decide +kernel
theorem dX9_cut_164 : decode cX9_cut 164 = .ok (.iconst 0, 1) := by decide +kernel
theorem dX9_cut_165 : decode cX9_cut 165 = .ok (.iastore, 1) := by decide +kernel
theorem dX9_cut_166 : decode cX9_cut 166 = .ok (.iload_n 2, 1) := by decide +kernel
theorem dX9_cut_167 : decode cX9_cut 167 = .ok (.ireturn, 1) := by decide +kernel
theorem dX9_turns_0 : decode cX9_turns 0 = .ok (.aload_n 0, 1) := by decide +kernel
theorem dX9_turns_1 : decode cX9_turns 1 = .ok (.getfield 7, 3) := by decide +kernel
theorem dX9_turns_4 : decode cX9_turns 4 = .ok (.iconst 5, 1) := by decide +kernel
theorem dX9_turns_5 : decode cX9_turns 5 = .ok (.iaload, 1) := by decide +kernel
theorem dX9_turns_6 : decode cX9_turns 6 = .ok (.iload_n 1, 1) := by decide +kernel
theorem dX9_turns_7 : decode cX9_turns 7 = .ok (.invokestatic 179, 3) := by decide +kernel
theorem dX9_turns_10 : decode cX9_turns 10 = .ok (.istore_n 2, 1) := by decide +kernel
theorem dX9_turns_11 : decode cX9_turns 11 = .ok (.aload_n 0, 1) := by decide +kernel
theorem dX9_turns_12 : decode cX9_turns 12 = .ok (.getfield 7, 3) := by decide +kernel
theorem dX9_turns_15 : decode cX9_turns 15 = .ok (.iconst 5, 1) := by decide +kernel
theorem dX9_turns_16 : decode cX9_turns 16 = .ok (.iload_n 1, 1) := by decide +kernel
theorem dX9_turns_17 : decode cX9_turns 17 = .ok (.iastore, 1) := by decide +kernel
theorem dX9_turns_18 : decode cX9_turns 18 = .ok (.aload_n 0, 1) := by decide +kernel
theorem dX9_turns_19 : decode cX9_turns 19 = .ok (.getfield 7, 3) := by decide +kernel
theorem dX9_turns_22 : decode cX9_turns 22 = .ok (.bipush 7, 2) := by decide +kernel
theorem dX9_turns_24 : decode cX9_turns 24 = .ok (.dup2, 1) := by decide +kernel
theorem dX9_turns_25 : decode cX9_turns 25 = .ok (.iaload, 1) := by decide +kernel
theorem dX9_turns_26 : decode cX9_turns 26 = .ok (.iload_n 2, 1) := by decide +kernel
theorem dX9_turns_27 : decode cX9_turns 27 = .ok (.iadd, 1) := by decide +kernel
theorem dX9_turns_28 : decode cX9_turns 28 = .ok (.iastore, 1) := by decide +kernel
theorem dX9_turns_29 : decode cX9_turns 29 = .ok (.iload_n 2, 1) := by decide +kernel
theorem dX9_turns_30 : decode cX9_turns 30 = .ok (.ireturn, 1) := by decide +kernel
theorem dX9_turnPage_0 : decode cX9_turnPage 0 = .ok (.aload_n 0, 1) := by decide +kernel
theorem dX9_turnPage_1 : decode cX9_turnPage 1 = .ok (.iload_n 1, 1) := by decide +kernel
theorem dX9_turnPage_2 : decode cX9_turnPage 2 = .ok (.invokevirtual 402, 3) := by decide +kernel
theorem dX9_turnPage_5 : decode cX9_turnPage 5 = .ok (.ifCond .ne 5, 3) := by decide +kernel
theorem dX9_turnPage_8 : decode cX9_turnPage 8 = .ok (.iconst 0, 1) := by decide +kernel
theorem dX9_turnPage_9 : decode cX9_turnPage 9 = .ok (.ireturn, 1) := by decide +kernel
theorem dX9_turnPage_10 : decode cX9_turnPage 10 = .ok (.aload_n 0, 1) := by decide +kernel
theorem dX9_turnPage_11 : decode cX9_turnPage 11 = .ok (.invokevirtual 418, 3) := by decide +kernel
theorem dX9_turnPage_14 : decode cX9_turnPage 14 = .ok (.aload_n 0, 1) := by decide +kernel
theorem dX9_turnPage_15 : decode cX9_turnPage 15 = .ok (.iload_n 1, 1) := by decide +kernel
theorem dX9_turnPage_16 : decode cX9_turnPage 16 = .ok (.invokevirtual 421, 3) := by decide +kernel
theorem dX9_turnPage_19 : decode cX9_turnPage 19 = .ok (.ireturn, 1) := by decide +kernel
theorem dX9_read_0 : decode cX9_read 0 = .ok (.aload_n 0, 1) := by decide +kernel
theorem dX9_read_1 : decode cX9_read 1 = .ok (.iconst 0, 1) := by decide +kernel
theorem dX9_read_2 : decode cX9_read 2 = .ok (.putfield 64, 3) := by decide +kernel
theorem dX9_read_5 : decode cX9_read 5 = .ok (.aload_n 0, 1) := by decide +kernel
theorem dX9_read_6 : decode cX9_read 6 = .ok (.getfield 7, 3) := by decide +kernel
theorem dX9_read_9 : decode cX9_read 9 = .ok (.iconst 4, 1) := by decide +kernel
theorem dX9_read_10 : decode cX9_read 10 = .ok (.iaload, 1) := by decide +kernel
theorem dX9_read_11 : decode cX9_read 11 = .ok (.ifCond .ne 6, 3) := by decide +kernel
theorem dX9_read_14 : decode cX9_read 14 = .ok (.bipush (-3), 2) := by decide +kernel
theorem dX9_read_16 : decode cX9_read 16 = .ok (.ireturn, 1) := by decide +kernel
theorem dX9_read_17 : decode cX9_read 17 = .ok (.aload_n 0, 1) := by decide +kernel
theorem dX9_read_18 : decode cX9_read 18 = .ok (.invokevirtual 418, 3) := by decide +kernel
theorem dX9_read_21 : decode cX9_read 21 = .ok (.aload_n 0, 1) := by decide +kernel
theorem dX9_read_22 : decode cX9_read 22 = .ok (.getfield 7, 3) := by decide +kernel
theorem dX9_read_25 : decode cX9_read 25 = .ok (.sipush 536, 3) := by decide +kernel
theorem dX9_read_28 : decode cX9_read 28 = .ok (.aload_n 0, 1) := by decide +kernel
theorem dX9_read_29 : decode cX9_read 29 = .ok (.getfield 7, 3) := by decide +kernel
theorem dX9_read_32 : decode cX9_read 32 = .ok (.bipush 6, 2) := by decide +kernel
theorem dX9_read_34 : decode cX9_read 34 = .ok (.iaload, 1) := by decide +kernel
theorem dX9_read_35 : decode cX9_read 35 = .ok (.iadd, 1) := by decide +kernel
theorem dX9_read_36 : decode cX9_read 36 = .ok (.iaload, 1) := by decide +kernel
theorem dX9_read_37 : decode cX9_read 37 = .ok (.istore_n 1, 1) := by decide +kernel
theorem dX9_read_38 : decode cX9_read 38 = .ok (.aload_n 0, 1) := by decide +kernel
