theorem dX7_init_0 : decode cX7_init 0 = .ok (.aload_n 0, 1) := by decide +kernel
theorem dX7_init_1 : decode cX7_init 1 = .ok (.invokespecial 3, 3) := by decide +kernel
theorem dX7_init_4 : decode cX7_init 4 = .ok (.aload_n 0, 1) := by decide +kernel
theorem dX7_init_5 : decode cX7_init 5 = .ok (.sipush 144, 3) := by decide +kernel
theorem dX7_init_8 : decode cX7_init 8 = .ok (.newarray .int, 2) := by decide +kernel
theorem dX7_init_10 : decode cX7_init 10 = .ok (.putfield 9, 3) := by decide +kernel
theorem dX7_init_13 : decode cX7_init 13 = .ok (.aload_n 0, 1) := by decide +kernel
theorem dX7_init_14 : decode cX7_init 14 = .ok (.sipush 144, 3) := by decide +kernel
theorem dX7_init_17 : decode cX7_init 17 = .ok (.newarray .int, 2) := by decide +kernel
theorem dX7_init_19 : decode cX7_init 19 = .ok (.putfield 15, 3) := by decide +kernel
theorem dX7_init_22 : decode cX7_init 22 = .ok (.aload_n 0, 1) := by decide +kernel
theorem dX7_init_23 : decode cX7_init 23 = .ok (.sipush 144, 3) := by decide +kernel
theorem dX7_init_26 : decode cX7_init 26 = .ok (.newarray .int, 2) := by decide +kernel
theorem dX7_init_28 : decode cX7_init 28 = .ok (.putfield 18, 3) := by decide +kernel
theorem dX7_init_31 : decode cX7_init 31 = .ok (.return_, 1) := by decide +kernel
theorem dX7_survey_0 : decode cX7_survey 0 = .ok (.aload_n 1, 1) := by decide +kernel
theorem dX7_survey_1 : decode cX7_survey 1 = .ok (.getfield 21, 3) := by decide +kernel
theorem dX7_survey_4 : decode cX7_survey 4 = .ok (.invokevirtual 27, 3) := by decide +kernel
theorem dX7_survey_7 : decode cX7_survey 7 = .ok (.sipush 144, 3) := by decide +kernel
theorem dX7_survey_10 : decode cX7_survey 10 = .ok (.invokestatic 33, 3) := by decide +kernel
theorem dX7_survey_13 : decode cX7_survey 13 = .ok (.istore_n 2, 1) := by decide +kernel
theorem dX7_survey_14 : decode cX7_survey 14 = .ok (.iconst 0, 1) := by decide +kernel
theorem dX7_survey_15 : decode cX7_survey 15 = .ok (.istore_n 3, 1) := by decide +kernel
theorem dX7_survey_16 : decode cX7_survey 16 = .ok (.iload_n 3, 1) := by decide +kernel
theorem dX7_survey_17 : decode cX7_survey 17 = .ok (.iload_n 2, 1) := by decide +kernel
theorem dX7_survey_18 : decode cX7_survey 18 = .ok (.if_icmp .ge 77, 3) := by decide +kernel
theorem dX7_survey_21 : decode cX7_survey 21 = .ok (.aload_n 1, 1) := by decide +kernel
theorem dX7_survey_22 : decode cX7_survey 22 = .ok (.iload_n 3, 1) := by decide +kernel
theorem dX7_survey_23 : decode cX7_survey 23 = .ok (.invokevirtual 39, 3) := by decide +kernel
theorem dX7_survey_26 : decode cX7_survey 26 = .ok (.istore 4, 2) := by decide +kernel
theorem dX7_survey_28 : decode cX7_survey 28 = .ok (.aload_n 0, 1) := by decide +kernel
theorem dX7_survey_29 : decode cX7_survey 29 = .ok (.getfield 9, 3) := by decide +kernel
theorem dX7_survey_32 : decode cX7_survey 32 = .ok (.iload_n 3, 1) := by decide +kernel
theorem dX7_survey_33 : decode cX7_survey 33 = .ok (.iload 4, 2) := by decide +kernel
theorem dX7_survey_35 : decode cX7_survey 35 = .ok (.ifCond .ne 7, 3) := by decide +kernel
theorem dX7_survey_38 : decode cX7_survey 38 = .ok (.iconst 0, 1) := by decide +kernel
theorem dX7_survey_39 : decode cX7_survey 39 = .ok (.goto 17, 3) := by decide +kernel
theorem dX7_survey_42 : decode cX7_survey 42 = .ok (.aload_n 1, 1) := by decide +kernel
theorem dX7_survey_43 : decode cX7_survey 43 = .ok (.iload_n 3, 1) := by decide +kernel
theorem dX7_survey_44 : decode cX7_survey 44 = .ok (.invokevirtual 43, 3) := by decide +kernel
theorem dX7_survey_47 : decode cX7_survey 47 = .ok (.ifCond .eq 8, 3) := by decide +kernel
theorem dX7_survey_50 : decode cX7_survey 50 = .ok (.bipush 11, 2) := by decide +kernel
theorem dX7_survey_52 : decode cX7_survey 52 = .ok (.goto 4, 3) := by decide +kernel
theorem dX7_survey_55 : decode cX7_survey 55 = .ok (.iconst 1, 1) := by decide +kernel
theorem dX7_survey_56 : decode cX7_survey 56 = .ok (.iastore, 1) := by decide +kernel
theorem dX7_survey_57 : decode cX7_survey 57 = .ok (.aload_n 0, 1) := by decide +kernel
theorem dX7_survey_58 : decode cX7_survey 58 = .ok (.getfield 15, 3) := by decide +kernel
theorem dX7_survey_61 : decode cX7_survey 61 = .ok (.iload_n 3, 1) := by decide +kernel
theorem dX7_survey_62 : decode cX7_survey 62 = .ok (.iload 4, 2) := by decide +kernel
theorem dX7_survey_64 : decode cX7_survey 64 = .ok (.ifCond .eq 23, 3) := by decide +kernel
theorem dX7_survey_67 : decode cX7_survey 67 = .ok (.aload_n 1, 1) := by decide +kernel
theorem dX7_survey_68 : decode cX7_survey 68 = .ok (.getfield 21, 3) := by decide +kernel
theorem dX7_survey_71 : decode cX7_survey 71 = .ok (.iload_n 3, 1) := by decide +kernel
theorem dX7_survey_72 : decode cX7_survey 72 = .ok (.invokevirtual 47, 3) := by decide +kernel
theorem dX7_survey_75 : decode cX7_survey 75 = .ok (.ifCond .eq 12, 3) := by decide +kernel
theorem dX7_survey_78 : decode cX7_survey 78 = .ok (.aload_n 0, 1) := by decide +kernel
theorem dX7_survey_79 : decode cX7_survey 79 = .ok (.getfield 9, 3) := by decide +kernel
theorem dX7_survey_82 : decode cX7_survey 82 = .ok (.iload_n 3, 1) := by decide +kernel
theorem dX7_survey_83 : decode cX7_survey 83 = .ok (.iaload, 1) := by decide +kernel
theorem dX7_survey_84 : decode cX7_survey 84 = .ok (.goto 4, 3) := by decide +kernel
theorem dX7_survey_87 : decode cX7_survey 87 = .ok (.iconst (-1), 1) := by decide +kernel
theorem dX7_survey_88 : decode cX7_survey 88 = .ok (.iastore, 1) := by decide +kernel
theorem dX7_survey_89 : decode cX7_survey 89 = .ok (.iinc 3 1, 3) := by decide +kernel
theorem dX7_survey_92 : decode cX7_survey 92 = .ok (.goto (-76), 3) := by decide +kernel
theorem dX7_survey_95 : decode cX7_survey 95 = .ok (.iconst 1, 1) := by decide +kernel
theorem dX7_survey_96 : decode cX7_survey 96 = .ok (.istore_n 3, 1) := by decide +kernel
theorem dX7_survey_97 : decode cX7_survey 97 = .ok (.iconst 0, 1) := by decide +kernel
theorem dX7_survey_98 : decode cX7_survey 98 = .ok (.istore 4, 2) := by decide +kernel
theorem dX7_survey_100 : decode cX7_survey 100 = .ok (.iload 4, 2) := by decide +kernel
theorem dX7_survey_102 : decode cX7_survey 102 = .ok (.iload_n 2, 1) := by decide +kernel
theorem dX7_survey_103 : decode cX7_survey 103 = .ok (.if_icmp .ge 23, 3) := by decide +kernel
theorem dX7_survey_106 : decode cX7_survey 106 = .ok (.iload_n 3, 1) := by decide +kernel
theorem dX7_survey_107 : decode cX7_survey 107 = .ok (.ifCond .eq 19, 3) := by decide +kernel
theorem dX7_survey_110 : decode cX7_survey 110 = .ok (.aload_n 0, 1) := by decide +kernel
theorem dX7_survey_111 : decode cX7_survey 111 = .ok (.aload_n 1, 1) := by decide +kernel
theorem dX7_survey_112 : decode cX7_survey 112 = .ok (.getfield 21, 3) := by decide +kernel
theorem dX7_survey_115 : decode cX7_survey 115 = .ok (.iload_n 2, 1) := by decide +kernel
theorem dX7_survey_116 : decode cX7_survey 116 = .ok (.invokevirtual 50, 3) := by decide +kernel
theorem dX7_survey_119 : decode cX7_survey 119 = .ok (.istore_n 3, 1) := by decide +kernel
theorem dX7_survey_120 : decode cX7_survey 120 = .ok (.iinc 4 1, 3) := by decide +kernel
theorem dX7_survey_123 : decode cX7_survey 123 = .ok (.goto (-23), 3) := by decide +kernel
theorem dX7_survey_126 : decode cX7_survey 126 = .ok (.return_, 1) := by decide +kernel
theorem dX7_improve_0 : decode cX7_improve 0 = .ok (.iconst 0, 1) := by decide +kernel
theorem dX7_improve_1 : decode cX7_improve 1 = .ok (.istore_n 3, 1) := by decide +kernel
theorem dX7_improve_2 : decode cX7_improve 2 = .ok (.iconst 0, 1) := by decide +kernel
theorem dX7_improve_3 : decode cX7_improve 3 = .ok (.istore 4, 2) := by decide +kernel
theorem dX7_improve_5 : decode cX7_improve 5 = .ok (.iload 4, 2) := by decide +kernel
theorem dX7_improve_7 : decode cX7_improve 7 = .ok (.iload_n 2, 1) := by decide +kernel
theorem dX7_improve_8 : decode cX7_improve 8 = .ok (.if_icmp .ge 105, 3) := by decide +kernel
theorem dX7_improve_11 : decode cX7_improve 11 = .ok (.iconst 0, 1) := by decide +kernel
theorem dX7_improve_12 : decode cX7_improve 12 = .ok (.istore 5, 2) := by decide +kernel
theorem dX7_improve_14 : decode cX7_improve 14 = .ok (.iload 5, 2) := by decide +kernel
theorem dX7_improve_16 : decode cX7_improve 16 = .ok (.iconst 4, 1) := by decide +kernel
theorem dX7_improve_17 : decode cX7_improve 17 = .ok (.if_icmp .ge 90, 3) := by decide +kernel
theorem dX7_improve_20 : decode cX7_improve 20 = .ok (.aload_n 0, 1) := by decide +kernel
theorem dX7_improve_21 : decode cX7_improve 21 = .ok (.getfield 9, 3) := by decide +kernel
theorem dX7_improve_24 : decode cX7_improve 24 = .ok (.iload 4, 2) := by decide +kernel
theorem dX7_improve_26 : decode cX7_improve 26 = .ok (.iaload, 1) := by decide +kernel
theorem dX7_improve_27 : decode cX7_improve 27 = .ok (.ifCond .eq 80, 3) := by decide +kernel
theorem dX7_improve_30 : decode cX7_improve 30 = .ok (.aload_n 0, 1) := by decide +kernel
theorem dX7_improve_31 : decode cX7_improve 31 = .ok (.aload_n 1, 1) := by decide +kernel
theorem dX7_improve_32 : decode cX7_improve 32 = .ok (.iload 4, 2) := by decide +kernel
theorem dX7_improve_34 : decode cX7_improve 34 = .ok (.iload 5, 2) := by decide +kernel
theorem dX7_improve_36 : decode cX7_improve 36 = .ok (.iconst 1, 1) := by decide +kernel
theorem dX7_improve_37 : decode cX7_improve 37 = .ok (.invokevirtual 54, 3) := by decide +kernel
theorem dX7_improve_40 : decode cX7_improve 40 = .ok (.invokevirtual 58, 3) := by decide +kernel
theorem dX7_improve_43 : decode cX7_improve 43 = .ok (.istore 6, 2) := by decide +kernel
theorem dX7_improve_45 : decode cX7_improve 45 = .ok (.iload 6, 2) := by decide +kernel
theorem dX7_improve_47 : decode cX7_improve 47 = .ok (.iconst (-1), 1) := by decide +kernel
theorem dX7_improve_48 : decode cX7_improve 48 = .ok (.if_icmp .eq 53, 3) := by decide +kernel
theorem dX7_improve_51 : decode cX7_improve 51 = .ok (.aload_n 0, 1) := by decide +kernel
theorem dX7_improve_52 : decode cX7_improve 52 = .ok (.getfield 15, 3) := by decide +kernel
theorem dX7_improve_55 : decode cX7_improve 55 = .ok (.iload 4, 2) := by decide +kernel
theorem dX7_improve_57 : decode cX7_improve 57 = .ok (.iaload, 1) := by decide +kernel
theorem dX7_improve_58 : decode cX7_improve 58 = .ok (.iconst (-1), 1) := by decide +kernel
theorem dX7_improve_59 : decode cX7_improve 59 = .ok (.if_icmp .eq 23, 3) := by decide +kernel
theorem dX7_improve_62 : decode cX7_improve 62 = .ok (.iload 6, 2) := by decide +kernel
theorem dX7_improve_64 : decode cX7_improve 64 = .ok (.aload_n 0, 1) := by decide +kernel
theorem dX7_improve_65 : decode cX7_improve 65 = .ok (.getfield 9, 3) := by decide +kernel
theorem dX7_improve_68 : decode cX7_improve 68 = .ok (.iload 4, 2) := by decide +kernel
theorem dX7_improve_70 : decode cX7_improve 70 = .ok (.iaload, 1) := by decide +kernel
theorem dX7_improve_71 : decode cX7_improve 71 = .ok (.iadd, 1) := by decide +kernel
theorem dX7_improve_72 : decode cX7_improve 72 = .ok (.aload_n 0, 1) := by decide +kernel
theorem dX7_improve_73 : decode cX7_improve 73 = .ok (.getfield 15, 3) := by decide +kernel
theorem dX7_improve_76 : decode cX7_improve 76 = .ok (.iload 4, 2) := by decide +kernel
theorem dX7_improve_78 : decode cX7_improve 78 = .ok (.iaload, 1) := by decide +kernel
theorem dX7_improve_79 : decode cX7_improve 79 = .ok (.if_icmp .ge 22, 3) := by decide +kernel
theorem dX7_improve_82 : decode cX7_improve 82 = .ok (.aload_n 0, 1) := by decide +kernel
theorem dX7_improve_83 : decode cX7_improve 83 = .ok (.getfield 15, 3) := by decide +kernel
theorem dX7_improve_86 : decode cX7_improve 86 = .ok (.iload 4, 2) := by decide +kernel
theorem dX7_improve_88 : decode cX7_improve 88 = .ok (.iload 6, 2) := by decide +kernel
theorem dX7_improve_90 : decode cX7_improve 90 = .ok (.aload_n 0, 1) := by decide +kernel
theorem dX7_improve_91 : decode cX7_improve 91 = .ok (.getfield 9, 3) := by decide +kernel
theorem dX7_improve_94 : decode cX7_improve 94 = .ok (.iload 4, 2) := by decide +kernel
theorem dX7_improve_96 : decode cX7_improve 96 = .ok (.iaload, 1) := by decide +kernel
theorem dX7_improve_97 : decode cX7_improve 97 = .ok (.iadd, 1) := by decide +kernel
theorem dX7_improve_98 : decode cX7_improve 98 = .ok (.iastore, 1) := by decide +kernel
theorem dX7_improve_99 : decode cX7_improve 99 = .ok (.iconst 1, 1) := by decide +kernel
theorem dX7_improve_100 : decode cX7_improve 100 = .ok (.istore_n 3, 1) := by decide +kernel
theorem dX7_improve_101 : decode cX7_improve 101 = .ok (.iinc 5 1, 3) := by decide +kernel
theorem dX7_improve_104 : decode cX7_improve 104 = .ok (.goto (-90), 3) := by decide +kernel
theorem dX7_improve_107 : decode cX7_improve 107 = .ok (.iinc 4 1, 3) := by decide +kernel
theorem dX7_improve_110 : decode cX7_improve 110 = .ok (.goto (-105), 3) := by decide +kernel
theorem dX7_improve_113 : decode cX7_improve 113 = .ok (.iload_n 3, 1) := by decide +kernel
theorem dX7_improve_114 : decode cX7_improve 114 = .ok (.ireturn, 1) := by decide +kernel
theorem dX7_sumOf_0 : decode cX7_sumOf 0 = .ok (.iload_n 1, 1) := by decide +kernel
theorem dX7_sumOf_1 : decode cX7_sumOf 1 = .ok (.ifCond .lt 19, 3) := by decide +kernel
theorem dX7_sumOf_4 : decode cX7_sumOf 4 = .ok (.iload_n 1, 1) := by decide +kernel
theorem dX7_sumOf_5 : decode cX7_sumOf 5 = .ok (.sipush 144, 3) := by decide +kernel
theorem dX7_sumOf_8 : decode cX7_sumOf 8 = .ok (.if_icmp .ge 12, 3) := by decide +kernel
theorem dX7_sumOf_11 : decode cX7_sumOf 11 = .ok (.aload_n 0, 1) := by decide +kernel
theorem dX7_sumOf_12 : decode cX7_sumOf 12 = .ok (.getfield 15, 3) := by decide +kernel
theorem dX7_sumOf_15 : decode cX7_sumOf 15 = .ok (.iload_n 1, 1) := by decide +kernel
theorem dX7_sumOf_16 : decode cX7_sumOf 16 = .ok (.iaload, 1) := by decide +kernel
theorem dX7_sumOf_17 : decode cX7_sumOf 17 = .ok (.goto 4, 3) := by decide +kernel
theorem dX7_sumOf_20 : decode cX7_sumOf 20 = .ok (.iconst (-1), 1) := by decide +kernel
theorem dX7_sumOf_21 : decode cX7_sumOf 21 = .ok (.ireturn, 1) := by decide +kernel
theorem dX7_trace_0 : decode cX7_trace 0 = .ok (.aload_n 0, 1) := by decide +kernel
theorem dX7_trace_1 : decode cX7_trace 1 = .ok (.iconst 0, 1) := by decide +kernel
theorem dX7_trace_2 : decode cX7_trace 2 = .ok (.putfield 61, 3) := by decide +kernel
theorem dX7_trace_5 : decode cX7_trace 5 = .ok (.iload_n 2, 1) := by decide +kernel
theorem dX7_trace_6 : decode cX7_trace 6 = .ok (.istore_n 3, 1) := by decide +kernel
theorem dX7_trace_7 : decode cX7_trace 7 = .ok (.iconst 0, 1) := by decide +kernel
theorem dX7_trace_8 : decode cX7_trace 8 = .ok (.istore 4, 2) := by decide +kernel
theorem dX7_trace_10 : decode cX7_trace 10 = .ok (.iload 4, 2) := by decide +kernel
theorem dX7_trace_12 : decode cX7_trace 12 = .ok (.sipush 144, 3) := by decide +kernel
theorem dX7_trace_15 : decode cX7_trace 15 = .ok (.if_icmp .ge 68, 3) := by decide +kernel
theorem dX7_trace_18 : decode cX7_trace 18 = .ok (.aload_n 0, 1) := by decide +kernel
theorem dX7_trace_19 : decode cX7_trace 19 = .ok (.iload_n 3, 1) := by decide +kernel
theorem dX7_trace_20 : decode cX7_trace 20 = .ok (.invokevirtual 58, 3) := by decide +kernel
theorem dX7_trace_23 : decode cX7_trace 23 = .ok (.iconst (-1), 1) := by decide +kernel
theorem dX7_trace_24 : decode cX7_trace 24 = .ok (.if_icmp .eq 59, 3) := by decide +kernel
theorem dX7_trace_27 : decode cX7_trace 27 = .ok (.aload_n 0, 1) := by decide +kernel
theorem dX7_trace_28 : decode cX7_trace 28 = .ok (.getfield 18, 3) := by decide +kernel
theorem dX7_trace_31 : decode cX7_trace 31 = .ok (.iload 4, 2) := by decide +kernel
theorem dX7_trace_33 : decode cX7_trace 33 = .ok (.iload_n 3, 1) := by decide +kernel
theorem dX7_trace_34 : decode cX7_trace 34 = .ok (.iastore, 1) := by decide +kernel
theorem dX7_trace_35 : decode cX7_trace 35 = .ok (.aload_n 0, 1) := by decide +kernel
theorem dX7_trace_36 : decode cX7_trace 36 = .ok (.getfield 15, 3) := by decide +kernel
theorem dX7_trace_39 : decode cX7_trace 39 = .ok (.iload_n 3, 1) := by decide +kernel
theorem dX7_trace_40 : decode cX7_trace 40 = .ok (.iaload, 1) := by decide +kernel
theorem dX7_trace_41 : decode cX7_trace 41 = .ok (.aload_n 0, 1) := by decide +kernel
theorem dX7_trace_42 : decode cX7_trace 42 = .ok (.getfield 9, 3) := by decide +kernel
theorem dX7_trace_45 : decode cX7_trace 45 = .ok (.iload_n 3, 1) := by decide +kernel
theorem dX7_trace_46 : decode cX7_trace 46 = .ok (.iaload, 1) := by decide +kernel
theorem dX7_trace_47 : decode cX7_trace 47 = .ok (.isub, 1) := by decide +kernel
theorem dX7_trace_48 : decode cX7_trace 48 = .ok (.istore 5, 2) := by decide +kernel
theorem dX7_trace_50 : decode cX7_trace 50 = .ok (.iload 5, 2) := by decide +kernel
theorem dX7_trace_52 : decode cX7_trace 52 = .ok (.ifCond .ne 16, 3) := by decide +kernel
theorem dX7_trace_55 : decode cX7_trace 55 = .ok (.aload_n 0, 1) := by decide +kernel
theorem dX7_trace_56 : decode cX7_trace 56 = .ok (.iload 4, 2) := by decide +kernel
theorem dX7_trace_58 : decode cX7_trace 58 = .ok (.iconst 1, 1) := by decide +kernel
theorem dX7_trace_59 : decode cX7_trace 59 = .ok (.iadd, 1) := by decide +kernel
theorem dX7_trace_60 : decode cX7_trace 60 = .ok (.putfield 61, 3) := by decide +kernel
theorem dX7_trace_63 : decode cX7_trace 63 = .ok (.aload_n 0, 1) := by decide +kernel
theorem dX7_trace_64 : decode cX7_trace 64 = .ok (.getfield 61, 3) := by decide +kernel
theorem dX7_trace_67 : decode cX7_trace 67 = .ok (.ireturn, 1) := by decide +kernel
theorem dX7_trace_68 : decode cX7_trace 68 = .ok (.aload_n 0, 1) := by decide +kernel
theorem dX7_trace_69 : decode cX7_trace 69 = .ok (.aload_n 1, 1) := by decide +kernel
theorem dX7_trace_70 : decode cX7_trace 70 = .ok (.iload_n 3, 1) := by decide +kernel
theorem dX7_trace_71 : decode cX7_trace 71 = .ok (.iload 5, 2) := by decide +kernel
theorem dX7_trace_73 : decode cX7_trace 73 = .ok (.invokevirtual 65, 3) := by decide +kernel
theorem dX7_trace_76 : decode cX7_trace 76 = .ok (.istore_n 3, 1) := by decide +kernel
theorem dX7_trace_77 : decode cX7_trace 77 = .ok (.iinc 4 1, 3) := by decide +kernel
theorem dX7_trace_80 : decode cX7_trace 80 = .ok (.goto (-70), 3) := by decide +kernel
theorem dX7_trace_83 : decode cX7_trace 83 = .ok (.iconst 0, 1) := by decide +kernel
theorem dX7_trace_84 : decode cX7_trace 84 = .ok (.ireturn, 1) := by decide +kernel
theorem dX7_besideWithSum_0 : decode cX7_besideWithSum 0 = .ok (.iconst 0, 1) := by decide +kernel
theorem dX7_besideWithSum_1 : decode cX7_besideWithSum 1 = .ok (.istore 4, 2) := by decide +kernel
theorem dX7_besideWithSum_3 : decode cX7_besideWithSum 3 = .ok (.iload 4, 2) := by decide +kernel
theorem dX7_besideWithSum_5 : decode cX7_besideWithSum 5 = .ok (.iconst 4, 1) := by decide +kernel
theorem dX7_besideWithSum_6 : decode cX7_besideWithSum 6 = .ok (.if_icmp .ge 32, 3) := by decide +kernel
theorem dX7_besideWithSum_9 : decode cX7_besideWithSum 9 = .ok (.aload_n 1, 1) := by decide +kernel
theorem dX7_besideWithSum_10 : decode cX7_besideWithSum 10 = .ok (.iload_n 2, 1) := by decide +kernel
theorem dX7_besideWithSum_11 : decode cX7_besideWithSum 11 = .ok (.iload 4, 2) := by decide +kernel
theorem dX7_besideWithSum_13 : decode cX7_besideWithSum 13 = .ok (.iconst 1, 1) := by decide +kernel
theorem dX7_besideWithSum_14 : decode cX7_besideWithSum 14 = .ok (.invokevirtual 54, 3) := by decide +kernel
theorem dX7_besideWithSum_17 : decode cX7_besideWithSum 17 = .ok (.istore 5, 2) := by decide +kernel
theorem dX7_besideWithSum_19 : decode cX7_besideWithSum 19 = .ok (.aload_n 0, 1) := by decide +kernel
theorem dX7_besideWithSum_20 : decode cX7_besideWithSum 20 = .ok (.iload 5, 2) := by decide +kernel
theorem dX7_besideWithSum_22 : decode cX7_besideWithSum 22 = .ok (.invokevirtual 58, 3) := by decide +kernel
theorem dX7_besideWithSum_25 : decode cX7_besideWithSum 25 = .ok (.iload_n 3, 1) := by decide +kernel
theorem dX7_besideWithSum_26 : decode cX7_besideWithSum 26 = .ok (.if_icmp .ne 6, 3) := by decide +kernel
theorem dX7_besideWithSum_29 : decode cX7_besideWithSum 29 = .ok (.iload 5, 2) := by decide +kernel
theorem dX7_besideWithSum_31 : decode cX7_besideWithSum 31 = .ok (.ireturn, 1) := by decide +kernel
theorem dX7_besideWithSum_32 : decode cX7_besideWithSum 32 = .ok (.iinc 4 1, 3) := by decide +kernel
theorem dX7_besideWithSum_35 : decode cX7_besideWithSum 35 = .ok (.goto (-32), 3) := by decide +kernel
theorem dX7_besideWithSum_38 : decode cX7_besideWithSum 38 = .ok (.iconst (-1), 1) := by decide +kernel
theorem dX7_besideWithSum_39 : decode cX7_besideWithSum 39 = .ok (.ireturn, 1) := by decide +kernel
theorem dX7_wayAt_0 : decode cX7_wayAt 0 = .ok (.iload_n 1, 1) := by decide +kernel
theorem dX7_wayAt_1 : decode cX7_wayAt 1 = .ok (.ifCond .lt 27, 3) := by decide +kernel
theorem dX7_wayAt_4 : decode cX7_wayAt 4 = .ok (.iload_n 1, 1) := by decide +kernel
theorem dX7_wayAt_5 : decode cX7_wayAt 5 = .ok (.aload_n 0, 1) := by decide +kernel
theorem dX7_wayAt_6 : decode cX7_wayAt 6 = .ok (.getfield 61, 3) := by decide +kernel
theorem dX7_wayAt_9 : decode cX7_wayAt 9 = .ok (.if_icmp .ge 19, 3) := by decide +kernel
theorem dX7_wayAt_12 : decode cX7_wayAt 12 = .ok (.iload_n 1, 1) := by decide +kernel
theorem dX7_wayAt_13 : decode cX7_wayAt 13 = .ok (.sipush 144, 3) := by decide +kernel
theorem dX7_wayAt_16 : decode cX7_wayAt 16 = .ok (.if_icmp .ge 12, 3) := by decide +kernel
theorem dX7_wayAt_19 : decode cX7_wayAt 19 = .ok (.aload_n 0, 1) := by decide +kernel
theorem dX7_wayAt_20 : decode cX7_wayAt 20 = .ok (.getfield 18, 3) := by decide +kernel
theorem dX7_wayAt_23 : decode cX7_wayAt 23 = .ok (.iload_n 1, 1) := by decide +kernel
theorem dX7_wayAt_24 : decode cX7_wayAt 24 = .ok (.iaload, 1) := by decide +kernel
theorem dX7_wayAt_25 : decode cX7_wayAt 25 = .ok (.goto 4, 3) := by decide +kernel
theorem dX7_wayAt_28 : decode cX7_wayAt 28 = .ok (.iconst (-1), 1) := by decide +kernel
theorem dX7_wayAt_29 : decode cX7_wayAt 29 = .ok (.ireturn, 1) := by decide +kernel
theorem dX7_namesOnWay_0 : decode cX7_namesOnWay 0 = .ok (.iconst 0, 1) := by decide +kernel
theorem dX7_namesOnWay_1 : decode cX7_namesOnWay 1 = .ok (.istore_n 2, 1) := by decide +kernel
theorem dX7_namesOnWay_2 : decode cX7_namesOnWay 2 = .ok (.iconst 0, 1) := by decide +kernel
theorem dX7_namesOnWay_3 : decode cX7_namesOnWay 3 = .ok (.istore_n 3, 1) := by decide +kernel
theorem dX7_namesOnWay_4 : decode cX7_namesOnWay 4 = .ok (.iload_n 3, 1) := by decide +kernel
theorem dX7_namesOnWay_5 : decode cX7_namesOnWay 5 = .ok (.aload_n 0, 1) := by decide +kernel
theorem dX7_namesOnWay_6 : decode cX7_namesOnWay 6 = .ok (.getfield 61, 3) := by decide +kernel
theorem dX7_namesOnWay_9 : decode cX7_namesOnWay 9 = .ok (.if_icmp .ge 21, 3) := by decide +kernel
theorem dX7_namesOnWay_12 : decode cX7_namesOnWay 12 = .ok (.iload_n 2, 1) := by decide +kernel
theorem dX7_namesOnWay_13 : decode cX7_namesOnWay 13 = .ok (.aload_n 1, 1) := by decide +kernel
theorem dX7_namesOnWay_14 : decode cX7_namesOnWay 14 = .ok (.aload_n 0, 1) := by decide +kernel
theorem dX7_namesOnWay_15 : decode cX7_namesOnWay 15 = .ok (.iload_n 3, 1) := by decide +kernel
theorem dX7_namesOnWay_16 : decode cX7_namesOnWay 16 = .ok (.invokevirtual 69, 3) := by decide +kernel
theorem dX7_namesOnWay_19 : decode cX7_namesOnWay 19 = .ok (.invokevirtual 43, 3) := by decide +kernel
theorem dX7_namesOnWay_22 : decode cX7_namesOnWay 22 = .ok (.ior, 1) := by decide +kernel
theorem dX7_namesOnWay_23 : decode cX7_namesOnWay 23 = .ok (.istore_n 2, 1) := by decide +kernel
theorem dX7_namesOnWay_24 : decode cX7_namesOnWay 24 = .ok (.iinc 3 1, 3) := by decide +kernel
theorem dX7_namesOnWay_27 : decode cX7_namesOnWay 27 = .ok (.goto (-23), 3) := by decide +kernel
theorem dX7_namesOnWay_30 : decode cX7_namesOnWay 30 = .ok (.iload_n 2, 1) := by decide +kernel
theorem dX7_namesOnWay_31 : decode cX7_namesOnWay 31 = .ok (.ireturn, 1) := by decide +kernel
