theorem dX9_read_39 : decode cX9_read 39 = .ok (.iload_n 1, 1) := by decide +kernel
theorem dX9_read_40 : decode cX9_read 40 = .ok (.invokevirtual 103, 3) := by decide +kernel
theorem dX9_read_43 : decode cX9_read 43 = .ok (.ifCond .eq 17, 3) := by decide +kernel
theorem dX9_read_46 : decode cX9_read 46 = .ok (.aload_n 0, 1) := by decide +kernel
theorem dX9_read_47 : decode cX9_read 47 = .ok (.aload_n 0, 1) := by decide +kernel
theorem dX9_read_48 : decode cX9_read 48 = .ok (.iload_n 1, 1) := by decide +kernel
theorem dX9_read_49 : decode cX9_read 49 = .ok (.iconst 2, 1) := by decide +kernel
theorem dX9_read_50 : decode cX9_read 50 = .ok (.invokevirtual 100, 3) := by decide +kernel
theorem dX9_read_53 : decode cX9_read 53 = .ok (.invokestatic 176, 3) := by decide +kernel
theorem dX9_read_56 : decode cX9_read 56 = .ok (.invokevirtual 421, 3) := by decide +kernel
theorem dX9_read_59 : decode cX9_read 59 = .ok (.istore_n 2, 1) := by decide +kernel
theorem dX9_read_60 : decode cX9_read 60 = .ok (.aload_n 0, 1) := by decide +kernel
theorem dX9_read_61 : decode cX9_read 61 = .ok (.getfield 7, 3) := by decide +kernel
theorem dX9_read_64 : decode cX9_read 64 = .ok (.bipush 6, 2) := by decide +kernel
theorem dX9_read_66 : decode cX9_read 66 = .ok (.aload_n 0, 1) := by decide +kernel
theorem dX9_read_67 : decode cX9_read 67 = .ok (.getfield 7, 3) := by decide +kernel
theorem dX9_read_70 : decode cX9_read 70 = .ok (.bipush 6, 2) := by decide +kernel
theorem dX9_read_72 : decode cX9_read 72 = .ok (.iaload, 1) := by decide +kernel
theorem dX9_read_73 : decode cX9_read 73 = .ok (.iconst 1, 1) := by decide +kernel
theorem dX9_read_74 : decode cX9_read 74 = .ok (.iadd, 1) := by decide +kernel
theorem dX9_read_75 : decode cX9_read 75 = .ok (.aload_n 0, 1) := by decide +kernel
theorem dX9_read_76 : decode cX9_read 76 = .ok (.getfield 7, 3) := by decide +kernel
theorem dX9_read_79 : decode cX9_read 79 = .ok (.iconst 4, 1) := by decide +kernel
theorem dX9_read_80 : decode cX9_read 80 = .ok (.iaload, 1) := by decide +kernel
theorem dX9_read_81 : decode cX9_read 81 = .ok (.irem, 1) := by decide +kernel
theorem dX9_read_82 : decode cX9_read 82 = .ok (.iastore, 1) := by decide +kernel
theorem dX9_read_83 : decode cX9_read 83 = .ok (.iload_n 1, 1) := by decide +kernel
theorem dX9_read_84 : decode cX9_read 84 = .ok (.ireturn, 1) := by decide +kernel
theorem dX9_meanTurn_0 : decode cX9_meanTurn 0 = .ok (.aload_n 0, 1) := by decide +kernel
theorem dX9_meanTurn_1 : decode cX9_meanTurn 1 = .ok (.iconst 0, 1) := by decide +kernel
theorem dX9_meanTurn_2 : decode cX9_meanTurn 2 = .ok (.putfield 64, 3) := by decide +kernel
theorem dX9_meanTurn_5 : decode cX9_meanTurn 5 = .ok (.iconst 0, 1) := by decide +kernel
theorem dX9_meanTurn_6 : decode cX9_meanTurn 6 = .ok (.istore_n 1, 1) := by decide +kernel
theorem dX9_meanTurn_7 : decode cX9_meanTurn 7 = .ok (.iconst 0, 1) := by decide +kernel
theorem dX9_meanTurn_8 : decode cX9_meanTurn 8 = .ok (.istore_n 2, 1) := by decide +kernel
theorem dX9_meanTurn_9 : decode cX9_meanTurn 9 = .ok (.iload_n 2, 1) := by decide +kernel
theorem dX9_meanTurn_10 : decode cX9_meanTurn 10 = .ok (.aload_n 0, 1) := by decide +kernel
theorem dX9_meanTurn_11 : decode cX9_meanTurn 11 = .ok (.getfield 7, 3) := by decide +kernel
theorem dX9_meanTurn_14 : decode cX9_meanTurn 14 = .ok (.iconst 4, 1) := by decide +kernel
theorem dX9_meanTurn_15 : decode cX9_meanTurn 15 = .ok (.iaload, 1) := by decide +kernel
theorem dX9_meanTurn_16 : decode cX9_meanTurn 16 = .ok (.if_icmp .ge 34, 3) := by decide +kernel
theorem dX9_meanTurn_19 : decode cX9_meanTurn 19 = .ok (.iload_n 1, 1) := by decide +kernel
theorem dX9_meanTurn_20 : decode cX9_meanTurn 20 = .ok (.aload_n 0, 1) := by decide +kernel
theorem dX9_meanTurn_21 : decode cX9_meanTurn 21 = .ok (.aload_n 0, 1) := by decide +kernel
theorem dX9_meanTurn_22 : decode cX9_meanTurn 22 = .ok (.getfield 7, 3) := by decide +kernel
theorem dX9_meanTurn_25 : decode cX9_meanTurn 25 = .ok (.sipush 536, 3) := by decide +kernel
theorem dX9_meanTurn_28 : decode cX9_meanTurn 28 = .ok (.iload_n 2, 1) := by decide +kernel
theorem dX9_meanTurn_29 : decode cX9_meanTurn 29 = .ok (.iadd, 1) := by decide +kernel
theorem dX9_meanTurn_30 : decode cX9_meanTurn 30 = .ok (.iaload, 1) := by decide +kernel
theorem dX9_meanTurn_31 : decode cX9_meanTurn 31 = .ok (.invokevirtual 103, 3) := by decide +kernel
theorem dX9_meanTurn_34 : decode cX9_meanTurn 34 = .ok (.ifCond .eq 7, 3) := by decide +kernel
theorem dX9_meanTurn_37 : decode cX9_meanTurn 37 = .ok (.iconst 1, 1) := by decide +kernel
theorem dX9_meanTurn_38 : decode cX9_meanTurn 38 = .ok (.goto 4, 3) := by decide +kernel
theorem dX9_meanTurn_41 : decode cX9_meanTurn 41 = .ok (.iconst 0, 1) := by decide +kernel
theorem dX9_meanTurn_42 : decode cX9_meanTurn 42 = .ok (.iadd, 1) := by decide +kernel
theorem dX9_meanTurn_43 : decode cX9_meanTurn 43 = .ok (.istore_n 1, 1) := by decide +kernel
theorem dX9_meanTurn_44 : decode cX9_meanTurn 44 = .ok (.iinc 2 1, 3) := by decide +kernel
theorem dX9_meanTurn_47 : decode cX9_meanTurn 47 = .ok (.goto (-38), 3) := by decide +kernel
theorem dX9_meanTurn_50 : decode cX9_meanTurn 50 = .ok (.iload_n 1, 1) := by decide +kernel
theorem dX9_meanTurn_51 : decode cX9_meanTurn 51 = .ok (.ifCond .ne 7, 3) := by decide +kernel
theorem dX9_meanTurn_54 : decode cX9_meanTurn 54 = .ok (.dconst 0, 1) := by decide +kernel
theorem dX9_meanTurn_55 : decode cX9_meanTurn 55 = .ok (.goto 17, 3) := by decide +kernel
theorem dX9_meanTurn_58 : decode cX9_meanTurn 58 = .ok (.aload_n 0, 1) := by decide +kernel
theorem dX9_meanTurn_59 : decode cX9_meanTurn 59 = .ok (.aload_n 0, 1) := by decide +kernel
theorem dX9_meanTurn_60 : decode cX9_meanTurn 60 = .ok (.getfield 7, 3) := by decide +kernel
theorem dX9_meanTurn_63 : decode cX9_meanTurn 63 = .ok (.iconst 5, 1) := by decide +kernel
theorem dX9_meanTurn_64 : decode cX9_meanTurn 64 = .ok (.iaload, 1) := by decide +kernel
theorem dX9_meanTurn_65 : decode cX9_meanTurn 65 = .ok (.invokevirtual 405, 3) := by decide +kernel
theorem dX9_meanTurn_68 : decode cX9_meanTurn 68 = .ok (.i2d, 1) := by decide +kernel
theorem dX9_meanTurn_69 : decode cX9_meanTurn 69 = .ok (.iload_n 1, 1) := by decide +kernel
theorem dX9_meanTurn_70 : decode cX9_meanTurn 70 = .ok (.i2d, 1) := by decide +kernel
theorem dX9_meanTurn_71 : decode cX9_meanTurn 71 = .ok (.ddiv, 1) := by decide +kernel
theorem dX9_meanTurn_72 : decode cX9_meanTurn 72 = .ok (.dreturn, 1) := by decide +kernel
theorem dX9_cover_0 : decode cX9_cover 0 = .ok (.aload_n 0, 1) := by decide +kernel
theorem dX9_cover_1 : decode cX9_cover 1 = .ok (.iconst 0, 1) := by decide +kernel
theorem dX9_cover_2 : decode cX9_cover 2 = .ok (.putfield 64, 3) := by decide +kernel
theorem dX9_cover_5 : decode cX9_cover 5 = .ok (.iconst 0, 1) := by decide +kernel
theorem dX9_cover_6 : decode cX9_cover 6 = .ok (.istore_n 1, 1) := by decide +kernel
theorem dX9_cover_7 : decode cX9_cover 7 = .ok (.iconst 0, 1) := by decide +kernel
theorem dX9_cover_8 : decode cX9_cover 8 = .ok (.istore_n 2, 1) := by decide +kernel
theorem dX9_cover_9 : decode cX9_cover 9 = .ok (.iload_n 2, 1) := by decide +kernel
theorem dX9_cover_10 : decode cX9_cover 10 = .ok (.aload_n 0, 1) := by decide +kernel
theorem dX9_cover_11 : decode cX9_cover 11 = .ok (.invokevirtual 74, 3) := by decide +kernel
theorem dX9_cover_14 : decode cX9_cover 14 = .ok (.if_icmp .ge 25, 3) := by decide +kernel
theorem dX9_cover_17 : decode cX9_cover 17 = .ok (.iload_n 1, 1) := by decide +kernel
theorem dX9_cover_18 : decode cX9_cover 18 = .ok (.aload_n 0, 1) := by decide +kernel
theorem dX9_cover_19 : decode cX9_cover 19 = .ok (.iload_n 2, 1) := by decide +kernel
theorem dX9_cover_20 : decode cX9_cover 20 = .ok (.invokevirtual 145, 3) := by decide +kernel
theorem dX9_cover_23 : decode cX9_cover 23 = .ok (.ifCond .ne 7, 3) := by decide +kernel
theorem dX9_cover_26 : decode cX9_cover 26 = .ok (.iconst 0, 1) := by decide +kernel
theorem dX9_cover_27 : decode cX9_cover 27 = .ok (.goto 4, 3) := by decide +kernel
theorem dX9_cover_30 : decode cX9_cover 30 = .ok (.iconst 1, 1) := by decide +kernel
theorem dX9_cover_31 : decode cX9_cover 31 = .ok (.iadd, 1) := by decide +kernel
theorem dX9_cover_32 : decode cX9_cover 32 = .ok (.istore_n 1, 1) := by decide +kernel
theorem dX9_cover_33 : decode cX9_cover 33 = .ok (.iinc 2 1, 3) := by decide +kernel
theorem dX9_cover_36 : decode cX9_cover 36 = .ok (.goto (-27), 3) := by decide +kernel
theorem dX9_cover_39 : decode cX9_cover 39 = .ok (.aload_n 0, 1) := by decide +kernel
theorem dX9_cover_40 : decode cX9_cover 40 = .ok (.invokevirtual 359, 3) := by decide +kernel
theorem dX9_cover_43 : decode cX9_cover 43 = .ok (.istore_n 2, 1) := by decide +kernel
theorem dX9_cover_44 : decode cX9_cover 44 = .ok (.iload_n 2, 1) := by decide +kernel
theorem dX9_cover_45 : decode cX9_cover 45 = .ok (.ifCond .ne 7, 3) := by decide +kernel
theorem dX9_cover_48 : decode cX9_cover 48 = .ok (.fconst 0, 1) := by decide +kernel
theorem dX9_cover_49 : decode cX9_cover 49 = .ok (.goto 8, 3) := by decide +kernel
theorem dX9_cover_52 : decode cX9_cover 52 = .ok (.iload_n 1, 1) := by decide +kernel
theorem dX9_cover_53 : decode cX9_cover 53 = .ok (.i2f, 1) := by decide +kernel
theorem dX9_cover_54 : decode cX9_cover 54 = .ok (.iload_n 2, 1) := by decide +kernel
theorem dX9_cover_55 : decode cX9_cover 55 = .ok (.i2f, 1) := by decide +kernel
theorem dX9_cover_56 : decode cX9_cover 56 = .ok (.fdiv, 1) := by decide +kernel
theorem dX9_cover_57 : decode cX9_cover 57 = .ok (.freturn, 1) := by decide +kernel
theorem dX9_isRedIn_0 : decode cX9_isRedIn 0 = .ok (.iconst 0, 1) := by decide +kernel
theorem dX9_isRedIn_1 : decode cX9_isRedIn 1 = .ok (.istore_n 2, 1) := by decide +kernel
theorem dX9_isRedIn_2 : decode cX9_isRedIn 2 = .ok (.iconst 0, 1) := by decide +kernel
theorem dX9_isRedIn_3 : decode cX9_isRedIn 3 = .ok (.istore_n 3, 1) := by decide +kernel
theorem dX9_isRedIn_4 : decode cX9_isRedIn 4 = .ok (.iload_n 3, 1) := by decide +kernel
theorem dX9_isRedIn_5 : decode cX9_isRedIn 5 = .ok (.aload_n 0, 1) := by decide +kernel
theorem dX9_isRedIn_6 : decode cX9_isRedIn 6 = .ok (.getfield 7, 3) := by decide +kernel
theorem dX9_isRedIn_9 : decode cX9_isRedIn 9 = .ok (.iconst 2, 1) := by decide +kernel
theorem dX9_isRedIn_10 : decode cX9_isRedIn 10 = .ok (.iaload, 1) := by decide +kernel
theorem dX9_isRedIn_11 : decode cX9_isRedIn 11 = .ok (.if_icmp .ge 37, 3) := by decide +kernel
theorem dX9_isRedIn_14 : decode cX9_isRedIn 14 = .ok (.iload_n 2, 1) := by decide +kernel
theorem dX9_isRedIn_15 : decode cX9_isRedIn 15 = .ok (.ifCond .ne 21, 3) := by decide +kernel
theorem dX9_isRedIn_18 : decode cX9_isRedIn 18 = .ok (.aload_n 0, 1) := by decide +kernel
theorem dX9_isRedIn_19 : decode cX9_isRedIn 19 = .ok (.iload_n 3, 1) := by decide +kernel
theorem dX9_isRedIn_20 : decode cX9_isRedIn 20 = .ok (.invokevirtual 124, 3) := by decide +kernel
theorem dX9_isRedIn_23 : decode cX9_isRedIn 23 = .ok (.ifCond .eq 17, 3) := by decide +kernel
theorem dX9_isRedIn_26 : decode cX9_isRedIn 26 = .ok (.aload_n 0, 1) := by decide +kernel
theorem dX9_isRedIn_27 : decode cX9_isRedIn 27 = .ok (.iload_n 3, 1) := by decide +kernel
theorem dX9_isRedIn_28 : decode cX9_isRedIn 28 = .ok (.iload_n 1, 1) := by decide +kernel
theorem dX9_isRedIn_29 : decode cX9_isRedIn 29 = .ok (.invokevirtual 109, 3) := by decide +kernel
theorem dX9_isRedIn_32 : decode cX9_isRedIn 32 = .ok (.iconst (-1), 1) := by decide +kernel
theorem dX9_isRedIn_33 : decode cX9_isRedIn 33 = .ok (.if_icmp .eq 7, 3) := by decide +kernel
theorem dX9_isRedIn_36 : decode cX9_isRedIn 36 = .ok (.iconst 1, 1) := by decide +kernel
theorem dX9_isRedIn_37 : decode cX9_isRedIn 37 = .ok (.goto 4, 3) := by decide +kernel
theorem dX9_isRedIn_40 : decode cX9_isRedIn 40 = .ok (.iconst 0, 1) := by decide +kernel
theorem dX9_isRedIn_41 : decode cX9_isRedIn 41 = .ok (.istore_n 2, 1) := by decide +kernel
theorem dX9_isRedIn_42 : decode cX9_isRedIn 42 = .ok (.iinc 3 1, 3) := by decide +kernel
theorem dX9_isRedIn_45 : decode cX9_isRedIn 45 = .ok (.goto (-41), 3) := by decide +kernel
theorem dX9_isRedIn_48 : decode cX9_isRedIn 48 = .ok (.iload_n 2, 1) := by decide +kernel
theorem dX9_isRedIn_49 : decode cX9_isRedIn 49 = .ok (.ireturn, 1) := by decide +kernel
theorem dX9_signOf_0 : decode cX9_signOf 0 = .ok (.aload_n 0, 1) := by decide +kernel
theorem dX9_signOf_1 : decode cX9_signOf 1 = .ok (.iload_n 1, 1) := by decide +kernel
theorem dX9_signOf_2 : decode cX9_signOf 2 = .ok (.invokevirtual 82, 3) := by decide +kernel
theorem dX9_signOf_5 : decode cX9_signOf 5 = .ok (.ifCond .ne 6, 3) := by decide +kernel
theorem dX9_signOf_8 : decode cX9_signOf 8 = .ok (.bipush 126, 2) := by decide +kernel
theorem dX9_signOf_10 : decode cX9_signOf 10 = .ok (.ireturn, 1) := by decide +kernel
theorem dX9_signOf_11 : decode cX9_signOf 11 = .ok (.aload_n 0, 1) := by decide +kernel
theorem dX9_signOf_12 : decode cX9_signOf 12 = .ok (.iload_n 1, 1) := by decide +kernel
theorem dX9_signOf_13 : decode cX9_signOf 13 = .ok (.iconst (-1), 1) := by decide +kernel
theorem dX9_signOf_14 : decode cX9_signOf 14 = .ok (.invokevirtual 118, 3) := by decide +kernel
theorem dX9_signOf_17 : decode cX9_signOf 17 = .ok (.iconst (-1), 1) := by decide +kernel
theorem dX9_signOf_18 : decode cX9_signOf 18 = .ok (.if_icmp .eq 6, 3) := by decide +kernel
theorem dX9_signOf_21 : decode cX9_signOf 21 = .ok (.bipush 64, 2) := by decide +kernel
theorem dX9_signOf_23 : decode cX9_signOf 23 = .ok (.ireturn, 1) := by decide +kernel
theorem dX9_signOf_24 : decode cX9_signOf 24 = .ok (.aload_n 0, 1) := by decide +kernel
theorem dX9_signOf_25 : decode cX9_signOf 25 = .ok (.iload_n 1, 1) := by decide +kernel
theorem dX9_signOf_26 : decode cX9_signOf 26 = .ok (.invokevirtual 374, 3) := by decide +kernel
theorem dX9_signOf_29 : decode cX9_signOf 29 = .ok (.istore_n 2, 1) := by decide +kernel
theorem dX9_signOf_30 : decode cX9_signOf 30 = .ok (.iload_n 2, 1) := by decide +kernel
theorem dX9_signOf_31 : decode cX9_signOf 31 = .ok (.iconst (-1), 1) := by decide +kernel
theorem dX9_signOf_32 : decode cX9_signOf 32 = .ok (.if_icmp .eq 20, 3) := by decide +kernel
theorem dX9_signOf_35 : decode cX9_signOf 35 = .ok (.aload_n 0, 1) := by decide +kernel
theorem dX9_signOf_36 : decode cX9_signOf 36 = .ok (.iload_n 1, 1) := by decide +kernel
theorem dX9_signOf_37 : decode cX9_signOf 37 = .ok (.invokevirtual 424, 3) := by decide +kernel
theorem dX9_signOf_40 : decode cX9_signOf 40 = .ok (.ifCond .eq 10, 3) := by decide +kernel
theorem dX9_signOf_43 : decode cX9_signOf 43 = .ok (.iload_n 2, 1) := by decide +kernel
theorem dX9_signOf_44 : decode cX9_signOf 44 = .ok (.bipush 32, 2) := by decide +kernel
theorem dX9_signOf_46 : decode cX9_signOf 46 = .ok (.isub, 1) := by decide +kernel
theorem dX9_signOf_47 : decode cX9_signOf 47 = .ok (.goto 4, 3) := by decide +kernel
theorem dX9_signOf_50 : decode cX9_signOf 50 = .ok (.iload_n 2, 1) := by decide +kernel
theorem dX9_signOf_51 : decode cX9_signOf 51 = .ok (.ireturn, 1) := by decide +kernel
theorem dX9_signOf_52 : decode cX9_signOf 52 = .ok (.aload_n 0, 1) := by decide +kernel
theorem dX9_signOf_53 : decode cX9_signOf 53 = .ok (.iload_n 1, 1) := by decide +kernel
theorem dX9_signOf_54 : decode cX9_signOf 54 = .ok (.invokevirtual 115, 3) := by decide +kernel
theorem dX9_signOf_57 : decode cX9_signOf 57 = .ok (.ifCond .eq 8, 3) := by decide +kernel
theorem dX9_signOf_60 : decode cX9_signOf 60 = .ok (.bipush 61, 2) := by decide +kernel
theorem dX9_signOf_62 : decode cX9_signOf 62 = .ok (.goto 5, 3) := by decide +kernel
theorem dX9_signOf_65 : decode cX9_signOf 65 = .ok (.bipush 46, 2) := by decide +kernel
theorem dX9_signOf_67 : decode cX9_signOf 67 = .ok (.ireturn, 1) := by decide +kernel
theorem dX9_writeRow_0 : decode cX9_writeRow 0 = .ok (.aload_n 0, 1) := by decide +kernel
theorem dX9_writeRow_1 : decode cX9_writeRow 1 = .ok (.iload_n 1, 1) := by decide +kernel
theorem dX9_writeRow_2 : decode cX9_writeRow 2 = .ok (.i2l, 1) := by decide +kernel
theorem dX9_writeRow_3 : decode cX9_writeRow 3 = .ok (.lconst 0, 1) := by decide +kernel
theorem dX9_writeRow_4 : decode cX9_writeRow 4 = .ok (.aload_n 0, 1) := by decide +kernel
theorem dX9_writeRow_5 : decode cX9_writeRow 5 = .ok (.getfield 7, 3) := by decide +kernel
theorem dX9_writeRow_8 : decode cX9_writeRow 8 = .ok (.iconst 0, 1) := by decide +kernel
theorem dX9_writeRow_9 : decode cX9_writeRow 9 = .ok (.iaload, 1) := by decide +kernel
theorem dX9_writeRow_10 : decode cX9_writeRow 10 = .ok (.iconst 1, 1) := by decide +kernel
theorem dX9_writeRow_11 : decode cX9_writeRow 11 = .ok (.isub, 1) := by decide +kernel
theorem dX9_writeRow_12 : decode cX9_writeRow 12 = .ok (.i2l, 1) := by decide +kernel
theorem dX9_writeRow_13 : decode cX9_writeRow 13 = .ok (.invokestatic 78, 3) := by decide +kernel
theorem dX9_writeRow_16 : decode cX9_writeRow 16 = .ok (.iconst 1, 1) := by decide +kernel
theorem dX9_writeRow_17 : decode cX9_writeRow 17 = .ok (.invokevirtual 355, 3) := by decide +kernel
theorem dX9_writeRow_20 : decode cX9_writeRow 20 = .ok (.ifCond .ne 5, 3) := by decide +kernel
theorem dX9_writeRow_23 : decode cX9_writeRow 23 = .ok (.iconst 0, 1) := by decide +kernel
theorem dX9_writeRow_24 : decode cX9_writeRow 24 = .ok (.ireturn, 1) := by decide +kernel
theorem dX9_writeRow_25 : decode cX9_writeRow 25 = .ok (.aload_n 0, 1) := by decide +kernel
theorem dX9_writeRow_26 : decode cX9_writeRow 26 = .ok (.iconst 0, 1) := by decide +kernel
theorem dX9_writeRow_27 : decode cX9_writeRow 27 = .ok (.putfield 427, 3) := by decide +kernel
theorem dX9_writeRow_30 : decode cX9_writeRow 30 = .ok (.iconst 0, 1) := by decide +kernel
theorem dX9_writeRow_31 : decode cX9_writeRow 31 = .ok (.istore_n 2, 1) := by decide +kernel
theorem dX9_writeRow_32 : decode cX9_writeRow 32 = .ok (.iload_n 2, 1) := by decide +kernel
theorem dX9_writeRow_33 : decode cX9_writeRow 33 = .ok (.aload_n 0, 1) := by decide +kernel
theorem dX9_writeRow_34 : decode cX9_writeRow 34 = .ok (.getfield 7, 3) := by decide +kernel
theorem dX9_writeRow_37 : decode cX9_writeRow 37 = .ok (.iconst 1, 1) := by decide +kernel
theorem dX9_writeRow_38 : decode cX9_writeRow 38 = .ok (.iaload, 1) := by decide +kernel
theorem dX9_writeRow_39 : decode cX9_writeRow 39 = .ok (.if_icmp .ge 42, 3) := by decide +kernel
theorem dX9_writeRow_42 : decode cX9_writeRow 42 = .ok (.aload_n 0, 1) := by decide +kernel
theorem dX9_writeRow_43 : decode cX9_writeRow 43 = .ok (.getfield 57, 3) := by decide +kernel
theorem dX9_writeRow_46 : decode cX9_writeRow 46 = .ok (.aload_n 0, 1) := by decide +kernel
theorem dX9_writeRow_47 : decode cX9_writeRow 47 = .ok (.getfield 427, 3) := by decide +kernel
theorem dX9_writeRow_50 : decode cX9_writeRow 50 = .ok (.aload_n 0, 1) := by decide +kernel
theorem dX9_writeRow_51 : decode cX9_writeRow 51 = .ok (.aload_n 0, 1) := by decide +kernel
theorem dX9_writeRow_52 : decode cX9_writeRow 52 = .ok (.getfield 7, 3) := by decide +kernel
theorem dX9_writeRow_55 : decode cX9_writeRow 55 = .ok (.iconst 1, 1) := by decide +kernel
theorem dX9_writeRow_56 : decode cX9_writeRow 56 = .ok (.iaload, 1) := by decide +kernel
theorem dX9_writeRow_57 : decode cX9_writeRow 57 = .ok (.iload_n 1, 1) := by decide +kernel
theorem dX9_writeRow_58 : decode cX9_writeRow 58 = .ok (.imul, 1) := by decide +kernel
theorem dX9_writeRow_59 : decode cX9_writeRow 59 = .ok (.iload_n 2, 1) := by decide +kernel
theorem dX9_writeRow_60 : decode cX9_writeRow 60 = .ok (.iadd, 1) := by decide +kernel
theorem dX9_writeRow_61 : decode cX9_writeRow 61 = .ok (.invokevirtual 430, 3) := by decide +kernel
theorem dX9_writeRow_64 : decode cX9_writeRow 64 = .ok (.iastore, 1) := by decide +kernel
theorem dX9_writeRow_65 : decode cX9_writeRow 65 = .ok (.aload_n 0, 1) := by decide +kernel
theorem dX9_writeRow_66 : decode cX9_writeRow 66 = .ok (.dup, 1) := by decide +kernel
theorem dX9_writeRow_67 : decode cX9_writeRow 67 = .ok (.getfield 427, 3) := by decide +kernel
theorem dX9_writeRow_70 : decode cX9_writeRow 70 = .ok (.iconst 1, 1) := by decide +kernel
theorem dX9_writeRow_71 : decode cX9_writeRow 71 = .ok (.iadd, 1) := by decide +kernel
theorem dX9_writeRow_72 : decode cX9_writeRow 72 = .ok (.putfield 427, 3) := by decide +kernel
theorem dX9_writeRow_75 : decode cX9_writeRow 75 = .ok (.iinc 2 1, 3) := by decide +kernel
theorem dX9_writeRow_78 : decode cX9_writeRow 78 = .ok (.goto (-46), 3) := by decide +kernel
theorem dX9_writeRow_81 : decode cX9_writeRow 81 = .ok (.aload_n 0, 1) := by decide +kernel
theorem dX9_writeRow_82 : decode cX9_writeRow 82 = .ok (.getfield 427, 3) := by decide +kernel
theorem dX9_writeRow_85 : decode cX9_writeRow 85 = .ok (.ireturn, 1) := by decide +kernel
theorem dX9_outputByte_0 : decode cX9_outputByte 0 = .ok (.aload_n 0, 1) := by decide +kernel
theorem dX9_outputByte_1 : decode cX9_outputByte 1 = .ok (.iconst 0, 1) := by decide +kernel
theorem dX9_outputByte_2 : decode cX9_outputByte 2 = .ok (.putfield 64, 3) := by decide +kernel
theorem dX9_outputByte_5 : decode cX9_outputByte 5 = .ok (.iload_n 1, 1) := by decide +kernel
theorem dX9_outputByte_6 : decode cX9_outputByte 6 = .ok (.i2l, 1) := by decide +kernel
theorem dX9_outputByte_7 : decode cX9_outputByte 7 = .ok (.lconst 0, 1) := by decide +kernel
theorem dX9_outputByte_8 : decode cX9_outputByte 8 = .ok (.aload_n 0, 1) := by decide +kernel
theorem dX9_outputByte_9 : decode cX9_outputByte 9 = .ok (.getfield 427, 3) := by decide +kernel
theorem dX9_outputByte_12 : decode cX9_outputByte 12 = .ok (.iconst 1, 1) := by decide +kernel
theorem dX9_outputByte_13 : decode cX9_outputByte 13 = .ok (.isub, 1) := by decide +kernel
theorem dX9_outputByte_14 : decode cX9_outputByte 14 = .ok (.i2l, 1) := by decide +kernel
theorem dX9_outputByte_15 : decode cX9_outputByte 15 = .ok (.invokestatic 78, 3) := by decide +kernel
theorem dX9_outputByte_18 : decode cX9_outputByte 18 = .ok (.ifCond .eq 12, 3) := by decide +kernel
theorem dX9_outputByte_21 : decode cX9_outputByte 21 = .ok (.aload_n 0, 1) := by decide +kernel
theorem dX9_outputByte_22 : decode cX9_outputByte 22 = .ok (.getfield 57, 3) := by decide +kernel
theorem dX9_outputByte_25 : decode cX9_outputByte 25 = .ok (.iload_n 1, 1) := by decide +kernel
theorem dX9_outputByte_26 : decode cX9_outputByte 26 = .ok (.iaload, 1) := by decide +kernel
theorem dX9_outputByte_27 : decode cX9_outputByte 27 = .ok (.goto 4, 3) := by decide +kernel
theorem dX9_outputByte_30 : decode cX9_outputByte 30 = .ok (.iconst (-1), 1) := by decide +kernel
theorem dX9_outputByte_31 : decode cX9_outputByte 31 = .ok (.ireturn, 1) := by decide +kernel
theorem dX9_undo_0 : decode cX9_undo 0 = .ok (.aload_n 0, 1) := by decide +kernel
theorem dX9_undo_1 : decode cX9_undo 1 = .ok (.iconst 0, 1) := by decide +kernel
theorem dX9_undo_2 : decode cX9_undo 2 = .ok (.putfield 64, 3) := by decide +kernel
theorem dX9_undo_5 : decode cX9_undo 5 = .ok (.aload_n 0, 1) := by decide +kernel
theorem dX9_undo_6 : decode cX9_undo 6 = .ok (.getfield 67, 3) := by decide +kernel
theorem dX9_undo_9 : decode cX9_undo 9 = .ok (.ifCond .ne 5, 3) := by decide +kernel
theorem dX9_undo_12 : decode cX9_undo 12 = .ok (.iconst (-1), 1) := by decide +kernel
theorem dX9_undo_13 : decode cX9_undo 13 = .ok (.ireturn, 1) := by decide +kernel
theorem dX9_undo_14 : decode cX9_undo 14 = .ok (.aload_n 0, 1) := by decide +kernel
theorem dX9_undo_15 : decode cX9_undo 15 = .ok (.dup, 1) := by decide +kernel
theorem dX9_undo_16 : decode cX9_undo 16 = .ok (.getfield 67, 3) := by decide +kernel
theorem dX9_undo_19 : decode cX9_undo 19 = .ok (.iconst 1, 1) := by decide +kernel
theorem dX9_undo_20 : decode cX9_undo 20 = .ok (.isub, 1) := by decide +kernel
theorem dX9_undo_21 : decode cX9_undo 21 = .ok (.putfield 67, 3) := by decide +kernel
theorem dX9_undo_24 : decode cX9_undo 24 = .ok (.aload_n 0, 1) := by decide +kernel
theorem dX9_undo_25 : decode cX9_undo 25 = .ok (.getfield 19, 3) := by decide +kernel
theorem dX9_undo_28 : decode cX9_undo 28 = .ok (.sipush 552, 3) := by decide +kernel
theorem dX9_undo_31 : decode cX9_undo 31 = .ok (.aload_n 0, 1) := by decide +kernel
theorem dX9_undo_32 : decode cX9_undo 32 = .ok (.getfield 67, 3) := by decide +kernel
theorem dX9_undo_35 : decode cX9_undo 35 = .ok (.imul, 1) := by decide +kernel
theorem dX9_undo_36 : decode cX9_undo 36 = .ok (.aload_n 0, 1) := by decide +kernel
theorem dX9_undo_37 : decode cX9_undo 37 = .ok (.getfield 7, 3) := by decide +kernel
theorem dX9_undo_40 : decode cX9_undo 40 = .ok (.iconst 0, 1) := by decide +kernel
theorem dX9_undo_41 : decode cX9_undo 41 = .ok (.invokestatic 70, 3) := by decide +kernel
theorem dX9_undo_44 : decode cX9_undo 44 = .ok (.aload_n 0, 1) := by decide +kernel
theorem dX9_undo_45 : decode cX9_undo 45 = .ok (.getfield 67, 3) := by decide +kernel
theorem dX9_undo_48 : decode cX9_undo 48 = .ok (.ireturn, 1) := by decide +kernel
theorem dX9_saveSnapshot_0 : decode cX9_saveSnapshot 0 = .ok (.aload_n 0, 1) := by decide +kernel
theorem dX9_saveSnapshot_1 : decode cX9_saveSnapshot 1 = .ok (.iload_n 1, 1) := by decide +kernel
theorem dX9_saveSnapshot_2 : decode cX9_saveSnapshot 2 = .ok (.i2l, 1) := by decide +kernel
theorem dX9_saveSnapshot_3 : decode cX9_saveSnapshot 3 = .ok (.lconst 0, 1) := by decide +kernel
theorem dX9_saveSnapshot_4 : decode cX9_saveSnapshot 4 = .ok (.lconst 1, 1) := by decide +kernel
theorem dX9_saveSnapshot_5 : decode cX9_saveSnapshot 5 = .ok (.invokestatic 78, 3) := by decide +kernel
theorem dX9_saveSnapshot_8 : decode cX9_saveSnapshot 8 = .ok (.iconst 1, 1) := by decide +kernel
theorem dX9_saveSnapshot_9 : decode cX9_saveSnapshot 9 = .ok (.invokevirtual 355, 3) := by decide +kernel
theorem dX9_saveSnapshot_12 : decode cX9_saveSnapshot 12 = .ok (.ifCond .ne 5, 3) := by decide +kernel
theorem dX9_saveSnapshot_15 : decode cX9_saveSnapshot 15 = .ok (.iconst 0, 1) := by decide +kernel
theorem dX9_saveSnapshot_16 : decode cX9_saveSnapshot 16 = .ok (.ireturn, 1) := by decide +kernel
theorem dX9_saveSnapshot_17 : decode cX9_saveSnapshot 17 = .ok (.aload_n 0, 1) := by decide +kernel
theorem dX9_saveSnapshot_18 : decode cX9_saveSnapshot 18 = .ok (.getfield 7, 3) := by decide +kernel
theorem dX9_saveSnapshot_21 : decode cX9_saveSnapshot 21 = .ok (.iconst 0, 1) := by decide +kernel
theorem dX9_saveSnapshot_22 : decode cX9_saveSnapshot 22 = .ok (.aload_n 0, 1) := by decide +kernel
theorem dX9_saveSnapshot_23 : decode cX9_saveSnapshot 23 = .ok (.getfield 22, 3) := by decide +kernel
theorem dX9_saveSnapshot_26 : decode cX9_saveSnapshot 26 = .ok (.sipush 552, 3) := by decide +kernel
theorem dX9_saveSnapshot_29 : decode cX9_saveSnapshot 29 = .ok (.iload_n 1, 1) := by decide +kernel
theorem dX9_saveSnapshot_30 : decode cX9_saveSnapshot 30 = .ok (.imul, 1) := by decide +kernel
theorem dX9_saveSnapshot_31 : decode cX9_saveSnapshot 31 = .ok (.invokestatic 70, 3) := by decide +kernel
theorem dX9_saveSnapshot_34 : decode cX9_saveSnapshot 34 = .ok (.aload_n 0, 1) := by decide +kernel
theorem dX9_saveSnapshot_35 : decode cX9_saveSnapshot 35 = .ok (.getfield 25, 3) := by decide +kernel
theorem dX9_saveSnapshot_38 : decode cX9_saveSnapshot 38 = .ok (.iload_n 1, 1) := by decide +kernel
theorem dX9_saveSnapshot_39 : decode cX9_saveSnapshot 39 = .ok (.iconst 1, 1) := by decide +kernel
theorem dX9_saveSnapshot_40 : decode cX9_saveSnapshot 40 = .ok (.bastore, 1) := by decide +kernel
theorem dX9_saveSnapshot_41 : decode cX9_saveSnapshot 41 = .ok (.aload_n 0, 1) := by decide +kernel
theorem dX9_saveSnapshot_42 : decode cX9_saveSnapshot 42 = .ok (.getfield 7, 3) := by decide +kernel
theorem dX9_saveSnapshot_45 : decode cX9_saveSnapshot 45 = .ok (.iconst 2, 1) := by decide +kernel
theorem dX9_saveSnapshot_46 : decode cX9_saveSnapshot 46 = .ok (.iaload, 1) := by decide +kernel
theorem dX9_saveSnapshot_47 : decode cX9_saveSnapshot 47 = .ok (.ireturn, 1) := by decide +kernel
theorem dX9_restoreSnapshot_0 : decode cX9_restoreSnapshot 0 = .ok (.aload_n 0, 1) := by decide +kernel
theorem dX9_restoreSnapshot_1 : decode cX9_restoreSnapshot 1 = .ok (.iload_n 1, 1) := by decide +kernel
theorem dX9_restoreSnapshot_2 : decode cX9_restoreSnapshot 2 = .ok (.i2l, 1) := by decide +kernel
theorem dX9_restoreSnapshot_3 : decode cX9_restoreSnapshot 3 = .ok (.lconst 0, 1) := by decide +kernel
theorem dX9_restoreSnapshot_4 : decode cX9_restoreSnapshot 4 = .ok (.lconst 1, 1) := by decide +kernel
theorem dX9_restoreSnapshot_5 : decode cX9_restoreSnapshot 5 = .ok (.invokestatic 78, 3) := by decide +kernel
theorem dX9_restoreSnapshot_8 : decode cX9_restoreSnapshot 8 = .ok (.iconst 1, 1) := by decide +kernel
theorem dX9_restoreSnapshot_9 : decode cX9_restoreSnapshot 9 = .ok (.invokevirtual 355, 3) := by decide +kernel
theorem dX9_restoreSnapshot_12 : decode cX9_restoreSnapshot 12 = .ok (.ifCond .ne 5, 3) := by decide +kernel
theorem dX9_restoreSnapshot_15 : decode cX9_restoreSnapshot 15 = .ok (.iconst 0, 1) := by decide +kernel
theorem dX9_restoreSnapshot_16 : decode cX9_restoreSnapshot 16 = .ok (.ireturn, 1) := by decide +kernel
theorem dX9_restoreSnapshot_17 : decode cX9_restoreSnapshot 17 = .ok (.aload_n 0, 1) := by decide +kernel
theorem dX9_restoreSnapshot_18 : decode cX9_restoreSnapshot 18 = .ok (.getfield 25, 3) := by decide +kernel
theorem dX9_restoreSnapshot_21 : decode cX9_restoreSnapshot 21 = .ok (.iload_n 1, 1) := by decide +kernel
theorem dX9_restoreSnapshot_22 : decode cX9_restoreSnapshot 22 = .ok (.baload, 1) := by decide +kernel
theorem dX9_restoreSnapshot_23 : decode cX9_restoreSnapshot 23 = .ok (.ifCond .ne 5, 3) := by decide +kernel
theorem dX9_restoreSnapshot_26 : decode cX9_restoreSnapshot 26 = .ok (.iconst (-1), 1) := by decide +kernel
theorem dX9_restoreSnapshot_27 : decode cX9_restoreSnapshot 27 = .ok (.ireturn, 1) := by decide +kernel
theorem dX9_restoreSnapshot_28 : decode cX9_restoreSnapshot 28 = .ok (.aload_n 0, 1) := by decide +kernel
theorem dX9_restoreSnapshot_29 : decode cX9_restoreSnapshot 29 = .ok (.getfield 22, 3) := by decide +kernel
theorem dX9_restoreSnapshot_32 : decode cX9_restoreSnapshot 32 = .ok (.sipush 552, 3) := by decide +kernel
theorem dX9_restoreSnapshot_35 : decode cX9_restoreSnapshot 35 = .ok (.iload_n 1, 1) := by decide +kernel
theorem dX9_restoreSnapshot_36 : decode cX9_restoreSnapshot 36 = .ok (.imul, 1) := by decide +kernel
theorem dX9_restoreSnapshot_37 : decode cX9_restoreSnapshot 37 = .ok (.aload_n 0, 1) := by decide +kernel
theorem dX9_restoreSnapshot_38 : decode cX9_restoreSnapshot 38 = .ok (.getfield 7, 3) := by decide +kernel
theorem dX9_restoreSnapshot_41 : decode cX9_restoreSnapshot 41 = .ok (.iconst 0, 1) := by decide +kernel
theorem dX9_restoreSnapshot_42 : decode cX9_restoreSnapshot 42 = .ok (.invokestatic 70, 3) := by decide +kernel
theorem dX9_restoreSnapshot_45 : decode cX9_restoreSnapshot 45 = .ok (.aload_n 0, 1) := by decide +kernel
theorem dX9_restoreSnapshot_46 : decode cX9_restoreSnapshot 46 = .ok (.iconst 0, 1) := by decide +kernel
theorem dX9_restoreSnapshot_47 : decode cX9_restoreSnapshot 47 = .ok (.putfield 67, 3) := by decide +kernel
theorem dX9_restoreSnapshot_50 : decode cX9_restoreSnapshot 50 = .ok (.aload_n 0, 1) := by decide +kernel
theorem dX9_restoreSnapshot_51 : decode cX9_restoreSnapshot 51 = .ok (.getfield 7, 3) := by decide +kernel
theorem dX9_restoreSnapshot_54 : decode cX9_restoreSnapshot 54 = .ok (.iconst 2, 1) := by decide +kernel
theorem dX9_restoreSnapshot_55 : decode cX9_restoreSnapshot 55 = .ok (.iaload, 1) := by decide +kernel
theorem dX9_restoreSnapshot_56 : decode cX9_restoreSnapshot 56 = .ok (.ireturn, 1) := by decide +kernel
