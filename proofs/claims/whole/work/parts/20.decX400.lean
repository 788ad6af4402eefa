theorem dX4_init_0 : decode cX4_init 0 = .ok (.aload_n 0, 1) := by decide +kernel
theorem dX4_init_1 : decode cX4_init 1 = .ok (.invokespecial 3, 3) := by decide +kernel
theorem dX4_init_4 : decode cX4_init 4 = .ok (.aload_n 0, 1) := by decide +kernel
theorem dX4_init_5 : decode cX4_init 5 = .ok (.bipush 16, 2) := by decide +kernel
theorem dX4_init_7 : decode cX4_init 7 = .ok (.newarray .int, 2) := by decide +kernel
theorem dX4_init_9 : decode cX4_init 9 = .ok (.putfield 9, 3) := by decide +kernel
theorem dX4_init_12 : decode cX4_init 12 = .ok (.return_, 1) := by decide +kernel
theorem dX4_beginEmpty_0 : decode cX4_beginEmpty 0 = .ok (.aload_n 0, 1) := by decide +kernel
theorem dX4_beginEmpty_1 : decode cX4_beginEmpty 1 = .ok (.iconst 0, 1) := by decide +kernel
theorem dX4_beginEmpty_2 : decode cX4_beginEmpty 2 = .ok (.putfield 15, 3) := by decide +kernel
theorem dX4_beginEmpty_5 : decode cX4_beginEmpty 5 = .ok (.aload_n 0, 1) := by decide +kernel
theorem dX4_beginEmpty_6 : decode cX4_beginEmpty 6 = .ok (.iconst 0, 1) := by decide +kernel
theorem dX4_beginEmpty_7 : decode cX4_beginEmpty 7 = .ok (.putfield 19, 3) := by decide +kernel
theorem dX4_beginEmpty_10 : decode cX4_beginEmpty 10 = .ok (.aload_n 0, 1) := by decide +kernel
theorem dX4_beginEmpty_11 : decode cX4_beginEmpty 11 = .ok (.iconst 0, 1) := by decide +kernel
theorem dX4_beginEmpty_12 : decode cX4_beginEmpty 12 = .ok (.putfield 22, 3) := by decide +kernel
theorem dX4_beginEmpty_15 : decode cX4_beginEmpty 15 = .ok (.aload_n 0, 1) := by decide +kernel
theorem dX4_beginEmpty_16 : decode cX4_beginEmpty 16 = .ok (.iconst 0, 1) := by decide +kernel
theorem dX4_beginEmpty_17 : decode cX4_beginEmpty 17 = .ok (.putfield 25, 3) := by decide +kernel
theorem dX4_beginEmpty_20 : decode cX4_beginEmpty 20 = .ok (.return_, 1) := by decide +kernel
theorem dX4_copyFrom_0 : decode cX4_copyFrom 0 = .ok (.aload_n 0, 1) := by decide +kernel
theorem dX4_copyFrom_1 : decode cX4_copyFrom 1 = .ok (.aload_n 1, 1) := by decide +kernel
theorem dX4_copyFrom_2 : decode cX4_copyFrom 2 = .ok (.getfield 15, 3) := by decide +kernel
theorem dX4_copyFrom_5 : decode cX4_copyFrom 5 = .ok (.putfield 15, 3) := by decide +kernel
theorem dX4_copyFrom_8 : decode cX4_copyFrom 8 = .ok (.aload_n 0, 1) := by decide +kernel
theorem dX4_copyFrom_9 : decode cX4_copyFrom 9 = .ok (.aload_n 1, 1) := by decide +kernel
theorem dX4_copyFrom_10 : decode cX4_copyFrom 10 = .ok (.getfield 19, 3) := by decide +kernel
theorem dX4_copyFrom_13 : decode cX4_copyFrom 13 = .ok (.putfield 19, 3) := by decide +kernel
theorem dX4_copyFrom_16 : decode cX4_copyFrom 16 = .ok (.aload_n 0, 1) := by decide +kernel
theorem dX4_copyFrom_17 : decode cX4_copyFrom 17 = .ok (.aload_n 1, 1) := by decide +kernel
theorem dX4_copyFrom_18 : decode cX4_copyFrom 18 = .ok (.getfield 22, 3) := by decide +kernel
theorem dX4_copyFrom_21 : decode cX4_copyFrom 21 = .ok (.putfield 22, 3) := by decide +kernel
theorem dX4_copyFrom_24 : decode cX4_copyFrom 24 = .ok (.aload_n 0, 1) := by decide +kernel
theorem dX4_copyFrom_25 : decode cX4_copyFrom 25 = .ok (.aload_n 1, 1) := by decide +kernel
theorem dX4_copyFrom_26 : decode cX4_copyFrom 26 = .ok (.getfield 25, 3) := by decide +kernel
theorem dX4_copyFrom_29 : decode cX4_copyFrom 29 = .ok (.putfield 25, 3) := by decide +kernel
theorem dX4_copyFrom_32 : decode cX4_copyFrom 32 = .ok (.iconst 0, 1) := by decide +kernel
theorem dX4_copyFrom_33 : decode cX4_copyFrom 33 = .ok (.istore_n 2, 1) := by decide +kernel
theorem dX4_copyFrom_34 : decode cX4_copyFrom 34 = .ok (.iload_n 2, 1) := by decide +kernel
theorem dX4_copyFrom_35 : decode cX4_copyFrom 35 = .ok (.bipush 16, 2) := by decide +kernel
theorem dX4_copyFrom_37 : decode cX4_copyFrom 37 = .ok (.if_icmp .ge 21, 3) := by decide +kernel
theorem dX4_copyFrom_40 : decode cX4_copyFrom 40 = .ok (.aload_n 0, 1) := by decide +kernel
theorem dX4_copyFrom_41 : decode cX4_copyFrom 41 = .ok (.getfield 9, 3) := by decide +kernel
theorem dX4_copyFrom_44 : decode cX4_copyFrom 44 = .ok (.iload_n 2, 1) := by decide +kernel
theorem dX4_copyFrom_45 : decode cX4_copyFrom 45 = .ok (.aload_n 1, 1) := by decide +kernel
theorem dX4_copyFrom_46 : decode cX4_copyFrom 46 = .ok (.getfield 9, 3) := by decide +kernel
theorem dX4_copyFrom_49 : decode cX4_copyFrom 49 = .ok (.iload_n 2, 1) := by decide +kernel
theorem dX4_copyFrom_50 : decode cX4_copyFrom 50 = .ok (.iaload, 1) := by decide +kernel
theorem dX4_copyFrom_51 : decode cX4_copyFrom 51 = .ok (.iastore, 1) := by decide +kernel
theorem dX4_copyFrom_52 : decode cX4_copyFrom 52 = .ok (.iinc 2 1, 3) := by decide +kernel
theorem dX4_copyFrom_55 : decode cX4_copyFrom 55 = .ok (.goto (-21), 3) := by decide +kernel
theorem dX4_copyFrom_58 : decode cX4_copyFrom 58 = .ok (.return_, 1) := by decide +kernel
theorem dX4_stopAt_0 : decode cX4_stopAt 0 = .ok (.iload_n 1, 1) := by decide +kernel
theorem dX4_stopAt_1 : decode cX4_stopAt 1 = .ok (.ifCond .lt 26, 3) := by decide +kernel
theorem dX4_stopAt_4 : decode cX4_stopAt 4 = .ok (.iload_n 1, 1) := by decide +kernel
theorem dX4_stopAt_5 : decode cX4_stopAt 5 = .ok (.aload_n 0, 1) := by decide +kernel
theorem dX4_stopAt_6 : decode cX4_stopAt 6 = .ok (.getfield 15, 3) := by decide +kernel
theorem dX4_stopAt_9 : decode cX4_stopAt 9 = .ok (.if_icmp .ge 18, 3) := by decide +kernel
theorem dX4_stopAt_12 : decode cX4_stopAt 12 = .ok (.iload_n 1, 1) := by decide +kernel
theorem dX4_stopAt_13 : decode cX4_stopAt 13 = .ok (.bipush 16, 2) := by decide +kernel
theorem dX4_stopAt_15 : decode cX4_stopAt 15 = .ok (.if_icmp .ge 12, 3) := by decide +kernel
theorem dX4_stopAt_18 : decode cX4_stopAt 18 = .ok (.aload_n 0, 1) := by decide +kernel
theorem dX4_stopAt_19 : decode cX4_stopAt 19 = .ok (.getfield 9, 3) := by decide +kernel
theorem dX4_stopAt_22 : decode cX4_stopAt 22 = .ok (.iload_n 1, 1) := by decide +kernel
theorem dX4_stopAt_23 : decode cX4_stopAt 23 = .ok (.iaload, 1) := by decide +kernel
theorem dX4_stopAt_24 : decode cX4_stopAt 24 = .ok (.goto 4, 3) := by decide +kernel
theorem dX4_stopAt_27 : decode cX4_stopAt 27 = .ok (.iconst (-1), 1) := by decide +kernel
theorem dX4_stopAt_28 : decode cX4_stopAt 28 = .ok (.ireturn, 1) := by decide +kernel
theorem dX4_timesOf_0 : decode cX4_timesOf 0 = .ok (.iconst 0, 1) := by decide +kernel
theorem dX4_timesOf_1 : decode cX4_timesOf 1 = .ok (.istore_n 2, 1) := by decide +kernel
theorem dX4_timesOf_2 : decode cX4_timesOf 2 = .ok (.iconst 0, 1) := by decide +kernel
theorem dX4_timesOf_3 : decode cX4_timesOf 3 = .ok (.istore_n 3, 1) := by decide +kernel
theorem dX4_timesOf_4 : decode cX4_timesOf 4 = .ok (.iload_n 3, 1) := by decide +kernel
theorem dX4_timesOf_5 : decode cX4_timesOf 5 = .ok (.aload_n 0, 1) := by decide +kernel
theorem dX4_timesOf_6 : decode cX4_timesOf 6 = .ok (.getfield 15, 3) := by decide +kernel
theorem dX4_timesOf_9 : decode cX4_timesOf 9 = .ok (.if_icmp .ge 21, 3) := by decide +kernel
theorem dX4_timesOf_12 : decode cX4_timesOf 12 = .ok (.aload_n 0, 1) := by decide +kernel
theorem dX4_timesOf_13 : decode cX4_timesOf 13 = .ok (.iload_n 3, 1) := by decide +kernel
theorem dX4_timesOf_14 : decode cX4_timesOf 14 = .ok (.invokevirtual 28, 3) := by decide +kernel
theorem dX4_timesOf_17 : decode cX4_timesOf 17 = .ok (.iload_n 1, 1) := by decide +kernel
theorem dX4_timesOf_18 : decode cX4_timesOf 18 = .ok (.if_icmp .ne 6, 3) := by decide +kernel
theorem dX4_timesOf_21 : decode cX4_timesOf 21 = .ok (.iinc 2 1, 3) := by decide +kernel
theorem dX4_timesOf_24 : decode cX4_timesOf 24 = .ok (.iinc 3 1, 3) := by decide +kernel
theorem dX4_timesOf_27 : decode cX4_timesOf 27 = .ok (.goto (-23), 3) := by decide +kernel
theorem dX4_timesOf_30 : decode cX4_timesOf 30 = .ok (.iload_n 2, 1) := by decide +kernel
theorem dX4_timesOf_31 : decode cX4_timesOf 31 = .ok (.ireturn, 1) := by decide +kernel
theorem dX4_addStop_0 : decode cX4_addStop 0 = .ok (.aload_n 0, 1) := by decide +kernel
theorem dX4_addStop_1 : decode cX4_addStop 1 = .ok (.getfield 15, 3) := by decide +kernel
theorem dX4_addStop_4 : decode cX4_addStop 4 = .ok (.bipush 16, 2) := by decide +kernel
theorem dX4_addStop_6 : decode cX4_addStop 6 = .ok (.if_icmp .ge 23, 3) := by decide +kernel
theorem dX4_addStop_9 : decode cX4_addStop 9 = .ok (.aload_n 0, 1) := by decide +kernel
theorem dX4_addStop_10 : decode cX4_addStop 10 = .ok (.getfield 9, 3) := by decide +kernel
theorem dX4_addStop_13 : decode cX4_addStop 13 = .ok (.aload_n 0, 1) := by decide +kernel
theorem dX4_addStop_14 : decode cX4_addStop 14 = .ok (.getfield 15, 3) := by decide +kernel
theorem dX4_addStop_17 : decode cX4_addStop 17 = .ok (.iload_n 1, 1) := by decide +kernel
theorem dX4_addStop_18 : decode cX4_addStop 18 = .ok (.iastore, 1) := by decide +kernel
theorem dX4_addStop_19 : decode cX4_addStop 19 = .ok (.aload_n 0, 1) := by decide +kernel
theorem dX4_addStop_20 : decode cX4_addStop 20 = .ok (.dup, 1) := by decide +kernel
theorem dX4_addStop_21 : decode cX4_addStop 21 = .ok (.getfield 15, 3) := by decide +kernel
theorem dX4_addStop_24 : decode cX4_addStop 24 = .ok (.iconst 1, 1) := by decide +kernel
theorem dX4_addStop_25 : decode cX4_addStop 25 = .ok (.iadd, 1) := by decide +kernel
theorem dX4_addStop_26 : decode cX4_addStop 26 = .ok (.putfield 15, 3) := by decide +kernel
theorem dX4_addStop_29 : decode cX4_addStop 29 = .ok (.return_, 1) := by decide +kernel
theorem dX4_dropStop_0 : decode cX4_dropStop 0 = .ok (.iload_n 1, 1) := by decide +kernel
theorem dX4_dropStop_1 : decode cX4_dropStop 1 = .ok (.ifCond .lt 11, 3) := by decide +kernel
theorem dX4_dropStop_4 : decode cX4_dropStop 4 = .ok (.iload_n 1, 1) := by decide +kernel
theorem dX4_dropStop_5 : decode cX4_dropStop 5 = .ok (.aload_n 0, 1) := by decide +kernel
theorem dX4_dropStop_6 : decode cX4_dropStop 6 = .ok (.getfield 15, 3) := by decide +kernel
theorem dX4_dropStop_9 : decode cX4_dropStop 9 = .ok (.if_icmp .lt 4, 3) := by decide +kernel
theorem dX4_dropStop_12 : decode cX4_dropStop 12 = .ok (.return_, 1) := by decide +kernel
theorem dX4_dropStop_13 : decode cX4_dropStop 13 = .ok (.iload_n 1, 1) := by decide +kernel
theorem dX4_dropStop_14 : decode cX4_dropStop 14 = .ok (.iconst 1, 1) := by decide +kernel
theorem dX4_dropStop_15 : decode cX4_dropStop 15 = .ok (.iadd, 1) := by decide +kernel
theorem dX4_dropStop_16 : decode cX4_dropStop 16 = .ok (.istore_n 2, 1) := by decide +kernel
theorem dX4_dropStop_17 : decode cX4_dropStop 17 = .ok (.iload_n 2, 1) := by decide +kernel
theorem dX4_dropStop_18 : decode cX4_dropStop 18 = .ok (.aload_n 0, 1) := by decide +kernel
theorem dX4_dropStop_19 : decode cX4_dropStop 19 = .ok (.getfield 15, 3) := by decide +kernel
theorem dX4_dropStop_22 : decode cX4_dropStop 22 = .ok (.if_icmp .ge 29, 3) := by decide +kernel
theorem dX4_dropStop_25 : decode cX4_dropStop 25 = .ok (.iload_n 2, 1) := by decide +kernel
theorem dX4_dropStop_26 : decode cX4_dropStop 26 = .ok (.bipush 16, 2) := by decide +kernel
theorem dX4_dropStop_28 : decode cX4_dropStop 28 = .ok (.if_icmp .ge 23, 3) := by decide +kernel
theorem dX4_dropStop_31 : decode cX4_dropStop 31 = .ok (.aload_n 0, 1) := by decide +kernel
theorem dX4_dropStop_32 : decode cX4_dropStop 32 = .ok (.getfield 9, 3) := by decide +kernel
theorem dX4_dropStop_35 : decode cX4_dropStop 35 = .ok (.iload_n 2, 1) := by decide +kernel
theorem dX4_dropStop_36 : decode cX4_dropStop 36 = .ok (.iconst 1, 1) := by decide +kernel
theorem dX4_dropStop_37 : decode cX4_dropStop 37 = .ok (.isub, 1) := by decide +kernel
theorem dX4_dropStop_38 : decode cX4_dropStop 38 = .ok (.aload_n 0, 1) := by decide +kernel
theorem dX4_dropStop_39 : decode cX4_dropStop 39 = .ok (.getfield 9, 3) := by decide +kernel
theorem dX4_dropStop_42 : decode cX4_dropStop 42 = .ok (.iload_n 2, 1) := by decide +kernel
theorem dX4_dropStop_43 : decode cX4_dropStop 43 = .ok (.iaload, 1) := by decide +kernel
theorem dX4_dropStop_44 : decode cX4_dropStop 44 = .ok (.iastore, 1) := by decide +kernel
theorem dX4_dropStop_45 : decode cX4_dropStop 45 = .ok (.iinc 2 1, 3) := by decide +kernel
theorem dX4_dropStop_48 : decode cX4_dropStop 48 = .ok (.goto (-31), 3) := by decide +kernel
theorem dX4_dropStop_51 : decode cX4_dropStop 51 = .ok (.aload_n 0, 1) := by decide +kernel
theorem dX4_dropStop_52 : decode cX4_dropStop 52 = .ok (.dup, 1) := by decide +kernel
theorem dX4_dropStop_53 : decode cX4_dropStop 53 = .ok (.getfield 15, 3) := by decide +kernel
theorem dX4_dropStop_56 : decode cX4_dropStop 56 = .ok (.iconst 1, 1) := by decide +kernel
theorem dX4_dropStop_57 : decode cX4_dropStop 57 = .ok (.isub, 1) := by decide +kernel
theorem dX4_dropStop_58 : decode cX4_dropStop 58 = .ok (.putfield 15, 3) := by decide +kernel
theorem dX4_dropStop_61 : decode cX4_dropStop 61 = .ok (.aload_n 0, 1) := by decide +kernel
theorem dX4_dropStop_62 : decode cX4_dropStop 62 = .ok (.getfield 19, 3) := by decide +kernel
theorem dX4_dropStop_65 : decode cX4_dropStop 65 = .ok (.iload_n 1, 1) := by decide +kernel
theorem dX4_dropStop_66 : decode cX4_dropStop 66 = .ok (.if_icmp .le 13, 3) := by decide +kernel
theorem dX4_dropStop_69 : decode cX4_dropStop 69 = .ok (.aload_n 0, 1) := by decide +kernel
theorem dX4_dropStop_70 : decode cX4_dropStop 70 = .ok (.dup, 1) := by decide +kernel
theorem dX4_dropStop_71 : decode cX4_dropStop 71 = .ok (.getfield 19, 3) := by decide +kernel
theorem dX4_dropStop_74 : decode cX4_dropStop 74 = .ok (.iconst 1, 1) := by decide +kernel
theorem dX4_dropStop_75 : decode cX4_dropStop 75 = .ok (.isub, 1) := by decide +kernel
theorem dX4_dropStop_76 : decode cX4_dropStop 76 = .ok (.putfield 19, 3) := by decide +kernel
theorem dX4_dropStop_79 : decode cX4_dropStop 79 = .ok (.aload_n 0, 1) := by decide +kernel
theorem dX4_dropStop_80 : decode cX4_dropStop 80 = .ok (.getfield 19, 3) := by decide +kernel
theorem dX4_dropStop_83 : decode cX4_dropStop 83 = .ok (.aload_n 0, 1) := by decide +kernel
theorem dX4_dropStop_84 : decode cX4_dropStop 84 = .ok (.getfield 15, 3) := by decide +kernel
theorem dX4_dropStop_87 : decode cX4_dropStop 87 = .ok (.if_icmp .lt 8, 3) := by decide +kernel
theorem dX4_dropStop_90 : decode cX4_dropStop 90 = .ok (.aload_n 0, 1) := by decide +kernel
theorem dX4_dropStop_91 : decode cX4_dropStop 91 = .ok (.iconst 0, 1) := by decide +kernel
theorem dX4_dropStop_92 : decode cX4_dropStop 92 = .ok (.putfield 19, 3) := by decide +kernel
theorem dX4_dropStop_95 : decode cX4_dropStop 95 = .ok (.return_, 1) := by decide +kernel
theorem dX4_goOn_0 : decode cX4_goOn 0 = .ok (.aload_n 0, 1) := by decide +kernel
theorem dX4_goOn_1 : decode cX4_goOn 1 = .ok (.aload_n 0, 1) := by decide +kernel
theorem dX4_goOn_2 : decode cX4_goOn 2 = .ok (.getfield 19, 3) := by decide +kernel
theorem dX4_goOn_5 : decode cX4_goOn 5 = .ok (.iconst 1, 1) := by decide +kernel
theorem dX4_goOn_6 : decode cX4_goOn 6 = .ok (.iadd, 1) := by decide +kernel
theorem dX4_goOn_7 : decode cX4_goOn 7 = .ok (.aload_n 0, 1) := by decide +kernel
theorem dX4_goOn_8 : decode cX4_goOn 8 = .ok (.getfield 15, 3) := by decide +kernel
theorem dX4_goOn_11 : decode cX4_goOn 11 = .ok (.if_icmp .ge 12, 3) := by decide +kernel
theorem dX4_goOn_14 : decode cX4_goOn 14 = .ok (.aload_n 0, 1) := by decide +kernel
theorem dX4_goOn_15 : decode cX4_goOn 15 = .ok (.getfield 19, 3) := by decide +kernel
theorem dX4_goOn_18 : decode cX4_goOn 18 = .ok (.iconst 1, 1) := by decide +kernel
theorem dX4_goOn_19 : decode cX4_goOn 19 = .ok (.iadd, 1) := by decide +kernel
theorem dX4_goOn_20 : decode cX4_goOn 20 = .ok (.goto 4, 3) := by decide +kernel
theorem dX4_goOn_23 : decode cX4_goOn 23 = .ok (.iconst 0, 1) := by decide +kernel
theorem dX4_goOn_24 : decode cX4_goOn 24 = .ok (.putfield 19, 3) := by decide +kernel
theorem dX4_goOn_27 : decode cX4_goOn 27 = .ok (.return_, 1) := by decide +kernel
theorem dX4_turnTo_0 : decode cX4_turnTo 0 = .ok (.aload_n 0, 1) := by decide +kernel
theorem dX4_turnTo_1 : decode cX4_turnTo 1 = .ok (.getfield 22, 3) := by decide +kernel
theorem dX4_turnTo_4 : decode cX4_turnTo 4 = .ok (.iload_n 1, 1) := by decide +kernel
theorem dX4_turnTo_5 : decode cX4_turnTo 5 = .ok (.invokestatic 32, 3) := by decide +kernel
theorem dX4_turnTo_8 : decode cX4_turnTo 8 = .ok (.istore_n 2, 1) := by decide +kernel
theorem dX4_turnTo_9 : decode cX4_turnTo 9 = .ok (.aload_n 0, 1) := by decide +kernel
theorem dX4_turnTo_10 : decode cX4_turnTo 10 = .ok (.iload_n 1, 1) := by decide +kernel
theorem dX4_turnTo_11 : decode cX4_turnTo 11 = .ok (.putfield 22, 3) := by decide +kernel
theorem dX4_turnTo_14 : decode cX4_turnTo 14 = .ok (.aload_n 0, 1) := by decide +kernel
theorem dX4_turnTo_15 : decode cX4_turnTo 15 = .ok (.dup, 1) := by decide +kernel
theorem dX4_turnTo_16 : decode cX4_turnTo 16 = .ok (.getfield 25, 3) := by decide +kernel
theorem dX4_turnTo_19 : decode cX4_turnTo 19 = .ok (.iload_n 2, 1) := by decide +kernel
theorem dX4_turnTo_20 : decode cX4_turnTo 20 = .ok (.iadd, 1) := by decide +kernel
theorem dX4_turnTo_21 : decode cX4_turnTo 21 = .ok (.putfield 25, 3) := by decide +kernel
theorem dX4_turnTo_24 : decode cX4_turnTo 24 = .ok (.iload_n 2, 1) := by decide +kernel
theorem dX4_turnTo_25 : decode cX4_turnTo 25 = .ok (.ireturn, 1) := by decide +kernel
theorem dX4_turningBy_0 : decode cX4_turningBy 0 = .ok (.iconst 0, 1) := by decide +kernel
theorem dX4_turningBy_1 : decode cX4_turningBy 1 = .ok (.istore_n 3, 1) := by decide +kernel
theorem dX4_turningBy_2 : decode cX4_turningBy 2 = .ok (.iload_n 2, 1) := by decide +kernel
theorem dX4_turningBy_3 : decode cX4_turningBy 3 = .ok (.istore 4, 2) := by decide +kernel
theorem dX4_turningBy_5 : decode cX4_turningBy 5 = .ok (.iconst 0, 1) := by decide +kernel
theorem dX4_turningBy_6 : decode cX4_turningBy 6 = .ok (.istore 5, 2) := by decide +kernel
theorem dX4_turningBy_8 : decode cX4_turningBy 8 = .ok (.iload 5, 2) := by decide +kernel
theorem dX4_turningBy_10 : decode cX4_turningBy 10 = .ok (.aload_n 0, 1) := by decide +kernel
theorem dX4_turningBy_11 : decode cX4_turningBy 11 = .ok (.getfield 15, 3) := by decide +kernel
theorem dX4_turningBy_14 : decode cX4_turningBy 14 = .ok (.if_icmp .ge 60, 3) := by decide +kernel
theorem dX4_turningBy_17 : decode cX4_turningBy 17 = .ok (.aload_n 0, 1) := by decide +kernel
theorem dX4_turningBy_18 : decode cX4_turningBy 18 = .ok (.iload 5, 2) := by decide +kernel
theorem dX4_turningBy_20 : decode cX4_turningBy 20 = .ok (.invokevirtual 28, 3) := by decide +kernel
theorem dX4_turningBy_23 : decode cX4_turningBy 23 = .ok (.istore 6, 2) := by decide +kernel
theorem dX4_turningBy_25 : decode cX4_turningBy 25 = .ok (.iload 6, 2) := by decide +kernel
theorem dX4_turningBy_27 : decode cX4_turningBy 27 = .ok (.ifCond .lt 41, 3) := by decide +kernel
theorem dX4_turningBy_30 : decode cX4_turningBy 30 = .ok (.iload 6, 2) := by decide +kernel
theorem dX4_turningBy_32 : decode cX4_turningBy 32 = .ok (.aload_n 1, 1) := by decide +kernel
theorem dX4_turningBy_33 : decode cX4_turningBy 33 = .ok (.arraylength, 1) := by decide +kernel
theorem dX4_turningBy_34 : decode cX4_turningBy 34 = .ok (.if_icmp .ge 34, 3) := by decide +kernel
theorem dX4_turningBy_37 : decode cX4_turningBy 37 = .ok (.aload_n 1, 1) := by decide +kernel
theorem dX4_turningBy_38 : decode cX4_turningBy 38 = .ok (.iload 6, 2) := by decide +kernel
theorem dX4_turningBy_40 : decode cX4_turningBy 40 = .ok (.iaload, 1) := by decide +kernel
theorem dX4_turningBy_41 : decode cX4_turningBy 41 = .ok (.iconst (-1), 1) := by decide +kernel
theorem dX4_turningBy_42 : decode cX4_turningBy 42 = .ok (.if_icmp .eq 26, 3) := by decide +kernel
theorem dX4_turningBy_45 : decode cX4_turningBy 45 = .ok (.aload_n 1, 1) := by decide +kernel
theorem dX4_turningBy_46 : decode cX4_turningBy 46 = .ok (.iload 6, 2) := by decide +kernel
theorem dX4_turningBy_48 : decode cX4_turningBy 48 = .ok (.iaload, 1) := by decide +kernel
theorem dX4_turningBy_49 : decode cX4_turningBy 49 = .ok (.invokestatic 36, 3) := by decide +kernel
theorem dX4_turningBy_52 : decode cX4_turningBy 52 = .ok (.istore 7, 2) := by decide +kernel
theorem dX4_turningBy_54 : decode cX4_turningBy 54 = .ok (.iload_n 3, 1) := by decide +kernel
theorem dX4_turningBy_55 : decode cX4_turningBy 55 = .ok (.iload 4, 2) := by decide +kernel
theorem dX4_turningBy_57 : decode cX4_turningBy 57 = .ok (.iload 7, 2) := by decide +kernel
theorem dX4_turningBy_59 : decode cX4_turningBy 59 = .ok (.invokestatic 32, 3) := by decide +kernel
theorem dX4_turningBy_62 : decode cX4_turningBy 62 = .ok (.iadd, 1) := by decide +kernel
theorem dX4_turningBy_63 : decode cX4_turningBy 63 = .ok (.istore_n 3, 1) := by decide +kernel
theorem dX4_turningBy_64 : decode cX4_turningBy 64 = .ok (.iload 7, 2) := by decide +kernel
theorem dX4_turningBy_66 : decode cX4_turningBy 66 = .ok (.istore 4, 2) := by decide +kernel
theorem dX4_turningBy_68 : decode cX4_turningBy 68 = .ok (.iinc 5 1, 3) := by decide +kernel
theorem dX4_turningBy_71 : decode cX4_turningBy 71 = .ok (.goto (-63), 3) := by decide +kernel
theorem dX4_turningBy_74 : decode cX4_turningBy 74 = .ok (.iload_n 3, 1) := by decide +kernel
theorem dX4_turningBy_75 : decode cX4_turningBy 75 = .ok (.ireturn, 1) := by decide +kernel
