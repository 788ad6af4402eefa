theorem dX9_of_9 : decode cX9_of 9 = .ok (.iload_n 1, 1) := by decide +kernel
theorem dX9_of_10 : decode cX9_of 10 = .ok (.imul, 1) := by decide +kernel
theorem dX9_of_11 : decode cX9_of 11 = .ok (.iadd, 1) := by decide +kernel
theorem dX9_of_12 : decode cX9_of 12 = .ok (.iload_n 2, 1) := by decide +kernel
theorem dX9_of_13 : decode cX9_of 13 = .ok (.iadd, 1) := by decide +kernel
theorem dX9_of_14 : decode cX9_of 14 = .ok (.iaload, 1) := by decide +kernel
theorem dX9_of_15 : decode cX9_of 15 = .ok (.ireturn, 1) := by decide +kernel
theorem dX9_puts_0 : decode cX9_puts 0 = .ok (.aload_n 0, 1) := by decide +kernel
theorem dX9_puts_1 : decode cX9_puts 1 = .ok (.getfield 7, 3) := by decide +kernel
theorem dX9_puts_4 : decode cX9_puts 4 = .ok (.sipush 440, 3) := by decide +kernel
theorem dX9_puts_7 : decode cX9_puts 7 = .ok (.bipush 12, 2) := by decide +kernel
theorem dX9_puts_9 : decode cX9_puts 9 = .ok (.iload_n 1, 1) := by decide +kernel
theorem dX9_puts_10 : decode cX9_puts 10 = .ok (.imul, 1) := by decide +kernel
theorem dX9_puts_11 : decode cX9_puts 11 = .ok (.iadd, 1) := by decide +kernel
theorem dX9_puts_12 : decode cX9_puts 12 = .ok (.iload_n 2, 1) := by decide +kernel
theorem dX9_puts_13 : decode cX9_puts 13 = .ok (.iadd, 1) := by decide +kernel
theorem dX9_puts_14 : decode cX9_puts 14 = .ok (.iload_n 3, 1) := by decide +kernel
theorem dX9_puts_15 : decode cX9_puts 15 = .ok (.iastore, 1) := by decide +kernel
theorem dX9_puts_16 : decode cX9_puts 16 = .ok (.return_, 1) := by decide +kernel
theorem dX9_isHarbour_0 : decode cX9_isHarbour 0 = .ok (.iload_n 1, 1) := by decide +kernel
theorem dX9_isHarbour_1 : decode cX9_isHarbour 1 = .ok (.i2l, 1) := by decide +kernel
theorem dX9_isHarbour_2 : decode cX9_isHarbour 2 = .ok (.lconst 0, 1) := by decide +kernel
theorem dX9_isHarbour_3 : decode cX9_isHarbour 3 = .ok (.aload_n 0, 1) := by decide +kernel
theorem dX9_isHarbour_4 : decode cX9_isHarbour 4 = .ok (.getfield 7, 3) := by decide +kernel
theorem dX9_isHarbour_7 : decode cX9_isHarbour 7 = .ok (.iconst 2, 1) := by decide +kernel
theorem dX9_isHarbour_8 : decode cX9_isHarbour 8 = .ok (.iaload, 1) := by decide +kernel
theorem dX9_isHarbour_9 : decode cX9_isHarbour 9 = .ok (.iconst 1, 1) := by decide +kernel
theorem dX9_isHarbour_10 : decode cX9_isHarbour 10 = .ok (.isub, 1) := by decide +kernel
theorem dX9_isHarbour_11 : decode cX9_isHarbour 11 = .ok (.i2l, 1) := by decide +kernel
theorem dX9_isHarbour_12 : decode cX9_isHarbour 12 = .ok (.invokestatic 78, 3) := by decide +kernel
theorem dX9_isHarbour_15 : decode cX9_isHarbour 15 = .ok (.ireturn, 1) := by decide +kernel
theorem dX9_isPlaced_0 : decode cX9_isPlaced 0 = .ok (.aload_n 0, 1) := by decide +kernel
theorem dX9_isPlaced_1 : decode cX9_isPlaced 1 = .ok (.iload_n 1, 1) := by decide +kernel
theorem dX9_isPlaced_2 : decode cX9_isPlaced 2 = .ok (.iconst 2, 1) := by decide +kernel
theorem dX9_isPlaced_3 : decode cX9_isPlaced 3 = .ok (.invokevirtual 100, 3) := by decide +kernel
theorem dX9_isPlaced_6 : decode cX9_isPlaced 6 = .ok (.iconst (-1), 1) := by decide +kernel
theorem dX9_isPlaced_7 : decode cX9_isPlaced 7 = .ok (.if_icmp .eq 7, 3) := by decide +kernel
theorem dX9_isPlaced_10 : decode cX9_isPlaced 10 = .ok (.iconst 1, 1) := by decide +kernel
theorem dX9_isPlaced_11 : decode cX9_isPlaced 11 = .ok (.goto 4, 3) := by decide +kernel
theorem dX9_isPlaced_14 : decode cX9_isPlaced 14 = .ok (.iconst 0, 1) := by decide +kernel
theorem dX9_isPlaced_15 : decode cX9_isPlaced 15 = .ok (.ireturn, 1) := by decide +kernel
theorem dX9_harbourAt_0 : decode cX9_harbourAt 0 = .ok (.iconst 0, 1) := by decide +kernel
theorem dX9_harbourAt_1 : decode cX9_harbourAt 1 = .ok (.istore_n 3, 1) := by decide +kernel
theorem dX9_harbourAt_2 : decode cX9_harbourAt 2 = .ok (.iload_n 3, 1) := by decide +kernel
theorem dX9_harbourAt_3 : decode cX9_harbourAt 3 = .ok (.aload_n 0, 1) := by decide +kernel
theorem dX9_harbourAt_4 : decode cX9_harbourAt 4 = .ok (.getfield 7, 3) := by decide +kernel
theorem dX9_harbourAt_7 : decode cX9_harbourAt 7 = .ok (.iconst 2, 1) := by decide +kernel
theorem dX9_harbourAt_8 : decode cX9_harbourAt 8 = .ok (.iaload, 1) := by decide +kernel
theorem dX9_harbourAt_9 : decode cX9_harbourAt 9 = .ok (.if_icmp .ge 26, 3) := by decide +kernel
theorem dX9_harbourAt_12 : decode cX9_harbourAt 12 = .ok (.iload_n 3, 1) := by decide +kernel
theorem dX9_harbourAt_13 : decode cX9_harbourAt 13 = .ok (.iload_n 2, 1) := by decide +kernel
theorem dX9_harbourAt_14 : decode cX9_harbourAt 14 = .ok (.if_icmp .eq 15, 3) := by decide +kernel
theorem dX9_harbourAt_17 : decode cX9_harbourAt 17 = .ok (.aload_n 0, 1) := by decide +kernel
theorem dX9_harbourAt_18 : decode cX9_harbourAt 18 = .ok (.iload_n 3, 1) := by decide +kernel
theorem dX9_harbourAt_19 : decode cX9_harbourAt 19 = .ok (.iconst 0, 1) := by decide +kernel
theorem dX9_harbourAt_20 : decode cX9_harbourAt 20 = .ok (.invokevirtual 100, 3) := by decide +kernel
theorem dX9_harbourAt_23 : decode cX9_harbourAt 23 = .ok (.iload_n 1, 1) := by decide +kernel
theorem dX9_harbourAt_24 : decode cX9_harbourAt 24 = .ok (.if_icmp .ne 5, 3) := by decide +kernel
theorem dX9_harbourAt_27 : decode cX9_harbourAt 27 = .ok (.iload_n 3, 1) := by decide +kernel
theorem dX9_harbourAt_28 : decode cX9_harbourAt 28 = .ok (.ireturn, 1) := by decide +kernel
theorem dX9_harbourAt_29 : decode cX9_harbourAt 29 = .ok (.iinc 3 1, 3) := by decide +kernel
theorem dX9_harbourAt_32 : decode cX9_harbourAt 32 = .ok (.goto (-30), 3) := by decide +kernel
theorem dX9_harbourAt_35 : decode cX9_harbourAt 35 = .ok (.iconst (-1), 1) := by decide +kernel
theorem dX9_harbourAt_36 : decode cX9_harbourAt 36 = .ok (.ireturn, 1) := by decide +kernel
theorem dX9_letterIn_0 : decode cX9_letterIn 0 = .ok (.iconst 0, 1) := by decide +kernel
theorem dX9_letterIn_1 : decode cX9_letterIn 1 = .ok (.istore 4, 2) := by decide +kernel
theorem dX9_letterIn_3 : decode cX9_letterIn 3 = .ok (.iload 4, 2) := by decide +kernel
theorem dX9_letterIn_5 : decode cX9_letterIn 5 = .ok (.aload_n 0, 1) := by decide +kernel
theorem dX9_letterIn_6 : decode cX9_letterIn 6 = .ok (.iload_n 1, 1) := by decide +kernel
theorem dX9_letterIn_7 : decode cX9_letterIn 7 = .ok (.iconst 3, 1) := by decide +kernel
theorem dX9_letterIn_8 : decode cX9_letterIn 8 = .ok (.invokevirtual 100, 3) := by decide +kernel
theorem dX9_letterIn_11 : decode cX9_letterIn 11 = .ok (.if_icmp .ge 43, 3) := by decide +kernel
theorem dX9_letterIn_14 : decode cX9_letterIn 14 = .ok (.iload_n 3, 1) := by decide +kernel
theorem dX9_letterIn_15 : decode cX9_letterIn 15 = .ok (.iconst (-1), 1) := by decide +kernel
theorem dX9_letterIn_16 : decode cX9_letterIn 16 = .ok (.if_icmp .eq 38, 3) := by decide +kernel
theorem dX9_letterIn_19 : decode cX9_letterIn 19 = .ok (.aload_n 0, 1) := by decide +kernel
theorem dX9_letterIn_20 : decode cX9_letterIn 20 = .ok (.aload_n 0, 1) := by decide +kernel
theorem dX9_letterIn_21 : decode cX9_letterIn 21 = .ok (.iload_n 1, 1) := by decide +kernel
theorem dX9_letterIn_22 : decode cX9_letterIn 22 = .ok (.iconst 0, 1) := by decide +kernel
theorem dX9_letterIn_23 : decode cX9_letterIn 23 = .ok (.invokevirtual 100, 3) := by decide +kernel
theorem dX9_letterIn_26 : decode cX9_letterIn 26 = .ok (.iload_n 2, 1) := by decide +kernel
theorem dX9_letterIn_27 : decode cX9_letterIn 27 = .ok (.iload 4, 2) := by decide +kernel
theorem dX9_letterIn_29 : decode cX9_letterIn 29 = .ok (.iconst 1, 1) := by decide +kernel
theorem dX9_letterIn_30 : decode cX9_letterIn 30 = .ok (.iadd, 1) := by decide +kernel
theorem dX9_letterIn_31 : decode cX9_letterIn 31 = .ok (.invokevirtual 86, 3) := by decide +kernel
theorem dX9_letterIn_34 : decode cX9_letterIn 34 = .ok (.iload_n 3, 1) := by decide +kernel
theorem dX9_letterIn_35 : decode cX9_letterIn 35 = .ok (.if_icmp .ne 13, 3) := by decide +kernel
theorem dX9_letterIn_38 : decode cX9_letterIn 38 = .ok (.aload_n 0, 1) := by decide +kernel
theorem dX9_letterIn_39 : decode cX9_letterIn 39 = .ok (.iload_n 1, 1) := by decide +kernel
theorem dX9_letterIn_40 : decode cX9_letterIn 40 = .ok (.iconst 4, 1) := by decide +kernel
theorem dX9_letterIn_41 : decode cX9_letterIn 41 = .ok (.iload 4, 2) := by decide +kernel
theorem dX9_letterIn_43 : decode cX9_letterIn 43 = .ok (.iadd, 1) := by decide +kernel
theorem dX9_letterIn_44 : decode cX9_letterIn 44 = .ok (.invokevirtual 100, 3) := by decide +kernel
theorem dX9_letterIn_47 : decode cX9_letterIn 47 = .ok (.ireturn, 1) := by decide +kernel
theorem dX9_letterIn_48 : decode cX9_letterIn 48 = .ok (.iinc 4 1, 3) := by decide +kernel
theorem dX9_letterIn_51 : decode cX9_letterIn 51 = .ok (.goto (-48), 3) := by decide +kernel
theorem dX9_letterIn_54 : decode cX9_letterIn 54 = .ok (.iconst (-1), 1) := by decide +kernel
theorem dX9_letterIn_55 : decode cX9_letterIn 55 = .ok (.ireturn, 1) := by decide +kernel
theorem dX9_letterOf_0 : decode cX9_letterOf 0 = .ok (.aload_n 0, 1) := by decide +kernel
theorem dX9_letterOf_1 : decode cX9_letterOf 1 = .ok (.iload_n 1, 1) := by decide +kernel
theorem dX9_letterOf_2 : decode cX9_letterOf 2 = .ok (.invokevirtual 103, 3) := by decide +kernel
theorem dX9_letterOf_5 : decode cX9_letterOf 5 = .ok (.ifCond .eq 18, 3) := by decide +kernel
theorem dX9_letterOf_8 : decode cX9_letterOf 8 = .ok (.aload_n 0, 1) := by decide +kernel
theorem dX9_letterOf_9 : decode cX9_letterOf 9 = .ok (.iload_n 1, 1) := by decide +kernel
theorem dX9_letterOf_10 : decode cX9_letterOf 10 = .ok (.aload_n 0, 1) := by decide +kernel
theorem dX9_letterOf_11 : decode cX9_letterOf 11 = .ok (.iload_n 1, 1) := by decide +kernel
theorem dX9_letterOf_12 : decode cX9_letterOf 12 = .ok (.iconst 2, 1) := by decide +kernel
theorem dX9_letterOf_13 : decode cX9_letterOf 13 = .ok (.invokevirtual 100, 3) := by decide +kernel
theorem dX9_letterOf_16 : decode cX9_letterOf 16 = .ok (.iload_n 2, 1) := by decide +kernel
theorem dX9_letterOf_17 : decode cX9_letterOf 17 = .ok (.invokevirtual 106, 3) := by decide +kernel
theorem dX9_letterOf_20 : decode cX9_letterOf 20 = .ok (.goto 4, 3) := by decide +kernel
theorem dX9_letterOf_23 : decode cX9_letterOf 23 = .ok (.iconst (-1), 1) := by decide +kernel
theorem dX9_letterOf_24 : decode cX9_letterOf 24 = .ok (.ireturn, 1) := by decide +kernel
theorem dX9_namesIn_0 : decode cX9_namesIn 0 = .ok (.iconst 0, 1) := by decide +kernel
theorem dX9_namesIn_1 : decode cX9_namesIn 1 = .ok (.istore_n 2, 1) := by decide +kernel
theorem dX9_namesIn_2 : decode cX9_namesIn 2 = .ok (.iconst 0, 1) := by decide +kernel
theorem dX9_namesIn_3 : decode cX9_namesIn 3 = .ok (.istore_n 3, 1) := by decide +kernel
theorem dX9_namesIn_4 : decode cX9_namesIn 4 = .ok (.iload_n 3, 1) := by decide +kernel
theorem dX9_namesIn_5 : decode cX9_namesIn 5 = .ok (.aload_n 0, 1) := by decide +kernel
theorem dX9_namesIn_6 : decode cX9_namesIn 6 = .ok (.getfield 7, 3) := by decide +kernel
theorem dX9_namesIn_9 : decode cX9_namesIn 9 = .ok (.iconst 2, 1) := by decide +kernel
theorem dX9_namesIn_10 : decode cX9_namesIn 10 = .ok (.iaload, 1) := by decide +kernel
theorem dX9_namesIn_11 : decode cX9_namesIn 11 = .ok (.if_icmp .ge 29, 3) := by decide +kernel
theorem dX9_namesIn_14 : decode cX9_namesIn 14 = .ok (.iload_n 2, 1) := by decide +kernel
theorem dX9_namesIn_15 : decode cX9_namesIn 15 = .ok (.aload_n 0, 1) := by decide +kernel
theorem dX9_namesIn_16 : decode cX9_namesIn 16 = .ok (.iload_n 3, 1) := by decide +kernel
theorem dX9_namesIn_17 : decode cX9_namesIn 17 = .ok (.iload_n 1, 1) := by decide +kernel
theorem dX9_namesIn_18 : decode cX9_namesIn 18 = .ok (.invokevirtual 109, 3) := by decide +kernel
theorem dX9_namesIn_21 : decode cX9_namesIn 21 = .ok (.iconst (-1), 1) := by decide +kernel
theorem dX9_namesIn_22 : decode cX9_namesIn 22 = .ok (.if_icmp .eq 9, 3) := by decide +kernel
theorem dX9_namesIn_25 : decode cX9_namesIn 25 = .ok (.iconst 1, 1) := by decide +kernel
theorem dX9_namesIn_26 : decode cX9_namesIn 26 = .ok (.iload_n 3, 1) := by decide +kernel
theorem dX9_namesIn_27 : decode cX9_namesIn 27 = .ok (.ishl, 1) := by decide +kernel
theorem dX9_namesIn_28 : decode cX9_namesIn 28 = .ok (.goto 4, 3) := by decide +kernel
theorem dX9_namesIn_31 : decode cX9_namesIn 31 = .ok (.iconst 0, 1) := by decide +kernel
theorem dX9_namesIn_32 : decode cX9_namesIn 32 = .ok (.ior, 1) := by decide +kernel
theorem dX9_namesIn_33 : decode cX9_namesIn 33 = .ok (.istore_n 2, 1) := by decide +kernel
theorem dX9_namesIn_34 : decode cX9_namesIn 34 = .ok (.iinc 3 1, 3) := by decide +kernel
theorem dX9_namesIn_37 : decode cX9_namesIn 37 = .ok (.goto (-33), 3) := by decide +kernel
theorem dX9_namesIn_40 : decode cX9_namesIn 40 = .ok (.iload_n 2, 1) := by decide +kernel
theorem dX9_namesIn_41 : decode cX9_namesIn 41 = .ok (.ireturn, 1) := by decide +kernel
theorem dX9_letterAt_0 : decode cX9_letterAt 0 = .ok (.iconst (-1), 1) := by decide +kernel
theorem dX9_letterAt_1 : decode cX9_letterAt 1 = .ok (.istore_n 2, 1) := by decide +kernel
theorem dX9_letterAt_2 : decode cX9_letterAt 2 = .ok (.iconst 0, 1) := by decide +kernel
theorem dX9_letterAt_3 : decode cX9_letterAt 3 = .ok (.istore_n 3, 1) := by decide +kernel
theorem dX9_letterAt_4 : decode cX9_letterAt 4 = .ok (.iload_n 3, 1) := by decide +kernel
theorem dX9_letterAt_5 : decode cX9_letterAt 5 = .ok (.aload_n 0, 1) := by decide +kernel
theorem dX9_letterAt_6 : decode cX9_letterAt 6 = .ok (.getfield 7, 3) := by decide +kernel
theorem dX9_letterAt_9 : decode cX9_letterAt 9 = .ok (.iconst 2, 1) := by decide +kernel
theorem dX9_letterAt_10 : decode cX9_letterAt 10 = .ok (.iaload, 1) := by decide +kernel
theorem dX9_letterAt_11 : decode cX9_letterAt 11 = .ok (.if_icmp .ge 20, 3) := by decide +kernel
theorem dX9_letterAt_14 : decode cX9_letterAt 14 = .ok (.iload_n 2, 1) := by decide +kernel
theorem dX9_letterAt_15 : decode cX9_letterAt 15 = .ok (.aload_n 0, 1) := by decide +kernel
theorem dX9_letterAt_16 : decode cX9_letterAt 16 = .ok (.iload_n 3, 1) := by decide +kernel
theorem dX9_letterAt_17 : decode cX9_letterAt 17 = .ok (.iload_n 1, 1) := by decide +kernel
theorem dX9_letterAt_18 : decode cX9_letterAt 18 = .ok (.invokevirtual 109, 3) := by decide +kernel
theorem dX9_letterAt_21 : decode cX9_letterAt 21 = .ok (.invokestatic 112, 3) := by decide +kernel
theorem dX9_letterAt_24 : decode cX9_letterAt 24 = .ok (.istore_n 2, 1) := by decide +kernel
theorem dX9_letterAt_25 : decode cX9_letterAt 25 = .ok (.iinc 3 1, 3) := by decide +kernel
theorem dX9_letterAt_28 : decode cX9_letterAt 28 = .ok (.goto (-24), 3) := by decide +kernel
theorem dX9_letterAt_31 : decode cX9_letterAt 31 = .ok (.iload_n 2, 1) := by decide +kernel
theorem dX9_letterAt_32 : decode cX9_letterAt 32 = .ok (.ireturn, 1) := by decide +kernel
theorem dX9_chartReason_0 : decode cX9_chartReason 0 = .ok (.aload_n 0, 1) := by decide +kernel
theorem dX9_chartReason_1 : decode cX9_chartReason 1 = .ok (.iload_n 1, 1) := by decide +kernel
theorem dX9_chartReason_2 : decode cX9_chartReason 2 = .ok (.iconst 0, 1) := by decide +kernel
theorem dX9_chartReason_3 : decode cX9_chartReason 3 = .ok (.invokevirtual 100, 3) := by decide +kernel
theorem dX9_chartReason_6 : decode cX9_chartReason 6 = .ok (.istore 4, 2) := by decide +kernel
theorem dX9_chartReason_8 : decode cX9_chartReason 8 = .ok (.aload_n 0, 1) := by decide +kernel
theorem dX9_chartReason_9 : decode cX9_chartReason 9 = .ok (.aload_n 0, 1) := by decide +kernel
theorem dX9_chartReason_10 : decode cX9_chartReason 10 = .ok (.iload 4, 2) := by decide +kernel
theorem dX9_chartReason_12 : decode cX9_chartReason 12 = .ok (.iload_n 2, 1) := by decide +kernel
theorem dX9_chartReason_13 : decode cX9_chartReason 13 = .ok (.iconst 2, 1) := by decide +kernel
theorem dX9_chartReason_14 : decode cX9_chartReason 14 = .ok (.iadd, 1) := by decide +kernel
theorem dX9_chartReason_15 : decode cX9_chartReason 15 = .ok (.iconst 4, 1) := by decide +kernel
theorem dX9_chartReason_16 : decode cX9_chartReason 16 = .ok (.irem, 1) := by decide +kernel
theorem dX9_chartReason_17 : decode cX9_chartReason 17 = .ok (.iconst 1, 1) := by decide +kernel
theorem dX9_chartReason_18 : decode cX9_chartReason 18 = .ok (.invokevirtual 86, 3) := by decide +kernel
theorem dX9_chartReason_21 : decode cX9_chartReason 21 = .ok (.invokevirtual 82, 3) := by decide +kernel
theorem dX9_chartReason_24 : decode cX9_chartReason 24 = .ok (.ifCond .eq 5, 3) := by decide +kernel
theorem dX9_chartReason_27 : decode cX9_chartReason 27 = .ok (.iconst 1, 1) := by decide +kernel
theorem dX9_chartReason_28 : decode cX9_chartReason 28 = .ok (.ireturn, 1) := by decide +kernel
theorem dX9_chartReason_29 : decode cX9_chartReason 29 = .ok (.bipush 9, 2) := by decide +kernel
theorem dX9_chartReason_31 : decode cX9_chartReason 31 = .ok (.istore 5, 2) := by decide +kernel
theorem dX9_chartReason_33 : decode cX9_chartReason 33 = .ok (.iconst 1, 1) := by decide +kernel
theorem dX9_chartReason_34 : decode cX9_chartReason 34 = .ok (.istore 6, 2) := by decide +kernel
theorem dX9_chartReason_36 : decode cX9_chartReason 36 = .ok (.iload 6, 2) := by decide +kernel
theorem dX9_chartReason_38 : decode cX9_chartReason 38 = .ok (.aload_n 0, 1) := by decide +kernel
theorem dX9_chartReason_39 : decode cX9_chartReason 39 = .ok (.iload_n 1, 1) := by decide +kernel
theorem dX9_chartReason_40 : decode cX9_chartReason 40 = .ok (.iconst 3, 1) := by decide +kernel
theorem dX9_chartReason_41 : decode cX9_chartReason 41 = .ok (.invokevirtual 100, 3) := by decide +kernel
theorem dX9_chartReason_44 : decode cX9_chartReason 44 = .ok (.if_icmp .gt 84, 3) := by decide +kernel
theorem dX9_chartReason_47 : decode cX9_chartReason 47 = .ok (.aload_n 0, 1) := by decide +kernel
theorem dX9_chartReason_48 : decode cX9_chartReason 48 = .ok (.iload 4, 2) := by decide +kernel
theorem dX9_chartReason_50 : decode cX9_chartReason 50 = .ok (.iload_n 2, 1) := by decide +kernel
theorem dX9_chartReason_51 : decode cX9_chartReason 51 = .ok (.iload 6, 2) := by decide +kernel
theorem dX9_chartReason_53 : decode cX9_chartReason 53 = .ok (.invokevirtual 86, 3) := by decide +kernel
theorem dX9_chartReason_56 : decode cX9_chartReason 56 = .ok (.istore 7, 2) := by decide +kernel
theorem dX9_chartReason_58 : decode cX9_chartReason 58 = .ok (.iload 7, 2) := by decide +kernel
theorem dX9_chartReason_60 : decode cX9_chartReason 60 = .ok (.iconst (-1), 1) := by decide +kernel
theorem dX9_chartReason_61 : decode cX9_chartReason 61 = .ok (.if_icmp .ne 7, 3) := by decide +kernel
theorem dX9_chartReason_64 : decode cX9_chartReason 64 = .ok (.iconst 2, 1) := by decide +kernel
theorem dX9_chartReason_65 : decode cX9_chartReason 65 = .ok (.goto 46, 3) := by decide +kernel
theorem dX9_chartReason_68 : decode cX9_chartReason 68 = .ok (.aload_n 0, 1) := by decide +kernel
theorem dX9_chartReason_69 : decode cX9_chartReason 69 = .ok (.iload 7, 2) := by decide +kernel
theorem dX9_chartReason_71 : decode cX9_chartReason 71 = .ok (.invokevirtual 82, 3) := by decide +kernel
theorem dX9_chartReason_74 : decode cX9_chartReason 74 = .ok (.ifCond .ne 7, 3) := by decide +kernel
theorem dX9_chartReason_77 : decode cX9_chartReason 77 = .ok (.iconst 3, 1) := by decide +kernel
theorem dX9_chartReason_78 : decode cX9_chartReason 78 = .ok (.goto 33, 3) := by decide +kernel
theorem dX9_chartReason_81 : decode cX9_chartReason 81 = .ok (.aload_n 0, 1) := by decide +kernel
theorem dX9_chartReason_82 : decode cX9_chartReason 82 = .ok (.iload 7, 2) := by decide +kernel
theorem dX9_chartReason_84 : decode cX9_chartReason 84 = .ok (.invokevirtual 115, 3) := by decide +kernel
theorem dX9_chartReason_87 : decode cX9_chartReason 87 = .ok (.ifCond .eq 7, 3) := by decide +kernel
theorem dX9_chartReason_90 : decode cX9_chartReason 90 = .ok (.iconst 4, 1) := by decide +kernel
theorem dX9_chartReason_91 : decode cX9_chartReason 91 = .ok (.goto 20, 3) := by decide +kernel
theorem dX9_chartReason_94 : decode cX9_chartReason 94 = .ok (.aload_n 0, 1) := by decide +kernel
theorem dX9_chartReason_95 : decode cX9_chartReason 95 = .ok (.iload 7, 2) := by decide +kernel
theorem dX9_chartReason_97 : decode cX9_chartReason 97 = .ok (.iload_n 3, 1) := by decide +kernel
theorem dX9_chartReason_98 : decode cX9_chartReason 98 = .ok (.invokevirtual 118, 3) := by decide +kernel
theorem dX9_chartReason_101 : decode cX9_chartReason 101 = .ok (.iconst (-1), 1) := by decide +kernel
theorem dX9_chartReason_102 : decode cX9_chartReason 102 = .ok (.if_icmp .eq 7, 3) := by decide +kernel
theorem dX9_chartReason_105 : decode cX9_chartReason 105 = .ok (.iconst 5, 1) := by decide +kernel
theorem dX9_chartReason_106 : decode cX9_chartReason 106 = .ok (.goto 5, 3) := by decide +kernel
theorem dX9_chartReason_109 : decode cX9_chartReason 109 = .ok (.bipush 9, 2) := by decide +kernel
theorem dX9_chartReason_111 : decode cX9_chartReason 111 = .ok (.istore 8, 2) := by decide +kernel
theorem dX9_chartReason_113 : decode cX9_chartReason 113 = .ok (.iload 5, 2) := by decide +kernel
theorem dX9_chartReason_115 : decode cX9_chartReason 115 = .ok (.iload 8, 2) := by decide +kernel
theorem dX9_chartReason_117 : decode cX9_chartReason 117 = .ok (.invokestatic 90, 3) := by decide +kernel
theorem dX9_chartReason_120 : decode cX9_chartReason 120 = .ok (.istore 5, 2) := by decide +kernel
theorem dX9_chartReason_122 : decode cX9_chartReason 122 = .ok (.iinc 6 1, 3) := by decide +kernel
theorem dX9_chartReason_125 : decode cX9_chartReason 125 = .ok (.goto (-89), 3) := by decide +kernel
theorem dX9_chartReason_128 : decode cX9_chartReason 128 = .ok (.iload 5, 2) := by decide +kernel
theorem dX9_chartReason_130 : decode cX9_chartReason 130 = .ok (.bipush 9, 2) := by decide +kernel
theorem dX9_chartReason_132 : decode cX9_chartReason 132 = .ok (.if_icmp .ne 7, 3) := by decide +kernel
theorem dX9_chartReason_135 : decode cX9_chartReason 135 = .ok (.iconst 0, 1) := by decide +kernel
theorem dX9_chartReason_136 : decode cX9_chartReason 136 = .ok (.goto 5, 3) := by decide +kernel
theorem dX9_chartReason_139 : decode cX9_chartReason 139 = .ok (.iload 5, 2) := by decide +kernel
theorem dX9_chartReason_141 : decode cX9_chartReason 141 = .ok (.ireturn, 1) := by decide +kernel
theorem dX9_areAgainst_0 : decode cX9_areAgainst 0 = .ok (.iconst 0, 1) := by decide +kernel
theorem dX9_areAgainst_1 : decode cX9_areAgainst 1 = .ok (.istore 7, 2) := by decide +kernel
theorem dX9_areAgainst_3 : decode cX9_areAgainst 3 = .ok (.iconst 0, 1) := by decide +kernel
theorem dX9_areAgainst_4 : decode cX9_areAgainst 4 = .ok (.istore 8, 2) := by decide +kernel
theorem dX9_areAgainst_6 : decode cX9_areAgainst 6 = .ok (.iload 8, 2) := by decide +kernel
theorem dX9_areAgainst_8 : decode cX9_areAgainst 8 = .ok (.aload_n 0, 1) := by decide +kernel
theorem dX9_areAgainst_9 : decode cX9_areAgainst 9 = .ok (.iload_n 1, 1) := by decide +kernel
theorem dX9_areAgainst_10 : decode cX9_areAgainst 10 = .ok (.iconst 3, 1) := by decide +kernel
theorem dX9_areAgainst_11 : decode cX9_areAgainst 11 = .ok (.invokevirtual 100, 3) := by decide +kernel
theorem dX9_areAgainst_14 : decode cX9_areAgainst 14 = .ok (.if_icmp .ge 75, 3) := by decide +kernel
theorem dX9_areAgainst_17 : decode cX9_areAgainst 17 = .ok (.aload_n 0, 1) := by decide +kernel
theorem dX9_areAgainst_18 : decode cX9_areAgainst 18 = .ok (.iload 4, 2) := by decide +kernel
theorem dX9_areAgainst_20 : decode cX9_areAgainst 20 = .ok (.iload 5, 2) := by decide +kernel
theorem dX9_areAgainst_22 : decode cX9_areAgainst 22 = .ok (.aload_n 0, 1) := by decide +kernel
theorem dX9_areAgainst_23 : decode cX9_areAgainst 23 = .ok (.aload_n 0, 1) := by decide +kernel
theorem dX9_areAgainst_24 : decode cX9_areAgainst 24 = .ok (.iload_n 1, 1) := by decide +kernel
theorem dX9_areAgainst_25 : decode cX9_areAgainst 25 = .ok (.iconst 0, 1) := by decide +kernel
theorem dX9_areAgainst_26 : decode cX9_areAgainst 26 = .ok (.invokevirtual 100, 3) := by decide +kernel
theorem dX9_areAgainst_29 : decode cX9_areAgainst 29 = .ok (.iload_n 2, 1) := by decide +kernel
theorem dX9_areAgainst_30 : decode cX9_areAgainst 30 = .ok (.iload 8, 2) := by decide +kernel
theorem dX9_areAgainst_32 : decode cX9_areAgainst 32 = .ok (.iconst 1, 1) := by decide +kernel
theorem dX9_areAgainst_33 : decode cX9_areAgainst 33 = .ok (.iadd, 1) := by decide +kernel
theorem dX9_areAgainst_34 : decode cX9_areAgainst 34 = .ok (.invokevirtual 86, 3) := by decide +kernel
theorem dX9_areAgainst_37 : decode cX9_areAgainst 37 = .ok (.invokevirtual 106, 3) := by decide +kernel
theorem dX9_areAgainst_40 : decode cX9_areAgainst 40 = .ok (.istore 9, 2) := by decide +kernel
theorem dX9_areAgainst_42 : decode cX9_areAgainst 42 = .ok (.iload 7, 2) := by decide +kernel
theorem dX9_areAgainst_44 : decode cX9_areAgainst 44 = .ok (.ifCond .ne 32, 3) := by decide +kernel
theorem dX9_areAgainst_47 : decode cX9_areAgainst 47 = .ok (.iload 9, 2) := by decide +kernel
theorem dX9_areAgainst_49 : decode cX9_areAgainst 49 = .ok (.iconst (-1), 1) := by decide +kernel
theorem dX9_areAgainst_50 : decode cX9_areAgainst 50 = .ok (.if_icmp .eq 30, 3) := by decide +kernel
theorem dX9_areAgainst_53 : decode cX9_areAgainst 53 = .ok (.iload_n 3, 1) := by decide +kernel
theorem dX9_areAgainst_54 : decode cX9_areAgainst 54 = .ok (.ifCond .ne 22, 3) := by decide +kernel
theorem dX9_areAgainst_57 : decode cX9_areAgainst 57 = .ok (.iload 6, 2) := by decide +kernel
theorem dX9_areAgainst_59 : decode cX9_areAgainst 59 = .ok (.ifCond .ne 17, 3) := by decide +kernel
theorem dX9_areAgainst_62 : decode cX9_areAgainst 62 = .ok (.iload 9, 2) := by decide +kernel
theorem dX9_areAgainst_64 : decode cX9_areAgainst 64 = .ok (.aload_n 0, 1) := by decide +kernel
theorem dX9_areAgainst_65 : decode cX9_areAgainst 65 = .ok (.iload_n 1, 1) := by decide +kernel
theorem dX9_areAgainst_66 : decode cX9_areAgainst 66 = .ok (.iconst 4, 1) := by decide +kernel
theorem dX9_areAgainst_67 : decode cX9_areAgainst 67 = .ok (.iload 8, 2) := by decide +kernel
theorem dX9_areAgainst_69 : decode cX9_areAgainst 69 = .ok (.iadd, 1) := by decide +kernel
theorem dX9_areAgainst_70 : decode cX9_areAgainst 70 = .ok (.invokevirtual 100, 3) := by decide +kernel
theorem dX9_areAgainst_73 : decode cX9_areAgainst 73 = .ok (.if_icmp .eq 7, 3) := by decide +kernel
theorem dX9_areAgainst_76 : decode cX9_areAgainst 76 = .ok (.iconst 1, 1) := by decide +kernel
theorem dX9_areAgainst_77 : decode cX9_areAgainst 77 = .ok (.goto 4, 3) := by decide +kernel
theorem dX9_areAgainst_80 : decode cX9_areAgainst 80 = .ok (.iconst 0, 1) := by decide +kernel
theorem dX9_areAgainst_81 : decode cX9_areAgainst 81 = .ok (.istore 7, 2) := by decide +kernel
theorem dX9_areAgainst_83 : decode cX9_areAgainst 83 = .ok (.iinc 8 1, 3) := by decide +kernel
theorem dX9_areAgainst_86 : decode cX9_areAgainst 86 = .ok (.goto (-80), 3) := by decide +kernel
theorem dX9_areAgainst_89 : decode cX9_areAgainst 89 = .ok (.iload 7, 2) := by decide +kernel
theorem dX9_areAgainst_91 : decode cX9_areAgainst 91 = .ok (.ireturn, 1) := by decide +kernel
theorem dX9_isRed_0 : decode cX9_isRed 0 = .ok (.aload_n 0, 1) := by decide +kernel
theorem dX9_isRed_1 : decode cX9_isRed 1 = .ok (.iload_n 1, 1) := by decide +kernel
theorem dX9_isRed_2 : decode cX9_isRed 2 = .ok (.iconst 1, 1) := by decide +kernel
theorem dX9_isRed_3 : decode cX9_isRed 3 = .ok (.invokevirtual 100, 3) := by decide +kernel
theorem dX9_isRed_6 : decode cX9_isRed 6 = .ok (.iconst 1, 1) := by decide +kernel
theorem dX9_isRed_7 : decode cX9_isRed 7 = .ok (.if_icmp .ne 7, 3) := by decide +kernel
theorem dX9_isRed_10 : decode cX9_isRed 10 = .ok (.iconst 1, 1) := by decide +kernel
theorem dX9_isRed_11 : decode cX9_isRed 11 = .ok (.goto 4, 3) := by decide +kernel
theorem dX9_isRed_14 : decode cX9_isRed 14 = .ok (.iconst 0, 1) := by decide +kernel
theorem dX9_isRed_15 : decode cX9_isRed 15 = .ok (.ireturn, 1) := by decide +kernel
theorem dX9_reason_0 : decode cX9_reason 0 = .ok (.aload_n 0, 1) := by decide +kernel
theorem dX9_reason_1 : decode cX9_reason 1 = .ok (.iload_n 1, 1) := by decide +kernel
theorem dX9_reason_2 : decode cX9_reason 2 = .ok (.iload_n 2, 1) := by decide +kernel
theorem dX9_reason_3 : decode cX9_reason 3 = .ok (.iconst (-1), 1) := by decide +kernel
theorem dX9_reason_4 : decode cX9_reason 4 = .ok (.invokevirtual 121, 3) := by decide +kernel
theorem dX9_reason_7 : decode cX9_reason 7 = .ok (.istore_n 3, 1) := by decide +kernel
theorem dX9_reason_8 : decode cX9_reason 8 = .ok (.iconst 0, 1) := by decide +kernel
theorem dX9_reason_9 : decode cX9_reason 9 = .ok (.istore 4, 2) := by decide +kernel
theorem dX9_reason_11 : decode cX9_reason 11 = .ok (.iload 4, 2) := by decide +kernel
theorem dX9_reason_13 : decode cX9_reason 13 = .ok (.aload_n 0, 1) := by decide +kernel
theorem dX9_reason_14 : decode cX9_reason 14 = .ok (.getfield 7, 3) := by decide +kernel
theorem dX9_reason_17 : decode cX9_reason 17 = .ok (.iconst 2, 1) := by decide +kernel
theorem dX9_reason_18 : decode cX9_reason 18 = .ok (.iaload, 1) := by decide +kernel
theorem dX9_reason_19 : decode cX9_reason 19 = .ok (.if_icmp .ge 60, 3) := by decide +kernel
theorem dX9_reason_22 : decode cX9_reason 22 = .ok (.iload_n 3, 1) := by decide +kernel
theorem dX9_reason_23 : decode cX9_reason 23 = .ok (.ifCond .ne 56, 3) := by decide +kernel
theorem dX9_reason_26 : decode cX9_reason 26 = .ok (.iload 4, 2) := by decide +kernel
theorem dX9_reason_28 : decode cX9_reason 28 = .ok (.iload_n 1, 1) := by decide +kernel
theorem dX9_reason_29 : decode cX9_reason 29 = .ok (.if_icmp .eq 44, 3) := by decide +kernel
theorem dX9_reason_32 : decode cX9_reason 32 = .ok (.aload_n 0, 1) := by decide +kernel
theorem dX9_reason_33 : decode cX9_reason 33 = .ok (.iload 4, 2) := by decide +kernel
theorem dX9_reason_35 : decode cX9_reason 35 = .ok (.invokevirtual 103, 3) := by decide +kernel
theorem dX9_reason_38 : decode cX9_reason 38 = .ok (.ifCond .eq 35, 3) := by decide +kernel
theorem dX9_reason_41 : decode cX9_reason 41 = .ok (.aload_n 0, 1) := by decide +kernel
theorem dX9_reason_42 : decode cX9_reason 42 = .ok (.iload_n 1, 1) := by decide +kernel
theorem dX9_reason_43 : decode cX9_reason 43 = .ok (.iload_n 2, 1) := by decide +kernel
theorem dX9_reason_44 : decode cX9_reason 44 = .ok (.aload_n 0, 1) := by decide +kernel
theorem dX9_reason_45 : decode cX9_reason 45 = .ok (.iload_n 1, 1) := by decide +kernel
theorem dX9_reason_46 : decode cX9_reason 46 = .ok (.invokevirtual 124, 3) := by decide +kernel
theorem dX9_reason_49 : decode cX9_reason 49 = .ok (.iload 4, 2) := by decide +kernel
theorem dX9_reason_51 : decode cX9_reason 51 = .ok (.aload_n 0, 1) := by decide +kernel
theorem dX9_reason_52 : decode cX9_reason 52 = .ok (.iload 4, 2) := by decide +kernel
theorem dX9_reason_54 : decode cX9_reason 54 = .ok (.iconst 2, 1) := by decide +kernel
theorem dX9_reason_55 : decode cX9_reason 55 = .ok (.invokevirtual 100, 3) := by decide +kernel
theorem dX9_reason_58 : decode cX9_reason 58 = .ok (.aload_n 0, 1) := by decide +kernel
theorem dX9_reason_59 : decode cX9_reason 59 = .ok (.iload 4, 2) := by decide +kernel
theorem dX9_reason_61 : decode cX9_reason 61 = .ok (.invokevirtual 124, 3) := by decide +kernel
theorem dX9_reason_64 : decode cX9_reason 64 = .ok (.invokevirtual 127, 3) := by decide +kernel
theorem dX9_reason_67 : decode cX9_reason 67 = .ok (.ifCond .eq 6, 3) := by decide +kernel
theorem dX9_reason_70 : decode cX9_reason 70 = .ok (.bipush 6, 2) := by decide +kernel
theorem dX9_reason_72 : decode cX9_reason 72 = .ok (.istore_n 3, 1) := by decide +kernel
theorem dX9_reason_73 : decode cX9_reason 73 = .ok (.iinc 4 1, 3) := by decide +kernel
theorem dX9_reason_76 : decode cX9_reason 76 = .ok (.goto (-65), 3) := by decide +kernel
theorem dX9_reason_79 : decode cX9_reason 79 = .ok (.iload_n 3, 1) := by decide +kernel
theorem dX9_reason_80 : decode cX9_reason 80 = .ok (.ireturn, 1) := by decide +kernel
theorem dX9_doCross_0 : decode cX9_doCross 0 = .ok (.iconst 0, 1) := by decide +kernel
theorem dX9_doCross_1 : decode cX9_doCross 1 = .ok (.istore_n 3, 1) := by decide +kernel
theorem dX9_doCross_2 : decode cX9_doCross 2 = .ok (.iconst 0, 1) := by decide +kernel
theorem dX9_doCross_3 : decode cX9_doCross 3 = .ok (.istore 4, 2) := by decide +kernel
theorem dX9_doCross_5 : decode cX9_doCross 5 = .ok (.iload 4, 2) := by decide +kernel
theorem dX9_doCross_7 : decode cX9_doCross 7 = .ok (.aload_n 0, 1) := by decide +kernel
theorem dX9_doCross_8 : decode cX9_doCross 8 = .ok (.iload_n 1, 1) := by decide +kernel
theorem dX9_doCross_9 : decode cX9_doCross 9 = .ok (.iconst 3, 1) := by decide +kernel
theorem dX9_doCross_10 : decode cX9_doCross 10 = .ok (.invokevirtual 100, 3) := by decide +kernel
theorem dX9_doCross_13 : decode cX9_doCross 13 = .ok (.if_icmp .ge 56, 3) := by decide +kernel
theorem dX9_doCross_16 : decode cX9_doCross 16 = .ok (.aload_n 0, 1) := by decide +kernel
theorem dX9_doCross_17 : decode cX9_doCross 17 = .ok (.iload_n 1, 1) := by decide +kernel
theorem dX9_doCross_18 : decode cX9_doCross 18 = .ok (.invokevirtual 103, 3) := by decide +kernel
theorem dX9_doCross_21 : decode cX9_doCross 21 = .ok (.ifCond .eq 48, 3) := by decide +kernel
theorem dX9_doCross_24 : decode cX9_doCross 24 = .ok (.iload_n 3, 1) := by decide +kernel
theorem dX9_doCross_25 : decode cX9_doCross 25 = .ok (.ifCond .ne 32, 3) := by decide +kernel
theorem dX9_doCross_28 : decode cX9_doCross 28 = .ok (.aload_n 0, 1) := by decide +kernel
theorem dX9_doCross_29 : decode cX9_doCross 29 = .ok (.iload_n 2, 1) := by decide +kernel
theorem dX9_doCross_30 : decode cX9_doCross 30 = .ok (.aload_n 0, 1) := by decide +kernel
theorem dX9_doCross_31 : decode cX9_doCross 31 = .ok (.aload_n 0, 1) := by decide +kernel
theorem dX9_doCross_32 : decode cX9_doCross 32 = .ok (.iload_n 1, 1) := by decide +kernel
theorem dX9_doCross_33 : decode cX9_doCross 33 = .ok (.iconst 0, 1) := by decide +kernel
theorem dX9_doCross_34 : decode cX9_doCross 34 = .ok (.invokevirtual 100, 3) := by decide +kernel
theorem dX9_doCross_37 : decode cX9_doCross 37 = .ok (.aload_n 0, 1) := by decide +kernel
theorem dX9_doCross_38 : decode cX9_doCross 38 = .ok (.iload_n 1, 1) := by decide +kernel
theorem dX9_doCross_39 : decode cX9_doCross 39 = .ok (.iconst 2, 1) := by decide +kernel
theorem dX9_doCross_40 : decode cX9_doCross 40 = .ok (.invokevirtual 100, 3) := by decide +kernel
theorem dX9_doCross_43 : decode cX9_doCross 43 = .ok (.iload 4, 2) := by decide +kernel
theorem dX9_doCross_45 : decode cX9_doCross 45 = .ok (.iconst 1, 1) := by decide +kernel
theorem dX9_doCross_46 : decode cX9_doCross 46 = .ok (.iadd, 1) := by decide +kernel
theorem dX9_doCross_47 : decode cX9_doCross 47 = .ok (.invokevirtual 86, 3) := by decide +kernel
theorem dX9_doCross_50 : decode cX9_doCross 50 = .ok (.invokevirtual 109, 3) := by decide +kernel
theorem dX9_doCross_53 : decode cX9_doCross 53 = .ok (.iconst (-1), 1) := by decide +kernel
theorem dX9_doCross_54 : decode cX9_doCross 54 = .ok (.if_icmp .eq 7, 3) := by decide +kernel
theorem dX9_doCross_57 : decode cX9_doCross 57 = .ok (.iconst 1, 1) := by decide +kernel
theorem dX9_doCross_58 : decode cX9_doCross 58 = .ok (.goto 4, 3) := by decide +kernel
theorem dX9_doCross_61 : decode cX9_doCross 61 = .ok (.iconst 0, 1) := by decide +kernel
theorem dX9_doCross_62 : decode cX9_doCross 62 = .ok (.istore_n 3, 1) := by decide +kernel
theorem dX9_doCross_63 : decode cX9_doCross 63 = .ok (.iinc 4 1, 3) := by decide +kernel
theorem dX9_doCross_66 : decode cX9_doCross 66 = .ok (.goto (-61), 3) := by decide +kernel
theorem dX9_doCross_69 : decode cX9_doCross 69 = .ok (.iload_n 3, 1) := by decide +kernel
theorem dX9_doCross_70 : decode cX9_doCross 70 = .ok (.ireturn, 1) := by decide +kernel
theorem dX9_crossedBy_0 : decode cX9_crossedBy 0 = .ok (.iconst 0, 1) := by decide +kernel
theorem dX9_crossedBy_1 : decode cX9_crossedBy 1 = .ok (.istore_n 2, 1) := by decide +kernel
theorem dX9_crossedBy_2 : decode cX9_crossedBy 2 = .ok (.iconst 0, 1) := by decide +kernel
theorem dX9_crossedBy_3 : decode cX9_crossedBy 3 = .ok (.istore_n 3, 1) := by decide +kernel
theorem dX9_crossedBy_4 : decode cX9_crossedBy 4 = .ok (.iload_n 3, 1) := by decide +kernel
theorem dX9_crossedBy_5 : decode cX9_crossedBy 5 = .ok (.aload_n 0, 1) := by decide +kernel
theorem dX9_crossedBy_6 : decode cX9_crossedBy 6 = .ok (.getfield 7, 3) := by decide +kernel
theorem dX9_crossedBy_9 : decode cX9_crossedBy 9 = .ok (.iconst 2, 1) := by decide +kernel
theorem dX9_crossedBy_10 : decode cX9_crossedBy 10 = .ok (.iaload, 1) := by decide +kernel
theorem dX9_crossedBy_11 : decode cX9_crossedBy 11 = .ok (.if_icmp .ge 33, 3) := by decide +kernel
theorem dX9_crossedBy_14 : decode cX9_crossedBy 14 = .ok (.iload_n 2, 1) := by decide +kernel
theorem dX9_crossedBy_15 : decode cX9_crossedBy 15 = .ok (.iload_n 3, 1) := by decide +kernel
theorem dX9_crossedBy_16 : decode cX9_crossedBy 16 = .ok (.iload_n 1, 1) := by decide +kernel
theorem dX9_crossedBy_17 : decode cX9_crossedBy 17 = .ok (.if_icmp .eq 18, 3) := by decide +kernel
theorem dX9_crossedBy_20 : decode cX9_crossedBy 20 = .ok (.aload_n 0, 1) := by decide +kernel
theorem dX9_crossedBy_21 : decode cX9_crossedBy 21 = .ok (.iload_n 1, 1) := by decide +kernel
theorem dX9_crossedBy_22 : decode cX9_crossedBy 22 = .ok (.iload_n 3, 1) := by decide +kernel
theorem dX9_crossedBy_23 : decode cX9_crossedBy 23 = .ok (.invokevirtual 131, 3) := by decide +kernel
theorem dX9_crossedBy_26 : decode cX9_crossedBy 26 = .ok (.ifCond .eq 9, 3) := by decide +kernel
theorem dX9_crossedBy_29 : decode cX9_crossedBy 29 = .ok (.iconst 1, 1) := by decide +kernel
theorem dX9_crossedBy_30 : decode cX9_crossedBy 30 = .ok (.iload_n 3, 1) := by decide +kernel
theorem dX9_crossedBy_31 : decode cX9_crossedBy 31 = .ok (.ishl, 1) := by decide +kernel
theorem dX9_crossedBy_32 : decode cX9_crossedBy 32 = .ok (.goto 4, 3) := by decide +kernel
theorem dX9_crossedBy_35 : decode cX9_crossedBy 35 = .ok (.iconst 0, 1) := by decide +kernel
theorem dX9_crossedBy_36 : decode cX9_crossedBy 36 = .ok (.ior, 1) := by decide +kernel
theorem dX9_crossedBy_37 : decode cX9_crossedBy 37 = .ok (.istore_n 2, 1) := by decide +kernel
theorem dX9_crossedBy_38 : decode cX9_crossedBy 38 = .ok (.iinc 3 1, 3) := by decide +kernel
theorem dX9_crossedBy_41 : decode cX9_crossedBy 41 = .ok (.goto (-37), 3) := by decide +kernel
theorem dX9_crossedBy_44 : decode cX9_crossedBy 44 = .ok (.iload_n 2, 1) := by decide +kernel
theorem dX9_crossedBy_45 : decode cX9_crossedBy 45 = .ok (.ireturn, 1) := by decide +kernel
theorem dX9_lifts_0 : decode cX9_lifts 0 = .ok (.iconst 0, 1) := by decide +kernel
theorem dX9_lifts_1 : decode cX9_lifts 1 = .ok (.istore_n 2, 1) := by decide +kernel
theorem dX9_lifts_2 : decode cX9_lifts 2 = .ok (.iload_n 2, 1) := by decide +kernel
theorem dX9_lifts_3 : decode cX9_lifts 3 = .ok (.aload_n 0, 1) := by decide +kernel
theorem dX9_lifts_4 : decode cX9_lifts 4 = .ok (.getfield 7, 3) := by decide +kernel
theorem dX9_lifts_7 : decode cX9_lifts 7 = .ok (.iconst 2, 1) := by decide +kernel
theorem dX9_lifts_8 : decode cX9_lifts 8 = .ok (.iaload, 1) := by decide +kernel
theorem dX9_lifts_9 : decode cX9_lifts 9 = .ok (.if_icmp .ge 25, 3) := by decide +kernel
theorem dX9_lifts_12 : decode cX9_lifts 12 = .ok (.iload_n 1, 1) := by decide +kernel
theorem dX9_lifts_13 : decode cX9_lifts 13 = .ok (.iload_n 2, 1) := by decide +kernel
theorem dX9_lifts_14 : decode cX9_lifts 14 = .ok (.ishr, 1) := by decide +kernel
theorem dX9_lifts_15 : decode cX9_lifts 15 = .ok (.iconst 1, 1) := by decide +kernel
theorem dX9_lifts_16 : decode cX9_lifts 16 = .ok (.iand, 1) := by decide +kernel
theorem dX9_lifts_17 : decode cX9_lifts 17 = .ok (.iconst 1, 1) := by decide +kernel
theorem dX9_lifts_18 : decode cX9_lifts 18 = .ok (.if_icmp .ne 10, 3) := by decide +kernel
theorem dX9_lifts_21 : decode cX9_lifts 21 = .ok (.aload_n 0, 1) := by decide +kernel
theorem dX9_lifts_22 : decode cX9_lifts 22 = .ok (.iload_n 2, 1) := by decide +kernel
theorem dX9_lifts_23 : decode cX9_lifts 23 = .ok (.iconst 2, 1) := by decide +kernel
theorem dX9_lifts_24 : decode cX9_lifts 24 = .ok (.iconst (-1), 1) := by decide +kernel
theorem dX9_lifts_25 : decode cX9_lifts 25 = .ok (.invokevirtual 135, 3) := by decide +kernel
theorem dX9_lifts_28 : decode cX9_lifts 28 = .ok (.iinc 2 1, 3) := by decide +kernel
theorem dX9_lifts_31 : decode cX9_lifts 31 = .ok (.goto (-29), 3) := by decide +kernel
theorem dX9_lifts_34 : decode cX9_lifts 34 = .ok (.iload_n 1, 1) := by decide +kernel
theorem dX9_lifts_35 : decode cX9_lifts 35 = .ok (.invokestatic 139, 3) := by decide +kernel
theorem dX9_lifts_38 : decode cX9_lifts 38 = .ok (.ireturn, 1) := by decide +kernel
theorem dX9_canBegin_0 : decode cX9_canBegin 0 = .ok (.aload_n 0, 1) := by decide +kernel
theorem dX9_canBegin_1 : decode cX9_canBegin 1 = .ok (.iload_n 1, 1) := by decide +kernel
theorem dX9_canBegin_2 : decode cX9_canBegin 2 = .ok (.invokevirtual 82, 3) := by decide +kernel
theorem dX9_canBegin_5 : decode cX9_canBegin 5 = .ok (.ifCond .eq 25, 3) := by decide +kernel
theorem dX9_canBegin_8 : decode cX9_canBegin 8 = .ok (.aload_n 0, 1) := by decide +kernel
theorem dX9_canBegin_9 : decode cX9_canBegin 9 = .ok (.iload_n 1, 1) := by decide +kernel
theorem dX9_canBegin_10 : decode cX9_canBegin 10 = .ok (.invokevirtual 115, 3) := by decide +kernel
theorem dX9_canBegin_13 : decode cX9_canBegin 13 = .ok (.ifCond .ne 17, 3) := by decide +kernel
theorem dX9_canBegin_16 : decode cX9_canBegin 16 = .ok (.aload_n 0, 1) := by decide +kernel
theorem dX9_canBegin_17 : decode cX9_canBegin 17 = .ok (.iload_n 1, 1) := by decide +kernel
theorem dX9_canBegin_18 : decode cX9_canBegin 18 = .ok (.iconst (-1), 1) := by decide +kernel
