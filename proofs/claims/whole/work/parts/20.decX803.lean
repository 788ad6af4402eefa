theorem dX8_undo_11 : decode cX8_undo 11 = .ok (.ifCond .eq 13, 3) := by decide +kernel
theorem dX8_undo_14 : decode cX8_undo 14 = .ok (.aload_n 0, 1) := by decide +kernel
theorem dX8_undo_15 : decode cX8_undo 15 = .ok (.getfield 19, 3) := by decide +kernel
theorem dX8_undo_18 : decode cX8_undo 18 = .ok (.getfield 153, 3) := by decide +kernel
theorem dX8_undo_21 : decode cX8_undo 21 = .ok (.goto 4, 3) := by decide +kernel
theorem dX8_undo_24 : decode cX8_undo 24 = .ok (.iconst (-1), 1) := by decide +kernel
theorem dX8_undo_25 : decode cX8_undo 25 = .ok (.ireturn, 1) := by decide +kernel
theorem dX8_saveSnapshot_0 : decode cX8_saveSnapshot 0 = .ok (.iload_n 1, 1) := by decide +kernel
theorem dX8_saveSnapshot_1 : decode cX8_saveSnapshot 1 = .ok (.invokestatic 351, 3) := by decide +kernel
theorem dX8_saveSnapshot_4 : decode cX8_saveSnapshot 4 = .ok (.aload_n 0, 1) := by decide +kernel
theorem dX8_saveSnapshot_5 : decode cX8_saveSnapshot 5 = .ok (.getfield 48, 3) := by decide +kernel
theorem dX8_saveSnapshot_8 : decode cX8_saveSnapshot 8 = .ok (.iload_n 1, 1) := by decide +kernel
theorem dX8_saveSnapshot_9 : decode cX8_saveSnapshot 9 = .ok (.aaload, 1) := by decide +kernel
theorem dX8_saveSnapshot_10 : decode cX8_saveSnapshot 10 = .ok (.astore_n 2, 1) := by decide +kernel
theorem dX8_saveSnapshot_11 : decode cX8_saveSnapshot 11 = .ok (.aload_n 2, 1) := by decide +kernel
theorem dX8_saveSnapshot_12 : decode cX8_saveSnapshot 12 = .ok (.ifnonnull 18, 3) := by decide +kernel
theorem dX8_saveSnapshot_15 : decode cX8_saveSnapshot 15 = .ok (.new 7, 3) := by decide +kernel
theorem dX8_saveSnapshot_18 : decode cX8_saveSnapshot 18 = .ok (.dup, 1) := by decide +kernel
theorem dX8_saveSnapshot_19 : decode cX8_saveSnapshot 19 = .ok (.invokespecial 9, 3) := by decide +kernel
theorem dX8_saveSnapshot_22 : decode cX8_saveSnapshot 22 = .ok (.astore_n 2, 1) := by decide +kernel
theorem dX8_saveSnapshot_23 : decode cX8_saveSnapshot 23 = .ok (.aload_n 0, 1) := by decide +kernel
theorem dX8_saveSnapshot_24 : decode cX8_saveSnapshot 24 = .ok (.getfield 48, 3) := by decide +kernel
theorem dX8_saveSnapshot_27 : decode cX8_saveSnapshot 27 = .ok (.iload_n 1, 1) := by decide +kernel
theorem dX8_saveSnapshot_28 : decode cX8_saveSnapshot 28 = .ok (.aload_n 2, 1) := by decide +kernel
theorem dX8_saveSnapshot_29 : decode cX8_saveSnapshot 29 = .ok (.aastore, 1) := by decide +kernel
theorem dX8_saveSnapshot_30 : decode cX8_saveSnapshot 30 = .ok (.aload_n 2, 1) := by decide +kernel
theorem dX8_saveSnapshot_31 : decode cX8_saveSnapshot 31 = .ok (.aload_n 0, 1) := by decide +kernel
theorem dX8_saveSnapshot_32 : decode cX8_saveSnapshot 32 = .ok (.getfield 10, 3) := by decide +kernel
theorem dX8_saveSnapshot_35 : decode cX8_saveSnapshot 35 = .ok (.invokevirtual 90, 3) := by decide +kernel
theorem dX8_saveSnapshot_38 : decode cX8_saveSnapshot 38 = .ok (.aload_n 0, 1) := by decide +kernel
theorem dX8_saveSnapshot_39 : decode cX8_saveSnapshot 39 = .ok (.getfield 10, 3) := by decide +kernel
theorem dX8_saveSnapshot_42 : decode cX8_saveSnapshot 42 = .ok (.getfield 97, 3) := by decide +kernel
theorem dX8_saveSnapshot_45 : decode cX8_saveSnapshot 45 = .ok (.getfield 101, 3) := by decide +kernel
theorem dX8_saveSnapshot_48 : decode cX8_saveSnapshot 48 = .ok (.ireturn, 1) := by decide +kernel
theorem dX8_restoreSnapshot_0 : decode cX8_restoreSnapshot 0 = .ok (.iload_n 1, 1) := by decide +kernel
theorem dX8_restoreSnapshot_1 : decode cX8_restoreSnapshot 1 = .ok (.invokestatic 351, 3) := by decide +kernel
theorem dX8_restoreSnapshot_4 : decode cX8_restoreSnapshot 4 = .ok (.aload_n 0, 1) := by decide +kernel
theorem dX8_restoreSnapshot_5 : decode cX8_restoreSnapshot 5 = .ok (.getfield 48, 3) := by decide +kernel
theorem dX8_restoreSnapshot_8 : decode cX8_restoreSnapshot 8 = .ok (.iload_n 1, 1) := by decide +kernel
theorem dX8_restoreSnapshot_9 : decode cX8_restoreSnapshot 9 = .ok (.aaload, 1) := by decide +kernel
theorem dX8_restoreSnapshot_10 : decode cX8_restoreSnapshot 10 = .ok (.astore_n 2, 1) := by decide +kernel
theorem dX8_restoreSnapshot_11 : decode cX8_restoreSnapshot 11 = .ok (.aload_n 2, 1) := by decide +kernel
theorem dX8_restoreSnapshot_12 : decode cX8_restoreSnapshot 12 = .ok (.ifnonnull 5, 3) := by decide +kernel
theorem dX8_restoreSnapshot_15 : decode cX8_restoreSnapshot 15 = .ok (.iconst (-1), 1) := by decide +kernel
theorem dX8_restoreSnapshot_16 : decode cX8_restoreSnapshot 16 = .ok (.ireturn, 1) := by decide +kernel
theorem dX8_restoreSnapshot_17 : decode cX8_restoreSnapshot 17 = .ok (.aload_n 0, 1) := by decide +kernel
theorem dX8_restoreSnapshot_18 : decode cX8_restoreSnapshot 18 = .ok (.getfield 10, 3) := by decide +kernel
theorem dX8_restoreSnapshot_21 : decode cX8_restoreSnapshot 21 = .ok (.aload_n 2, 1) := by decide +kernel
theorem dX8_restoreSnapshot_22 : decode cX8_restoreSnapshot 22 = .ok (.invokevirtual 90, 3) := by decide +kernel
theorem dX8_restoreSnapshot_25 : decode cX8_restoreSnapshot 25 = .ok (.aload_n 0, 1) := by decide +kernel
theorem dX8_restoreSnapshot_26 : decode cX8_restoreSnapshot 26 = .ok (.getfield 19, 3) := by decide +kernel
theorem dX8_restoreSnapshot_29 : decode cX8_restoreSnapshot 29 = .ok (.invokevirtual 94, 3) := by decide +kernel
theorem dX8_restoreSnapshot_32 : decode cX8_restoreSnapshot 32 = .ok (.aload_n 0, 1) := by decide +kernel
theorem dX8_restoreSnapshot_33 : decode cX8_restoreSnapshot 33 = .ok (.getfield 10, 3) := by decide +kernel
theorem dX8_restoreSnapshot_36 : decode cX8_restoreSnapshot 36 = .ok (.getfield 97, 3) := by decide +kernel
theorem dX8_restoreSnapshot_39 : decode cX8_restoreSnapshot 39 = .ok (.getfield 101, 3) := by decide +kernel
theorem dX8_restoreSnapshot_42 : decode cX8_restoreSnapshot 42 = .ok (.ireturn, 1) := by decide +kernel
theorem dX8_needCell_0 : decode cX8_needCell 0 = .ok (.iload_n 1, 1) := by decide +kernel
theorem dX8_needCell_1 : decode cX8_needCell 1 = .ok (.ifCond .lt 17, 3) := by decide +kernel
theorem dX8_needCell_4 : decode cX8_needCell 4 = .ok (.iload_n 1, 1) := by decide +kernel
theorem dX8_needCell_5 : decode cX8_needCell 5 = .ok (.aload_n 0, 1) := by decide +kernel
theorem dX8_needCell_6 : decode cX8_needCell 6 = .ok (.getfield 10, 3) := by decide +kernel
theorem dX8_needCell_9 : decode cX8_needCell 9 = .ok (.getfield 106, 3) := by decide +kernel
theorem dX8_needCell_12 : decode cX8_needCell 12 = .ok (.invokevirtual 237, 3) := by decide +kernel
theorem dX8_needCell_15 : decode cX8_needCell 15 = .ok (.if_icmp .lt 14, 3) := by decide +kernel
theorem dX8_needCell_18 : decode cX8_needCell 18 = .ok (.new 322, 3) := by decide +kernel
theorem dX8_needCell_21 : decode cX8_needCell 21 = .ok (.dup, 1) := by decide +kernel
theorem dX8_needCell_22 : decode cX8_needCell 22 = .ok (.ldc_w 354, 3) := by decide +kernel
theorem dX8_needCell_25 : decode cX8_needCell 25 = .ok (.invokespecial 326, 3) := by decide +kernel
theorem dX8_needCell_28 : decode cX8_needCell 28 = .ok (.athrow, 1) := by decide +kernel
theorem dX8_needCell_29 : decode cX8_needCell 29 = .ok (.return_, 1) := by decide +kernel
theorem dX8_needHarbour_0 : decode cX8_needHarbour 0 = .ok (.iload_n 1, 1) := by decide +kernel
theorem dX8_needHarbour_1 : decode cX8_needHarbour 1 = .ok (.ifCond .lt 17, 3) := by decide +kernel
theorem dX8_needHarbour_4 : decode cX8_needHarbour 4 = .ok (.iload_n 1, 1) := by decide +kernel
theorem dX8_needHarbour_5 : decode cX8_needHarbour 5 = .ok (.aload_n 0, 1) := by decide +kernel
theorem dX8_needHarbour_6 : decode cX8_needHarbour 6 = .ok (.getfield 10, 3) := by decide +kernel
theorem dX8_needHarbour_9 : decode cX8_needHarbour 9 = .ok (.getfield 97, 3) := by decide +kernel
theorem dX8_needHarbour_12 : decode cX8_needHarbour 12 = .ok (.getfield 101, 3) := by decide +kernel
theorem dX8_needHarbour_15 : decode cX8_needHarbour 15 = .ok (.if_icmp .lt 14, 3) := by decide +kernel
theorem dX8_needHarbour_18 : decode cX8_needHarbour 18 = .ok (.new 322, 3) := by decide +kernel
theorem dX8_needHarbour_21 : decode cX8_needHarbour 21 = .ok (.dup, 1) := by decide +kernel
theorem dX8_needHarbour_22 : decode cX8_needHarbour 22 = .ok (.ldc_w 356, 3) := by decide +kernel
theorem dX8_needHarbour_25 : decode cX8_needHarbour 25 = .ok (.invokespecial 326, 3) := by decide +kernel
theorem dX8_needHarbour_28 : decode cX8_needHarbour 28 = .ok (.athrow, 1) := by decide +kernel
theorem dX8_needHarbour_29 : decode cX8_needHarbour 29 = .ok (.return_, 1) := by decide +kernel
theorem dX8_needRiver_0 : decode cX8_needRiver 0 = .ok (.iload_n 1, 1) := by decide +kernel
theorem dX8_needRiver_1 : decode cX8_needRiver 1 = .ok (.ifCond .lt 17, 3) := by decide +kernel
theorem dX8_needRiver_4 : decode cX8_needRiver 4 = .ok (.iload_n 1, 1) := by decide +kernel
theorem dX8_needRiver_5 : decode cX8_needRiver 5 = .ok (.aload_n 0, 1) := by decide +kernel
theorem dX8_needRiver_6 : decode cX8_needRiver 6 = .ok (.getfield 10, 3) := by decide +kernel
theorem dX8_needRiver_9 : decode cX8_needRiver 9 = .ok (.getfield 106, 3) := by decide +kernel
theorem dX8_needRiver_12 : decode cX8_needRiver 12 = .ok (.getfield 122, 3) := by decide +kernel
theorem dX8_needRiver_15 : decode cX8_needRiver 15 = .ok (.if_icmp .lt 14, 3) := by decide +kernel
theorem dX8_needRiver_18 : decode cX8_needRiver 18 = .ok (.new 322, 3) := by decide +kernel
theorem dX8_needRiver_21 : decode cX8_needRiver 21 = .ok (.dup, 1) := by decide +kernel
theorem dX8_needRiver_22 : decode cX8_needRiver 22 = .ok (.ldc_w 358, 3) := by decide +kernel
theorem dX8_needRiver_25 : decode cX8_needRiver 25 = .ok (.invokespecial 326, 3) := by decide +kernel
theorem dX8_needRiver_28 : decode cX8_needRiver 28 = .ok (.athrow, 1) := by decide +kernel
theorem dX8_needRiver_29 : decode cX8_needRiver 29 = .ok (.return_, 1) := by decide +kernel
theorem dX8_needDirection_0 : decode cX8_needDirection 0 = .ok (.iload_n 0, 1) := by decide +kernel
theorem dX8_needDirection_1 : decode cX8_needDirection 1 = .ok (.ifCond .lt 8, 3) := by decide +kernel
theorem dX8_needDirection_4 : decode cX8_needDirection 4 = .ok (.iload_n 0, 1) := by decide +kernel
theorem dX8_needDirection_5 : decode cX8_needDirection 5 = .ok (.iconst 4, 1) := by decide +kernel
theorem dX8_needDirection_6 : decode cX8_needDirection 6 = .ok (.if_icmp .lt 14, 3) := by decide +kernel
theorem dX8_needDirection_9 : decode cX8_needDirection 9 = .ok (.new 154, 3) := by decide +kernel
theorem dX8_needDirection_12 : decode cX8_needDirection 12 = .ok (.dup, 1) := by decide +kernel
theorem dX8_needDirection_13 : decode cX8_needDirection 13 = .ok (.ldc_w 360, 3) := by decide +kernel
theorem dX8_needDirection_16 : decode cX8_needDirection 16 = .ok (.invokespecial 158, 3) := by decide +kernel
theorem dX8_needDirection_19 : decode cX8_needDirection 19 = .ok (.athrow, 1) := by decide +kernel
theorem dX8_needDirection_20 : decode cX8_needDirection 20 = .ok (.return_, 1) := by decide +kernel
theorem dX8_needTurn_0 : decode cX8_needTurn 0 = .ok (.iload_n 0, 1) := by decide +kernel
theorem dX8_needTurn_1 : decode cX8_needTurn 1 = .ok (.ifCond .lt 8, 3) := by decide +kernel
theorem dX8_needTurn_4 : decode cX8_needTurn 4 = .ok (.iload_n 0, 1) := by decide +kernel
theorem dX8_needTurn_5 : decode cX8_needTurn 5 = .ok (.iconst 4, 1) := by decide +kernel
theorem dX8_needTurn_6 : decode cX8_needTurn 6 = .ok (.if_icmp .lt 14, 3) := by decide +kernel
theorem dX8_needTurn_9 : decode cX8_needTurn 9 = .ok (.new 154, 3) := by decide +kernel
theorem dX8_needTurn_12 : decode cX8_needTurn 12 = .ok (.dup, 1) := by decide +kernel
theorem dX8_needTurn_13 : decode cX8_needTurn 13 = .ok (.ldc_w 362, 3) := by decide +kernel
theorem dX8_needTurn_16 : decode cX8_needTurn 16 = .ok (.invokespecial 158, 3) := by decide +kernel
theorem dX8_needTurn_19 : decode cX8_needTurn 19 = .ok (.athrow, 1) := by decide +kernel
theorem dX8_needTurn_20 : decode cX8_needTurn 20 = .ok (.return_, 1) := by decide +kernel
theorem dX8_needSlot_0 : decode cX8_needSlot 0 = .ok (.iload_n 0, 1) := by decide +kernel
theorem dX8_needSlot_1 : decode cX8_needSlot 1 = .ok (.ifCond .lt 8, 3) := by decide +kernel
theorem dX8_needSlot_4 : decode cX8_needSlot 4 = .ok (.iload_n 0, 1) := by decide +kernel
theorem dX8_needSlot_5 : decode cX8_needSlot 5 = .ok (.iconst 2, 1) := by decide +kernel
theorem dX8_needSlot_6 : decode cX8_needSlot 6 = .ok (.if_icmp .lt 14, 3) := by decide +kernel
theorem dX8_needSlot_9 : decode cX8_needSlot 9 = .ok (.new 154, 3) := by decide +kernel
theorem dX8_needSlot_12 : decode cX8_needSlot 12 = .ok (.dup, 1) := by decide +kernel
theorem dX8_needSlot_13 : decode cX8_needSlot 13 = .ok (.ldc_w 364, 3) := by decide +kernel
theorem dX8_needSlot_16 : decode cX8_needSlot 16 = .ok (.invokespecial 158, 3) := by decide +kernel
theorem dX8_needSlot_19 : decode cX8_needSlot 19 = .ok (.athrow, 1) := by decide +kernel
theorem dX8_needSlot_20 : decode cX8_needSlot 20 = .ok (.return_, 1) := by decide +kernel
theorem dX8_wayFrom_0 : decode cX8_wayFrom 0 = .ok (.aload_n 0, 1) := by decide +kernel
theorem dX8_wayFrom_1 : decode cX8_wayFrom 1 = .ok (.getfield 26, 3) := by decide +kernel
theorem dX8_wayFrom_4 : decode cX8_wayFrom 4 = .ok (.aload_n 0, 1) := by decide +kernel
theorem dX8_wayFrom_5 : decode cX8_wayFrom 5 = .ok (.getfield 10, 3) := by decide +kernel
theorem dX8_wayFrom_8 : decode cX8_wayFrom 8 = .ok (.invokevirtual 279, 3) := by decide +kernel
theorem dX8_wayFrom_11 : decode cX8_wayFrom 11 = .ok (.aload_n 0, 1) := by decide +kernel
theorem dX8_wayFrom_12 : decode cX8_wayFrom 12 = .ok (.getfield 26, 3) := by decide +kernel
theorem dX8_wayFrom_15 : decode cX8_wayFrom 15 = .ok (.aload_n 0, 1) := by decide +kernel
theorem dX8_wayFrom_16 : decode cX8_wayFrom 16 = .ok (.getfield 10, 3) := by decide +kernel
theorem dX8_wayFrom_19 : decode cX8_wayFrom 19 = .ok (.getfield 106, 3) := by decide +kernel
theorem dX8_wayFrom_22 : decode cX8_wayFrom 22 = .ok (.iload_n 1, 1) := by decide +kernel
theorem dX8_wayFrom_23 : decode cX8_wayFrom 23 = .ok (.invokevirtual 282, 3) := by decide +kernel
theorem dX8_wayFrom_26 : decode cX8_wayFrom 26 = .ok (.ireturn, 1) := by decide +kernel
theorem dX8_signOf_0 : decode cX8_signOf 0 = .ok (.aload_n 0, 1) := by decide +kernel
theorem dX8_signOf_1 : decode cX8_signOf 1 = .ok (.getfield 10, 3) := by decide +kernel
theorem dX8_signOf_4 : decode cX8_signOf 4 = .ok (.getfield 106, 3) := by decide +kernel
theorem dX8_signOf_7 : decode cX8_signOf 7 = .ok (.iload_n 1, 1) := by decide +kernel
theorem dX8_signOf_8 : decode cX8_signOf 8 = .ok (.invokevirtual 168, 3) := by decide +kernel
theorem dX8_signOf_11 : decode cX8_signOf 11 = .ok (.ifCond .ne 6, 3) := by decide +kernel
theorem dX8_signOf_14 : decode cX8_signOf 14 = .ok (.bipush 126, 2) := by decide +kernel
theorem dX8_signOf_16 : decode cX8_signOf 16 = .ok (.ireturn, 1) := by decide +kernel
theorem dX8_signOf_17 : decode cX8_signOf 17 = .ok (.aload_n 0, 1) := by decide +kernel
theorem dX8_signOf_18 : decode cX8_signOf 18 = .ok (.getfield 10, 3) := by decide +kernel
theorem dX8_signOf_21 : decode cX8_signOf 21 = .ok (.getfield 97, 3) := by decide +kernel
theorem dX8_signOf_24 : decode cX8_signOf 24 = .ok (.iload_n 1, 1) := by decide +kernel
theorem dX8_signOf_25 : decode cX8_signOf 25 = .ok (.invokevirtual 171, 3) := by decide +kernel
theorem dX8_signOf_28 : decode cX8_signOf 28 = .ok (.iconst (-1), 1) := by decide +kernel
theorem dX8_signOf_29 : decode cX8_signOf 29 = .ok (.if_icmp .eq 6, 3) := by decide +kernel
theorem dX8_signOf_32 : decode cX8_signOf 32 = .ok (.bipush 64, 2) := by decide +kernel
theorem dX8_signOf_34 : decode cX8_signOf 34 = .ok (.ireturn, 1) := by decide +kernel
theorem dX8_signOf_35 : decode cX8_signOf 35 = .ok (.aload_n 0, 1) := by decide +kernel
theorem dX8_signOf_36 : decode cX8_signOf 36 = .ok (.getfield 10, 3) := by decide +kernel
theorem dX8_signOf_39 : decode cX8_signOf 39 = .ok (.iload_n 1, 1) := by decide +kernel
theorem dX8_signOf_40 : decode cX8_signOf 40 = .ok (.invokevirtual 180, 3) := by decide +kernel
theorem dX8_signOf_43 : decode cX8_signOf 43 = .ok (.istore_n 2, 1) := by decide +kernel
theorem dX8_signOf_44 : decode cX8_signOf 44 = .ok (.iload_n 2, 1) := by decide +kernel
theorem dX8_signOf_45 : decode cX8_signOf 45 = .ok (.ifCond .eq 51, 3) := by decide +kernel
theorem dX8_signOf_48 : decode cX8_signOf 48 = .ok (.iload_n 2, 1) := by decide +kernel
theorem dX8_signOf_49 : decode cX8_signOf 49 = .ok (.aload_n 0, 1) := by decide +kernel
theorem dX8_signOf_50 : decode cX8_signOf 50 = .ok (.getfield 10, 3) := by decide +kernel
theorem dX8_signOf_53 : decode cX8_signOf 53 = .ok (.getfield 97, 3) := by decide +kernel
theorem dX8_signOf_56 : decode cX8_signOf 56 = .ok (.getfield 134, 3) := by decide +kernel
theorem dX8_signOf_59 : decode cX8_signOf 59 = .ok (.iand, 1) := by decide +kernel
theorem dX8_signOf_60 : decode cX8_signOf 60 = .ok (.ifCond .eq 7, 3) := by decide +kernel
theorem dX8_signOf_63 : decode cX8_signOf 63 = .ok (.iconst 1, 1) := by decide +kernel
theorem dX8_signOf_64 : decode cX8_signOf 64 = .ok (.goto 4, 3) := by decide +kernel
theorem dX8_signOf_67 : decode cX8_signOf 67 = .ok (.iconst 0, 1) := by decide +kernel
theorem dX8_signOf_68 : decode cX8_signOf 68 = .ok (.istore_n 3, 1) := by decide +kernel
theorem dX8_signOf_69 : decode cX8_signOf 69 = .ok (.iload_n 3, 1) := by decide +kernel
theorem dX8_signOf_70 : decode cX8_signOf 70 = .ok (.ifCond .eq 17, 3) := by decide +kernel
theorem dX8_signOf_73 : decode cX8_signOf 73 = .ok (.aload_n 0, 1) := by decide +kernel
theorem dX8_signOf_74 : decode cX8_signOf 74 = .ok (.getfield 10, 3) := by decide +kernel
theorem dX8_signOf_77 : decode cX8_signOf 77 = .ok (.iload_n 1, 1) := by decide +kernel
theorem dX8_signOf_78 : decode cX8_signOf 78 = .ok (.invokevirtual 177, 3) := by decide +kernel
theorem dX8_signOf_81 : decode cX8_signOf 81 = .ok (.bipush 32, 2) := by decide +kernel
theorem dX8_signOf_83 : decode cX8_signOf 83 = .ok (.isub, 1) := by decide +kernel
theorem dX8_signOf_84 : decode cX8_signOf 84 = .ok (.goto 11, 3) := by decide +kernel
theorem dX8_signOf_87 : decode cX8_signOf 87 = .ok (.aload_n 0, 1) := by decide +kernel
theorem dX8_signOf_88 : decode cX8_signOf 88 = .ok (.getfield 10, 3) := by decide +kernel
theorem dX8_signOf_91 : decode cX8_signOf 91 = .ok (.iload_n 1, 1) := by decide +kernel
theorem dX8_signOf_92 : decode cX8_signOf 92 = .ok (.invokevirtual 177, 3) := by decide +kernel
theorem dX8_signOf_95 : decode cX8_signOf 95 = .ok (.ireturn, 1) := by decide +kernel
theorem dX8_signOf_96 : decode cX8_signOf 96 = .ok (.aload_n 0, 1) := by decide +kernel
theorem dX8_signOf_97 : decode cX8_signOf 97 = .ok (.getfield 10, 3) := by decide +kernel
theorem dX8_signOf_100 : decode cX8_signOf 100 = .ok (.getfield 106, 3) := by decide +kernel
theorem dX8_signOf_103 : decode cX8_signOf 103 = .ok (.iload_n 1, 1) := by decide +kernel
theorem dX8_signOf_104 : decode cX8_signOf 104 = .ok (.invokevirtual 164, 3) := by decide +kernel
theorem dX8_signOf_107 : decode cX8_signOf 107 = .ok (.ifCond .eq 8, 3) := by decide +kernel
theorem dX8_signOf_110 : decode cX8_signOf 110 = .ok (.bipush 61, 2) := by decide +kernel
theorem dX8_signOf_112 : decode cX8_signOf 112 = .ok (.goto 5, 3) := by decide +kernel
theorem dX8_signOf_115 : decode cX8_signOf 115 = .ok (.bipush 46, 2) := by decide +kernel
theorem dX8_signOf_117 : decode cX8_signOf 117 = .ok (.ireturn, 1) := by decide +kernel
theorem dX8_byteOf_0 : decode cX8_byteOf 0 = .ok (.lload_n 0, 1) := by decide +kernel
theorem dX8_byteOf_1 : decode cX8_byteOf 1 = .ok (.iload_n 2, 1) := by decide +kernel
theorem dX8_byteOf_2 : decode cX8_byteOf 2 = .ok (.lushr, 1) := by decide +kernel
theorem dX8_byteOf_3 : decode cX8_byteOf 3 = .ok (.ldc2_w 366, 3) := by decide +kernel
theorem dX8_byteOf_6 : decode cX8_byteOf 6 = .ok (.land, 1) := by decide +kernel
theorem dX8_byteOf_7 : decode cX8_byteOf 7 = .ok (.l2i, 1) := by decide +kernel
theorem dX8_byteOf_8 : decode cX8_byteOf 8 = .ok (.ireturn, 1) := by decide +kernel
theorem dX8_uprightTurn_0 : decode cX8_uprightTurn 0 = .ok (.iload_n 0, 1) := by decide +kernel
theorem dX8_uprightTurn_1 : decode cX8_uprightTurn 1 = .ok (.iconst 3, 1) := by decide +kernel
theorem dX8_uprightTurn_2 : decode cX8_uprightTurn 2 = .ok (.iadd, 1) := by decide +kernel
theorem dX8_uprightTurn_3 : decode cX8_uprightTurn 3 = .ok (.iconst 4, 1) := by decide +kernel
theorem dX8_uprightTurn_4 : decode cX8_uprightTurn 4 = .ok (.irem, 1) := by decide +kernel
theorem dX8_uprightTurn_5 : decode cX8_uprightTurn 5 = .ok (.ireturn, 1) := by decide +kernel
theorem dX8_quartersBetween_0 : decode cX8_quartersBetween 0 = .ok (.iload_n 0, 1) := by decide +kernel
theorem dX8_quartersBetween_1 : decode cX8_quartersBetween 1 = .ok (.iload_n 1, 1) := by decide +kernel
theorem dX8_quartersBetween_2 : decode cX8_quartersBetween 2 = .ok (.isub, 1) := by decide +kernel
theorem dX8_quartersBetween_3 : decode cX8_quartersBetween 3 = .ok (.invokestatic 368, 3) := by decide +kernel
theorem dX8_quartersBetween_6 : decode cX8_quartersBetween 6 = .ok (.istore_n 2, 1) := by decide +kernel
theorem dX8_quartersBetween_7 : decode cX8_quartersBetween 7 = .ok (.iload_n 2, 1) := by decide +kernel
theorem dX8_quartersBetween_8 : decode cX8_quartersBetween 8 = .ok (.iconst 4, 1) := by decide +kernel
theorem dX8_quartersBetween_9 : decode cX8_quartersBetween 9 = .ok (.iload_n 2, 1) := by decide +kernel
theorem dX8_quartersBetween_10 : decode cX8_quartersBetween 10 = .ok (.isub, 1) := by decide +kernel
theorem dX8_quartersBetween_11 : decode cX8_quartersBetween 11 = .ok (.invokestatic 373, 3) := by decide +kernel
theorem dX8_quartersBetween_14 : decode cX8_quartersBetween 14 = .ok (.ireturn, 1) := by decide +kernel
