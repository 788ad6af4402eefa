theorem dX6_crossedBy_13 : decode cX6_crossedBy 13 = .ok (.iload_n 1, 1) := by decide +kernel
theorem dX6_crossedBy_14 : decode cX6_crossedBy 14 = .ok (.invokevirtual 109, 3) := by decide +kernel
theorem dX6_crossedBy_17 : decode cX6_crossedBy 17 = .ok (.istore_n 3, 1) := by decide +kernel
theorem dX6_crossedBy_18 : decode cX6_crossedBy 18 = .ok (.iconst 0, 1) := by decide +kernel
theorem dX6_crossedBy_19 : decode cX6_crossedBy 19 = .ok (.istore 4, 2) := by decide +kernel
theorem dX6_crossedBy_21 : decode cX6_crossedBy 21 = .ok (.iconst 0, 1) := by decide +kernel
theorem dX6_crossedBy_22 : decode cX6_crossedBy 22 = .ok (.istore 5, 2) := by decide +kernel
theorem dX6_crossedBy_24 : decode cX6_crossedBy 24 = .ok (.iload 5, 2) := by decide +kernel
theorem dX6_crossedBy_26 : decode cX6_crossedBy 26 = .ok (.aload_n 0, 1) := by decide +kernel
theorem dX6_crossedBy_27 : decode cX6_crossedBy 27 = .ok (.getfield 21, 3) := by decide +kernel
theorem dX6_crossedBy_30 : decode cX6_crossedBy 30 = .ok (.iload_n 1, 1) := by decide +kernel
theorem dX6_crossedBy_31 : decode cX6_crossedBy 31 = .ok (.invokevirtual 85, 3) := by decide +kernel
theorem dX6_crossedBy_34 : decode cX6_crossedBy 34 = .ok (.if_icmp .ge 36, 3) := by decide +kernel
theorem dX6_crossedBy_37 : decode cX6_crossedBy 37 = .ok (.iload_n 3, 1) := by decide +kernel
theorem dX6_crossedBy_38 : decode cX6_crossedBy 38 = .ok (.iconst (-1), 1) := by decide +kernel
theorem dX6_crossedBy_39 : decode cX6_crossedBy 39 = .ok (.if_icmp .eq 31, 3) := by decide +kernel
theorem dX6_crossedBy_42 : decode cX6_crossedBy 42 = .ok (.iload 4, 2) := by decide +kernel
theorem dX6_crossedBy_44 : decode cX6_crossedBy 44 = .ok (.aload_n 0, 1) := by decide +kernel
theorem dX6_crossedBy_45 : decode cX6_crossedBy 45 = .ok (.aload_n 0, 1) := by decide +kernel
theorem dX6_crossedBy_46 : decode cX6_crossedBy 46 = .ok (.getfield 12, 3) := by decide +kernel
theorem dX6_crossedBy_49 : decode cX6_crossedBy 49 = .ok (.iload_n 2, 1) := by decide +kernel
theorem dX6_crossedBy_50 : decode cX6_crossedBy 50 = .ok (.iload_n 3, 1) := by decide +kernel
theorem dX6_crossedBy_51 : decode cX6_crossedBy 51 = .ok (.iload 5, 2) := by decide +kernel
theorem dX6_crossedBy_53 : decode cX6_crossedBy 53 = .ok (.iconst 1, 1) := by decide +kernel
theorem dX6_crossedBy_54 : decode cX6_crossedBy 54 = .ok (.iadd, 1) := by decide +kernel
theorem dX6_crossedBy_55 : decode cX6_crossedBy 55 = .ok (.invokevirtual 82, 3) := by decide +kernel
theorem dX6_crossedBy_58 : decode cX6_crossedBy 58 = .ok (.invokevirtual 57, 3) := by decide +kernel
theorem dX6_crossedBy_61 : decode cX6_crossedBy 61 = .ok (.ior, 1) := by decide +kernel
theorem dX6_crossedBy_62 : decode cX6_crossedBy 62 = .ok (.istore 4, 2) := by decide +kernel
theorem dX6_crossedBy_64 : decode cX6_crossedBy 64 = .ok (.iinc 5 1, 3) := by decide +kernel
theorem dX6_crossedBy_67 : decode cX6_crossedBy 67 = .ok (.goto (-43), 3) := by decide +kernel
theorem dX6_crossedBy_70 : decode cX6_crossedBy 70 = .ok (.iload 4, 2) := by decide +kernel
theorem dX6_crossedBy_72 : decode cX6_crossedBy 72 = .ok (.iconst 1, 1) := by decide +kernel
theorem dX6_crossedBy_73 : decode cX6_crossedBy 73 = .ok (.iload_n 1, 1) := by decide +kernel
theorem dX6_crossedBy_74 : decode cX6_crossedBy 74 = .ok (.ishl, 1) := by decide +kernel
theorem dX6_crossedBy_75 : decode cX6_crossedBy 75 = .ok (.iconst (-1), 1) := by decide +kernel
theorem dX6_crossedBy_76 : decode cX6_crossedBy 76 = .ok (.ixor, 1) := by decide +kernel
theorem dX6_crossedBy_77 : decode cX6_crossedBy 77 = .ok (.iand, 1) := by decide +kernel
theorem dX6_crossedBy_78 : decode cX6_crossedBy 78 = .ok (.ireturn, 1) := by decide +kernel
theorem dX6_turningNow_0 : decode cX6_turningNow 0 = .ok (.aload_n 0, 1) := by decide +kernel
theorem dX6_turningNow_1 : decode cX6_turningNow 1 = .ok (.getfield 28, 3) := by decide +kernel
theorem dX6_turningNow_4 : decode cX6_turningNow 4 = .ok (.aload_n 0, 1) := by decide +kernel
theorem dX6_turningNow_5 : decode cX6_turningNow 5 = .ok (.getfield 21, 3) := by decide +kernel
theorem dX6_turningNow_8 : decode cX6_turningNow 8 = .ok (.getfield 115, 3) := by decide +kernel
theorem dX6_turningNow_11 : decode cX6_turningNow 11 = .ok (.iload_n 1, 1) := by decide +kernel
theorem dX6_turningNow_12 : decode cX6_turningNow 12 = .ok (.invokevirtual 118, 3) := by decide +kernel
theorem dX6_turningNow_15 : decode cX6_turningNow 15 = .ok (.ireturn, 1) := by decide +kernel
theorem dX6_shutsHarbour_0 : decode cX6_shutsHarbour 0 = .ok (.iconst 0, 1) := by decide +kernel
theorem dX6_shutsHarbour_1 : decode cX6_shutsHarbour 1 = .ok (.istore_n 2, 1) := by decide +kernel
theorem dX6_shutsHarbour_2 : decode cX6_shutsHarbour 2 = .ok (.iload_n 2, 1) := by decide +kernel
theorem dX6_shutsHarbour_3 : decode cX6_shutsHarbour 3 = .ok (.aload_n 0, 1) := by decide +kernel
theorem dX6_shutsHarbour_4 : decode cX6_shutsHarbour 4 = .ok (.getfield 21, 3) := by decide +kernel
theorem dX6_shutsHarbour_7 : decode cX6_shutsHarbour 7 = .ok (.getfield 112, 3) := by decide +kernel
theorem dX6_shutsHarbour_10 : decode cX6_shutsHarbour 10 = .ok (.if_icmp .ge 30, 3) := by decide +kernel
theorem dX6_shutsHarbour_13 : decode cX6_shutsHarbour 13 = .ok (.aload_n 0, 1) := by decide +kernel
theorem dX6_shutsHarbour_14 : decode cX6_shutsHarbour 14 = .ok (.getfield 12, 3) := by decide +kernel
theorem dX6_shutsHarbour_17 : decode cX6_shutsHarbour 17 = .ok (.aload_n 0, 1) := by decide +kernel
theorem dX6_shutsHarbour_18 : decode cX6_shutsHarbour 18 = .ok (.getfield 21, 3) := by decide +kernel
theorem dX6_shutsHarbour_21 : decode cX6_shutsHarbour 21 = .ok (.iload_n 2, 1) := by decide +kernel
theorem dX6_shutsHarbour_22 : decode cX6_shutsHarbour 22 = .ok (.invokevirtual 79, 3) := by decide +kernel
theorem dX6_shutsHarbour_25 : decode cX6_shutsHarbour 25 = .ok (.iload_n 1, 1) := by decide +kernel
theorem dX6_shutsHarbour_26 : decode cX6_shutsHarbour 26 = .ok (.invokevirtual 122, 3) := by decide +kernel
theorem dX6_shutsHarbour_29 : decode cX6_shutsHarbour 29 = .ok (.ifCond .ne 5, 3) := by decide +kernel
theorem dX6_shutsHarbour_32 : decode cX6_shutsHarbour 32 = .ok (.iconst 1, 1) := by decide +kernel
theorem dX6_shutsHarbour_33 : decode cX6_shutsHarbour 33 = .ok (.ireturn, 1) := by decide +kernel
theorem dX6_shutsHarbour_34 : decode cX6_shutsHarbour 34 = .ok (.iinc 2 1, 3) := by decide +kernel
theorem dX6_shutsHarbour_37 : decode cX6_shutsHarbour 37 = .ok (.goto (-35), 3) := by decide +kernel
theorem dX6_shutsHarbour_40 : decode cX6_shutsHarbour 40 = .ok (.iconst 0, 1) := by decide +kernel
theorem dX6_shutsHarbour_41 : decode cX6_shutsHarbour 41 = .ok (.ireturn, 1) := by decide +kernel
theorem dX6_namesWithBackTo_0 : decode cX6_namesWithBackTo 0 = .ok (.iconst 0, 1) := by decide +kernel
theorem dX6_namesWithBackTo_1 : decode cX6_namesWithBackTo 1 = .ok (.istore_n 2, 1) := by decide +kernel
theorem dX6_namesWithBackTo_2 : decode cX6_namesWithBackTo 2 = .ok (.iconst 0, 1) := by decide +kernel
theorem dX6_namesWithBackTo_3 : decode cX6_namesWithBackTo 3 = .ok (.istore_n 3, 1) := by decide +kernel
theorem dX6_namesWithBackTo_4 : decode cX6_namesWithBackTo 4 = .ok (.iload_n 3, 1) := by decide +kernel
theorem dX6_namesWithBackTo_5 : decode cX6_namesWithBackTo 5 = .ok (.aload_n 0, 1) := by decide +kernel
theorem dX6_namesWithBackTo_6 : decode cX6_namesWithBackTo 6 = .ok (.getfield 21, 3) := by decide +kernel
theorem dX6_namesWithBackTo_9 : decode cX6_namesWithBackTo 9 = .ok (.getfield 112, 3) := by decide +kernel
theorem dX6_namesWithBackTo_12 : decode cX6_namesWithBackTo 12 = .ok (.if_icmp .ge 61, 3) := by decide +kernel
theorem dX6_namesWithBackTo_15 : decode cX6_namesWithBackTo 15 = .ok (.aload_n 0, 1) := by decide +kernel
theorem dX6_namesWithBackTo_16 : decode cX6_namesWithBackTo 16 = .ok (.getfield 21, 3) := by decide +kernel
theorem dX6_namesWithBackTo_19 : decode cX6_namesWithBackTo 19 = .ok (.iload_n 3, 1) := by decide +kernel
theorem dX6_namesWithBackTo_20 : decode cX6_namesWithBackTo 20 = .ok (.invokevirtual 109, 3) := by decide +kernel
theorem dX6_namesWithBackTo_23 : decode cX6_namesWithBackTo 23 = .ok (.istore 4, 2) := by decide +kernel
theorem dX6_namesWithBackTo_25 : decode cX6_namesWithBackTo 25 = .ok (.iload 4, 2) := by decide +kernel
theorem dX6_namesWithBackTo_27 : decode cX6_namesWithBackTo 27 = .ok (.iconst 2, 1) := by decide +kernel
theorem dX6_namesWithBackTo_28 : decode cX6_namesWithBackTo 28 = .ok (.iadd, 1) := by decide +kernel
theorem dX6_namesWithBackTo_29 : decode cX6_namesWithBackTo 29 = .ok (.iconst 4, 1) := by decide +kernel
theorem dX6_namesWithBackTo_30 : decode cX6_namesWithBackTo 30 = .ok (.irem, 1) := by decide +kernel
theorem dX6_namesWithBackTo_31 : decode cX6_namesWithBackTo 31 = .ok (.istore 5, 2) := by decide +kernel
theorem dX6_namesWithBackTo_33 : decode cX6_namesWithBackTo 33 = .ok (.iload 4, 2) := by decide +kernel
theorem dX6_namesWithBackTo_35 : decode cX6_namesWithBackTo 35 = .ok (.iconst (-1), 1) := by decide +kernel
theorem dX6_namesWithBackTo_36 : decode cX6_namesWithBackTo 36 = .ok (.if_icmp .eq 31, 3) := by decide +kernel
theorem dX6_namesWithBackTo_39 : decode cX6_namesWithBackTo 39 = .ok (.aload_n 0, 1) := by decide +kernel
theorem dX6_namesWithBackTo_40 : decode cX6_namesWithBackTo 40 = .ok (.getfield 12, 3) := by decide +kernel
theorem dX6_namesWithBackTo_43 : decode cX6_namesWithBackTo 43 = .ok (.aload_n 0, 1) := by decide +kernel
theorem dX6_namesWithBackTo_44 : decode cX6_namesWithBackTo 44 = .ok (.getfield 21, 3) := by decide +kernel
theorem dX6_namesWithBackTo_47 : decode cX6_namesWithBackTo 47 = .ok (.iload_n 3, 1) := by decide +kernel
theorem dX6_namesWithBackTo_48 : decode cX6_namesWithBackTo 48 = .ok (.invokevirtual 79, 3) := by decide +kernel
theorem dX6_namesWithBackTo_51 : decode cX6_namesWithBackTo 51 = .ok (.iload 5, 2) := by decide +kernel
theorem dX6_namesWithBackTo_53 : decode cX6_namesWithBackTo 53 = .ok (.iconst 1, 1) := by decide +kernel
theorem dX6_namesWithBackTo_54 : decode cX6_namesWithBackTo 54 = .ok (.invokevirtual 82, 3) := by decide +kernel
theorem dX6_namesWithBackTo_57 : decode cX6_namesWithBackTo 57 = .ok (.iload_n 1, 1) := by decide +kernel
theorem dX6_namesWithBackTo_58 : decode cX6_namesWithBackTo 58 = .ok (.if_icmp .ne 9, 3) := by decide +kernel
theorem dX6_namesWithBackTo_61 : decode cX6_namesWithBackTo 61 = .ok (.iload_n 2, 1) := by decide +kernel
theorem dX6_namesWithBackTo_62 : decode cX6_namesWithBackTo 62 = .ok (.iconst 1, 1) := by decide +kernel
theorem dX6_namesWithBackTo_63 : decode cX6_namesWithBackTo 63 = .ok (.iload_n 3, 1) := by decide +kernel
theorem dX6_namesWithBackTo_64 : decode cX6_namesWithBackTo 64 = .ok (.ishl, 1) := by decide +kernel
theorem dX6_namesWithBackTo_65 : decode cX6_namesWithBackTo 65 = .ok (.ior, 1) := by decide +kernel
theorem dX6_namesWithBackTo_66 : decode cX6_namesWithBackTo 66 = .ok (.istore_n 2, 1) := by decide +kernel
theorem dX6_namesWithBackTo_67 : decode cX6_namesWithBackTo 67 = .ok (.iinc 3 1, 3) := by decide +kernel
theorem dX6_namesWithBackTo_70 : decode cX6_namesWithBackTo 70 = .ok (.goto (-66), 3) := by decide +kernel
theorem dX6_namesWithBackTo_73 : decode cX6_namesWithBackTo 73 = .ok (.iload_n 2, 1) := by decide +kernel
theorem dX6_namesWithBackTo_74 : decode cX6_namesWithBackTo 74 = .ok (.ireturn, 1) := by decide +kernel
