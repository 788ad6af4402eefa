theorem dX1_layRiver_2 : decode cX1_layRiver 2 = .ok (.iload_n 3, 1) := by decide +kernel
theorem dX1_layRiver_3 : decode cX1_layRiver 3 = .ok (.iload_n 2, 1) := by decide +kernel
theorem dX1_layRiver_4 : decode cX1_layRiver 4 = .ok (.if_icmp .ge 52, 3) := by decide +kernel
theorem dX1_layRiver_7 : decode cX1_layRiver 7 = .ok (.iload_n 3, 1) := by decide +kernel
theorem dX1_layRiver_8 : decode cX1_layRiver 8 = .ok (.aload_n 1, 1) := by decide +kernel
theorem dX1_layRiver_9 : decode cX1_layRiver 9 = .ok (.arraylength, 1) := by decide +kernel
theorem dX1_layRiver_10 : decode cX1_layRiver 10 = .ok (.if_icmp .ge 46, 3) := by decide +kernel
theorem dX1_layRiver_13 : decode cX1_layRiver 13 = .ok (.aload_n 1, 1) := by decide +kernel
theorem dX1_layRiver_14 : decode cX1_layRiver 14 = .ok (.iload_n 3, 1) := by decide +kernel
theorem dX1_layRiver_15 : decode cX1_layRiver 15 = .ok (.iaload, 1) := by decide +kernel
theorem dX1_layRiver_16 : decode cX1_layRiver 16 = .ok (.istore 4, 2) := by decide +kernel
theorem dX1_layRiver_18 : decode cX1_layRiver 18 = .ok (.iload 4, 2) := by decide +kernel
theorem dX1_layRiver_20 : decode cX1_layRiver 20 = .ok (.ifCond .lt 30, 3) := by decide +kernel
theorem dX1_layRiver_23 : decode cX1_layRiver 23 = .ok (.iload 4, 2) := by decide +kernel
theorem dX1_layRiver_25 : decode cX1_layRiver 25 = .ok (.sipush 144, 3) := by decide +kernel
theorem dX1_layRiver_28 : decode cX1_layRiver 28 = .ok (.if_icmp .ge 22, 3) := by decide +kernel
theorem dX1_layRiver_31 : decode cX1_layRiver 31 = .ok (.aload_n 0, 1) := by decide +kernel
theorem dX1_layRiver_32 : decode cX1_layRiver 32 = .ok (.getfield 15, 3) := by decide +kernel
theorem dX1_layRiver_35 : decode cX1_layRiver 35 = .ok (.iload 4, 2) := by decide +kernel
theorem dX1_layRiver_37 : decode cX1_layRiver 37 = .ok (.aload_n 0, 1) := by decide +kernel
theorem dX1_layRiver_38 : decode cX1_layRiver 38 = .ok (.getfield 29, 3) := by decide +kernel
theorem dX1_layRiver_41 : decode cX1_layRiver 41 = .ok (.iastore, 1) := by decide +kernel
theorem dX1_layRiver_42 : decode cX1_layRiver 42 = .ok (.aload_n 0, 1) := by decide +kernel
theorem dX1_layRiver_43 : decode cX1_layRiver 43 = .ok (.getfield 19, 3) := by decide +kernel
theorem dX1_layRiver_46 : decode cX1_layRiver 46 = .ok (.iload 4, 2) := by decide +kernel
theorem dX1_layRiver_48 : decode cX1_layRiver 48 = .ok (.iload_n 3, 1) := by decide +kernel
theorem dX1_layRiver_49 : decode cX1_layRiver 49 = .ok (.iastore, 1) := by decide +kernel
theorem dX1_layRiver_50 : decode cX1_layRiver 50 = .ok (.iinc 3 1, 3) := by decide +kernel
theorem dX1_layRiver_53 : decode cX1_layRiver 53 = .ok (.goto (-51), 3) := by decide +kernel
theorem dX1_layRiver_56 : decode cX1_layRiver 56 = .ok (.aload_n 0, 1) := by decide +kernel
theorem dX1_layRiver_57 : decode cX1_layRiver 57 = .ok (.dup, 1) := by decide +kernel
theorem dX1_layRiver_58 : decode cX1_layRiver 58 = .ok (.getfield 29, 3) := by decide +kernel
theorem dX1_layRiver_61 : decode cX1_layRiver 61 = .ok (.iconst 1, 1) := by decide +kernel
theorem dX1_layRiver_62 : decode cX1_layRiver 62 = .ok (.iadd, 1) := by decide +kernel
theorem dX1_layRiver_63 : decode cX1_layRiver 63 = .ok (.putfield 29, 3) := by decide +kernel
theorem dX1_layRiver_66 : decode cX1_layRiver 66 = .ok (.return_, 1) := by decide +kernel
theorem dX1_dryRiver_0 : decode cX1_dryRiver 0 = .ok (.iconst 0, 1) := by decide +kernel
theorem dX1_dryRiver_1 : decode cX1_dryRiver 1 = .ok (.istore_n 2, 1) := by decide +kernel
theorem dX1_dryRiver_2 : decode cX1_dryRiver 2 = .ok (.iconst 0, 1) := by decide +kernel
theorem dX1_dryRiver_3 : decode cX1_dryRiver 3 = .ok (.istore_n 3, 1) := by decide +kernel
theorem dX1_dryRiver_4 : decode cX1_dryRiver 4 = .ok (.iload_n 3, 1) := by decide +kernel
theorem dX1_dryRiver_5 : decode cX1_dryRiver 5 = .ok (.sipush 144, 3) := by decide +kernel
theorem dX1_dryRiver_8 : decode cX1_dryRiver 8 = .ok (.if_icmp .ge 59, 3) := by decide +kernel
theorem dX1_dryRiver_11 : decode cX1_dryRiver 11 = .ok (.aload_n 0, 1) := by decide +kernel
theorem dX1_dryRiver_12 : decode cX1_dryRiver 12 = .ok (.getfield 15, 3) := by decide +kernel
theorem dX1_dryRiver_15 : decode cX1_dryRiver 15 = .ok (.iload_n 3, 1) := by decide +kernel
theorem dX1_dryRiver_16 : decode cX1_dryRiver 16 = .ok (.iaload, 1) := by decide +kernel
theorem dX1_dryRiver_17 : decode cX1_dryRiver 17 = .ok (.iload_n 1, 1) := by decide +kernel
theorem dX1_dryRiver_18 : decode cX1_dryRiver 18 = .ok (.if_icmp .ne 23, 3) := by decide +kernel
theorem dX1_dryRiver_21 : decode cX1_dryRiver 21 = .ok (.aload_n 0, 1) := by decide +kernel
theorem dX1_dryRiver_22 : decode cX1_dryRiver 22 = .ok (.getfield 15, 3) := by decide +kernel
theorem dX1_dryRiver_25 : decode cX1_dryRiver 25 = .ok (.iload_n 3, 1) := by decide +kernel
theorem dX1_dryRiver_26 : decode cX1_dryRiver 26 = .ok (.iconst (-1), 1) := by decide +kernel
theorem dX1_dryRiver_27 : decode cX1_dryRiver 27 = .ok (.iastore, 1) := by decide +kernel
theorem dX1_dryRiver_28 : decode cX1_dryRiver 28 = .ok (.aload_n 0, 1) := by decide +kernel
theorem dX1_dryRiver_29 : decode cX1_dryRiver 29 = .ok (.getfield 19, 3) := by decide +kernel
theorem dX1_dryRiver_32 : decode cX1_dryRiver 32 = .ok (.iload_n 3, 1) := by decide +kernel
theorem dX1_dryRiver_33 : decode cX1_dryRiver 33 = .ok (.iconst (-1), 1) := by decide +kernel
theorem dX1_dryRiver_34 : decode cX1_dryRiver 34 = .ok (.iastore, 1) := by decide +kernel
theorem dX1_dryRiver_35 : decode cX1_dryRiver 35 = .ok (.iinc 2 1, 3) := by decide +kernel
theorem dX1_dryRiver_38 : decode cX1_dryRiver 38 = .ok (.goto 23, 3) := by decide +kernel
theorem dX1_dryRiver_41 : decode cX1_dryRiver 41 = .ok (.aload_n 0, 1) := by decide +kernel
theorem dX1_dryRiver_42 : decode cX1_dryRiver 42 = .ok (.getfield 15, 3) := by decide +kernel
theorem dX1_dryRiver_45 : decode cX1_dryRiver 45 = .ok (.iload_n 3, 1) := by decide +kernel
theorem dX1_dryRiver_46 : decode cX1_dryRiver 46 = .ok (.iaload, 1) := by decide +kernel
theorem dX1_dryRiver_47 : decode cX1_dryRiver 47 = .ok (.iload_n 1, 1) := by decide +kernel
theorem dX1_dryRiver_48 : decode cX1_dryRiver 48 = .ok (.if_icmp .le 13, 3) := by decide +kernel
theorem dX1_dryRiver_51 : decode cX1_dryRiver 51 = .ok (.aload_n 0, 1) := by decide +kernel
theorem dX1_dryRiver_52 : decode cX1_dryRiver 52 = .ok (.getfield 15, 3) := by decide +kernel
theorem dX1_dryRiver_55 : decode cX1_dryRiver 55 = .ok (.iload_n 3, 1) := by decide +kernel
theorem dX1_dryRiver_56 : decode cX1_dryRiver 56 = .ok (.dup2, 1) := by decide +kernel
theorem dX1_dryRiver_57 : decode cX1_dryRiver 57 = .ok (.iaload, 1) := by decide +kernel
theorem dX1_dryRiver_58 : decode cX1_dryRiver 58 = .ok (.iconst 1, 1) := by decide +kernel
theorem dX1_dryRiver_59 : decode cX1_dryRiver 59 = .ok (.isub, 1) := by decide +kernel
theorem dX1_dryRiver_60 : decode cX1_dryRiver 60 = .ok (.iastore, 1) := by decide +kernel
theorem dX1_dryRiver_61 : decode cX1_dryRiver 61 = .ok (.iinc 3 1, 3) := by decide +kernel
theorem dX1_dryRiver_64 : decode cX1_dryRiver 64 = .ok (.goto (-60), 3) := by decide +kernel
theorem dX1_dryRiver_67 : decode cX1_dryRiver 67 = .ok (.aload_n 0, 1) := by decide +kernel
theorem dX1_dryRiver_68 : decode cX1_dryRiver 68 = .ok (.dup, 1) := by decide +kernel
theorem dX1_dryRiver_69 : decode cX1_dryRiver 69 = .ok (.getfield 29, 3) := by decide +kernel
theorem dX1_dryRiver_72 : decode cX1_dryRiver 72 = .ok (.iconst 1, 1) := by decide +kernel
theorem dX1_dryRiver_73 : decode cX1_dryRiver 73 = .ok (.isub, 1) := by decide +kernel
theorem dX1_dryRiver_74 : decode cX1_dryRiver 74 = .ok (.putfield 29, 3) := by decide +kernel
theorem dX1_dryRiver_77 : decode cX1_dryRiver 77 = .ok (.iload_n 2, 1) := by decide +kernel
theorem dX1_dryRiver_78 : decode cX1_dryRiver 78 = .ok (.ireturn, 1) := by decide +kernel
