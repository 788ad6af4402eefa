theorem dX6_init_0 : decode cX6_init 0 = .ok (.aload_n 0, 1) := by decide +kernel
theorem dX6_init_1 : decode cX6_init 1 = .ok (.invokespecial 3, 3) := by decide +kernel
theorem dX6_init_4 : decode cX6_init 4 = .ok (.aload_n 0, 1) := by decide +kernel
theorem dX6_init_5 : decode cX6_init 5 = .ok (.new 9, 3) := by decide +kernel
theorem dX6_init_8 : decode cX6_init 8 = .ok (.dup, 1) := by decide +kernel
theorem dX6_init_9 : decode cX6_init 9 = .ok (.invokespecial 11, 3) := by decide +kernel
theorem dX6_init_12 : decode cX6_init 12 = .ok (.putfield 12, 3) := by decide +kernel
theorem dX6_init_15 : decode cX6_init 15 = .ok (.aload_n 0, 1) := by decide +kernel
theorem dX6_init_16 : decode cX6_init 16 = .ok (.new 18, 3) := by decide +kernel
theorem dX6_init_19 : decode cX6_init 19 = .ok (.dup, 1) := by decide +kernel
theorem dX6_init_20 : decode cX6_init 20 = .ok (.invokespecial 20, 3) := by decide +kernel
theorem dX6_init_23 : decode cX6_init 23 = .ok (.putfield 21, 3) := by decide +kernel
theorem dX6_init_26 : decode cX6_init 26 = .ok (.aload_n 0, 1) := by decide +kernel
theorem dX6_init_27 : decode cX6_init 27 = .ok (.new 25, 3) := by decide +kernel
theorem dX6_init_30 : decode cX6_init 30 = .ok (.dup, 1) := by decide +kernel
theorem dX6_init_31 : decode cX6_init 31 = .ok (.invokespecial 27, 3) := by decide +kernel
theorem dX6_init_34 : decode cX6_init 34 = .ok (.putfield 28, 3) := by decide +kernel
theorem dX6_init_37 : decode cX6_init 37 = .ok (.aload_n 0, 1) := by decide +kernel
theorem dX6_init_38 : decode cX6_init 38 = .ok (.sipush 144, 3) := by decide +kernel
theorem dX6_init_41 : decode cX6_init 41 = .ok (.newarray .int, 2) := by decide +kernel
theorem dX6_init_43 : decode cX6_init 43 = .ok (.putfield 32, 3) := by decide +kernel
theorem dX6_init_46 : decode cX6_init 46 = .ok (.aload_n 0, 1) := by decide +kernel
theorem dX6_init_47 : decode cX6_init 47 = .ok (.sipush 144, 3) := by decide +kernel
theorem dX6_init_50 : decode cX6_init 50 = .ok (.newarray .int, 2) := by decide +kernel
theorem dX6_init_52 : decode cX6_init 52 = .ok (.putfield 36, 3) := by decide +kernel
theorem dX6_init_55 : decode cX6_init 55 = .ok (.return_, 1) := by decide +kernel
theorem dX6_beginSea_0 : decode cX6_beginSea 0 = .ok (.aload_n 0, 1) := by decide +kernel
theorem dX6_beginSea_1 : decode cX6_beginSea 1 = .ok (.getfield 12, 3) := by decide +kernel
theorem dX6_beginSea_4 : decode cX6_beginSea 4 = .ok (.iload_n 1, 1) := by decide +kernel
theorem dX6_beginSea_5 : decode cX6_beginSea 5 = .ok (.iload_n 2, 1) := by decide +kernel
theorem dX6_beginSea_6 : decode cX6_beginSea 6 = .ok (.invokevirtual 39, 3) := by decide +kernel
theorem dX6_beginSea_9 : decode cX6_beginSea 9 = .ok (.aload_n 0, 1) := by decide +kernel
theorem dX6_beginSea_10 : decode cX6_beginSea 10 = .ok (.getfield 21, 3) := by decide +kernel
theorem dX6_beginSea_13 : decode cX6_beginSea 13 = .ok (.invokevirtual 43, 3) := by decide +kernel
theorem dX6_beginSea_16 : decode cX6_beginSea 16 = .ok (.aload_n 0, 1) := by decide +kernel
theorem dX6_beginSea_17 : decode cX6_beginSea 17 = .ok (.getfield 28, 3) := by decide +kernel
theorem dX6_beginSea_20 : decode cX6_beginSea 20 = .ok (.invokevirtual 46, 3) := by decide +kernel
theorem dX6_beginSea_23 : decode cX6_beginSea 23 = .ok (.iconst 0, 1) := by decide +kernel
theorem dX6_beginSea_24 : decode cX6_beginSea 24 = .ok (.istore_n 3, 1) := by decide +kernel
theorem dX6_beginSea_25 : decode cX6_beginSea 25 = .ok (.iload_n 3, 1) := by decide +kernel
theorem dX6_beginSea_26 : decode cX6_beginSea 26 = .ok (.sipush 144, 3) := by decide +kernel
theorem dX6_beginSea_29 : decode cX6_beginSea 29 = .ok (.if_icmp .ge 23, 3) := by decide +kernel
theorem dX6_beginSea_32 : decode cX6_beginSea 32 = .ok (.aload_n 0, 1) := by decide +kernel
theorem dX6_beginSea_33 : decode cX6_beginSea 33 = .ok (.getfield 32, 3) := by decide +kernel
theorem dX6_beginSea_36 : decode cX6_beginSea 36 = .ok (.iload_n 3, 1) := by decide +kernel
theorem dX6_beginSea_37 : decode cX6_beginSea 37 = .ok (.iconst 0, 1) := by decide +kernel
theorem dX6_beginSea_38 : decode cX6_beginSea 38 = .ok (.iastore, 1) := by decide +kernel
theorem dX6_beginSea_39 : decode cX6_beginSea 39 = .ok (.aload_n 0, 1) := by decide +kernel
theorem dX6_beginSea_40 : decode cX6_beginSea 40 = .ok (.getfield 36, 3) := by decide +kernel
theorem dX6_beginSea_43 : decode cX6_beginSea 43 = .ok (.iload_n 3, 1) := by decide +kernel
theorem dX6_beginSea_44 : decode cX6_beginSea 44 = .ok (.iconst (-1), 1) := by decide +kernel
theorem dX6_beginSea_45 : decode cX6_beginSea 45 = .ok (.iastore, 1) := by decide +kernel
theorem dX6_beginSea_46 : decode cX6_beginSea 46 = .ok (.iinc 3 1, 3) := by decide +kernel
theorem dX6_beginSea_49 : decode cX6_beginSea 49 = .ok (.goto (-24), 3) := by decide +kernel
theorem dX6_beginSea_52 : decode cX6_beginSea 52 = .ok (.return_, 1) := by decide +kernel
theorem dX6_copyFrom_0 : decode cX6_copyFrom 0 = .ok (.aload_n 0, 1) := by decide +kernel
theorem dX6_copyFrom_1 : decode cX6_copyFrom 1 = .ok (.getfield 12, 3) := by decide +kernel
theorem dX6_copyFrom_4 : decode cX6_copyFrom 4 = .ok (.aload_n 1, 1) := by decide +kernel
theorem dX6_copyFrom_5 : decode cX6_copyFrom 5 = .ok (.getfield 12, 3) := by decide +kernel
theorem dX6_copyFrom_8 : decode cX6_copyFrom 8 = .ok (.invokevirtual 47, 3) := by decide +kernel
theorem dX6_copyFrom_11 : decode cX6_copyFrom 11 = .ok (.aload_n 0, 1) := by decide +kernel
theorem dX6_copyFrom_12 : decode cX6_copyFrom 12 = .ok (.getfield 21, 3) := by decide +kernel
theorem dX6_copyFrom_15 : decode cX6_copyFrom 15 = .ok (.aload_n 1, 1) := by decide +kernel
theorem dX6_copyFrom_16 : decode cX6_copyFrom 16 = .ok (.getfield 21, 3) := by decide +kernel
theorem dX6_copyFrom_19 : decode cX6_copyFrom 19 = .ok (.invokevirtual 51, 3) := by decide +kernel
theorem dX6_copyFrom_22 : decode cX6_copyFrom 22 = .ok (.aload_n 0, 1) := by decide +kernel
theorem dX6_copyFrom_23 : decode cX6_copyFrom 23 = .ok (.getfield 28, 3) := by decide +kernel
theorem dX6_copyFrom_26 : decode cX6_copyFrom 26 = .ok (.aload_n 1, 1) := by decide +kernel
theorem dX6_copyFrom_27 : decode cX6_copyFrom 27 = .ok (.getfield 28, 3) := by decide +kernel
theorem dX6_copyFrom_30 : decode cX6_copyFrom 30 = .ok (.invokevirtual 54, 3) := by decide +kernel
theorem dX6_copyFrom_33 : decode cX6_copyFrom 33 = .ok (.iconst 0, 1) := by decide +kernel
theorem dX6_copyFrom_34 : decode cX6_copyFrom 34 = .ok (.istore_n 2, 1) := by decide +kernel
theorem dX6_copyFrom_35 : decode cX6_copyFrom 35 = .ok (.iload_n 2, 1) := by decide +kernel
theorem dX6_copyFrom_36 : decode cX6_copyFrom 36 = .ok (.sipush 144, 3) := by decide +kernel
theorem dX6_copyFrom_39 : decode cX6_copyFrom 39 = .ok (.if_icmp .ge 33, 3) := by decide +kernel
theorem dX6_copyFrom_42 : decode cX6_copyFrom 42 = .ok (.aload_n 0, 1) := by decide +kernel
theorem dX6_copyFrom_43 : decode cX6_copyFrom 43 = .ok (.getfield 32, 3) := by decide +kernel
theorem dX6_copyFrom_46 : decode cX6_copyFrom 46 = .ok (.iload_n 2, 1) := by decide +kernel
theorem dX6_copyFrom_47 : decode cX6_copyFrom 47 = .ok (.aload_n 1, 1) := by decide +kernel
theorem dX6_copyFrom_48 : decode cX6_copyFrom 48 = .ok (.getfield 32, 3) := by decide +kernel
theorem dX6_copyFrom_51 : decode cX6_copyFrom 51 = .ok (.iload_n 2, 1) := by decide +kernel
theorem dX6_copyFrom_52 : decode cX6_copyFrom 52 = .ok (.iaload, 1) := by decide +kernel
theorem dX6_copyFrom_53 : decode cX6_copyFrom 53 = .ok (.iastore, 1) := by decide +kernel
theorem dX6_copyFrom_54 : decode cX6_copyFrom 54 = .ok (.aload_n 0, 1) := by decide +kernel
theorem dX6_copyFrom_55 : decode cX6_copyFrom 55 = .ok (.getfield 36, 3) := by decide +kernel
theorem dX6_copyFrom_58 : decode cX6_copyFrom 58 = .ok (.iload_n 2, 1) := by decide +kernel
theorem dX6_copyFrom_59 : decode cX6_copyFrom 59 = .ok (.aload_n 1, 1) := by decide +kernel
theorem dX6_copyFrom_60 : decode cX6_copyFrom 60 = .ok (.getfield 36, 3) := by decide +kernel
theorem dX6_copyFrom_63 : decode cX6_copyFrom 63 = .ok (.iload_n 2, 1) := by decide +kernel
theorem dX6_copyFrom_64 : decode cX6_copyFrom 64 = .ok (.iaload, 1) := by decide +kernel
theorem dX6_copyFrom_65 : decode cX6_copyFrom 65 = .ok (.iastore, 1) := by decide +kernel
theorem dX6_copyFrom_66 : decode cX6_copyFrom 66 = .ok (.iinc 2 1, 3) := by decide +kernel
theorem dX6_copyFrom_69 : decode cX6_copyFrom 69 = .ok (.goto (-34), 3) := by decide +kernel
theorem dX6_copyFrom_72 : decode cX6_copyFrom 72 = .ok (.return_, 1) := by decide +kernel
theorem dX6_namesIn_0 : decode cX6_namesIn 0 = .ok (.iload_n 1, 1) := by decide +kernel
theorem dX6_namesIn_1 : decode cX6_namesIn 1 = .ok (.ifCond .lt 19, 3) := by decide +kernel
theorem dX6_namesIn_4 : decode cX6_namesIn 4 = .ok (.iload_n 1, 1) := by decide +kernel
theorem dX6_namesIn_5 : decode cX6_namesIn 5 = .ok (.sipush 144, 3) := by decide +kernel
theorem dX6_namesIn_8 : decode cX6_namesIn 8 = .ok (.if_icmp .ge 12, 3) := by decide +kernel
theorem dX6_namesIn_11 : decode cX6_namesIn 11 = .ok (.aload_n 0, 1) := by decide +kernel
theorem dX6_namesIn_12 : decode cX6_namesIn 12 = .ok (.getfield 32, 3) := by decide +kernel
theorem dX6_namesIn_15 : decode cX6_namesIn 15 = .ok (.iload_n 1, 1) := by decide +kernel
theorem dX6_namesIn_16 : decode cX6_namesIn 16 = .ok (.iaload, 1) := by decide +kernel
theorem dX6_namesIn_17 : decode cX6_namesIn 17 = .ok (.goto 4, 3) := by decide +kernel
theorem dX6_namesIn_20 : decode cX6_namesIn 20 = .ok (.iconst 0, 1) := by decide +kernel
theorem dX6_namesIn_21 : decode cX6_namesIn 21 = .ok (.ireturn, 1) := by decide +kernel
theorem dX6_letterIn_0 : decode cX6_letterIn 0 = .ok (.aload_n 0, 1) := by decide +kernel
theorem dX6_letterIn_1 : decode cX6_letterIn 1 = .ok (.iload_n 1, 1) := by decide +kernel
theorem dX6_letterIn_2 : decode cX6_letterIn 2 = .ok (.invokevirtual 57, 3) := by decide +kernel
theorem dX6_letterIn_5 : decode cX6_letterIn 5 = .ok (.ifCond .eq 12, 3) := by decide +kernel
theorem dX6_letterIn_8 : decode cX6_letterIn 8 = .ok (.aload_n 0, 1) := by decide +kernel
theorem dX6_letterIn_9 : decode cX6_letterIn 9 = .ok (.getfield 36, 3) := by decide +kernel
theorem dX6_letterIn_12 : decode cX6_letterIn 12 = .ok (.iload_n 1, 1) := by decide +kernel
theorem dX6_letterIn_13 : decode cX6_letterIn 13 = .ok (.iaload, 1) := by decide +kernel
theorem dX6_letterIn_14 : decode cX6_letterIn 14 = .ok (.goto 4, 3) := by decide +kernel
theorem dX6_letterIn_17 : decode cX6_letterIn 17 = .ok (.iconst (-1), 1) := by decide +kernel
theorem dX6_letterIn_18 : decode cX6_letterIn 18 = .ok (.ireturn, 1) := by decide +kernel
theorem dX6_isOpen_0 : decode cX6_isOpen 0 = .ok (.aload_n 0, 1) := by decide +kernel
theorem dX6_isOpen_1 : decode cX6_isOpen 1 = .ok (.getfield 12, 3) := by decide +kernel
theorem dX6_isOpen_4 : decode cX6_isOpen 4 = .ok (.iload_n 1, 1) := by decide +kernel
theorem dX6_isOpen_5 : decode cX6_isOpen 5 = .ok (.invokevirtual 61, 3) := by decide +kernel
theorem dX6_isOpen_8 : decode cX6_isOpen 8 = .ok (.ifCond .eq 30, 3) := by decide +kernel
theorem dX6_isOpen_11 : decode cX6_isOpen 11 = .ok (.aload_n 0, 1) := by decide +kernel
theorem dX6_isOpen_12 : decode cX6_isOpen 12 = .ok (.getfield 12, 3) := by decide +kernel
theorem dX6_isOpen_15 : decode cX6_isOpen 15 = .ok (.iload_n 1, 1) := by decide +kernel
theorem dX6_isOpen_16 : decode cX6_isOpen 16 = .ok (.invokevirtual 65, 3) := by decide +kernel
theorem dX6_isOpen_19 : decode cX6_isOpen 19 = .ok (.ifCond .ne 19, 3) := by decide +kernel
theorem dX6_isOpen_22 : decode cX6_isOpen 22 = .ok (.aload_n 0, 1) := by decide +kernel
theorem dX6_isOpen_23 : decode cX6_isOpen 23 = .ok (.getfield 21, 3) := by decide +kernel
theorem dX6_isOpen_26 : decode cX6_isOpen 26 = .ok (.iload_n 1, 1) := by decide +kernel
theorem dX6_isOpen_27 : decode cX6_isOpen 27 = .ok (.invokevirtual 68, 3) := by decide +kernel
theorem dX6_isOpen_30 : decode cX6_isOpen 30 = .ok (.iconst (-1), 1) := by decide +kernel
theorem dX6_isOpen_31 : decode cX6_isOpen 31 = .ok (.if_icmp .ne 7, 3) := by decide +kernel
theorem dX6_isOpen_34 : decode cX6_isOpen 34 = .ok (.iconst 1, 1) := by decide +kernel
theorem dX6_isOpen_35 : decode cX6_isOpen 35 = .ok (.goto 4, 3) := by decide +kernel
theorem dX6_isOpen_38 : decode cX6_isOpen 38 = .ok (.iconst 0, 1) := by decide +kernel
theorem dX6_isOpen_39 : decode cX6_isOpen 39 = .ok (.ireturn, 1) := by decide +kernel
theorem dX6_reasonAgainst_0 : decode cX6_reasonAgainst 0 = .ok (.aload_n 0, 1) := by decide +kernel
theorem dX6_reasonAgainst_1 : decode cX6_reasonAgainst 1 = .ok (.iload_n 1, 1) := by decide +kernel
theorem dX6_reasonAgainst_2 : decode cX6_reasonAgainst 2 = .ok (.iload_n 2, 1) := by decide +kernel
theorem dX6_reasonAgainst_3 : decode cX6_reasonAgainst 3 = .ok (.iconst (-1), 1) := by decide +kernel
theorem dX6_reasonAgainst_4 : decode cX6_reasonAgainst 4 = .ok (.invokevirtual 71, 3) := by decide +kernel
theorem dX6_reasonAgainst_7 : decode cX6_reasonAgainst 7 = .ok (.istore_n 3, 1) := by decide +kernel
theorem dX6_reasonAgainst_8 : decode cX6_reasonAgainst 8 = .ok (.iload_n 3, 1) := by decide +kernel
theorem dX6_reasonAgainst_9 : decode cX6_reasonAgainst 9 = .ok (.ifCond .eq 5, 3) := by decide +kernel
theorem dX6_reasonAgainst_12 : decode cX6_reasonAgainst 12 = .ok (.iload_n 3, 1) := by decide +kernel
theorem dX6_reasonAgainst_13 : decode cX6_reasonAgainst 13 = .ok (.ireturn, 1) := by decide +kernel
theorem dX6_reasonAgainst_14 : decode cX6_reasonAgainst 14 = .ok (.aload_n 0, 1) := by decide +kernel
theorem dX6_reasonAgainst_15 : decode cX6_reasonAgainst 15 = .ok (.iload_n 1, 1) := by decide +kernel
theorem dX6_reasonAgainst_16 : decode cX6_reasonAgainst 16 = .ok (.iload_n 2, 1) := by decide +kernel
theorem dX6_reasonAgainst_17 : decode cX6_reasonAgainst 17 = .ok (.invokevirtual 75, 3) := by decide +kernel
theorem dX6_reasonAgainst_20 : decode cX6_reasonAgainst 20 = .ok (.ifCond .eq 8, 3) := by decide +kernel
theorem dX6_reasonAgainst_23 : decode cX6_reasonAgainst 23 = .ok (.bipush 6, 2) := by decide +kernel
theorem dX6_reasonAgainst_25 : decode cX6_reasonAgainst 25 = .ok (.goto 4, 3) := by decide +kernel
theorem dX6_reasonAgainst_28 : decode cX6_reasonAgainst 28 = .ok (.iconst 0, 1) := by decide +kernel
theorem dX6_reasonAgainst_29 : decode cX6_reasonAgainst 29 = .ok (.ireturn, 1) := by decide +kernel
theorem dX6_groundReason_0 : decode cX6_groundReason 0 = .ok (.aload_n 0, 1) := by decide +kernel
theorem dX6_groundReason_1 : decode cX6_groundReason 1 = .ok (.getfield 21, 3) := by decide +kernel
theorem dX6_groundReason_4 : decode cX6_groundReason 4 = .ok (.iload_n 1, 1) := by decide +kernel
theorem dX6_groundReason_5 : decode cX6_groundReason 5 = .ok (.invokevirtual 79, 3) := by decide +kernel
theorem dX6_groundReason_8 : decode cX6_groundReason 8 = .ok (.istore 4, 2) := by decide +kernel
theorem dX6_groundReason_10 : decode cX6_groundReason 10 = .ok (.aload_n 0, 1) := by decide +kernel
theorem dX6_groundReason_11 : decode cX6_groundReason 11 = .ok (.getfield 12, 3) := by decide +kernel
theorem dX6_groundReason_14 : decode cX6_groundReason 14 = .ok (.aload_n 0, 1) := by decide +kernel
theorem dX6_groundReason_15 : decode cX6_groundReason 15 = .ok (.getfield 12, 3) := by decide +kernel
theorem dX6_groundReason_18 : decode cX6_groundReason 18 = .ok (.iload 4, 2) := by decide +kernel
theorem dX6_groundReason_20 : decode cX6_groundReason 20 = .ok (.iload_n 2, 1) := by decide +kernel
theorem dX6_groundReason_21 : decode cX6_groundReason 21 = .ok (.iconst 2, 1) := by decide +kernel
theorem dX6_groundReason_22 : decode cX6_groundReason 22 = .ok (.iadd, 1) := by decide +kernel
theorem dX6_groundReason_23 : decode cX6_groundReason 23 = .ok (.iconst 4, 1) := by decide +kernel
theorem dX6_groundReason_24 : decode cX6_groundReason 24 = .ok (.irem, 1) := by decide +kernel
theorem dX6_groundReason_25 : decode cX6_groundReason 25 = .ok (.iconst 1, 1) := by decide +kernel
theorem dX6_groundReason_26 : decode cX6_groundReason 26 = .ok (.invokevirtual 82, 3) := by decide +kernel
theorem dX6_groundReason_29 : decode cX6_groundReason 29 = .ok (.invokevirtual 61, 3) := by decide +kernel
theorem dX6_groundReason_32 : decode cX6_groundReason 32 = .ok (.ifCond .eq 5, 3) := by decide +kernel
theorem dX6_groundReason_35 : decode cX6_groundReason 35 = .ok (.iconst 1, 1) := by decide +kernel
theorem dX6_groundReason_36 : decode cX6_groundReason 36 = .ok (.ireturn, 1) := by decide +kernel
theorem dX6_groundReason_37 : decode cX6_groundReason 37 = .ok (.iconst 0, 1) := by decide +kernel
theorem dX6_groundReason_38 : decode cX6_groundReason 38 = .ok (.istore 5, 2) := by decide +kernel
theorem dX6_groundReason_40 : decode cX6_groundReason 40 = .ok (.iconst 0, 1) := by decide +kernel
theorem dX6_groundReason_41 : decode cX6_groundReason 41 = .ok (.istore 6, 2) := by decide +kernel
theorem dX6_groundReason_43 : decode cX6_groundReason 43 = .ok (.iload 6, 2) := by decide +kernel
theorem dX6_groundReason_45 : decode cX6_groundReason 45 = .ok (.aload_n 0, 1) := by decide +kernel
theorem dX6_groundReason_46 : decode cX6_groundReason 46 = .ok (.getfield 21, 3) := by decide +kernel
theorem dX6_groundReason_49 : decode cX6_groundReason 49 = .ok (.iload_n 1, 1) := by decide +kernel
theorem dX6_groundReason_50 : decode cX6_groundReason 50 = .ok (.invokevirtual 85, 3) := by decide +kernel
theorem dX6_groundReason_53 : decode cX6_groundReason 53 = .ok (.if_icmp .ge 51, 3) := by decide +kernel
theorem dX6_groundReason_56 : decode cX6_groundReason 56 = .ok (.aload_n 0, 1) := by decide +kernel
theorem dX6_groundReason_57 : decode cX6_groundReason 57 = .ok (.aload_n 0, 1) := by decide +kernel
theorem dX6_groundReason_58 : decode cX6_groundReason 58 = .ok (.getfield 12, 3) := by decide +kernel
theorem dX6_groundReason_61 : decode cX6_groundReason 61 = .ok (.iload 4, 2) := by decide +kernel
theorem dX6_groundReason_63 : decode cX6_groundReason 63 = .ok (.iload_n 2, 1) := by decide +kernel
theorem dX6_groundReason_64 : decode cX6_groundReason 64 = .ok (.iload 6, 2) := by decide +kernel
theorem dX6_groundReason_66 : decode cX6_groundReason 66 = .ok (.iconst 1, 1) := by decide +kernel
theorem dX6_groundReason_67 : decode cX6_groundReason 67 = .ok (.iadd, 1) := by decide +kernel
theorem dX6_groundReason_68 : decode cX6_groundReason 68 = .ok (.invokevirtual 82, 3) := by decide +kernel
theorem dX6_groundReason_71 : decode cX6_groundReason 71 = .ok (.iload_n 3, 1) := by decide +kernel
theorem dX6_groundReason_72 : decode cX6_groundReason 72 = .ok (.invokevirtual 88, 3) := by decide +kernel
theorem dX6_groundReason_75 : decode cX6_groundReason 75 = .ok (.istore 7, 2) := by decide +kernel
theorem dX6_groundReason_77 : decode cX6_groundReason 77 = .ok (.iload 7, 2) := by decide +kernel
theorem dX6_groundReason_79 : decode cX6_groundReason 79 = .ok (.ifCond .eq 19, 3) := by decide +kernel
theorem dX6_groundReason_82 : decode cX6_groundReason 82 = .ok (.iload 5, 2) := by decide +kernel
theorem dX6_groundReason_84 : decode cX6_groundReason 84 = .ok (.ifCond .eq 10, 3) := by decide +kernel
theorem dX6_groundReason_87 : decode cX6_groundReason 87 = .ok (.iload 7, 2) := by decide +kernel
theorem dX6_groundReason_89 : decode cX6_groundReason 89 = .ok (.iload 5, 2) := by decide +kernel
theorem dX6_groundReason_91 : decode cX6_groundReason 91 = .ok (.if_icmp .ge 7, 3) := by decide +kernel
theorem dX6_groundReason_94 : decode cX6_groundReason 94 = .ok (.iload 7, 2) := by decide +kernel
theorem dX6_groundReason_96 : decode cX6_groundReason 96 = .ok (.istore 5, 2) := by decide +kernel
theorem dX6_groundReason_98 : decode cX6_groundReason 98 = .ok (.iinc 6 1, 3) := by decide +kernel
theorem dX6_groundReason_101 : decode cX6_groundReason 101 = .ok (.goto (-58), 3) := by decide +kernel
theorem dX6_groundReason_104 : decode cX6_groundReason 104 = .ok (.iload 5, 2) := by decide +kernel
theorem dX6_groundReason_106 : decode cX6_groundReason 106 = .ok (.ireturn, 1) := by decide +kernel
theorem dX6_cellReason_0 : decode cX6_cellReason 0 = .ok (.iload_n 1, 1) := by decide +kernel
theorem dX6_cellReason_1 : decode cX6_cellReason 1 = .ok (.iconst (-1), 1) := by decide +kernel
theorem dX6_cellReason_2 : decode cX6_cellReason 2 = .ok (.if_icmp .ne 5, 3) := by decide +kernel
theorem dX6_cellReason_5 : decode cX6_cellReason 5 = .ok (.iconst 2, 1) := by decide +kernel
theorem dX6_cellReason_6 : decode cX6_cellReason 6 = .ok (.ireturn, 1) := by decide +kernel
theorem dX6_cellReason_7 : decode cX6_cellReason 7 = .ok (.aload_n 0, 1) := by decide +kernel
theorem dX6_cellReason_8 : decode cX6_cellReason 8 = .ok (.getfield 12, 3) := by decide +kernel
theorem dX6_cellReason_11 : decode cX6_cellReason 11 = .ok (.iload_n 1, 1) := by decide +kernel
theorem dX6_cellReason_12 : decode cX6_cellReason 12 = .ok (.invokevirtual 61, 3) := by decide +kernel
theorem dX6_cellReason_15 : decode cX6_cellReason 15 = .ok (.ifCond .ne 5, 3) := by decide +kernel
theorem dX6_cellReason_18 : decode cX6_cellReason 18 = .ok (.iconst 3, 1) := by decide +kernel
theorem dX6_cellReason_19 : decode cX6_cellReason 19 = .ok (.ireturn, 1) := by decide +kernel
theorem dX6_cellReason_20 : decode cX6_cellReason 20 = .ok (.aload_n 0, 1) := by decide +kernel
theorem dX6_cellReason_21 : decode cX6_cellReason 21 = .ok (.getfield 12, 3) := by decide +kernel
theorem dX6_cellReason_24 : decode cX6_cellReason 24 = .ok (.iload_n 1, 1) := by decide +kernel
theorem dX6_cellReason_25 : decode cX6_cellReason 25 = .ok (.invokevirtual 65, 3) := by decide +kernel
theorem dX6_cellReason_28 : decode cX6_cellReason 28 = .ok (.ifCond .eq 5, 3) := by decide +kernel
theorem dX6_cellReason_31 : decode cX6_cellReason 31 = .ok (.iconst 4, 1) := by decide +kernel
theorem dX6_cellReason_32 : decode cX6_cellReason 32 = .ok (.ireturn, 1) := by decide +kernel
theorem dX6_cellReason_33 : decode cX6_cellReason 33 = .ok (.aload_n 0, 1) := by decide +kernel
theorem dX6_cellReason_34 : decode cX6_cellReason 34 = .ok (.getfield 21, 3) := by decide +kernel
theorem dX6_cellReason_37 : decode cX6_cellReason 37 = .ok (.iload_n 1, 1) := by decide +kernel
theorem dX6_cellReason_38 : decode cX6_cellReason 38 = .ok (.invokevirtual 68, 3) := by decide +kernel
theorem dX6_cellReason_41 : decode cX6_cellReason 41 = .ok (.istore_n 3, 1) := by decide +kernel
theorem dX6_cellReason_42 : decode cX6_cellReason 42 = .ok (.iload_n 3, 1) := by decide +kernel
theorem dX6_cellReason_43 : decode cX6_cellReason 43 = .ok (.iconst (-1), 1) := by decide +kernel
theorem dX6_cellReason_44 : decode cX6_cellReason 44 = .ok (.if_icmp .eq 12, 3) := by decide +kernel
theorem dX6_cellReason_47 : decode cX6_cellReason 47 = .ok (.iload_n 3, 1) := by decide +kernel
theorem dX6_cellReason_48 : decode cX6_cellReason 48 = .ok (.iload_n 2, 1) := by decide +kernel
theorem dX6_cellReason_49 : decode cX6_cellReason 49 = .ok (.if_icmp .eq 7, 3) := by decide +kernel
theorem dX6_cellReason_52 : decode cX6_cellReason 52 = .ok (.iconst 5, 1) := by decide +kernel
theorem dX6_cellReason_53 : decode cX6_cellReason 53 = .ok (.goto 4, 3) := by decide +kernel
theorem dX6_cellReason_56 : decode cX6_cellReason 56 = .ok (.iconst 0, 1) := by decide +kernel
theorem dX6_cellReason_57 : decode cX6_cellReason 57 = .ok (.ireturn, 1) := by decide +kernel
theorem dX6_meetsOthers_0 : decode cX6_meetsOthers 0 = .ok (.iconst 1, 1) := by decide +kernel
theorem dX6_meetsOthers_1 : decode cX6_meetsOthers 1 = .ok (.iload_n 1, 1) := by decide +kernel
theorem dX6_meetsOthers_2 : decode cX6_meetsOthers 2 = .ok (.ishl, 1) := by decide +kernel
theorem dX6_meetsOthers_3 : decode cX6_meetsOthers 3 = .ok (.istore_n 3, 1) := by decide +kernel
theorem dX6_meetsOthers_4 : decode cX6_meetsOthers 4 = .ok (.aload_n 0, 1) := by decide +kernel
theorem dX6_meetsOthers_5 : decode cX6_meetsOthers 5 = .ok (.getfield 21, 3) := by decide +kernel
theorem dX6_meetsOthers_8 : decode cX6_meetsOthers 8 = .ok (.iload_n 1, 1) := by decide +kernel
theorem dX6_meetsOthers_9 : decode cX6_meetsOthers 9 = .ok (.invokevirtual 79, 3) := by decide +kernel
theorem dX6_meetsOthers_12 : decode cX6_meetsOthers 12 = .ok (.istore 4, 2) := by decide +kernel
theorem dX6_meetsOthers_14 : decode cX6_meetsOthers 14 = .ok (.iconst 0, 1) := by decide +kernel
theorem dX6_meetsOthers_15 : decode cX6_meetsOthers 15 = .ok (.istore 5, 2) := by decide +kernel
theorem dX6_meetsOthers_17 : decode cX6_meetsOthers 17 = .ok (.iload 5, 2) := by decide +kernel
theorem dX6_meetsOthers_19 : decode cX6_meetsOthers 19 = .ok (.aload_n 0, 1) := by decide +kernel
theorem dX6_meetsOthers_20 : decode cX6_meetsOthers 20 = .ok (.getfield 21, 3) := by decide +kernel
theorem dX6_meetsOthers_23 : decode cX6_meetsOthers 23 = .ok (.iload_n 1, 1) := by decide +kernel
theorem dX6_meetsOthers_24 : decode cX6_meetsOthers 24 = .ok (.invokevirtual 85, 3) := by decide +kernel
theorem dX6_meetsOthers_27 : decode cX6_meetsOthers 27 = .ok (.if_icmp .ge 90, 3) := by decide +kernel
theorem dX6_meetsOthers_30 : decode cX6_meetsOthers 30 = .ok (.aload_n 0, 1) := by decide +kernel
theorem dX6_meetsOthers_31 : decode cX6_meetsOthers 31 = .ok (.getfield 12, 3) := by decide +kernel
theorem dX6_meetsOthers_34 : decode cX6_meetsOthers 34 = .ok (.iload 4, 2) := by decide +kernel
theorem dX6_meetsOthers_36 : decode cX6_meetsOthers 36 = .ok (.iload_n 2, 1) := by decide +kernel
theorem dX6_meetsOthers_37 : decode cX6_meetsOthers 37 = .ok (.iload 5, 2) := by decide +kernel
theorem dX6_meetsOthers_39 : decode cX6_meetsOthers 39 = .ok (.iconst 1, 1) := by decide +kernel
theorem dX6_meetsOthers_40 : decode cX6_meetsOthers 40 = .ok (.iadd, 1) := by decide +kernel
theorem dX6_meetsOthers_41 : decode cX6_meetsOthers 41 = .ok (.invokevirtual 82, 3) := by decide +kernel
theorem dX6_meetsOthers_44 : decode cX6_meetsOthers 44 = .ok (.istore 6, 2) := by decide +kernel
theorem dX6_meetsOthers_46 : decode cX6_meetsOthers 46 = .ok (.aload_n 0, 1) := by decide +kernel
theorem dX6_meetsOthers_47 : decode cX6_meetsOthers 47 = .ok (.iload 6, 2) := by decide +kernel
theorem dX6_meetsOthers_49 : decode cX6_meetsOthers 49 = .ok (.invokevirtual 57, 3) := by decide +kernel
theorem dX6_meetsOthers_52 : decode cX6_meetsOthers 52 = .ok (.iload_n 3, 1) := by decide +kernel
theorem dX6_meetsOthers_53 : decode cX6_meetsOthers 53 = .ok (.iconst (-1), 1) := by decide +kernel
theorem dX6_meetsOthers_54 : decode cX6_meetsOthers 54 = .ok (.ixor, 1) := by decide +kernel
theorem dX6_meetsOthers_55 : decode cX6_meetsOthers 55 = .ok (.iand, 1) := by decide +kernel
theorem dX6_meetsOthers_56 : decode cX6_meetsOthers 56 = .ok (.istore 7, 2) := by decide +kernel
theorem dX6_meetsOthers_58 : decode cX6_meetsOthers 58 = .ok (.iload 7, 2) := by decide +kernel
theorem dX6_meetsOthers_60 : decode cX6_meetsOthers 60 = .ok (.iload_n 3, 1) := by decide +kernel
theorem dX6_meetsOthers_61 : decode cX6_meetsOthers 61 = .ok (.ior, 1) := by decide +kernel
theorem dX6_meetsOthers_62 : decode cX6_meetsOthers 62 = .ok (.aload_n 0, 1) := by decide +kernel
theorem dX6_meetsOthers_63 : decode cX6_meetsOthers 63 = .ok (.getfield 21, 3) := by decide +kernel
theorem dX6_meetsOthers_66 : decode cX6_meetsOthers 66 = .ok (.getfield 92, 3) := by decide +kernel
theorem dX6_meetsOthers_69 : decode cX6_meetsOthers 69 = .ok (.iand, 1) := by decide +kernel
theorem dX6_meetsOthers_70 : decode cX6_meetsOthers 70 = .ok (.ifCond .eq 7, 3) := by decide +kernel
theorem dX6_meetsOthers_73 : decode cX6_meetsOthers 73 = .ok (.iconst 1, 1) := by decide +kernel
theorem dX6_meetsOthers_74 : decode cX6_meetsOthers 74 = .ok (.goto 4, 3) := by decide +kernel
theorem dX6_meetsOthers_77 : decode cX6_meetsOthers 77 = .ok (.iconst 0, 1) := by decide +kernel
theorem dX6_meetsOthers_78 : decode cX6_meetsOthers 78 = .ok (.istore 8, 2) := by decide +kernel
theorem dX6_meetsOthers_80 : decode cX6_meetsOthers 80 = .ok (.iload 7, 2) := by decide +kernel
theorem dX6_meetsOthers_82 : decode cX6_meetsOthers 82 = .ok (.ifCond .eq 29, 3) := by decide +kernel
theorem dX6_meetsOthers_85 : decode cX6_meetsOthers 85 = .ok (.iload 8, 2) := by decide +kernel
theorem dX6_meetsOthers_87 : decode cX6_meetsOthers 87 = .ok (.ifCond .ne 22, 3) := by decide +kernel
theorem dX6_meetsOthers_90 : decode cX6_meetsOthers 90 = .ok (.aload_n 0, 1) := by decide +kernel
theorem dX6_meetsOthers_91 : decode cX6_meetsOthers 91 = .ok (.iload 6, 2) := by decide +kernel
theorem dX6_meetsOthers_93 : decode cX6_meetsOthers 93 = .ok (.invokevirtual 96, 3) := by decide +kernel
theorem dX6_meetsOthers_96 : decode cX6_meetsOthers 96 = .ok (.aload_n 0, 1) := by decide +kernel
theorem dX6_meetsOthers_97 : decode cX6_meetsOthers 97 = .ok (.getfield 21, 3) := by decide +kernel
theorem dX6_meetsOthers_100 : decode cX6_meetsOthers 100 = .ok (.iload_n 1, 1) := by decide +kernel
theorem dX6_meetsOthers_101 : decode cX6_meetsOthers 101 = .ok (.iload 5, 2) := by decide +kernel
theorem dX6_meetsOthers_103 : decode cX6_meetsOthers 103 = .ok (.invokevirtual 99, 3) := by decide +kernel
theorem dX6_meetsOthers_106 : decode cX6_meetsOthers 106 = .ok (.if_icmp .eq 5, 3) := by decide +kernel
theorem dX6_meetsOthers_109 : decode cX6_meetsOthers 109 = .ok (.iconst 1, 1) := by decide +kernel
theorem dX6_meetsOthers_110 : decode cX6_meetsOthers 110 = .ok (.ireturn, 1) := by decide +kernel
theorem dX6_meetsOthers_111 : decode cX6_meetsOthers 111 = .ok (.iinc 5 1, 3) := by decide +kernel
theorem dX6_meetsOthers_114 : decode cX6_meetsOthers 114 = .ok (.goto (-97), 3) := by decide +kernel
theorem dX6_meetsOthers_117 : decode cX6_meetsOthers 117 = .ok (.iconst 0, 1) := by decide +kernel
theorem dX6_meetsOthers_118 : decode cX6_meetsOthers 118 = .ok (.ireturn, 1) := by decide +kernel
theorem dX6_putName_0 : decode cX6_putName 0 = .ok (.aload_n 0, 1) := by decide +kernel
theorem dX6_putName_1 : decode cX6_putName 1 = .ok (.iload_n 1, 1) := by decide +kernel
theorem dX6_putName_2 : decode cX6_putName 2 = .ok (.invokevirtual 102, 3) := by decide +kernel
theorem dX6_putName_5 : decode cX6_putName 5 = .ok (.aload_n 0, 1) := by decide +kernel
theorem dX6_putName_6 : decode cX6_putName 6 = .ok (.getfield 21, 3) := by decide +kernel
theorem dX6_putName_9 : decode cX6_putName 9 = .ok (.iload_n 1, 1) := by decide +kernel
theorem dX6_putName_10 : decode cX6_putName 10 = .ok (.invokevirtual 79, 3) := by decide +kernel
theorem dX6_putName_13 : decode cX6_putName 13 = .ok (.istore_n 3, 1) := by decide +kernel
theorem dX6_putName_14 : decode cX6_putName 14 = .ok (.iconst 0, 1) := by decide +kernel
theorem dX6_putName_15 : decode cX6_putName 15 = .ok (.istore 4, 2) := by decide +kernel
theorem dX6_putName_17 : decode cX6_putName 17 = .ok (.iload 4, 2) := by decide +kernel
theorem dX6_putName_19 : decode cX6_putName 19 = .ok (.aload_n 0, 1) := by decide +kernel
theorem dX6_putName_20 : decode cX6_putName 20 = .ok (.getfield 21, 3) := by decide +kernel
theorem dX6_putName_23 : decode cX6_putName 23 = .ok (.iload_n 1, 1) := by decide +kernel
theorem dX6_putName_24 : decode cX6_putName 24 = .ok (.invokevirtual 85, 3) := by decide +kernel
theorem dX6_putName_27 : decode cX6_putName 27 = .ok (.if_icmp .ge 67, 3) := by decide +kernel
theorem dX6_putName_30 : decode cX6_putName 30 = .ok (.aload_n 0, 1) := by decide +kernel
theorem dX6_putName_31 : decode cX6_putName 31 = .ok (.getfield 12, 3) := by decide +kernel
theorem dX6_putName_34 : decode cX6_putName 34 = .ok (.iload_n 3, 1) := by decide +kernel
theorem dX6_putName_35 : decode cX6_putName 35 = .ok (.iload_n 2, 1) := by decide +kernel
theorem dX6_putName_36 : decode cX6_putName 36 = .ok (.iload 4, 2) := by decide +kernel
theorem dX6_putName_38 : decode cX6_putName 38 = .ok (.iconst 1, 1) := by decide +kernel
theorem dX6_putName_39 : decode cX6_putName 39 = .ok (.iadd, 1) := by decide +kernel
theorem dX6_putName_40 : decode cX6_putName 40 = .ok (.invokevirtual 82, 3) := by decide +kernel
theorem dX6_putName_43 : decode cX6_putName 43 = .ok (.istore 5, 2) := by decide +kernel
theorem dX6_putName_45 : decode cX6_putName 45 = .ok (.iload 5, 2) := by decide +kernel
theorem dX6_putName_47 : decode cX6_putName 47 = .ok (.ifCond .lt 41, 3) := by decide +kernel
theorem dX6_putName_50 : decode cX6_putName 50 = .ok (.iload 5, 2) := by decide +kernel
theorem dX6_putName_52 : decode cX6_putName 52 = .ok (.sipush 144, 3) := by decide +kernel
theorem dX6_putName_55 : decode cX6_putName 55 = .ok (.if_icmp .ge 33, 3) := by decide +kernel
theorem dX6_putName_58 : decode cX6_putName 58 = .ok (.aload_n 0, 1) := by decide +kernel
theorem dX6_putName_59 : decode cX6_putName 59 = .ok (.getfield 32, 3) := by decide +kernel
theorem dX6_putName_62 : decode cX6_putName 62 = .ok (.iload 5, 2) := by decide +kernel
theorem dX6_putName_64 : decode cX6_putName 64 = .ok (.dup2, 1) := by decide +kernel
theorem dX6_putName_65 : decode cX6_putName 65 = .ok (.iaload, 1) := by decide +kernel
theorem dX6_putName_66 : decode cX6_putName 66 = .ok (.iconst 1, 1) := by decide +kernel
theorem dX6_putName_67 : decode cX6_putName 67 = .ok (.iload_n 1, 1) := by decide +kernel
theorem dX6_putName_68 : decode cX6_putName 68 = .ok (.ishl, 1) := by decide +kernel
theorem dX6_putName_69 : decode cX6_putName 69 = .ok (.ior, 1) := by decide +kernel
theorem dX6_putName_70 : decode cX6_putName 70 = .ok (.iastore, 1) := by decide +kernel
theorem dX6_putName_71 : decode cX6_putName 71 = .ok (.aload_n 0, 1) := by decide +kernel
theorem dX6_putName_72 : decode cX6_putName 72 = .ok (.getfield 36, 3) := by decide +kernel
theorem dX6_putName_75 : decode cX6_putName 75 = .ok (.iload 5, 2) := by decide +kernel
theorem dX6_putName_77 : decode cX6_putName 77 = .ok (.aload_n 0, 1) := by decide +kernel
theorem dX6_putName_78 : decode cX6_putName 78 = .ok (.getfield 21, 3) := by decide +kernel
theorem dX6_putName_81 : decode cX6_putName 81 = .ok (.iload_n 1, 1) := by decide +kernel
theorem dX6_putName_82 : decode cX6_putName 82 = .ok (.iload 4, 2) := by decide +kernel
theorem dX6_putName_84 : decode cX6_putName 84 = .ok (.invokevirtual 99, 3) := by decide +kernel
theorem dX6_putName_87 : decode cX6_putName 87 = .ok (.iastore, 1) := by decide +kernel
theorem dX6_putName_88 : decode cX6_putName 88 = .ok (.iinc 4 1, 3) := by decide +kernel
theorem dX6_putName_91 : decode cX6_putName 91 = .ok (.goto (-74), 3) := by decide +kernel
theorem dX6_putName_94 : decode cX6_putName 94 = .ok (.aload_n 0, 1) := by decide +kernel
theorem dX6_putName_95 : decode cX6_putName 95 = .ok (.getfield 21, 3) := by decide +kernel
theorem dX6_putName_98 : decode cX6_putName 98 = .ok (.iload_n 1, 1) := by decide +kernel
theorem dX6_putName_99 : decode cX6_putName 99 = .ok (.iload_n 2, 1) := by decide +kernel
theorem dX6_putName_100 : decode cX6_putName 100 = .ok (.invokevirtual 106, 3) := by decide +kernel
theorem dX6_putName_103 : decode cX6_putName 103 = .ok (.return_, 1) := by decide +kernel
theorem dX6_takeName_0 : decode cX6_takeName 0 = .ok (.aload_n 0, 1) := by decide +kernel
theorem dX6_takeName_1 : decode cX6_takeName 1 = .ok (.getfield 21, 3) := by decide +kernel
theorem dX6_takeName_4 : decode cX6_takeName 4 = .ok (.iload_n 1, 1) := by decide +kernel
theorem dX6_takeName_5 : decode cX6_takeName 5 = .ok (.invokevirtual 79, 3) := by decide +kernel
theorem dX6_takeName_8 : decode cX6_takeName 8 = .ok (.istore_n 2, 1) := by decide +kernel
theorem dX6_takeName_9 : decode cX6_takeName 9 = .ok (.aload_n 0, 1) := by decide +kernel
theorem dX6_takeName_10 : decode cX6_takeName 10 = .ok (.getfield 21, 3) := by decide +kernel
theorem dX6_takeName_13 : decode cX6_takeName 13 = .ok (.iload_n 1, 1) := by decide +kernel
theorem dX6_takeName_14 : decode cX6_takeName 14 = .ok (.invokevirtual 109, 3) := by decide +kernel
theorem dX6_takeName_17 : decode cX6_takeName 17 = .ok (.istore_n 3, 1) := by decide +kernel
theorem dX6_takeName_18 : decode cX6_takeName 18 = .ok (.iconst 0, 1) := by decide +kernel
theorem dX6_takeName_19 : decode cX6_takeName 19 = .ok (.istore 4, 2) := by decide +kernel
theorem dX6_takeName_21 : decode cX6_takeName 21 = .ok (.iload 4, 2) := by decide +kernel
theorem dX6_takeName_23 : decode cX6_takeName 23 = .ok (.aload_n 0, 1) := by decide +kernel
theorem dX6_takeName_24 : decode cX6_takeName 24 = .ok (.getfield 21, 3) := by decide +kernel
theorem dX6_takeName_27 : decode cX6_takeName 27 = .ok (.iload_n 1, 1) := by decide +kernel
theorem dX6_takeName_28 : decode cX6_takeName 28 = .ok (.invokevirtual 85, 3) := by decide +kernel
theorem dX6_takeName_31 : decode cX6_takeName 31 = .ok (.if_icmp .ge 57, 3) := by decide +kernel
theorem dX6_takeName_34 : decode cX6_takeName 34 = .ok (.iload_n 3, 1) := by decide +kernel
theorem dX6_takeName_35 : decode cX6_takeName 35 = .ok (.iconst (-1), 1) := by decide +kernel
theorem dX6_takeName_36 : decode cX6_takeName 36 = .ok (.if_icmp .eq 52, 3) := by decide +kernel
theorem dX6_takeName_39 : decode cX6_takeName 39 = .ok (.aload_n 0, 1) := by decide +kernel
theorem dX6_takeName_40 : decode cX6_takeName 40 = .ok (.getfield 12, 3) := by decide +kernel
theorem dX6_takeName_43 : decode cX6_takeName 43 = .ok (.iload_n 2, 1) := by decide +kernel
theorem dX6_takeName_44 : decode cX6_takeName 44 = .ok (.iload_n 3, 1) := by decide +kernel
theorem dX6_takeName_45 : decode cX6_takeName 45 = .ok (.iload 4, 2) := by decide +kernel
theorem dX6_takeName_47 : decode cX6_takeName 47 = .ok (.iconst 1, 1) := by decide +kernel
theorem dX6_takeName_48 : decode cX6_takeName 48 = .ok (.iadd, 1) := by decide +kernel
theorem dX6_takeName_49 : decode cX6_takeName 49 = .ok (.invokevirtual 82, 3) := by decide +kernel
theorem dX6_takeName_52 : decode cX6_takeName 52 = .ok (.istore 5, 2) := by decide +kernel
theorem dX6_takeName_54 : decode cX6_takeName 54 = .ok (.iload 5, 2) := by decide +kernel
theorem dX6_takeName_56 : decode cX6_takeName 56 = .ok (.ifCond .lt 26, 3) := by decide +kernel
theorem dX6_takeName_59 : decode cX6_takeName 59 = .ok (.iload 5, 2) := by decide +kernel
theorem dX6_takeName_61 : decode cX6_takeName 61 = .ok (.sipush 144, 3) := by decide +kernel
theorem dX6_takeName_64 : decode cX6_takeName 64 = .ok (.if_icmp .ge 18, 3) := by decide +kernel
theorem dX6_takeName_67 : decode cX6_takeName 67 = .ok (.aload_n 0, 1) := by decide +kernel
theorem dX6_takeName_68 : decode cX6_takeName 68 = .ok (.getfield 32, 3) := by decide +kernel
theorem dX6_takeName_71 : decode cX6_takeName 71 = .ok (.iload 5, 2) := by decide +kernel
theorem dX6_takeName_73 : decode cX6_takeName 73 = .ok (.dup2, 1) := by decide +kernel
theorem dX6_takeName_74 : decode cX6_takeName 74 = .ok (.iaload, 1) := by decide +kernel
theorem dX6_takeName_75 : decode cX6_takeName 75 = .ok (.iconst 1, 1) := by decide +kernel
theorem dX6_takeName_76 : decode cX6_takeName 76 = .ok (.iload_n 1, 1) := by decide +kernel
theorem dX6_takeName_77 : decode cX6_takeName 77 = .ok (.ishl, 1) := by decide +kernel
theorem dX6_takeName_78 : decode cX6_takeName 78 = .ok (.iconst (-1), 1) := by decide +kernel
theorem dX6_takeName_79 : decode cX6_takeName 79 = .ok (.ixor, 1) := by decide +kernel
theorem dX6_takeName_80 : decode cX6_takeName 80 = .ok (.iand, 1) := by decide +kernel
theorem dX6_takeName_81 : decode cX6_takeName 81 = .ok (.iastore, 1) := by decide +kernel
theorem dX6_takeName_82 : decode cX6_takeName 82 = .ok (.iinc 4 1, 3) := by decide +kernel
theorem dX6_takeName_85 : decode cX6_takeName 85 = .ok (.goto (-64), 3) := by decide +kernel
theorem dX6_takeName_88 : decode cX6_takeName 88 = .ok (.aload_n 0, 1) := by decide +kernel
theorem dX6_takeName_89 : decode cX6_takeName 89 = .ok (.getfield 21, 3) := by decide +kernel
theorem dX6_takeName_92 : decode cX6_takeName 92 = .ok (.iload_n 1, 1) := by decide +kernel
theorem dX6_takeName_93 : decode cX6_takeName 93 = .ok (.iconst (-1), 1) := by decide +kernel
theorem dX6_takeName_94 : decode cX6_takeName 94 = .ok (.invokevirtual 106, 3) := by decide +kernel
theorem dX6_takeName_97 : decode cX6_takeName 97 = .ok (.return_, 1) := by decide +kernel
theorem dX6_takeNames_0 : decode cX6_takeNames 0 = .ok (.iconst 0, 1) := by decide +kernel
theorem dX6_takeNames_1 : decode cX6_takeNames 1 = .ok (.istore_n 2, 1) := by decide +kernel
theorem dX6_takeNames_2 : decode cX6_takeNames 2 = .ok (.iload_n 2, 1) := by decide +kernel
theorem dX6_takeNames_3 : decode cX6_takeNames 3 = .ok (.aload_n 0, 1) := by decide +kernel
theorem dX6_takeNames_4 : decode cX6_takeNames 4 = .ok (.getfield 21, 3) := by decide +kernel
theorem dX6_takeNames_7 : decode cX6_takeNames 7 = .ok (.getfield 112, 3) := by decide +kernel
theorem dX6_takeNames_10 : decode cX6_takeNames 10 = .ok (.if_icmp .ge 23, 3) := by decide +kernel
theorem dX6_takeNames_13 : decode cX6_takeNames 13 = .ok (.iload_n 1, 1) := by decide +kernel
theorem dX6_takeNames_14 : decode cX6_takeNames 14 = .ok (.iload_n 2, 1) := by decide +kernel
theorem dX6_takeNames_15 : decode cX6_takeNames 15 = .ok (.ishr, 1) := by decide +kernel
theorem dX6_takeNames_16 : decode cX6_takeNames 16 = .ok (.iconst 1, 1) := by decide +kernel
theorem dX6_takeNames_17 : decode cX6_takeNames 17 = .ok (.iand, 1) := by decide +kernel
theorem dX6_takeNames_18 : decode cX6_takeNames 18 = .ok (.iconst 1, 1) := by decide +kernel
theorem dX6_takeNames_19 : decode cX6_takeNames 19 = .ok (.if_icmp .ne 8, 3) := by decide +kernel
theorem dX6_takeNames_22 : decode cX6_takeNames 22 = .ok (.aload_n 0, 1) := by decide +kernel
theorem dX6_takeNames_23 : decode cX6_takeNames 23 = .ok (.iload_n 2, 1) := by decide +kernel
theorem dX6_takeNames_24 : decode cX6_takeNames 24 = .ok (.invokevirtual 102, 3) := by decide +kernel
theorem dX6_takeNames_27 : decode cX6_takeNames 27 = .ok (.iinc 2 1, 3) := by decide +kernel
theorem dX6_takeNames_30 : decode cX6_takeNames 30 = .ok (.goto (-28), 3) := by decide +kernel
theorem dX6_takeNames_33 : decode cX6_takeNames 33 = .ok (.return_, 1) := by decide +kernel
theorem dX6_crossedBy_0 : decode cX6_crossedBy 0 = .ok (.aload_n 0, 1) := by decide +kernel
theorem dX6_crossedBy_1 : decode cX6_crossedBy 1 = .ok (.getfield 21, 3) := by decide +kernel
theorem dX6_crossedBy_4 : decode cX6_crossedBy 4 = .ok (.iload_n 1, 1) := by decide +kernel
theorem dX6_crossedBy_5 : decode cX6_crossedBy 5 = .ok (.invokevirtual 79, 3) := by decide +kernel
theorem dX6_crossedBy_8 : decode cX6_crossedBy 8 = .ok (.istore_n 2, 1) := by decide +kernel
theorem dX6_crossedBy_9 : decode cX6_crossedBy 9 = .ok (.aload_n 0, 1) := by decide +kernel
theorem dX6_crossedBy_10 : decode cX6_crossedBy 10 = .ok (.getfield 21, 3) := by decide +kernel
