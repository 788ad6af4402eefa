theorem dX9_was_23 : decode cX9_was 23 = .ok (.iconst 1, 1) := by decide +kernel
theorem dX9_was_24 : decode cX9_was 24 = .ok (.goto 4, 3) := by decide +kernel
theorem dX9_was_27 : decode cX9_was 27 = .ok (.iconst 0, 1) := by decide +kernel
theorem dX9_was_28 : decode cX9_was 28 = .ok (.istore_n 2, 1) := by decide +kernel
theorem dX9_was_29 : decode cX9_was 29 = .ok (.iconst 0, 1) := by decide +kernel
theorem dX9_was_30 : decode cX9_was 30 = .ok (.istore_n 3, 1) := by decide +kernel
theorem dX9_was_31 : decode cX9_was 31 = .ok (.iload_n 3, 1) := by decide +kernel
theorem dX9_was_32 : decode cX9_was 32 = .ok (.aload_n 1, 1) := by decide +kernel
theorem dX9_was_33 : decode cX9_was 33 = .ok (.invokevirtual 255, 3) := by decide +kernel
theorem dX9_was_36 : decode cX9_was 36 = .ok (.if_icmp .ge 38, 3) := by decide +kernel
theorem dX9_was_39 : decode cX9_was 39 = .ok (.iload_n 2, 1) := by decide +kernel
theorem dX9_was_40 : decode cX9_was 40 = .ok (.ifCond .eq 34, 3) := by decide +kernel
theorem dX9_was_43 : decode cX9_was 43 = .ok (.aload_n 0, 1) := by decide +kernel
theorem dX9_was_44 : decode cX9_was 44 = .ok (.getfield 50, 3) := by decide +kernel
theorem dX9_was_47 : decode cX9_was 47 = .ok (.aload_n 0, 1) := by decide +kernel
theorem dX9_was_48 : decode cX9_was 48 = .ok (.getfield 225, 3) := by decide +kernel
theorem dX9_was_51 : decode cX9_was 51 = .ok (.iload_n 3, 1) := by decide +kernel
theorem dX9_was_52 : decode cX9_was 52 = .ok (.iadd, 1) := by decide +kernel
theorem dX9_was_53 : decode cX9_was 53 = .ok (.iaload, 1) := by decide +kernel
theorem dX9_was_54 : decode cX9_was 54 = .ok (.aload_n 1, 1) := by decide +kernel
theorem dX9_was_55 : decode cX9_was 55 = .ok (.iload_n 3, 1) := by decide +kernel
theorem dX9_was_56 : decode cX9_was 56 = .ok (.invokevirtual 259, 3) := by decide +kernel
theorem dX9_was_59 : decode cX9_was 59 = .ok (.if_icmp .ne 7, 3) := by decide +kernel
theorem dX9_was_62 : decode cX9_was 62 = .ok (.iconst 1, 1) := by decide +kernel
theorem dX9_was_63 : decode cX9_was 63 = .ok (.goto 4, 3) := by decide +kernel
theorem dX9_was_66 : decode cX9_was 66 = .ok (.iconst 0, 1) := by decide +kernel
theorem dX9_was_67 : decode cX9_was 67 = .ok (.istore_n 2, 1) := by decide +kernel
theorem dX9_was_68 : decode cX9_was 68 = .ok (.iinc 3 1, 3) := by decide +kernel
theorem dX9_was_71 : decode cX9_was 71 = .ok (.goto (-40), 3) := by decide +kernel
theorem dX9_was_74 : decode cX9_was 74 = .ok (.iload_n 2, 1) := by decide +kernel
theorem dX9_was_75 : decode cX9_was 75 = .ok (.ireturn, 1) := by decide +kernel
theorem dX9_number_0 : decode cX9_number 0 = .ok (.aload_n 0, 1) := by decide +kernel
theorem dX9_number_1 : decode cX9_number 1 = .ok (.invokevirtual 237, 3) := by decide +kernel
theorem dX9_number_4 : decode cX9_number 4 = .ok (.ifCond .ne 5, 3) := by decide +kernel
theorem dX9_number_7 : decode cX9_number 7 = .ok (.iload_n 1, 1) := by decide +kernel
theorem dX9_number_8 : decode cX9_number 8 = .ok (.ireturn, 1) := by decide +kernel
theorem dX9_number_9 : decode cX9_number 9 = .ok (.aload_n 0, 1) := by decide +kernel
theorem dX9_number_10 : decode cX9_number 10 = .ok (.invokevirtual 249, 3) := by decide +kernel
theorem dX9_number_13 : decode cX9_number 13 = .ok (.invokestatic 263, 3) := by decide +kernel
theorem dX9_number_16 : decode cX9_number 16 = .ok (.ifCond .ne 14, 3) := by decide +kernel
theorem dX9_number_19 : decode cX9_number 19 = .ok (.aload_n 0, 1) := by decide +kernel
theorem dX9_number_20 : decode cX9_number 20 = .ok (.iconst 1, 1) := by decide +kernel
theorem dX9_number_21 : decode cX9_number 21 = .ok (.aload_n 0, 1) := by decide +kernel
theorem dX9_number_22 : decode cX9_number 22 = .ok (.getfield 225, 3) := by decide +kernel
theorem dX9_number_25 : decode cX9_number 25 = .ok (.invokevirtual 228, 3) := by decide +kernel
theorem dX9_number_28 : decode cX9_number 28 = .ok (.iload_n 1, 1) := by decide +kernel
theorem dX9_number_29 : decode cX9_number 29 = .ok (.ireturn, 1) := by decide +kernel
theorem dX9_number_30 : decode cX9_number 30 = .ok (.iconst 0, 1) := by decide +kernel
theorem dX9_number_31 : decode cX9_number 31 = .ok (.istore_n 3, 1) := by decide +kernel
theorem dX9_number_32 : decode cX9_number 32 = .ok (.aload_n 0, 1) := by decide +kernel
theorem dX9_number_33 : decode cX9_number 33 = .ok (.aload_n 0, 1) := by decide +kernel
theorem dX9_number_34 : decode cX9_number 34 = .ok (.getfield 231, 3) := by decide +kernel
theorem dX9_number_37 : decode cX9_number 37 = .ok (.invokevirtual 234, 3) := by decide +kernel
theorem dX9_number_40 : decode cX9_number 40 = .ok (.invokestatic 263, 3) := by decide +kernel
theorem dX9_number_43 : decode cX9_number 43 = .ok (.ifCond .eq 38, 3) := by decide +kernel
theorem dX9_number_46 : decode cX9_number 46 = .ok (.ldc 157, 2) := by decide +kernel
theorem dX9_number_48 : decode cX9_number 48 = .ok (.bipush 10, 2) := by decide +kernel
theorem dX9_number_50 : decode cX9_number 50 = .ok (.iload_n 3, 1) := by decide +kernel
theorem dX9_number_51 : decode cX9_number 51 = .ok (.imul, 1) := by decide +kernel
theorem dX9_number_52 : decode cX9_number 52 = .ok (.aload_n 0, 1) := by decide +kernel
theorem dX9_number_53 : decode cX9_number 53 = .ok (.aload_n 0, 1) := by decide +kernel
theorem dX9_number_54 : decode cX9_number 54 = .ok (.getfield 231, 3) := by decide +kernel
theorem dX9_number_57 : decode cX9_number 57 = .ok (.invokevirtual 234, 3) := by decide +kernel
theorem dX9_number_60 : decode cX9_number 60 = .ok (.iadd, 1) := by decide +kernel
theorem dX9_number_61 : decode cX9_number 61 = .ok (.bipush 48, 2) := by decide +kernel
theorem dX9_number_63 : decode cX9_number 63 = .ok (.isub, 1) := by decide +kernel
theorem dX9_number_64 : decode cX9_number 64 = .ok (.invokestatic 90, 3) := by decide +kernel
theorem dX9_number_67 : decode cX9_number 67 = .ok (.istore_n 3, 1) := by decide +kernel
theorem dX9_number_68 : decode cX9_number 68 = .ok (.aload_n 0, 1) := by decide +kernel
theorem dX9_number_69 : decode cX9_number 69 = .ok (.dup, 1) := by decide +kernel
theorem dX9_number_70 : decode cX9_number 70 = .ok (.getfield 231, 3) := by decide +kernel
theorem dX9_number_73 : decode cX9_number 73 = .ok (.iconst 1, 1) := by decide +kernel
theorem dX9_number_74 : decode cX9_number 74 = .ok (.iadd, 1) := by decide +kernel
theorem dX9_number_75 : decode cX9_number 75 = .ok (.putfield 231, 3) := by decide +kernel
theorem dX9_number_78 : decode cX9_number 78 = .ok (.goto (-46), 3) := by decide +kernel
theorem dX9_number_81 : decode cX9_number 81 = .ok (.aload_n 0, 1) := by decide +kernel
theorem dX9_number_82 : decode cX9_number 82 = .ok (.iload_n 3, 1) := by decide +kernel
theorem dX9_number_83 : decode cX9_number 83 = .ok (.i2l, 1) := by decide +kernel
theorem dX9_number_84 : decode cX9_number 84 = .ok (.iload_n 1, 1) := by decide +kernel
theorem dX9_number_85 : decode cX9_number 85 = .ok (.i2l, 1) := by decide +kernel
theorem dX9_number_86 : decode cX9_number 86 = .ok (.iload_n 2, 1) := by decide +kernel
theorem dX9_number_87 : decode cX9_number 87 = .ok (.i2l, 1) := by decide +kernel
theorem dX9_number_88 : decode cX9_number 88 = .ok (.invokestatic 78, 3) := by decide +kernel
theorem dX9_number_91 : decode cX9_number 91 = .ok (.ifCond .ne 7, 3) := by decide +kernel
theorem dX9_number_94 : decode cX9_number 94 = .ok (.iconst 1, 1) := by decide +kernel
theorem dX9_number_95 : decode cX9_number 95 = .ok (.goto 4, 3) := by decide +kernel
theorem dX9_number_98 : decode cX9_number 98 = .ok (.iconst 0, 1) := by decide +kernel
theorem dX9_number_99 : decode cX9_number 99 = .ok (.iconst 2, 1) := by decide +kernel
theorem dX9_number_100 : decode cX9_number 100 = .ok (.invokevirtual 266, 3) := by decide +kernel
theorem dX9_number_103 : decode cX9_number 103 = .ok (.aload_n 0, 1) := by decide +kernel
theorem dX9_number_104 : decode cX9_number 104 = .ok (.invokevirtual 237, 3) := by decide +kernel
theorem dX9_number_107 : decode cX9_number 107 = .ok (.ifCond .eq 7, 3) := by decide +kernel
theorem dX9_number_110 : decode cX9_number 110 = .ok (.iload_n 3, 1) := by decide +kernel
theorem dX9_number_111 : decode cX9_number 111 = .ok (.goto 4, 3) := by decide +kernel
theorem dX9_number_114 : decode cX9_number 114 = .ok (.iload_n 1, 1) := by decide +kernel
theorem dX9_number_115 : decode cX9_number 115 = .ok (.ireturn, 1) := by decide +kernel
theorem dX9_name_0 : decode cX9_name 0 = .ok (.aload_n 0, 1) := by decide +kernel
theorem dX9_name_1 : decode cX9_name 1 = .ok (.invokevirtual 270, 3) := by decide +kernel
theorem dX9_name_4 : decode cX9_name 4 = .ok (.aload_n 0, 1) := by decide +kernel
theorem dX9_name_5 : decode cX9_name 5 = .ok (.aload_n 0, 1) := by decide +kernel
theorem dX9_name_6 : decode cX9_name 6 = .ok (.getfield 231, 3) := by decide +kernel
theorem dX9_name_9 : decode cX9_name 9 = .ok (.aload_n 0, 1) := by decide +kernel
theorem dX9_name_10 : decode cX9_name 10 = .ok (.getfield 225, 3) := by decide +kernel
theorem dX9_name_13 : decode cX9_name 13 = .ok (.if_icmp .eq 17, 3) := by decide +kernel
theorem dX9_name_16 : decode cX9_name 16 = .ok (.aload_n 0, 1) := by decide +kernel
theorem dX9_name_17 : decode cX9_name 17 = .ok (.getfield 231, 3) := by decide +kernel
theorem dX9_name_20 : decode cX9_name 20 = .ok (.aload_n 0, 1) := by decide +kernel
theorem dX9_name_21 : decode cX9_name 21 = .ok (.getfield 225, 3) := by decide +kernel
theorem dX9_name_24 : decode cX9_name 24 = .ok (.isub, 1) := by decide +kernel
theorem dX9_name_25 : decode cX9_name 25 = .ok (.bipush 8, 2) := by decide +kernel
theorem dX9_name_27 : decode cX9_name 27 = .ok (.if_icmp .le 7, 3) := by decide +kernel
theorem dX9_name_30 : decode cX9_name 30 = .ok (.iconst 1, 1) := by decide +kernel
theorem dX9_name_31 : decode cX9_name 31 = .ok (.goto 4, 3) := by decide +kernel
theorem dX9_name_34 : decode cX9_name 34 = .ok (.iconst 0, 1) := by decide +kernel
theorem dX9_name_35 : decode cX9_name 35 = .ok (.iconst 1, 1) := by decide +kernel
theorem dX9_name_36 : decode cX9_name 36 = .ok (.invokevirtual 266, 3) := by decide +kernel
theorem dX9_name_39 : decode cX9_name 39 = .ok (.return_, 1) := by decide +kernel
theorem dX9_named_0 : decode cX9_named 0 = .ok (.iconst 0, 1) := by decide +kernel
theorem dX9_named_1 : decode cX9_named 1 = .ok (.istore_n 1, 1) := by decide +kernel
theorem dX9_named_2 : decode cX9_named 2 = .ok (.iload_n 1, 1) := by decide +kernel
theorem dX9_named_3 : decode cX9_named 3 = .ok (.aload_n 0, 1) := by decide +kernel
theorem dX9_named_4 : decode cX9_named 4 = .ok (.getfield 7, 3) := by decide +kernel
theorem dX9_named_7 : decode cX9_named 7 = .ok (.iconst 2, 1) := by decide +kernel
theorem dX9_named_8 : decode cX9_named 8 = .ok (.iaload, 1) := by decide +kernel
theorem dX9_named_9 : decode cX9_named 9 = .ok (.if_icmp .ge 92, 3) := by decide +kernel
theorem dX9_named_12 : decode cX9_named 12 = .ok (.aload_n 0, 1) := by decide +kernel
theorem dX9_named_13 : decode cX9_named 13 = .ok (.iload_n 1, 1) := by decide +kernel
theorem dX9_named_14 : decode cX9_named 14 = .ok (.iconst 3, 1) := by decide +kernel
theorem dX9_named_15 : decode cX9_named 15 = .ok (.invokevirtual 100, 3) := by decide +kernel
theorem dX9_named_18 : decode cX9_named 18 = .ok (.aload_n 0, 1) := by decide +kernel
theorem dX9_named_19 : decode cX9_named 19 = .ok (.getfield 231, 3) := by decide +kernel
theorem dX9_named_22 : decode cX9_named 22 = .ok (.aload_n 0, 1) := by decide +kernel
theorem dX9_named_23 : decode cX9_named 23 = .ok (.getfield 225, 3) := by decide +kernel
theorem dX9_named_26 : decode cX9_named 26 = .ok (.isub, 1) := by decide +kernel
theorem dX9_named_27 : decode cX9_named 27 = .ok (.if_icmp .ne 7, 3) := by decide +kernel
theorem dX9_named_30 : decode cX9_named 30 = .ok (.iconst 1, 1) := by decide +kernel
theorem dX9_named_31 : decode cX9_named 31 = .ok (.goto 4, 3) := by decide +kernel
theorem dX9_named_34 : decode cX9_named 34 = .ok (.iconst 0, 1) := by decide +kernel
theorem dX9_named_35 : decode cX9_named 35 = .ok (.istore_n 2, 1) := by decide +kernel
theorem dX9_named_36 : decode cX9_named 36 = .ok (.iconst 0, 1) := by decide +kernel
theorem dX9_named_37 : decode cX9_named 37 = .ok (.istore_n 3, 1) := by decide +kernel
theorem dX9_named_38 : decode cX9_named 38 = .ok (.iload_n 3, 1) := by decide +kernel
theorem dX9_named_39 : decode cX9_named 39 = .ok (.aload_n 0, 1) := by decide +kernel
theorem dX9_named_40 : decode cX9_named 40 = .ok (.getfield 231, 3) := by decide +kernel
theorem dX9_named_43 : decode cX9_named 43 = .ok (.aload_n 0, 1) := by decide +kernel
theorem dX9_named_44 : decode cX9_named 44 = .ok (.getfield 225, 3) := by decide +kernel
theorem dX9_named_47 : decode cX9_named 47 = .ok (.isub, 1) := by decide +kernel
theorem dX9_named_48 : decode cX9_named 48 = .ok (.if_icmp .ge 41, 3) := by decide +kernel
theorem dX9_named_51 : decode cX9_named 51 = .ok (.iload_n 2, 1) := by decide +kernel
theorem dX9_named_52 : decode cX9_named 52 = .ok (.ifCond .eq 37, 3) := by decide +kernel
theorem dX9_named_55 : decode cX9_named 55 = .ok (.aload_n 0, 1) := by decide +kernel
theorem dX9_named_56 : decode cX9_named 56 = .ok (.iload_n 1, 1) := by decide +kernel
theorem dX9_named_57 : decode cX9_named 57 = .ok (.iconst 4, 1) := by decide +kernel
theorem dX9_named_58 : decode cX9_named 58 = .ok (.iload_n 3, 1) := by decide +kernel
theorem dX9_named_59 : decode cX9_named 59 = .ok (.iadd, 1) := by decide +kernel
theorem dX9_named_60 : decode cX9_named 60 = .ok (.invokevirtual 100, 3) := by decide +kernel
theorem dX9_named_63 : decode cX9_named 63 = .ok (.aload_n 0, 1) := by decide +kernel
theorem dX9_named_64 : decode cX9_named 64 = .ok (.getfield 50, 3) := by decide +kernel
theorem dX9_named_67 : decode cX9_named 67 = .ok (.aload_n 0, 1) := by decide +kernel
theorem dX9_named_68 : decode cX9_named 68 = .ok (.getfield 225, 3) := by decide +kernel
theorem dX9_named_71 : decode cX9_named 71 = .ok (.iload_n 3, 1) := by decide +kernel
theorem dX9_named_72 : decode cX9_named 72 = .ok (.iadd, 1) := by decide +kernel
theorem dX9_named_73 : decode cX9_named 73 = .ok (.iaload, 1) := by decide +kernel
theorem dX9_named_74 : decode cX9_named 74 = .ok (.if_icmp .ne 7, 3) := by decide +kernel
theorem dX9_named_77 : decode cX9_named 77 = .ok (.iconst 1, 1) := by decide +kernel
theorem dX9_named_78 : decode cX9_named 78 = .ok (.goto 4, 3) := by decide +kernel
theorem dX9_named_81 : decode cX9_named 81 = .ok (.iconst 0, 1) := by decide +kernel
theorem dX9_named_82 : decode cX9_named 82 = .ok (.istore_n 2, 1) := by decide +kernel
theorem dX9_named_83 : decode cX9_named 83 = .ok (.iinc 3 1, 3) := by decide +kernel
theorem dX9_named_86 : decode cX9_named 86 = .ok (.goto (-48), 3) := by decide +kernel
theorem dX9_named_89 : decode cX9_named 89 = .ok (.iload_n 2, 1) := by decide +kernel
theorem dX9_named_90 : decode cX9_named 90 = .ok (.ifCond .eq 5, 3) := by decide +kernel
theorem dX9_named_93 : decode cX9_named 93 = .ok (.iload_n 1, 1) := by decide +kernel
theorem dX9_named_94 : decode cX9_named 94 = .ok (.ireturn, 1) := by decide +kernel
theorem dX9_named_95 : decode cX9_named 95 = .ok (.iinc 1 1, 3) := by decide +kernel
theorem dX9_named_98 : decode cX9_named 98 = .ok (.goto (-96), 3) := by decide +kernel
theorem dX9_named_101 : decode cX9_named 101 = .ok (.iconst (-1), 1) := by decide +kernel
theorem dX9_named_102 : decode cX9_named 102 = .ok (.ireturn, 1) := by decide +kernel
theorem dX9_reads_0 : decode cX9_reads 0 = .ok (.aload_n 0, 1) := by decide +kernel
theorem dX9_reads_1 : decode cX9_reads 1 = .ok (.invokevirtual 270, 3) := by decide +kernel
theorem dX9_reads_4 : decode cX9_reads 4 = .ok (.aload_n 0, 1) := by decide +kernel
theorem dX9_reads_5 : decode cX9_reads 5 = .ok (.aload_n 0, 1) := by decide +kernel
theorem dX9_reads_6 : decode cX9_reads 6 = .ok (.ldc_w 273, 3) := by decide +kernel
theorem dX9_reads_9 : decode cX9_reads 9 = .ok (.invokevirtual 275, 3) := by decide +kernel
theorem dX9_reads_12 : decode cX9_reads 12 = .ok (.ifCond .ne 7, 3) := by decide +kernel
theorem dX9_reads_15 : decode cX9_reads 15 = .ok (.iconst 1, 1) := by decide +kernel
theorem dX9_reads_16 : decode cX9_reads 16 = .ok (.goto 4, 3) := by decide +kernel
theorem dX9_reads_19 : decode cX9_reads 19 = .ok (.iconst 0, 1) := by decide +kernel
theorem dX9_reads_20 : decode cX9_reads 20 = .ok (.iconst 1, 1) := by decide +kernel
theorem dX9_reads_21 : decode cX9_reads 21 = .ok (.invokevirtual 266, 3) := by decide +kernel
theorem dX9_reads_24 : decode cX9_reads 24 = .ok (.aload_n 0, 1) := by decide +kernel
theorem dX9_reads_25 : decode cX9_reads 25 = .ok (.iconst 3, 1) := by decide +kernel
theorem dX9_reads_26 : decode cX9_reads 26 = .ok (.bipush 12, 2) := by decide +kernel
theorem dX9_reads_28 : decode cX9_reads 28 = .ok (.invokevirtual 279, 3) := by decide +kernel
theorem dX9_reads_31 : decode cX9_reads 31 = .ok (.istore_n 1, 1) := by decide +kernel
theorem dX9_reads_32 : decode cX9_reads 32 = .ok (.aload_n 0, 1) := by decide +kernel
theorem dX9_reads_33 : decode cX9_reads 33 = .ok (.iconst 3, 1) := by decide +kernel
theorem dX9_reads_34 : decode cX9_reads 34 = .ok (.bipush 12, 2) := by decide +kernel
theorem dX9_reads_36 : decode cX9_reads 36 = .ok (.invokevirtual 279, 3) := by decide +kernel
theorem dX9_reads_39 : decode cX9_reads 39 = .ok (.istore_n 2, 1) := by decide +kernel
theorem dX9_reads_40 : decode cX9_reads 40 = .ok (.aload_n 0, 1) := by decide +kernel
theorem dX9_reads_41 : decode cX9_reads 41 = .ok (.iload_n 1, 1) := by decide +kernel
theorem dX9_reads_42 : decode cX9_reads 42 = .ok (.iload_n 2, 1) := by decide +kernel
theorem dX9_reads_43 : decode cX9_reads 43 = .ok (.invokevirtual 60, 3) := by decide +kernel
theorem dX9_reads_46 : decode cX9_reads 46 = .ok (.aload_n 0, 1) := by decide +kernel
theorem dX9_reads_47 : decode cX9_reads 47 = .ok (.iconst 0, 1) := by decide +kernel
theorem dX9_reads_48 : decode cX9_reads 48 = .ok (.putfield 282, 3) := by decide +kernel
theorem dX9_reads_51 : decode cX9_reads 51 = .ok (.aload_n 0, 1) := by decide +kernel
theorem dX9_reads_52 : decode cX9_reads 52 = .ok (.invokevirtual 237, 3) := by decide +kernel
theorem dX9_reads_55 : decode cX9_reads 55 = .ok (.ifCond .eq 65, 3) := by decide +kernel
theorem dX9_reads_58 : decode cX9_reads 58 = .ok (.aload_n 0, 1) := by decide +kernel
theorem dX9_reads_59 : decode cX9_reads 59 = .ok (.invokevirtual 249, 3) := by decide +kernel
theorem dX9_reads_62 : decode cX9_reads 62 = .ok (.iconst (-1), 1) := by decide +kernel
theorem dX9_reads_63 : decode cX9_reads 63 = .ok (.if_icmp .eq 57, 3) := by decide +kernel
theorem dX9_reads_66 : decode cX9_reads 66 = .ok (.aload_n 0, 1) := by decide +kernel
theorem dX9_reads_67 : decode cX9_reads 67 = .ok (.aload_n 0, 1) := by decide +kernel
theorem dX9_reads_68 : decode cX9_reads 68 = .ok (.getfield 231, 3) := by decide +kernel
theorem dX9_reads_71 : decode cX9_reads 71 = .ok (.invokevirtual 234, 3) := by decide +kernel
theorem dX9_reads_74 : decode cX9_reads 74 = .ok (.bipush 59, 2) := by decide +kernel
theorem dX9_reads_76 : decode cX9_reads 76 = .ok (.if_icmp .eq 13, 3) := by decide +kernel
theorem dX9_reads_79 : decode cX9_reads 79 = .ok (.aload_n 0, 1) := by decide +kernel
theorem dX9_reads_80 : decode cX9_reads 80 = .ok (.iconst 1, 1) := by decide +kernel
theorem dX9_reads_81 : decode cX9_reads 81 = .ok (.aload_n 0, 1) := by decide +kernel
theorem dX9_reads_82 : decode cX9_reads 82 = .ok (.getfield 225, 3) := by decide +kernel
theorem dX9_reads_85 : decode cX9_reads 85 = .ok (.invokevirtual 228, 3) := by decide +kernel
theorem dX9_reads_88 : decode cX9_reads 88 = .ok (.return_, 1) := by decide +kernel
theorem dX9_reads_89 : decode cX9_reads 89 = .ok (.aload_n 0, 1) := by decide +kernel
theorem dX9_reads_90 : decode cX9_reads 90 = .ok (.dup, 1) := by decide +kernel
theorem dX9_reads_91 : decode cX9_reads 91 = .ok (.getfield 231, 3) := by decide +kernel
theorem dX9_reads_94 : decode cX9_reads 94 = .ok (.iconst 1, 1) := by decide +kernel
theorem dX9_reads_95 : decode cX9_reads 95 = .ok (.iadd, 1) := by decide +kernel
theorem dX9_reads_96 : decode cX9_reads 96 = .ok (.putfield 231, 3) := by decide +kernel
theorem dX9_reads_99 : decode cX9_reads 99 = .ok (.aload_n 0, 1) := by decide +kernel
theorem dX9_reads_100 : decode cX9_reads 100 = .ok (.dup, 1) := by decide +kernel
theorem dX9_reads_101 : decode cX9_reads 101 = .ok (.getfield 286, 3) := by decide +kernel
theorem dX9_reads_104 : decode cX9_reads 104 = .ok (.iconst 1, 1) := by decide +kernel
theorem dX9_reads_105 : decode cX9_reads 105 = .ok (.iadd, 1) := by decide +kernel
theorem dX9_reads_106 : decode cX9_reads 106 = .ok (.putfield 286, 3) := by decide +kernel
theorem dX9_reads_109 : decode cX9_reads 109 = .ok (.aload_n 0, 1) := by decide +kernel
theorem dX9_reads_110 : decode cX9_reads 110 = .ok (.invokevirtual 270, 3) := by decide +kernel
theorem dX9_reads_113 : decode cX9_reads 113 = .ok (.aload_n 0, 1) := by decide +kernel
theorem dX9_reads_114 : decode cX9_reads 114 = .ok (.invokevirtual 289, 3) := by decide +kernel
theorem dX9_reads_117 : decode cX9_reads 117 = .ok (.goto (-66), 3) := by decide +kernel
theorem dX9_reads_120 : decode cX9_reads 120 = .ok (.return_, 1) := by decide +kernel
theorem dX9_readsOne_0 : decode cX9_readsOne 0 = .ok (.aload_n 0, 1) := by decide +kernel
theorem dX9_readsOne_1 : decode cX9_readsOne 1 = .ok (.ldc_w 292, 3) := by decide +kernel
theorem dX9_readsOne_4 : decode cX9_readsOne 4 = .ok (.invokevirtual 275, 3) := by decide +kernel
theorem dX9_readsOne_7 : decode cX9_readsOne 7 = .ok (.ifCond .eq 36, 3) := by decide +kernel
theorem dX9_readsOne_10 : decode cX9_readsOne 10 = .ok (.aload_n 0, 1) := by decide +kernel
theorem dX9_readsOne_11 : decode cX9_readsOne 11 = .ok (.aload_n 0, 1) := by decide +kernel
theorem dX9_readsOne_12 : decode cX9_readsOne 12 = .ok (.getfield 7, 3) := by decide +kernel
theorem dX9_readsOne_15 : decode cX9_readsOne 15 = .ok (.iconst 2, 1) := by decide +kernel
theorem dX9_readsOne_16 : decode cX9_readsOne 16 = .ok (.iaload, 1) := by decide +kernel
theorem dX9_readsOne_17 : decode cX9_readsOne 17 = .ok (.aload_n 0, 1) := by decide +kernel
theorem dX9_readsOne_18 : decode cX9_readsOne 18 = .ok (.getfield 7, 3) := by decide +kernel
theorem dX9_readsOne_21 : decode cX9_readsOne 21 = .ok (.iconst 3, 1) := by decide +kernel
theorem dX9_readsOne_22 : decode cX9_readsOne 22 = .ok (.iaload, 1) := by decide +kernel
theorem dX9_readsOne_23 : decode cX9_readsOne 23 = .ok (.iadd, 1) := by decide +kernel
theorem dX9_readsOne_24 : decode cX9_readsOne 24 = .ok (.ifCond .le 7, 3) := by decide +kernel
theorem dX9_readsOne_27 : decode cX9_readsOne 27 = .ok (.iconst 1, 1) := by decide +kernel
theorem dX9_readsOne_28 : decode cX9_readsOne 28 = .ok (.goto 4, 3) := by decide +kernel
theorem dX9_readsOne_31 : decode cX9_readsOne 31 = .ok (.iconst 0, 1) := by decide +kernel
theorem dX9_readsOne_32 : decode cX9_readsOne 32 = .ok (.iconst 3, 1) := by decide +kernel
theorem dX9_readsOne_33 : decode cX9_readsOne 33 = .ok (.invokevirtual 266, 3) := by decide +kernel
theorem dX9_readsOne_36 : decode cX9_readsOne 36 = .ok (.aload_n 0, 1) := by decide +kernel
theorem dX9_readsOne_37 : decode cX9_readsOne 37 = .ok (.invokevirtual 294, 3) := by decide +kernel
theorem dX9_readsOne_40 : decode cX9_readsOne 40 = .ok (.goto 163, 3) := by decide +kernel
theorem dX9_readsOne_43 : decode cX9_readsOne 43 = .ok (.aload_n 0, 1) := by decide +kernel
theorem dX9_readsOne_44 : decode cX9_readsOne 44 = .ok (.ldc_w 297, 3) := by decide +kernel
theorem dX9_readsOne_47 : decode cX9_readsOne 47 = .ok (.invokevirtual 275, 3) := by decide +kernel
theorem dX9_readsOne_50 : decode cX9_readsOne 50 = .ok (.ifCond .eq 31, 3) := by decide +kernel
theorem dX9_readsOne_53 : decode cX9_readsOne 53 = .ok (.aload_n 0, 1) := by decide +kernel
theorem dX9_readsOne_54 : decode cX9_readsOne 54 = .ok (.aload_n 0, 1) := by decide +kernel
theorem dX9_readsOne_55 : decode cX9_readsOne 55 = .ok (.getfield 7, 3) := by decide +kernel
theorem dX9_readsOne_58 : decode cX9_readsOne 58 = .ok (.iconst 2, 1) := by decide +kernel
theorem dX9_readsOne_59 : decode cX9_readsOne 59 = .ok (.iaload, 1) := by decide +kernel
theorem dX9_readsOne_60 : decode cX9_readsOne 60 = .ok (.bipush 8, 2) := by decide +kernel
theorem dX9_readsOne_62 : decode cX9_readsOne 62 = .ok (.if_icmp .ne 7, 3) := by decide +kernel
theorem dX9_readsOne_65 : decode cX9_readsOne 65 = .ok (.iconst 1, 1) := by decide +kernel
theorem dX9_readsOne_66 : decode cX9_readsOne 66 = .ok (.goto 4, 3) := by decide +kernel
theorem dX9_readsOne_69 : decode cX9_readsOne 69 = .ok (.iconst 0, 1) := by decide +kernel
theorem dX9_readsOne_70 : decode cX9_readsOne 70 = .ok (.iconst 3, 1) := by decide +kernel
theorem dX9_readsOne_71 : decode cX9_readsOne 71 = .ok (.invokevirtual 266, 3) := by decide +kernel
theorem dX9_readsOne_74 : decode cX9_readsOne 74 = .ok (.aload_n 0, 1) := by decide +kernel
theorem dX9_readsOne_75 : decode cX9_readsOne 75 = .ok (.invokevirtual 299, 3) := by decide +kernel
theorem dX9_readsOne_78 : decode cX9_readsOne 78 = .ok (.goto 125, 3) := by decide +kernel
theorem dX9_readsOne_81 : decode cX9_readsOne 81 = .ok (.aload_n 0, 1) := by decide +kernel
theorem dX9_readsOne_82 : decode cX9_readsOne 82 = .ok (.ldc_w 302, 3) := by decide +kernel
theorem dX9_readsOne_85 : decode cX9_readsOne 85 = .ok (.invokevirtual 275, 3) := by decide +kernel
theorem dX9_readsOne_88 : decode cX9_readsOne 88 = .ok (.ifCond .eq 31, 3) := by decide +kernel
theorem dX9_readsOne_91 : decode cX9_readsOne 91 = .ok (.aload_n 0, 1) := by decide +kernel
theorem dX9_readsOne_92 : decode cX9_readsOne 92 = .ok (.aload_n 0, 1) := by decide +kernel
theorem dX9_readsOne_93 : decode cX9_readsOne 93 = .ok (.getfield 7, 3) := by decide +kernel
theorem dX9_readsOne_96 : decode cX9_readsOne 96 = .ok (.iconst 3, 1) := by decide +kernel
theorem dX9_readsOne_97 : decode cX9_readsOne 97 = .ok (.iaload, 1) := by decide +kernel
theorem dX9_readsOne_98 : decode cX9_readsOne 98 = .ok (.bipush 8, 2) := by decide +kernel
theorem dX9_readsOne_100 : decode cX9_readsOne 100 = .ok (.if_icmp .ne 7, 3) := by decide +kernel
theorem dX9_readsOne_103 : decode cX9_readsOne 103 = .ok (.iconst 1, 1) := by decide +kernel
theorem dX9_readsOne_104 : decode cX9_readsOne 104 = .ok (.goto 4, 3) := by decide +kernel
theorem dX9_readsOne_107 : decode cX9_readsOne 107 = .ok (.iconst 0, 1) := by decide +kernel
theorem dX9_readsOne_108 : decode cX9_readsOne 108 = .ok (.iconst 3, 1) := by decide +kernel
theorem dX9_readsOne_109 : decode cX9_readsOne 109 = .ok (.invokevirtual 266, 3) := by decide +kernel
theorem dX9_readsOne_112 : decode cX9_readsOne 112 = .ok (.aload_n 0, 1) := by decide +kernel
theorem dX9_readsOne_113 : decode cX9_readsOne 113 = .ok (.invokevirtual 304, 3) := by decide +kernel
theorem dX9_readsOne_116 : decode cX9_readsOne 116 = .ok (.goto 87, 3) := by decide +kernel
theorem dX9_readsOne_119 : decode cX9_readsOne 119 = .ok (.aload_n 0, 1) := by decide +kernel
theorem dX9_readsOne_120 : decode cX9_readsOne 120 = .ok (.ldc_w 307, 3) := by decide +kernel
theorem dX9_readsOne_123 : decode cX9_readsOne 123 = .ok (.invokevirtual 275, 3) := by decide +kernel
theorem dX9_readsOne_126 : decode cX9_readsOne 126 = .ok (.ifCond .eq 10, 3) := by decide +kernel
theorem dX9_readsOne_129 : decode cX9_readsOne 129 = .ok (.aload_n 0, 1) := by decide +kernel
theorem dX9_readsOne_130 : decode cX9_readsOne 130 = .ok (.invokevirtual 309, 3) := by decide +kernel
theorem dX9_readsOne_133 : decode cX9_readsOne 133 = .ok (.goto 70, 3) := by decide +kernel
theorem dX9_readsOne_136 : decode cX9_readsOne 136 = .ok (.aload_n 0, 1) := by decide +kernel
theorem dX9_readsOne_137 : decode cX9_readsOne 137 = .ok (.ldc_w 312, 3) := by decide +kernel
theorem dX9_readsOne_140 : decode cX9_readsOne 140 = .ok (.invokevirtual 275, 3) := by decide +kernel
theorem dX9_readsOne_143 : decode cX9_readsOne 143 = .ok (.ifCond .eq 24, 3) := by decide +kernel
theorem dX9_readsOne_146 : decode cX9_readsOne 146 = .ok (.aload_n 0, 1) := by decide +kernel
theorem dX9_readsOne_147 : decode cX9_readsOne 147 = .ok (.aload_n 0, 1) := by decide +kernel
theorem dX9_readsOne_148 : decode cX9_readsOne 148 = .ok (.getfield 282, 3) := by decide +kernel
theorem dX9_readsOne_151 : decode cX9_readsOne 151 = .ok (.iconst 3, 1) := by decide +kernel
theorem dX9_readsOne_152 : decode cX9_readsOne 152 = .ok (.invokevirtual 266, 3) := by decide +kernel
theorem dX9_readsOne_155 : decode cX9_readsOne 155 = .ok (.aload_n 0, 1) := by decide +kernel
theorem dX9_readsOne_156 : decode cX9_readsOne 156 = .ok (.iconst 1, 1) := by decide +kernel
theorem dX9_readsOne_157 : decode cX9_readsOne 157 = .ok (.putfield 282, 3) := by decide +kernel
theorem dX9_readsOne_160 : decode cX9_readsOne 160 = .ok (.aload_n 0, 1) := by decide +kernel
theorem dX9_readsOne_161 : decode cX9_readsOne 161 = .ok (.invokevirtual 314, 3) := by decide +kernel
theorem dX9_readsOne_164 : decode cX9_readsOne 164 = .ok (.goto 39, 3) := by decide +kernel
theorem dX9_readsOne_167 : decode cX9_readsOne 167 = .ok (.aload_n 0, 1) := by decide +kernel
theorem dX9_readsOne_168 : decode cX9_readsOne 168 = .ok (.ldc_w 317, 3) := by decide +kernel
theorem dX9_readsOne_171 : decode cX9_readsOne 171 = .ok (.invokevirtual 275, 3) := by decide +kernel
theorem dX9_readsOne_174 : decode cX9_readsOne 174 = .ok (.ifCond .eq 20, 3) := by decide +kernel
theorem dX9_readsOne_177 : decode cX9_readsOne 177 = .ok (.aload_n 0, 1) := by decide +kernel
theorem dX9_readsOne_178 : decode cX9_readsOne 178 = .ok (.iconst 0, 1) := by decide +kernel
theorem dX9_readsOne_179 : decode cX9_readsOne 179 = .ok (.iconst 3, 1) := by decide +kernel
theorem dX9_readsOne_180 : decode cX9_readsOne 180 = .ok (.invokevirtual 279, 3) := by decide +kernel
theorem dX9_readsOne_183 : decode cX9_readsOne 183 = .ok (.istore_n 1, 1) := by decide +kernel
theorem dX9_readsOne_184 : decode cX9_readsOne 184 = .ok (.aload_n 0, 1) := by decide +kernel
theorem dX9_readsOne_185 : decode cX9_readsOne 185 = .ok (.getfield 7, 3) := by decide +kernel
theorem dX9_readsOne_188 : decode cX9_readsOne 188 = .ok (.iconst 5, 1) := by decide +kernel
theorem dX9_readsOne_189 : decode cX9_readsOne 189 = .ok (.iload_n 1, 1) := by decide +kernel
theorem dX9_readsOne_190 : decode cX9_readsOne 190 = .ok (.iastore, 1) := by decide +kernel
theorem dX9_readsOne_191 : decode cX9_readsOne 191 = .ok (.goto 12, 3) := by decide +kernel
theorem dX9_readsOne_194 : decode cX9_readsOne 194 = .ok (.aload_n 0, 1) := by decide +kernel
theorem dX9_readsOne_195 : decode cX9_readsOne 195 = .ok (.iconst 1, 1) := by decide +kernel
theorem dX9_readsOne_196 : decode cX9_readsOne 196 = .ok (.aload_n 0, 1) := by decide +kernel
theorem dX9_readsOne_197 : decode cX9_readsOne 197 = .ok (.getfield 225, 3) := by decide +kernel
theorem dX9_readsOne_200 : decode cX9_readsOne 200 = .ok (.invokevirtual 228, 3) := by decide +kernel
theorem dX9_readsOne_203 : decode cX9_readsOne 203 = .ok (.return_, 1) := by decide +kernel
theorem dX9_readsLand_0 : decode cX9_readsLand 0 = .ok (.aload_n 0, 1) := by decide +kernel
theorem dX9_readsLand_1 : decode cX9_readsLand 1 = .ok (.iconst 0, 1) := by decide +kernel
theorem dX9_readsLand_2 : decode cX9_readsLand 2 = .ok (.aload_n 0, 1) := by decide +kernel
theorem dX9_readsLand_3 : decode cX9_readsLand 3 = .ok (.getfield 7, 3) := by decide +kernel
theorem dX9_readsLand_6 : decode cX9_readsLand 6 = .ok (.iconst 0, 1) := by decide +kernel
theorem dX9_readsLand_7 : decode cX9_readsLand 7 = .ok (.iaload, 1) := by decide +kernel
theorem dX9_readsLand_8 : decode cX9_readsLand 8 = .ok (.iconst 1, 1) := by decide +kernel
theorem dX9_readsLand_9 : decode cX9_readsLand 9 = .ok (.isub, 1) := by decide +kernel
theorem dX9_readsLand_10 : decode cX9_readsLand 10 = .ok (.invokevirtual 279, 3) := by decide +kernel
theorem dX9_readsLand_13 : decode cX9_readsLand 13 = .ok (.istore_n 1, 1) := by decide +kernel
theorem dX9_readsLand_14 : decode cX9_readsLand 14 = .ok (.aload_n 0, 1) := by decide +kernel
theorem dX9_readsLand_15 : decode cX9_readsLand 15 = .ok (.iconst 0, 1) := by decide +kernel
theorem dX9_readsLand_16 : decode cX9_readsLand 16 = .ok (.aload_n 0, 1) := by decide +kernel
theorem dX9_readsLand_17 : decode cX9_readsLand 17 = .ok (.getfield 7, 3) := by decide +kernel
theorem dX9_readsLand_20 : decode cX9_readsLand 20 = .ok (.iconst 1, 1) := by decide +kernel
theorem dX9_readsLand_21 : decode cX9_readsLand 21 = .ok (.iaload, 1) := by decide +kernel
theorem dX9_readsLand_22 : decode cX9_readsLand 22 = .ok (.iconst 1, 1) := by decide +kernel
theorem dX9_readsLand_23 : decode cX9_readsLand 23 = .ok (.isub, 1) := by decide +kernel
theorem dX9_readsLand_24 : decode cX9_readsLand 24 = .ok (.invokevirtual 279, 3) := by decide +kernel
theorem dX9_readsLand_27 : decode cX9_readsLand 27 = .ok (.istore_n 2, 1) := by decide +kernel
theorem dX9_readsLand_28 : decode cX9_readsLand 28 = .ok (.aload_n 0, 1) := by decide +kernel
theorem dX9_readsLand_29 : decode cX9_readsLand 29 = .ok (.iload_n 2, 1) := by decide +kernel
theorem dX9_readsLand_30 : decode cX9_readsLand 30 = .ok (.aload_n 0, 1) := by decide +kernel
theorem dX9_readsLand_31 : decode cX9_readsLand 31 = .ok (.getfield 7, 3) := by decide +kernel
theorem dX9_readsLand_34 : decode cX9_readsLand 34 = .ok (.iconst 1, 1) := by decide +kernel
theorem dX9_readsLand_35 : decode cX9_readsLand 35 = .ok (.iaload, 1) := by decide +kernel
theorem dX9_readsLand_36 : decode cX9_readsLand 36 = .ok (.iconst 1, 1) := by decide +kernel
theorem dX9_readsLand_37 : decode cX9_readsLand 37 = .ok (.isub, 1) := by decide +kernel
theorem dX9_readsLand_38 : decode cX9_readsLand 38 = .ok (.invokevirtual 279, 3) := by decide +kernel
theorem dX9_readsLand_41 : decode cX9_readsLand 41 = .ok (.istore_n 3, 1) := by decide +kernel
theorem dX9_readsLand_42 : decode cX9_readsLand 42 = .ok (.iload_n 2, 1) := by decide +kernel
theorem dX9_readsLand_43 : decode cX9_readsLand 43 = .ok (.istore 4, 2) := by decide +kernel
theorem dX9_readsLand_45 : decode cX9_readsLand 45 = .ok (.iload 4, 2) := by decide +kernel
theorem dX9_readsLand_47 : decode cX9_readsLand 47 = .ok (.iload_n 3, 1) := by decide +kernel
theorem dX9_readsLand_48 : decode cX9_readsLand 48 = .ok (.if_icmp .gt 36, 3) := by decide +kernel
theorem dX9_readsLand_51 : decode cX9_readsLand 51 = .ok (.aload_n 0, 1) := by decide +kernel
theorem dX9_readsLand_52 : decode cX9_readsLand 52 = .ok (.invokevirtual 237, 3) := by decide +kernel
theorem dX9_readsLand_55 : decode cX9_readsLand 55 = .ok (.ifCond .eq 29, 3) := by decide +kernel
theorem dX9_readsLand_58 : decode cX9_readsLand 58 = .ok (.aload_n 0, 1) := by decide +kernel
theorem dX9_readsLand_59 : decode cX9_readsLand 59 = .ok (.getfield 7, 3) := by decide +kernel
theorem dX9_readsLand_62 : decode cX9_readsLand 62 = .ok (.bipush 8, 2) := by decide +kernel
theorem dX9_readsLand_64 : decode cX9_readsLand 64 = .ok (.aload_n 0, 1) := by decide +kernel
theorem dX9_readsLand_65 : decode cX9_readsLand 65 = .ok (.getfield 7, 3) := by decide +kernel
theorem dX9_readsLand_68 : decode cX9_readsLand 68 = .ok (.iconst 1, 1) := by decide +kernel
theorem dX9_readsLand_69 : decode cX9_readsLand 69 = .ok (.iaload, 1) := by decide +kernel
theorem dX9_readsLand_70 : decode cX9_readsLand 70 = .ok (.iload_n 1, 1) := by decide +kernel
theorem dX9_readsLand_71 : decode cX9_readsLand 71 = .ok (.imul, 1) := by decide +kernel
theorem dX9_readsLand_72 : decode cX9_readsLand 72 = .ok (.iadd, 1) := by decide +kernel
theorem dX9_readsLand_73 : decode cX9_readsLand 73 = .ok (.iload 4, 2) := by decide +kernel
theorem dX9_readsLand_75 : decode cX9_readsLand 75 = .ok (.iadd, 1) := by decide +kernel
theorem dX9_readsLand_76 : decode cX9_readsLand 76 = .ok (.iconst 1, 1) := by decide +kernel
theorem dX9_readsLand_77 : decode cX9_readsLand 77 = .ok (.iastore, 1) := by decide +kernel
theorem dX9_readsLand_78 : decode cX9_readsLand 78 = .ok (.iinc 4 1, 3) := by decide +kernel
theorem dX9_readsLand_81 : decode cX9_readsLand 81 = .ok (.goto (-36), 3) := by decide +kernel
theorem dX9_readsLand_84 : decode cX9_readsLand 84 = .ok (.return_, 1) := by decide +kernel
theorem dX9_readsHarbour_0 : decode cX9_readsHarbour 0 = .ok (.aload_n 0, 1) := by decide +kernel
theorem dX9_readsHarbour_1 : decode cX9_readsHarbour 1 = .ok (.invokevirtual 319, 3) := by decide +kernel
theorem dX9_readsHarbour_4 : decode cX9_readsHarbour 4 = .ok (.aload_n 0, 1) := by decide +kernel
theorem dX9_readsHarbour_5 : decode cX9_readsHarbour 5 = .ok (.getfield 225, 3) := by decide +kernel
theorem dX9_readsHarbour_8 : decode cX9_readsHarbour 8 = .ok (.istore_n 1, 1) := by decide +kernel
theorem dX9_readsHarbour_9 : decode cX9_readsHarbour 9 = .ok (.aload_n 0, 1) := by decide +kernel
theorem dX9_readsHarbour_10 : decode cX9_readsHarbour 10 = .ok (.getfield 231, 3) := by decide +kernel
theorem dX9_readsHarbour_13 : decode cX9_readsHarbour 13 = .ok (.aload_n 0, 1) := by decide +kernel
theorem dX9_readsHarbour_14 : decode cX9_readsHarbour 14 = .ok (.getfield 225, 3) := by decide +kernel
theorem dX9_readsHarbour_17 : decode cX9_readsHarbour 17 = .ok (.isub, 1) := by decide +kernel
theorem dX9_readsHarbour_18 : decode cX9_readsHarbour 18 = .ok (.istore_n 2, 1) := by decide +kernel
theorem dX9_readsHarbour_19 : decode cX9_readsHarbour 19 = .ok (.aload_n 0, 1) := by decide +kernel
theorem dX9_readsHarbour_20 : decode cX9_readsHarbour 20 = .ok (.aload_n 0, 1) := by decide +kernel
theorem dX9_readsHarbour_21 : decode cX9_readsHarbour 21 = .ok (.invokevirtual 237, 3) := by decide +kernel
theorem dX9_readsHarbour_24 : decode cX9_readsHarbour 24 = .ok (.ifCond .eq 15, 3) := by decide +kernel
theorem dX9_readsHarbour_27 : decode cX9_readsHarbour 27 = .ok (.aload_n 0, 1) := by decide +kernel
theorem dX9_readsHarbour_28 : decode cX9_readsHarbour 28 = .ok (.invokevirtual 322, 3) := by decide +kernel
theorem dX9_readsHarbour_31 : decode cX9_readsHarbour 31 = .ok (.iconst (-1), 1) := by decide +kernel
theorem dX9_readsHarbour_32 : decode cX9_readsHarbour 32 = .ok (.if_icmp .eq 7, 3) := by decide +kernel
theorem dX9_readsHarbour_35 : decode cX9_readsHarbour 35 = .ok (.iconst 1, 1) := by decide +kernel
theorem dX9_readsHarbour_36 : decode cX9_readsHarbour 36 = .ok (.goto 4, 3) := by decide +kernel
theorem dX9_readsHarbour_39 : decode cX9_readsHarbour 39 = .ok (.iconst 0, 1) := by decide +kernel
theorem dX9_readsHarbour_40 : decode cX9_readsHarbour 40 = .ok (.iconst 3, 1) := by decide +kernel
theorem dX9_readsHarbour_41 : decode cX9_readsHarbour 41 = .ok (.invokevirtual 266, 3) := by decide +kernel
theorem dX9_readsHarbour_44 : decode cX9_readsHarbour 44 = .ok (.aload_n 0, 1) := by decide +kernel
theorem dX9_readsHarbour_45 : decode cX9_readsHarbour 45 = .ok (.iconst 0, 1) := by decide +kernel
theorem dX9_readsHarbour_46 : decode cX9_readsHarbour 46 = .ok (.aload_n 0, 1) := by decide +kernel
theorem dX9_readsHarbour_47 : decode cX9_readsHarbour 47 = .ok (.getfield 7, 3) := by decide +kernel
theorem dX9_readsHarbour_50 : decode cX9_readsHarbour 50 = .ok (.iconst 0, 1) := by decide +kernel
theorem dX9_readsHarbour_51 : decode cX9_readsHarbour 51 = .ok (.iaload, 1) := by decide +kernel
theorem dX9_readsHarbour_52 : decode cX9_readsHarbour 52 = .ok (.iconst 1, 1) := by decide +kernel
theorem dX9_readsHarbour_53 : decode cX9_readsHarbour 53 = .ok (.isub, 1) := by decide +kernel
theorem dX9_readsHarbour_54 : decode cX9_readsHarbour 54 = .ok (.invokevirtual 279, 3) := by decide +kernel
theorem dX9_readsHarbour_57 : decode cX9_readsHarbour 57 = .ok (.istore_n 3, 1) := by decide +kernel
theorem dX9_readsHarbour_58 : decode cX9_readsHarbour 58 = .ok (.aload_n 0, 1) := by decide +kernel
theorem dX9_readsHarbour_59 : decode cX9_readsHarbour 59 = .ok (.iconst 0, 1) := by decide +kernel
theorem dX9_readsHarbour_60 : decode cX9_readsHarbour 60 = .ok (.aload_n 0, 1) := by decide +kernel
theorem dX9_readsHarbour_61 : decode cX9_readsHarbour 61 = .ok (.getfield 7, 3) := by decide +kernel
theorem dX9_readsHarbour_64 : decode cX9_readsHarbour 64 = .ok (.iconst 1, 1) := by decide +kernel
theorem dX9_readsHarbour_65 : decode cX9_readsHarbour 65 = .ok (.iaload, 1) := by decide +kernel
theorem dX9_readsHarbour_66 : decode cX9_readsHarbour 66 = .ok (.iconst 1, 1) := by decide +kernel
theorem dX9_readsHarbour_67 : decode cX9_readsHarbour 67 = .ok (.isub, 1) := by decide +kernel
theorem dX9_readsHarbour_68 : decode cX9_readsHarbour 68 = .ok (.invokevirtual 279, 3) := by decide +kernel
theorem dX9_readsHarbour_71 : decode cX9_readsHarbour 71 = .ok (.istore 4, 2) := by decide +kernel
theorem dX9_readsHarbour_73 : decode cX9_readsHarbour 73 = .ok (.aload_n 0, 1) := by decide +kernel
theorem dX9_readsHarbour_74 : decode cX9_readsHarbour 74 = .ok (.getfield 7, 3) := by decide +kernel
theorem dX9_readsHarbour_77 : decode cX9_readsHarbour 77 = .ok (.iconst 1, 1) := by decide +kernel
