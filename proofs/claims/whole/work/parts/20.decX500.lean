theorem dX5_init_0 : decode cX5_init 0 = .ok (.aload_n 0, 1) := by decide +kernel
theorem dX5_init_1 : decode cX5_init 1 = .ok (.invokespecial 3, 3) := by decide +kernel
theorem dX5_init_4 : decode cX5_init 4 = .ok (.aload_n 0, 1) := by decide +kernel
theorem dX5_init_5 : decode cX5_init 5 = .ok (.new 9, 3) := by decide +kernel
theorem dX5_init_8 : decode cX5_init 8 = .ok (.dup, 1) := by decide +kernel
theorem dX5_init_9 : decode cX5_init 9 = .ok (.invokespecial 11, 3) := by decide +kernel
theorem dX5_init_12 : decode cX5_init 12 = .ok (.putfield 12, 3) := by decide +kernel
theorem dX5_init_15 : decode cX5_init 15 = .ok (.aload_n 0, 1) := by decide +kernel
theorem dX5_init_16 : decode cX5_init 16 = .ok (.new 18, 3) := by decide +kernel
theorem dX5_init_19 : decode cX5_init 19 = .ok (.dup, 1) := by decide +kernel
theorem dX5_init_20 : decode cX5_init 20 = .ok (.invokespecial 20, 3) := by decide +kernel
theorem dX5_init_23 : decode cX5_init 23 = .ok (.putfield 21, 3) := by decide +kernel
theorem dX5_init_26 : decode cX5_init 26 = .ok (.aload_n 0, 1) := by decide +kernel
theorem dX5_init_27 : decode cX5_init 27 = .ok (.sipush 500, 3) := by decide +kernel
theorem dX5_init_30 : decode cX5_init 30 = .ok (.newarray .int, 2) := by decide +kernel
theorem dX5_init_32 : decode cX5_init 32 = .ok (.putfield 25, 3) := by decide +kernel
theorem dX5_init_35 : decode cX5_init 35 = .ok (.return_, 1) := by decide +kernel
theorem dX5_addByte_0 : decode cX5_addByte 0 = .ok (.aload_n 0, 1) := by decide +kernel
theorem dX5_addByte_1 : decode cX5_addByte 1 = .ok (.getfield 29, 3) := by decide +kernel
theorem dX5_addByte_4 : decode cX5_addByte 4 = .ok (.sipush 500, 3) := by decide +kernel
theorem dX5_addByte_7 : decode cX5_addByte 7 = .ok (.if_icmp .ge 23, 3) := by decide +kernel
theorem dX5_addByte_10 : decode cX5_addByte 10 = .ok (.aload_n 0, 1) := by decide +kernel
theorem dX5_addByte_11 : decode cX5_addByte 11 = .ok (.getfield 25, 3) := by decide +kernel
theorem dX5_addByte_14 : decode cX5_addByte 14 = .ok (.aload_n 0, 1) := by decide +kernel
theorem dX5_addByte_15 : decode cX5_addByte 15 = .ok (.getfield 29, 3) := by decide +kernel
theorem dX5_addByte_18 : decode cX5_addByte 18 = .ok (.iload_n 1, 1) := by decide +kernel
theorem dX5_addByte_19 : decode cX5_addByte 19 = .ok (.iastore, 1) := by decide +kernel
theorem dX5_addByte_20 : decode cX5_addByte 20 = .ok (.aload_n 0, 1) := by decide +kernel
theorem dX5_addByte_21 : decode cX5_addByte 21 = .ok (.dup, 1) := by decide +kernel
theorem dX5_addByte_22 : decode cX5_addByte 22 = .ok (.getfield 29, 3) := by decide +kernel
theorem dX5_addByte_25 : decode cX5_addByte 25 = .ok (.iconst 1, 1) := by decide +kernel
theorem dX5_addByte_26 : decode cX5_addByte 26 = .ok (.iadd, 1) := by decide +kernel
theorem dX5_addByte_27 : decode cX5_addByte 27 = .ok (.putfield 29, 3) := by decide +kernel
theorem dX5_addByte_30 : decode cX5_addByte 30 = .ok (.return_, 1) := by decide +kernel
theorem dX5_readText_0 : decode cX5_readText 0 = .ok (.aload_n 0, 1) := by decide +kernel
theorem dX5_readText_1 : decode cX5_readText 1 = .ok (.iconst 0, 1) := by decide +kernel
theorem dX5_readText_2 : decode cX5_readText 2 = .ok (.putfield 33, 3) := by decide +kernel
theorem dX5_readText_5 : decode cX5_readText 5 = .ok (.aload_n 0, 1) := by decide +kernel
theorem dX5_readText_6 : decode cX5_readText 6 = .ok (.iconst 0, 1) := by decide +kernel
theorem dX5_readText_7 : decode cX5_readText 7 = .ok (.putfield 36, 3) := by decide +kernel
theorem dX5_readText_10 : decode cX5_readText 10 = .ok (.aload_n 0, 1) := by decide +kernel
theorem dX5_readText_11 : decode cX5_readText 11 = .ok (.iconst 0, 1) := by decide +kernel
theorem dX5_readText_12 : decode cX5_readText 12 = .ok (.putfield 39, 3) := by decide +kernel
theorem dX5_readText_15 : decode cX5_readText 15 = .ok (.aload_n 0, 1) := by decide +kernel
theorem dX5_readText_16 : decode cX5_readText 16 = .ok (.iconst 0, 1) := by decide +kernel
theorem dX5_readText_17 : decode cX5_readText 17 = .ok (.putfield 42, 3) := by decide +kernel
theorem dX5_readText_20 : decode cX5_readText 20 = .ok (.aload_n 0, 1) := by decide +kernel
theorem dX5_readText_21 : decode cX5_readText 21 = .ok (.iconst 0, 1) := by decide +kernel
theorem dX5_readText_22 : decode cX5_readText 22 = .ok (.putfield 45, 3) := by decide +kernel
theorem dX5_readText_25 : decode cX5_readText 25 = .ok (.aload_n 0, 1) := by decide +kernel
theorem dX5_readText_26 : decode cX5_readText 26 = .ok (.invokevirtual 49, 3) := by decide +kernel
theorem dX5_readText_29 : decode cX5_readText 29 = .ok (.istore_n 1, 1) := by decide +kernel
theorem dX5_readText_30 : decode cX5_readText 30 = .ok (.iconst 0, 1) := by decide +kernel
theorem dX5_readText_31 : decode cX5_readText 31 = .ok (.istore_n 2, 1) := by decide +kernel
theorem dX5_readText_32 : decode cX5_readText 32 = .ok (.iload_n 2, 1) := by decide +kernel
theorem dX5_readText_33 : decode cX5_readText 33 = .ok (.aload_n 0, 1) := by decide +kernel
theorem dX5_readText_34 : decode cX5_readText 34 = .ok (.getfield 29, 3) := by decide +kernel
theorem dX5_readText_37 : decode cX5_readText 37 = .ok (.if_icmp .gt 127, 3) := by decide +kernel
theorem dX5_readText_40 : decode cX5_readText 40 = .ok (.iload_n 1, 1) := by decide +kernel
theorem dX5_readText_41 : decode cX5_readText 41 = .ok (.ifCond .eq 123, 3) := by decide +kernel
theorem dX5_readText_44 : decode cX5_readText 44 = .ok (.aload_n 0, 1) := by decide +kernel
theorem dX5_readText_45 : decode cX5_readText 45 = .ok (.invokevirtual 53, 3) := by decide +kernel
theorem dX5_readText_48 : decode cX5_readText 48 = .ok (.iconst (-1), 1) := by decide +kernel
theorem dX5_readText_49 : decode cX5_readText 49 = .ok (.if_icmp .eq 115, 3) := by decide +kernel
theorem dX5_readText_52 : decode cX5_readText 52 = .ok (.aload_n 0, 1) := by decide +kernel
theorem dX5_readText_53 : decode cX5_readText 53 = .ok (.invokevirtual 57, 3) := by decide +kernel
theorem dX5_readText_56 : decode cX5_readText 56 = .ok (.istore_n 1, 1) := by decide +kernel
theorem dX5_readText_57 : decode cX5_readText 57 = .ok (.iload_n 1, 1) := by decide +kernel
theorem dX5_readText_58 : decode cX5_readText 58 = .ok (.ifCond .eq 10, 3) := by decide +kernel
theorem dX5_readText_61 : decode cX5_readText 61 = .ok (.aload_n 0, 1) := by decide +kernel
theorem dX5_readText_62 : decode cX5_readText 62 = .ok (.invokevirtual 60, 3) := by decide +kernel
theorem dX5_readText_65 : decode cX5_readText 65 = .ok (.goto 4, 3) := by decide +kernel
theorem dX5_readText_68 : decode cX5_readText 68 = .ok (.iconst (-1), 1) := by decide +kernel
theorem dX5_readText_69 : decode cX5_readText 69 = .ok (.tableswitch 87 1 6 #[39, 47, 55, 63, 71, 79], 39) := by decide +kernel
theorem dX5_readText_108 : decode cX5_readText 108 = .ok (.aload_n 0, 1) := by decide +kernel
theorem dX5_readText_109 : decode cX5_readText 109 = .ok (.invokevirtual 63, 3) := by decide +kernel
theorem dX5_readText_112 : decode cX5_readText 112 = .ok (.istore_n 1, 1) := by decide +kernel
theorem dX5_readText_113 : decode cX5_readText 113 = .ok (.goto 45, 3) := by decide +kernel
theorem dX5_readText_116 : decode cX5_readText 116 = .ok (.aload_n 0, 1) := by decide +kernel
theorem dX5_readText_117 : decode cX5_readText 117 = .ok (.invokevirtual 66, 3) := by decide +kernel
theorem dX5_readText_120 : decode cX5_readText 120 = .ok (.istore_n 1, 1) := by decide +kernel
theorem dX5_readText_121 : decode cX5_readText 121 = .ok (.goto 37, 3) := by decide +kernel
theorem dX5_readText_124 : decode cX5_readText 124 = .ok (.aload_n 0, 1) := by decide +kernel
theorem dX5_readText_125 : decode cX5_readText 125 = .ok (.invokevirtual 69, 3) := by decide +kernel
theorem dX5_readText_128 : decode cX5_readText 128 = .ok (.istore_n 1, 1) := by decide +kernel
theorem dX5_readText_129 : decode cX5_readText 129 = .ok (.goto 29, 3) := by decide +kernel
theorem dX5_readText_132 : decode cX5_readText 132 = .ok (.aload_n 0, 1) := by decide +kernel
theorem dX5_readText_133 : decode cX5_readText 133 = .ok (.invokevirtual 72, 3) := by decide +kernel
theorem dX5_readText_136 : decode cX5_readText 136 = .ok (.istore_n 1, 1) := by decide +kernel
theorem dX5_readText_137 : decode cX5_readText 137 = .ok (.goto 21, 3) := by decide +kernel
theorem dX5_readText_140 : decode cX5_readText 140 = .ok (.aload_n 0, 1) := by decide +kernel
theorem dX5_readText_141 : decode cX5_readText 141 = .ok (.invokevirtual 75, 3) := by decide +kernel
theorem dX5_readText_144 : decode cX5_readText 144 = .ok (.istore_n 1, 1) := by decide +kernel
theorem dX5_readText_145 : decode cX5_readText 145 = .ok (.goto 13, 3) := by decide +kernel
theorem dX5_readText_148 : decode cX5_readText 148 = .ok (.aload_n 0, 1) := by decide +kernel
theorem dX5_readText_149 : decode cX5_readText 149 = .ok (.invokevirtual 78, 3) := by decide +kernel
theorem dX5_readText_152 : decode cX5_readText 152 = .ok (.istore_n 1, 1) := by decide +kernel
theorem dX5_readText_153 : decode cX5_readText 153 = .ok (.goto 5, 3) := by decide +kernel
theorem dX5_readText_156 : decode cX5_readText 156 = .ok (.iconst 0, 1) := by decide +kernel
theorem dX5_readText_157 : decode cX5_readText 157 = .ok (.istore_n 1, 1) := by decide +kernel
theorem dX5_readText_158 : decode cX5_readText 158 = .ok (.iinc 2 1, 3) := by decide +kernel
theorem dX5_readText_161 : decode cX5_readText 161 = .ok (.goto (-129), 3) := by decide +kernel
theorem dX5_readText_164 : decode cX5_readText 164 = .ok (.iload_n 1, 1) := by decide +kernel
theorem dX5_readText_165 : decode cX5_readText 165 = .ok (.ireturn, 1) := by decide +kernel
theorem dX5_fail_0 : decode cX5_fail 0 = .ok (.aload_n 0, 1) := by decide +kernel
theorem dX5_fail_1 : decode cX5_fail 1 = .ok (.iload_n 1, 1) := by decide +kernel
theorem dX5_fail_2 : decode cX5_fail 2 = .ok (.putfield 39, 3) := by decide +kernel
theorem dX5_fail_5 : decode cX5_fail 5 = .ok (.aload_n 0, 1) := by decide +kernel
theorem dX5_fail_6 : decode cX5_fail 6 = .ok (.iload_n 2, 1) := by decide +kernel
theorem dX5_fail_7 : decode cX5_fail 7 = .ok (.putfield 42, 3) := by decide +kernel
theorem dX5_fail_10 : decode cX5_fail 10 = .ok (.iconst 0, 1) := by decide +kernel
theorem dX5_fail_11 : decode cX5_fail 11 = .ok (.ireturn, 1) := by decide +kernel
theorem dX5_signAt_0 : decode cX5_signAt 0 = .ok (.iload_n 1, 1) := by decide +kernel
theorem dX5_signAt_1 : decode cX5_signAt 1 = .ok (.ifCond .lt 27, 3) := by decide +kernel
theorem dX5_signAt_4 : decode cX5_signAt 4 = .ok (.iload_n 1, 1) := by decide +kernel
theorem dX5_signAt_5 : decode cX5_signAt 5 = .ok (.aload_n 0, 1) := by decide +kernel
theorem dX5_signAt_6 : decode cX5_signAt 6 = .ok (.getfield 29, 3) := by decide +kernel
theorem dX5_signAt_9 : decode cX5_signAt 9 = .ok (.if_icmp .ge 19, 3) := by decide +kernel
theorem dX5_signAt_12 : decode cX5_signAt 12 = .ok (.iload_n 1, 1) := by decide +kernel
theorem dX5_signAt_13 : decode cX5_signAt 13 = .ok (.sipush 500, 3) := by decide +kernel
theorem dX5_signAt_16 : decode cX5_signAt 16 = .ok (.if_icmp .ge 12, 3) := by decide +kernel
theorem dX5_signAt_19 : decode cX5_signAt 19 = .ok (.aload_n 0, 1) := by decide +kernel
theorem dX5_signAt_20 : decode cX5_signAt 20 = .ok (.getfield 25, 3) := by decide +kernel
theorem dX5_signAt_23 : decode cX5_signAt 23 = .ok (.iload_n 1, 1) := by decide +kernel
theorem dX5_signAt_24 : decode cX5_signAt 24 = .ok (.iaload, 1) := by decide +kernel
theorem dX5_signAt_25 : decode cX5_signAt 25 = .ok (.goto 4, 3) := by decide +kernel
theorem dX5_signAt_28 : decode cX5_signAt 28 = .ok (.iconst (-1), 1) := by decide +kernel
theorem dX5_signAt_29 : decode cX5_signAt 29 = .ok (.ireturn, 1) := by decide +kernel
theorem dX5_nextSign_0 : decode cX5_nextSign 0 = .ok (.iconst 0, 1) := by decide +kernel
theorem dX5_nextSign_1 : decode cX5_nextSign 1 = .ok (.istore_n 1, 1) := by decide +kernel
theorem dX5_nextSign_2 : decode cX5_nextSign 2 = .ok (.iload_n 1, 1) := by decide +kernel
theorem dX5_nextSign_3 : decode cX5_nextSign 3 = .ok (.aload_n 0, 1) := by decide +kernel
theorem dX5_nextSign_4 : decode cX5_nextSign 4 = .ok (.getfield 29, 3) := by decide +kernel
theorem dX5_nextSign_7 : decode cX5_nextSign 7 = .ok (.if_icmp .ge 32, 3) := by decide +kernel
theorem dX5_nextSign_10 : decode cX5_nextSign 10 = .ok (.aload_n 0, 1) := by decide +kernel
theorem dX5_nextSign_11 : decode cX5_nextSign 11 = .ok (.aload_n 0, 1) := by decide +kernel
theorem dX5_nextSign_12 : decode cX5_nextSign 12 = .ok (.getfield 33, 3) := by decide +kernel
theorem dX5_nextSign_15 : decode cX5_nextSign 15 = .ok (.invokevirtual 81, 3) := by decide +kernel
theorem dX5_nextSign_18 : decode cX5_nextSign 18 = .ok (.bipush 32, 2) := by decide +kernel
theorem dX5_nextSign_20 : decode cX5_nextSign 20 = .ok (.if_icmp .ne 19, 3) := by decide +kernel
theorem dX5_nextSign_23 : decode cX5_nextSign 23 = .ok (.aload_n 0, 1) := by decide +kernel
theorem dX5_nextSign_24 : decode cX5_nextSign 24 = .ok (.dup, 1) := by decide +kernel
theorem dX5_nextSign_25 : decode cX5_nextSign 25 = .ok (.getfield 33, 3) := by decide +kernel
theorem dX5_nextSign_28 : decode cX5_nextSign 28 = .ok (.iconst 1, 1) := by decide +kernel
theorem dX5_nextSign_29 : decode cX5_nextSign 29 = .ok (.iadd, 1) := by decide +kernel
theorem dX5_nextSign_30 : decode cX5_nextSign 30 = .ok (.putfield 33, 3) := by decide +kernel
theorem dX5_nextSign_33 : decode cX5_nextSign 33 = .ok (.iinc 1 1, 3) := by decide +kernel
theorem dX5_nextSign_36 : decode cX5_nextSign 36 = .ok (.goto (-34), 3) := by decide +kernel
theorem dX5_nextSign_39 : decode cX5_nextSign 39 = .ok (.aload_n 0, 1) := by decide +kernel
theorem dX5_nextSign_40 : decode cX5_nextSign 40 = .ok (.aload_n 0, 1) := by decide +kernel
theorem dX5_nextSign_41 : decode cX5_nextSign 41 = .ok (.getfield 33, 3) := by decide +kernel
theorem dX5_nextSign_44 : decode cX5_nextSign 44 = .ok (.invokevirtual 81, 3) := by decide +kernel
theorem dX5_nextSign_47 : decode cX5_nextSign 47 = .ok (.ireturn, 1) := by decide +kernel
theorem dX5_isLetter_0 : decode cX5_isLetter 0 = .ok (.iload_n 0, 1) := by decide +kernel
theorem dX5_isLetter_1 : decode cX5_isLetter 1 = .ok (.bipush 97, 2) := by decide +kernel
theorem dX5_isLetter_3 : decode cX5_isLetter 3 = .ok (.if_icmp .lt 13, 3) := by decide +kernel
theorem dX5_isLetter_6 : decode cX5_isLetter 6 = .ok (.iload_n 0, 1) := by decide +kernel
theorem dX5_isLetter_7 : decode cX5_isLetter 7 = .ok (.bipush 122, 2) := by decide +kernel
theorem dX5_isLetter_9 : decode cX5_isLetter 9 = .ok (.if_icmp .gt 7, 3) := by decide +kernel
theorem dX5_isLetter_12 : decode cX5_isLetter 12 = .ok (.iconst 1, 1) := by decide +kernel
theorem dX5_isLetter_13 : decode cX5_isLetter 13 = .ok (.goto 4, 3) := by decide +kernel
theorem dX5_isLetter_16 : decode cX5_isLetter 16 = .ok (.iconst 0, 1) := by decide +kernel
theorem dX5_isLetter_17 : decode cX5_isLetter 17 = .ok (.ireturn, 1) := by decide +kernel
theorem dX5_isDigit_0 : decode cX5_isDigit 0 = .ok (.iload_n 0, 1) := by decide +kernel
theorem dX5_isDigit_1 : decode cX5_isDigit 1 = .ok (.bipush 48, 2) := by decide +kernel
theorem dX5_isDigit_3 : decode cX5_isDigit 3 = .ok (.if_icmp .lt 13, 3) := by decide +kernel
theorem dX5_isDigit_6 : decode cX5_isDigit 6 = .ok (.iload_n 0, 1) := by decide +kernel
theorem dX5_isDigit_7 : decode cX5_isDigit 7 = .ok (.bipush 57, 2) := by decide +kernel
theorem dX5_isDigit_9 : decode cX5_isDigit 9 = .ok (.if_icmp .gt 7, 3) := by decide +kernel
theorem dX5_isDigit_12 : decode cX5_isDigit 12 = .ok (.iconst 1, 1) := by decide +kernel
theorem dX5_isDigit_13 : decode cX5_isDigit 13 = .ok (.goto 4, 3) := by decide +kernel
theorem dX5_isDigit_16 : decode cX5_isDigit 16 = .ok (.iconst 0, 1) := by decide +kernel
theorem dX5_isDigit_17 : decode cX5_isDigit 17 = .ok (.ireturn, 1) := by decide +kernel
theorem dX5_takeWord_0 : decode cX5_takeWord 0 = .ok (.aload_n 0, 1) := by decide +kernel
theorem dX5_takeWord_1 : decode cX5_takeWord 1 = .ok (.invokevirtual 53, 3) := by decide +kernel
theorem dX5_takeWord_4 : decode cX5_takeWord 4 = .ok (.pop, 1) := by decide +kernel
theorem dX5_takeWord_5 : decode cX5_takeWord 5 = .ok (.aload_n 0, 1) := by decide +kernel
theorem dX5_takeWord_6 : decode cX5_takeWord 6 = .ok (.aload_n 0, 1) := by decide +kernel
theorem dX5_takeWord_7 : decode cX5_takeWord 7 = .ok (.getfield 33, 3) := by decide +kernel
theorem dX5_takeWord_10 : decode cX5_takeWord 10 = .ok (.putfield 85, 3) := by decide +kernel
theorem dX5_takeWord_13 : decode cX5_takeWord 13 = .ok (.iconst 0, 1) := by decide +kernel
theorem dX5_takeWord_14 : decode cX5_takeWord 14 = .ok (.istore_n 1, 1) := by decide +kernel
theorem dX5_takeWord_15 : decode cX5_takeWord 15 = .ok (.iload_n 1, 1) := by decide +kernel
theorem dX5_takeWord_16 : decode cX5_takeWord 16 = .ok (.aload_n 0, 1) := by decide +kernel
theorem dX5_takeWord_17 : decode cX5_takeWord 17 = .ok (.getfield 29, 3) := by decide +kernel
theorem dX5_takeWord_20 : decode cX5_takeWord 20 = .ok (.if_icmp .ge 33, 3) := by decide +kernel
theorem dX5_takeWord_23 : decode cX5_takeWord 23 = .ok (.aload_n 0, 1) := by decide +kernel
theorem dX5_takeWord_24 : decode cX5_takeWord 24 = .ok (.aload_n 0, 1) := by decide +kernel
theorem dX5_takeWord_25 : decode cX5_takeWord 25 = .ok (.getfield 33, 3) := by decide +kernel
theorem dX5_takeWord_28 : decode cX5_takeWord 28 = .ok (.invokevirtual 81, 3) := by decide +kernel
theorem dX5_takeWord_31 : decode cX5_takeWord 31 = .ok (.invokestatic 88, 3) := by decide +kernel
theorem dX5_takeWord_34 : decode cX5_takeWord 34 = .ok (.ifCond .eq 19, 3) := by decide +kernel
theorem dX5_takeWord_37 : decode cX5_takeWord 37 = .ok (.aload_n 0, 1) := by decide +kernel
theorem dX5_takeWord_38 : decode cX5_takeWord 38 = .ok (.dup, 1) := by decide +kernel
theorem dX5_takeWord_39 : decode cX5_takeWord 39 = .ok (.getfield 33, 3) := by decide +kernel
theorem dX5_takeWord_42 : decode cX5_takeWord 42 = .ok (.iconst 1, 1) := by decide +kernel
theorem dX5_takeWord_43 : decode cX5_takeWord 43 = .ok (.iadd, 1) := by decide +kernel
theorem dX5_takeWord_44 : decode cX5_takeWord 44 = .ok (.putfield 33, 3) := by decide +kernel
theorem dX5_takeWord_47 : decode cX5_takeWord 47 = .ok (.iinc 1 1, 3) := by decide +kernel
theorem dX5_takeWord_50 : decode cX5_takeWord 50 = .ok (.goto (-35), 3) := by decide +kernel
theorem dX5_takeWord_53 : decode cX5_takeWord 53 = .ok (.aload_n 0, 1) := by decide +kernel
theorem dX5_takeWord_54 : decode cX5_takeWord 54 = .ok (.aload_n 0, 1) := by decide +kernel
theorem dX5_takeWord_55 : decode cX5_takeWord 55 = .ok (.getfield 33, 3) := by decide +kernel
theorem dX5_takeWord_58 : decode cX5_takeWord 58 = .ok (.aload_n 0, 1) := by decide +kernel
theorem dX5_takeWord_59 : decode cX5_takeWord 59 = .ok (.getfield 85, 3) := by decide +kernel
theorem dX5_takeWord_62 : decode cX5_takeWord 62 = .ok (.isub, 1) := by decide +kernel
theorem dX5_takeWord_63 : decode cX5_takeWord 63 = .ok (.putfield 92, 3) := by decide +kernel
theorem dX5_takeWord_66 : decode cX5_takeWord 66 = .ok (.aload_n 0, 1) := by decide +kernel
theorem dX5_takeWord_67 : decode cX5_takeWord 67 = .ok (.getfield 92, 3) := by decide +kernel
theorem dX5_takeWord_70 : decode cX5_takeWord 70 = .ok (.ifCond .gt 15, 3) := by decide +kernel
theorem dX5_takeWord_73 : decode cX5_takeWord 73 = .ok (.aload_n 0, 1) := by decide +kernel
theorem dX5_takeWord_74 : decode cX5_takeWord 74 = .ok (.iconst 1, 1) := by decide +kernel
theorem dX5_takeWord_75 : decode cX5_takeWord 75 = .ok (.aload_n 0, 1) := by decide +kernel
theorem dX5_takeWord_76 : decode cX5_takeWord 76 = .ok (.getfield 85, 3) := by decide +kernel
theorem dX5_takeWord_79 : decode cX5_takeWord 79 = .ok (.invokevirtual 95, 3) := by decide +kernel
theorem dX5_takeWord_82 : decode cX5_takeWord 82 = .ok (.ifCond .eq 7, 3) := by decide +kernel
theorem dX5_takeWord_85 : decode cX5_takeWord 85 = .ok (.iconst 1, 1) := by decide +kernel
theorem dX5_takeWord_86 : decode cX5_takeWord 86 = .ok (.goto 4, 3) := by decide +kernel
theorem dX5_takeWord_89 : decode cX5_takeWord 89 = .ok (.iconst 0, 1) := by decide +kernel
theorem dX5_takeWord_90 : decode cX5_takeWord 90 = .ok (.ireturn, 1) := by decide +kernel
theorem dX5_wordIs_0 : decode cX5_wordIs 0 = .ok (.aload_n 0, 1) := by decide +kernel
theorem dX5_wordIs_1 : decode cX5_wordIs 1 = .ok (.getfield 92, 3) := by decide +kernel
theorem dX5_wordIs_4 : decode cX5_wordIs 4 = .ok (.aload_n 1, 1) := by decide +kernel
theorem dX5_wordIs_5 : decode cX5_wordIs 5 = .ok (.invokevirtual 99, 3) := by decide +kernel
theorem dX5_wordIs_8 : decode cX5_wordIs 8 = .ok (.if_icmp .eq 5, 3) := by decide +kernel
theorem dX5_wordIs_11 : decode cX5_wordIs 11 = .ok (.iconst 0, 1) := by decide +kernel
theorem dX5_wordIs_12 : decode cX5_wordIs 12 = .ok (.ireturn, 1) := by decide +kernel
theorem dX5_wordIs_13 : decode cX5_wordIs 13 = .ok (.iconst 0, 1) := by decide +kernel
theorem dX5_wordIs_14 : decode cX5_wordIs 14 = .ok (.istore_n 2, 1) := by decide +kernel
theorem dX5_wordIs_15 : decode cX5_wordIs 15 = .ok (.iload_n 2, 1) := by decide +kernel
theorem dX5_wordIs_16 : decode cX5_wordIs 16 = .ok (.aload_n 1, 1) := by decide +kernel
theorem dX5_wordIs_17 : decode cX5_wordIs 17 = .ok (.invokevirtual 99, 3) := by decide +kernel
theorem dX5_wordIs_20 : decode cX5_wordIs 20 = .ok (.if_icmp .ge 29, 3) := by decide +kernel
theorem dX5_wordIs_23 : decode cX5_wordIs 23 = .ok (.aload_n 0, 1) := by decide +kernel
theorem dX5_wordIs_24 : decode cX5_wordIs 24 = .ok (.aload_n 0, 1) := by decide +kernel
theorem dX5_wordIs_25 : decode cX5_wordIs 25 = .ok (.getfield 85, 3) := by decide +kernel
theorem dX5_wordIs_28 : decode cX5_wordIs 28 = .ok (.iload_n 2, 1) := by decide +kernel
theorem dX5_wordIs_29 : decode cX5_wordIs 29 = .ok (.iadd, 1) := by decide +kernel
theorem dX5_wordIs_30 : decode cX5_wordIs 30 = .ok (.invokevirtual 81, 3) := by decide +kernel
theorem dX5_wordIs_33 : decode cX5_wordIs 33 = .ok (.aload_n 1, 1) := by decide +kernel
theorem dX5_wordIs_34 : decode cX5_wordIs 34 = .ok (.iload_n 2, 1) := by decide +kernel
theorem dX5_wordIs_35 : decode cX5_wordIs 35 = .ok (.invokevirtual 103, 3) := by decide +kernel
theorem dX5_wordIs_38 : decode cX5_wordIs 38 = .ok (.if_icmp .eq 5, 3) := by decide +kernel
theorem dX5_wordIs_41 : decode cX5_wordIs 41 = .ok (.iconst 0, 1) := by decide +kernel
theorem dX5_wordIs_42 : decode cX5_wordIs 42 = .ok (.ireturn, 1) := by decide +kernel
theorem dX5_wordIs_43 : decode cX5_wordIs 43 = .ok (.iinc 2 1, 3) := by decide +kernel
theorem dX5_wordIs_46 : decode cX5_wordIs 46 = .ok (.goto (-31), 3) := by decide +kernel
theorem dX5_wordIs_49 : decode cX5_wordIs 49 = .ok (.iconst 1, 1) := by decide +kernel
theorem dX5_wordIs_50 : decode cX5_wordIs 50 = .ok (.ireturn, 1) := by decide +kernel
theorem dX5_takeNumber_0 : decode cX5_takeNumber 0 = .ok (.aload_n 0, 1) := by decide +kernel
theorem dX5_takeNumber_1 : decode cX5_takeNumber 1 = .ok (.invokevirtual 53, 3) := by decide +kernel
theorem dX5_takeNumber_4 : decode cX5_takeNumber 4 = .ok (.pop, 1) := by decide +kernel
theorem dX5_takeNumber_5 : decode cX5_takeNumber 5 = .ok (.aload_n 0, 1) := by decide +kernel
theorem dX5_takeNumber_6 : decode cX5_takeNumber 6 = .ok (.aload_n 0, 1) := by decide +kernel
theorem dX5_takeNumber_7 : decode cX5_takeNumber 7 = .ok (.getfield 33, 3) := by decide +kernel
theorem dX5_takeNumber_10 : decode cX5_takeNumber 10 = .ok (.putfield 107, 3) := by decide +kernel
theorem dX5_takeNumber_13 : decode cX5_takeNumber 13 = .ok (.aload_n 0, 1) := by decide +kernel
theorem dX5_takeNumber_14 : decode cX5_takeNumber 14 = .ok (.iconst 0, 1) := by decide +kernel
theorem dX5_takeNumber_15 : decode cX5_takeNumber 15 = .ok (.putfield 110, 3) := by decide +kernel
theorem dX5_takeNumber_18 : decode cX5_takeNumber 18 = .ok (.iconst 0, 1) := by decide +kernel
theorem dX5_takeNumber_19 : decode cX5_takeNumber 19 = .ok (.istore_n 3, 1) := by decide +kernel
theorem dX5_takeNumber_20 : decode cX5_takeNumber 20 = .ok (.iload_n 3, 1) := by decide +kernel
theorem dX5_takeNumber_21 : decode cX5_takeNumber 21 = .ok (.aload_n 0, 1) := by decide +kernel
theorem dX5_takeNumber_22 : decode cX5_takeNumber 22 = .ok (.getfield 29, 3) := by decide +kernel
theorem dX5_takeNumber_25 : decode cX5_takeNumber 25 = .ok (.if_icmp .ge 62, 3) := by decide +kernel
theorem dX5_takeNumber_28 : decode cX5_takeNumber 28 = .ok (.aload_n 0, 1) := by decide +kernel
theorem dX5_takeNumber_29 : decode cX5_takeNumber 29 = .ok (.aload_n 0, 1) := by decide +kernel
theorem dX5_takeNumber_30 : decode cX5_takeNumber 30 = .ok (.getfield 33, 3) := by decide +kernel
theorem dX5_takeNumber_33 : decode cX5_takeNumber 33 = .ok (.invokevirtual 81, 3) := by decide +kernel
theorem dX5_takeNumber_36 : decode cX5_takeNumber 36 = .ok (.invokestatic 113, 3) := by decide +kernel
theorem dX5_takeNumber_39 : decode cX5_takeNumber 39 = .ok (.ifCond .eq 48, 3) := by decide +kernel
theorem dX5_takeNumber_42 : decode cX5_takeNumber 42 = .ok (.aload_n 0, 1) := by decide +kernel
theorem dX5_takeNumber_43 : decode cX5_takeNumber 43 = .ok (.aload_n 0, 1) := by decide +kernel
theorem dX5_takeNumber_44 : decode cX5_takeNumber 44 = .ok (.getfield 110, 3) := by decide +kernel
theorem dX5_takeNumber_47 : decode cX5_takeNumber 47 = .ok (.bipush 10, 2) := by decide +kernel
theorem dX5_takeNumber_49 : decode cX5_takeNumber 49 = .ok (.imul, 1) := by decide +kernel
theorem dX5_takeNumber_50 : decode cX5_takeNumber 50 = .ok (.aload_n 0, 1) := by decide +kernel
theorem dX5_takeNumber_51 : decode cX5_takeNumber 51 = .ok (.aload_n 0, 1) := by decide +kernel
theorem dX5_takeNumber_52 : decode cX5_takeNumber 52 = .ok (.getfield 33, 3) := by decide +kernel
theorem dX5_takeNumber_55 : decode cX5_takeNumber 55 = .ok (.invokevirtual 81, 3) := by decide +kernel
theorem dX5_takeNumber_58 : decode cX5_takeNumber 58 = .ok (.iadd, 1) := by decide +kernel
theorem dX5_takeNumber_59 : decode cX5_takeNumber 59 = .ok (.bipush 48, 2) := by decide +kernel
theorem dX5_takeNumber_61 : decode cX5_takeNumber 61 = .ok (.isub, 1) := by decide +kernel
theorem dX5_takeNumber_62 : decode cX5_takeNumber 62 = .ok (.sipush 1000, 3) := by decide +kernel
theorem dX5_takeNumber_65 : decode cX5_takeNumber 65 = .ok (.invokestatic 116, 3) := by decide +kernel
theorem dX5_takeNumber_68 : decode cX5_takeNumber 68 = .ok (.putfield 110, 3) := by decide +kernel
theorem dX5_takeNumber_71 : decode cX5_takeNumber 71 = .ok (.aload_n 0, 1) := by decide +kernel
theorem dX5_takeNumber_72 : decode cX5_takeNumber 72 = .ok (.dup, 1) := by decide +kernel
theorem dX5_takeNumber_73 : decode cX5_takeNumber 73 = .ok (.getfield 33, 3) := by decide +kernel
theorem dX5_takeNumber_76 : decode cX5_takeNumber 76 = .ok (.iconst 1, 1) := by decide +kernel
theorem dX5_takeNumber_77 : decode cX5_takeNumber 77 = .ok (.iadd, 1) := by decide +kernel
theorem dX5_takeNumber_78 : decode cX5_takeNumber 78 = .ok (.putfield 33, 3) := by decide +kernel
theorem dX5_takeNumber_81 : decode cX5_takeNumber 81 = .ok (.iinc 3 1, 3) := by decide +kernel
theorem dX5_takeNumber_84 : decode cX5_takeNumber 84 = .ok (.goto (-64), 3) := by decide +kernel
theorem dX5_takeNumber_87 : decode cX5_takeNumber 87 = .ok (.aload_n 0, 1) := by decide +kernel
theorem dX5_takeNumber_88 : decode cX5_takeNumber 88 = .ok (.getfield 33, 3) := by decide +kernel
theorem dX5_takeNumber_91 : decode cX5_takeNumber 91 = .ok (.aload_n 0, 1) := by decide +kernel
theorem dX5_takeNumber_92 : decode cX5_takeNumber 92 = .ok (.getfield 107, 3) := by decide +kernel
theorem dX5_takeNumber_95 : decode cX5_takeNumber 95 = .ok (.if_icmp .ne 13, 3) := by decide +kernel
theorem dX5_takeNumber_98 : decode cX5_takeNumber 98 = .ok (.aload_n 0, 1) := by decide +kernel
theorem dX5_takeNumber_99 : decode cX5_takeNumber 99 = .ok (.iconst 1, 1) := by decide +kernel
theorem dX5_takeNumber_100 : decode cX5_takeNumber 100 = .ok (.aload_n 0, 1) := by decide +kernel
theorem dX5_takeNumber_101 : decode cX5_takeNumber 101 = .ok (.getfield 33, 3) := by decide +kernel
theorem dX5_takeNumber_104 : decode cX5_takeNumber 104 = .ok (.invokevirtual 95, 3) := by decide +kernel
theorem dX5_takeNumber_107 : decode cX5_takeNumber 107 = .ok (.ireturn, 1) := by decide +kernel
theorem dX5_takeNumber_108 : decode cX5_takeNumber 108 = .ok (.aload_n 0, 1) := by decide +kernel
theorem dX5_takeNumber_109 : decode cX5_takeNumber 109 = .ok (.getfield 110, 3) := by decide +kernel
theorem dX5_takeNumber_112 : decode cX5_takeNumber 112 = .ok (.iload_n 1, 1) := by decide +kernel
theorem dX5_takeNumber_113 : decode cX5_takeNumber 113 = .ok (.if_icmp .lt 11, 3) := by decide +kernel
theorem dX5_takeNumber_116 : decode cX5_takeNumber 116 = .ok (.aload_n 0, 1) := by decide +kernel
theorem dX5_takeNumber_117 : decode cX5_takeNumber 117 = .ok (.getfield 110, 3) := by decide +kernel
theorem dX5_takeNumber_120 : decode cX5_takeNumber 120 = .ok (.iload_n 2, 1) := by decide +kernel
theorem dX5_takeNumber_121 : decode cX5_takeNumber 121 = .ok (.if_icmp .le 15, 3) := by decide +kernel
theorem dX5_takeNumber_124 : decode cX5_takeNumber 124 = .ok (.aload_n 0, 1) := by decide +kernel
theorem dX5_takeNumber_125 : decode cX5_takeNumber 125 = .ok (.iconst 2, 1) := by decide +kernel
theorem dX5_takeNumber_126 : decode cX5_takeNumber 126 = .ok (.aload_n 0, 1) := by decide +kernel
theorem dX5_takeNumber_127 : decode cX5_takeNumber 127 = .ok (.getfield 107, 3) := by decide +kernel
theorem dX5_takeNumber_130 : decode cX5_takeNumber 130 = .ok (.invokevirtual 95, 3) := by decide +kernel
theorem dX5_takeNumber_133 : decode cX5_takeNumber 133 = .ok (.ifCond .eq 7, 3) := by decide +kernel
theorem dX5_takeNumber_136 : decode cX5_takeNumber 136 = .ok (.iconst 1, 1) := by decide +kernel
theorem dX5_takeNumber_137 : decode cX5_takeNumber 137 = .ok (.goto 4, 3) := by decide +kernel
theorem dX5_takeNumber_140 : decode cX5_takeNumber 140 = .ok (.iconst 0, 1) := by decide +kernel
theorem dX5_takeNumber_141 : decode cX5_takeNumber 141 = .ok (.ireturn, 1) := by decide +kernel
theorem dX5_takeName_0 : decode cX5_takeName 0 = .ok (.aload_n 0, 1) := by decide +kernel
theorem dX5_takeName_1 : decode cX5_takeName 1 = .ok (.invokevirtual 122, 3) := by decide +kernel
theorem dX5_takeName_4 : decode cX5_takeName 4 = .ok (.ifCond .eq 28, 3) := by decide +kernel
theorem dX5_takeName_7 : decode cX5_takeName 7 = .ok (.aload_n 0, 1) := by decide +kernel
theorem dX5_takeName_8 : decode cX5_takeName 8 = .ok (.getfield 92, 3) := by decide +kernel
theorem dX5_takeName_11 : decode cX5_takeName 11 = .ok (.bipush 8, 2) := by decide +kernel
theorem dX5_takeName_13 : decode cX5_takeName 13 = .ok (.if_icmp .le 15, 3) := by decide +kernel
theorem dX5_takeName_16 : decode cX5_takeName 16 = .ok (.aload_n 0, 1) := by decide +kernel
theorem dX5_takeName_17 : decode cX5_takeName 17 = .ok (.iconst 1, 1) := by decide +kernel
theorem dX5_takeName_18 : decode cX5_takeName 18 = .ok (.aload_n 0, 1) := by decide +kernel
theorem dX5_takeName_19 : decode cX5_takeName 19 = .ok (.getfield 85, 3) := by decide +kernel
theorem dX5_takeName_22 : decode cX5_takeName 22 = .ok (.invokevirtual 95, 3) := by decide +kernel
theorem dX5_takeName_25 : decode cX5_takeName 25 = .ok (.ifCond .eq 7, 3) := by decide +kernel
theorem dX5_takeName_28 : decode cX5_takeName 28 = .ok (.iconst 1, 1) := by decide +kernel
theorem dX5_takeName_29 : decode cX5_takeName 29 = .ok (.goto 4, 3) := by decide +kernel
theorem dX5_takeName_32 : decode cX5_takeName 32 = .ok (.iconst 0, 1) := by decide +kernel
theorem dX5_takeName_33 : decode cX5_takeName 33 = .ok (.ireturn, 1) := by decide +kernel
theorem dX5_namedHarbour_0 : decode cX5_namedHarbour 0 = .ok (.iconst 0, 1) := by decide +kernel
theorem dX5_namedHarbour_1 : decode cX5_namedHarbour 1 = .ok (.istore_n 1, 1) := by decide +kernel
theorem dX5_namedHarbour_2 : decode cX5_namedHarbour 2 = .ok (.iload_n 1, 1) := by decide +kernel
theorem dX5_namedHarbour_3 : decode cX5_namedHarbour 3 = .ok (.aload_n 0, 1) := by decide +kernel
theorem dX5_namedHarbour_4 : decode cX5_namedHarbour 4 = .ok (.getfield 12, 3) := by decide +kernel
theorem dX5_namedHarbour_7 : decode cX5_namedHarbour 7 = .ok (.getfield 125, 3) := by decide +kernel
theorem dX5_namedHarbour_10 : decode cX5_namedHarbour 10 = .ok (.getfield 129, 3) := by decide +kernel
theorem dX5_namedHarbour_13 : decode cX5_namedHarbour 13 = .ok (.if_icmp .ge 90, 3) := by decide +kernel
theorem dX5_namedHarbour_16 : decode cX5_namedHarbour 16 = .ok (.aload_n 0, 1) := by decide +kernel
theorem dX5_namedHarbour_17 : decode cX5_namedHarbour 17 = .ok (.getfield 12, 3) := by decide +kernel
theorem dX5_namedHarbour_20 : decode cX5_namedHarbour 20 = .ok (.getfield 125, 3) := by decide +kernel
theorem dX5_namedHarbour_23 : decode cX5_namedHarbour 23 = .ok (.iload_n 1, 1) := by decide +kernel
theorem dX5_namedHarbour_24 : decode cX5_namedHarbour 24 = .ok (.invokevirtual 134, 3) := by decide +kernel
theorem dX5_namedHarbour_27 : decode cX5_namedHarbour 27 = .ok (.aload_n 0, 1) := by decide +kernel
theorem dX5_namedHarbour_28 : decode cX5_namedHarbour 28 = .ok (.getfield 92, 3) := by decide +kernel
theorem dX5_namedHarbour_31 : decode cX5_namedHarbour 31 = .ok (.if_icmp .ne 7, 3) := by decide +kernel
theorem dX5_namedHarbour_34 : decode cX5_namedHarbour 34 = .ok (.iconst 1, 1) := by decide +kernel
theorem dX5_namedHarbour_35 : decode cX5_namedHarbour 35 = .ok (.goto 4, 3) := by decide +kernel
theorem dX5_namedHarbour_38 : decode cX5_namedHarbour 38 = .ok (.iconst 0, 1) := by decide +kernel
theorem dX5_namedHarbour_39 : decode cX5_namedHarbour 39 = .ok (.istore_n 2, 1) := by decide +kernel
theorem dX5_namedHarbour_40 : decode cX5_namedHarbour 40 = .ok (.iconst 0, 1) := by decide +kernel
theorem dX5_namedHarbour_41 : decode cX5_namedHarbour 41 = .ok (.istore_n 3, 1) := by decide +kernel
theorem dX5_namedHarbour_42 : decode cX5_namedHarbour 42 = .ok (.iload_n 3, 1) := by decide +kernel
theorem dX5_namedHarbour_43 : decode cX5_namedHarbour 43 = .ok (.aload_n 0, 1) := by decide +kernel
theorem dX5_namedHarbour_44 : decode cX5_namedHarbour 44 = .ok (.getfield 92, 3) := by decide +kernel
theorem dX5_namedHarbour_47 : decode cX5_namedHarbour 47 = .ok (.if_icmp .ge 44, 3) := by decide +kernel
theorem dX5_namedHarbour_50 : decode cX5_namedHarbour 50 = .ok (.iload_n 2, 1) := by decide +kernel
theorem dX5_namedHarbour_51 : decode cX5_namedHarbour 51 = .ok (.ifCond .eq 40, 3) := by decide +kernel
theorem dX5_namedHarbour_54 : decode cX5_namedHarbour 54 = .ok (.aload_n 0, 1) := by decide +kernel
theorem dX5_namedHarbour_55 : decode cX5_namedHarbour 55 = .ok (.getfield 12, 3) := by decide +kernel
theorem dX5_namedHarbour_58 : decode cX5_namedHarbour 58 = .ok (.getfield 125, 3) := by decide +kernel
theorem dX5_namedHarbour_61 : decode cX5_namedHarbour 61 = .ok (.iload_n 1, 1) := by decide +kernel
theorem dX5_namedHarbour_62 : decode cX5_namedHarbour 62 = .ok (.iload_n 3, 1) := by decide +kernel
theorem dX5_namedHarbour_63 : decode cX5_namedHarbour 63 = .ok (.invokevirtual 137, 3) := by decide +kernel
theorem dX5_namedHarbour_66 : decode cX5_namedHarbour 66 = .ok (.aload_n 0, 1) := by decide +kernel
theorem dX5_namedHarbour_67 : decode cX5_namedHarbour 67 = .ok (.aload_n 0, 1) := by decide +kernel
theorem dX5_namedHarbour_68 : decode cX5_namedHarbour 68 = .ok (.getfield 85, 3) := by decide +kernel
theorem dX5_namedHarbour_71 : decode cX5_namedHarbour 71 = .ok (.iload_n 3, 1) := by decide +kernel
theorem dX5_namedHarbour_72 : decode cX5_namedHarbour 72 = .ok (.iadd, 1) := by decide +kernel
theorem dX5_namedHarbour_73 : decode cX5_namedHarbour 73 = .ok (.invokevirtual 81, 3) := by decide +kernel
theorem dX5_namedHarbour_76 : decode cX5_namedHarbour 76 = .ok (.if_icmp .ne 7, 3) := by decide +kernel
theorem dX5_namedHarbour_79 : decode cX5_namedHarbour 79 = .ok (.iconst 1, 1) := by decide +kernel
theorem dX5_namedHarbour_80 : decode cX5_namedHarbour 80 = .ok (.goto 4, 3) := by decide +kernel
theorem dX5_namedHarbour_83 : decode cX5_namedHarbour 83 = .ok (.iconst 0, 1) := by decide +kernel
theorem dX5_namedHarbour_84 : decode cX5_namedHarbour 84 = .ok (.istore_n 2, 1) := by decide +kernel
theorem dX5_namedHarbour_85 : decode cX5_namedHarbour 85 = .ok (.iinc 3 1, 3) := by decide +kernel
theorem dX5_namedHarbour_88 : decode cX5_namedHarbour 88 = .ok (.goto (-46), 3) := by decide +kernel
theorem dX5_namedHarbour_91 : decode cX5_namedHarbour 91 = .ok (.iload_n 2, 1) := by decide +kernel
theorem dX5_namedHarbour_92 : decode cX5_namedHarbour 92 = .ok (.ifCond .eq 5, 3) := by decide +kernel
theorem dX5_namedHarbour_95 : decode cX5_namedHarbour 95 = .ok (.iload_n 1, 1) := by decide +kernel
theorem dX5_namedHarbour_96 : decode cX5_namedHarbour 96 = .ok (.ireturn, 1) := by decide +kernel
theorem dX5_namedHarbour_97 : decode cX5_namedHarbour 97 = .ok (.iinc 1 1, 3) := by decide +kernel
theorem dX5_namedHarbour_100 : decode cX5_namedHarbour 100 = .ok (.goto (-98), 3) := by decide +kernel
theorem dX5_namedHarbour_103 : decode cX5_namedHarbour 103 = .ok (.iconst (-1), 1) := by decide +kernel
theorem dX5_namedHarbour_104 : decode cX5_namedHarbour 104 = .ok (.ireturn, 1) := by decide +kernel
theorem dX5_takeCell_0 : decode cX5_takeCell 0 = .ok (.aload_n 0, 1) := by decide +kernel
theorem dX5_takeCell_1 : decode cX5_takeCell 1 = .ok (.iconst 0, 1) := by decide +kernel
theorem dX5_takeCell_2 : decode cX5_takeCell 2 = .ok (.aload_n 0, 1) := by decide +kernel
theorem dX5_takeCell_3 : decode cX5_takeCell 3 = .ok (.getfield 12, 3) := by decide +kernel
theorem dX5_takeCell_6 : decode cX5_takeCell 6 = .ok (.getfield 140, 3) := by decide +kernel
theorem dX5_takeCell_9 : decode cX5_takeCell 9 = .ok (.getfield 144, 3) := by decide +kernel
theorem dX5_takeCell_12 : decode cX5_takeCell 12 = .ok (.iconst 1, 1) := by decide +kernel
theorem dX5_takeCell_13 : decode cX5_takeCell 13 = .ok (.isub, 1) := by decide +kernel
theorem dX5_takeCell_14 : decode cX5_takeCell 14 = .ok (.invokevirtual 149, 3) := by decide +kernel
theorem dX5_takeCell_17 : decode cX5_takeCell 17 = .ok (.ifCond .ne 5, 3) := by decide +kernel
theorem dX5_takeCell_20 : decode cX5_takeCell 20 = .ok (.iconst 0, 1) := by decide +kernel
theorem dX5_takeCell_21 : decode cX5_takeCell 21 = .ok (.ireturn, 1) := by decide +kernel
theorem dX5_takeCell_22 : decode cX5_takeCell 22 = .ok (.aload_n 0, 1) := by decide +kernel
theorem dX5_takeCell_23 : decode cX5_takeCell 23 = .ok (.getfield 110, 3) := by decide +kernel
theorem dX5_takeCell_26 : decode cX5_takeCell 26 = .ok (.istore_n 1, 1) := by decide +kernel
theorem dX5_takeCell_27 : decode cX5_takeCell 27 = .ok (.aload_n 0, 1) := by decide +kernel
theorem dX5_takeCell_28 : decode cX5_takeCell 28 = .ok (.iconst 0, 1) := by decide +kernel
theorem dX5_takeCell_29 : decode cX5_takeCell 29 = .ok (.aload_n 0, 1) := by decide +kernel
theorem dX5_takeCell_30 : decode cX5_takeCell 30 = .ok (.getfield 12, 3) := by decide +kernel
theorem dX5_takeCell_33 : decode cX5_takeCell 33 = .ok (.getfield 140, 3) := by decide +kernel
theorem dX5_takeCell_36 : decode cX5_takeCell 36 = .ok (.getfield 152, 3) := by decide +kernel
theorem dX5_takeCell_39 : decode cX5_takeCell 39 = .ok (.iconst 1, 1) := by decide +kernel
theorem dX5_takeCell_40 : decode cX5_takeCell 40 = .ok (.isub, 1) := by decide +kernel
theorem dX5_takeCell_41 : decode cX5_takeCell 41 = .ok (.invokevirtual 149, 3) := by decide +kernel
theorem dX5_takeCell_44 : decode cX5_takeCell 44 = .ok (.ifCond .ne 5, 3) := by decide +kernel
theorem dX5_takeCell_47 : decode cX5_takeCell 47 = .ok (.iconst 0, 1) := by decide +kernel
theorem dX5_takeCell_48 : decode cX5_takeCell 48 = .ok (.ireturn, 1) := by decide +kernel
theorem dX5_takeCell_49 : decode cX5_takeCell 49 = .ok (.aload_n 0, 1) := by decide +kernel
theorem dX5_takeCell_50 : decode cX5_takeCell 50 = .ok (.iload_n 1, 1) := by decide +kernel
theorem dX5_takeCell_51 : decode cX5_takeCell 51 = .ok (.aload_n 0, 1) := by decide +kernel
theorem dX5_takeCell_52 : decode cX5_takeCell 52 = .ok (.getfield 12, 3) := by decide +kernel
theorem dX5_takeCell_55 : decode cX5_takeCell 55 = .ok (.getfield 140, 3) := by decide +kernel
theorem dX5_takeCell_58 : decode cX5_takeCell 58 = .ok (.getfield 152, 3) := by decide +kernel
theorem dX5_takeCell_61 : decode cX5_takeCell 61 = .ok (.imul, 1) := by decide +kernel
theorem dX5_takeCell_62 : decode cX5_takeCell 62 = .ok (.aload_n 0, 1) := by decide +kernel
theorem dX5_takeCell_63 : decode cX5_takeCell 63 = .ok (.getfield 110, 3) := by decide +kernel
theorem dX5_takeCell_66 : decode cX5_takeCell 66 = .ok (.iadd, 1) := by decide +kernel
theorem dX5_takeCell_67 : decode cX5_takeCell 67 = .ok (.putfield 155, 3) := by decide +kernel
theorem dX5_takeCell_70 : decode cX5_takeCell 70 = .ok (.iconst 1, 1) := by decide +kernel
theorem dX5_takeCell_71 : decode cX5_takeCell 71 = .ok (.ireturn, 1) := by decide +kernel
theorem dX5_readChart_0 : decode cX5_readChart 0 = .ok (.aload_n 0, 1) := by decide +kernel
theorem dX5_readChart_1 : decode cX5_readChart 1 = .ok (.invokevirtual 122, 3) := by decide +kernel
theorem dX5_readChart_4 : decode cX5_readChart 4 = .ok (.ifCond .ne 5, 3) := by decide +kernel
theorem dX5_readChart_7 : decode cX5_readChart 7 = .ok (.iconst 0, 1) := by decide +kernel
theorem dX5_readChart_8 : decode cX5_readChart 8 = .ok (.ireturn, 1) := by decide +kernel
theorem dX5_readChart_9 : decode cX5_readChart 9 = .ok (.aload_n 0, 1) := by decide +kernel
theorem dX5_readChart_10 : decode cX5_readChart 10 = .ok (.ldc 158, 2) := by decide +kernel
theorem dX5_readChart_12 : decode cX5_readChart 12 = .ok (.invokevirtual 160, 3) := by decide +kernel
theorem dX5_readChart_15 : decode cX5_readChart 15 = .ok (.ifCond .ne 13, 3) := by decide +kernel
theorem dX5_readChart_18 : decode cX5_readChart 18 = .ok (.aload_n 0, 1) := by decide +kernel
theorem dX5_readChart_19 : decode cX5_readChart 19 = .ok (.iconst 1, 1) := by decide +kernel
theorem dX5_readChart_20 : decode cX5_readChart 20 = .ok (.aload_n 0, 1) := by decide +kernel
theorem dX5_readChart_21 : decode cX5_readChart 21 = .ok (.getfield 85, 3) := by decide +kernel
theorem dX5_readChart_24 : decode cX5_readChart 24 = .ok (.invokevirtual 95, 3) := by decide +kernel
theorem dX5_readChart_27 : decode cX5_readChart 27 = .ok (.ireturn, 1) := by decide +kernel
