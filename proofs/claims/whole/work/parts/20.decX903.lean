theorem dX9_laysPairs_111 : decode cX9_laysPairs 111 = .ok (.getfield 47, 3) := by decide +kernel
theorem dX9_laysPairs_114 : decode cX9_laysPairs 114 = .ok (.bipush 32, 2) := by decide +kernel
theorem dX9_laysPairs_116 : decode cX9_laysPairs 116 = .ok (.iload_n 3, 1) := by decide +kernel
theorem dX9_laysPairs_117 : decode cX9_laysPairs 117 = .ok (.imul, 1) := by decide +kernel
theorem dX9_laysPairs_118 : decode cX9_laysPairs 118 = .ok (.iload 4, 2) := by decide +kernel
theorem dX9_laysPairs_120 : decode cX9_laysPairs 120 = .ok (.iadd, 1) := by decide +kernel
theorem dX9_laysPairs_121 : decode cX9_laysPairs 121 = .ok (.iload 5, 2) := by decide +kernel
theorem dX9_laysPairs_123 : decode cX9_laysPairs 123 = .ok (.ifCond .eq 45, 3) := by decide +kernel
theorem dX9_laysPairs_126 : decode cX9_laysPairs 126 = .ok (.aload_n 0, 1) := by decide +kernel
theorem dX9_laysPairs_127 : decode cX9_laysPairs 127 = .ok (.iload_n 3, 1) := by decide +kernel
theorem dX9_laysPairs_128 : decode cX9_laysPairs 128 = .ok (.iconst 4, 1) := by decide +kernel
theorem dX9_laysPairs_129 : decode cX9_laysPairs 129 = .ok (.idiv, 1) := by decide +kernel
theorem dX9_laysPairs_130 : decode cX9_laysPairs 130 = .ok (.iload_n 3, 1) := by decide +kernel
theorem dX9_laysPairs_131 : decode cX9_laysPairs 131 = .ok (.iconst 4, 1) := by decide +kernel
theorem dX9_laysPairs_132 : decode cX9_laysPairs 132 = .ok (.irem, 1) := by decide +kernel
theorem dX9_laysPairs_133 : decode cX9_laysPairs 133 = .ok (.aload_n 0, 1) := by decide +kernel
theorem dX9_laysPairs_134 : decode cX9_laysPairs 134 = .ok (.getfield 41, 3) := by decide +kernel
theorem dX9_laysPairs_137 : decode cX9_laysPairs 137 = .ok (.iload_n 3, 1) := by decide +kernel
theorem dX9_laysPairs_138 : decode cX9_laysPairs 138 = .ok (.iconst 4, 1) := by decide +kernel
theorem dX9_laysPairs_139 : decode cX9_laysPairs 139 = .ok (.idiv, 1) := by decide +kernel
theorem dX9_laysPairs_140 : decode cX9_laysPairs 140 = .ok (.baload, 1) := by decide +kernel
theorem dX9_laysPairs_141 : decode cX9_laysPairs 141 = .ok (.iload 4, 2) := by decide +kernel
theorem dX9_laysPairs_143 : decode cX9_laysPairs 143 = .ok (.iconst 4, 1) := by decide +kernel
theorem dX9_laysPairs_144 : decode cX9_laysPairs 144 = .ok (.idiv, 1) := by decide +kernel
theorem dX9_laysPairs_145 : decode cX9_laysPairs 145 = .ok (.iload 4, 2) := by decide +kernel
theorem dX9_laysPairs_147 : decode cX9_laysPairs 147 = .ok (.iconst 4, 1) := by decide +kernel
theorem dX9_laysPairs_148 : decode cX9_laysPairs 148 = .ok (.irem, 1) := by decide +kernel
theorem dX9_laysPairs_149 : decode cX9_laysPairs 149 = .ok (.aload_n 0, 1) := by decide +kernel
theorem dX9_laysPairs_150 : decode cX9_laysPairs 150 = .ok (.getfield 41, 3) := by decide +kernel
theorem dX9_laysPairs_153 : decode cX9_laysPairs 153 = .ok (.iload 4, 2) := by decide +kernel
theorem dX9_laysPairs_155 : decode cX9_laysPairs 155 = .ok (.iconst 4, 1) := by decide +kernel
theorem dX9_laysPairs_156 : decode cX9_laysPairs 156 = .ok (.idiv, 1) := by decide +kernel
theorem dX9_laysPairs_157 : decode cX9_laysPairs 157 = .ok (.baload, 1) := by decide +kernel
theorem dX9_laysPairs_158 : decode cX9_laysPairs 158 = .ok (.invokevirtual 127, 3) := by decide +kernel
theorem dX9_laysPairs_161 : decode cX9_laysPairs 161 = .ok (.ifCond .eq 7, 3) := by decide +kernel
theorem dX9_laysPairs_164 : decode cX9_laysPairs 164 = .ok (.iconst 1, 1) := by decide +kernel
theorem dX9_laysPairs_165 : decode cX9_laysPairs 165 = .ok (.goto 4, 3) := by decide +kernel
theorem dX9_laysPairs_168 : decode cX9_laysPairs 168 = .ok (.iconst 0, 1) := by decide +kernel
theorem dX9_laysPairs_169 : decode cX9_laysPairs 169 = .ok (.bastore, 1) := by decide +kernel
theorem dX9_laysPairs_170 : decode cX9_laysPairs 170 = .ok (.iinc 4 1, 3) := by decide +kernel
theorem dX9_laysPairs_173 : decode cX9_laysPairs 173 = .ok (.goto (-107), 3) := by decide +kernel
theorem dX9_laysPairs_176 : decode cX9_laysPairs 176 = .ok (.iinc 3 1, 3) := by decide +kernel
theorem dX9_laysPairs_179 : decode cX9_laysPairs 179 = .ok (.goto (-123), 3) := by decide +kernel
theorem dX9_laysPairs_182 : decode cX9_laysPairs 182 = .ok (.return_, 1) := by decide +kernel
theorem dX9_canLie_0 : decode cX9_canLie 0 = .ok (.aload_n 0, 1) := by decide +kernel
theorem dX9_canLie_1 : decode cX9_canLie 1 = .ok (.getfield 44, 3) := by decide +kernel
theorem dX9_canLie_4 : decode cX9_canLie 4 = .ok (.iconst 4, 1) := by decide +kernel
theorem dX9_canLie_5 : decode cX9_canLie 5 = .ok (.iload_n 1, 1) := by decide +kernel
theorem dX9_canLie_6 : decode cX9_canLie 6 = .ok (.imul, 1) := by decide +kernel
theorem dX9_canLie_7 : decode cX9_canLie 7 = .ok (.iload_n 2, 1) := by decide +kernel
theorem dX9_canLie_8 : decode cX9_canLie 8 = .ok (.iadd, 1) := by decide +kernel
theorem dX9_canLie_9 : decode cX9_canLie 9 = .ok (.baload, 1) := by decide +kernel
theorem dX9_canLie_10 : decode cX9_canLie 10 = .ok (.istore_n 3, 1) := by decide +kernel
theorem dX9_canLie_11 : decode cX9_canLie 11 = .ok (.iconst 0, 1) := by decide +kernel
theorem dX9_canLie_12 : decode cX9_canLie 12 = .ok (.istore 4, 2) := by decide +kernel
theorem dX9_canLie_14 : decode cX9_canLie 14 = .ok (.iload 4, 2) := by decide +kernel
theorem dX9_canLie_16 : decode cX9_canLie 16 = .ok (.iload_n 1, 1) := by decide +kernel
theorem dX9_canLie_17 : decode cX9_canLie 17 = .ok (.if_icmp .ge 59, 3) := by decide +kernel
theorem dX9_canLie_20 : decode cX9_canLie 20 = .ok (.iload_n 3, 1) := by decide +kernel
theorem dX9_canLie_21 : decode cX9_canLie 21 = .ok (.ifCond .eq 55, 3) := by decide +kernel
theorem dX9_canLie_24 : decode cX9_canLie 24 = .ok (.aload_n 0, 1) := by decide +kernel
theorem dX9_canLie_25 : decode cX9_canLie 25 = .ok (.getfield 35, 3) := by decide +kernel
theorem dX9_canLie_28 : decode cX9_canLie 28 = .ok (.iload 4, 2) := by decide +kernel
theorem dX9_canLie_30 : decode cX9_canLie 30 = .ok (.iaload, 1) := by decide +kernel
theorem dX9_canLie_31 : decode cX9_canLie 31 = .ok (.iconst (-1), 1) := by decide +kernel
theorem dX9_canLie_32 : decode cX9_canLie 32 = .ok (.if_icmp .eq 32, 3) := by decide +kernel
theorem dX9_canLie_35 : decode cX9_canLie 35 = .ok (.aload_n 0, 1) := by decide +kernel
theorem dX9_canLie_36 : decode cX9_canLie 36 = .ok (.getfield 47, 3) := by decide +kernel
theorem dX9_canLie_39 : decode cX9_canLie 39 = .ok (.bipush 32, 2) := by decide +kernel
theorem dX9_canLie_41 : decode cX9_canLie 41 = .ok (.iconst 4, 1) := by decide +kernel
theorem dX9_canLie_42 : decode cX9_canLie 42 = .ok (.iload_n 1, 1) := by decide +kernel
theorem dX9_canLie_43 : decode cX9_canLie 43 = .ok (.imul, 1) := by decide +kernel
theorem dX9_canLie_44 : decode cX9_canLie 44 = .ok (.iload_n 2, 1) := by decide +kernel
theorem dX9_canLie_45 : decode cX9_canLie 45 = .ok (.iadd, 1) := by decide +kernel
theorem dX9_canLie_46 : decode cX9_canLie 46 = .ok (.imul, 1) := by decide +kernel
theorem dX9_canLie_47 : decode cX9_canLie 47 = .ok (.iconst 4, 1) := by decide +kernel
theorem dX9_canLie_48 : decode cX9_canLie 48 = .ok (.iload 4, 2) := by decide +kernel
theorem dX9_canLie_50 : decode cX9_canLie 50 = .ok (.imul, 1) := by decide +kernel
theorem dX9_canLie_51 : decode cX9_canLie 51 = .ok (.iadd, 1) := by decide +kernel
theorem dX9_canLie_52 : decode cX9_canLie 52 = .ok (.aload_n 0, 1) := by decide +kernel
theorem dX9_canLie_53 : decode cX9_canLie 53 = .ok (.getfield 35, 3) := by decide +kernel
theorem dX9_canLie_56 : decode cX9_canLie 56 = .ok (.iload 4, 2) := by decide +kernel
theorem dX9_canLie_58 : decode cX9_canLie 58 = .ok (.iaload, 1) := by decide +kernel
theorem dX9_canLie_59 : decode cX9_canLie 59 = .ok (.iadd, 1) := by decide +kernel
theorem dX9_canLie_60 : decode cX9_canLie 60 = .ok (.baload, 1) := by decide +kernel
theorem dX9_canLie_61 : decode cX9_canLie 61 = .ok (.ifCond .ne 7, 3) := by decide +kernel
theorem dX9_canLie_64 : decode cX9_canLie 64 = .ok (.iconst 1, 1) := by decide +kernel
theorem dX9_canLie_65 : decode cX9_canLie 65 = .ok (.goto 4, 3) := by decide +kernel
theorem dX9_canLie_68 : decode cX9_canLie 68 = .ok (.iconst 0, 1) := by decide +kernel
theorem dX9_canLie_69 : decode cX9_canLie 69 = .ok (.istore_n 3, 1) := by decide +kernel
theorem dX9_canLie_70 : decode cX9_canLie 70 = .ok (.iinc 4 1, 3) := by decide +kernel
theorem dX9_canLie_73 : decode cX9_canLie 73 = .ok (.goto (-59), 3) := by decide +kernel
theorem dX9_canLie_76 : decode cX9_canLie 76 = .ok (.iload_n 3, 1) := by decide +kernel
theorem dX9_canLie_77 : decode cX9_canLie 77 = .ok (.ireturn, 1) := by decide +kernel
theorem dX9_tries_0 : decode cX9_tries 0 = .ok (.iload_n 1, 1) := by decide +kernel
theorem dX9_tries_1 : decode cX9_tries 1 = .ok (.aload_n 0, 1) := by decide +kernel
theorem dX9_tries_2 : decode cX9_tries 2 = .ok (.getfield 7, 3) := by decide +kernel
theorem dX9_tries_5 : decode cX9_tries 5 = .ok (.iconst 2, 1) := by decide +kernel
theorem dX9_tries_6 : decode cX9_tries 6 = .ok (.iaload, 1) := by decide +kernel
theorem dX9_tries_7 : decode cX9_tries 7 = .ok (.if_icmp .ne 10, 3) := by decide +kernel
theorem dX9_tries_10 : decode cX9_tries 10 = .ok (.aload_n 0, 1) := by decide +kernel
theorem dX9_tries_11 : decode cX9_tries 11 = .ok (.iload_n 2, 1) := by decide +kernel
theorem dX9_tries_12 : decode cX9_tries 12 = .ok (.iload_n 3, 1) := by decide +kernel
theorem dX9_tries_13 : decode cX9_tries 13 = .ok (.invokevirtual 185, 3) := by decide +kernel
theorem dX9_tries_16 : decode cX9_tries 16 = .ok (.return_, 1) := by decide +kernel
theorem dX9_tries_17 : decode cX9_tries 17 = .ok (.iconst 0, 1) := by decide +kernel
theorem dX9_tries_18 : decode cX9_tries 18 = .ok (.istore 4, 2) := by decide +kernel
theorem dX9_tries_20 : decode cX9_tries 20 = .ok (.iload 4, 2) := by decide +kernel
theorem dX9_tries_22 : decode cX9_tries 22 = .ok (.iconst 4, 1) := by decide +kernel
theorem dX9_tries_23 : decode cX9_tries 23 = .ok (.if_icmp .ge 53, 3) := by decide +kernel
theorem dX9_tries_26 : decode cX9_tries 26 = .ok (.aload_n 0, 1) := by decide +kernel
theorem dX9_tries_27 : decode cX9_tries 27 = .ok (.iload_n 1, 1) := by decide +kernel
theorem dX9_tries_28 : decode cX9_tries 28 = .ok (.iload 4, 2) := by decide +kernel
theorem dX9_tries_30 : decode cX9_tries 30 = .ok (.invokevirtual 188, 3) := by decide +kernel
theorem dX9_tries_33 : decode cX9_tries 33 = .ok (.ifCond .eq 37, 3) := by decide +kernel
theorem dX9_tries_36 : decode cX9_tries 36 = .ok (.aload_n 0, 1) := by decide +kernel
theorem dX9_tries_37 : decode cX9_tries 37 = .ok (.getfield 35, 3) := by decide +kernel
theorem dX9_tries_40 : decode cX9_tries 40 = .ok (.iload_n 1, 1) := by decide +kernel
theorem dX9_tries_41 : decode cX9_tries 41 = .ok (.iload 4, 2) := by decide +kernel
theorem dX9_tries_43 : decode cX9_tries 43 = .ok (.iastore, 1) := by decide +kernel
theorem dX9_tries_44 : decode cX9_tries 44 = .ok (.aload_n 0, 1) := by decide +kernel
theorem dX9_tries_45 : decode cX9_tries 45 = .ok (.iload_n 1, 1) := by decide +kernel
theorem dX9_tries_46 : decode cX9_tries 46 = .ok (.iconst 1, 1) := by decide +kernel
theorem dX9_tries_47 : decode cX9_tries 47 = .ok (.iadd, 1) := by decide +kernel
theorem dX9_tries_48 : decode cX9_tries 48 = .ok (.iload_n 2, 1) := by decide +kernel
theorem dX9_tries_49 : decode cX9_tries 49 = .ok (.iconst 1, 1) := by decide +kernel
theorem dX9_tries_50 : decode cX9_tries 50 = .ok (.iadd, 1) := by decide +kernel
theorem dX9_tries_51 : decode cX9_tries 51 = .ok (.iload_n 3, 1) := by decide +kernel
theorem dX9_tries_52 : decode cX9_tries 52 = .ok (.aload_n 0, 1) := by decide +kernel
theorem dX9_tries_53 : decode cX9_tries 53 = .ok (.getfield 41, 3) := by decide +kernel
theorem dX9_tries_56 : decode cX9_tries 56 = .ok (.iload_n 1, 1) := by decide +kernel
theorem dX9_tries_57 : decode cX9_tries 57 = .ok (.baload, 1) := by decide +kernel
theorem dX9_tries_58 : decode cX9_tries 58 = .ok (.ifCond .eq 7, 3) := by decide +kernel
theorem dX9_tries_61 : decode cX9_tries 61 = .ok (.iconst 1, 1) := by decide +kernel
theorem dX9_tries_62 : decode cX9_tries 62 = .ok (.goto 4, 3) := by decide +kernel
theorem dX9_tries_65 : decode cX9_tries 65 = .ok (.iconst 0, 1) := by decide +kernel
theorem dX9_tries_66 : decode cX9_tries 66 = .ok (.iadd, 1) := by decide +kernel
theorem dX9_tries_67 : decode cX9_tries 67 = .ok (.invokevirtual 191, 3) := by decide +kernel
theorem dX9_tries_70 : decode cX9_tries 70 = .ok (.iinc 4 1, 3) := by decide +kernel
theorem dX9_tries_73 : decode cX9_tries 73 = .ok (.goto (-53), 3) := by decide +kernel
theorem dX9_tries_76 : decode cX9_tries 76 = .ok (.aload_n 0, 1) := by decide +kernel
theorem dX9_tries_77 : decode cX9_tries 77 = .ok (.getfield 35, 3) := by decide +kernel
theorem dX9_tries_80 : decode cX9_tries 80 = .ok (.iload_n 1, 1) := by decide +kernel
theorem dX9_tries_81 : decode cX9_tries 81 = .ok (.iconst (-1), 1) := by decide +kernel
theorem dX9_tries_82 : decode cX9_tries 82 = .ok (.iastore, 1) := by decide +kernel
theorem dX9_tries_83 : decode cX9_tries 83 = .ok (.aload_n 0, 1) := by decide +kernel
theorem dX9_tries_84 : decode cX9_tries 84 = .ok (.iload_n 1, 1) := by decide +kernel
theorem dX9_tries_85 : decode cX9_tries 85 = .ok (.iconst 1, 1) := by decide +kernel
theorem dX9_tries_86 : decode cX9_tries 86 = .ok (.iadd, 1) := by decide +kernel
theorem dX9_tries_87 : decode cX9_tries 87 = .ok (.iload_n 2, 1) := by decide +kernel
theorem dX9_tries_88 : decode cX9_tries 88 = .ok (.iload_n 3, 1) := by decide +kernel
theorem dX9_tries_89 : decode cX9_tries 89 = .ok (.invokevirtual 191, 3) := by decide +kernel
theorem dX9_tries_92 : decode cX9_tries 92 = .ok (.return_, 1) := by decide +kernel
theorem dX9_weighs_0 : decode cX9_weighs 0 = .ok (.iload_n 2, 1) := by decide +kernel
theorem dX9_weighs_1 : decode cX9_weighs 1 = .ok (.aload_n 0, 1) := by decide +kernel
theorem dX9_weighs_2 : decode cX9_weighs 2 = .ok (.getfield 194, 3) := by decide +kernel
theorem dX9_weighs_5 : decode cX9_weighs 5 = .ok (.if_icmp .lt 19, 3) := by decide +kernel
theorem dX9_weighs_8 : decode cX9_weighs 8 = .ok (.iload_n 2, 1) := by decide +kernel
theorem dX9_weighs_9 : decode cX9_weighs 9 = .ok (.aload_n 0, 1) := by decide +kernel
theorem dX9_weighs_10 : decode cX9_weighs 10 = .ok (.getfield 194, 3) := by decide +kernel
theorem dX9_weighs_13 : decode cX9_weighs 13 = .ok (.if_icmp .ne 12, 3) := by decide +kernel
theorem dX9_weighs_16 : decode cX9_weighs 16 = .ok (.iload_n 1, 1) := by decide +kernel
theorem dX9_weighs_17 : decode cX9_weighs 17 = .ok (.aload_n 0, 1) := by decide +kernel
theorem dX9_weighs_18 : decode cX9_weighs 18 = .ok (.getfield 197, 3) := by decide +kernel
theorem dX9_weighs_21 : decode cX9_weighs 21 = .ok (.if_icmp .ge 4, 3) := by decide +kernel
theorem dX9_weighs_24 : decode cX9_weighs 24 = .ok (.return_, 1) := by decide +kernel
theorem dX9_weighs_25 : decode cX9_weighs 25 = .ok (.aload_n 0, 1) := by decide +kernel
theorem dX9_weighs_26 : decode cX9_weighs 26 = .ok (.aload_n 0, 1) := by decide +kernel
theorem dX9_weighs_27 : decode cX9_weighs 27 = .ok (.getfield 7, 3) := by decide +kernel
theorem dX9_weighs_30 : decode cX9_weighs 30 = .ok (.iconst 5, 1) := by decide +kernel
theorem dX9_weighs_31 : decode cX9_weighs 31 = .ok (.iaload, 1) := by decide +kernel
theorem dX9_weighs_32 : decode cX9_weighs 32 = .ok (.invokevirtual 182, 3) := by decide +kernel
theorem dX9_weighs_35 : decode cX9_weighs 35 = .ok (.istore_n 3, 1) := by decide +kernel
theorem dX9_weighs_36 : decode cX9_weighs 36 = .ok (.iload_n 2, 1) := by decide +kernel
theorem dX9_weighs_37 : decode cX9_weighs 37 = .ok (.aload_n 0, 1) := by decide +kernel
theorem dX9_weighs_38 : decode cX9_weighs 38 = .ok (.getfield 194, 3) := by decide +kernel
theorem dX9_weighs_41 : decode cX9_weighs 41 = .ok (.if_icmp .ne 20, 3) := by decide +kernel
theorem dX9_weighs_44 : decode cX9_weighs 44 = .ok (.iload_n 1, 1) := by decide +kernel
theorem dX9_weighs_45 : decode cX9_weighs 45 = .ok (.aload_n 0, 1) := by decide +kernel
theorem dX9_weighs_46 : decode cX9_weighs 46 = .ok (.getfield 197, 3) := by decide +kernel
theorem dX9_weighs_49 : decode cX9_weighs 49 = .ok (.if_icmp .ne 12, 3) := by decide +kernel
theorem dX9_weighs_52 : decode cX9_weighs 52 = .ok (.iload_n 3, 1) := by decide +kernel
theorem dX9_weighs_53 : decode cX9_weighs 53 = .ok (.aload_n 0, 1) := by decide +kernel
theorem dX9_weighs_54 : decode cX9_weighs 54 = .ok (.getfield 200, 3) := by decide +kernel
theorem dX9_weighs_57 : decode cX9_weighs 57 = .ok (.if_icmp .lt 4, 3) := by decide +kernel
theorem dX9_weighs_60 : decode cX9_weighs 60 = .ok (.return_, 1) := by decide +kernel
theorem dX9_weighs_61 : decode cX9_weighs 61 = .ok (.aload_n 0, 1) := by decide +kernel
theorem dX9_weighs_62 : decode cX9_weighs 62 = .ok (.iload_n 2, 1) := by decide +kernel
theorem dX9_weighs_63 : decode cX9_weighs 63 = .ok (.putfield 194, 3) := by decide +kernel
theorem dX9_weighs_66 : decode cX9_weighs 66 = .ok (.aload_n 0, 1) := by decide +kernel
theorem dX9_weighs_67 : decode cX9_weighs 67 = .ok (.iload_n 1, 1) := by decide +kernel
theorem dX9_weighs_68 : decode cX9_weighs 68 = .ok (.putfield 197, 3) := by decide +kernel
theorem dX9_weighs_71 : decode cX9_weighs 71 = .ok (.aload_n 0, 1) := by decide +kernel
theorem dX9_weighs_72 : decode cX9_weighs 72 = .ok (.iload_n 3, 1) := by decide +kernel
theorem dX9_weighs_73 : decode cX9_weighs 73 = .ok (.putfield 200, 3) := by decide +kernel
theorem dX9_weighs_76 : decode cX9_weighs 76 = .ok (.iconst 0, 1) := by decide +kernel
theorem dX9_weighs_77 : decode cX9_weighs 77 = .ok (.istore 4, 2) := by decide +kernel
theorem dX9_weighs_79 : decode cX9_weighs 79 = .ok (.iload 4, 2) := by decide +kernel
theorem dX9_weighs_81 : decode cX9_weighs 81 = .ok (.aload_n 0, 1) := by decide +kernel
theorem dX9_weighs_82 : decode cX9_weighs 82 = .ok (.getfield 7, 3) := by decide +kernel
theorem dX9_weighs_85 : decode cX9_weighs 85 = .ok (.iconst 2, 1) := by decide +kernel
theorem dX9_weighs_86 : decode cX9_weighs 86 = .ok (.iaload, 1) := by decide +kernel
theorem dX9_weighs_87 : decode cX9_weighs 87 = .ok (.if_icmp .ge 23, 3) := by decide +kernel
theorem dX9_weighs_90 : decode cX9_weighs 90 = .ok (.aload_n 0, 1) := by decide +kernel
theorem dX9_weighs_91 : decode cX9_weighs 91 = .ok (.getfield 38, 3) := by decide +kernel
theorem dX9_weighs_94 : decode cX9_weighs 94 = .ok (.iload 4, 2) := by decide +kernel
theorem dX9_weighs_96 : decode cX9_weighs 96 = .ok (.aload_n 0, 1) := by decide +kernel
theorem dX9_weighs_97 : decode cX9_weighs 97 = .ok (.getfield 35, 3) := by decide +kernel
theorem dX9_weighs_100 : decode cX9_weighs 100 = .ok (.iload 4, 2) := by decide +kernel
theorem dX9_weighs_102 : decode cX9_weighs 102 = .ok (.iaload, 1) := by decide +kernel
theorem dX9_weighs_103 : decode cX9_weighs 103 = .ok (.iastore, 1) := by decide +kernel
theorem dX9_weighs_104 : decode cX9_weighs 104 = .ok (.iinc 4 1, 3) := by decide +kernel
theorem dX9_weighs_107 : decode cX9_weighs 107 = .ok (.goto (-28), 3) := by decide +kernel
theorem dX9_weighs_110 : decode cX9_weighs 110 = .ok (.return_, 1) := by decide +kernel
theorem dX9_arranges_0 : decode cX9_arranges 0 = .ok (.aload_n 0, 1) := by decide +kernel
theorem dX9_arranges_1 : decode cX9_arranges 1 = .ok (.iconst (-1), 1) := by decide +kernel
theorem dX9_arranges_2 : decode cX9_arranges 2 = .ok (.putfield 194, 3) := by decide +kernel
theorem dX9_arranges_5 : decode cX9_arranges 5 = .ok (.aload_n 0, 1) := by decide +kernel
theorem dX9_arranges_6 : decode cX9_arranges 6 = .ok (.iconst (-1), 1) := by decide +kernel
theorem dX9_arranges_7 : decode cX9_arranges 7 = .ok (.putfield 197, 3) := by decide +kernel
theorem dX9_arranges_10 : decode cX9_arranges 10 = .ok (.aload_n 0, 1) := by decide +kernel
theorem dX9_arranges_11 : decode cX9_arranges 11 = .ok (.ldc 157, 2) := by decide +kernel
theorem dX9_arranges_13 : decode cX9_arranges 13 = .ok (.putfield 200, 3) := by decide +kernel
theorem dX9_arranges_16 : decode cX9_arranges 16 = .ok (.aload_n 0, 1) := by decide +kernel
theorem dX9_arranges_17 : decode cX9_arranges 17 = .ok (.iload_n 1, 1) := by decide +kernel
theorem dX9_arranges_18 : decode cX9_arranges 18 = .ok (.invokevirtual 203, 3) := by decide +kernel
theorem dX9_arranges_21 : decode cX9_arranges 21 = .ok (.aload_n 0, 1) := by decide +kernel
theorem dX9_arranges_22 : decode cX9_arranges 22 = .ok (.iconst 0, 1) := by decide +kernel
theorem dX9_arranges_23 : decode cX9_arranges 23 = .ok (.iconst 0, 1) := by decide +kernel
theorem dX9_arranges_24 : decode cX9_arranges 24 = .ok (.iconst 0, 1) := by decide +kernel
theorem dX9_arranges_25 : decode cX9_arranges 25 = .ok (.invokevirtual 191, 3) := by decide +kernel
theorem dX9_arranges_28 : decode cX9_arranges 28 = .ok (.return_, 1) := by decide +kernel
theorem dX9_arrangesNow_0 : decode cX9_arrangesNow 0 = .ok (.iconst 0, 1) := by decide +kernel
theorem dX9_arrangesNow_1 : decode cX9_arrangesNow 1 = .ok (.istore_n 1, 1) := by decide +kernel
theorem dX9_arrangesNow_2 : decode cX9_arrangesNow 2 = .ok (.iload_n 1, 1) := by decide +kernel
theorem dX9_arrangesNow_3 : decode cX9_arrangesNow 3 = .ok (.aload_n 0, 1) := by decide +kernel
theorem dX9_arrangesNow_4 : decode cX9_arrangesNow 4 = .ok (.getfield 7, 3) := by decide +kernel
theorem dX9_arrangesNow_7 : decode cX9_arrangesNow 7 = .ok (.iconst 2, 1) := by decide +kernel
theorem dX9_arrangesNow_8 : decode cX9_arrangesNow 8 = .ok (.iaload, 1) := by decide +kernel
theorem dX9_arrangesNow_9 : decode cX9_arrangesNow 9 = .ok (.if_icmp .ge 20, 3) := by decide +kernel
theorem dX9_arrangesNow_12 : decode cX9_arrangesNow 12 = .ok (.aload_n 0, 1) := by decide +kernel
theorem dX9_arrangesNow_13 : decode cX9_arrangesNow 13 = .ok (.getfield 41, 3) := by decide +kernel
theorem dX9_arrangesNow_16 : decode cX9_arrangesNow 16 = .ok (.iload_n 1, 1) := by decide +kernel
theorem dX9_arrangesNow_17 : decode cX9_arrangesNow 17 = .ok (.aload_n 0, 1) := by decide +kernel
theorem dX9_arrangesNow_18 : decode cX9_arrangesNow 18 = .ok (.iload_n 1, 1) := by decide +kernel
theorem dX9_arrangesNow_19 : decode cX9_arrangesNow 19 = .ok (.invokevirtual 124, 3) := by decide +kernel
theorem dX9_arrangesNow_22 : decode cX9_arrangesNow 22 = .ok (.bastore, 1) := by decide +kernel
theorem dX9_arrangesNow_23 : decode cX9_arrangesNow 23 = .ok (.iinc 1 1, 3) := by decide +kernel
theorem dX9_arrangesNow_26 : decode cX9_arrangesNow 26 = .ok (.goto (-24), 3) := by decide +kernel
theorem dX9_arrangesNow_29 : decode cX9_arrangesNow 29 = .ok (.aload_n 0, 1) := by decide +kernel
theorem dX9_arrangesNow_30 : decode cX9_arrangesNow 30 = .ok (.iconst (-1), 1) := by decide +kernel
theorem dX9_arrangesNow_31 : decode cX9_arrangesNow 31 = .ok (.invokevirtual 207, 3) := by decide +kernel
theorem dX9_arrangesNow_34 : decode cX9_arrangesNow 34 = .ok (.return_, 1) := by decide +kernel
theorem dX9_arrangesIf_0 : decode cX9_arrangesIf 0 = .ok (.iconst 0, 1) := by decide +kernel
theorem dX9_arrangesIf_1 : decode cX9_arrangesIf 1 = .ok (.istore_n 3, 1) := by decide +kernel
theorem dX9_arrangesIf_2 : decode cX9_arrangesIf 2 = .ok (.iload_n 3, 1) := by decide +kernel
theorem dX9_arrangesIf_3 : decode cX9_arrangesIf 3 = .ok (.aload_n 0, 1) := by decide +kernel
theorem dX9_arrangesIf_4 : decode cX9_arrangesIf 4 = .ok (.getfield 7, 3) := by decide +kernel
theorem dX9_arrangesIf_7 : decode cX9_arrangesIf 7 = .ok (.iconst 2, 1) := by decide +kernel
theorem dX9_arrangesIf_8 : decode cX9_arrangesIf 8 = .ok (.iaload, 1) := by decide +kernel
theorem dX9_arrangesIf_9 : decode cX9_arrangesIf 9 = .ok (.if_icmp .ge 29, 3) := by decide +kernel
theorem dX9_arrangesIf_12 : decode cX9_arrangesIf 12 = .ok (.aload_n 0, 1) := by decide +kernel
theorem dX9_arrangesIf_13 : decode cX9_arrangesIf 13 = .ok (.getfield 41, 3) := by decide +kernel
theorem dX9_arrangesIf_16 : decode cX9_arrangesIf 16 = .ok (.iload_n 3, 1) := by decide +kernel
theorem dX9_arrangesIf_17 : decode cX9_arrangesIf 17 = .ok (.iload_n 3, 1) := by decide +kernel
theorem dX9_arrangesIf_18 : decode cX9_arrangesIf 18 = .ok (.iload_n 1, 1) := by decide +kernel
theorem dX9_arrangesIf_19 : decode cX9_arrangesIf 19 = .ok (.if_icmp .ne 7, 3) := by decide +kernel
theorem dX9_arrangesIf_22 : decode cX9_arrangesIf 22 = .ok (.iload_n 2, 1) := by decide +kernel
theorem dX9_arrangesIf_23 : decode cX9_arrangesIf 23 = .ok (.goto 8, 3) := by decide +kernel
theorem dX9_arrangesIf_26 : decode cX9_arrangesIf 26 = .ok (.aload_n 0, 1) := by decide +kernel
theorem dX9_arrangesIf_27 : decode cX9_arrangesIf 27 = .ok (.iload_n 3, 1) := by decide +kernel
theorem dX9_arrangesIf_28 : decode cX9_arrangesIf 28 = .ok (.invokevirtual 124, 3) := by decide +kernel
theorem dX9_arrangesIf_31 : decode cX9_arrangesIf 31 = .ok (.bastore, 1) := by decide +kernel
theorem dX9_arrangesIf_32 : decode cX9_arrangesIf 32 = .ok (.iinc 3 1, 3) := by decide +kernel
theorem dX9_arrangesIf_35 : decode cX9_arrangesIf 35 = .ok (.goto (-33), 3) := by decide +kernel
theorem dX9_arrangesIf_38 : decode cX9_arrangesIf 38 = .ok (.aload_n 0, 1) := by decide +kernel
theorem dX9_arrangesIf_39 : decode cX9_arrangesIf 39 = .ok (.iconst (-1), 1) := by decide +kernel
theorem dX9_arrangesIf_40 : decode cX9_arrangesIf 40 = .ok (.invokevirtual 207, 3) := by decide +kernel
theorem dX9_arrangesIf_43 : decode cX9_arrangesIf 43 = .ok (.return_, 1) := by decide +kernel
theorem dX9_bytesIn_0 : decode cX9_bytesIn 0 = .ok (.iconst 0, 1) := by decide +kernel
theorem dX9_bytesIn_1 : decode cX9_bytesIn 1 = .ok (.istore_n 2, 1) := by decide +kernel
theorem dX9_bytesIn_2 : decode cX9_bytesIn 2 = .ok (.bipush 56, 2) := by decide +kernel
theorem dX9_bytesIn_4 : decode cX9_bytesIn 4 = .ok (.istore_n 3, 1) := by decide +kernel
theorem dX9_bytesIn_5 : decode cX9_bytesIn 5 = .ok (.iload_n 3, 1) := by decide +kernel
theorem dX9_bytesIn_6 : decode cX9_bytesIn 6 = .ok (.ifCond .lt 29, 3) := by decide +kernel
theorem dX9_bytesIn_9 : decode cX9_bytesIn 9 = .ok (.iload_n 2, 1) := by decide +kernel
theorem dX9_bytesIn_10 : decode cX9_bytesIn 10 = .ok (.lload_n 0, 1) := by decide +kernel
theorem dX9_bytesIn_11 : decode cX9_bytesIn 11 = .ok (.iload_n 3, 1) := by decide +kernel
theorem dX9_bytesIn_12 : decode cX9_bytesIn 12 = .ok (.lshr, 1) := by decide +kernel
theorem dX9_bytesIn_13 : decode cX9_bytesIn 13 = .ok (.ldc2_w 210, 3) := by decide +kernel
theorem dX9_bytesIn_16 : decode cX9_bytesIn 16 = .ok (.land, 1) := by decide +kernel
theorem dX9_bytesIn_17 : decode cX9_bytesIn 17 = .ok (.lconst 0, 1) := by decide +kernel
theorem dX9_bytesIn_18 : decode cX9_bytesIn 18 = .ok (.lcmp, 1) := by decide +kernel
theorem dX9_bytesIn_19 : decode cX9_bytesIn 19 = .ok (.ifCond .eq 7, 3) := by decide +kernel
theorem dX9_bytesIn_22 : decode cX9_bytesIn 22 = .ok (.iconst 1, 1) := by decide +kernel
theorem dX9_bytesIn_23 : decode cX9_bytesIn 23 = .ok (.goto 4, 3) := by decide +kernel
theorem dX9_bytesIn_26 : decode cX9_bytesIn 26 = .ok (.iconst 0, 1) := by decide +kernel
theorem dX9_bytesIn_27 : decode cX9_bytesIn 27 = .ok (.iadd, 1) := by decide +kernel
theorem dX9_bytesIn_28 : decode cX9_bytesIn 28 = .ok (.istore_n 2, 1) := by decide +kernel
theorem dX9_bytesIn_29 : decode cX9_bytesIn 29 = .ok (.iinc 3 (-8), 3) := by decide +kernel
theorem dX9_bytesIn_32 : decode cX9_bytesIn 32 = .ok (.goto (-27), 3) := by decide +kernel
theorem dX9_bytesIn_35 : decode cX9_bytesIn 35 = .ok (.iload_n 2, 1) := by decide +kernel
theorem dX9_bytesIn_36 : decode cX9_bytesIn 36 = .ok (.ireturn, 1) := by decide +kernel
theorem dX9_append_0 : decode cX9_append 0 = .ok (.aload_n 0, 1) := by decide +kernel
theorem dX9_append_1 : decode cX9_append 1 = .ok (.iconst 0, 1) := by decide +kernel
theorem dX9_append_2 : decode cX9_append 2 = .ok (.putfield 64, 3) := by decide +kernel
theorem dX9_append_5 : decode cX9_append 5 = .ok (.aload_n 0, 1) := by decide +kernel
theorem dX9_append_6 : decode cX9_append 6 = .ok (.getfield 212, 3) := by decide +kernel
theorem dX9_append_9 : decode cX9_append 9 = .ok (.lload_n 1, 1) := by decide +kernel
theorem dX9_append_10 : decode cX9_append 10 = .ok (.invokestatic 215, 3) := by decide +kernel
theorem dX9_append_13 : decode cX9_append 13 = .ok (.iadd, 1) := by decide +kernel
theorem dX9_append_14 : decode cX9_append 14 = .ok (.sipush 500, 3) := by decide +kernel
theorem dX9_append_17 : decode cX9_append 17 = .ok (.if_icmp .le 6, 3) := by decide +kernel
theorem dX9_append_20 : decode cX9_append 20 = .ok (.bipush (-2), 2) := by decide +kernel
theorem dX9_append_22 : decode cX9_append 22 = .ok (.ireturn, 1) := by decide +kernel
theorem dX9_append_23 : decode cX9_append 23 = .ok (.bipush 56, 2) := by decide +kernel
theorem dX9_append_25 : decode cX9_append 25 = .ok (.istore_n 3, 1) := by decide +kernel
theorem dX9_append_26 : decode cX9_append 26 = .ok (.iload_n 3, 1) := by decide +kernel
theorem dX9_append_27 : decode cX9_append 27 = .ok (.ifCond .lt 45, 3) := by decide +kernel
theorem dX9_append_30 : decode cX9_append 30 = .ok (.lload_n 1, 1) := by decide +kernel
theorem dX9_append_31 : decode cX9_append 31 = .ok (.iload_n 3, 1) := by decide +kernel
theorem dX9_append_32 : decode cX9_append 32 = .ok (.lshr, 1) := by decide +kernel
theorem dX9_append_33 : decode cX9_append 33 = .ok (.ldc2_w 210, 3) := by decide +kernel
theorem dX9_append_36 : decode cX9_append 36 = .ok (.land, 1) := by decide +kernel
theorem dX9_append_37 : decode cX9_append 37 = .ok (.l2i, 1) := by decide +kernel
theorem dX9_append_38 : decode cX9_append 38 = .ok (.istore 4, 2) := by decide +kernel
theorem dX9_append_40 : decode cX9_append 40 = .ok (.iload 4, 2) := by decide +kernel
theorem dX9_append_42 : decode cX9_append 42 = .ok (.ifCond .eq 24, 3) := by decide +kernel
theorem dX9_append_45 : decode cX9_append 45 = .ok (.aload_n 0, 1) := by decide +kernel
theorem dX9_append_46 : decode cX9_append 46 = .ok (.getfield 50, 3) := by decide +kernel
theorem dX9_append_49 : decode cX9_append 49 = .ok (.aload_n 0, 1) := by decide +kernel
theorem dX9_append_50 : decode cX9_append 50 = .ok (.getfield 212, 3) := by decide +kernel
theorem dX9_append_53 : decode cX9_append 53 = .ok (.iload 4, 2) := by decide +kernel
theorem dX9_append_55 : decode cX9_append 55 = .ok (.iastore, 1) := by decide +kernel
theorem dX9_append_56 : decode cX9_append 56 = .ok (.aload_n 0, 1) := by decide +kernel
theorem dX9_append_57 : decode cX9_append 57 = .ok (.dup, 1) := by decide +kernel
theorem dX9_append_58 : decode cX9_append 58 = .ok (.getfield 212, 3) := by decide +kernel
theorem dX9_append_61 : decode cX9_append 61 = .ok (.iconst 1, 1) := by decide +kernel
theorem dX9_append_62 : decode cX9_append 62 = .ok (.iadd, 1) := by decide +kernel
theorem dX9_append_63 : decode cX9_append 63 = .ok (.putfield 212, 3) := by decide +kernel
theorem dX9_append_66 : decode cX9_append 66 = .ok (.iinc 3 (-8), 3) := by decide +kernel
theorem dX9_append_69 : decode cX9_append 69 = .ok (.goto (-43), 3) := by decide +kernel
theorem dX9_append_72 : decode cX9_append 72 = .ok (.aload_n 0, 1) := by decide +kernel
theorem dX9_append_73 : decode cX9_append 73 = .ok (.getfield 212, 3) := by decide +kernel
theorem dX9_append_76 : decode cX9_append 76 = .ok (.ireturn, 1) := by decide +kernel
theorem dX9_byteAt_0 : decode cX9_byteAt 0 = .ok (.iload_n 1, 1) := by decide +kernel
theorem dX9_byteAt_1 : decode cX9_byteAt 1 = .ok (.aload_n 0, 1) := by decide +kernel
theorem dX9_byteAt_2 : decode cX9_byteAt 2 = .ok (.getfield 212, 3) := by decide +kernel
theorem dX9_byteAt_5 : decode cX9_byteAt 5 = .ok (.if_icmp .ge 12, 3) := by decide +kernel
theorem dX9_byteAt_8 : decode cX9_byteAt 8 = .ok (.aload_n 0, 1) := by decide +kernel
theorem dX9_byteAt_9 : decode cX9_byteAt 9 = .ok (.getfield 50, 3) := by decide +kernel
theorem dX9_byteAt_12 : decode cX9_byteAt 12 = .ok (.iload_n 1, 1) := by decide +kernel
theorem dX9_byteAt_13 : decode cX9_byteAt 13 = .ok (.iaload, 1) := by decide +kernel
theorem dX9_byteAt_14 : decode cX9_byteAt 14 = .ok (.goto 4, 3) := by decide +kernel
theorem dX9_byteAt_17 : decode cX9_byteAt 17 = .ok (.iconst (-1), 1) := by decide +kernel
theorem dX9_byteAt_18 : decode cX9_byteAt 18 = .ok (.ireturn, 1) := by decide +kernel
theorem dX9_fails_0 : decode cX9_fails 0 = .ok (.aload_n 0, 1) := by decide +kernel
theorem dX9_fails_1 : decode cX9_fails 1 = .ok (.getfield 219, 3) := by decide +kernel
theorem dX9_fails_4 : decode cX9_fails 4 = .ok (.ifCond .ne 13, 3) := by decide +kernel
theorem dX9_fails_7 : decode cX9_fails 7 = .ok (.aload_n 0, 1) := by decide +kernel
theorem dX9_fails_8 : decode cX9_fails 8 = .ok (.iload_n 1, 1) := by decide +kernel
theorem dX9_fails_9 : decode cX9_fails 9 = .ok (.putfield 219, 3) := by decide +kernel
theorem dX9_fails_12 : decode cX9_fails 12 = .ok (.aload_n 0, 1) := by decide +kernel
theorem dX9_fails_13 : decode cX9_fails 13 = .ok (.iload_n 2, 1) := by decide +kernel
theorem dX9_fails_14 : decode cX9_fails 14 = .ok (.putfield 222, 3) := by decide +kernel
theorem dX9_fails_17 : decode cX9_fails 17 = .ok (.return_, 1) := by decide +kernel
theorem dX9_failsIf_0 : decode cX9_failsIf 0 = .ok (.iload_n 1, 1) := by decide +kernel
theorem dX9_failsIf_1 : decode cX9_failsIf 1 = .ok (.ifCond .eq 12, 3) := by decide +kernel
theorem dX9_failsIf_4 : decode cX9_failsIf 4 = .ok (.aload_n 0, 1) := by decide +kernel
theorem dX9_failsIf_5 : decode cX9_failsIf 5 = .ok (.iload_n 2, 1) := by decide +kernel
theorem dX9_failsIf_6 : decode cX9_failsIf 6 = .ok (.aload_n 0, 1) := by decide +kernel
theorem dX9_failsIf_7 : decode cX9_failsIf 7 = .ok (.getfield 225, 3) := by decide +kernel
theorem dX9_failsIf_10 : decode cX9_failsIf 10 = .ok (.invokevirtual 228, 3) := by decide +kernel
theorem dX9_failsIf_13 : decode cX9_failsIf 13 = .ok (.return_, 1) := by decide +kernel
theorem dX9_isFine_0 : decode cX9_isFine 0 = .ok (.aload_n 0, 1) := by decide +kernel
theorem dX9_isFine_1 : decode cX9_isFine 1 = .ok (.getfield 219, 3) := by decide +kernel
theorem dX9_isFine_4 : decode cX9_isFine 4 = .ok (.ifCond .ne 7, 3) := by decide +kernel
theorem dX9_isFine_7 : decode cX9_isFine 7 = .ok (.iconst 1, 1) := by decide +kernel
theorem dX9_isFine_8 : decode cX9_isFine 8 = .ok (.goto 4, 3) := by decide +kernel
theorem dX9_isFine_11 : decode cX9_isFine 11 = .ok (.iconst 0, 1) := by decide +kernel
theorem dX9_isFine_12 : decode cX9_isFine 12 = .ok (.ireturn, 1) := by decide +kernel
theorem dX9_looks_0 : decode cX9_looks 0 = .ok (.aload_n 0, 1) := by decide +kernel
theorem dX9_looks_1 : decode cX9_looks 1 = .ok (.aload_n 0, 1) := by decide +kernel
theorem dX9_looks_2 : decode cX9_looks 2 = .ok (.getfield 231, 3) := by decide +kernel
theorem dX9_looks_5 : decode cX9_looks 5 = .ok (.invokevirtual 234, 3) := by decide +kernel
theorem dX9_looks_8 : decode cX9_looks 8 = .ok (.bipush 32, 2) := by decide +kernel
theorem dX9_looks_10 : decode cX9_looks 10 = .ok (.if_icmp .ne 16, 3) := by decide +kernel
theorem dX9_looks_13 : decode cX9_looks 13 = .ok (.aload_n 0, 1) := by decide +kernel
theorem dX9_looks_14 : decode cX9_looks 14 = .ok (.dup, 1) := by decide +kernel
theorem dX9_looks_15 : decode cX9_looks 15 = .ok (.getfield 231, 3) := by decide +kernel
theorem dX9_looks_18 : decode cX9_looks 18 = .ok (.iconst 1, 1) := by decide +kernel
theorem dX9_looks_19 : decode cX9_looks 19 = .ok (.iadd, 1) := by decide +kernel
theorem dX9_looks_20 : decode cX9_looks 20 = .ok (.putfield 231, 3) := by decide +kernel
theorem dX9_looks_23 : decode cX9_looks 23 = .ok (.goto (-23), 3) := by decide +kernel
theorem dX9_looks_26 : decode cX9_looks 26 = .ok (.aload_n 0, 1) := by decide +kernel
theorem dX9_looks_27 : decode cX9_looks 27 = .ok (.invokevirtual 237, 3) := by decide +kernel
theorem dX9_looks_30 : decode cX9_looks 30 = .ok (.ifCond .eq 11, 3) := by decide +kernel
theorem dX9_looks_33 : decode cX9_looks 33 = .ok (.aload_n 0, 1) := by decide +kernel
theorem dX9_looks_34 : decode cX9_looks 34 = .ok (.aload_n 0, 1) := by decide +kernel
theorem dX9_looks_35 : decode cX9_looks 35 = .ok (.getfield 231, 3) := by decide +kernel
theorem dX9_looks_38 : decode cX9_looks 38 = .ok (.putfield 225, 3) := by decide +kernel
theorem dX9_looks_41 : decode cX9_looks 41 = .ok (.aload_n 0, 1) := by decide +kernel
theorem dX9_looks_42 : decode cX9_looks 42 = .ok (.aload_n 0, 1) := by decide +kernel
theorem dX9_looks_43 : decode cX9_looks 43 = .ok (.getfield 231, 3) := by decide +kernel
theorem dX9_looks_46 : decode cX9_looks 46 = .ok (.invokevirtual 234, 3) := by decide +kernel
theorem dX9_looks_49 : decode cX9_looks 49 = .ok (.ireturn, 1) := by decide +kernel
theorem dX9_isLetter_0 : decode cX9_isLetter 0 = .ok (.iload_n 0, 1) := by decide +kernel
theorem dX9_isLetter_1 : decode cX9_isLetter 1 = .ok (.i2l, 1) := by decide +kernel
theorem dX9_isLetter_2 : decode cX9_isLetter 2 = .ok (.ldc2_w 241, 3) := by decide +kernel
theorem dX9_isLetter_5 : decode cX9_isLetter 5 = .ok (.ldc2_w 243, 3) := by decide +kernel
theorem dX9_isLetter_8 : decode cX9_isLetter 8 = .ok (.invokestatic 78, 3) := by decide +kernel
theorem dX9_isLetter_11 : decode cX9_isLetter 11 = .ok (.ireturn, 1) := by decide +kernel
theorem dX9_isDigit_0 : decode cX9_isDigit 0 = .ok (.iload_n 0, 1) := by decide +kernel
theorem dX9_isDigit_1 : decode cX9_isDigit 1 = .ok (.i2l, 1) := by decide +kernel
theorem dX9_isDigit_2 : decode cX9_isDigit 2 = .ok (.ldc2_w 245, 3) := by decide +kernel
theorem dX9_isDigit_5 : decode cX9_isDigit 5 = .ok (.ldc2_w 247, 3) := by decide +kernel
theorem dX9_isDigit_8 : decode cX9_isDigit 8 = .ok (.invokestatic 78, 3) := by decide +kernel
theorem dX9_isDigit_11 : decode cX9_isDigit 11 = .ok (.ireturn, 1) := by decide +kernel
theorem dX9_word_0 : decode cX9_word 0 = .ok (.aload_n 0, 1) := by decide +kernel
theorem dX9_word_1 : decode cX9_word 1 = .ok (.invokevirtual 237, 3) := by decide +kernel
theorem dX9_word_4 : decode cX9_word 4 = .ok (.ifCond .ne 4, 3) := by decide +kernel
theorem dX9_word_7 : decode cX9_word 7 = .ok (.return_, 1) := by decide +kernel
theorem dX9_word_8 : decode cX9_word 8 = .ok (.aload_n 0, 1) := by decide +kernel
theorem dX9_word_9 : decode cX9_word 9 = .ok (.invokevirtual 249, 3) := by decide +kernel
theorem dX9_word_12 : decode cX9_word 12 = .ok (.pop, 1) := by decide +kernel
theorem dX9_word_13 : decode cX9_word 13 = .ok (.aload_n 0, 1) := by decide +kernel
theorem dX9_word_14 : decode cX9_word 14 = .ok (.aload_n 0, 1) := by decide +kernel
theorem dX9_word_15 : decode cX9_word 15 = .ok (.getfield 231, 3) := by decide +kernel
theorem dX9_word_18 : decode cX9_word 18 = .ok (.invokevirtual 234, 3) := by decide +kernel
theorem dX9_word_21 : decode cX9_word 21 = .ok (.invokestatic 252, 3) := by decide +kernel
theorem dX9_word_24 : decode cX9_word 24 = .ok (.ifCond .eq 16, 3) := by decide +kernel
theorem dX9_word_27 : decode cX9_word 27 = .ok (.aload_n 0, 1) := by decide +kernel
theorem dX9_word_28 : decode cX9_word 28 = .ok (.dup, 1) := by decide +kernel
theorem dX9_word_29 : decode cX9_word 29 = .ok (.getfield 231, 3) := by decide +kernel
theorem dX9_word_32 : decode cX9_word 32 = .ok (.iconst 1, 1) := by decide +kernel
theorem dX9_word_33 : decode cX9_word 33 = .ok (.iadd, 1) := by decide +kernel
theorem dX9_word_34 : decode cX9_word 34 = .ok (.putfield 231, 3) := by decide +kernel
theorem dX9_word_37 : decode cX9_word 37 = .ok (.goto (-24), 3) := by decide +kernel
theorem dX9_word_40 : decode cX9_word 40 = .ok (.return_, 1) := by decide +kernel
theorem dX9_was_0 : decode cX9_was 0 = .ok (.aload_n 0, 1) := by decide +kernel
theorem dX9_was_1 : decode cX9_was 1 = .ok (.invokevirtual 237, 3) := by decide +kernel
theorem dX9_was_4 : decode cX9_was 4 = .ok (.ifCond .eq 23, 3) := by decide +kernel
theorem dX9_was_7 : decode cX9_was 7 = .ok (.aload_n 0, 1) := by decide +kernel
theorem dX9_was_8 : decode cX9_was 8 = .ok (.getfield 231, 3) := by decide +kernel
theorem dX9_was_11 : decode cX9_was 11 = .ok (.aload_n 0, 1) := by decide +kernel
theorem dX9_was_12 : decode cX9_was 12 = .ok (.getfield 225, 3) := by decide +kernel
theorem dX9_was_15 : decode cX9_was 15 = .ok (.isub, 1) := by decide +kernel
theorem dX9_was_16 : decode cX9_was 16 = .ok (.aload_n 1, 1) := by decide +kernel
theorem dX9_was_17 : decode cX9_was 17 = .ok (.invokevirtual 255, 3) := by decide +kernel
theorem dX9_was_20 : decode cX9_was 20 = .ok (.if_icmp .ne 7, 3) := by decide +kernel
