theorem dX8_init_0 : decode cX8_init 0 = .ok (.aload_n 0, 1) := by decide +kernel
theorem dX8_init_1 : decode cX8_init 1 = .ok (.invokespecial 1, 3) := by decide +kernel
theorem dX8_init_4 : decode cX8_init 4 = .ok (.aload_n 0, 1) := by decide +kernel
theorem dX8_init_5 : decode cX8_init 5 = .ok (.new 7, 3) := by decide +kernel
theorem dX8_init_8 : decode cX8_init 8 = .ok (.dup, 1) := by decide +kernel
theorem dX8_init_9 : decode cX8_init 9 = .ok (.invokespecial 9, 3) := by decide +kernel
theorem dX8_init_12 : decode cX8_init 12 = .ok (.putfield 10, 3) := by decide +kernel
theorem dX8_init_15 : decode cX8_init 15 = .ok (.aload_n 0, 1) := by decide +kernel
theorem dX8_init_16 : decode cX8_init 16 = .ok (.new 16, 3) := by decide +kernel
theorem dX8_init_19 : decode cX8_init 19 = .ok (.dup, 1) := by decide +kernel
theorem dX8_init_20 : decode cX8_init 20 = .ok (.invokespecial 18, 3) := by decide +kernel
theorem dX8_init_23 : decode cX8_init 23 = .ok (.putfield 19, 3) := by decide +kernel
theorem dX8_init_26 : decode cX8_init 26 = .ok (.aload_n 0, 1) := by decide +kernel
theorem dX8_init_27 : decode cX8_init 27 = .ok (.new 23, 3) := by decide +kernel
theorem dX8_init_30 : decode cX8_init 30 = .ok (.dup, 1) := by decide +kernel
theorem dX8_init_31 : decode cX8_init 31 = .ok (.invokespecial 25, 3) := by decide +kernel
theorem dX8_init_34 : decode cX8_init 34 = .ok (.putfield 26, 3) := by decide +kernel
theorem dX8_init_37 : decode cX8_init 37 = .ok (.aload_n 0, 1) := by decide +kernel
theorem dX8_init_38 : decode cX8_init 38 = .ok (.new 30, 3) := by decide +kernel
theorem dX8_init_41 : decode cX8_init 41 = .ok (.dup, 1) := by decide +kernel
theorem dX8_init_42 : decode cX8_init 42 = .ok (.invokespecial 32, 3) := by decide +kernel
theorem dX8_init_45 : decode cX8_init 45 = .ok (.putfield 33, 3) := by decide +kernel
theorem dX8_init_48 : decode cX8_init 48 = .ok (.aload_n 0, 1) := by decide +kernel
theorem dX8_init_49 : decode cX8_init 49 = .ok (.new 37, 3) := by decide +kernel
theorem dX8_init_52 : decode cX8_init 52 = .ok (.dup, 1) := by decide +kernel
theorem dX8_init_53 : decode cX8_init 53 = .ok (.invokespecial 39, 3) := by decide +kernel
theorem dX8_init_56 : decode cX8_init 56 = .ok (.putfield 40, 3) := by decide +kernel
theorem dX8_init_59 : decode cX8_init 59 = .ok (.aload_n 0, 1) := by decide +kernel
theorem dX8_init_60 : decode cX8_init 60 = .ok (.bipush 12, 2) := by decide +kernel
theorem dX8_init_62 : decode cX8_init 62 = .ok (.newarray .int, 2) := by decide +kernel
theorem dX8_init_64 : decode cX8_init 64 = .ok (.putfield 44, 3) := by decide +kernel
theorem dX8_init_67 : decode cX8_init 67 = .ok (.aload_n 0, 1) := by decide +kernel
theorem dX8_init_68 : decode cX8_init 68 = .ok (.iconst 2, 1) := by decide +kernel
theorem dX8_init_69 : decode cX8_init 69 = .ok (.anewarray 7, 3) := by decide +kernel
theorem dX8_init_72 : decode cX8_init 72 = .ok (.putfield 48, 3) := by decide +kernel
theorem dX8_init_75 : decode cX8_init 75 = .ok (.aload_n 0, 1) := by decide +kernel
theorem dX8_init_76 : decode cX8_init 76 = .ok (.iconst (-1), 1) := by decide +kernel
theorem dX8_init_77 : decode cX8_init 77 = .ok (.putfield 52, 3) := by decide +kernel
theorem dX8_init_80 : decode cX8_init 80 = .ok (.aload_n 0, 1) := by decide +kernel
theorem dX8_init_81 : decode cX8_init 81 = .ok (.getfield 10, 3) := by decide +kernel
theorem dX8_init_84 : decode cX8_init 84 = .ok (.iconst 3, 1) := by decide +kernel
theorem dX8_init_85 : decode cX8_init 85 = .ok (.iconst 3, 1) := by decide +kernel
theorem dX8_init_86 : decode cX8_init 86 = .ok (.invokevirtual 56, 3) := by decide +kernel
theorem dX8_init_89 : decode cX8_init 89 = .ok (.return_, 1) := by decide +kernel
theorem dX8_append_0 : decode cX8_append 0 = .ok (.iconst 0, 1) := by decide +kernel
theorem dX8_append_1 : decode cX8_append 1 = .ok (.istore_n 3, 1) := by decide +kernel
theorem dX8_append_2 : decode cX8_append 2 = .ok (.bipush 56, 2) := by decide +kernel
theorem dX8_append_4 : decode cX8_append 4 = .ok (.istore 4, 2) := by decide +kernel
theorem dX8_append_6 : decode cX8_append 6 = .ok (.iload 4, 2) := by decide +kernel
theorem dX8_append_8 : decode cX8_append 8 = .ok (.ifCond .lt 21, 3) := by decide +kernel
theorem dX8_append_11 : decode cX8_append 11 = .ok (.lload_n 1, 1) := by decide +kernel
theorem dX8_append_12 : decode cX8_append 12 = .ok (.iload 4, 2) := by decide +kernel
theorem dX8_append_14 : decode cX8_append 14 = .ok (.invokestatic 60, 3) := by decide +kernel
theorem dX8_append_17 : decode cX8_append 17 = .ok (.ifCond .eq 6, 3) := by decide +kernel
theorem dX8_append_20 : decode cX8_append 20 = .ok (.iinc 3 1, 3) := by decide +kernel
theorem dX8_append_23 : decode cX8_append 23 = .ok (.iinc 4 (-8), 3) := by decide +kernel
theorem dX8_append_26 : decode cX8_append 26 = .ok (.goto (-20), 3) := by decide +kernel
theorem dX8_append_29 : decode cX8_append 29 = .ok (.aload_n 0, 1) := by decide +kernel
theorem dX8_append_30 : decode cX8_append 30 = .ok (.getfield 40, 3) := by decide +kernel
theorem dX8_append_33 : decode cX8_append 33 = .ok (.getfield 64, 3) := by decide +kernel
theorem dX8_append_36 : decode cX8_append 36 = .ok (.iload_n 3, 1) := by decide +kernel
theorem dX8_append_37 : decode cX8_append 37 = .ok (.iadd, 1) := by decide +kernel
theorem dX8_append_38 : decode cX8_append 38 = .ok (.sipush 500, 3) := by decide +kernel
theorem dX8_append_41 : decode cX8_append 41 = .ok (.if_icmp .le 6, 3) := by decide +kernel
theorem dX8_append_44 : decode cX8_append 44 = .ok (.bipush (-2), 2) := by decide +kernel
theorem dX8_append_46 : decode cX8_append 46 = .ok (.ireturn, 1) := by decide +kernel
theorem dX8_append_47 : decode cX8_append 47 = .ok (.bipush 56, 2) := by decide +kernel
theorem dX8_append_49 : decode cX8_append 49 = .ok (.istore 4, 2) := by decide +kernel
theorem dX8_append_51 : decode cX8_append 51 = .ok (.iload 4, 2) := by decide +kernel
theorem dX8_append_53 : decode cX8_append 53 = .ok (.ifCond .lt 31, 3) := by decide +kernel
theorem dX8_append_56 : decode cX8_append 56 = .ok (.lload_n 1, 1) := by decide +kernel
theorem dX8_append_57 : decode cX8_append 57 = .ok (.iload 4, 2) := by decide +kernel
theorem dX8_append_59 : decode cX8_append 59 = .ok (.invokestatic 60, 3) := by decide +kernel
theorem dX8_append_62 : decode cX8_append 62 = .ok (.ifCond .eq 16, 3) := by decide +kernel
theorem dX8_append_65 : decode cX8_append 65 = .ok (.aload_n 0, 1) := by decide +kernel
theorem dX8_append_66 : decode cX8_append 66 = .ok (.getfield 40, 3) := by decide +kernel
theorem dX8_append_69 : decode cX8_append 69 = .ok (.lload_n 1, 1) := by decide +kernel
theorem dX8_append_70 : decode cX8_append 70 = .ok (.iload 4, 2) := by decide +kernel
theorem dX8_append_72 : decode cX8_append 72 = .ok (.invokestatic 60, 3) := by decide +kernel
theorem dX8_append_75 : decode cX8_append 75 = .ok (.invokevirtual 67, 3) := by decide +kernel
theorem dX8_append_78 : decode cX8_append 78 = .ok (.iinc 4 (-8), 3) := by decide +kernel
theorem dX8_append_81 : decode cX8_append 81 = .ok (.goto (-30), 3) := by decide +kernel
theorem dX8_append_84 : decode cX8_append 84 = .ok (.aload_n 0, 1) := by decide +kernel
theorem dX8_append_85 : decode cX8_append 85 = .ok (.getfield 40, 3) := by decide +kernel
theorem dX8_append_88 : decode cX8_append 88 = .ok (.getfield 64, 3) := by decide +kernel
theorem dX8_append_91 : decode cX8_append 91 = .ok (.ireturn, 1) := by decide +kernel
theorem dX8_load_0 : decode cX8_load 0 = .ok (.aload_n 0, 1) := by decide +kernel
theorem dX8_load_1 : decode cX8_load 1 = .ok (.getfield 40, 3) := by decide +kernel
theorem dX8_load_4 : decode cX8_load 4 = .ok (.invokevirtual 71, 3) := by decide +kernel
theorem dX8_load_7 : decode cX8_load 7 = .ok (.istore_n 1, 1) := by decide +kernel
theorem dX8_load_8 : decode cX8_load 8 = .ok (.aload_n 0, 1) := by decide +kernel
theorem dX8_load_9 : decode cX8_load 9 = .ok (.getfield 40, 3) := by decide +kernel
theorem dX8_load_12 : decode cX8_load 12 = .ok (.iconst 0, 1) := by decide +kernel
theorem dX8_load_13 : decode cX8_load 13 = .ok (.putfield 64, 3) := by decide +kernel
theorem dX8_load_16 : decode cX8_load 16 = .ok (.aload_n 0, 1) := by decide +kernel
theorem dX8_load_17 : decode cX8_load 17 = .ok (.iload_n 1, 1) := by decide +kernel
theorem dX8_load_18 : decode cX8_load 18 = .ok (.ifCond .eq 7, 3) := by decide +kernel
theorem dX8_load_21 : decode cX8_load 21 = .ok (.iconst 0, 1) := by decide +kernel
theorem dX8_load_22 : decode cX8_load 22 = .ok (.goto 10, 3) := by decide +kernel
theorem dX8_load_25 : decode cX8_load 25 = .ok (.aload_n 0, 1) := by decide +kernel
theorem dX8_load_26 : decode cX8_load 26 = .ok (.getfield 40, 3) := by decide +kernel
theorem dX8_load_29 : decode cX8_load 29 = .ok (.getfield 75, 3) := by decide +kernel
theorem dX8_load_32 : decode cX8_load 32 = .ok (.putfield 78, 3) := by decide +kernel
theorem dX8_load_35 : decode cX8_load 35 = .ok (.aload_n 0, 1) := by decide +kernel
theorem dX8_load_36 : decode cX8_load 36 = .ok (.iload_n 1, 1) := by decide +kernel
theorem dX8_load_37 : decode cX8_load 37 = .ok (.ifCond .eq 7, 3) := by decide +kernel
theorem dX8_load_40 : decode cX8_load 40 = .ok (.iconst (-1), 1) := by decide +kernel
theorem dX8_load_41 : decode cX8_load 41 = .ok (.goto 10, 3) := by decide +kernel
theorem dX8_load_44 : decode cX8_load 44 = .ok (.aload_n 0, 1) := by decide +kernel
theorem dX8_load_45 : decode cX8_load 45 = .ok (.getfield 40, 3) := by decide +kernel
theorem dX8_load_48 : decode cX8_load 48 = .ok (.getfield 81, 3) := by decide +kernel
theorem dX8_load_51 : decode cX8_load 51 = .ok (.putfield 52, 3) := by decide +kernel
theorem dX8_load_54 : decode cX8_load 54 = .ok (.iload_n 1, 1) := by decide +kernel
theorem dX8_load_55 : decode cX8_load 55 = .ok (.ifCond .ne 14, 3) := by decide +kernel
theorem dX8_load_58 : decode cX8_load 58 = .ok (.bipush (-100), 2) := by decide +kernel
theorem dX8_load_60 : decode cX8_load 60 = .ok (.aload_n 0, 1) := by decide +kernel
theorem dX8_load_61 : decode cX8_load 61 = .ok (.getfield 40, 3) := by decide +kernel
theorem dX8_load_64 : decode cX8_load 64 = .ok (.getfield 84, 3) := by decide +kernel
theorem dX8_load_67 : decode cX8_load 67 = .ok (.isub, 1) := by decide +kernel
theorem dX8_load_68 : decode cX8_load 68 = .ok (.ireturn, 1) := by decide +kernel
theorem dX8_load_69 : decode cX8_load 69 = .ok (.aload_n 0, 1) := by decide +kernel
theorem dX8_load_70 : decode cX8_load 70 = .ok (.getfield 10, 3) := by decide +kernel
theorem dX8_load_73 : decode cX8_load 73 = .ok (.aload_n 0, 1) := by decide +kernel
theorem dX8_load_74 : decode cX8_load 74 = .ok (.getfield 40, 3) := by decide +kernel
theorem dX8_load_77 : decode cX8_load 77 = .ok (.getfield 87, 3) := by decide +kernel
theorem dX8_load_80 : decode cX8_load 80 = .ok (.invokevirtual 90, 3) := by decide +kernel
theorem dX8_load_83 : decode cX8_load 83 = .ok (.aload_n 0, 1) := by decide +kernel
theorem dX8_load_84 : decode cX8_load 84 = .ok (.getfield 19, 3) := by decide +kernel
theorem dX8_load_87 : decode cX8_load 87 = .ok (.invokevirtual 94, 3) := by decide +kernel
theorem dX8_load_90 : decode cX8_load 90 = .ok (.aload_n 0, 1) := by decide +kernel
theorem dX8_load_91 : decode cX8_load 91 = .ok (.getfield 10, 3) := by decide +kernel
theorem dX8_load_94 : decode cX8_load 94 = .ok (.getfield 97, 3) := by decide +kernel
theorem dX8_load_97 : decode cX8_load 97 = .ok (.getfield 101, 3) := by decide +kernel
theorem dX8_load_100 : decode cX8_load 100 = .ok (.ireturn, 1) := by decide +kernel
theorem dX8_loadError_0 : decode cX8_loadError 0 = .ok (.aload_n 0, 1) := by decide +kernel
theorem dX8_loadError_1 : decode cX8_loadError 1 = .ok (.getfield 78, 3) := by decide +kernel
theorem dX8_loadError_4 : decode cX8_loadError 4 = .ok (.ireturn, 1) := by decide +kernel
theorem dX8_loadStatement_0 : decode cX8_loadStatement 0 = .ok (.aload_n 0, 1) := by decide +kernel
theorem dX8_loadStatement_1 : decode cX8_loadStatement 1 = .ok (.getfield 52, 3) := by decide +kernel
theorem dX8_loadStatement_4 : decode cX8_loadStatement 4 = .ok (.ireturn, 1) := by decide +kernel
theorem dX8_size_0 : decode cX8_size 0 = .ok (.iload_n 1, 1) := by decide +kernel
theorem dX8_size_1 : decode cX8_size 1 = .ok (.tableswitch 209 0 11 #[63, 74, 85, 96, 107, 118, 132, 157, 168, 179, 190, 201], 63) := by decide +kernel
theorem dX8_size_64 : decode cX8_size 64 = .ok (.aload_n 0, 1) := by decide +kernel
theorem dX8_size_65 : decode cX8_size 65 = .ok (.getfield 10, 3) := by decide +kernel
theorem dX8_size_68 : decode cX8_size 68 = .ok (.getfield 106, 3) := by decide +kernel
theorem dX8_size_71 : decode cX8_size 71 = .ok (.getfield 110, 3) := by decide +kernel
theorem dX8_size_74 : decode cX8_size 74 = .ok (.ireturn, 1) := by decide +kernel
theorem dX8_size_75 : decode cX8_size 75 = .ok (.aload_n 0, 1) := by decide +kernel
theorem dX8_size_76 : decode cX8_size 76 = .ok (.getfield 10, 3) := by decide +kernel
theorem dX8_size_79 : decode cX8_size 79 = .ok (.getfield 106, 3) := by decide +kernel
theorem dX8_size_82 : decode cX8_size 82 = .ok (.getfield 115, 3) := by decide +kernel
theorem dX8_size_85 : decode cX8_size 85 = .ok (.ireturn, 1) := by decide +kernel
theorem dX8_size_86 : decode cX8_size 86 = .ok (.aload_n 0, 1) := by decide +kernel
theorem dX8_size_87 : decode cX8_size 87 = .ok (.getfield 10, 3) := by decide +kernel
theorem dX8_size_90 : decode cX8_size 90 = .ok (.getfield 106, 3) := by decide +kernel
theorem dX8_size_93 : decode cX8_size 93 = .ok (.invokevirtual 118, 3) := by decide +kernel
theorem dX8_size_96 : decode cX8_size 96 = .ok (.ireturn, 1) := by decide +kernel
theorem dX8_size_97 : decode cX8_size 97 = .ok (.aload_n 0, 1) := by decide +kernel
theorem dX8_size_98 : decode cX8_size 98 = .ok (.getfield 10, 3) := by decide +kernel
theorem dX8_size_101 : decode cX8_size 101 = .ok (.getfield 97, 3) := by decide +kernel
theorem dX8_size_104 : decode cX8_size 104 = .ok (.getfield 101, 3) := by decide +kernel
theorem dX8_size_107 : decode cX8_size 107 = .ok (.ireturn, 1) := by decide +kernel
theorem dX8_size_108 : decode cX8_size 108 = .ok (.aload_n 0, 1) := by decide +kernel
theorem dX8_size_109 : decode cX8_size 109 = .ok (.getfield 10, 3) := by decide +kernel
theorem dX8_size_112 : decode cX8_size 112 = .ok (.getfield 106, 3) := by decide +kernel
theorem dX8_size_115 : decode cX8_size 115 = .ok (.getfield 122, 3) := by decide +kernel
theorem dX8_size_118 : decode cX8_size 118 = .ok (.ireturn, 1) := by decide +kernel
theorem dX8_size_119 : decode cX8_size 119 = .ok (.aload_n 0, 1) := by decide +kernel
theorem dX8_size_120 : decode cX8_size 120 = .ok (.getfield 10, 3) := by decide +kernel
theorem dX8_size_123 : decode cX8_size 123 = .ok (.getfield 97, 3) := by decide +kernel
theorem dX8_size_126 : decode cX8_size 126 = .ok (.invokevirtual 125, 3) := by decide +kernel
theorem dX8_size_129 : decode cX8_size 129 = .ok (.invokestatic 128, 3) := by decide +kernel
theorem dX8_size_132 : decode cX8_size 132 = .ok (.ireturn, 1) := by decide +kernel
theorem dX8_size_133 : decode cX8_size 133 = .ok (.aload_n 0, 1) := by decide +kernel
theorem dX8_size_134 : decode cX8_size 134 = .ok (.getfield 10, 3) := by decide +kernel
theorem dX8_size_137 : decode cX8_size 137 = .ok (.getfield 97, 3) := by decide +kernel
theorem dX8_size_140 : decode cX8_size 140 = .ok (.invokevirtual 125, 3) := by decide +kernel
theorem dX8_size_143 : decode cX8_size 143 = .ok (.aload_n 0, 1) := by decide +kernel
theorem dX8_size_144 : decode cX8_size 144 = .ok (.getfield 10, 3) := by decide +kernel
theorem dX8_size_147 : decode cX8_size 147 = .ok (.getfield 97, 3) := by decide +kernel
theorem dX8_size_150 : decode cX8_size 150 = .ok (.getfield 134, 3) := by decide +kernel
theorem dX8_size_153 : decode cX8_size 153 = .ok (.iand, 1) := by decide +kernel
theorem dX8_size_154 : decode cX8_size 154 = .ok (.invokestatic 128, 3) := by decide +kernel
theorem dX8_size_157 : decode cX8_size 157 = .ok (.ireturn, 1) := by decide +kernel
theorem dX8_size_158 : decode cX8_size 158 = .ok (.aload_n 0, 1) := by decide +kernel
theorem dX8_size_159 : decode cX8_size 159 = .ok (.getfield 10, 3) := by decide +kernel
theorem dX8_size_162 : decode cX8_size 162 = .ok (.getfield 137, 3) := by decide +kernel
theorem dX8_size_165 : decode cX8_size 165 = .ok (.getfield 141, 3) := by decide +kernel
theorem dX8_size_168 : decode cX8_size 168 = .ok (.ireturn, 1) := by decide +kernel
theorem dX8_size_169 : decode cX8_size 169 = .ok (.aload_n 0, 1) := by decide +kernel
theorem dX8_size_170 : decode cX8_size 170 = .ok (.getfield 10, 3) := by decide +kernel
theorem dX8_size_173 : decode cX8_size 173 = .ok (.getfield 137, 3) := by decide +kernel
theorem dX8_size_176 : decode cX8_size 176 = .ok (.getfield 144, 3) := by decide +kernel
theorem dX8_size_179 : decode cX8_size 179 = .ok (.ireturn, 1) := by decide +kernel
theorem dX8_size_180 : decode cX8_size 180 = .ok (.aload_n 0, 1) := by decide +kernel
theorem dX8_size_181 : decode cX8_size 181 = .ok (.getfield 10, 3) := by decide +kernel
theorem dX8_size_184 : decode cX8_size 184 = .ok (.getfield 137, 3) := by decide +kernel
theorem dX8_size_187 : decode cX8_size 187 = .ok (.getfield 147, 3) := by decide +kernel
theorem dX8_size_190 : decode cX8_size 190 = .ok (.ireturn, 1) := by decide +kernel
theorem dX8_size_191 : decode cX8_size 191 = .ok (.aload_n 0, 1) := by decide +kernel
theorem dX8_size_192 : decode cX8_size 192 = .ok (.getfield 10, 3) := by decide +kernel
theorem dX8_size_195 : decode cX8_size 195 = .ok (.getfield 137, 3) := by decide +kernel
theorem dX8_size_198 : decode cX8_size 198 = .ok (.getfield 150, 3) := by decide +kernel
theorem dX8_size_201 : decode cX8_size 201 = .ok (.ireturn, 1) := by decide +kernel
theorem dX8_size_202 : decode cX8_size 202 = .ok (.aload_n 0, 1) := by decide +kernel
theorem dX8_size_203 : decode cX8_size 203 = .ok (.getfield 19, 3) := by decide +kernel
theorem dX8_size_206 : decode cX8_size 206 = .ok (.getfield 153, 3) := by decide +kernel
theorem dX8_size_209 : decode cX8_size 209 = .ok (.ireturn, 1) := by decide +kernel
theorem dX8_size_210 : decode cX8_size 210 = .ok (.new 154, 3) := by decide +kernel
theorem dX8_size_213 : decode cX8_size 213 = .ok (.dup, 1) := by decide +kernel
theorem dX8_size_214 : decode cX8_size 214 = .ok (.ldc 156, 2) := by decide +kernel
theorem dX8_size_216 : decode cX8_size 216 = .ok (.invokespecial 158, 3) := by decide +kernel
theorem dX8_size_219 : decode cX8_size 219 = .ok (.athrow, 1) := by decide +kernel
theorem dX8_cell_0 : decode cX8_cell 0 = .ok (.aload_n 0, 1) := by decide +kernel
theorem dX8_cell_1 : decode cX8_cell 1 = .ok (.iload_n 1, 1) := by decide +kernel
theorem dX8_cell_2 : decode cX8_cell 2 = .ok (.invokevirtual 161, 3) := by decide +kernel
theorem dX8_cell_5 : decode cX8_cell 5 = .ok (.iload_n 2, 1) := by decide +kernel
theorem dX8_cell_6 : decode cX8_cell 6 = .ok (.tableswitch 130 0 5 #[38, 76, 88, 100, 109, 118], 38) := by decide +kernel
theorem dX8_cell_44 : decode cX8_cell 44 = .ok (.aload_n 0, 1) := by decide +kernel
theorem dX8_cell_45 : decode cX8_cell 45 = .ok (.getfield 10, 3) := by decide +kernel
theorem dX8_cell_48 : decode cX8_cell 48 = .ok (.getfield 106, 3) := by decide +kernel
theorem dX8_cell_51 : decode cX8_cell 51 = .ok (.iload_n 1, 1) := by decide +kernel
theorem dX8_cell_52 : decode cX8_cell 52 = .ok (.invokevirtual 164, 3) := by decide +kernel
theorem dX8_cell_55 : decode cX8_cell 55 = .ok (.ifCond .eq 7, 3) := by decide +kernel
theorem dX8_cell_58 : decode cX8_cell 58 = .ok (.iconst 2, 1) := by decide +kernel
theorem dX8_cell_59 : decode cX8_cell 59 = .ok (.goto 22, 3) := by decide +kernel
theorem dX8_cell_62 : decode cX8_cell 62 = .ok (.aload_n 0, 1) := by decide +kernel
theorem dX8_cell_63 : decode cX8_cell 63 = .ok (.getfield 10, 3) := by decide +kernel
theorem dX8_cell_66 : decode cX8_cell 66 = .ok (.getfield 106, 3) := by decide +kernel
theorem dX8_cell_69 : decode cX8_cell 69 = .ok (.iload_n 1, 1) := by decide +kernel
theorem dX8_cell_70 : decode cX8_cell 70 = .ok (.invokevirtual 168, 3) := by decide +kernel
theorem dX8_cell_73 : decode cX8_cell 73 = .ok (.ifCond .eq 7, 3) := by decide +kernel
theorem dX8_cell_76 : decode cX8_cell 76 = .ok (.iconst 1, 1) := by decide +kernel
theorem dX8_cell_77 : decode cX8_cell 77 = .ok (.goto 4, 3) := by decide +kernel
theorem dX8_cell_80 : decode cX8_cell 80 = .ok (.iconst 0, 1) := by decide +kernel
theorem dX8_cell_81 : decode cX8_cell 81 = .ok (.ireturn, 1) := by decide +kernel
theorem dX8_cell_82 : decode cX8_cell 82 = .ok (.aload_n 0, 1) := by decide +kernel
theorem dX8_cell_83 : decode cX8_cell 83 = .ok (.getfield 10, 3) := by decide +kernel
theorem dX8_cell_86 : decode cX8_cell 86 = .ok (.getfield 97, 3) := by decide +kernel
theorem dX8_cell_89 : decode cX8_cell 89 = .ok (.iload_n 1, 1) := by decide +kernel
theorem dX8_cell_90 : decode cX8_cell 90 = .ok (.invokevirtual 171, 3) := by decide +kernel
theorem dX8_cell_93 : decode cX8_cell 93 = .ok (.ireturn, 1) := by decide +kernel
theorem dX8_cell_94 : decode cX8_cell 94 = .ok (.aload_n 0, 1) := by decide +kernel
theorem dX8_cell_95 : decode cX8_cell 95 = .ok (.getfield 10, 3) := by decide +kernel
theorem dX8_cell_98 : decode cX8_cell 98 = .ok (.getfield 106, 3) := by decide +kernel
theorem dX8_cell_101 : decode cX8_cell 101 = .ok (.iload_n 1, 1) := by decide +kernel
theorem dX8_cell_102 : decode cX8_cell 102 = .ok (.invokevirtual 174, 3) := by decide +kernel
theorem dX8_cell_105 : decode cX8_cell 105 = .ok (.ireturn, 1) := by decide +kernel
theorem dX8_cell_106 : decode cX8_cell 106 = .ok (.aload_n 0, 1) := by decide +kernel
theorem dX8_cell_107 : decode cX8_cell 107 = .ok (.getfield 10, 3) := by decide +kernel
theorem dX8_cell_110 : decode cX8_cell 110 = .ok (.iload_n 1, 1) := by decide +kernel
theorem dX8_cell_111 : decode cX8_cell 111 = .ok (.invokevirtual 177, 3) := by decide +kernel
theorem dX8_cell_114 : decode cX8_cell 114 = .ok (.ireturn, 1) := by decide +kernel
theorem dX8_cell_115 : decode cX8_cell 115 = .ok (.aload_n 0, 1) := by decide +kernel
theorem dX8_cell_116 : decode cX8_cell 116 = .ok (.getfield 10, 3) := by decide +kernel
theorem dX8_cell_119 : decode cX8_cell 119 = .ok (.iload_n 1, 1) := by decide +kernel
theorem dX8_cell_120 : decode cX8_cell 120 = .ok (.invokevirtual 180, 3) := by decide +kernel
theorem dX8_cell_123 : decode cX8_cell 123 = .ok (.ireturn, 1) := by decide +kernel
theorem dX8_cell_124 : decode cX8_cell 124 = .ok (.aload_n 0, 1) := by decide +kernel
theorem dX8_cell_125 : decode cX8_cell 125 = .ok (.getfield 10, 3) := by decide +kernel
theorem dX8_cell_128 : decode cX8_cell 128 = .ok (.getfield 106, 3) := by decide +kernel
theorem dX8_cell_131 : decode cX8_cell 131 = .ok (.iload_n 1, 1) := by decide +kernel
theorem dX8_cell_132 : decode cX8_cell 132 = .ok (.invokevirtual 183, 3) := by decide +kernel
theorem dX8_cell_135 : decode cX8_cell 135 = .ok (.ireturn, 1) := by decide +kernel
theorem dX8_cell_136 : decode cX8_cell 136 = .ok (.new 154, 3) := by decide +kernel
theorem dX8_cell_139 : decode cX8_cell 139 = .ok (.dup, 1) := by decide +kernel
theorem dX8_cell_140 : decode cX8_cell 140 = .ok (.ldc 186, 2) := by decide +kernel
theorem dX8_cell_142 : decode cX8_cell 142 = .ok (.invokespecial 158, 3) := by decide +kernel
theorem dX8_cell_145 : decode cX8_cell 145 = .ok (.athrow, 1) := by decide +kernel
theorem dX8_harbour_0 : decode cX8_harbour 0 = .ok (.aload_n 0, 1) := by decide +kernel
theorem dX8_harbour_1 : decode cX8_harbour 1 = .ok (.iload_n 1, 1) := by decide +kernel
theorem dX8_harbour_2 : decode cX8_harbour 2 = .ok (.invokevirtual 188, 3) := by decide +kernel
theorem dX8_harbour_5 : decode cX8_harbour 5 = .ok (.iload_n 2, 1) := by decide +kernel
theorem dX8_harbour_6 : decode cX8_harbour 6 = .ok (.tableswitch 102 0 4 #[34, 46, 66, 78, 90], 34) := by decide +kernel
theorem dX8_harbour_40 : decode cX8_harbour 40 = .ok (.aload_n 0, 1) := by decide +kernel
theorem dX8_harbour_41 : decode cX8_harbour 41 = .ok (.getfield 10, 3) := by decide +kernel
theorem dX8_harbour_44 : decode cX8_harbour 44 = .ok (.getfield 97, 3) := by decide +kernel
theorem dX8_harbour_47 : decode cX8_harbour 47 = .ok (.iload_n 1, 1) := by decide +kernel
theorem dX8_harbour_48 : decode cX8_harbour 48 = .ok (.invokevirtual 191, 3) := by decide +kernel
theorem dX8_harbour_51 : decode cX8_harbour 51 = .ok (.ireturn, 1) := by decide +kernel
theorem dX8_harbour_52 : decode cX8_harbour 52 = .ok (.aload_n 0, 1) := by decide +kernel
theorem dX8_harbour_53 : decode cX8_harbour 53 = .ok (.getfield 10, 3) := by decide +kernel
theorem dX8_harbour_56 : decode cX8_harbour 56 = .ok (.getfield 97, 3) := by decide +kernel
theorem dX8_harbour_59 : decode cX8_harbour 59 = .ok (.iload_n 1, 1) := by decide +kernel
theorem dX8_harbour_60 : decode cX8_harbour 60 = .ok (.invokevirtual 194, 3) := by decide +kernel
theorem dX8_harbour_63 : decode cX8_harbour 63 = .ok (.ifCond .eq 7, 3) := by decide +kernel
theorem dX8_harbour_66 : decode cX8_harbour 66 = .ok (.iconst 1, 1) := by decide +kernel
theorem dX8_harbour_67 : decode cX8_harbour 67 = .ok (.goto 4, 3) := by decide +kernel
theorem dX8_harbour_70 : decode cX8_harbour 70 = .ok (.iconst 0, 1) := by decide +kernel
theorem dX8_harbour_71 : decode cX8_harbour 71 = .ok (.ireturn, 1) := by decide +kernel
theorem dX8_harbour_72 : decode cX8_harbour 72 = .ok (.aload_n 0, 1) := by decide +kernel
theorem dX8_harbour_73 : decode cX8_harbour 73 = .ok (.getfield 10, 3) := by decide +kernel
theorem dX8_harbour_76 : decode cX8_harbour 76 = .ok (.getfield 97, 3) := by decide +kernel
theorem dX8_harbour_79 : decode cX8_harbour 79 = .ok (.iload_n 1, 1) := by decide +kernel
theorem dX8_harbour_80 : decode cX8_harbour 80 = .ok (.invokevirtual 197, 3) := by decide +kernel
theorem dX8_harbour_83 : decode cX8_harbour 83 = .ok (.ireturn, 1) := by decide +kernel
theorem dX8_harbour_84 : decode cX8_harbour 84 = .ok (.aload_n 0, 1) := by decide +kernel
theorem dX8_harbour_85 : decode cX8_harbour 85 = .ok (.getfield 10, 3) := by decide +kernel
theorem dX8_harbour_88 : decode cX8_harbour 88 = .ok (.getfield 97, 3) := by decide +kernel
theorem dX8_harbour_91 : decode cX8_harbour 91 = .ok (.iload_n 1, 1) := by decide +kernel
theorem dX8_harbour_92 : decode cX8_harbour 92 = .ok (.invokevirtual 200, 3) := by decide +kernel
theorem dX8_harbour_95 : decode cX8_harbour 95 = .ok (.ireturn, 1) := by decide +kernel
theorem dX8_harbour_96 : decode cX8_harbour 96 = .ok (.aload_n 0, 1) := by decide +kernel
theorem dX8_harbour_97 : decode cX8_harbour 97 = .ok (.getfield 10, 3) := by decide +kernel
theorem dX8_harbour_100 : decode cX8_harbour 100 = .ok (.getfield 137, 3) := by decide +kernel
theorem dX8_harbour_103 : decode cX8_harbour 103 = .ok (.iload_n 1, 1) := by decide +kernel
theorem dX8_harbour_104 : decode cX8_harbour 104 = .ok (.invokevirtual 203, 3) := by decide +kernel
theorem dX8_harbour_107 : decode cX8_harbour 107 = .ok (.ireturn, 1) := by decide +kernel
theorem dX8_harbour_108 : decode cX8_harbour 108 = .ok (.new 154, 3) := by decide +kernel
theorem dX8_harbour_111 : decode cX8_harbour 111 = .ok (.dup, 1) := by decide +kernel
theorem dX8_harbour_112 : decode cX8_harbour 112 = .ok (.ldc 206, 2) := by decide +kernel
theorem dX8_harbour_114 : decode cX8_harbour 114 = .ok (.invokespecial 158, 3) := by decide +kernel
theorem dX8_harbour_117 : decode cX8_harbour 117 = .ok (.athrow, 1) := by decide +kernel
theorem dX8_letter_0 : decode cX8_letter 0 = .ok (.aload_n 0, 1) := by decide +kernel
theorem dX8_letter_1 : decode cX8_letter 1 = .ok (.iload_n 1, 1) := by decide +kernel
theorem dX8_letter_2 : decode cX8_letter 2 = .ok (.invokevirtual 188, 3) := by decide +kernel
theorem dX8_letter_5 : decode cX8_letter 5 = .ok (.aload_n 0, 1) := by decide +kernel
theorem dX8_letter_6 : decode cX8_letter 6 = .ok (.getfield 10, 3) := by decide +kernel
theorem dX8_letter_9 : decode cX8_letter 9 = .ok (.getfield 97, 3) := by decide +kernel
theorem dX8_letter_12 : decode cX8_letter 12 = .ok (.iload_n 1, 1) := by decide +kernel
theorem dX8_letter_13 : decode cX8_letter 13 = .ok (.iload_n 2, 1) := by decide +kernel
theorem dX8_letter_14 : decode cX8_letter 14 = .ok (.invokevirtual 208, 3) := by decide +kernel
theorem dX8_letter_17 : decode cX8_letter 17 = .ok (.ireturn, 1) := by decide +kernel
theorem dX8_river_0 : decode cX8_river 0 = .ok (.aload_n 0, 1) := by decide +kernel
theorem dX8_river_1 : decode cX8_river 1 = .ok (.iload_n 1, 1) := by decide +kernel
theorem dX8_river_2 : decode cX8_river 2 = .ok (.invokevirtual 212, 3) := by decide +kernel
theorem dX8_river_5 : decode cX8_river 5 = .ok (.aload_n 0, 1) := by decide +kernel
theorem dX8_river_6 : decode cX8_river 6 = .ok (.getfield 10, 3) := by decide +kernel
theorem dX8_river_9 : decode cX8_river 9 = .ok (.getfield 106, 3) := by decide +kernel
theorem dX8_river_12 : decode cX8_river 12 = .ok (.iload_n 1, 1) := by decide +kernel
theorem dX8_river_13 : decode cX8_river 13 = .ok (.iload_n 2, 1) := by decide +kernel
theorem dX8_river_14 : decode cX8_river 14 = .ok (.invokevirtual 215, 3) := by decide +kernel
theorem dX8_river_17 : decode cX8_river 17 = .ok (.ireturn, 1) := by decide +kernel
theorem dX8_voyage_0 : decode cX8_voyage 0 = .ok (.aload_n 0, 1) := by decide +kernel
theorem dX8_voyage_1 : decode cX8_voyage 1 = .ok (.getfield 10, 3) := by decide +kernel
theorem dX8_voyage_4 : decode cX8_voyage 4 = .ok (.getfield 137, 3) := by decide +kernel
theorem dX8_voyage_7 : decode cX8_voyage 7 = .ok (.iload_n 1, 1) := by decide +kernel
theorem dX8_voyage_8 : decode cX8_voyage 8 = .ok (.invokevirtual 218, 3) := by decide +kernel
theorem dX8_voyage_11 : decode cX8_voyage 11 = .ok (.ireturn, 1) := by decide +kernel
theorem dX8_why_0 : decode cX8_why 0 = .ok (.aload_n 0, 1) := by decide +kernel
theorem dX8_why_1 : decode cX8_why 1 = .ok (.iload_n 1, 1) := by decide +kernel
theorem dX8_why_2 : decode cX8_why 2 = .ok (.invokevirtual 188, 3) := by decide +kernel
theorem dX8_why_5 : decode cX8_why 5 = .ok (.iload_n 2, 1) := by decide +kernel
theorem dX8_why_6 : decode cX8_why 6 = .ok (.invokestatic 221, 3) := by decide +kernel
theorem dX8_why_9 : decode cX8_why 9 = .ok (.aload_n 0, 1) := by decide +kernel
theorem dX8_why_10 : decode cX8_why 10 = .ok (.getfield 10, 3) := by decide +kernel
theorem dX8_why_13 : decode cX8_why 13 = .ok (.iload_n 1, 1) := by decide +kernel
theorem dX8_why_14 : decode cX8_why 14 = .ok (.iload_n 2, 1) := by decide +kernel
theorem dX8_why_15 : decode cX8_why 15 = .ok (.invokevirtual 224, 3) := by decide +kernel
theorem dX8_why_18 : decode cX8_why 18 = .ok (.ireturn, 1) := by decide +kernel
theorem dX8_ways_0 : decode cX8_ways 0 = .ok (.aload_n 0, 1) := by decide +kernel
theorem dX8_ways_1 : decode cX8_ways 1 = .ok (.iload_n 1, 1) := by decide +kernel
theorem dX8_ways_2 : decode cX8_ways 2 = .ok (.invokevirtual 188, 3) := by decide +kernel
theorem dX8_ways_5 : decode cX8_ways 5 = .ok (.iconst 0, 1) := by decide +kernel
theorem dX8_ways_6 : decode cX8_ways 6 = .ok (.istore_n 2, 1) := by decide +kernel
theorem dX8_ways_7 : decode cX8_ways 7 = .ok (.iconst 0, 1) := by decide +kernel
theorem dX8_ways_8 : decode cX8_ways 8 = .ok (.istore_n 3, 1) := by decide +kernel
theorem dX8_ways_9 : decode cX8_ways 9 = .ok (.iload_n 3, 1) := by decide +kernel
theorem dX8_ways_10 : decode cX8_ways 10 = .ok (.iconst 4, 1) := by decide +kernel
theorem dX8_ways_11 : decode cX8_ways 11 = .ok (.if_icmp .ge 27, 3) := by decide +kernel
theorem dX8_ways_14 : decode cX8_ways 14 = .ok (.aload_n 0, 1) := by decide +kernel
theorem dX8_ways_15 : decode cX8_ways 15 = .ok (.getfield 10, 3) := by decide +kernel
theorem dX8_ways_18 : decode cX8_ways 18 = .ok (.iload_n 1, 1) := by decide +kernel
theorem dX8_ways_19 : decode cX8_ways 19 = .ok (.iload_n 3, 1) := by decide +kernel
theorem dX8_ways_20 : decode cX8_ways 20 = .ok (.invokevirtual 224, 3) := by decide +kernel
theorem dX8_ways_23 : decode cX8_ways 23 = .ok (.ifCond .ne 9, 3) := by decide +kernel
theorem dX8_ways_26 : decode cX8_ways 26 = .ok (.iload_n 2, 1) := by decide +kernel
theorem dX8_ways_27 : decode cX8_ways 27 = .ok (.iconst 1, 1) := by decide +kernel
theorem dX8_ways_28 : decode cX8_ways 28 = .ok (.iload_n 3, 1) := by decide +kernel
theorem dX8_ways_29 : decode cX8_ways 29 = .ok (.ishl, 1) := by decide +kernel
theorem dX8_ways_30 : decode cX8_ways 30 = .ok (.ior, 1) := by decide +kernel
theorem dX8_ways_31 : decode cX8_ways 31 = .ok (.istore_n 2, 1) := by decide +kernel
theorem dX8_ways_32 : decode cX8_ways 32 = .ok (.iinc 3 1, 3) := by decide +kernel
theorem dX8_ways_35 : decode cX8_ways 35 = .ok (.goto (-26), 3) := by decide +kernel
theorem dX8_ways_38 : decode cX8_ways 38 = .ok (.iload_n 2, 1) := by decide +kernel
theorem dX8_ways_39 : decode cX8_ways 39 = .ok (.ireturn, 1) := by decide +kernel
theorem dX8_room_0 : decode cX8_room 0 = .ok (.aload_n 0, 1) := by decide +kernel
theorem dX8_room_1 : decode cX8_room 1 = .ok (.iload_n 1, 1) := by decide +kernel
theorem dX8_room_2 : decode cX8_room 2 = .ok (.invokevirtual 188, 3) := by decide +kernel
theorem dX8_room_5 : decode cX8_room 5 = .ok (.iload_n 2, 1) := by decide +kernel
theorem dX8_room_6 : decode cX8_room 6 = .ok (.invokestatic 221, 3) := by decide +kernel
theorem dX8_room_9 : decode cX8_room 9 = .ok (.aload_n 0, 1) := by decide +kernel
theorem dX8_room_10 : decode cX8_room 10 = .ok (.getfield 10, 3) := by decide +kernel
theorem dX8_room_13 : decode cX8_room 13 = .ok (.getfield 97, 3) := by decide +kernel
theorem dX8_room_16 : decode cX8_room 16 = .ok (.iload_n 1, 1) := by decide +kernel
theorem dX8_room_17 : decode cX8_room 17 = .ok (.invokevirtual 191, 3) := by decide +kernel
theorem dX8_room_20 : decode cX8_room 20 = .ok (.istore_n 3, 1) := by decide +kernel
theorem dX8_room_21 : decode cX8_room 21 = .ok (.iconst 1, 1) := by decide +kernel
theorem dX8_room_22 : decode cX8_room 22 = .ok (.istore 4, 2) := by decide +kernel
theorem dX8_room_24 : decode cX8_room 24 = .ok (.iload 4, 2) := by decide +kernel
theorem dX8_room_26 : decode cX8_room 26 = .ok (.bipush 12, 2) := by decide +kernel
theorem dX8_room_28 : decode cX8_room 28 = .ok (.if_icmp .ge 38, 3) := by decide +kernel
theorem dX8_room_31 : decode cX8_room 31 = .ok (.aload_n 0, 1) := by decide +kernel
theorem dX8_room_32 : decode cX8_room 32 = .ok (.getfield 10, 3) := by decide +kernel
theorem dX8_room_35 : decode cX8_room 35 = .ok (.aload_n 0, 1) := by decide +kernel
theorem dX8_room_36 : decode cX8_room 36 = .ok (.getfield 10, 3) := by decide +kernel
theorem dX8_room_39 : decode cX8_room 39 = .ok (.getfield 106, 3) := by decide +kernel
theorem dX8_room_42 : decode cX8_room 42 = .ok (.iload_n 3, 1) := by decide +kernel
theorem dX8_room_43 : decode cX8_room 43 = .ok (.iload_n 2, 1) := by decide +kernel
theorem dX8_room_44 : decode cX8_room 44 = .ok (.iload 4, 2) := by decide +kernel
theorem dX8_room_46 : decode cX8_room 46 = .ok (.invokevirtual 227, 3) := by decide +kernel
theorem dX8_room_49 : decode cX8_room 49 = .ok (.invokevirtual 231, 3) := by decide +kernel
theorem dX8_room_52 : decode cX8_room 52 = .ok (.ifCond .ne 8, 3) := by decide +kernel
theorem dX8_room_55 : decode cX8_room 55 = .ok (.iload 4, 2) := by decide +kernel
theorem dX8_room_57 : decode cX8_room 57 = .ok (.iconst 1, 1) := by decide +kernel
theorem dX8_room_58 : decode cX8_room 58 = .ok (.isub, 1) := by decide +kernel
theorem dX8_room_59 : decode cX8_room 59 = .ok (.ireturn, 1) := by decide +kernel
theorem dX8_room_60 : decode cX8_room 60 = .ok (.iinc 4 1, 3) := by decide +kernel
theorem dX8_room_63 : decode cX8_room 63 = .ok (.goto (-39), 3) := by decide +kernel
theorem dX8_room_66 : decode cX8_room 66 = .ok (.bipush 11, 2) := by decide +kernel
theorem dX8_room_68 : decode cX8_room 68 = .ok (.ireturn, 1) := by decide +kernel
theorem dX8_crossings_0 : decode cX8_crossings 0 = .ok (.iconst 0, 1) := by decide +kernel
theorem dX8_crossings_1 : decode cX8_crossings 1 = .ok (.istore_n 1, 1) := by decide +kernel
theorem dX8_crossings_2 : decode cX8_crossings 2 = .ok (.iconst 0, 1) := by decide +kernel
theorem dX8_crossings_3 : decode cX8_crossings 3 = .ok (.istore_n 2, 1) := by decide +kernel
theorem dX8_crossings_4 : decode cX8_crossings 4 = .ok (.iload_n 2, 1) := by decide +kernel
theorem dX8_crossings_5 : decode cX8_crossings 5 = .ok (.aload_n 0, 1) := by decide +kernel
theorem dX8_crossings_6 : decode cX8_crossings 6 = .ok (.getfield 10, 3) := by decide +kernel
theorem dX8_crossings_9 : decode cX8_crossings 9 = .ok (.getfield 97, 3) := by decide +kernel
theorem dX8_crossings_12 : decode cX8_crossings 12 = .ok (.getfield 101, 3) := by decide +kernel
theorem dX8_crossings_15 : decode cX8_crossings 15 = .ok (.if_icmp .ge 23, 3) := by decide +kernel
theorem dX8_crossings_18 : decode cX8_crossings 18 = .ok (.iload_n 1, 1) := by decide +kernel
theorem dX8_crossings_19 : decode cX8_crossings 19 = .ok (.aload_n 0, 1) := by decide +kernel
theorem dX8_crossings_20 : decode cX8_crossings 20 = .ok (.getfield 10, 3) := by decide +kernel
theorem dX8_crossings_23 : decode cX8_crossings 23 = .ok (.iload_n 2, 1) := by decide +kernel
theorem dX8_crossings_24 : decode cX8_crossings 24 = .ok (.invokevirtual 234, 3) := by decide +kernel
theorem dX8_crossings_27 : decode cX8_crossings 27 = .ok (.invokestatic 128, 3) := by decide +kernel
theorem dX8_crossings_30 : decode cX8_crossings 30 = .ok (.iadd, 1) := by decide +kernel
theorem dX8_crossings_31 : decode cX8_crossings 31 = .ok (.istore_n 1, 1) := by decide +kernel
theorem dX8_crossings_32 : decode cX8_crossings 32 = .ok (.iinc 2 1, 3) := by decide +kernel
theorem dX8_crossings_35 : decode cX8_crossings 35 = .ok (.goto (-31), 3) := by decide +kernel
theorem dX8_crossings_38 : decode cX8_crossings 38 = .ok (.iload_n 1, 1) := by decide +kernel
theorem dX8_crossings_39 : decode cX8_crossings 39 = .ok (.iconst 2, 1) := by decide +kernel
theorem dX8_crossings_40 : decode cX8_crossings 40 = .ok (.idiv, 1) := by decide +kernel
theorem dX8_crossings_41 : decode cX8_crossings 41 = .ok (.ireturn, 1) := by decide +kernel
theorem dX8_crossed_0 : decode cX8_crossed 0 = .ok (.aload_n 0, 1) := by decide +kernel
theorem dX8_crossed_1 : decode cX8_crossed 1 = .ok (.iload_n 1, 1) := by decide +kernel
theorem dX8_crossed_2 : decode cX8_crossed 2 = .ok (.invokevirtual 188, 3) := by decide +kernel
theorem dX8_crossed_5 : decode cX8_crossed 5 = .ok (.aload_n 0, 1) := by decide +kernel
theorem dX8_crossed_6 : decode cX8_crossed 6 = .ok (.getfield 10, 3) := by decide +kernel
theorem dX8_crossed_9 : decode cX8_crossed 9 = .ok (.iload_n 1, 1) := by decide +kernel
theorem dX8_crossed_10 : decode cX8_crossed 10 = .ok (.invokevirtual 234, 3) := by decide +kernel
theorem dX8_crossed_13 : decode cX8_crossed 13 = .ok (.ireturn, 1) := by decide +kernel
theorem dX8_free_0 : decode cX8_free 0 = .ok (.aload_n 0, 1) := by decide +kernel
theorem dX8_free_1 : decode cX8_free 1 = .ok (.getfield 10, 3) := by decide +kernel
theorem dX8_free_4 : decode cX8_free 4 = .ok (.getfield 106, 3) := by decide +kernel
theorem dX8_free_7 : decode cX8_free 7 = .ok (.invokevirtual 237, 3) := by decide +kernel
theorem dX8_free_10 : decode cX8_free 10 = .ok (.istore_n 1, 1) := by decide +kernel
theorem dX8_free_11 : decode cX8_free 11 = .ok (.iconst 0, 1) := by decide +kernel
theorem dX8_free_12 : decode cX8_free 12 = .ok (.istore_n 2, 1) := by decide +kernel
