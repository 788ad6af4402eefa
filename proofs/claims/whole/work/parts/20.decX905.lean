theorem dX9_readsHarbour_78 : decode cX9_readsHarbour 78 = .ok (.iaload, 1) := by decide +kernel
theorem dX9_readsHarbour_79 : decode cX9_readsHarbour 79 = .ok (.iload_n 3, 1) := by decide +kernel
theorem dX9_readsHarbour_80 : decode cX9_readsHarbour 80 = .ok (.imul, 1) := by decide +kernel
theorem dX9_readsHarbour_81 : decode cX9_readsHarbour 81 = .ok (.iload 4, 2) := by decide +kernel
theorem dX9_readsHarbour_83 : decode cX9_readsHarbour 83 = .ok (.iadd, 1) := by decide +kernel
theorem dX9_readsHarbour_84 : decode cX9_readsHarbour 84 = .ok (.istore 5, 2) := by decide +kernel
theorem dX9_readsHarbour_86 : decode cX9_readsHarbour 86 = .ok (.aload_n 0, 1) := by decide +kernel
theorem dX9_readsHarbour_87 : decode cX9_readsHarbour 87 = .ok (.invokevirtual 237, 3) := by decide +kernel
theorem dX9_readsHarbour_90 : decode cX9_readsHarbour 90 = .ok (.ifCond .ne 4, 3) := by decide +kernel
theorem dX9_readsHarbour_93 : decode cX9_readsHarbour 93 = .ok (.return_, 1) := by decide +kernel
theorem dX9_readsHarbour_94 : decode cX9_readsHarbour 94 = .ok (.aload_n 0, 1) := by decide +kernel
theorem dX9_readsHarbour_95 : decode cX9_readsHarbour 95 = .ok (.aload_n 0, 1) := by decide +kernel
theorem dX9_readsHarbour_96 : decode cX9_readsHarbour 96 = .ok (.iload 5, 2) := by decide +kernel
theorem dX9_readsHarbour_98 : decode cX9_readsHarbour 98 = .ok (.invokevirtual 142, 3) := by decide +kernel
theorem dX9_readsHarbour_101 : decode cX9_readsHarbour 101 = .ok (.ifCond .eq 21, 3) := by decide +kernel
theorem dX9_readsHarbour_104 : decode cX9_readsHarbour 104 = .ok (.aload_n 0, 1) := by decide +kernel
theorem dX9_readsHarbour_105 : decode cX9_readsHarbour 105 = .ok (.iload 5, 2) := by decide +kernel
theorem dX9_readsHarbour_107 : decode cX9_readsHarbour 107 = .ok (.invokevirtual 148, 3) := by decide +kernel
theorem dX9_readsHarbour_110 : decode cX9_readsHarbour 110 = .ok (.ifCond .eq 12, 3) := by decide +kernel
theorem dX9_readsHarbour_113 : decode cX9_readsHarbour 113 = .ok (.aload_n 0, 1) := by decide +kernel
theorem dX9_readsHarbour_114 : decode cX9_readsHarbour 114 = .ok (.iload 5, 2) := by decide +kernel
theorem dX9_readsHarbour_116 : decode cX9_readsHarbour 116 = .ok (.invokevirtual 145, 3) := by decide +kernel
theorem dX9_readsHarbour_119 : decode cX9_readsHarbour 119 = .ok (.ifCond .eq 7, 3) := by decide +kernel
theorem dX9_readsHarbour_122 : decode cX9_readsHarbour 122 = .ok (.iconst 1, 1) := by decide +kernel
theorem dX9_readsHarbour_123 : decode cX9_readsHarbour 123 = .ok (.goto 4, 3) := by decide +kernel
theorem dX9_readsHarbour_126 : decode cX9_readsHarbour 126 = .ok (.iconst 0, 1) := by decide +kernel
theorem dX9_readsHarbour_127 : decode cX9_readsHarbour 127 = .ok (.iconst 3, 1) := by decide +kernel
theorem dX9_readsHarbour_128 : decode cX9_readsHarbour 128 = .ok (.invokevirtual 266, 3) := by decide +kernel
theorem dX9_readsHarbour_131 : decode cX9_readsHarbour 131 = .ok (.iconst 0, 1) := by decide +kernel
theorem dX9_readsHarbour_132 : decode cX9_readsHarbour 132 = .ok (.istore 6, 2) := by decide +kernel
theorem dX9_readsHarbour_134 : decode cX9_readsHarbour 134 = .ok (.aload_n 0, 1) := by decide +kernel
theorem dX9_readsHarbour_135 : decode cX9_readsHarbour 135 = .ok (.invokevirtual 249, 3) := by decide +kernel
theorem dX9_readsHarbour_138 : decode cX9_readsHarbour 138 = .ok (.invokestatic 252, 3) := by decide +kernel
theorem dX9_readsHarbour_141 : decode cX9_readsHarbour 141 = .ok (.ifCond .eq 30, 3) := by decide +kernel
theorem dX9_readsHarbour_144 : decode cX9_readsHarbour 144 = .ok (.aload_n 0, 1) := by decide +kernel
theorem dX9_readsHarbour_145 : decode cX9_readsHarbour 145 = .ok (.invokevirtual 270, 3) := by decide +kernel
theorem dX9_readsHarbour_148 : decode cX9_readsHarbour 148 = .ok (.aload_n 0, 1) := by decide +kernel
theorem dX9_readsHarbour_149 : decode cX9_readsHarbour 149 = .ok (.aload_n 0, 1) := by decide +kernel
theorem dX9_readsHarbour_150 : decode cX9_readsHarbour 150 = .ok (.ldc_w 325, 3) := by decide +kernel
theorem dX9_readsHarbour_153 : decode cX9_readsHarbour 153 = .ok (.invokevirtual 275, 3) := by decide +kernel
theorem dX9_readsHarbour_156 : decode cX9_readsHarbour 156 = .ok (.ifCond .ne 7, 3) := by decide +kernel
theorem dX9_readsHarbour_159 : decode cX9_readsHarbour 159 = .ok (.iconst 1, 1) := by decide +kernel
theorem dX9_readsHarbour_160 : decode cX9_readsHarbour 160 = .ok (.goto 4, 3) := by decide +kernel
theorem dX9_readsHarbour_163 : decode cX9_readsHarbour 163 = .ok (.iconst 0, 1) := by decide +kernel
theorem dX9_readsHarbour_164 : decode cX9_readsHarbour 164 = .ok (.iconst 1, 1) := by decide +kernel
theorem dX9_readsHarbour_165 : decode cX9_readsHarbour 165 = .ok (.invokevirtual 266, 3) := by decide +kernel
theorem dX9_readsHarbour_168 : decode cX9_readsHarbour 168 = .ok (.iconst 1, 1) := by decide +kernel
theorem dX9_readsHarbour_169 : decode cX9_readsHarbour 169 = .ok (.istore 6, 2) := by decide +kernel
theorem dX9_readsHarbour_171 : decode cX9_readsHarbour 171 = .ok (.aload_n 0, 1) := by decide +kernel
theorem dX9_readsHarbour_172 : decode cX9_readsHarbour 172 = .ok (.invokevirtual 237, 3) := by decide +kernel
theorem dX9_readsHarbour_175 : decode cX9_readsHarbour 175 = .ok (.ifCond .ne 4, 3) := by decide +kernel
theorem dX9_readsHarbour_178 : decode cX9_readsHarbour 178 = .ok (.return_, 1) := by decide +kernel
theorem dX9_readsHarbour_179 : decode cX9_readsHarbour 179 = .ok (.aload_n 0, 1) := by decide +kernel
theorem dX9_readsHarbour_180 : decode cX9_readsHarbour 180 = .ok (.getfield 7, 3) := by decide +kernel
theorem dX9_readsHarbour_183 : decode cX9_readsHarbour 183 = .ok (.iconst 2, 1) := by decide +kernel
theorem dX9_readsHarbour_184 : decode cX9_readsHarbour 184 = .ok (.iaload, 1) := by decide +kernel
theorem dX9_readsHarbour_185 : decode cX9_readsHarbour 185 = .ok (.istore 7, 2) := by decide +kernel
theorem dX9_readsHarbour_187 : decode cX9_readsHarbour 187 = .ok (.aload_n 0, 1) := by decide +kernel
theorem dX9_readsHarbour_188 : decode cX9_readsHarbour 188 = .ok (.iload 7, 2) := by decide +kernel
theorem dX9_readsHarbour_190 : decode cX9_readsHarbour 190 = .ok (.iconst 0, 1) := by decide +kernel
theorem dX9_readsHarbour_191 : decode cX9_readsHarbour 191 = .ok (.iload 5, 2) := by decide +kernel
theorem dX9_readsHarbour_193 : decode cX9_readsHarbour 193 = .ok (.invokevirtual 135, 3) := by decide +kernel
theorem dX9_readsHarbour_196 : decode cX9_readsHarbour 196 = .ok (.aload_n 0, 1) := by decide +kernel
theorem dX9_readsHarbour_197 : decode cX9_readsHarbour 197 = .ok (.iload 7, 2) := by decide +kernel
theorem dX9_readsHarbour_199 : decode cX9_readsHarbour 199 = .ok (.iconst 1, 1) := by decide +kernel
theorem dX9_readsHarbour_200 : decode cX9_readsHarbour 200 = .ok (.iload 6, 2) := by decide +kernel
theorem dX9_readsHarbour_202 : decode cX9_readsHarbour 202 = .ok (.ifCond .eq 7, 3) := by decide +kernel
theorem dX9_readsHarbour_205 : decode cX9_readsHarbour 205 = .ok (.iconst 1, 1) := by decide +kernel
theorem dX9_readsHarbour_206 : decode cX9_readsHarbour 206 = .ok (.goto 4, 3) := by decide +kernel
theorem dX9_readsHarbour_209 : decode cX9_readsHarbour 209 = .ok (.iconst 0, 1) := by decide +kernel
theorem dX9_readsHarbour_210 : decode cX9_readsHarbour 210 = .ok (.invokevirtual 135, 3) := by decide +kernel
theorem dX9_readsHarbour_213 : decode cX9_readsHarbour 213 = .ok (.aload_n 0, 1) := by decide +kernel
theorem dX9_readsHarbour_214 : decode cX9_readsHarbour 214 = .ok (.iload 7, 2) := by decide +kernel
theorem dX9_readsHarbour_216 : decode cX9_readsHarbour 216 = .ok (.iconst 2, 1) := by decide +kernel
theorem dX9_readsHarbour_217 : decode cX9_readsHarbour 217 = .ok (.iconst (-1), 1) := by decide +kernel
theorem dX9_readsHarbour_218 : decode cX9_readsHarbour 218 = .ok (.invokevirtual 135, 3) := by decide +kernel
theorem dX9_readsHarbour_221 : decode cX9_readsHarbour 221 = .ok (.aload_n 0, 1) := by decide +kernel
theorem dX9_readsHarbour_222 : decode cX9_readsHarbour 222 = .ok (.iload 7, 2) := by decide +kernel
theorem dX9_readsHarbour_224 : decode cX9_readsHarbour 224 = .ok (.iconst 3, 1) := by decide +kernel
theorem dX9_readsHarbour_225 : decode cX9_readsHarbour 225 = .ok (.iload_n 2, 1) := by decide +kernel
theorem dX9_readsHarbour_226 : decode cX9_readsHarbour 226 = .ok (.invokevirtual 135, 3) := by decide +kernel
theorem dX9_readsHarbour_229 : decode cX9_readsHarbour 229 = .ok (.iconst 0, 1) := by decide +kernel
theorem dX9_readsHarbour_230 : decode cX9_readsHarbour 230 = .ok (.istore 8, 2) := by decide +kernel
theorem dX9_readsHarbour_232 : decode cX9_readsHarbour 232 = .ok (.iload 8, 2) := by decide +kernel
theorem dX9_readsHarbour_234 : decode cX9_readsHarbour 234 = .ok (.iload_n 2, 1) := by decide +kernel
theorem dX9_readsHarbour_235 : decode cX9_readsHarbour 235 = .ok (.if_icmp .ge 28, 3) := by decide +kernel
theorem dX9_readsHarbour_238 : decode cX9_readsHarbour 238 = .ok (.aload_n 0, 1) := by decide +kernel
theorem dX9_readsHarbour_239 : decode cX9_readsHarbour 239 = .ok (.iload 7, 2) := by decide +kernel
theorem dX9_readsHarbour_241 : decode cX9_readsHarbour 241 = .ok (.iconst 4, 1) := by decide +kernel
theorem dX9_readsHarbour_242 : decode cX9_readsHarbour 242 = .ok (.iload 8, 2) := by decide +kernel
theorem dX9_readsHarbour_244 : decode cX9_readsHarbour 244 = .ok (.iadd, 1) := by decide +kernel
theorem dX9_readsHarbour_245 : decode cX9_readsHarbour 245 = .ok (.aload_n 0, 1) := by decide +kernel
theorem dX9_readsHarbour_246 : decode cX9_readsHarbour 246 = .ok (.getfield 50, 3) := by decide +kernel
theorem dX9_readsHarbour_249 : decode cX9_readsHarbour 249 = .ok (.iload_n 1, 1) := by decide +kernel
theorem dX9_readsHarbour_250 : decode cX9_readsHarbour 250 = .ok (.iload 8, 2) := by decide +kernel
theorem dX9_readsHarbour_252 : decode cX9_readsHarbour 252 = .ok (.iadd, 1) := by decide +kernel
theorem dX9_readsHarbour_253 : decode cX9_readsHarbour 253 = .ok (.iaload, 1) := by decide +kernel
theorem dX9_readsHarbour_254 : decode cX9_readsHarbour 254 = .ok (.invokevirtual 135, 3) := by decide +kernel
theorem dX9_readsHarbour_257 : decode cX9_readsHarbour 257 = .ok (.iinc 8 1, 3) := by decide +kernel
theorem dX9_readsHarbour_260 : decode cX9_readsHarbour 260 = .ok (.goto (-28), 3) := by decide +kernel
theorem dX9_readsHarbour_263 : decode cX9_readsHarbour 263 = .ok (.aload_n 0, 1) := by decide +kernel
theorem dX9_readsHarbour_264 : decode cX9_readsHarbour 264 = .ok (.getfield 7, 3) := by decide +kernel
theorem dX9_readsHarbour_267 : decode cX9_readsHarbour 267 = .ok (.iconst 2, 1) := by decide +kernel
theorem dX9_readsHarbour_268 : decode cX9_readsHarbour 268 = .ok (.dup2, 1) := by decide +kernel
theorem dX9_readsHarbour_269 : decode cX9_readsHarbour 269 = .ok (.iaload, 1) := by decide +kernel
theorem dX9_readsHarbour_270 : decode cX9_readsHarbour 270 = .ok (.iconst 1, 1) := by decide +kernel
theorem dX9_readsHarbour_271 : decode cX9_readsHarbour 271 = .ok (.iadd, 1) := by decide +kernel
theorem dX9_readsHarbour_272 : decode cX9_readsHarbour 272 = .ok (.iastore, 1) := by decide +kernel
theorem dX9_readsHarbour_273 : decode cX9_readsHarbour 273 = .ok (.return_, 1) := by decide +kernel
theorem dX9_readsRiver_0 : decode cX9_readsRiver 0 = .ok (.aload_n 0, 1) := by decide +kernel
theorem dX9_readsRiver_1 : decode cX9_readsRiver 1 = .ok (.iconst 0, 1) := by decide +kernel
theorem dX9_readsRiver_2 : decode cX9_readsRiver 2 = .ok (.aload_n 0, 1) := by decide +kernel
theorem dX9_readsRiver_3 : decode cX9_readsRiver 3 = .ok (.getfield 7, 3) := by decide +kernel
theorem dX9_readsRiver_6 : decode cX9_readsRiver 6 = .ok (.iconst 0, 1) := by decide +kernel
theorem dX9_readsRiver_7 : decode cX9_readsRiver 7 = .ok (.iaload, 1) := by decide +kernel
theorem dX9_readsRiver_8 : decode cX9_readsRiver 8 = .ok (.iconst 1, 1) := by decide +kernel
theorem dX9_readsRiver_9 : decode cX9_readsRiver 9 = .ok (.isub, 1) := by decide +kernel
theorem dX9_readsRiver_10 : decode cX9_readsRiver 10 = .ok (.invokevirtual 279, 3) := by decide +kernel
theorem dX9_readsRiver_13 : decode cX9_readsRiver 13 = .ok (.istore_n 1, 1) := by decide +kernel
theorem dX9_readsRiver_14 : decode cX9_readsRiver 14 = .ok (.aload_n 0, 1) := by decide +kernel
theorem dX9_readsRiver_15 : decode cX9_readsRiver 15 = .ok (.iconst 0, 1) := by decide +kernel
theorem dX9_readsRiver_16 : decode cX9_readsRiver 16 = .ok (.aload_n 0, 1) := by decide +kernel
theorem dX9_readsRiver_17 : decode cX9_readsRiver 17 = .ok (.getfield 7, 3) := by decide +kernel
theorem dX9_readsRiver_20 : decode cX9_readsRiver 20 = .ok (.iconst 1, 1) := by decide +kernel
theorem dX9_readsRiver_21 : decode cX9_readsRiver 21 = .ok (.iaload, 1) := by decide +kernel
theorem dX9_readsRiver_22 : decode cX9_readsRiver 22 = .ok (.iconst 1, 1) := by decide +kernel
theorem dX9_readsRiver_23 : decode cX9_readsRiver 23 = .ok (.isub, 1) := by decide +kernel
theorem dX9_readsRiver_24 : decode cX9_readsRiver 24 = .ok (.invokevirtual 279, 3) := by decide +kernel
theorem dX9_readsRiver_27 : decode cX9_readsRiver 27 = .ok (.istore_n 2, 1) := by decide +kernel
theorem dX9_readsRiver_28 : decode cX9_readsRiver 28 = .ok (.aload_n 0, 1) := by decide +kernel
theorem dX9_readsRiver_29 : decode cX9_readsRiver 29 = .ok (.invokevirtual 237, 3) := by decide +kernel
theorem dX9_readsRiver_32 : decode cX9_readsRiver 32 = .ok (.ifCond .ne 4, 3) := by decide +kernel
theorem dX9_readsRiver_35 : decode cX9_readsRiver 35 = .ok (.return_, 1) := by decide +kernel
theorem dX9_readsRiver_36 : decode cX9_readsRiver 36 = .ok (.aload_n 0, 1) := by decide +kernel
theorem dX9_readsRiver_37 : decode cX9_readsRiver 37 = .ok (.aload_n 0, 1) := by decide +kernel
theorem dX9_readsRiver_38 : decode cX9_readsRiver 38 = .ok (.getfield 7, 3) := by decide +kernel
theorem dX9_readsRiver_41 : decode cX9_readsRiver 41 = .ok (.iconst 1, 1) := by decide +kernel
theorem dX9_readsRiver_42 : decode cX9_readsRiver 42 = .ok (.iaload, 1) := by decide +kernel
theorem dX9_readsRiver_43 : decode cX9_readsRiver 43 = .ok (.iload_n 1, 1) := by decide +kernel
theorem dX9_readsRiver_44 : decode cX9_readsRiver 44 = .ok (.imul, 1) := by decide +kernel
theorem dX9_readsRiver_45 : decode cX9_readsRiver 45 = .ok (.iload_n 2, 1) := by decide +kernel
theorem dX9_readsRiver_46 : decode cX9_readsRiver 46 = .ok (.iadd, 1) := by decide +kernel
theorem dX9_readsRiver_47 : decode cX9_readsRiver 47 = .ok (.invokevirtual 327, 3) := by decide +kernel
theorem dX9_readsRiver_50 : decode cX9_readsRiver 50 = .ok (.ifCond .eq 10, 3) := by decide +kernel
theorem dX9_readsRiver_53 : decode cX9_readsRiver 53 = .ok (.aload_n 0, 1) := by decide +kernel
theorem dX9_readsRiver_54 : decode cX9_readsRiver 54 = .ok (.invokevirtual 330, 3) := by decide +kernel
theorem dX9_readsRiver_57 : decode cX9_readsRiver 57 = .ok (.goto 12, 3) := by decide +kernel
theorem dX9_readsRiver_60 : decode cX9_readsRiver 60 = .ok (.aload_n 0, 1) := by decide +kernel
theorem dX9_readsRiver_61 : decode cX9_readsRiver 61 = .ok (.iconst 3, 1) := by decide +kernel
theorem dX9_readsRiver_62 : decode cX9_readsRiver 62 = .ok (.aload_n 0, 1) := by decide +kernel
theorem dX9_readsRiver_63 : decode cX9_readsRiver 63 = .ok (.getfield 225, 3) := by decide +kernel
theorem dX9_readsRiver_66 : decode cX9_readsRiver 66 = .ok (.invokevirtual 228, 3) := by decide +kernel
theorem dX9_readsRiver_69 : decode cX9_readsRiver 69 = .ok (.return_, 1) := by decide +kernel
theorem dX9_wayHere_0 : decode cX9_wayHere 0 = .ok (.aload_n 0, 1) := by decide +kernel
theorem dX9_wayHere_1 : decode cX9_wayHere 1 = .ok (.ldc_w 333, 3) := by decide +kernel
theorem dX9_wayHere_4 : decode cX9_wayHere 4 = .ok (.invokevirtual 275, 3) := by decide +kernel
theorem dX9_wayHere_7 : decode cX9_wayHere 7 = .ok (.ifCond .eq 7, 3) := by decide +kernel
theorem dX9_wayHere_10 : decode cX9_wayHere 10 = .ok (.iconst 0, 1) := by decide +kernel
theorem dX9_wayHere_11 : decode cX9_wayHere 11 = .ok (.goto 46, 3) := by decide +kernel
theorem dX9_wayHere_14 : decode cX9_wayHere 14 = .ok (.aload_n 0, 1) := by decide +kernel
theorem dX9_wayHere_15 : decode cX9_wayHere 15 = .ok (.ldc_w 335, 3) := by decide +kernel
theorem dX9_wayHere_18 : decode cX9_wayHere 18 = .ok (.invokevirtual 275, 3) := by decide +kernel
theorem dX9_wayHere_21 : decode cX9_wayHere 21 = .ok (.ifCond .eq 7, 3) := by decide +kernel
theorem dX9_wayHere_24 : decode cX9_wayHere 24 = .ok (.iconst 1, 1) := by decide +kernel
theorem dX9_wayHere_25 : decode cX9_wayHere 25 = .ok (.goto 32, 3) := by decide +kernel
theorem dX9_wayHere_28 : decode cX9_wayHere 28 = .ok (.aload_n 0, 1) := by decide +kernel
theorem dX9_wayHere_29 : decode cX9_wayHere 29 = .ok (.ldc_w 337, 3) := by decide +kernel
theorem dX9_wayHere_32 : decode cX9_wayHere 32 = .ok (.invokevirtual 275, 3) := by decide +kernel
theorem dX9_wayHere_35 : decode cX9_wayHere 35 = .ok (.ifCond .eq 7, 3) := by decide +kernel
theorem dX9_wayHere_38 : decode cX9_wayHere 38 = .ok (.iconst 2, 1) := by decide +kernel
theorem dX9_wayHere_39 : decode cX9_wayHere 39 = .ok (.goto 18, 3) := by decide +kernel
theorem dX9_wayHere_42 : decode cX9_wayHere 42 = .ok (.aload_n 0, 1) := by decide +kernel
theorem dX9_wayHere_43 : decode cX9_wayHere 43 = .ok (.ldc_w 339, 3) := by decide +kernel
theorem dX9_wayHere_46 : decode cX9_wayHere 46 = .ok (.invokevirtual 275, 3) := by decide +kernel
theorem dX9_wayHere_49 : decode cX9_wayHere 49 = .ok (.ifCond .eq 7, 3) := by decide +kernel
theorem dX9_wayHere_52 : decode cX9_wayHere 52 = .ok (.iconst 3, 1) := by decide +kernel
theorem dX9_wayHere_53 : decode cX9_wayHere 53 = .ok (.goto 4, 3) := by decide +kernel
theorem dX9_wayHere_56 : decode cX9_wayHere 56 = .ok (.iconst (-1), 1) := by decide +kernel
theorem dX9_wayHere_57 : decode cX9_wayHere 57 = .ok (.ireturn, 1) := by decide +kernel
theorem dX9_readsPlace_0 : decode cX9_readsPlace 0 = .ok (.aload_n 0, 1) := by decide +kernel
theorem dX9_readsPlace_1 : decode cX9_readsPlace 1 = .ok (.invokevirtual 319, 3) := by decide +kernel
theorem dX9_readsPlace_4 : decode cX9_readsPlace 4 = .ok (.aload_n 0, 1) := by decide +kernel
theorem dX9_readsPlace_5 : decode cX9_readsPlace 5 = .ok (.invokevirtual 237, 3) := by decide +kernel
theorem dX9_readsPlace_8 : decode cX9_readsPlace 8 = .ok (.ifCond .eq 10, 3) := by decide +kernel
theorem dX9_readsPlace_11 : decode cX9_readsPlace 11 = .ok (.aload_n 0, 1) := by decide +kernel
theorem dX9_readsPlace_12 : decode cX9_readsPlace 12 = .ok (.invokevirtual 322, 3) := by decide +kernel
theorem dX9_readsPlace_15 : decode cX9_readsPlace 15 = .ok (.goto 4, 3) := by decide +kernel
theorem dX9_readsPlace_18 : decode cX9_readsPlace 18 = .ok (.iconst (-1), 1) := by decide +kernel
theorem dX9_readsPlace_19 : decode cX9_readsPlace 19 = .ok (.istore_n 1, 1) := by decide +kernel
theorem dX9_readsPlace_20 : decode cX9_readsPlace 20 = .ok (.aload_n 0, 1) := by decide +kernel
theorem dX9_readsPlace_21 : decode cX9_readsPlace 21 = .ok (.iload_n 1, 1) := by decide +kernel
theorem dX9_readsPlace_22 : decode cX9_readsPlace 22 = .ok (.iconst (-1), 1) := by decide +kernel
theorem dX9_readsPlace_23 : decode cX9_readsPlace 23 = .ok (.if_icmp .ne 7, 3) := by decide +kernel
theorem dX9_readsPlace_26 : decode cX9_readsPlace 26 = .ok (.iconst 1, 1) := by decide +kernel
theorem dX9_readsPlace_27 : decode cX9_readsPlace 27 = .ok (.goto 4, 3) := by decide +kernel
theorem dX9_readsPlace_30 : decode cX9_readsPlace 30 = .ok (.iconst 0, 1) := by decide +kernel
theorem dX9_readsPlace_31 : decode cX9_readsPlace 31 = .ok (.iconst 4, 1) := by decide +kernel
theorem dX9_readsPlace_32 : decode cX9_readsPlace 32 = .ok (.invokevirtual 266, 3) := by decide +kernel
theorem dX9_readsPlace_35 : decode cX9_readsPlace 35 = .ok (.aload_n 0, 1) := by decide +kernel
theorem dX9_readsPlace_36 : decode cX9_readsPlace 36 = .ok (.invokevirtual 270, 3) := by decide +kernel
theorem dX9_readsPlace_39 : decode cX9_readsPlace 39 = .ok (.aload_n 0, 1) := by decide +kernel
theorem dX9_readsPlace_40 : decode cX9_readsPlace 40 = .ok (.invokevirtual 341, 3) := by decide +kernel
theorem dX9_readsPlace_43 : decode cX9_readsPlace 43 = .ok (.istore_n 2, 1) := by decide +kernel
theorem dX9_readsPlace_44 : decode cX9_readsPlace 44 = .ok (.aload_n 0, 1) := by decide +kernel
theorem dX9_readsPlace_45 : decode cX9_readsPlace 45 = .ok (.iload_n 2, 1) := by decide +kernel
theorem dX9_readsPlace_46 : decode cX9_readsPlace 46 = .ok (.iconst (-1), 1) := by decide +kernel
theorem dX9_readsPlace_47 : decode cX9_readsPlace 47 = .ok (.if_icmp .ne 7, 3) := by decide +kernel
theorem dX9_readsPlace_50 : decode cX9_readsPlace 50 = .ok (.iconst 1, 1) := by decide +kernel
theorem dX9_readsPlace_51 : decode cX9_readsPlace 51 = .ok (.goto 4, 3) := by decide +kernel
theorem dX9_readsPlace_54 : decode cX9_readsPlace 54 = .ok (.iconst 0, 1) := by decide +kernel
theorem dX9_readsPlace_55 : decode cX9_readsPlace 55 = .ok (.iconst 1, 1) := by decide +kernel
theorem dX9_readsPlace_56 : decode cX9_readsPlace 56 = .ok (.invokevirtual 266, 3) := by decide +kernel
theorem dX9_readsPlace_59 : decode cX9_readsPlace 59 = .ok (.aload_n 0, 1) := by decide +kernel
theorem dX9_readsPlace_60 : decode cX9_readsPlace 60 = .ok (.invokevirtual 237, 3) := by decide +kernel
theorem dX9_readsPlace_63 : decode cX9_readsPlace 63 = .ok (.ifCond .ne 4, 3) := by decide +kernel
theorem dX9_readsPlace_66 : decode cX9_readsPlace 66 = .ok (.return_, 1) := by decide +kernel
theorem dX9_readsPlace_67 : decode cX9_readsPlace 67 = .ok (.aload_n 0, 1) := by decide +kernel
theorem dX9_readsPlace_68 : decode cX9_readsPlace 68 = .ok (.aload_n 0, 1) := by decide +kernel
theorem dX9_readsPlace_69 : decode cX9_readsPlace 69 = .ok (.iload_n 1, 1) := by decide +kernel
theorem dX9_readsPlace_70 : decode cX9_readsPlace 70 = .ok (.iload_n 2, 1) := by decide +kernel
theorem dX9_readsPlace_71 : decode cX9_readsPlace 71 = .ok (.invokevirtual 344, 3) := by decide +kernel
theorem dX9_readsPlace_74 : decode cX9_readsPlace 74 = .ok (.ifCond .eq 7, 3) := by decide +kernel
theorem dX9_readsPlace_77 : decode cX9_readsPlace 77 = .ok (.iconst 1, 1) := by decide +kernel
theorem dX9_readsPlace_78 : decode cX9_readsPlace 78 = .ok (.goto 4, 3) := by decide +kernel
theorem dX9_readsPlace_81 : decode cX9_readsPlace 81 = .ok (.iconst 0, 1) := by decide +kernel
theorem dX9_readsPlace_82 : decode cX9_readsPlace 82 = .ok (.iconst 3, 1) := by decide +kernel
theorem dX9_readsPlace_83 : decode cX9_readsPlace 83 = .ok (.invokevirtual 266, 3) := by decide +kernel
theorem dX9_readsPlace_86 : decode cX9_readsPlace 86 = .ok (.aload_n 0, 1) := by decide +kernel
theorem dX9_readsPlace_87 : decode cX9_readsPlace 87 = .ok (.invokevirtual 237, 3) := by decide +kernel
theorem dX9_readsPlace_90 : decode cX9_readsPlace 90 = .ok (.ifCond .eq 10, 3) := by decide +kernel
theorem dX9_readsPlace_93 : decode cX9_readsPlace 93 = .ok (.aload_n 0, 1) := by decide +kernel
theorem dX9_readsPlace_94 : decode cX9_readsPlace 94 = .ok (.iload_n 1, 1) := by decide +kernel
theorem dX9_readsPlace_95 : decode cX9_readsPlace 95 = .ok (.iconst 2, 1) := by decide +kernel
theorem dX9_readsPlace_96 : decode cX9_readsPlace 96 = .ok (.iload_n 2, 1) := by decide +kernel
theorem dX9_readsPlace_97 : decode cX9_readsPlace 97 = .ok (.invokevirtual 135, 3) := by decide +kernel
theorem dX9_readsPlace_100 : decode cX9_readsPlace 100 = .ok (.return_, 1) := by decide +kernel
theorem dX9_readsVoyage_0 : decode cX9_readsVoyage 0 = .ok (.aload_n 0, 1) := by decide +kernel
theorem dX9_readsVoyage_1 : decode cX9_readsVoyage 1 = .ok (.invokevirtual 319, 3) := by decide +kernel
theorem dX9_readsVoyage_4 : decode cX9_readsVoyage 4 = .ok (.aload_n 0, 1) := by decide +kernel
theorem dX9_readsVoyage_5 : decode cX9_readsVoyage 5 = .ok (.aload_n 0, 1) := by decide +kernel
theorem dX9_readsVoyage_6 : decode cX9_readsVoyage 6 = .ok (.getfield 7, 3) := by decide +kernel
theorem dX9_readsVoyage_9 : decode cX9_readsVoyage 9 = .ok (.iconst 4, 1) := by decide +kernel
theorem dX9_readsVoyage_10 : decode cX9_readsVoyage 10 = .ok (.iaload, 1) := by decide +kernel
theorem dX9_readsVoyage_11 : decode cX9_readsVoyage 11 = .ok (.bipush 16, 2) := by decide +kernel
theorem dX9_readsVoyage_13 : decode cX9_readsVoyage 13 = .ok (.if_icmp .ne 7, 3) := by decide +kernel
theorem dX9_readsVoyage_16 : decode cX9_readsVoyage 16 = .ok (.iconst 1, 1) := by decide +kernel
theorem dX9_readsVoyage_17 : decode cX9_readsVoyage 17 = .ok (.goto 4, 3) := by decide +kernel
theorem dX9_readsVoyage_20 : decode cX9_readsVoyage 20 = .ok (.iconst 0, 1) := by decide +kernel
theorem dX9_readsVoyage_21 : decode cX9_readsVoyage 21 = .ok (.iconst 3, 1) := by decide +kernel
theorem dX9_readsVoyage_22 : decode cX9_readsVoyage 22 = .ok (.invokevirtual 266, 3) := by decide +kernel
theorem dX9_readsVoyage_25 : decode cX9_readsVoyage 25 = .ok (.aload_n 0, 1) := by decide +kernel
theorem dX9_readsVoyage_26 : decode cX9_readsVoyage 26 = .ok (.invokevirtual 237, 3) := by decide +kernel
theorem dX9_readsVoyage_29 : decode cX9_readsVoyage 29 = .ok (.ifCond .eq 10, 3) := by decide +kernel
theorem dX9_readsVoyage_32 : decode cX9_readsVoyage 32 = .ok (.aload_n 0, 1) := by decide +kernel
theorem dX9_readsVoyage_33 : decode cX9_readsVoyage 33 = .ok (.invokevirtual 322, 3) := by decide +kernel
theorem dX9_readsVoyage_36 : decode cX9_readsVoyage 36 = .ok (.goto 4, 3) := by decide +kernel
theorem dX9_readsVoyage_39 : decode cX9_readsVoyage 39 = .ok (.iconst (-1), 1) := by decide +kernel
theorem dX9_readsVoyage_40 : decode cX9_readsVoyage 40 = .ok (.istore_n 1, 1) := by decide +kernel
theorem dX9_readsVoyage_41 : decode cX9_readsVoyage 41 = .ok (.aload_n 0, 1) := by decide +kernel
theorem dX9_readsVoyage_42 : decode cX9_readsVoyage 42 = .ok (.iload_n 1, 1) := by decide +kernel
theorem dX9_readsVoyage_43 : decode cX9_readsVoyage 43 = .ok (.iconst (-1), 1) := by decide +kernel
theorem dX9_readsVoyage_44 : decode cX9_readsVoyage 44 = .ok (.if_icmp .ne 7, 3) := by decide +kernel
theorem dX9_readsVoyage_47 : decode cX9_readsVoyage 47 = .ok (.iconst 1, 1) := by decide +kernel
theorem dX9_readsVoyage_48 : decode cX9_readsVoyage 48 = .ok (.goto 4, 3) := by decide +kernel
theorem dX9_readsVoyage_51 : decode cX9_readsVoyage 51 = .ok (.iconst 0, 1) := by decide +kernel
theorem dX9_readsVoyage_52 : decode cX9_readsVoyage 52 = .ok (.iconst 4, 1) := by decide +kernel
theorem dX9_readsVoyage_53 : decode cX9_readsVoyage 53 = .ok (.invokevirtual 266, 3) := by decide +kernel
theorem dX9_readsVoyage_56 : decode cX9_readsVoyage 56 = .ok (.aload_n 0, 1) := by decide +kernel
theorem dX9_readsVoyage_57 : decode cX9_readsVoyage 57 = .ok (.invokevirtual 237, 3) := by decide +kernel
theorem dX9_readsVoyage_60 : decode cX9_readsVoyage 60 = .ok (.ifCond .eq 29, 3) := by decide +kernel
theorem dX9_readsVoyage_63 : decode cX9_readsVoyage 63 = .ok (.aload_n 0, 1) := by decide +kernel
theorem dX9_readsVoyage_64 : decode cX9_readsVoyage 64 = .ok (.getfield 7, 3) := by decide +kernel
theorem dX9_readsVoyage_67 : decode cX9_readsVoyage 67 = .ok (.sipush 536, 3) := by decide +kernel
theorem dX9_readsVoyage_70 : decode cX9_readsVoyage 70 = .ok (.aload_n 0, 1) := by decide +kernel
theorem dX9_readsVoyage_71 : decode cX9_readsVoyage 71 = .ok (.getfield 7, 3) := by decide +kernel
theorem dX9_readsVoyage_74 : decode cX9_readsVoyage 74 = .ok (.iconst 4, 1) := by decide +kernel
theorem dX9_readsVoyage_75 : decode cX9_readsVoyage 75 = .ok (.iaload, 1) := by decide +kernel
theorem dX9_readsVoyage_76 : decode cX9_readsVoyage 76 = .ok (.iadd, 1) := by decide +kernel
theorem dX9_readsVoyage_77 : decode cX9_readsVoyage 77 = .ok (.iload_n 1, 1) := by decide +kernel
theorem dX9_readsVoyage_78 : decode cX9_readsVoyage 78 = .ok (.iastore, 1) := by decide +kernel
theorem dX9_readsVoyage_79 : decode cX9_readsVoyage 79 = .ok (.aload_n 0, 1) := by decide +kernel
theorem dX9_readsVoyage_80 : decode cX9_readsVoyage 80 = .ok (.getfield 7, 3) := by decide +kernel
theorem dX9_readsVoyage_83 : decode cX9_readsVoyage 83 = .ok (.iconst 4, 1) := by decide +kernel
theorem dX9_readsVoyage_84 : decode cX9_readsVoyage 84 = .ok (.dup2, 1) := by decide +kernel
theorem dX9_readsVoyage_85 : decode cX9_readsVoyage 85 = .ok (.iaload, 1) := by decide +kernel
theorem dX9_readsVoyage_86 : decode cX9_readsVoyage 86 = .ok (.iconst 1, 1) := by decide +kernel
theorem dX9_readsVoyage_87 : decode cX9_readsVoyage 87 = .ok (.iadd, 1) := by decide +kernel
theorem dX9_readsVoyage_88 : decode cX9_readsVoyage 88 = .ok (.iastore, 1) := by decide +kernel
theorem dX9_readsVoyage_89 : decode cX9_readsVoyage 89 = .ok (.aload_n 0, 1) := by decide +kernel
theorem dX9_readsVoyage_90 : decode cX9_readsVoyage 90 = .ok (.invokevirtual 237, 3) := by decide +kernel
theorem dX9_readsVoyage_93 : decode cX9_readsVoyage 93 = .ok (.ifCond .eq 13, 3) := by decide +kernel
theorem dX9_readsVoyage_96 : decode cX9_readsVoyage 96 = .ok (.aload_n 0, 1) := by decide +kernel
theorem dX9_readsVoyage_97 : decode cX9_readsVoyage 97 = .ok (.invokevirtual 249, 3) := by decide +kernel
theorem dX9_readsVoyage_100 : decode cX9_readsVoyage 100 = .ok (.invokestatic 252, 3) := by decide +kernel
theorem dX9_readsVoyage_103 : decode cX9_readsVoyage 103 = .ok (.ifCond .ne (-103), 3) := by decide +kernel
theorem dX9_readsVoyage_106 : decode cX9_readsVoyage 106 = .ok (.return_, 1) := by decide +kernel
theorem dX9_load_0 : decode cX9_load 0 = .ok (.aload_n 0, 1) := by decide +kernel
theorem dX9_load_1 : decode cX9_load 1 = .ok (.iconst 0, 1) := by decide +kernel
theorem dX9_load_2 : decode cX9_load 2 = .ok (.putfield 64, 3) := by decide +kernel
theorem dX9_load_5 : decode cX9_load 5 = .ok (.aload_n 0, 1) := by decide +kernel
theorem dX9_load_6 : decode cX9_load 6 = .ok (.iconst 0, 1) := by decide +kernel
theorem dX9_load_7 : decode cX9_load 7 = .ok (.putfield 231, 3) := by decide +kernel
theorem dX9_load_10 : decode cX9_load 10 = .ok (.aload_n 0, 1) := by decide +kernel
theorem dX9_load_11 : decode cX9_load 11 = .ok (.iconst 0, 1) := by decide +kernel
theorem dX9_load_12 : decode cX9_load 12 = .ok (.putfield 225, 3) := by decide +kernel
theorem dX9_load_15 : decode cX9_load 15 = .ok (.aload_n 0, 1) := by decide +kernel
theorem dX9_load_16 : decode cX9_load 16 = .ok (.iconst 0, 1) := by decide +kernel
theorem dX9_load_17 : decode cX9_load 17 = .ok (.putfield 219, 3) := by decide +kernel
theorem dX9_load_20 : decode cX9_load 20 = .ok (.aload_n 0, 1) := by decide +kernel
theorem dX9_load_21 : decode cX9_load 21 = .ok (.iconst 0, 1) := by decide +kernel
theorem dX9_load_22 : decode cX9_load 22 = .ok (.putfield 222, 3) := by decide +kernel
theorem dX9_load_25 : decode cX9_load 25 = .ok (.aload_n 0, 1) := by decide +kernel
theorem dX9_load_26 : decode cX9_load 26 = .ok (.iconst 0, 1) := by decide +kernel
theorem dX9_load_27 : decode cX9_load 27 = .ok (.putfield 286, 3) := by decide +kernel
theorem dX9_load_30 : decode cX9_load 30 = .ok (.aload_n 0, 1) := by decide +kernel
theorem dX9_load_31 : decode cX9_load 31 = .ok (.aload_n 0, 1) := by decide +kernel
theorem dX9_load_32 : decode cX9_load 32 = .ok (.getfield 16, 3) := by decide +kernel
theorem dX9_load_35 : decode cX9_load 35 = .ok (.putfield 7, 3) := by decide +kernel
theorem dX9_load_38 : decode cX9_load 38 = .ok (.aload_n 0, 1) := by decide +kernel
theorem dX9_load_39 : decode cX9_load 39 = .ok (.invokevirtual 347, 3) := by decide +kernel
theorem dX9_load_42 : decode cX9_load 42 = .ok (.aload_n 0, 1) := by decide +kernel
theorem dX9_load_43 : decode cX9_load 43 = .ok (.aload_n 0, 1) := by decide +kernel
theorem dX9_load_44 : decode cX9_load 44 = .ok (.getfield 13, 3) := by decide +kernel
theorem dX9_load_47 : decode cX9_load 47 = .ok (.putfield 7, 3) := by decide +kernel
theorem dX9_load_50 : decode cX9_load 50 = .ok (.aload_n 0, 1) := by decide +kernel
theorem dX9_load_51 : decode cX9_load 51 = .ok (.iconst 0, 1) := by decide +kernel
theorem dX9_load_52 : decode cX9_load 52 = .ok (.putfield 212, 3) := by decide +kernel
theorem dX9_load_55 : decode cX9_load 55 = .ok (.aload_n 0, 1) := by decide +kernel
theorem dX9_load_56 : decode cX9_load 56 = .ok (.aload_n 0, 1) := by decide +kernel
theorem dX9_load_57 : decode cX9_load 57 = .ok (.getfield 219, 3) := by decide +kernel
theorem dX9_load_60 : decode cX9_load 60 = .ok (.putfield 350, 3) := by decide +kernel
theorem dX9_load_63 : decode cX9_load 63 = .ok (.aload_n 0, 1) := by decide +kernel
theorem dX9_load_64 : decode cX9_load 64 = .ok (.aload_n 0, 1) := by decide +kernel
theorem dX9_load_65 : decode cX9_load 65 = .ok (.invokevirtual 237, 3) := by decide +kernel
theorem dX9_load_68 : decode cX9_load 68 = .ok (.ifCond .eq 7, 3) := by decide +kernel
theorem dX9_load_71 : decode cX9_load 71 = .ok (.iconst (-1), 1) := by decide +kernel
theorem dX9_load_72 : decode cX9_load 72 = .ok (.goto 7, 3) := by decide +kernel
theorem dX9_load_75 : decode cX9_load 75 = .ok (.aload_n 0, 1) := by decide +kernel
theorem dX9_load_76 : decode cX9_load 76 = .ok (.getfield 286, 3) := by decide +kernel
theorem dX9_load_79 : decode cX9_load 79 = .ok (.putfield 53, 3) := by decide +kernel
theorem dX9_load_82 : decode cX9_load 82 = .ok (.aload_n 0, 1) := by decide +kernel
theorem dX9_load_83 : decode cX9_load 83 = .ok (.invokevirtual 237, 3) := by decide +kernel
theorem dX9_load_86 : decode cX9_load 86 = .ok (.ifCond .ne 11, 3) := by decide +kernel
theorem dX9_load_89 : decode cX9_load 89 = .ok (.bipush (-100), 2) := by decide +kernel
theorem dX9_load_91 : decode cX9_load 91 = .ok (.aload_n 0, 1) := by decide +kernel
theorem dX9_load_92 : decode cX9_load 92 = .ok (.getfield 222, 3) := by decide +kernel
theorem dX9_load_95 : decode cX9_load 95 = .ok (.isub, 1) := by decide +kernel
theorem dX9_load_96 : decode cX9_load 96 = .ok (.ireturn, 1) := by decide +kernel
theorem dX9_load_97 : decode cX9_load 97 = .ok (.aload_n 0, 1) := by decide +kernel
theorem dX9_load_98 : decode cX9_load 98 = .ok (.getfield 16, 3) := by decide +kernel
theorem dX9_load_101 : decode cX9_load 101 = .ok (.iconst 0, 1) := by decide +kernel
theorem dX9_load_102 : decode cX9_load 102 = .ok (.aload_n 0, 1) := by decide +kernel
theorem dX9_load_103 : decode cX9_load 103 = .ok (.getfield 7, 3) := by decide +kernel
theorem dX9_load_106 : decode cX9_load 106 = .ok (.iconst 0, 1) := by decide +kernel
theorem dX9_load_107 : decode cX9_load 107 = .ok (.invokestatic 70, 3) := by decide +kernel
theorem dX9_load_110 : decode cX9_load 110 = .ok (.aload_n 0, 1) := by decide +kernel
theorem dX9_load_111 : decode cX9_load 111 = .ok (.iconst 0, 1) := by decide +kernel
theorem dX9_load_112 : decode cX9_load 112 = .ok (.putfield 67, 3) := by decide +kernel
theorem dX9_load_115 : decode cX9_load 115 = .ok (.aload_n 0, 1) := by decide +kernel
theorem dX9_load_116 : decode cX9_load 116 = .ok (.getfield 7, 3) := by decide +kernel
theorem dX9_load_119 : decode cX9_load 119 = .ok (.iconst 2, 1) := by decide +kernel
theorem dX9_load_120 : decode cX9_load 120 = .ok (.iaload, 1) := by decide +kernel
theorem dX9_load_121 : decode cX9_load 121 = .ok (.ireturn, 1) := by decide +kernel
theorem dX9_loadError_0 : decode cX9_loadError 0 = .ok (.aload_n 0, 1) := by decide +kernel
theorem dX9_loadError_1 : decode cX9_loadError 1 = .ok (.iconst 0, 1) := by decide +kernel
theorem dX9_loadError_2 : decode cX9_loadError 2 = .ok (.putfield 64, 3) := by decide +kernel
theorem dX9_loadError_5 : decode cX9_loadError 5 = .ok (.aload_n 0, 1) := by decide +kernel
theorem dX9_loadError_6 : decode cX9_loadError 6 = .ok (.getfield 350, 3) := by decide +kernel
theorem dX9_loadError_9 : decode cX9_loadError 9 = .ok (.ireturn, 1) := by decide +kernel
theorem dX9_loadStatement_0 : decode cX9_loadStatement 0 = .ok (.aload_n 0, 1) := by decide +kernel
theorem dX9_loadStatement_1 : decode cX9_loadStatement 1 = .ok (.iconst 0, 1) := by decide +kernel
theorem dX9_loadStatement_2 : decode cX9_loadStatement 2 = .ok (.putfield 64, 3) := by decide +kernel
theorem dX9_loadStatement_5 : decode cX9_loadStatement 5 = .ok (.aload_n 0, 1) := by decide +kernel
theorem dX9_loadStatement_6 : decode cX9_loadStatement 6 = .ok (.getfield 53, 3) := by decide +kernel
theorem dX9_loadStatement_9 : decode cX9_loadStatement 9 = .ok (.ireturn, 1) := by decide +kernel
theorem dX9_landCells_0 : decode cX9_landCells 0 = .ok (.iconst 0, 1) := by decide +kernel
theorem dX9_landCells_1 : decode cX9_landCells 1 = .ok (.istore_n 1, 1) := by decide +kernel
theorem dX9_landCells_2 : decode cX9_landCells 2 = .ok (.iconst 0, 1) := by decide +kernel
theorem dX9_landCells_3 : decode cX9_landCells 3 = .ok (.istore_n 2, 1) := by decide +kernel
theorem dX9_landCells_4 : decode cX9_landCells 4 = .ok (.iload_n 2, 1) := by decide +kernel
theorem dX9_landCells_5 : decode cX9_landCells 5 = .ok (.aload_n 0, 1) := by decide +kernel
theorem dX9_landCells_6 : decode cX9_landCells 6 = .ok (.invokevirtual 74, 3) := by decide +kernel
theorem dX9_landCells_9 : decode cX9_landCells 9 = .ok (.if_icmp .ge 21, 3) := by decide +kernel
theorem dX9_landCells_12 : decode cX9_landCells 12 = .ok (.iload_n 1, 1) := by decide +kernel
theorem dX9_landCells_13 : decode cX9_landCells 13 = .ok (.aload_n 0, 1) := by decide +kernel
theorem dX9_landCells_14 : decode cX9_landCells 14 = .ok (.getfield 7, 3) := by decide +kernel
theorem dX9_landCells_17 : decode cX9_landCells 17 = .ok (.bipush 8, 2) := by decide +kernel
theorem dX9_landCells_19 : decode cX9_landCells 19 = .ok (.iload_n 2, 1) := by decide +kernel
theorem dX9_landCells_20 : decode cX9_landCells 20 = .ok (.iadd, 1) := by decide +kernel
theorem dX9_landCells_21 : decode cX9_landCells 21 = .ok (.iaload, 1) := by decide +kernel
theorem dX9_landCells_22 : decode cX9_landCells 22 = .ok (.iadd, 1) := by decide +kernel
theorem dX9_landCells_23 : decode cX9_landCells 23 = .ok (.istore_n 1, 1) := by decide +kernel
theorem dX9_landCells_24 : decode cX9_landCells 24 = .ok (.iinc 2 1, 3) := by decide +kernel
theorem dX9_landCells_27 : decode cX9_landCells 27 = .ok (.goto (-23), 3) := by decide +kernel
theorem dX9_landCells_30 : decode cX9_landCells 30 = .ok (.iload_n 1, 1) := by decide +kernel
theorem dX9_landCells_31 : decode cX9_landCells 31 = .ok (.ireturn, 1) := by decide +kernel
theorem dX9_placedNow_0 : decode cX9_placedNow 0 = .ok (.iconst 0, 1) := by decide +kernel
theorem dX9_placedNow_1 : decode cX9_placedNow 1 = .ok (.istore_n 2, 1) := by decide +kernel
theorem dX9_placedNow_2 : decode cX9_placedNow 2 = .ok (.iconst 0, 1) := by decide +kernel
theorem dX9_placedNow_3 : decode cX9_placedNow 3 = .ok (.istore_n 3, 1) := by decide +kernel
theorem dX9_placedNow_4 : decode cX9_placedNow 4 = .ok (.iload_n 3, 1) := by decide +kernel
theorem dX9_placedNow_5 : decode cX9_placedNow 5 = .ok (.aload_n 0, 1) := by decide +kernel
theorem dX9_placedNow_6 : decode cX9_placedNow 6 = .ok (.getfield 7, 3) := by decide +kernel
theorem dX9_placedNow_9 : decode cX9_placedNow 9 = .ok (.iconst 2, 1) := by decide +kernel
theorem dX9_placedNow_10 : decode cX9_placedNow 10 = .ok (.iaload, 1) := by decide +kernel
theorem dX9_placedNow_11 : decode cX9_placedNow 11 = .ok (.if_icmp .ge 37, 3) := by decide +kernel
theorem dX9_placedNow_14 : decode cX9_placedNow 14 = .ok (.iload_n 2, 1) := by decide +kernel
theorem dX9_placedNow_15 : decode cX9_placedNow 15 = .ok (.aload_n 0, 1) := by decide +kernel
theorem dX9_placedNow_16 : decode cX9_placedNow 16 = .ok (.iload_n 3, 1) := by decide +kernel
theorem dX9_placedNow_17 : decode cX9_placedNow 17 = .ok (.invokevirtual 103, 3) := by decide +kernel
theorem dX9_placedNow_20 : decode cX9_placedNow 20 = .ok (.ifCond .eq 19, 3) := by decide +kernel
theorem dX9_placedNow_23 : decode cX9_placedNow 23 = .ok (.iload_n 1, 1) := by decide +kernel
theorem dX9_placedNow_24 : decode cX9_placedNow 24 = .ok (.ifCond .eq 11, 3) := by decide +kernel
theorem dX9_placedNow_27 : decode cX9_placedNow 27 = .ok (.aload_n 0, 1) := by decide +kernel
theorem dX9_placedNow_28 : decode cX9_placedNow 28 = .ok (.iload_n 3, 1) := by decide +kernel
theorem dX9_placedNow_29 : decode cX9_placedNow 29 = .ok (.invokevirtual 124, 3) := by decide +kernel
theorem dX9_placedNow_32 : decode cX9_placedNow 32 = .ok (.ifCond .eq 7, 3) := by decide +kernel
theorem dX9_placedNow_35 : decode cX9_placedNow 35 = .ok (.iconst 1, 1) := by decide +kernel
theorem dX9_placedNow_36 : decode cX9_placedNow 36 = .ok (.goto 4, 3) := by decide +kernel
theorem dX9_placedNow_39 : decode cX9_placedNow 39 = .ok (.iconst 0, 1) := by decide +kernel
theorem dX9_placedNow_40 : decode cX9_placedNow 40 = .ok (.iadd, 1) := by decide +kernel
theorem dX9_placedNow_41 : decode cX9_placedNow 41 = .ok (.istore_n 2, 1) := by decide +kernel
theorem dX9_placedNow_42 : decode cX9_placedNow 42 = .ok (.iinc 3 1, 3) := by decide +kernel
theorem dX9_placedNow_45 : decode cX9_placedNow 45 = .ok (.goto (-41), 3) := by decide +kernel
theorem dX9_placedNow_48 : decode cX9_placedNow 48 = .ok (.iload_n 2, 1) := by decide +kernel
theorem dX9_placedNow_49 : decode cX9_placedNow 49 = .ok (.ireturn, 1) := by decide +kernel
theorem dX9_size_0 : decode cX9_size 0 = .ok (.aload_n 0, 1) := by decide +kernel
theorem dX9_size_1 : decode cX9_size 1 = .ok (.iload_n 1, 1) := by decide +kernel
theorem dX9_size_2 : decode cX9_size 2 = .ok (.i2l, 1) := by decide +kernel
theorem dX9_size_3 : decode cX9_size 3 = .ok (.lconst 0, 1) := by decide +kernel
theorem dX9_size_4 : decode cX9_size 4 = .ok (.ldc2_w 353, 3) := by decide +kernel
theorem dX9_size_7 : decode cX9_size 7 = .ok (.invokestatic 78, 3) := by decide +kernel
theorem dX9_size_10 : decode cX9_size 10 = .ok (.iconst 1, 1) := by decide +kernel
theorem dX9_size_11 : decode cX9_size 11 = .ok (.invokevirtual 355, 3) := by decide +kernel
theorem dX9_size_14 : decode cX9_size 14 = .ok (.ifCond .ne 5, 3) := by decide +kernel
theorem dX9_size_17 : decode cX9_size 17 = .ok (.iconst 0, 1) := by decide +kernel
theorem dX9_size_18 : decode cX9_size 18 = .ok (.ireturn, 1) := by decide +kernel
theorem dX9_size_19 : decode cX9_size 19 = .ok (.iload_n 1, 1) := by decide +kernel
theorem dX9_size_20 : decode cX9_size 20 = .ok (.tableswitch 135 0 10 #[60, 67, 74, 79, 86, 93, 99, 105, 112, 119, 127], 60) := by decide +kernel
theorem dX9_size_80 : decode cX9_size 80 = .ok (.aload_n 0, 1) := by decide +kernel
theorem dX9_size_81 : decode cX9_size 81 = .ok (.getfield 7, 3) := by decide +kernel
theorem dX9_size_84 : decode cX9_size 84 = .ok (.iconst 0, 1) := by decide +kernel
theorem dX9_size_85 : decode cX9_size 85 = .ok (.iaload, 1) := by decide +kernel
theorem dX9_size_86 : decode cX9_size 86 = .ok (.ireturn, 1) := by decide +kernel
theorem dX9_size_87 : decode cX9_size 87 = .ok (.aload_n 0, 1) := by decide +kernel
theorem dX9_size_88 : decode cX9_size 88 = .ok (.getfield 7, 3) := by decide +kernel
theorem dX9_size_91 : decode cX9_size 91 = .ok (.iconst 1, 1) := by decide +kernel
theorem dX9_size_92 : decode cX9_size 92 = .ok (.iaload, 1) := by decide +kernel
theorem dX9_size_93 : decode cX9_size 93 = .ok (.ireturn, 1) := by decide +kernel
theorem dX9_size_94 : decode cX9_size 94 = .ok (.aload_n 0, 1) := by decide +kernel
