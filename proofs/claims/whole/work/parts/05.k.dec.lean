-- decode rows: X9b
theorem dX9_bottomOf_2 : decode cX9_bottomOf 2 = .ok (.if_icmp .ge 17, 3) := by decide +kernel
theorem dX9_bottomOf_5 : decode cX9_bottomOf 5 = .ok (.aload_n 0, 1) := by decide +kernel
theorem dX9_bottomOf_6 : decode cX9_bottomOf 6 = .ok (.getfield 13, 3) := by decide +kernel
theorem dX9_bottomOf_9 : decode cX9_bottomOf 9 = .ok (.aload_n 0, 1) := by decide +kernel
theorem dX9_bottomOf_10 : decode cX9_bottomOf 10 = .ok (.iload_n 1, 1) := by decide +kernel
theorem dX9_bottomOf_11 : decode cX9_bottomOf 11 = .ok (.iload_n 2, 1) := by decide +kernel
theorem dX9_bottomOf_12 : decode cX9_bottomOf 12 = .ok (.invokevirtual 85, 3) := by decide +kernel
theorem dX9_bottomOf_15 : decode cX9_bottomOf 15 = .ok (.iaload, 1) := by decide +kernel
theorem dX9_bottomOf_16 : decode cX9_bottomOf 16 = .ok (.goto 14, 3) := by decide +kernel
theorem dX9_bottomOf_19 : decode cX9_bottomOf 19 = .ok (.aload_n 0, 1) := by decide +kernel
theorem dX9_bottomOf_20 : decode cX9_bottomOf 20 = .ok (.getfield 9, 3) := by decide +kernel
theorem dX9_bottomOf_23 : decode cX9_bottomOf 23 = .ok (.aload_n 0, 1) := by decide +kernel
theorem dX9_bottomOf_24 : decode cX9_bottomOf 24 = .ok (.iload_n 1, 1) := by decide +kernel
theorem dX9_bottomOf_25 : decode cX9_bottomOf 25 = .ok (.iload_n 2, 1) := by decide +kernel
theorem dX9_bottomOf_26 : decode cX9_bottomOf 26 = .ok (.invokevirtual 85, 3) := by decide +kernel
theorem dX9_bottomOf_29 : decode cX9_bottomOf 29 = .ok (.iaload, 1) := by decide +kernel
theorem dX9_bottomOf_30 : decode cX9_bottomOf 30 = .ok (.ireturn, 1) := by decide +kernel
theorem dX9_said_0 : decode cX9_said 0 = .ok (.aload_n 0, 1) := by decide +kernel
theorem dX9_said_1 : decode cX9_said 1 = .ok (.iload_n 1, 1) := by decide +kernel
theorem dX9_said_2 : decode cX9_said 2 = .ok (.iload_n 2, 1) := by decide +kernel
theorem dX9_said_3 : decode cX9_said 3 = .ok (.invokevirtual 77, 3) := by decide +kernel
theorem dX9_said_6 : decode cX9_said 6 = .ok (.ifCond .eq 12, 3) := by decide +kernel
theorem dX9_said_9 : decode cX9_said 9 = .ok (.aload_n 0, 1) := by decide +kernel
theorem dX9_said_10 : decode cX9_said 10 = .ok (.iload_n 1, 1) := by decide +kernel
theorem dX9_said_11 : decode cX9_said 11 = .ok (.iload_n 2, 1) := by decide +kernel
theorem dX9_said_12 : decode cX9_said 12 = .ok (.invokevirtual 88, 3) := by decide +kernel
theorem dX9_said_15 : decode cX9_said 15 = .ok (.ifCond .ne 5, 3) := by decide +kernel
theorem dX9_said_18 : decode cX9_said 18 = .ok (.iconst (-1), 1) := by decide +kernel
theorem dX9_said_19 : decode cX9_said 19 = .ok (.ireturn, 1) := by decide +kernel
theorem dX9_said_20 : decode cX9_said 20 = .ok (.iload_n 3, 1) := by decide +kernel
theorem dX9_said_21 : decode cX9_said 21 = .ok (.ifCond .ne 12, 3) := by decide +kernel
theorem dX9_said_24 : decode cX9_said 24 = .ok (.aload_n 0, 1) := by decide +kernel
theorem dX9_said_25 : decode cX9_said 25 = .ok (.iload_n 1, 1) := by decide +kernel
theorem dX9_said_26 : decode cX9_said 26 = .ok (.iload_n 2, 1) := by decide +kernel
theorem dX9_said_27 : decode cX9_said 27 = .ok (.invokevirtual 91, 3) := by decide +kernel
theorem dX9_said_30 : decode cX9_said 30 = .ok (.goto 18, 3) := by decide +kernel
theorem dX9_said_33 : decode cX9_said 33 = .ok (.iload_n 3, 1) := by decide +kernel
theorem dX9_said_34 : decode cX9_said 34 = .ok (.iconst 1, 1) := by decide +kernel
theorem dX9_said_35 : decode cX9_said 35 = .ok (.if_icmp .ne 12, 3) := by decide +kernel
theorem dX9_said_38 : decode cX9_said 38 = .ok (.aload_n 0, 1) := by decide +kernel
theorem dX9_said_39 : decode cX9_said 39 = .ok (.iload_n 1, 1) := by decide +kernel
theorem dX9_said_40 : decode cX9_said 40 = .ok (.iload_n 2, 1) := by decide +kernel
theorem dX9_said_41 : decode cX9_said 41 = .ok (.invokevirtual 94, 3) := by decide +kernel
theorem dX9_said_44 : decode cX9_said 44 = .ok (.goto 4, 3) := by decide +kernel
theorem dX9_said_47 : decode cX9_said 47 = .ok (.iconst (-1), 1) := by decide +kernel
theorem dX9_said_48 : decode cX9_said 48 = .ok (.ireturn, 1) := by decide +kernel
theorem dX9_fits_0 : decode cX9_fits 0 = .ok (.iconst 0, 1) := by decide +kernel
theorem dX9_fits_1 : decode cX9_fits 1 = .ok (.istore_n 2, 1) := by decide +kernel
theorem dX9_fits_2 : decode cX9_fits 2 = .ok (.iload_n 2, 1) := by decide +kernel
theorem dX9_fits_3 : decode cX9_fits 3 = .ok (.aload_n 0, 1) := by decide +kernel
theorem dX9_fits_4 : decode cX9_fits 4 = .ok (.getfield 66, 3) := by decide +kernel
theorem dX9_fits_7 : decode cX9_fits 7 = .ok (.if_icmp .ge 16, 3) := by decide +kernel
theorem dX9_fits_10 : decode cX9_fits 10 = .ok (.aload_n 0, 1) := by decide +kernel
theorem dX9_fits_11 : decode cX9_fits 11 = .ok (.getfield 41, 3) := by decide +kernel
theorem dX9_fits_14 : decode cX9_fits 14 = .ok (.iload_n 2, 1) := by decide +kernel
theorem dX9_fits_15 : decode cX9_fits 15 = .ok (.iconst 0, 1) := by decide +kernel
theorem dX9_fits_16 : decode cX9_fits 16 = .ok (.bastore, 1) := by decide +kernel
theorem dX9_fits_17 : decode cX9_fits 17 = .ok (.iinc 2 1, 3) := by decide +kernel
theorem dX9_fits_20 : decode cX9_fits 20 = .ok (.goto (-18), 3) := by decide +kernel
theorem dX9_fits_23 : decode cX9_fits 23 = .ok (.aload_n 0, 1) := by decide +kernel
theorem dX9_fits_24 : decode cX9_fits 24 = .ok (.iconst 0, 1) := by decide +kernel
theorem dX9_fits_25 : decode cX9_fits 25 = .ok (.putfield 97, 3) := by decide +kernel
theorem dX9_fits_28 : decode cX9_fits 28 = .ok (.iconst 0, 1) := by decide +kernel
theorem dX9_fits_29 : decode cX9_fits 29 = .ok (.istore_n 2, 1) := by decide +kernel
theorem dX9_fits_30 : decode cX9_fits 30 = .ok (.iload_n 2, 1) := by decide +kernel
theorem dX9_fits_31 : decode cX9_fits 31 = .ok (.aload_n 0, 1) := by decide +kernel
theorem dX9_fits_32 : decode cX9_fits 32 = .ok (.getfield 66, 3) := by decide +kernel
theorem dX9_fits_35 : decode cX9_fits 35 = .ok (.if_icmp .ge 291, 3) := by decide +kernel
theorem dX9_fits_38 : decode cX9_fits 38 = .ok (.aload_n 0, 1) := by decide +kernel
theorem dX9_fits_39 : decode cX9_fits 39 = .ok (.getfield 41, 3) := by decide +kernel
theorem dX9_fits_42 : decode cX9_fits 42 = .ok (.iload_n 2, 1) := by decide +kernel
theorem dX9_fits_43 : decode cX9_fits 43 = .ok (.baload, 1) := by decide +kernel
theorem dX9_fits_44 : decode cX9_fits 44 = .ok (.ifCond .eq 6, 3) := by decide +kernel
theorem dX9_fits_47 : decode cX9_fits 47 = .ok (.goto 273, 3) := by decide +kernel
theorem dX9_fits_50 : decode cX9_fits 50 = .ok (.aload_n 0, 1) := by decide +kernel
theorem dX9_fits_51 : decode cX9_fits 51 = .ok (.dup, 1) := by decide +kernel
theorem dX9_fits_52 : decode cX9_fits 52 = .ok (.getfield 97, 3) := by decide +kernel
theorem dX9_fits_55 : decode cX9_fits 55 = .ok (.iconst 1, 1) := by decide +kernel
theorem dX9_fits_56 : decode cX9_fits 56 = .ok (.iadd, 1) := by decide +kernel
theorem dX9_fits_57 : decode cX9_fits 57 = .ok (.putfield 97, 3) := by decide +kernel
theorem dX9_fits_60 : decode cX9_fits 60 = .ok (.aload_n 0, 1) := by decide +kernel
theorem dX9_fits_61 : decode cX9_fits 61 = .ok (.getfield 41, 3) := by decide +kernel
theorem dX9_fits_64 : decode cX9_fits 64 = .ok (.iload_n 2, 1) := by decide +kernel
theorem dX9_fits_65 : decode cX9_fits 65 = .ok (.iconst 1, 1) := by decide +kernel
theorem dX9_fits_66 : decode cX9_fits 66 = .ok (.bastore, 1) := by decide +kernel
theorem dX9_fits_67 : decode cX9_fits 67 = .ok (.aload_n 0, 1) := by decide +kernel
theorem dX9_fits_68 : decode cX9_fits 68 = .ok (.getfield 34, 3) := by decide +kernel
theorem dX9_fits_71 : decode cX9_fits 71 = .ok (.iload_n 2, 1) := by decide +kernel
theorem dX9_fits_72 : decode cX9_fits 72 = .ok (.lconst 1, 1) := by decide +kernel
theorem dX9_fits_73 : decode cX9_fits 73 = .ok (.lastore, 1) := by decide +kernel
theorem dX9_fits_74 : decode cX9_fits 74 = .ok (.aload_n 0, 1) := by decide +kernel
theorem dX9_fits_75 : decode cX9_fits 75 = .ok (.getfield 38, 3) := by decide +kernel
theorem dX9_fits_78 : decode cX9_fits 78 = .ok (.iload_n 2, 1) := by decide +kernel
theorem dX9_fits_79 : decode cX9_fits 79 = .ok (.lconst 1, 1) := by decide +kernel
theorem dX9_fits_80 : decode cX9_fits 80 = .ok (.lastore, 1) := by decide +kernel
theorem dX9_fits_81 : decode cX9_fits 81 = .ok (.iconst 1, 1) := by decide +kernel
theorem dX9_fits_82 : decode cX9_fits 82 = .ok (.istore_n 3, 1) := by decide +kernel
theorem dX9_fits_83 : decode cX9_fits 83 = .ok (.iload_n 3, 1) := by decide +kernel
theorem dX9_fits_84 : decode cX9_fits 84 = .ok (.ifCond .eq 236, 3) := by decide +kernel
theorem dX9_fits_87 : decode cX9_fits 87 = .ok (.iconst 0, 1) := by decide +kernel
theorem dX9_fits_88 : decode cX9_fits 88 = .ok (.istore_n 3, 1) := by decide +kernel
theorem dX9_fits_89 : decode cX9_fits 89 = .ok (.iconst 0, 1) := by decide +kernel
theorem dX9_fits_90 : decode cX9_fits 90 = .ok (.istore 4, 2) := by decide +kernel
theorem dX9_fits_92 : decode cX9_fits 92 = .ok (.iload 4, 2) := by decide +kernel
theorem dX9_fits_94 : decode cX9_fits 94 = .ok (.aload_n 0, 1) := by decide +kernel
theorem dX9_fits_95 : decode cX9_fits 95 = .ok (.getfield 70, 3) := by decide +kernel
theorem dX9_fits_98 : decode cX9_fits 98 = .ok (.if_icmp .ge 219, 3) := by decide +kernel
theorem dX9_fits_101 : decode cX9_fits 101 = .ok (.iload_n 1, 1) := by decide +kernel
theorem dX9_fits_102 : decode cX9_fits 102 = .ok (.iload 4, 2) := by decide +kernel
theorem dX9_fits_104 : decode cX9_fits 104 = .ok (.ishr, 1) := by decide +kernel
theorem dX9_fits_105 : decode cX9_fits 105 = .ok (.iconst 1, 1) := by decide +kernel
theorem dX9_fits_106 : decode cX9_fits 106 = .ok (.iand, 1) := by decide +kernel
theorem dX9_fits_107 : decode cX9_fits 107 = .ok (.ifCond .eq 204, 3) := by decide +kernel
theorem dX9_fits_110 : decode cX9_fits 110 = .ok (.aload_n 0, 1) := by decide +kernel
theorem dX9_fits_111 : decode cX9_fits 111 = .ok (.getfield 41, 3) := by decide +kernel
theorem dX9_fits_114 : decode cX9_fits 114 = .ok (.aload_n 0, 1) := by decide +kernel
theorem dX9_fits_115 : decode cX9_fits 115 = .ok (.getfield 28, 3) := by decide +kernel
theorem dX9_fits_118 : decode cX9_fits 118 = .ok (.iload 4, 2) := by decide +kernel
theorem dX9_fits_120 : decode cX9_fits 120 = .ok (.iaload, 1) := by decide +kernel
theorem dX9_fits_121 : decode cX9_fits 121 = .ok (.baload, 1) := by decide +kernel
theorem dX9_fits_122 : decode cX9_fits 122 = .ok (.aload_n 0, 1) := by decide +kernel
theorem dX9_fits_123 : decode cX9_fits 123 = .ok (.getfield 41, 3) := by decide +kernel
theorem dX9_fits_126 : decode cX9_fits 126 = .ok (.aload_n 0, 1) := by decide +kernel
theorem dX9_fits_127 : decode cX9_fits 127 = .ok (.getfield 31, 3) := by decide +kernel
theorem dX9_fits_130 : decode cX9_fits 130 = .ok (.iload 4, 2) := by decide +kernel
theorem dX9_fits_132 : decode cX9_fits 132 = .ok (.iaload, 1) := by decide +kernel
theorem dX9_fits_133 : decode cX9_fits 133 = .ok (.baload, 1) := by decide +kernel
theorem dX9_fits_134 : decode cX9_fits 134 = .ok (.if_icmp .ne 6, 3) := by decide +kernel
theorem dX9_fits_137 : decode cX9_fits 137 = .ok (.goto 174, 3) := by decide +kernel
theorem dX9_fits_140 : decode cX9_fits 140 = .ok (.aload_n 0, 1) := by decide +kernel
theorem dX9_fits_141 : decode cX9_fits 141 = .ok (.getfield 41, 3) := by decide +kernel
theorem dX9_fits_144 : decode cX9_fits 144 = .ok (.aload_n 0, 1) := by decide +kernel
theorem dX9_fits_145 : decode cX9_fits 145 = .ok (.getfield 28, 3) := by decide +kernel
theorem dX9_fits_148 : decode cX9_fits 148 = .ok (.iload 4, 2) := by decide +kernel
theorem dX9_fits_150 : decode cX9_fits 150 = .ok (.iaload, 1) := by decide +kernel
theorem dX9_fits_151 : decode cX9_fits 151 = .ok (.baload, 1) := by decide +kernel
theorem dX9_fits_152 : decode cX9_fits 152 = .ok (.istore 5, 2) := by decide +kernel
theorem dX9_fits_154 : decode cX9_fits 154 = .ok (.iload 5, 2) := by decide +kernel
theorem dX9_fits_156 : decode cX9_fits 156 = .ok (.ifCond .eq 13, 3) := by decide +kernel
theorem dX9_fits_159 : decode cX9_fits 159 = .ok (.aload_n 0, 1) := by decide +kernel
theorem dX9_fits_160 : decode cX9_fits 160 = .ok (.getfield 31, 3) := by decide +kernel
theorem dX9_fits_163 : decode cX9_fits 163 = .ok (.iload 4, 2) := by decide +kernel
theorem dX9_fits_165 : decode cX9_fits 165 = .ok (.iaload, 1) := by decide +kernel
theorem dX9_fits_166 : decode cX9_fits 166 = .ok (.goto 10, 3) := by decide +kernel
theorem dX9_fits_169 : decode cX9_fits 169 = .ok (.aload_n 0, 1) := by decide +kernel
theorem dX9_fits_170 : decode cX9_fits 170 = .ok (.getfield 28, 3) := by decide +kernel
theorem dX9_fits_173 : decode cX9_fits 173 = .ok (.iload 4, 2) := by decide +kernel
theorem dX9_fits_175 : decode cX9_fits 175 = .ok (.iaload, 1) := by decide +kernel
theorem dX9_fits_176 : decode cX9_fits 176 = .ok (.istore 6, 2) := by decide +kernel
theorem dX9_fits_178 : decode cX9_fits 178 = .ok (.iload 5, 2) := by decide +kernel
theorem dX9_fits_180 : decode cX9_fits 180 = .ok (.ifCond .eq 13, 3) := by decide +kernel
theorem dX9_fits_183 : decode cX9_fits 183 = .ok (.aload_n 0, 1) := by decide +kernel
theorem dX9_fits_184 : decode cX9_fits 184 = .ok (.getfield 28, 3) := by decide +kernel
theorem dX9_fits_187 : decode cX9_fits 187 = .ok (.iload 4, 2) := by decide +kernel
theorem dX9_fits_189 : decode cX9_fits 189 = .ok (.iaload, 1) := by decide +kernel
theorem dX9_fits_190 : decode cX9_fits 190 = .ok (.goto 10, 3) := by decide +kernel
theorem dX9_fits_193 : decode cX9_fits 193 = .ok (.aload_n 0, 1) := by decide +kernel
theorem dX9_fits_194 : decode cX9_fits 194 = .ok (.getfield 31, 3) := by decide +kernel
theorem dX9_fits_197 : decode cX9_fits 197 = .ok (.iload 4, 2) := by decide +kernel
theorem dX9_fits_199 : decode cX9_fits 199 = .ok (.iaload, 1) := by decide +kernel
theorem dX9_fits_200 : decode cX9_fits 200 = .ok (.istore 7, 2) := by decide +kernel
theorem dX9_fits_202 : decode cX9_fits 202 = .ok (.aload_n 0, 1) := by decide +kernel
theorem dX9_fits_203 : decode cX9_fits 203 = .ok (.getfield 34, 3) := by decide +kernel
theorem dX9_fits_206 : decode cX9_fits 206 = .ok (.iload 7, 2) := by decide +kernel
theorem dX9_fits_208 : decode cX9_fits 208 = .ok (.laload, 1) := by decide +kernel
theorem dX9_fits_209 : decode cX9_fits 209 = .ok (.iload 5, 2) := by decide +kernel
theorem dX9_fits_211 : decode cX9_fits 211 = .ok (.ifCond .eq 13, 3) := by decide +kernel
theorem dX9_fits_214 : decode cX9_fits 214 = .ok (.aload_n 0, 1) := by decide +kernel
theorem dX9_fits_215 : decode cX9_fits 215 = .ok (.getfield 13, 3) := by decide +kernel
theorem dX9_fits_218 : decode cX9_fits 218 = .ok (.iload 4, 2) := by decide +kernel
theorem dX9_fits_220 : decode cX9_fits 220 = .ok (.iaload, 1) := by decide +kernel
theorem dX9_fits_221 : decode cX9_fits 221 = .ok (.goto 10, 3) := by decide +kernel
theorem dX9_fits_224 : decode cX9_fits 224 = .ok (.aload_n 0, 1) := by decide +kernel
theorem dX9_fits_225 : decode cX9_fits 225 = .ok (.getfield 9, 3) := by decide +kernel
theorem dX9_fits_228 : decode cX9_fits 228 = .ok (.iload 4, 2) := by decide +kernel
theorem dX9_fits_230 : decode cX9_fits 230 = .ok (.iaload, 1) := by decide +kernel
theorem dX9_fits_231 : decode cX9_fits 231 = .ok (.i2l, 1) := by decide +kernel
theorem dX9_fits_232 : decode cX9_fits 232 = .ok (.lmul, 1) := by decide +kernel
theorem dX9_fits_233 : decode cX9_fits 233 = .ok (.lstore 8, 2) := by decide +kernel
theorem dX9_fits_235 : decode cX9_fits 235 = .ok (.aload_n 0, 1) := by decide +kernel
theorem dX9_fits_236 : decode cX9_fits 236 = .ok (.getfield 38, 3) := by decide +kernel
theorem dX9_fits_239 : decode cX9_fits 239 = .ok (.iload 7, 2) := by decide +kernel
theorem dX9_fits_241 : decode cX9_fits 241 = .ok (.laload, 1) := by decide +kernel
theorem dX9_fits_242 : decode cX9_fits 242 = .ok (.iload 5, 2) := by decide +kernel
theorem dX9_fits_244 : decode cX9_fits 244 = .ok (.ifCond .eq 13, 3) := by decide +kernel
theorem dX9_fits_247 : decode cX9_fits 247 = .ok (.aload_n 0, 1) := by decide +kernel
theorem dX9_fits_248 : decode cX9_fits 248 = .ok (.getfield 9, 3) := by decide +kernel
theorem dX9_fits_251 : decode cX9_fits 251 = .ok (.iload 4, 2) := by decide +kernel
theorem dX9_fits_253 : decode cX9_fits 253 = .ok (.iaload, 1) := by decide +kernel
theorem dX9_fits_254 : decode cX9_fits 254 = .ok (.goto 10, 3) := by decide +kernel
theorem dX9_fits_257 : decode cX9_fits 257 = .ok (.aload_n 0, 1) := by decide +kernel
theorem dX9_fits_258 : decode cX9_fits 258 = .ok (.getfield 13, 3) := by decide +kernel
theorem dX9_fits_261 : decode cX9_fits 261 = .ok (.iload 4, 2) := by decide +kernel
theorem dX9_fits_263 : decode cX9_fits 263 = .ok (.iaload, 1) := by decide +kernel
theorem dX9_fits_264 : decode cX9_fits 264 = .ok (.i2l, 1) := by decide +kernel
theorem dX9_fits_265 : decode cX9_fits 265 = .ok (.lmul, 1) := by decide +kernel
theorem dX9_fits_266 : decode cX9_fits 266 = .ok (.lstore 10, 2) := by decide +kernel
theorem dX9_fits_268 : decode cX9_fits 268 = .ok (.lload 8, 2) := by decide +kernel
theorem dX9_fits_270 : decode cX9_fits 270 = .ok (.lload 10, 2) := by decide +kernel
theorem dX9_fits_272 : decode cX9_fits 272 = .ok (.invokestatic 81, 3) := by decide +kernel
theorem dX9_fits_275 : decode cX9_fits 275 = .ok (.lstore 12, 2) := by decide +kernel
theorem dX9_fits_277 : decode cX9_fits 277 = .ok (.aload_n 0, 1) := by decide +kernel
theorem dX9_fits_278 : decode cX9_fits 278 = .ok (.getfield 34, 3) := by decide +kernel
theorem dX9_fits_281 : decode cX9_fits 281 = .ok (.iload 6, 2) := by decide +kernel
theorem dX9_fits_283 : decode cX9_fits 283 = .ok (.lload 8, 2) := by decide +kernel
theorem dX9_fits_285 : decode cX9_fits 285 = .ok (.lload 12, 2) := by decide +kernel
theorem dX9_fits_287 : decode cX9_fits 287 = .ok (.ldiv, 1) := by decide +kernel
theorem dX9_fits_288 : decode cX9_fits 288 = .ok (.lastore, 1) := by decide +kernel
theorem dX9_fits_289 : decode cX9_fits 289 = .ok (.aload_n 0, 1) := by decide +kernel
theorem dX9_fits_290 : decode cX9_fits 290 = .ok (.getfield 38, 3) := by decide +kernel
theorem dX9_fits_293 : decode cX9_fits 293 = .ok (.iload 6, 2) := by decide +kernel
theorem dX9_fits_295 : decode cX9_fits 295 = .ok (.lload 10, 2) := by decide +kernel
theorem dX9_fits_297 : decode cX9_fits 297 = .ok (.lload 12, 2) := by decide +kernel
theorem dX9_fits_299 : decode cX9_fits 299 = .ok (.ldiv, 1) := by decide +kernel
theorem dX9_fits_300 : decode cX9_fits 300 = .ok (.lastore, 1) := by decide +kernel
theorem dX9_fits_301 : decode cX9_fits 301 = .ok (.aload_n 0, 1) := by decide +kernel
theorem dX9_fits_302 : decode cX9_fits 302 = .ok (.getfield 41, 3) := by decide +kernel
theorem dX9_fits_305 : decode cX9_fits 305 = .ok (.iload 6, 2) := by decide +kernel
theorem dX9_fits_307 : decode cX9_fits 307 = .ok (.iconst 1, 1) := by decide +kernel
theorem dX9_fits_308 : decode cX9_fits 308 = .ok (.bastore, 1) := by decide +kernel
theorem dX9_fits_309 : decode cX9_fits 309 = .ok (.iconst 1, 1) := by decide +kernel
theorem dX9_fits_310 : decode cX9_fits 310 = .ok (.istore_n 3, 1) := by decide +kernel
theorem dX9_fits_311 : decode cX9_fits 311 = .ok (.iinc 4 1, 3) := by decide +kernel
theorem dX9_fits_314 : decode cX9_fits 314 = .ok (.goto (-222), 3) := by decide +kernel
theorem dX9_fits_317 : decode cX9_fits 317 = .ok (.goto (-234), 3) := by decide +kernel
theorem dX9_fits_320 : decode cX9_fits 320 = .ok (.iinc 2 1, 3) := by decide +kernel
theorem dX9_fits_323 : decode cX9_fits 323 = .ok (.goto (-293), 3) := by decide +kernel
theorem dX9_fits_326 : decode cX9_fits 326 = .ok (.iconst 0, 1) := by decide +kernel
theorem dX9_fits_327 : decode cX9_fits 327 = .ok (.istore_n 2, 1) := by decide +kernel
theorem dX9_fits_328 : decode cX9_fits 328 = .ok (.iload_n 2, 1) := by decide +kernel
theorem dX9_fits_329 : decode cX9_fits 329 = .ok (.aload_n 0, 1) := by decide +kernel
theorem dX9_fits_330 : decode cX9_fits 330 = .ok (.getfield 70, 3) := by decide +kernel
theorem dX9_fits_333 : decode cX9_fits 333 = .ok (.if_icmp .ge 85, 3) := by decide +kernel
theorem dX9_fits_336 : decode cX9_fits 336 = .ok (.iload_n 1, 1) := by decide +kernel
theorem dX9_fits_337 : decode cX9_fits 337 = .ok (.iload_n 2, 1) := by decide +kernel
theorem dX9_fits_338 : decode cX9_fits 338 = .ok (.ishr, 1) := by decide +kernel
theorem dX9_fits_339 : decode cX9_fits 339 = .ok (.iconst 1, 1) := by decide +kernel
theorem dX9_fits_340 : decode cX9_fits 340 = .ok (.iand, 1) := by decide +kernel
theorem dX9_fits_341 : decode cX9_fits 341 = .ok (.ifCond .ne 6, 3) := by decide +kernel
theorem dX9_fits_344 : decode cX9_fits 344 = .ok (.goto 68, 3) := by decide +kernel
theorem dX9_fits_347 : decode cX9_fits 347 = .ok (.aload_n 0, 1) := by decide +kernel
theorem dX9_fits_348 : decode cX9_fits 348 = .ok (.getfield 28, 3) := by decide +kernel
theorem dX9_fits_351 : decode cX9_fits 351 = .ok (.iload_n 2, 1) := by decide +kernel
theorem dX9_fits_352 : decode cX9_fits 352 = .ok (.iaload, 1) := by decide +kernel
theorem dX9_fits_353 : decode cX9_fits 353 = .ok (.istore_n 3, 1) := by decide +kernel
theorem dX9_fits_354 : decode cX9_fits 354 = .ok (.aload_n 0, 1) := by decide +kernel
theorem dX9_fits_355 : decode cX9_fits 355 = .ok (.getfield 31, 3) := by decide +kernel
theorem dX9_fits_358 : decode cX9_fits 358 = .ok (.iload_n 2, 1) := by decide +kernel
theorem dX9_fits_359 : decode cX9_fits 359 = .ok (.iaload, 1) := by decide +kernel
theorem dX9_fits_360 : decode cX9_fits 360 = .ok (.istore 4, 2) := by decide +kernel
theorem dX9_fits_362 : decode cX9_fits 362 = .ok (.aload_n 0, 1) := by decide +kernel
theorem dX9_fits_363 : decode cX9_fits 363 = .ok (.getfield 34, 3) := by decide +kernel
theorem dX9_fits_366 : decode cX9_fits 366 = .ok (.iload_n 3, 1) := by decide +kernel
theorem dX9_fits_367 : decode cX9_fits 367 = .ok (.laload, 1) := by decide +kernel
theorem dX9_fits_368 : decode cX9_fits 368 = .ok (.aload_n 0, 1) := by decide +kernel
theorem dX9_fits_369 : decode cX9_fits 369 = .ok (.getfield 38, 3) := by decide +kernel
theorem dX9_fits_372 : decode cX9_fits 372 = .ok (.iload 4, 2) := by decide +kernel
theorem dX9_fits_374 : decode cX9_fits 374 = .ok (.laload, 1) := by decide +kernel
theorem dX9_fits_375 : decode cX9_fits 375 = .ok (.lmul, 1) := by decide +kernel
theorem dX9_fits_376 : decode cX9_fits 376 = .ok (.aload_n 0, 1) := by decide +kernel
theorem dX9_fits_377 : decode cX9_fits 377 = .ok (.getfield 13, 3) := by decide +kernel
theorem dX9_fits_380 : decode cX9_fits 380 = .ok (.iload_n 2, 1) := by decide +kernel
theorem dX9_fits_381 : decode cX9_fits 381 = .ok (.iaload, 1) := by decide +kernel
theorem dX9_fits_382 : decode cX9_fits 382 = .ok (.i2l, 1) := by decide +kernel
theorem dX9_fits_383 : decode cX9_fits 383 = .ok (.lmul, 1) := by decide +kernel
theorem dX9_fits_384 : decode cX9_fits 384 = .ok (.aload_n 0, 1) := by decide +kernel
theorem dX9_fits_385 : decode cX9_fits 385 = .ok (.getfield 38, 3) := by decide +kernel
theorem dX9_fits_388 : decode cX9_fits 388 = .ok (.iload_n 3, 1) := by decide +kernel
theorem dX9_fits_389 : decode cX9_fits 389 = .ok (.laload, 1) := by decide +kernel
theorem dX9_fits_390 : decode cX9_fits 390 = .ok (.aload_n 0, 1) := by decide +kernel
theorem dX9_fits_391 : decode cX9_fits 391 = .ok (.getfield 34, 3) := by decide +kernel
theorem dX9_fits_394 : decode cX9_fits 394 = .ok (.iload 4, 2) := by decide +kernel
theorem dX9_fits_396 : decode cX9_fits 396 = .ok (.laload, 1) := by decide +kernel
theorem dX9_fits_397 : decode cX9_fits 397 = .ok (.lmul, 1) := by decide +kernel
theorem dX9_fits_398 : decode cX9_fits 398 = .ok (.aload_n 0, 1) := by decide +kernel
theorem dX9_fits_399 : decode cX9_fits 399 = .ok (.getfield 9, 3) := by decide +kernel
theorem dX9_fits_402 : decode cX9_fits 402 = .ok (.iload_n 2, 1) := by decide +kernel
theorem dX9_fits_403 : decode cX9_fits 403 = .ok (.iaload, 1) := by decide +kernel
theorem dX9_fits_404 : decode cX9_fits 404 = .ok (.i2l, 1) := by decide +kernel
theorem dX9_fits_405 : decode cX9_fits 405 = .ok (.lmul, 1) := by decide +kernel
theorem dX9_fits_406 : decode cX9_fits 406 = .ok (.lcmp, 1) := by decide +kernel
theorem dX9_fits_407 : decode cX9_fits 407 = .ok (.ifCond .eq 5, 3) := by decide +kernel
theorem dX9_fits_410 : decode cX9_fits 410 = .ok (.iconst 0, 1) := by decide +kernel
theorem dX9_fits_411 : decode cX9_fits 411 = .ok (.ireturn, 1) := by decide +kernel
theorem dX9_fits_412 : decode cX9_fits 412 = .ok (.iinc 2 1, 3) := by decide +kernel
theorem dX9_fits_415 : decode cX9_fits 415 = .ok (.goto (-87), 3) := by decide +kernel
theorem dX9_fits_418 : decode cX9_fits 418 = .ok (.iconst 1, 1) := by decide +kernel
theorem dX9_fits_419 : decode cX9_fits 419 = .ok (.ireturn, 1) := by decide +kernel
theorem dX9_all_0 : decode cX9_all 0 = .ok (.iconst 0, 1) := by decide +kernel
theorem dX9_all_1 : decode cX9_all 1 = .ok (.istore_n 1, 1) := by decide +kernel
theorem dX9_all_2 : decode cX9_all 2 = .ok (.iconst 0, 1) := by decide +kernel
theorem dX9_all_3 : decode cX9_all 3 = .ok (.istore_n 2, 1) := by decide +kernel
theorem dX9_all_4 : decode cX9_all 4 = .ok (.iload_n 2, 1) := by decide +kernel
theorem dX9_all_5 : decode cX9_all 5 = .ok (.aload_n 0, 1) := by decide +kernel
theorem dX9_all_6 : decode cX9_all 6 = .ok (.getfield 70, 3) := by decide +kernel
