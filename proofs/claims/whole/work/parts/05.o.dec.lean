-- decode rows: X9f
theorem dX9_lowOver_10 : decode cX9_lowOver 10 = .ok (.iload_n 1, 1) := by decide +kernel
theorem dX9_lowOver_11 : decode cX9_lowOver 11 = .ok (.iload_n 2, 1) := by decide +kernel
theorem dX9_lowOver_12 : decode cX9_lowOver 12 = .ok (.invokevirtual 85, 3) := by decide +kernel
theorem dX9_lowOver_15 : decode cX9_lowOver 15 = .ok (.iaload, 1) := by decide +kernel
theorem dX9_lowOver_16 : decode cX9_lowOver 16 = .ok (.goto 14, 3) := by decide +kernel
theorem dX9_lowOver_19 : decode cX9_lowOver 19 = .ok (.aload_n 0, 1) := by decide +kernel
theorem dX9_lowOver_20 : decode cX9_lowOver 20 = .ok (.getfield 25, 3) := by decide +kernel
theorem dX9_lowOver_23 : decode cX9_lowOver 23 = .ok (.aload_n 0, 1) := by decide +kernel
theorem dX9_lowOver_24 : decode cX9_lowOver 24 = .ok (.iload_n 1, 1) := by decide +kernel
theorem dX9_lowOver_25 : decode cX9_lowOver 25 = .ok (.iload_n 2, 1) := by decide +kernel
theorem dX9_lowOver_26 : decode cX9_lowOver 26 = .ok (.invokevirtual 85, 3) := by decide +kernel
theorem dX9_lowOver_29 : decode cX9_lowOver 29 = .ok (.iaload, 1) := by decide +kernel
theorem dX9_lowOver_30 : decode cX9_lowOver 30 = .ok (.ireturn, 1) := by decide +kernel
theorem dX9_lowUnder_0 : decode cX9_lowUnder 0 = .ok (.iload_n 1, 1) := by decide +kernel
theorem dX9_lowUnder_1 : decode cX9_lowUnder 1 = .ok (.iload_n 2, 1) := by decide +kernel
theorem dX9_lowUnder_2 : decode cX9_lowUnder 2 = .ok (.if_icmp .ge 17, 3) := by decide +kernel
theorem dX9_lowUnder_5 : decode cX9_lowUnder 5 = .ok (.aload_n 0, 1) := by decide +kernel
theorem dX9_lowUnder_6 : decode cX9_lowUnder 6 = .ok (.getfield 19, 3) := by decide +kernel
theorem dX9_lowUnder_9 : decode cX9_lowUnder 9 = .ok (.aload_n 0, 1) := by decide +kernel
theorem dX9_lowUnder_10 : decode cX9_lowUnder 10 = .ok (.iload_n 1, 1) := by decide +kernel
theorem dX9_lowUnder_11 : decode cX9_lowUnder 11 = .ok (.iload_n 2, 1) := by decide +kernel
theorem dX9_lowUnder_12 : decode cX9_lowUnder 12 = .ok (.invokevirtual 85, 3) := by decide +kernel
theorem dX9_lowUnder_15 : decode cX9_lowUnder 15 = .ok (.iaload, 1) := by decide +kernel
theorem dX9_lowUnder_16 : decode cX9_lowUnder 16 = .ok (.goto 14, 3) := by decide +kernel
theorem dX9_lowUnder_19 : decode cX9_lowUnder 19 = .ok (.aload_n 0, 1) := by decide +kernel
theorem dX9_lowUnder_20 : decode cX9_lowUnder 20 = .ok (.getfield 22, 3) := by decide +kernel
theorem dX9_lowUnder_23 : decode cX9_lowUnder 23 = .ok (.aload_n 0, 1) := by decide +kernel
theorem dX9_lowUnder_24 : decode cX9_lowUnder 24 = .ok (.iload_n 1, 1) := by decide +kernel
theorem dX9_lowUnder_25 : decode cX9_lowUnder 25 = .ok (.iload_n 2, 1) := by decide +kernel
theorem dX9_lowUnder_26 : decode cX9_lowUnder 26 = .ok (.invokevirtual 85, 3) := by decide +kernel
theorem dX9_lowUnder_29 : decode cX9_lowUnder 29 = .ok (.iaload, 1) := by decide +kernel
theorem dX9_lowUnder_30 : decode cX9_lowUnder 30 = .ok (.ireturn, 1) := by decide +kernel
theorem dX9_ways_0 : decode cX9_ways 0 = .ok (.aload_n 0, 1) := by decide +kernel
theorem dX9_ways_1 : decode cX9_ways 1 = .ok (.getfield 54, 3) := by decide +kernel
theorem dX9_ways_4 : decode cX9_ways 4 = .ok (.iload_n 1, 1) := by decide +kernel
theorem dX9_ways_5 : decode cX9_ways 5 = .ok (.iconst 1, 1) := by decide +kernel
theorem dX9_ways_6 : decode cX9_ways 6 = .ok (.isub, 1) := by decide +kernel
theorem dX9_ways_7 : decode cX9_ways 7 = .ok (.iaload, 1) := by decide +kernel
theorem dX9_ways_8 : decode cX9_ways 8 = .ok (.istore 7, 2) := by decide +kernel
theorem dX9_ways_10 : decode cX9_ways 10 = .ok (.iload 7, 2) := by decide +kernel
theorem dX9_ways_12 : decode cX9_ways 12 = .ok (.iload_n 2, 1) := by decide +kernel
theorem dX9_ways_13 : decode cX9_ways 13 = .ok (.if_icmp .ne 63, 3) := by decide +kernel
theorem dX9_ways_16 : decode cX9_ways 16 = .ok (.iload_n 1, 1) := by decide +kernel
theorem dX9_ways_17 : decode cX9_ways 17 = .ok (.iconst 1, 1) := by decide +kernel
theorem dX9_ways_18 : decode cX9_ways 18 = .ok (.if_icmp .le 58, 3) := by decide +kernel
theorem dX9_ways_21 : decode cX9_ways 21 = .ok (.aload_n 0, 1) := by decide +kernel
theorem dX9_ways_22 : decode cX9_ways 22 = .ok (.getfield 164, 3) := by decide +kernel
theorem dX9_ways_25 : decode cX9_ways 25 = .ok (.ifCond .eq 20, 3) := by decide +kernel
theorem dX9_ways_28 : decode cX9_ways 28 = .ok (.lload_n 3, 1) := by decide +kernel
theorem dX9_ways_29 : decode cX9_ways 29 = .ok (.aload_n 0, 1) := by decide +kernel
theorem dX9_ways_30 : decode cX9_ways 30 = .ok (.getfield 168, 3) := by decide +kernel
theorem dX9_ways_33 : decode cX9_ways 33 = .ok (.lmul, 1) := by decide +kernel
theorem dX9_ways_34 : decode cX9_ways 34 = .ok (.aload_n 0, 1) := by decide +kernel
theorem dX9_ways_35 : decode cX9_ways 35 = .ok (.getfield 171, 3) := by decide +kernel
theorem dX9_ways_38 : decode cX9_ways 38 = .ok (.lload 5, 2) := by decide +kernel
theorem dX9_ways_40 : decode cX9_ways 40 = .ok (.lmul, 1) := by decide +kernel
theorem dX9_ways_41 : decode cX9_ways 41 = .ok (.lcmp, 1) := by decide +kernel
theorem dX9_ways_42 : decode cX9_ways 42 = .ok (.ifCond .le 28, 3) := by decide +kernel
theorem dX9_ways_45 : decode cX9_ways 45 = .ok (.lload_n 3, 1) := by decide +kernel
theorem dX9_ways_46 : decode cX9_ways 46 = .ok (.lload 5, 2) := by decide +kernel
theorem dX9_ways_48 : decode cX9_ways 48 = .ok (.invokestatic 81, 3) := by decide +kernel
theorem dX9_ways_51 : decode cX9_ways 51 = .ok (.lstore 8, 2) := by decide +kernel
theorem dX9_ways_53 : decode cX9_ways 53 = .ok (.aload_n 0, 1) := by decide +kernel
theorem dX9_ways_54 : decode cX9_ways 54 = .ok (.lload_n 3, 1) := by decide +kernel
theorem dX9_ways_55 : decode cX9_ways 55 = .ok (.lload 8, 2) := by decide +kernel
theorem dX9_ways_57 : decode cX9_ways 57 = .ok (.ldiv, 1) := by decide +kernel
theorem dX9_ways_58 : decode cX9_ways 58 = .ok (.putfield 171, 3) := by decide +kernel
theorem dX9_ways_61 : decode cX9_ways 61 = .ok (.aload_n 0, 1) := by decide +kernel
theorem dX9_ways_62 : decode cX9_ways 62 = .ok (.lload 5, 2) := by decide +kernel
theorem dX9_ways_64 : decode cX9_ways 64 = .ok (.lload 8, 2) := by decide +kernel
theorem dX9_ways_66 : decode cX9_ways 66 = .ok (.ldiv, 1) := by decide +kernel
theorem dX9_ways_67 : decode cX9_ways 67 = .ok (.putfield 168, 3) := by decide +kernel
theorem dX9_ways_70 : decode cX9_ways 70 = .ok (.aload_n 0, 1) := by decide +kernel
theorem dX9_ways_71 : decode cX9_ways 71 = .ok (.iconst 1, 1) := by decide +kernel
theorem dX9_ways_72 : decode cX9_ways 72 = .ok (.putfield 164, 3) := by decide +kernel
theorem dX9_ways_75 : decode cX9_ways 75 = .ok (.return_, 1) := by decide +kernel
theorem dX9_ways_76 : decode cX9_ways 76 = .ok (.iload_n 1, 1) := by decide +kernel
theorem dX9_ways_77 : decode cX9_ways 77 = .ok (.iconst 1, 1) := by decide +kernel
theorem dX9_ways_78 : decode cX9_ways 78 = .ok (.if_icmp .le 58, 3) := by decide +kernel
theorem dX9_ways_81 : decode cX9_ways 81 = .ok (.aload_n 0, 1) := by decide +kernel
theorem dX9_ways_82 : decode cX9_ways 82 = .ok (.iload 7, 2) := by decide +kernel
theorem dX9_ways_84 : decode cX9_ways 84 = .ok (.aload_n 0, 1) := by decide +kernel
theorem dX9_ways_85 : decode cX9_ways 85 = .ok (.getfield 54, 3) := by decide +kernel
theorem dX9_ways_88 : decode cX9_ways 88 = .ok (.iconst 0, 1) := by decide +kernel
theorem dX9_ways_89 : decode cX9_ways 89 = .ok (.iaload, 1) := by decide +kernel
theorem dX9_ways_90 : decode cX9_ways 90 = .ok (.invokevirtual 174, 3) := by decide +kernel
theorem dX9_ways_93 : decode cX9_ways 93 = .ok (.ifCond .eq 43, 3) := by decide +kernel
theorem dX9_ways_96 : decode cX9_ways 96 = .ok (.lload_n 3, 1) := by decide +kernel
theorem dX9_ways_97 : decode cX9_ways 97 = .ok (.aload_n 0, 1) := by decide +kernel
theorem dX9_ways_98 : decode cX9_ways 98 = .ok (.iload 7, 2) := by decide +kernel
theorem dX9_ways_100 : decode cX9_ways 100 = .ok (.aload_n 0, 1) := by decide +kernel
theorem dX9_ways_101 : decode cX9_ways 101 = .ok (.getfield 54, 3) := by decide +kernel
theorem dX9_ways_104 : decode cX9_ways 104 = .ok (.iconst 0, 1) := by decide +kernel
theorem dX9_ways_105 : decode cX9_ways 105 = .ok (.iaload, 1) := by decide +kernel
theorem dX9_ways_106 : decode cX9_ways 106 = .ok (.invokevirtual 177, 3) := by decide +kernel
theorem dX9_ways_109 : decode cX9_ways 109 = .ok (.i2l, 1) := by decide +kernel
theorem dX9_ways_110 : decode cX9_ways 110 = .ok (.lmul, 1) := by decide +kernel
theorem dX9_ways_111 : decode cX9_ways 111 = .ok (.lload 5, 2) := by decide +kernel
theorem dX9_ways_113 : decode cX9_ways 113 = .ok (.aload_n 0, 1) := by decide +kernel
theorem dX9_ways_114 : decode cX9_ways 114 = .ok (.iload 7, 2) := by decide +kernel
theorem dX9_ways_116 : decode cX9_ways 116 = .ok (.aload_n 0, 1) := by decide +kernel
theorem dX9_ways_117 : decode cX9_ways 117 = .ok (.getfield 54, 3) := by decide +kernel
theorem dX9_ways_120 : decode cX9_ways 120 = .ok (.iconst 0, 1) := by decide +kernel
theorem dX9_ways_121 : decode cX9_ways 121 = .ok (.iaload, 1) := by decide +kernel
theorem dX9_ways_122 : decode cX9_ways 122 = .ok (.invokevirtual 180, 3) := by decide +kernel
theorem dX9_ways_125 : decode cX9_ways 125 = .ok (.i2l, 1) := by decide +kernel
theorem dX9_ways_126 : decode cX9_ways 126 = .ok (.lmul, 1) := by decide +kernel
theorem dX9_ways_127 : decode cX9_ways 127 = .ok (.lcmp, 1) := by decide +kernel
theorem dX9_ways_128 : decode cX9_ways 128 = .ok (.ifCond .le 8, 3) := by decide +kernel
theorem dX9_ways_131 : decode cX9_ways 131 = .ok (.aload_n 0, 1) := by decide +kernel
theorem dX9_ways_132 : decode cX9_ways 132 = .ok (.iconst 0, 1) := by decide +kernel
theorem dX9_ways_133 : decode cX9_ways 133 = .ok (.putfield 183, 3) := by decide +kernel
theorem dX9_ways_136 : decode cX9_ways 136 = .ok (.iconst 0, 1) := by decide +kernel
theorem dX9_ways_137 : decode cX9_ways 137 = .ok (.istore 8, 2) := by decide +kernel
theorem dX9_ways_139 : decode cX9_ways 139 = .ok (.iload 8, 2) := by decide +kernel
theorem dX9_ways_141 : decode cX9_ways 141 = .ok (.aload_n 0, 1) := by decide +kernel
theorem dX9_ways_142 : decode cX9_ways 142 = .ok (.getfield 66, 3) := by decide +kernel
theorem dX9_ways_145 : decode cX9_ways 145 = .ok (.if_icmp .ge 120, 3) := by decide +kernel
theorem dX9_ways_148 : decode cX9_ways 148 = .ok (.iload 8, 2) := by decide +kernel
theorem dX9_ways_150 : decode cX9_ways 150 = .ok (.iload 7, 2) := by decide +kernel
theorem dX9_ways_152 : decode cX9_ways 152 = .ok (.if_icmp .eq 18, 3) := by decide +kernel
theorem dX9_ways_155 : decode cX9_ways 155 = .ok (.aload_n 0, 1) := by decide +kernel
theorem dX9_ways_156 : decode cX9_ways 156 = .ok (.iload 7, 2) := by decide +kernel
theorem dX9_ways_158 : decode cX9_ways 158 = .ok (.iload 8, 2) := by decide +kernel
theorem dX9_ways_160 : decode cX9_ways 160 = .ok (.invokevirtual 174, 3) := by decide +kernel
theorem dX9_ways_163 : decode cX9_ways 163 = .ok (.ifCond .eq 7, 3) := by decide +kernel
theorem dX9_ways_166 : decode cX9_ways 166 = .ok (.iconst 1, 1) := by decide +kernel
theorem dX9_ways_167 : decode cX9_ways 167 = .ok (.goto 4, 3) := by decide +kernel
theorem dX9_ways_170 : decode cX9_ways 170 = .ok (.iconst 0, 1) := by decide +kernel
theorem dX9_ways_171 : decode cX9_ways 171 = .ok (.istore 9, 2) := by decide +kernel
theorem dX9_ways_173 : decode cX9_ways 173 = .ok (.iconst 0, 1) := by decide +kernel
theorem dX9_ways_174 : decode cX9_ways 174 = .ok (.istore 10, 2) := by decide +kernel
theorem dX9_ways_176 : decode cX9_ways 176 = .ok (.iload 10, 2) := by decide +kernel
theorem dX9_ways_178 : decode cX9_ways 178 = .ok (.iload_n 1, 1) := by decide +kernel
theorem dX9_ways_179 : decode cX9_ways 179 = .ok (.if_icmp .ge 33, 3) := by decide +kernel
theorem dX9_ways_182 : decode cX9_ways 182 = .ok (.iload 9, 2) := by decide +kernel
theorem dX9_ways_184 : decode cX9_ways 184 = .ok (.ifCond .eq 28, 3) := by decide +kernel
theorem dX9_ways_187 : decode cX9_ways 187 = .ok (.aload_n 0, 1) := by decide +kernel
theorem dX9_ways_188 : decode cX9_ways 188 = .ok (.getfield 54, 3) := by decide +kernel
theorem dX9_ways_191 : decode cX9_ways 191 = .ok (.iload 10, 2) := by decide +kernel
theorem dX9_ways_193 : decode cX9_ways 193 = .ok (.iaload, 1) := by decide +kernel
theorem dX9_ways_194 : decode cX9_ways 194 = .ok (.iload 8, 2) := by decide +kernel
theorem dX9_ways_196 : decode cX9_ways 196 = .ok (.if_icmp .eq 7, 3) := by decide +kernel
theorem dX9_ways_199 : decode cX9_ways 199 = .ok (.iconst 1, 1) := by decide +kernel
theorem dX9_ways_200 : decode cX9_ways 200 = .ok (.goto 4, 3) := by decide +kernel
theorem dX9_ways_203 : decode cX9_ways 203 = .ok (.iconst 0, 1) := by decide +kernel
theorem dX9_ways_204 : decode cX9_ways 204 = .ok (.istore 9, 2) := by decide +kernel
theorem dX9_ways_206 : decode cX9_ways 206 = .ok (.iinc 10 1, 3) := by decide +kernel
theorem dX9_ways_209 : decode cX9_ways 209 = .ok (.goto (-33), 3) := by decide +kernel
theorem dX9_ways_212 : decode cX9_ways 212 = .ok (.iload 9, 2) := by decide +kernel
theorem dX9_ways_214 : decode cX9_ways 214 = .ok (.ifCond .ne 6, 3) := by decide +kernel
theorem dX9_ways_217 : decode cX9_ways 217 = .ok (.goto 42, 3) := by decide +kernel
theorem dX9_ways_220 : decode cX9_ways 220 = .ok (.aload_n 0, 1) := by decide +kernel
theorem dX9_ways_221 : decode cX9_ways 221 = .ok (.getfield 54, 3) := by decide +kernel
theorem dX9_ways_224 : decode cX9_ways 224 = .ok (.iload_n 1, 1) := by decide +kernel
theorem dX9_ways_225 : decode cX9_ways 225 = .ok (.iload 8, 2) := by decide +kernel
theorem dX9_ways_227 : decode cX9_ways 227 = .ok (.iastore, 1) := by decide +kernel
theorem dX9_ways_228 : decode cX9_ways 228 = .ok (.aload_n 0, 1) := by decide +kernel
theorem dX9_ways_229 : decode cX9_ways 229 = .ok (.iload_n 1, 1) := by decide +kernel
theorem dX9_ways_230 : decode cX9_ways 230 = .ok (.iconst 1, 1) := by decide +kernel
theorem dX9_ways_231 : decode cX9_ways 231 = .ok (.iadd, 1) := by decide +kernel
theorem dX9_ways_232 : decode cX9_ways 232 = .ok (.iload_n 2, 1) := by decide +kernel
theorem dX9_ways_233 : decode cX9_ways 233 = .ok (.lload_n 3, 1) := by decide +kernel
theorem dX9_ways_234 : decode cX9_ways 234 = .ok (.aload_n 0, 1) := by decide +kernel
theorem dX9_ways_235 : decode cX9_ways 235 = .ok (.iload 7, 2) := by decide +kernel
theorem dX9_ways_237 : decode cX9_ways 237 = .ok (.iload 8, 2) := by decide +kernel
theorem dX9_ways_239 : decode cX9_ways 239 = .ok (.invokevirtual 177, 3) := by decide +kernel
theorem dX9_ways_242 : decode cX9_ways 242 = .ok (.i2l, 1) := by decide +kernel
theorem dX9_ways_243 : decode cX9_ways 243 = .ok (.lmul, 1) := by decide +kernel
theorem dX9_ways_244 : decode cX9_ways 244 = .ok (.lload 5, 2) := by decide +kernel
theorem dX9_ways_246 : decode cX9_ways 246 = .ok (.aload_n 0, 1) := by decide +kernel
theorem dX9_ways_247 : decode cX9_ways 247 = .ok (.iload 7, 2) := by decide +kernel
theorem dX9_ways_249 : decode cX9_ways 249 = .ok (.iload 8, 2) := by decide +kernel
theorem dX9_ways_251 : decode cX9_ways 251 = .ok (.invokevirtual 180, 3) := by decide +kernel
theorem dX9_ways_254 : decode cX9_ways 254 = .ok (.i2l, 1) := by decide +kernel
theorem dX9_ways_255 : decode cX9_ways 255 = .ok (.lmul, 1) := by decide +kernel
theorem dX9_ways_256 : decode cX9_ways 256 = .ok (.invokevirtual 186, 3) := by decide +kernel
theorem dX9_ways_259 : decode cX9_ways 259 = .ok (.iinc 8 1, 3) := by decide +kernel
theorem dX9_ways_262 : decode cX9_ways 262 = .ok (.goto (-123), 3) := by decide +kernel
theorem dX9_ways_265 : decode cX9_ways 265 = .ok (.return_, 1) := by decide +kernel
theorem dX9_goes_0 : decode cX9_goes 0 = .ok (.aload_n 0, 1) := by decide +kernel
theorem dX9_goes_1 : decode cX9_goes 1 = .ok (.iconst 0, 1) := by decide +kernel
theorem dX9_goes_2 : decode cX9_goes 2 = .ok (.putfield 164, 3) := by decide +kernel
theorem dX9_goes_5 : decode cX9_goes 5 = .ok (.aload_n 0, 1) := by decide +kernel
theorem dX9_goes_6 : decode cX9_goes 6 = .ok (.lconst 1, 1) := by decide +kernel
theorem dX9_goes_7 : decode cX9_goes 7 = .ok (.putfield 171, 3) := by decide +kernel
theorem dX9_goes_10 : decode cX9_goes 10 = .ok (.aload_n 0, 1) := by decide +kernel
theorem dX9_goes_11 : decode cX9_goes 11 = .ok (.lconst 1, 1) := by decide +kernel
theorem dX9_goes_12 : decode cX9_goes 12 = .ok (.putfield 168, 3) := by decide +kernel
theorem dX9_goes_15 : decode cX9_goes 15 = .ok (.aload_n 0, 1) := by decide +kernel
theorem dX9_goes_16 : decode cX9_goes 16 = .ok (.getfield 54, 3) := by decide +kernel
theorem dX9_goes_19 : decode cX9_goes 19 = .ok (.iconst 0, 1) := by decide +kernel
theorem dX9_goes_20 : decode cX9_goes 20 = .ok (.iload_n 1, 1) := by decide +kernel
theorem dX9_goes_21 : decode cX9_goes 21 = .ok (.iastore, 1) := by decide +kernel
theorem dX9_goes_22 : decode cX9_goes 22 = .ok (.aload_n 0, 1) := by decide +kernel
theorem dX9_goes_23 : decode cX9_goes 23 = .ok (.iconst 1, 1) := by decide +kernel
theorem dX9_goes_24 : decode cX9_goes 24 = .ok (.iload_n 2, 1) := by decide +kernel
theorem dX9_goes_25 : decode cX9_goes 25 = .ok (.lconst 1, 1) := by decide +kernel
theorem dX9_goes_26 : decode cX9_goes 26 = .ok (.lconst 1, 1) := by decide +kernel
theorem dX9_goes_27 : decode cX9_goes 27 = .ok (.invokevirtual 186, 3) := by decide +kernel
theorem dX9_goes_30 : decode cX9_goes 30 = .ok (.return_, 1) := by decide +kernel
theorem dX9_can_0 : decode cX9_can 0 = .ok (.aload_n 0, 1) := by decide +kernel
theorem dX9_can_1 : decode cX9_can 1 = .ok (.iconst 1, 1) := by decide +kernel
theorem dX9_can_2 : decode cX9_can 2 = .ok (.putfield 183, 3) := by decide +kernel
theorem dX9_can_5 : decode cX9_can 5 = .ok (.iconst 0, 1) := by decide +kernel
theorem dX9_can_6 : decode cX9_can 6 = .ok (.istore_n 1, 1) := by decide +kernel
theorem dX9_can_7 : decode cX9_can 7 = .ok (.iload_n 1, 1) := by decide +kernel
theorem dX9_can_8 : decode cX9_can 8 = .ok (.aload_n 0, 1) := by decide +kernel
theorem dX9_can_9 : decode cX9_can 9 = .ok (.getfield 66, 3) := by decide +kernel
theorem dX9_can_12 : decode cX9_can 12 = .ok (.if_icmp .ge 15, 3) := by decide +kernel
theorem dX9_can_15 : decode cX9_can 15 = .ok (.aload_n 0, 1) := by decide +kernel
theorem dX9_can_16 : decode cX9_can 16 = .ok (.iload_n 1, 1) := by decide +kernel
theorem dX9_can_17 : decode cX9_can 17 = .ok (.iconst (-1), 1) := by decide +kernel
theorem dX9_can_18 : decode cX9_can 18 = .ok (.invokevirtual 190, 3) := by decide +kernel
theorem dX9_can_21 : decode cX9_can 21 = .ok (.iinc 1 1, 3) := by decide +kernel
theorem dX9_can_24 : decode cX9_can 24 = .ok (.goto (-17), 3) := by decide +kernel
theorem dX9_can_27 : decode cX9_can 27 = .ok (.aload_n 0, 1) := by decide +kernel
theorem dX9_can_28 : decode cX9_can 28 = .ok (.getfield 183, 3) := by decide +kernel
theorem dX9_can_31 : decode cX9_can 31 = .ok (.ireturn, 1) := by decide +kernel
theorem dX9_bound_0 : decode cX9_bound 0 = .ok (.aload_n 0, 1) := by decide +kernel
theorem dX9_bound_1 : decode cX9_bound 1 = .ok (.iload_n 1, 1) := by decide +kernel
theorem dX9_bound_2 : decode cX9_bound 2 = .ok (.iload_n 2, 1) := by decide +kernel
theorem dX9_bound_3 : decode cX9_bound 3 = .ok (.invokevirtual 77, 3) := by decide +kernel
theorem dX9_bound_6 : decode cX9_bound 6 = .ok (.ifCond .eq 19, 3) := by decide +kernel
theorem dX9_bound_9 : decode cX9_bound 9 = .ok (.iload_n 3, 1) := by decide +kernel
theorem dX9_bound_10 : decode cX9_bound 10 = .ok (.iconst 0, 1) := by decide +kernel
theorem dX9_bound_11 : decode cX9_bound 11 = .ok (.iconst 1, 1) := by decide +kernel
theorem dX9_bound_12 : decode cX9_bound 12 = .ok (.invokestatic 73, 3) := by decide +kernel
theorem dX9_bound_15 : decode cX9_bound 15 = .ok (.ifCond .eq 10, 3) := by decide +kernel
theorem dX9_bound_18 : decode cX9_bound 18 = .ok (.aload_n 0, 1) := by decide +kernel
theorem dX9_bound_19 : decode cX9_bound 19 = .ok (.invokevirtual 194, 3) := by decide +kernel
theorem dX9_bound_22 : decode cX9_bound 22 = .ok (.ifCond .ne 5, 3) := by decide +kernel
theorem dX9_bound_25 : decode cX9_bound 25 = .ok (.iconst (-1), 1) := by decide +kernel
theorem dX9_bound_26 : decode cX9_bound 26 = .ok (.ireturn, 1) := by decide +kernel
theorem dX9_bound_27 : decode cX9_bound 27 = .ok (.aload_n 0, 1) := by decide +kernel
theorem dX9_bound_28 : decode cX9_bound 28 = .ok (.iload_n 1, 1) := by decide +kernel
theorem dX9_bound_29 : decode cX9_bound 29 = .ok (.iload_n 2, 1) := by decide +kernel
theorem dX9_bound_30 : decode cX9_bound 30 = .ok (.invokevirtual 190, 3) := by decide +kernel
theorem dX9_bound_33 : decode cX9_bound 33 = .ok (.aload_n 0, 1) := by decide +kernel
theorem dX9_bound_34 : decode cX9_bound 34 = .ok (.getfield 164, 3) := by decide +kernel
theorem dX9_bound_37 : decode cX9_bound 37 = .ok (.ifCond .ne 5, 3) := by decide +kernel
theorem dX9_bound_40 : decode cX9_bound 40 = .ok (.iconst (-1), 1) := by decide +kernel
theorem dX9_bound_41 : decode cX9_bound 41 = .ok (.ireturn, 1) := by decide +kernel
theorem dX9_bound_42 : decode cX9_bound 42 = .ok (.iload_n 3, 1) := by decide +kernel
theorem dX9_bound_43 : decode cX9_bound 43 = .ok (.ifCond .ne 10, 3) := by decide +kernel
theorem dX9_bound_46 : decode cX9_bound 46 = .ok (.aload_n 0, 1) := by decide +kernel
theorem dX9_bound_47 : decode cX9_bound 47 = .ok (.getfield 171, 3) := by decide +kernel
theorem dX9_bound_50 : decode cX9_bound 50 = .ok (.goto 7, 3) := by decide +kernel
theorem dX9_bound_53 : decode cX9_bound 53 = .ok (.aload_n 0, 1) := by decide +kernel
theorem dX9_bound_54 : decode cX9_bound 54 = .ok (.getfield 168, 3) := by decide +kernel
theorem dX9_bound_57 : decode cX9_bound 57 = .ok (.l2i, 1) := by decide +kernel
theorem dX9_bound_58 : decode cX9_bound 58 = .ok (.ireturn, 1) := by decide +kernel
theorem dX9_count_0 : decode cX9_count 0 = .ok (.iload_n 1, 1) := by decide +kernel
theorem dX9_count_1 : decode cX9_count 1 = .ok (.ifCond .ne 8, 3) := by decide +kernel
theorem dX9_count_4 : decode cX9_count 4 = .ok (.aload_n 0, 1) := by decide +kernel
theorem dX9_count_5 : decode cX9_count 5 = .ok (.getfield 66, 3) := by decide +kernel
theorem dX9_count_8 : decode cX9_count 8 = .ok (.ireturn, 1) := by decide +kernel
theorem dX9_count_9 : decode cX9_count 9 = .ok (.iload_n 1, 1) := by decide +kernel
theorem dX9_count_10 : decode cX9_count 10 = .ok (.iconst 1, 1) := by decide +kernel
theorem dX9_count_11 : decode cX9_count 11 = .ok (.if_icmp .ne 11, 3) := by decide +kernel
theorem dX9_count_14 : decode cX9_count 14 = .ok (.aload_n 0, 1) := by decide +kernel
theorem dX9_count_15 : decode cX9_count 15 = .ok (.invokevirtual 100, 3) := by decide +kernel
theorem dX9_count_18 : decode cX9_count 18 = .ok (.invokestatic 108, 3) := by decide +kernel
theorem dX9_count_21 : decode cX9_count 21 = .ok (.ireturn, 1) := by decide +kernel
theorem dX9_count_22 : decode cX9_count 22 = .ok (.iload_n 1, 1) := by decide +kernel
theorem dX9_count_23 : decode cX9_count 23 = .ok (.iconst 2, 1) := by decide +kernel
theorem dX9_count_24 : decode cX9_count 24 = .ok (.if_icmp .eq 5, 3) := by decide +kernel
theorem dX9_count_27 : decode cX9_count 27 = .ok (.iconst (-1), 1) := by decide +kernel
theorem dX9_count_28 : decode cX9_count 28 = .ok (.ireturn, 1) := by decide +kernel
theorem dX9_count_29 : decode cX9_count 29 = .ok (.iconst 0, 1) := by decide +kernel
theorem dX9_count_30 : decode cX9_count 30 = .ok (.istore_n 2, 1) := by decide +kernel
theorem dX9_count_31 : decode cX9_count 31 = .ok (.iconst 0, 1) := by decide +kernel
theorem dX9_count_32 : decode cX9_count 32 = .ok (.istore_n 3, 1) := by decide +kernel
theorem dX9_count_33 : decode cX9_count 33 = .ok (.iload_n 3, 1) := by decide +kernel
theorem dX9_count_34 : decode cX9_count 34 = .ok (.aload_n 0, 1) := by decide +kernel
theorem dX9_count_35 : decode cX9_count 35 = .ok (.getfield 70, 3) := by decide +kernel
theorem dX9_count_38 : decode cX9_count 38 = .ok (.if_icmp .ge 26, 3) := by decide +kernel
theorem dX9_count_41 : decode cX9_count 41 = .ok (.iload_n 2, 1) := by decide +kernel
theorem dX9_count_42 : decode cX9_count 42 = .ok (.aload_n 0, 1) := by decide +kernel
theorem dX9_count_43 : decode cX9_count 43 = .ok (.getfield 16, 3) := by decide +kernel
theorem dX9_count_46 : decode cX9_count 46 = .ok (.iload_n 3, 1) := by decide +kernel
theorem dX9_count_47 : decode cX9_count 47 = .ok (.iaload, 1) := by decide +kernel
theorem dX9_count_48 : decode cX9_count 48 = .ok (.ifCond .le 7, 3) := by decide +kernel
theorem dX9_count_51 : decode cX9_count 51 = .ok (.iconst 1, 1) := by decide +kernel
theorem dX9_count_52 : decode cX9_count 52 = .ok (.goto 4, 3) := by decide +kernel
theorem dX9_count_55 : decode cX9_count 55 = .ok (.iconst 0, 1) := by decide +kernel
theorem dX9_count_56 : decode cX9_count 56 = .ok (.iadd, 1) := by decide +kernel
theorem dX9_count_57 : decode cX9_count 57 = .ok (.istore_n 2, 1) := by decide +kernel
theorem dX9_count_58 : decode cX9_count 58 = .ok (.iinc 3 1, 3) := by decide +kernel
theorem dX9_count_61 : decode cX9_count 61 = .ok (.goto (-28), 3) := by decide +kernel
theorem dX9_count_64 : decode cX9_count 64 = .ok (.iload_n 2, 1) := by decide +kernel
theorem dX9_count_65 : decode cX9_count 65 = .ok (.ireturn, 1) := by decide +kernel
