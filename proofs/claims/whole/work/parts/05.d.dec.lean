-- decode rows: X2b
theorem dX2_settle_138 : decode cX2_settle 138 = .ok (.istore 10, 2) := by decide +kernel
theorem dX2_settle_140 : decode cX2_settle 140 = .ok (.iload 9, 2) := by decide +kernel
theorem dX2_settle_142 : decode cX2_settle 142 = .ok (.ifCond .ne 42, 3) := by decide +kernel
theorem dX2_settle_145 : decode cX2_settle 145 = .ok (.iload_n 3, 1) := by decide +kernel
theorem dX2_settle_146 : decode cX2_settle 146 = .ok (.iconst 1, 1) := by decide +kernel
theorem dX2_settle_147 : decode cX2_settle 147 = .ok (.iadd, 1) := by decide +kernel
theorem dX2_settle_148 : decode cX2_settle 148 = .ok (.aload_n 0, 1) := by decide +kernel
theorem dX2_settle_149 : decode cX2_settle 149 = .ok (.getfield 7, 3) := by decide +kernel
theorem dX2_settle_152 : decode cX2_settle 152 = .ok (.if_icmp .ge 32, 3) := by decide +kernel
theorem dX2_settle_155 : decode cX2_settle 155 = .ok (.aload_n 0, 1) := by decide +kernel
theorem dX2_settle_156 : decode cX2_settle 156 = .ok (.iload_n 3, 1) := by decide +kernel
theorem dX2_settle_157 : decode cX2_settle 157 = .ok (.iload 6, 2) := by decide +kernel
theorem dX2_settle_159 : decode cX2_settle 159 = .ok (.iload 7, 2) := by decide +kernel
theorem dX2_settle_161 : decode cX2_settle 161 = .ok (.iload 8, 2) := by decide +kernel
theorem dX2_settle_163 : decode cX2_settle 163 = .ok (.invokevirtual 55, 3) := by decide +kernel
theorem dX2_settle_166 : decode cX2_settle 166 = .ok (.aload_n 0, 1) := by decide +kernel
theorem dX2_settle_167 : decode cX2_settle 167 = .ok (.aload_n 1, 1) := by decide +kernel
theorem dX2_settle_168 : decode cX2_settle 168 = .ok (.iload_n 2, 1) := by decide +kernel
theorem dX2_settle_169 : decode cX2_settle 169 = .ok (.iconst 1, 1) := by decide +kernel
theorem dX2_settle_170 : decode cX2_settle 170 = .ok (.isub, 1) := by decide +kernel
theorem dX2_settle_171 : decode cX2_settle 171 = .ok (.iload_n 3, 1) := by decide +kernel
theorem dX2_settle_172 : decode cX2_settle 172 = .ok (.iconst 1, 1) := by decide +kernel
theorem dX2_settle_173 : decode cX2_settle 173 = .ok (.iadd, 1) := by decide +kernel
theorem dX2_settle_174 : decode cX2_settle 174 = .ok (.iload 4, 2) := by decide +kernel
theorem dX2_settle_176 : decode cX2_settle 176 = .ok (.iload 5, 2) := by decide +kernel
theorem dX2_settle_178 : decode cX2_settle 178 = .ok (.invokevirtual 37, 3) := by decide +kernel
theorem dX2_settle_181 : decode cX2_settle 181 = .ok (.goto 27, 3) := by decide +kernel
theorem dX2_settle_184 : decode cX2_settle 184 = .ok (.iload 9, 2) := by decide +kernel
theorem dX2_settle_186 : decode cX2_settle 186 = .ok (.ifCond .eq 22, 3) := by decide +kernel
theorem dX2_settle_189 : decode cX2_settle 189 = .ok (.iload 10, 2) := by decide +kernel
theorem dX2_settle_191 : decode cX2_settle 191 = .ok (.ifCond .eq 17, 3) := by decide +kernel
theorem dX2_settle_194 : decode cX2_settle 194 = .ok (.aload_n 0, 1) := by decide +kernel
theorem dX2_settle_195 : decode cX2_settle 195 = .ok (.aload_n 1, 1) := by decide +kernel
theorem dX2_settle_196 : decode cX2_settle 196 = .ok (.iload_n 2, 1) := by decide +kernel
theorem dX2_settle_197 : decode cX2_settle 197 = .ok (.iconst 1, 1) := by decide +kernel
theorem dX2_settle_198 : decode cX2_settle 198 = .ok (.isub, 1) := by decide +kernel
theorem dX2_settle_199 : decode cX2_settle 199 = .ok (.iload_n 3, 1) := by decide +kernel
theorem dX2_settle_200 : decode cX2_settle 200 = .ok (.iload 4, 2) := by decide +kernel
theorem dX2_settle_202 : decode cX2_settle 202 = .ok (.iload 5, 2) := by decide +kernel
theorem dX2_settle_204 : decode cX2_settle 204 = .ok (.invokevirtual 37, 3) := by decide +kernel
theorem dX2_settle_207 : decode cX2_settle 207 = .ok (.return_, 1) := by decide +kernel
theorem dX2_settle_208 : decode cX2_settle 208 = .ok (.aload_n 0, 1) := by decide +kernel
theorem dX2_settle_209 : decode cX2_settle 209 = .ok (.aload_n 1, 1) := by decide +kernel
theorem dX2_settle_210 : decode cX2_settle 210 = .ok (.iload_n 2, 1) := by decide +kernel
theorem dX2_settle_211 : decode cX2_settle 211 = .ok (.iconst 1, 1) := by decide +kernel
theorem dX2_settle_212 : decode cX2_settle 212 = .ok (.isub, 1) := by decide +kernel
theorem dX2_settle_213 : decode cX2_settle 213 = .ok (.iload_n 3, 1) := by decide +kernel
theorem dX2_settle_214 : decode cX2_settle 214 = .ok (.iload 4, 2) := by decide +kernel
theorem dX2_settle_216 : decode cX2_settle 216 = .ok (.iconst 1, 1) := by decide +kernel
theorem dX2_settle_217 : decode cX2_settle 217 = .ok (.iload_n 2, 1) := by decide +kernel
theorem dX2_settle_218 : decode cX2_settle 218 = .ok (.ishl, 1) := by decide +kernel
theorem dX2_settle_219 : decode cX2_settle 219 = .ok (.ior, 1) := by decide +kernel
theorem dX2_settle_220 : decode cX2_settle 220 = .ok (.iload 5, 2) := by decide +kernel
theorem dX2_settle_222 : decode cX2_settle 222 = .ok (.iconst 1, 1) := by decide +kernel
theorem dX2_settle_223 : decode cX2_settle 223 = .ok (.iadd, 1) := by decide +kernel
theorem dX2_settle_224 : decode cX2_settle 224 = .ok (.invokevirtual 37, 3) := by decide +kernel
theorem dX2_settle_227 : decode cX2_settle 227 = .ok (.return_, 1) := by decide +kernel
theorem dX2_join_0 : decode cX2_join 0 = .ok (.aload_n 0, 1) := by decide +kernel
theorem dX2_join_1 : decode cX2_join 1 = .ok (.getfield 25, 3) := by decide +kernel
theorem dX2_join_4 : decode cX2_join 4 = .ok (.iload_n 1, 1) := by decide +kernel
theorem dX2_join_5 : decode cX2_join 5 = .ok (.aaload, 1) := by decide +kernel
theorem dX2_join_6 : decode cX2_join 6 = .ok (.iload_n 2, 1) := by decide +kernel
theorem dX2_join_7 : decode cX2_join 7 = .ok (.iaload, 1) := by decide +kernel
theorem dX2_join_8 : decode cX2_join 8 = .ok (.istore 5, 2) := by decide +kernel
theorem dX2_join_10 : decode cX2_join 10 = .ok (.aload_n 0, 1) := by decide +kernel
theorem dX2_join_11 : decode cX2_join 11 = .ok (.getfield 25, 3) := by decide +kernel
theorem dX2_join_14 : decode cX2_join 14 = .ok (.iload_n 1, 1) := by decide +kernel
theorem dX2_join_15 : decode cX2_join 15 = .ok (.aaload, 1) := by decide +kernel
theorem dX2_join_16 : decode cX2_join 16 = .ok (.iload_n 3, 1) := by decide +kernel
theorem dX2_join_17 : decode cX2_join 17 = .ok (.iaload, 1) := by decide +kernel
theorem dX2_join_18 : decode cX2_join 18 = .ok (.istore 6, 2) := by decide +kernel
theorem dX2_join_20 : decode cX2_join 20 = .ok (.aload_n 0, 1) := by decide +kernel
theorem dX2_join_21 : decode cX2_join 21 = .ok (.getfield 28, 3) := by decide +kernel
theorem dX2_join_24 : decode cX2_join 24 = .ok (.iload_n 1, 1) := by decide +kernel
theorem dX2_join_25 : decode cX2_join 25 = .ok (.aaload, 1) := by decide +kernel
theorem dX2_join_26 : decode cX2_join 26 = .ok (.iload_n 2, 1) := by decide +kernel
theorem dX2_join_27 : decode cX2_join 27 = .ok (.iaload, 1) := by decide +kernel
theorem dX2_join_28 : decode cX2_join 28 = .ok (.iload 4, 2) := by decide +kernel
theorem dX2_join_30 : decode cX2_join 30 = .ok (.isub, 1) := by decide +kernel
theorem dX2_join_31 : decode cX2_join 31 = .ok (.aload_n 0, 1) := by decide +kernel
theorem dX2_join_32 : decode cX2_join 32 = .ok (.getfield 28, 3) := by decide +kernel
theorem dX2_join_35 : decode cX2_join 35 = .ok (.iload_n 1, 1) := by decide +kernel
theorem dX2_join_36 : decode cX2_join 36 = .ok (.aaload, 1) := by decide +kernel
theorem dX2_join_37 : decode cX2_join 37 = .ok (.iload_n 3, 1) := by decide +kernel
theorem dX2_join_38 : decode cX2_join 38 = .ok (.iaload, 1) := by decide +kernel
theorem dX2_join_39 : decode cX2_join 39 = .ok (.isub, 1) := by decide +kernel
theorem dX2_join_40 : decode cX2_join 40 = .ok (.istore 7, 2) := by decide +kernel
theorem dX2_join_42 : decode cX2_join 42 = .ok (.iconst 0, 1) := by decide +kernel
theorem dX2_join_43 : decode cX2_join 43 = .ok (.istore 8, 2) := by decide +kernel
theorem dX2_join_45 : decode cX2_join 45 = .ok (.iload 8, 2) := by decide +kernel
theorem dX2_join_47 : decode cX2_join 47 = .ok (.aload_n 0, 1) := by decide +kernel
theorem dX2_join_48 : decode cX2_join 48 = .ok (.getfield 7, 3) := by decide +kernel
theorem dX2_join_51 : decode cX2_join 51 = .ok (.if_icmp .ge 92, 3) := by decide +kernel
theorem dX2_join_54 : decode cX2_join 54 = .ok (.aload_n 0, 1) := by decide +kernel
theorem dX2_join_55 : decode cX2_join 55 = .ok (.getfield 25, 3) := by decide +kernel
theorem dX2_join_58 : decode cX2_join 58 = .ok (.iload_n 1, 1) := by decide +kernel
theorem dX2_join_59 : decode cX2_join 59 = .ok (.aaload, 1) := by decide +kernel
theorem dX2_join_60 : decode cX2_join 60 = .ok (.iload 8, 2) := by decide +kernel
theorem dX2_join_62 : decode cX2_join 62 = .ok (.iaload, 1) := by decide +kernel
theorem dX2_join_63 : decode cX2_join 63 = .ok (.iload 6, 2) := by decide +kernel
theorem dX2_join_65 : decode cX2_join 65 = .ok (.if_icmp .ne 7, 3) := by decide +kernel
theorem dX2_join_68 : decode cX2_join 68 = .ok (.iconst 1, 1) := by decide +kernel
theorem dX2_join_69 : decode cX2_join 69 = .ok (.goto 4, 3) := by decide +kernel
theorem dX2_join_72 : decode cX2_join 72 = .ok (.iconst 0, 1) := by decide +kernel
theorem dX2_join_73 : decode cX2_join 73 = .ok (.istore 9, 2) := by decide +kernel
theorem dX2_join_75 : decode cX2_join 75 = .ok (.aload_n 0, 1) := by decide +kernel
theorem dX2_join_76 : decode cX2_join 76 = .ok (.getfield 25, 3) := by decide +kernel
theorem dX2_join_79 : decode cX2_join 79 = .ok (.iload_n 1, 1) := by decide +kernel
theorem dX2_join_80 : decode cX2_join 80 = .ok (.iconst 1, 1) := by decide +kernel
theorem dX2_join_81 : decode cX2_join 81 = .ok (.iadd, 1) := by decide +kernel
theorem dX2_join_82 : decode cX2_join 82 = .ok (.aaload, 1) := by decide +kernel
theorem dX2_join_83 : decode cX2_join 83 = .ok (.iload 8, 2) := by decide +kernel
theorem dX2_join_85 : decode cX2_join 85 = .ok (.iload 9, 2) := by decide +kernel
theorem dX2_join_87 : decode cX2_join 87 = .ok (.ifCond .eq 8, 3) := by decide +kernel
theorem dX2_join_90 : decode cX2_join 90 = .ok (.iload 5, 2) := by decide +kernel
theorem dX2_join_92 : decode cX2_join 92 = .ok (.goto 12, 3) := by decide +kernel
theorem dX2_join_95 : decode cX2_join 95 = .ok (.aload_n 0, 1) := by decide +kernel
theorem dX2_join_96 : decode cX2_join 96 = .ok (.getfield 25, 3) := by decide +kernel
theorem dX2_join_99 : decode cX2_join 99 = .ok (.iload_n 1, 1) := by decide +kernel
theorem dX2_join_100 : decode cX2_join 100 = .ok (.aaload, 1) := by decide +kernel
theorem dX2_join_101 : decode cX2_join 101 = .ok (.iload 8, 2) := by decide +kernel
theorem dX2_join_103 : decode cX2_join 103 = .ok (.iaload, 1) := by decide +kernel
theorem dX2_join_104 : decode cX2_join 104 = .ok (.iastore, 1) := by decide +kernel
theorem dX2_join_105 : decode cX2_join 105 = .ok (.aload_n 0, 1) := by decide +kernel
theorem dX2_join_106 : decode cX2_join 106 = .ok (.getfield 28, 3) := by decide +kernel
theorem dX2_join_109 : decode cX2_join 109 = .ok (.iload_n 1, 1) := by decide +kernel
theorem dX2_join_110 : decode cX2_join 110 = .ok (.iconst 1, 1) := by decide +kernel
theorem dX2_join_111 : decode cX2_join 111 = .ok (.iadd, 1) := by decide +kernel
theorem dX2_join_112 : decode cX2_join 112 = .ok (.aaload, 1) := by decide +kernel
theorem dX2_join_113 : decode cX2_join 113 = .ok (.iload 8, 2) := by decide +kernel
theorem dX2_join_115 : decode cX2_join 115 = .ok (.aload_n 0, 1) := by decide +kernel
theorem dX2_join_116 : decode cX2_join 116 = .ok (.getfield 28, 3) := by decide +kernel
theorem dX2_join_119 : decode cX2_join 119 = .ok (.iload_n 1, 1) := by decide +kernel
theorem dX2_join_120 : decode cX2_join 120 = .ok (.aaload, 1) := by decide +kernel
theorem dX2_join_121 : decode cX2_join 121 = .ok (.iload 8, 2) := by decide +kernel
theorem dX2_join_123 : decode cX2_join 123 = .ok (.iaload, 1) := by decide +kernel
theorem dX2_join_124 : decode cX2_join 124 = .ok (.iload 9, 2) := by decide +kernel
theorem dX2_join_126 : decode cX2_join 126 = .ok (.ifCond .eq 8, 3) := by decide +kernel
theorem dX2_join_129 : decode cX2_join 129 = .ok (.iload 7, 2) := by decide +kernel
theorem dX2_join_131 : decode cX2_join 131 = .ok (.goto 4, 3) := by decide +kernel
theorem dX2_join_134 : decode cX2_join 134 = .ok (.iconst 0, 1) := by decide +kernel
theorem dX2_join_135 : decode cX2_join 135 = .ok (.iadd, 1) := by decide +kernel
theorem dX2_join_136 : decode cX2_join 136 = .ok (.iastore, 1) := by decide +kernel
theorem dX2_join_137 : decode cX2_join 137 = .ok (.iinc 8 1, 3) := by decide +kernel
theorem dX2_join_140 : decode cX2_join 140 = .ok (.goto (-95), 3) := by decide +kernel
theorem dX2_join_143 : decode cX2_join 143 = .ok (.return_, 1) := by decide +kernel
theorem dX2_logOf_0 : decode cX2_logOf 0 = .ok (.lload_n 0, 1) := by decide +kernel
theorem dX2_logOf_1 : decode cX2_logOf 1 = .ok (.invokestatic 59, 3) := by decide +kernel
theorem dX2_logOf_4 : decode cX2_logOf 4 = .ok (.invokestatic 65, 3) := by decide +kernel
theorem dX2_logOf_7 : decode cX2_logOf 7 = .ok (.lload_n 0, 1) := by decide +kernel
theorem dX2_logOf_8 : decode cX2_logOf 8 = .ok (.invokestatic 68, 3) := by decide +kernel
theorem dX2_logOf_11 : decode cX2_logOf 11 = .ok (.invokestatic 65, 3) := by decide +kernel
theorem dX2_logOf_14 : decode cX2_logOf 14 = .ok (.isub, 1) := by decide +kernel
theorem dX2_logOf_15 : decode cX2_logOf 15 = .ok (.ireturn, 1) := by decide +kernel
theorem dX2_logOfDigit_0 : decode cX2_logOfDigit 0 = .ok (.lload_n 0, 1) := by decide +kernel
theorem dX2_logOfDigit_1 : decode cX2_logOfDigit 1 = .ok (.lconst 0, 1) := by decide +kernel
theorem dX2_logOfDigit_2 : decode cX2_logOfDigit 2 = .ok (.lcmp, 1) := by decide +kernel
theorem dX2_logOfDigit_3 : decode cX2_logOfDigit 3 = .ok (.ifCond .lt 22, 3) := by decide +kernel
theorem dX2_logOfDigit_6 : decode cX2_logOfDigit 6 = .ok (.lload_n 0, 1) := by decide +kernel
theorem dX2_logOfDigit_7 : decode cX2_logOfDigit 7 = .ok (.getstatic 71, 3) := by decide +kernel
theorem dX2_logOfDigit_10 : decode cX2_logOfDigit 10 = .ok (.arraylength, 1) := by decide +kernel
theorem dX2_logOfDigit_11 : decode cX2_logOfDigit 11 = .ok (.i2l, 1) := by decide +kernel
theorem dX2_logOfDigit_12 : decode cX2_logOfDigit 12 = .ok (.lcmp, 1) := by decide +kernel
theorem dX2_logOfDigit_13 : decode cX2_logOfDigit 13 = .ok (.ifCond .ge 12, 3) := by decide +kernel
theorem dX2_logOfDigit_16 : decode cX2_logOfDigit 16 = .ok (.getstatic 71, 3) := by decide +kernel
theorem dX2_logOfDigit_19 : decode cX2_logOfDigit 19 = .ok (.lload_n 0, 1) := by decide +kernel
theorem dX2_logOfDigit_20 : decode cX2_logOfDigit 20 = .ok (.l2i, 1) := by decide +kernel
theorem dX2_logOfDigit_21 : decode cX2_logOfDigit 21 = .ok (.iaload, 1) := by decide +kernel
theorem dX2_logOfDigit_22 : decode cX2_logOfDigit 22 = .ok (.goto 4, 3) := by decide +kernel
theorem dX2_logOfDigit_25 : decode cX2_logOfDigit 25 = .ok (.iconst 0, 1) := by decide +kernel
theorem dX2_logOfDigit_26 : decode cX2_logOfDigit 26 = .ok (.ireturn, 1) := by decide +kernel
