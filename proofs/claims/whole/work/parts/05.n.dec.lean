-- decode rows: X9e
theorem dX9_rings_7 : decode cX9_rings 7 = .ok (.iaload, 1) := by decide +kernel
theorem dX9_rings_8 : decode cX9_rings 8 = .ok (.istore 6, 2) := by decide +kernel
theorem dX9_rings_10 : decode cX9_rings 10 = .ok (.iload_n 1, 1) := by decide +kernel
theorem dX9_rings_11 : decode cX9_rings 11 = .ok (.iconst 2, 1) := by decide +kernel
theorem dX9_rings_12 : decode cX9_rings 12 = .ok (.if_icmp .le 54, 3) := by decide +kernel
theorem dX9_rings_15 : decode cX9_rings 15 = .ok (.aload_n 0, 1) := by decide +kernel
theorem dX9_rings_16 : decode cX9_rings 16 = .ok (.iload 6, 2) := by decide +kernel
theorem dX9_rings_18 : decode cX9_rings 18 = .ok (.aload_n 0, 1) := by decide +kernel
theorem dX9_rings_19 : decode cX9_rings 19 = .ok (.getfield 54, 3) := by decide +kernel
theorem dX9_rings_22 : decode cX9_rings 22 = .ok (.iconst 0, 1) := by decide +kernel
theorem dX9_rings_23 : decode cX9_rings 23 = .ok (.iaload, 1) := by decide +kernel
theorem dX9_rings_24 : decode cX9_rings 24 = .ok (.invokevirtual 88, 3) := by decide +kernel
theorem dX9_rings_27 : decode cX9_rings 27 = .ok (.ifCond .eq 39, 3) := by decide +kernel
theorem dX9_rings_30 : decode cX9_rings 30 = .ok (.aload_n 0, 1) := by decide +kernel
theorem dX9_rings_31 : decode cX9_rings 31 = .ok (.lload_n 2, 1) := by decide +kernel
theorem dX9_rings_32 : decode cX9_rings 32 = .ok (.aload_n 0, 1) := by decide +kernel
theorem dX9_rings_33 : decode cX9_rings 33 = .ok (.iload 6, 2) := by decide +kernel
theorem dX9_rings_35 : decode cX9_rings 35 = .ok (.aload_n 0, 1) := by decide +kernel
theorem dX9_rings_36 : decode cX9_rings 36 = .ok (.getfield 54, 3) := by decide +kernel
theorem dX9_rings_39 : decode cX9_rings 39 = .ok (.iconst 0, 1) := by decide +kernel
theorem dX9_rings_40 : decode cX9_rings 40 = .ok (.iaload, 1) := by decide +kernel
theorem dX9_rings_41 : decode cX9_rings 41 = .ok (.invokevirtual 91, 3) := by decide +kernel
theorem dX9_rings_44 : decode cX9_rings 44 = .ok (.i2l, 1) := by decide +kernel
theorem dX9_rings_45 : decode cX9_rings 45 = .ok (.lmul, 1) := by decide +kernel
theorem dX9_rings_46 : decode cX9_rings 46 = .ok (.lload 4, 2) := by decide +kernel
theorem dX9_rings_48 : decode cX9_rings 48 = .ok (.aload_n 0, 1) := by decide +kernel
theorem dX9_rings_49 : decode cX9_rings 49 = .ok (.iload 6, 2) := by decide +kernel
theorem dX9_rings_51 : decode cX9_rings 51 = .ok (.aload_n 0, 1) := by decide +kernel
theorem dX9_rings_52 : decode cX9_rings 52 = .ok (.getfield 54, 3) := by decide +kernel
theorem dX9_rings_55 : decode cX9_rings 55 = .ok (.iconst 0, 1) := by decide +kernel
theorem dX9_rings_56 : decode cX9_rings 56 = .ok (.iaload, 1) := by decide +kernel
theorem dX9_rings_57 : decode cX9_rings 57 = .ok (.invokevirtual 94, 3) := by decide +kernel
theorem dX9_rings_60 : decode cX9_rings 60 = .ok (.i2l, 1) := by decide +kernel
theorem dX9_rings_61 : decode cX9_rings 61 = .ok (.lmul, 1) := by decide +kernel
theorem dX9_rings_62 : decode cX9_rings 62 = .ok (.iload_n 1, 1) := by decide +kernel
theorem dX9_rings_63 : decode cX9_rings 63 = .ok (.invokevirtual 156, 3) := by decide +kernel
theorem dX9_rings_66 : decode cX9_rings 66 = .ok (.iload_n 1, 1) := by decide +kernel
theorem dX9_rings_67 : decode cX9_rings 67 = .ok (.aload_n 0, 1) := by decide +kernel
theorem dX9_rings_68 : decode cX9_rings 68 = .ok (.getfield 66, 3) := by decide +kernel
theorem dX9_rings_71 : decode cX9_rings 71 = .ok (.if_icmp .ne 4, 3) := by decide +kernel
theorem dX9_rings_74 : decode cX9_rings 74 = .ok (.return_, 1) := by decide +kernel
theorem dX9_rings_75 : decode cX9_rings 75 = .ok (.iconst 0, 1) := by decide +kernel
theorem dX9_rings_76 : decode cX9_rings 76 = .ok (.istore 7, 2) := by decide +kernel
theorem dX9_rings_78 : decode cX9_rings 78 = .ok (.iload 7, 2) := by decide +kernel
theorem dX9_rings_80 : decode cX9_rings 80 = .ok (.aload_n 0, 1) := by decide +kernel
theorem dX9_rings_81 : decode cX9_rings 81 = .ok (.getfield 66, 3) := by decide +kernel
theorem dX9_rings_84 : decode cX9_rings 84 = .ok (.if_icmp .ge 119, 3) := by decide +kernel
theorem dX9_rings_87 : decode cX9_rings 87 = .ok (.iload 7, 2) := by decide +kernel
theorem dX9_rings_89 : decode cX9_rings 89 = .ok (.iload 6, 2) := by decide +kernel
theorem dX9_rings_91 : decode cX9_rings 91 = .ok (.if_icmp .eq 18, 3) := by decide +kernel
theorem dX9_rings_94 : decode cX9_rings 94 = .ok (.aload_n 0, 1) := by decide +kernel
theorem dX9_rings_95 : decode cX9_rings 95 = .ok (.iload 6, 2) := by decide +kernel
theorem dX9_rings_97 : decode cX9_rings 97 = .ok (.iload 7, 2) := by decide +kernel
theorem dX9_rings_99 : decode cX9_rings 99 = .ok (.invokevirtual 88, 3) := by decide +kernel
theorem dX9_rings_102 : decode cX9_rings 102 = .ok (.ifCond .eq 7, 3) := by decide +kernel
theorem dX9_rings_105 : decode cX9_rings 105 = .ok (.iconst 1, 1) := by decide +kernel
theorem dX9_rings_106 : decode cX9_rings 106 = .ok (.goto 4, 3) := by decide +kernel
theorem dX9_rings_109 : decode cX9_rings 109 = .ok (.iconst 0, 1) := by decide +kernel
theorem dX9_rings_110 : decode cX9_rings 110 = .ok (.istore 8, 2) := by decide +kernel
theorem dX9_rings_112 : decode cX9_rings 112 = .ok (.iconst 0, 1) := by decide +kernel
theorem dX9_rings_113 : decode cX9_rings 113 = .ok (.istore 9, 2) := by decide +kernel
theorem dX9_rings_115 : decode cX9_rings 115 = .ok (.iload 9, 2) := by decide +kernel
theorem dX9_rings_117 : decode cX9_rings 117 = .ok (.iload_n 1, 1) := by decide +kernel
theorem dX9_rings_118 : decode cX9_rings 118 = .ok (.if_icmp .ge 33, 3) := by decide +kernel
theorem dX9_rings_121 : decode cX9_rings 121 = .ok (.iload 8, 2) := by decide +kernel
theorem dX9_rings_123 : decode cX9_rings 123 = .ok (.ifCond .eq 28, 3) := by decide +kernel
theorem dX9_rings_126 : decode cX9_rings 126 = .ok (.aload_n 0, 1) := by decide +kernel
theorem dX9_rings_127 : decode cX9_rings 127 = .ok (.getfield 54, 3) := by decide +kernel
theorem dX9_rings_130 : decode cX9_rings 130 = .ok (.iload 9, 2) := by decide +kernel
theorem dX9_rings_132 : decode cX9_rings 132 = .ok (.iaload, 1) := by decide +kernel
theorem dX9_rings_133 : decode cX9_rings 133 = .ok (.iload 7, 2) := by decide +kernel
theorem dX9_rings_135 : decode cX9_rings 135 = .ok (.if_icmp .eq 7, 3) := by decide +kernel
theorem dX9_rings_138 : decode cX9_rings 138 = .ok (.iconst 1, 1) := by decide +kernel
theorem dX9_rings_139 : decode cX9_rings 139 = .ok (.goto 4, 3) := by decide +kernel
theorem dX9_rings_142 : decode cX9_rings 142 = .ok (.iconst 0, 1) := by decide +kernel
theorem dX9_rings_143 : decode cX9_rings 143 = .ok (.istore 8, 2) := by decide +kernel
theorem dX9_rings_145 : decode cX9_rings 145 = .ok (.iinc 9 1, 3) := by decide +kernel
theorem dX9_rings_148 : decode cX9_rings 148 = .ok (.goto (-33), 3) := by decide +kernel
theorem dX9_rings_151 : decode cX9_rings 151 = .ok (.iload 8, 2) := by decide +kernel
theorem dX9_rings_153 : decode cX9_rings 153 = .ok (.ifCond .ne 6, 3) := by decide +kernel
theorem dX9_rings_156 : decode cX9_rings 156 = .ok (.goto 41, 3) := by decide +kernel
theorem dX9_rings_159 : decode cX9_rings 159 = .ok (.aload_n 0, 1) := by decide +kernel
theorem dX9_rings_160 : decode cX9_rings 160 = .ok (.getfield 54, 3) := by decide +kernel
theorem dX9_rings_163 : decode cX9_rings 163 = .ok (.iload_n 1, 1) := by decide +kernel
theorem dX9_rings_164 : decode cX9_rings 164 = .ok (.iload 7, 2) := by decide +kernel
theorem dX9_rings_166 : decode cX9_rings 166 = .ok (.iastore, 1) := by decide +kernel
theorem dX9_rings_167 : decode cX9_rings 167 = .ok (.aload_n 0, 1) := by decide +kernel
theorem dX9_rings_168 : decode cX9_rings 168 = .ok (.iload_n 1, 1) := by decide +kernel
theorem dX9_rings_169 : decode cX9_rings 169 = .ok (.iconst 1, 1) := by decide +kernel
theorem dX9_rings_170 : decode cX9_rings 170 = .ok (.iadd, 1) := by decide +kernel
theorem dX9_rings_171 : decode cX9_rings 171 = .ok (.lload_n 2, 1) := by decide +kernel
theorem dX9_rings_172 : decode cX9_rings 172 = .ok (.aload_n 0, 1) := by decide +kernel
theorem dX9_rings_173 : decode cX9_rings 173 = .ok (.iload 6, 2) := by decide +kernel
theorem dX9_rings_175 : decode cX9_rings 175 = .ok (.iload 7, 2) := by decide +kernel
theorem dX9_rings_177 : decode cX9_rings 177 = .ok (.invokevirtual 91, 3) := by decide +kernel
theorem dX9_rings_180 : decode cX9_rings 180 = .ok (.i2l, 1) := by decide +kernel
theorem dX9_rings_181 : decode cX9_rings 181 = .ok (.lmul, 1) := by decide +kernel
theorem dX9_rings_182 : decode cX9_rings 182 = .ok (.lload 4, 2) := by decide +kernel
theorem dX9_rings_184 : decode cX9_rings 184 = .ok (.aload_n 0, 1) := by decide +kernel
theorem dX9_rings_185 : decode cX9_rings 185 = .ok (.iload 6, 2) := by decide +kernel
theorem dX9_rings_187 : decode cX9_rings 187 = .ok (.iload 7, 2) := by decide +kernel
theorem dX9_rings_189 : decode cX9_rings 189 = .ok (.invokevirtual 94, 3) := by decide +kernel
theorem dX9_rings_192 : decode cX9_rings 192 = .ok (.i2l, 1) := by decide +kernel
theorem dX9_rings_193 : decode cX9_rings 193 = .ok (.lmul, 1) := by decide +kernel
theorem dX9_rings_194 : decode cX9_rings 194 = .ok (.invokevirtual 160, 3) := by decide +kernel
theorem dX9_rings_197 : decode cX9_rings 197 = .ok (.iinc 7 1, 3) := by decide +kernel
theorem dX9_rings_200 : decode cX9_rings 200 = .ok (.goto (-122), 3) := by decide +kernel
theorem dX9_rings_203 : decode cX9_rings 203 = .ok (.return_, 1) := by decide +kernel
theorem dX9_least_0 : decode cX9_least 0 = .ok (.iload_n 1, 1) := by decide +kernel
theorem dX9_least_1 : decode cX9_least 1 = .ok (.iconst 0, 1) := by decide +kernel
theorem dX9_least_2 : decode cX9_least 2 = .ok (.iconst 2, 1) := by decide +kernel
theorem dX9_least_3 : decode cX9_least 3 = .ok (.invokestatic 73, 3) := by decide +kernel
theorem dX9_least_6 : decode cX9_least 6 = .ok (.ifCond .ne 5, 3) := by decide +kernel
theorem dX9_least_9 : decode cX9_least 9 = .ok (.iconst (-1), 1) := by decide +kernel
theorem dX9_least_10 : decode cX9_least 10 = .ok (.ireturn, 1) := by decide +kernel
theorem dX9_least_11 : decode cX9_least 11 = .ok (.aload_n 0, 1) := by decide +kernel
theorem dX9_least_12 : decode cX9_least 12 = .ok (.lconst 1, 1) := by decide +kernel
theorem dX9_least_13 : decode cX9_least 13 = .ok (.putfield 145, 3) := by decide +kernel
theorem dX9_least_16 : decode cX9_least 16 = .ok (.aload_n 0, 1) := by decide +kernel
theorem dX9_least_17 : decode cX9_least 17 = .ok (.lconst 1, 1) := by decide +kernel
theorem dX9_least_18 : decode cX9_least 18 = .ok (.putfield 141, 3) := by decide +kernel
theorem dX9_least_21 : decode cX9_least 21 = .ok (.aload_n 0, 1) := by decide +kernel
theorem dX9_least_22 : decode cX9_least 22 = .ok (.iconst 0, 1) := by decide +kernel
theorem dX9_least_23 : decode cX9_least 23 = .ok (.putfield 134, 3) := by decide +kernel
theorem dX9_least_26 : decode cX9_least 26 = .ok (.iconst 0, 1) := by decide +kernel
theorem dX9_least_27 : decode cX9_least 27 = .ok (.istore_n 2, 1) := by decide +kernel
theorem dX9_least_28 : decode cX9_least 28 = .ok (.iload_n 2, 1) := by decide +kernel
theorem dX9_least_29 : decode cX9_least 29 = .ok (.aload_n 0, 1) := by decide +kernel
theorem dX9_least_30 : decode cX9_least 30 = .ok (.getfield 66, 3) := by decide +kernel
theorem dX9_least_33 : decode cX9_least 33 = .ok (.if_icmp .ge 23, 3) := by decide +kernel
theorem dX9_least_36 : decode cX9_least 36 = .ok (.aload_n 0, 1) := by decide +kernel
theorem dX9_least_37 : decode cX9_least 37 = .ok (.getfield 54, 3) := by decide +kernel
theorem dX9_least_40 : decode cX9_least 40 = .ok (.iconst 0, 1) := by decide +kernel
theorem dX9_least_41 : decode cX9_least 41 = .ok (.iload_n 2, 1) := by decide +kernel
theorem dX9_least_42 : decode cX9_least 42 = .ok (.iastore, 1) := by decide +kernel
theorem dX9_least_43 : decode cX9_least 43 = .ok (.aload_n 0, 1) := by decide +kernel
theorem dX9_least_44 : decode cX9_least 44 = .ok (.iconst 1, 1) := by decide +kernel
theorem dX9_least_45 : decode cX9_least 45 = .ok (.lconst 1, 1) := by decide +kernel
theorem dX9_least_46 : decode cX9_least 46 = .ok (.lconst 1, 1) := by decide +kernel
theorem dX9_least_47 : decode cX9_least 47 = .ok (.invokevirtual 160, 3) := by decide +kernel
theorem dX9_least_50 : decode cX9_least 50 = .ok (.iinc 2 1, 3) := by decide +kernel
theorem dX9_least_53 : decode cX9_least 53 = .ok (.goto (-25), 3) := by decide +kernel
theorem dX9_least_56 : decode cX9_least 56 = .ok (.iload_n 1, 1) := by decide +kernel
theorem dX9_least_57 : decode cX9_least 57 = .ok (.ifCond .ne 11, 3) := by decide +kernel
theorem dX9_least_60 : decode cX9_least 60 = .ok (.aload_n 0, 1) := by decide +kernel
theorem dX9_least_61 : decode cX9_least 61 = .ok (.getfield 145, 3) := by decide +kernel
theorem dX9_least_64 : decode cX9_least 64 = .ok (.l2i, 1) := by decide +kernel
theorem dX9_least_65 : decode cX9_least 65 = .ok (.goto 20, 3) := by decide +kernel
theorem dX9_least_68 : decode cX9_least 68 = .ok (.iload_n 1, 1) := by decide +kernel
theorem dX9_least_69 : decode cX9_least 69 = .ok (.iconst 1, 1) := by decide +kernel
theorem dX9_least_70 : decode cX9_least 70 = .ok (.if_icmp .ne 11, 3) := by decide +kernel
theorem dX9_least_73 : decode cX9_least 73 = .ok (.aload_n 0, 1) := by decide +kernel
theorem dX9_least_74 : decode cX9_least 74 = .ok (.getfield 141, 3) := by decide +kernel
theorem dX9_least_77 : decode cX9_least 77 = .ok (.l2i, 1) := by decide +kernel
theorem dX9_least_78 : decode cX9_least 78 = .ok (.goto 7, 3) := by decide +kernel
theorem dX9_least_81 : decode cX9_least 81 = .ok (.aload_n 0, 1) := by decide +kernel
theorem dX9_least_82 : decode cX9_least 82 = .ok (.getfield 134, 3) := by decide +kernel
theorem dX9_least_85 : decode cX9_least 85 = .ok (.ireturn, 1) := by decide +kernel
theorem dX9_span_0 : decode cX9_span 0 = .ok (.iload_n 3, 1) := by decide +kernel
theorem dX9_span_1 : decode cX9_span 1 = .ok (.sipush 1000, 3) := by decide +kernel
theorem dX9_span_4 : decode cX9_span 4 = .ok (.idiv, 1) := by decide +kernel
theorem dX9_span_5 : decode cX9_span 5 = .ok (.istore 4, 2) := by decide +kernel
theorem dX9_span_7 : decode cX9_span 7 = .ok (.iload_n 3, 1) := by decide +kernel
theorem dX9_span_8 : decode cX9_span 8 = .ok (.bipush 100, 2) := by decide +kernel
theorem dX9_span_10 : decode cX9_span 10 = .ok (.idiv, 1) := by decide +kernel
theorem dX9_span_11 : decode cX9_span 11 = .ok (.bipush 10, 2) := by decide +kernel
theorem dX9_span_13 : decode cX9_span 13 = .ok (.irem, 1) := by decide +kernel
theorem dX9_span_14 : decode cX9_span 14 = .ok (.istore 5, 2) := by decide +kernel
theorem dX9_span_16 : decode cX9_span 16 = .ok (.iload_n 3, 1) := by decide +kernel
theorem dX9_span_17 : decode cX9_span 17 = .ok (.bipush 10, 2) := by decide +kernel
theorem dX9_span_19 : decode cX9_span 19 = .ok (.idiv, 1) := by decide +kernel
theorem dX9_span_20 : decode cX9_span 20 = .ok (.bipush 10, 2) := by decide +kernel
theorem dX9_span_22 : decode cX9_span 22 = .ok (.irem, 1) := by decide +kernel
theorem dX9_span_23 : decode cX9_span 23 = .ok (.istore 6, 2) := by decide +kernel
theorem dX9_span_25 : decode cX9_span 25 = .ok (.iload_n 3, 1) := by decide +kernel
theorem dX9_span_26 : decode cX9_span 26 = .ok (.bipush 10, 2) := by decide +kernel
theorem dX9_span_28 : decode cX9_span 28 = .ok (.irem, 1) := by decide +kernel
theorem dX9_span_29 : decode cX9_span 29 = .ok (.istore 7, 2) := by decide +kernel
theorem dX9_span_31 : decode cX9_span 31 = .ok (.aload_n 0, 1) := by decide +kernel
theorem dX9_span_32 : decode cX9_span 32 = .ok (.iload_n 1, 1) := by decide +kernel
theorem dX9_span_33 : decode cX9_span 33 = .ok (.iload_n 2, 1) := by decide +kernel
theorem dX9_span_34 : decode cX9_span 34 = .ok (.invokevirtual 77, 3) := by decide +kernel
theorem dX9_span_37 : decode cX9_span 37 = .ok (.ifCond .eq 46, 3) := by decide +kernel
theorem dX9_span_40 : decode cX9_span 40 = .ok (.iload_n 3, 1) := by decide +kernel
theorem dX9_span_41 : decode cX9_span 41 = .ok (.ifCond .lt 42, 3) := by decide +kernel
theorem dX9_span_44 : decode cX9_span 44 = .ok (.iload 4, 2) := by decide +kernel
theorem dX9_span_46 : decode cX9_span 46 = .ok (.iconst 1, 1) := by decide +kernel
theorem dX9_span_47 : decode cX9_span 47 = .ok (.bipush 9, 2) := by decide +kernel
theorem dX9_span_49 : decode cX9_span 49 = .ok (.invokestatic 73, 3) := by decide +kernel
theorem dX9_span_52 : decode cX9_span 52 = .ok (.ifCond .eq 31, 3) := by decide +kernel
theorem dX9_span_55 : decode cX9_span 55 = .ok (.iload 5, 2) := by decide +kernel
theorem dX9_span_57 : decode cX9_span 57 = .ok (.ifCond .eq 26, 3) := by decide +kernel
theorem dX9_span_60 : decode cX9_span 60 = .ok (.iload 6, 2) := by decide +kernel
theorem dX9_span_62 : decode cX9_span 62 = .ok (.ifCond .eq 21, 3) := by decide +kernel
theorem dX9_span_65 : decode cX9_span 65 = .ok (.iload 7, 2) := by decide +kernel
theorem dX9_span_67 : decode cX9_span 67 = .ok (.ifCond .eq 16, 3) := by decide +kernel
theorem dX9_span_70 : decode cX9_span 70 = .ok (.iload 4, 2) := by decide +kernel
theorem dX9_span_72 : decode cX9_span 72 = .ok (.iload 7, 2) := by decide +kernel
theorem dX9_span_74 : decode cX9_span 74 = .ok (.imul, 1) := by decide +kernel
theorem dX9_span_75 : decode cX9_span 75 = .ok (.iload 6, 2) := by decide +kernel
theorem dX9_span_77 : decode cX9_span 77 = .ok (.iload 5, 2) := by decide +kernel
theorem dX9_span_79 : decode cX9_span 79 = .ok (.imul, 1) := by decide +kernel
theorem dX9_span_80 : decode cX9_span 80 = .ok (.if_icmp .le 5, 3) := by decide +kernel
theorem dX9_span_83 : decode cX9_span 83 = .ok (.iconst 0, 1) := by decide +kernel
theorem dX9_span_84 : decode cX9_span 84 = .ok (.ireturn, 1) := by decide +kernel
theorem dX9_span_85 : decode cX9_span 85 = .ok (.aload_n 0, 1) := by decide +kernel
theorem dX9_span_86 : decode cX9_span 86 = .ok (.iload_n 1, 1) := by decide +kernel
theorem dX9_span_87 : decode cX9_span 87 = .ok (.iload_n 2, 1) := by decide +kernel
theorem dX9_span_88 : decode cX9_span 88 = .ok (.invokevirtual 85, 3) := by decide +kernel
theorem dX9_span_91 : decode cX9_span 91 = .ok (.istore 8, 2) := by decide +kernel
theorem dX9_span_93 : decode cX9_span 93 = .ok (.aload_n 0, 1) := by decide +kernel
theorem dX9_span_94 : decode cX9_span 94 = .ok (.getfield 16, 3) := by decide +kernel
theorem dX9_span_97 : decode cX9_span 97 = .ok (.iload 8, 2) := by decide +kernel
theorem dX9_span_99 : decode cX9_span 99 = .ok (.iload_n 1, 1) := by decide +kernel
theorem dX9_span_100 : decode cX9_span 100 = .ok (.iload_n 2, 1) := by decide +kernel
theorem dX9_span_101 : decode cX9_span 101 = .ok (.if_icmp .ge 8, 3) := by decide +kernel
theorem dX9_span_104 : decode cX9_span 104 = .ok (.iload 4, 2) := by decide +kernel
theorem dX9_span_106 : decode cX9_span 106 = .ok (.goto 5, 3) := by decide +kernel
theorem dX9_span_109 : decode cX9_span 109 = .ok (.iload 7, 2) := by decide +kernel
theorem dX9_span_111 : decode cX9_span 111 = .ok (.iastore, 1) := by decide +kernel
theorem dX9_span_112 : decode cX9_span 112 = .ok (.aload_n 0, 1) := by decide +kernel
theorem dX9_span_113 : decode cX9_span 113 = .ok (.getfield 19, 3) := by decide +kernel
theorem dX9_span_116 : decode cX9_span 116 = .ok (.iload 8, 2) := by decide +kernel
theorem dX9_span_118 : decode cX9_span 118 = .ok (.iload_n 1, 1) := by decide +kernel
theorem dX9_span_119 : decode cX9_span 119 = .ok (.iload_n 2, 1) := by decide +kernel
theorem dX9_span_120 : decode cX9_span 120 = .ok (.if_icmp .ge 8, 3) := by decide +kernel
theorem dX9_span_123 : decode cX9_span 123 = .ok (.iload 5, 2) := by decide +kernel
theorem dX9_span_125 : decode cX9_span 125 = .ok (.goto 5, 3) := by decide +kernel
theorem dX9_span_128 : decode cX9_span 128 = .ok (.iload 6, 2) := by decide +kernel
theorem dX9_span_130 : decode cX9_span 130 = .ok (.iastore, 1) := by decide +kernel
theorem dX9_span_131 : decode cX9_span 131 = .ok (.aload_n 0, 1) := by decide +kernel
theorem dX9_span_132 : decode cX9_span 132 = .ok (.getfield 22, 3) := by decide +kernel
theorem dX9_span_135 : decode cX9_span 135 = .ok (.iload 8, 2) := by decide +kernel
theorem dX9_span_137 : decode cX9_span 137 = .ok (.iload_n 1, 1) := by decide +kernel
theorem dX9_span_138 : decode cX9_span 138 = .ok (.iload_n 2, 1) := by decide +kernel
theorem dX9_span_139 : decode cX9_span 139 = .ok (.if_icmp .ge 8, 3) := by decide +kernel
theorem dX9_span_142 : decode cX9_span 142 = .ok (.iload 6, 2) := by decide +kernel
theorem dX9_span_144 : decode cX9_span 144 = .ok (.goto 5, 3) := by decide +kernel
theorem dX9_span_147 : decode cX9_span 147 = .ok (.iload 5, 2) := by decide +kernel
theorem dX9_span_149 : decode cX9_span 149 = .ok (.iastore, 1) := by decide +kernel
theorem dX9_span_150 : decode cX9_span 150 = .ok (.aload_n 0, 1) := by decide +kernel
theorem dX9_span_151 : decode cX9_span 151 = .ok (.getfield 25, 3) := by decide +kernel
theorem dX9_span_154 : decode cX9_span 154 = .ok (.iload 8, 2) := by decide +kernel
theorem dX9_span_156 : decode cX9_span 156 = .ok (.iload_n 1, 1) := by decide +kernel
theorem dX9_span_157 : decode cX9_span 157 = .ok (.iload_n 2, 1) := by decide +kernel
theorem dX9_span_158 : decode cX9_span 158 = .ok (.if_icmp .ge 8, 3) := by decide +kernel
theorem dX9_span_161 : decode cX9_span 161 = .ok (.iload 7, 2) := by decide +kernel
theorem dX9_span_163 : decode cX9_span 163 = .ok (.goto 5, 3) := by decide +kernel
theorem dX9_span_166 : decode cX9_span 166 = .ok (.iload 4, 2) := by decide +kernel
theorem dX9_span_168 : decode cX9_span 168 = .ok (.iastore, 1) := by decide +kernel
theorem dX9_span_169 : decode cX9_span 169 = .ok (.iconst 1, 1) := by decide +kernel
theorem dX9_span_170 : decode cX9_span 170 = .ok (.ireturn, 1) := by decide +kernel
theorem dX9_unspan_0 : decode cX9_unspan 0 = .ok (.aload_n 0, 1) := by decide +kernel
theorem dX9_unspan_1 : decode cX9_unspan 1 = .ok (.iload_n 1, 1) := by decide +kernel
theorem dX9_unspan_2 : decode cX9_unspan 2 = .ok (.iload_n 2, 1) := by decide +kernel
theorem dX9_unspan_3 : decode cX9_unspan 3 = .ok (.invokevirtual 77, 3) := by decide +kernel
theorem dX9_unspan_6 : decode cX9_unspan 6 = .ok (.ifCond .eq 17, 3) := by decide +kernel
theorem dX9_unspan_9 : decode cX9_unspan 9 = .ok (.aload_n 0, 1) := by decide +kernel
theorem dX9_unspan_10 : decode cX9_unspan 10 = .ok (.getfield 16, 3) := by decide +kernel
theorem dX9_unspan_13 : decode cX9_unspan 13 = .ok (.aload_n 0, 1) := by decide +kernel
theorem dX9_unspan_14 : decode cX9_unspan 14 = .ok (.iload_n 1, 1) := by decide +kernel
theorem dX9_unspan_15 : decode cX9_unspan 15 = .ok (.iload_n 2, 1) := by decide +kernel
theorem dX9_unspan_16 : decode cX9_unspan 16 = .ok (.invokevirtual 85, 3) := by decide +kernel
theorem dX9_unspan_19 : decode cX9_unspan 19 = .ok (.iaload, 1) := by decide +kernel
theorem dX9_unspan_20 : decode cX9_unspan 20 = .ok (.ifCond .ne 5, 3) := by decide +kernel
theorem dX9_unspan_23 : decode cX9_unspan 23 = .ok (.iconst 0, 1) := by decide +kernel
theorem dX9_unspan_24 : decode cX9_unspan 24 = .ok (.ireturn, 1) := by decide +kernel
theorem dX9_unspan_25 : decode cX9_unspan 25 = .ok (.aload_n 0, 1) := by decide +kernel
theorem dX9_unspan_26 : decode cX9_unspan 26 = .ok (.getfield 16, 3) := by decide +kernel
theorem dX9_unspan_29 : decode cX9_unspan 29 = .ok (.aload_n 0, 1) := by decide +kernel
theorem dX9_unspan_30 : decode cX9_unspan 30 = .ok (.iload_n 1, 1) := by decide +kernel
theorem dX9_unspan_31 : decode cX9_unspan 31 = .ok (.iload_n 2, 1) := by decide +kernel
theorem dX9_unspan_32 : decode cX9_unspan 32 = .ok (.invokevirtual 85, 3) := by decide +kernel
theorem dX9_unspan_35 : decode cX9_unspan 35 = .ok (.iconst 0, 1) := by decide +kernel
theorem dX9_unspan_36 : decode cX9_unspan 36 = .ok (.iastore, 1) := by decide +kernel
theorem dX9_unspan_37 : decode cX9_unspan 37 = .ok (.iconst 1, 1) := by decide +kernel
theorem dX9_unspan_38 : decode cX9_unspan 38 = .ok (.ireturn, 1) := by decide +kernel
theorem dX9_isSpan_0 : decode cX9_isSpan 0 = .ok (.aload_n 0, 1) := by decide +kernel
theorem dX9_isSpan_1 : decode cX9_isSpan 1 = .ok (.getfield 16, 3) := by decide +kernel
theorem dX9_isSpan_4 : decode cX9_isSpan 4 = .ok (.aload_n 0, 1) := by decide +kernel
theorem dX9_isSpan_5 : decode cX9_isSpan 5 = .ok (.iload_n 1, 1) := by decide +kernel
theorem dX9_isSpan_6 : decode cX9_isSpan 6 = .ok (.iload_n 2, 1) := by decide +kernel
theorem dX9_isSpan_7 : decode cX9_isSpan 7 = .ok (.invokevirtual 85, 3) := by decide +kernel
theorem dX9_isSpan_10 : decode cX9_isSpan 10 = .ok (.iaload, 1) := by decide +kernel
theorem dX9_isSpan_11 : decode cX9_isSpan 11 = .ok (.ifCond .le 7, 3) := by decide +kernel
theorem dX9_isSpan_14 : decode cX9_isSpan 14 = .ok (.iconst 1, 1) := by decide +kernel
theorem dX9_isSpan_15 : decode cX9_isSpan 15 = .ok (.goto 4, 3) := by decide +kernel
theorem dX9_isSpan_18 : decode cX9_isSpan 18 = .ok (.iconst 0, 1) := by decide +kernel
theorem dX9_isSpan_19 : decode cX9_isSpan 19 = .ok (.ireturn, 1) := by decide +kernel
theorem dX9_lowOver_0 : decode cX9_lowOver 0 = .ok (.iload_n 1, 1) := by decide +kernel
theorem dX9_lowOver_1 : decode cX9_lowOver 1 = .ok (.iload_n 2, 1) := by decide +kernel
theorem dX9_lowOver_2 : decode cX9_lowOver 2 = .ok (.if_icmp .ge 17, 3) := by decide +kernel
theorem dX9_lowOver_5 : decode cX9_lowOver 5 = .ok (.aload_n 0, 1) := by decide +kernel
theorem dX9_lowOver_6 : decode cX9_lowOver 6 = .ok (.getfield 16, 3) := by decide +kernel
theorem dX9_lowOver_9 : decode cX9_lowOver 9 = .ok (.aload_n 0, 1) := by decide +kernel
