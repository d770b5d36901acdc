-- decode rows: X9a
theorem dX9_init_0 : decode cX9_init 0 = .ok (.aload_n 0, 1) := by decide +kernel
theorem dX9_init_1 : decode cX9_init 1 = .ok (.invokespecial 1, 3) := by decide +kernel
theorem dX9_init_4 : decode cX9_init 4 = .ok (.aload_n 0, 1) := by decide +kernel
theorem dX9_init_5 : decode cX9_init 5 = .ok (.bipush 15, 2) := by decide +kernel
theorem dX9_init_7 : decode cX9_init 7 = .ok (.newarray .int, 2) := by decide +kernel
theorem dX9_init_9 : decode cX9_init 9 = .ok (.putfield 9, 3) := by decide +kernel
theorem dX9_init_12 : decode cX9_init 12 = .ok (.aload_n 0, 1) := by decide +kernel
theorem dX9_init_13 : decode cX9_init 13 = .ok (.bipush 15, 2) := by decide +kernel
theorem dX9_init_15 : decode cX9_init 15 = .ok (.newarray .int, 2) := by decide +kernel
theorem dX9_init_17 : decode cX9_init 17 = .ok (.putfield 13, 3) := by decide +kernel
theorem dX9_init_20 : decode cX9_init 20 = .ok (.aload_n 0, 1) := by decide +kernel
theorem dX9_init_21 : decode cX9_init 21 = .ok (.bipush 15, 2) := by decide +kernel
theorem dX9_init_23 : decode cX9_init 23 = .ok (.newarray .int, 2) := by decide +kernel
theorem dX9_init_25 : decode cX9_init 25 = .ok (.putfield 16, 3) := by decide +kernel
theorem dX9_init_28 : decode cX9_init 28 = .ok (.aload_n 0, 1) := by decide +kernel
theorem dX9_init_29 : decode cX9_init 29 = .ok (.bipush 15, 2) := by decide +kernel
theorem dX9_init_31 : decode cX9_init 31 = .ok (.newarray .int, 2) := by decide +kernel
theorem dX9_init_33 : decode cX9_init 33 = .ok (.putfield 19, 3) := by decide +kernel
theorem dX9_init_36 : decode cX9_init 36 = .ok (.aload_n 0, 1) := by decide +kernel
theorem dX9_init_37 : decode cX9_init 37 = .ok (.bipush 15, 2) := by decide +kernel
theorem dX9_init_39 : decode cX9_init 39 = .ok (.newarray .int, 2) := by decide +kernel
theorem dX9_init_41 : decode cX9_init 41 = .ok (.putfield 22, 3) := by decide +kernel
theorem dX9_init_44 : decode cX9_init 44 = .ok (.aload_n 0, 1) := by decide +kernel
theorem dX9_init_45 : decode cX9_init 45 = .ok (.bipush 15, 2) := by decide +kernel
theorem dX9_init_47 : decode cX9_init 47 = .ok (.newarray .int, 2) := by decide +kernel
theorem dX9_init_49 : decode cX9_init 49 = .ok (.putfield 25, 3) := by decide +kernel
theorem dX9_init_52 : decode cX9_init 52 = .ok (.aload_n 0, 1) := by decide +kernel
theorem dX9_init_53 : decode cX9_init 53 = .ok (.bipush 15, 2) := by decide +kernel
theorem dX9_init_55 : decode cX9_init 55 = .ok (.newarray .int, 2) := by decide +kernel
theorem dX9_init_57 : decode cX9_init 57 = .ok (.putfield 28, 3) := by decide +kernel
theorem dX9_init_60 : decode cX9_init 60 = .ok (.aload_n 0, 1) := by decide +kernel
theorem dX9_init_61 : decode cX9_init 61 = .ok (.bipush 15, 2) := by decide +kernel
theorem dX9_init_63 : decode cX9_init 63 = .ok (.newarray .int, 2) := by decide +kernel
theorem dX9_init_65 : decode cX9_init 65 = .ok (.putfield 31, 3) := by decide +kernel
theorem dX9_init_68 : decode cX9_init 68 = .ok (.aload_n 0, 1) := by decide +kernel
theorem dX9_init_69 : decode cX9_init 69 = .ok (.bipush 6, 2) := by decide +kernel
theorem dX9_init_71 : decode cX9_init 71 = .ok (.newarray .long, 2) := by decide +kernel
theorem dX9_init_73 : decode cX9_init 73 = .ok (.putfield 34, 3) := by decide +kernel
theorem dX9_init_76 : decode cX9_init 76 = .ok (.aload_n 0, 1) := by decide +kernel
theorem dX9_init_77 : decode cX9_init 77 = .ok (.bipush 6, 2) := by decide +kernel
theorem dX9_init_79 : decode cX9_init 79 = .ok (.newarray .long, 2) := by decide +kernel
theorem dX9_init_81 : decode cX9_init 81 = .ok (.putfield 38, 3) := by decide +kernel
theorem dX9_init_84 : decode cX9_init 84 = .ok (.aload_n 0, 1) := by decide +kernel
theorem dX9_init_85 : decode cX9_init 85 = .ok (.bipush 6, 2) := by decide +kernel
theorem dX9_init_87 : decode cX9_init 87 = .ok (.newarray .boolean, 2) := by decide +kernel
theorem dX9_init_89 : decode cX9_init 89 = .ok (.putfield 41, 3) := by decide +kernel
theorem dX9_init_92 : decode cX9_init 92 = .ok (.aload_n 0, 1) := by decide +kernel
theorem dX9_init_93 : decode cX9_init 93 = .ok (.iconst 5, 1) := by decide +kernel
theorem dX9_init_94 : decode cX9_init 94 = .ok (.newarray .int, 2) := by decide +kernel
theorem dX9_init_96 : decode cX9_init 96 = .ok (.putfield 45, 3) := by decide +kernel
theorem dX9_init_99 : decode cX9_init 99 = .ok (.aload_n 0, 1) := by decide +kernel
theorem dX9_init_100 : decode cX9_init 100 = .ok (.bipush 12, 2) := by decide +kernel
theorem dX9_init_102 : decode cX9_init 102 = .ok (.newarray .long, 2) := by decide +kernel
theorem dX9_init_104 : decode cX9_init 104 = .ok (.putfield 48, 3) := by decide +kernel
theorem dX9_init_107 : decode cX9_init 107 = .ok (.aload_n 0, 1) := by decide +kernel
theorem dX9_init_108 : decode cX9_init 108 = .ok (.bipush 12, 2) := by decide +kernel
theorem dX9_init_110 : decode cX9_init 110 = .ok (.newarray .long, 2) := by decide +kernel
theorem dX9_init_112 : decode cX9_init 112 = .ok (.putfield 51, 3) := by decide +kernel
theorem dX9_init_115 : decode cX9_init 115 = .ok (.aload_n 0, 1) := by decide +kernel
theorem dX9_init_116 : decode cX9_init 116 = .ok (.bipush 6, 2) := by decide +kernel
theorem dX9_init_118 : decode cX9_init 118 = .ok (.newarray .int, 2) := by decide +kernel
theorem dX9_init_120 : decode cX9_init 120 = .ok (.putfield 54, 3) := by decide +kernel
theorem dX9_init_123 : decode cX9_init 123 = .ok (.aload_n 0, 1) := by decide +kernel
theorem dX9_init_124 : decode cX9_init 124 = .ok (.iconst 2, 1) := by decide +kernel
theorem dX9_init_125 : decode cX9_init 125 = .ok (.bipush 6, 2) := by decide +kernel
theorem dX9_init_127 : decode cX9_init 127 = .ok (.iload_n 1, 1) := by decide +kernel
theorem dX9_init_128 : decode cX9_init 128 = .ok (.invokestatic 57, 3) := by decide +kernel
theorem dX9_init_131 : decode cX9_init 131 = .ok (.invokestatic 63, 3) := by decide +kernel
theorem dX9_init_134 : decode cX9_init 134 = .ok (.putfield 66, 3) := by decide +kernel
theorem dX9_init_137 : decode cX9_init 137 = .ok (.iconst 0, 1) := by decide +kernel
theorem dX9_init_138 : decode cX9_init 138 = .ok (.istore_n 2, 1) := by decide +kernel
theorem dX9_init_139 : decode cX9_init 139 = .ok (.iconst 0, 1) := by decide +kernel
theorem dX9_init_140 : decode cX9_init 140 = .ok (.istore_n 3, 1) := by decide +kernel
theorem dX9_init_141 : decode cX9_init 141 = .ok (.iload_n 3, 1) := by decide +kernel
theorem dX9_init_142 : decode cX9_init 142 = .ok (.aload_n 0, 1) := by decide +kernel
theorem dX9_init_143 : decode cX9_init 143 = .ok (.getfield 66, 3) := by decide +kernel
theorem dX9_init_146 : decode cX9_init 146 = .ok (.if_icmp .ge 47, 3) := by decide +kernel
theorem dX9_init_149 : decode cX9_init 149 = .ok (.iload_n 3, 1) := by decide +kernel
theorem dX9_init_150 : decode cX9_init 150 = .ok (.iconst 1, 1) := by decide +kernel
theorem dX9_init_151 : decode cX9_init 151 = .ok (.iadd, 1) := by decide +kernel
theorem dX9_init_152 : decode cX9_init 152 = .ok (.istore 4, 2) := by decide +kernel
theorem dX9_init_154 : decode cX9_init 154 = .ok (.iload 4, 2) := by decide +kernel
theorem dX9_init_156 : decode cX9_init 156 = .ok (.aload_n 0, 1) := by decide +kernel
theorem dX9_init_157 : decode cX9_init 157 = .ok (.getfield 66, 3) := by decide +kernel
theorem dX9_init_160 : decode cX9_init 160 = .ok (.if_icmp .ge 27, 3) := by decide +kernel
theorem dX9_init_163 : decode cX9_init 163 = .ok (.aload_n 0, 1) := by decide +kernel
theorem dX9_init_164 : decode cX9_init 164 = .ok (.getfield 28, 3) := by decide +kernel
theorem dX9_init_167 : decode cX9_init 167 = .ok (.iload_n 2, 1) := by decide +kernel
theorem dX9_init_168 : decode cX9_init 168 = .ok (.iload_n 3, 1) := by decide +kernel
theorem dX9_init_169 : decode cX9_init 169 = .ok (.iastore, 1) := by decide +kernel
theorem dX9_init_170 : decode cX9_init 170 = .ok (.aload_n 0, 1) := by decide +kernel
theorem dX9_init_171 : decode cX9_init 171 = .ok (.getfield 31, 3) := by decide +kernel
theorem dX9_init_174 : decode cX9_init 174 = .ok (.iload_n 2, 1) := by decide +kernel
theorem dX9_init_175 : decode cX9_init 175 = .ok (.iload 4, 2) := by decide +kernel
theorem dX9_init_177 : decode cX9_init 177 = .ok (.iastore, 1) := by decide +kernel
theorem dX9_init_178 : decode cX9_init 178 = .ok (.iinc 2 1, 3) := by decide +kernel
theorem dX9_init_181 : decode cX9_init 181 = .ok (.iinc 4 1, 3) := by decide +kernel
theorem dX9_init_184 : decode cX9_init 184 = .ok (.goto (-30), 3) := by decide +kernel
theorem dX9_init_187 : decode cX9_init 187 = .ok (.iinc 3 1, 3) := by decide +kernel
theorem dX9_init_190 : decode cX9_init 190 = .ok (.goto (-49), 3) := by decide +kernel
theorem dX9_init_193 : decode cX9_init 193 = .ok (.aload_n 0, 1) := by decide +kernel
theorem dX9_init_194 : decode cX9_init 194 = .ok (.iload_n 2, 1) := by decide +kernel
theorem dX9_init_195 : decode cX9_init 195 = .ok (.putfield 70, 3) := by decide +kernel
theorem dX9_init_198 : decode cX9_init 198 = .ok (.return_, 1) := by decide +kernel
theorem dX9_in_0 : decode cX9_in 0 = .ok (.iload_n 0, 1) := by decide +kernel
theorem dX9_in_1 : decode cX9_in 1 = .ok (.iload_n 1, 1) := by decide +kernel
theorem dX9_in_2 : decode cX9_in 2 = .ok (.if_icmp .lt 12, 3) := by decide +kernel
theorem dX9_in_5 : decode cX9_in 5 = .ok (.iload_n 0, 1) := by decide +kernel
theorem dX9_in_6 : decode cX9_in 6 = .ok (.iload_n 2, 1) := by decide +kernel
theorem dX9_in_7 : decode cX9_in 7 = .ok (.if_icmp .gt 7, 3) := by decide +kernel
theorem dX9_in_10 : decode cX9_in 10 = .ok (.iconst 1, 1) := by decide +kernel
theorem dX9_in_11 : decode cX9_in 11 = .ok (.goto 4, 3) := by decide +kernel
theorem dX9_in_14 : decode cX9_in 14 = .ok (.iconst 0, 1) := by decide +kernel
theorem dX9_in_15 : decode cX9_in 15 = .ok (.ireturn, 1) := by decide +kernel
theorem dX9_areTwo_0 : decode cX9_areTwo 0 = .ok (.iload_n 1, 1) := by decide +kernel
theorem dX9_areTwo_1 : decode cX9_areTwo 1 = .ok (.iconst 0, 1) := by decide +kernel
theorem dX9_areTwo_2 : decode cX9_areTwo 2 = .ok (.aload_n 0, 1) := by decide +kernel
theorem dX9_areTwo_3 : decode cX9_areTwo 3 = .ok (.getfield 66, 3) := by decide +kernel
theorem dX9_areTwo_6 : decode cX9_areTwo 6 = .ok (.iconst 1, 1) := by decide +kernel
theorem dX9_areTwo_7 : decode cX9_areTwo 7 = .ok (.isub, 1) := by decide +kernel
theorem dX9_areTwo_8 : decode cX9_areTwo 8 = .ok (.invokestatic 73, 3) := by decide +kernel
theorem dX9_areTwo_11 : decode cX9_areTwo 11 = .ok (.ifCond .eq 26, 3) := by decide +kernel
theorem dX9_areTwo_14 : decode cX9_areTwo 14 = .ok (.iload_n 2, 1) := by decide +kernel
theorem dX9_areTwo_15 : decode cX9_areTwo 15 = .ok (.iconst 0, 1) := by decide +kernel
theorem dX9_areTwo_16 : decode cX9_areTwo 16 = .ok (.aload_n 0, 1) := by decide +kernel
theorem dX9_areTwo_17 : decode cX9_areTwo 17 = .ok (.getfield 66, 3) := by decide +kernel
theorem dX9_areTwo_20 : decode cX9_areTwo 20 = .ok (.iconst 1, 1) := by decide +kernel
theorem dX9_areTwo_21 : decode cX9_areTwo 21 = .ok (.isub, 1) := by decide +kernel
theorem dX9_areTwo_22 : decode cX9_areTwo 22 = .ok (.invokestatic 73, 3) := by decide +kernel
theorem dX9_areTwo_25 : decode cX9_areTwo 25 = .ok (.ifCond .eq 12, 3) := by decide +kernel
theorem dX9_areTwo_28 : decode cX9_areTwo 28 = .ok (.iload_n 1, 1) := by decide +kernel
theorem dX9_areTwo_29 : decode cX9_areTwo 29 = .ok (.iload_n 2, 1) := by decide +kernel
theorem dX9_areTwo_30 : decode cX9_areTwo 30 = .ok (.if_icmp .eq 7, 3) := by decide +kernel
theorem dX9_areTwo_33 : decode cX9_areTwo 33 = .ok (.iconst 1, 1) := by decide +kernel
theorem dX9_areTwo_34 : decode cX9_areTwo 34 = .ok (.goto 4, 3) := by decide +kernel
theorem dX9_areTwo_37 : decode cX9_areTwo 37 = .ok (.iconst 0, 1) := by decide +kernel
theorem dX9_areTwo_38 : decode cX9_areTwo 38 = .ok (.ireturn, 1) := by decide +kernel
theorem dX9_pair_0 : decode cX9_pair 0 = .ok (.iload_n 1, 1) := by decide +kernel
theorem dX9_pair_1 : decode cX9_pair 1 = .ok (.iload_n 2, 1) := by decide +kernel
theorem dX9_pair_2 : decode cX9_pair 2 = .ok (.invokestatic 57, 3) := by decide +kernel
theorem dX9_pair_5 : decode cX9_pair 5 = .ok (.istore_n 3, 1) := by decide +kernel
theorem dX9_pair_6 : decode cX9_pair 6 = .ok (.iload_n 1, 1) := by decide +kernel
theorem dX9_pair_7 : decode cX9_pair 7 = .ok (.iload_n 2, 1) := by decide +kernel
theorem dX9_pair_8 : decode cX9_pair 8 = .ok (.invokestatic 63, 3) := by decide +kernel
theorem dX9_pair_11 : decode cX9_pair 11 = .ok (.istore 4, 2) := by decide +kernel
theorem dX9_pair_13 : decode cX9_pair 13 = .ok (.iconst 0, 1) := by decide +kernel
theorem dX9_pair_14 : decode cX9_pair 14 = .ok (.istore 5, 2) := by decide +kernel
theorem dX9_pair_16 : decode cX9_pair 16 = .ok (.aload_n 0, 1) := by decide +kernel
theorem dX9_pair_17 : decode cX9_pair 17 = .ok (.getfield 28, 3) := by decide +kernel
theorem dX9_pair_20 : decode cX9_pair 20 = .ok (.iload 5, 2) := by decide +kernel
theorem dX9_pair_22 : decode cX9_pair 22 = .ok (.iaload, 1) := by decide +kernel
theorem dX9_pair_23 : decode cX9_pair 23 = .ok (.iload_n 3, 1) := by decide +kernel
theorem dX9_pair_24 : decode cX9_pair 24 = .ok (.if_icmp .ne 15, 3) := by decide +kernel
theorem dX9_pair_27 : decode cX9_pair 27 = .ok (.aload_n 0, 1) := by decide +kernel
theorem dX9_pair_28 : decode cX9_pair 28 = .ok (.getfield 31, 3) := by decide +kernel
theorem dX9_pair_31 : decode cX9_pair 31 = .ok (.iload 5, 2) := by decide +kernel
theorem dX9_pair_33 : decode cX9_pair 33 = .ok (.iaload, 1) := by decide +kernel
theorem dX9_pair_34 : decode cX9_pair 34 = .ok (.iload 4, 2) := by decide +kernel
theorem dX9_pair_36 : decode cX9_pair 36 = .ok (.if_icmp .eq 9, 3) := by decide +kernel
theorem dX9_pair_39 : decode cX9_pair 39 = .ok (.iinc 5 1, 3) := by decide +kernel
theorem dX9_pair_42 : decode cX9_pair 42 = .ok (.goto (-26), 3) := by decide +kernel
theorem dX9_pair_45 : decode cX9_pair 45 = .ok (.iload 5, 2) := by decide +kernel
theorem dX9_pair_47 : decode cX9_pair 47 = .ok (.ireturn, 1) := by decide +kernel
theorem dX9_divisor_0 : decode cX9_divisor 0 = .ok (.lload_n 0, 1) := by decide +kernel
theorem dX9_divisor_1 : decode cX9_divisor 1 = .ok (.lstore 4, 2) := by decide +kernel
theorem dX9_divisor_3 : decode cX9_divisor 3 = .ok (.lload_n 2, 1) := by decide +kernel
theorem dX9_divisor_4 : decode cX9_divisor 4 = .ok (.lstore 6, 2) := by decide +kernel
theorem dX9_divisor_6 : decode cX9_divisor 6 = .ok (.lload 6, 2) := by decide +kernel
theorem dX9_divisor_8 : decode cX9_divisor 8 = .ok (.lconst 0, 1) := by decide +kernel
theorem dX9_divisor_9 : decode cX9_divisor 9 = .ok (.lcmp, 1) := by decide +kernel
theorem dX9_divisor_10 : decode cX9_divisor 10 = .ok (.ifCond .eq 21, 3) := by decide +kernel
theorem dX9_divisor_13 : decode cX9_divisor 13 = .ok (.lload 4, 2) := by decide +kernel
theorem dX9_divisor_15 : decode cX9_divisor 15 = .ok (.lload 6, 2) := by decide +kernel
theorem dX9_divisor_17 : decode cX9_divisor 17 = .ok (.lrem, 1) := by decide +kernel
theorem dX9_divisor_18 : decode cX9_divisor 18 = .ok (.lstore 8, 2) := by decide +kernel
theorem dX9_divisor_20 : decode cX9_divisor 20 = .ok (.lload 6, 2) := by decide +kernel
theorem dX9_divisor_22 : decode cX9_divisor 22 = .ok (.lstore 4, 2) := by decide +kernel
theorem dX9_divisor_24 : decode cX9_divisor 24 = .ok (.lload 8, 2) := by decide +kernel
theorem dX9_divisor_26 : decode cX9_divisor 26 = .ok (.lstore 6, 2) := by decide +kernel
theorem dX9_divisor_28 : decode cX9_divisor 28 = .ok (.goto (-22), 3) := by decide +kernel
theorem dX9_divisor_31 : decode cX9_divisor 31 = .ok (.lload 4, 2) := by decide +kernel
theorem dX9_divisor_33 : decode cX9_divisor 33 = .ok (.lreturn, 1) := by decide +kernel
theorem dX9_say_0 : decode cX9_say 0 = .ok (.aload_n 0, 1) := by decide +kernel
theorem dX9_say_1 : decode cX9_say 1 = .ok (.iload_n 1, 1) := by decide +kernel
theorem dX9_say_2 : decode cX9_say 2 = .ok (.iload_n 2, 1) := by decide +kernel
theorem dX9_say_3 : decode cX9_say 3 = .ok (.invokevirtual 77, 3) := by decide +kernel
theorem dX9_say_6 : decode cX9_say 6 = .ok (.ifCond .eq 24, 3) := by decide +kernel
theorem dX9_say_9 : decode cX9_say 9 = .ok (.iload_n 3, 1) := by decide +kernel
theorem dX9_say_10 : decode cX9_say 10 = .ok (.iconst 1, 1) := by decide +kernel
theorem dX9_say_11 : decode cX9_say 11 = .ok (.bipush 9, 2) := by decide +kernel
theorem dX9_say_13 : decode cX9_say 13 = .ok (.invokestatic 73, 3) := by decide +kernel
theorem dX9_say_16 : decode cX9_say 16 = .ok (.ifCond .eq 14, 3) := by decide +kernel
theorem dX9_say_19 : decode cX9_say 19 = .ok (.iload 4, 2) := by decide +kernel
theorem dX9_say_21 : decode cX9_say 21 = .ok (.iconst 1, 1) := by decide +kernel
theorem dX9_say_22 : decode cX9_say 22 = .ok (.bipush 9, 2) := by decide +kernel
theorem dX9_say_24 : decode cX9_say 24 = .ok (.invokestatic 73, 3) := by decide +kernel
theorem dX9_say_27 : decode cX9_say 27 = .ok (.ifCond .ne 5, 3) := by decide +kernel
theorem dX9_say_30 : decode cX9_say 30 = .ok (.iconst 0, 1) := by decide +kernel
theorem dX9_say_31 : decode cX9_say 31 = .ok (.ireturn, 1) := by decide +kernel
theorem dX9_say_32 : decode cX9_say 32 = .ok (.iload_n 3, 1) := by decide +kernel
theorem dX9_say_33 : decode cX9_say 33 = .ok (.i2l, 1) := by decide +kernel
theorem dX9_say_34 : decode cX9_say 34 = .ok (.iload 4, 2) := by decide +kernel
theorem dX9_say_36 : decode cX9_say 36 = .ok (.i2l, 1) := by decide +kernel
theorem dX9_say_37 : decode cX9_say 37 = .ok (.invokestatic 81, 3) := by decide +kernel
theorem dX9_say_40 : decode cX9_say 40 = .ok (.l2i, 1) := by decide +kernel
theorem dX9_say_41 : decode cX9_say 41 = .ok (.istore 5, 2) := by decide +kernel
theorem dX9_say_43 : decode cX9_say 43 = .ok (.aload_n 0, 1) := by decide +kernel
theorem dX9_say_44 : decode cX9_say 44 = .ok (.iload_n 1, 1) := by decide +kernel
theorem dX9_say_45 : decode cX9_say 45 = .ok (.iload_n 2, 1) := by decide +kernel
theorem dX9_say_46 : decode cX9_say 46 = .ok (.invokevirtual 85, 3) := by decide +kernel
theorem dX9_say_49 : decode cX9_say 49 = .ok (.istore 6, 2) := by decide +kernel
theorem dX9_say_51 : decode cX9_say 51 = .ok (.aload_n 0, 1) := by decide +kernel
theorem dX9_say_52 : decode cX9_say 52 = .ok (.getfield 9, 3) := by decide +kernel
theorem dX9_say_55 : decode cX9_say 55 = .ok (.iload 6, 2) := by decide +kernel
theorem dX9_say_57 : decode cX9_say 57 = .ok (.iload_n 1, 1) := by decide +kernel
theorem dX9_say_58 : decode cX9_say 58 = .ok (.iload_n 2, 1) := by decide +kernel
theorem dX9_say_59 : decode cX9_say 59 = .ok (.if_icmp .ge 7, 3) := by decide +kernel
theorem dX9_say_62 : decode cX9_say 62 = .ok (.iload_n 3, 1) := by decide +kernel
theorem dX9_say_63 : decode cX9_say 63 = .ok (.goto 5, 3) := by decide +kernel
theorem dX9_say_66 : decode cX9_say 66 = .ok (.iload 4, 2) := by decide +kernel
theorem dX9_say_68 : decode cX9_say 68 = .ok (.iload 5, 2) := by decide +kernel
theorem dX9_say_70 : decode cX9_say 70 = .ok (.idiv, 1) := by decide +kernel
theorem dX9_say_71 : decode cX9_say 71 = .ok (.iastore, 1) := by decide +kernel
theorem dX9_say_72 : decode cX9_say 72 = .ok (.aload_n 0, 1) := by decide +kernel
theorem dX9_say_73 : decode cX9_say 73 = .ok (.getfield 13, 3) := by decide +kernel
theorem dX9_say_76 : decode cX9_say 76 = .ok (.iload 6, 2) := by decide +kernel
theorem dX9_say_78 : decode cX9_say 78 = .ok (.iload_n 1, 1) := by decide +kernel
theorem dX9_say_79 : decode cX9_say 79 = .ok (.iload_n 2, 1) := by decide +kernel
theorem dX9_say_80 : decode cX9_say 80 = .ok (.if_icmp .ge 8, 3) := by decide +kernel
theorem dX9_say_83 : decode cX9_say 83 = .ok (.iload 4, 2) := by decide +kernel
theorem dX9_say_85 : decode cX9_say 85 = .ok (.goto 4, 3) := by decide +kernel
theorem dX9_say_88 : decode cX9_say 88 = .ok (.iload_n 3, 1) := by decide +kernel
theorem dX9_say_89 : decode cX9_say 89 = .ok (.iload 5, 2) := by decide +kernel
theorem dX9_say_91 : decode cX9_say 91 = .ok (.idiv, 1) := by decide +kernel
theorem dX9_say_92 : decode cX9_say 92 = .ok (.iastore, 1) := by decide +kernel
theorem dX9_say_93 : decode cX9_say 93 = .ok (.iconst 1, 1) := by decide +kernel
theorem dX9_say_94 : decode cX9_say 94 = .ok (.ireturn, 1) := by decide +kernel
theorem dX9_unsay_0 : decode cX9_unsay 0 = .ok (.aload_n 0, 1) := by decide +kernel
theorem dX9_unsay_1 : decode cX9_unsay 1 = .ok (.iload_n 1, 1) := by decide +kernel
theorem dX9_unsay_2 : decode cX9_unsay 2 = .ok (.iload_n 2, 1) := by decide +kernel
theorem dX9_unsay_3 : decode cX9_unsay 3 = .ok (.invokevirtual 77, 3) := by decide +kernel
theorem dX9_unsay_6 : decode cX9_unsay 6 = .ok (.ifCond .eq 17, 3) := by decide +kernel
theorem dX9_unsay_9 : decode cX9_unsay 9 = .ok (.aload_n 0, 1) := by decide +kernel
theorem dX9_unsay_10 : decode cX9_unsay 10 = .ok (.getfield 9, 3) := by decide +kernel
theorem dX9_unsay_13 : decode cX9_unsay 13 = .ok (.aload_n 0, 1) := by decide +kernel
theorem dX9_unsay_14 : decode cX9_unsay 14 = .ok (.iload_n 1, 1) := by decide +kernel
theorem dX9_unsay_15 : decode cX9_unsay 15 = .ok (.iload_n 2, 1) := by decide +kernel
theorem dX9_unsay_16 : decode cX9_unsay 16 = .ok (.invokevirtual 85, 3) := by decide +kernel
theorem dX9_unsay_19 : decode cX9_unsay 19 = .ok (.iaload, 1) := by decide +kernel
theorem dX9_unsay_20 : decode cX9_unsay 20 = .ok (.ifCond .ne 5, 3) := by decide +kernel
theorem dX9_unsay_23 : decode cX9_unsay 23 = .ok (.iconst 0, 1) := by decide +kernel
theorem dX9_unsay_24 : decode cX9_unsay 24 = .ok (.ireturn, 1) := by decide +kernel
theorem dX9_unsay_25 : decode cX9_unsay 25 = .ok (.aload_n 0, 1) := by decide +kernel
theorem dX9_unsay_26 : decode cX9_unsay 26 = .ok (.getfield 9, 3) := by decide +kernel
theorem dX9_unsay_29 : decode cX9_unsay 29 = .ok (.aload_n 0, 1) := by decide +kernel
theorem dX9_unsay_30 : decode cX9_unsay 30 = .ok (.iload_n 1, 1) := by decide +kernel
theorem dX9_unsay_31 : decode cX9_unsay 31 = .ok (.iload_n 2, 1) := by decide +kernel
theorem dX9_unsay_32 : decode cX9_unsay 32 = .ok (.invokevirtual 85, 3) := by decide +kernel
theorem dX9_unsay_35 : decode cX9_unsay 35 = .ok (.iconst 0, 1) := by decide +kernel
theorem dX9_unsay_36 : decode cX9_unsay 36 = .ok (.iastore, 1) := by decide +kernel
theorem dX9_unsay_37 : decode cX9_unsay 37 = .ok (.iconst 1, 1) := by decide +kernel
theorem dX9_unsay_38 : decode cX9_unsay 38 = .ok (.ireturn, 1) := by decide +kernel
theorem dX9_isSaid_0 : decode cX9_isSaid 0 = .ok (.aload_n 0, 1) := by decide +kernel
theorem dX9_isSaid_1 : decode cX9_isSaid 1 = .ok (.getfield 9, 3) := by decide +kernel
theorem dX9_isSaid_4 : decode cX9_isSaid 4 = .ok (.aload_n 0, 1) := by decide +kernel
theorem dX9_isSaid_5 : decode cX9_isSaid 5 = .ok (.iload_n 1, 1) := by decide +kernel
theorem dX9_isSaid_6 : decode cX9_isSaid 6 = .ok (.iload_n 2, 1) := by decide +kernel
theorem dX9_isSaid_7 : decode cX9_isSaid 7 = .ok (.invokevirtual 85, 3) := by decide +kernel
theorem dX9_isSaid_10 : decode cX9_isSaid 10 = .ok (.iaload, 1) := by decide +kernel
theorem dX9_isSaid_11 : decode cX9_isSaid 11 = .ok (.ifCond .le 7, 3) := by decide +kernel
theorem dX9_isSaid_14 : decode cX9_isSaid 14 = .ok (.iconst 1, 1) := by decide +kernel
theorem dX9_isSaid_15 : decode cX9_isSaid 15 = .ok (.goto 4, 3) := by decide +kernel
theorem dX9_isSaid_18 : decode cX9_isSaid 18 = .ok (.iconst 0, 1) := by decide +kernel
theorem dX9_isSaid_19 : decode cX9_isSaid 19 = .ok (.ireturn, 1) := by decide +kernel
theorem dX9_topOf_0 : decode cX9_topOf 0 = .ok (.iload_n 1, 1) := by decide +kernel
theorem dX9_topOf_1 : decode cX9_topOf 1 = .ok (.iload_n 2, 1) := by decide +kernel
theorem dX9_topOf_2 : decode cX9_topOf 2 = .ok (.if_icmp .ge 17, 3) := by decide +kernel
theorem dX9_topOf_5 : decode cX9_topOf 5 = .ok (.aload_n 0, 1) := by decide +kernel
theorem dX9_topOf_6 : decode cX9_topOf 6 = .ok (.getfield 9, 3) := by decide +kernel
theorem dX9_topOf_9 : decode cX9_topOf 9 = .ok (.aload_n 0, 1) := by decide +kernel
theorem dX9_topOf_10 : decode cX9_topOf 10 = .ok (.iload_n 1, 1) := by decide +kernel
theorem dX9_topOf_11 : decode cX9_topOf 11 = .ok (.iload_n 2, 1) := by decide +kernel
theorem dX9_topOf_12 : decode cX9_topOf 12 = .ok (.invokevirtual 85, 3) := by decide +kernel
theorem dX9_topOf_15 : decode cX9_topOf 15 = .ok (.iaload, 1) := by decide +kernel
theorem dX9_topOf_16 : decode cX9_topOf 16 = .ok (.goto 14, 3) := by decide +kernel
theorem dX9_topOf_19 : decode cX9_topOf 19 = .ok (.aload_n 0, 1) := by decide +kernel
theorem dX9_topOf_20 : decode cX9_topOf 20 = .ok (.getfield 13, 3) := by decide +kernel
theorem dX9_topOf_23 : decode cX9_topOf 23 = .ok (.aload_n 0, 1) := by decide +kernel
theorem dX9_topOf_24 : decode cX9_topOf 24 = .ok (.iload_n 1, 1) := by decide +kernel
theorem dX9_topOf_25 : decode cX9_topOf 25 = .ok (.iload_n 2, 1) := by decide +kernel
theorem dX9_topOf_26 : decode cX9_topOf 26 = .ok (.invokevirtual 85, 3) := by decide +kernel
theorem dX9_topOf_29 : decode cX9_topOf 29 = .ok (.iaload, 1) := by decide +kernel
theorem dX9_topOf_30 : decode cX9_topOf 30 = .ok (.ireturn, 1) := by decide +kernel
theorem dX9_bottomOf_0 : decode cX9_bottomOf 0 = .ok (.iload_n 1, 1) := by decide +kernel
theorem dX9_bottomOf_1 : decode cX9_bottomOf 1 = .ok (.iload_n 2, 1) := by decide +kernel
