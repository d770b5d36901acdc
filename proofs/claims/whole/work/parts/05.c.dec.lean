-- decode rows: X1 X2a
theorem dX1_of_0 : decode cX1_of 0 = .ok (.lload_n 0, 1) := by decide +kernel
theorem dX1_of_1 : decode cX1_of 1 = .ok (.bipush 32, 2) := by decide +kernel
theorem dX1_of_3 : decode cX1_of 3 = .ok (.lshl, 1) := by decide +kernel
theorem dX1_of_4 : decode cX1_of 4 = .ok (.lload_n 2, 1) := by decide +kernel
theorem dX1_of_5 : decode cX1_of 5 = .ok (.lor, 1) := by decide +kernel
theorem dX1_of_6 : decode cX1_of 6 = .ok (.lreturn, 1) := by decide +kernel
theorem dX1_top_0 : decode cX1_top 0 = .ok (.lload_n 0, 1) := by decide +kernel
theorem dX1_top_1 : decode cX1_top 1 = .ok (.bipush 32, 2) := by decide +kernel
theorem dX1_top_3 : decode cX1_top 3 = .ok (.lushr, 1) := by decide +kernel
theorem dX1_top_4 : decode cX1_top 4 = .ok (.lreturn, 1) := by decide +kernel
theorem dX1_bottom_0 : decode cX1_bottom 0 = .ok (.lload_n 0, 1) := by decide +kernel
theorem dX1_bottom_1 : decode cX1_bottom 1 = .ok (.ldc2_w 7, 3) := by decide +kernel
theorem dX1_bottom_4 : decode cX1_bottom 4 = .ok (.land, 1) := by decide +kernel
theorem dX1_bottom_5 : decode cX1_bottom 5 = .ok (.lreturn, 1) := by decide +kernel
theorem dX1_times_0 : decode cX1_times 0 = .ok (.lload_n 0, 1) := by decide +kernel
theorem dX1_times_1 : decode cX1_times 1 = .ok (.invokestatic 9, 3) := by decide +kernel
theorem dX1_times_4 : decode cX1_times 4 = .ok (.lload_n 2, 1) := by decide +kernel
theorem dX1_times_5 : decode cX1_times 5 = .ok (.invokestatic 9, 3) := by decide +kernel
theorem dX1_times_8 : decode cX1_times 8 = .ok (.lmul, 1) := by decide +kernel
theorem dX1_times_9 : decode cX1_times 9 = .ok (.lload_n 0, 1) := by decide +kernel
theorem dX1_times_10 : decode cX1_times 10 = .ok (.invokestatic 15, 3) := by decide +kernel
theorem dX1_times_13 : decode cX1_times 13 = .ok (.lload_n 2, 1) := by decide +kernel
theorem dX1_times_14 : decode cX1_times 14 = .ok (.invokestatic 15, 3) := by decide +kernel
theorem dX1_times_17 : decode cX1_times 17 = .ok (.lmul, 1) := by decide +kernel
theorem dX1_times_18 : decode cX1_times 18 = .ok (.invokestatic 18, 3) := by decide +kernel
theorem dX1_times_21 : decode cX1_times 21 = .ok (.lreturn, 1) := by decide +kernel
theorem dX1_inverse_0 : decode cX1_inverse 0 = .ok (.lload_n 0, 1) := by decide +kernel
theorem dX1_inverse_1 : decode cX1_inverse 1 = .ok (.invokestatic 15, 3) := by decide +kernel
theorem dX1_inverse_4 : decode cX1_inverse 4 = .ok (.lload_n 0, 1) := by decide +kernel
theorem dX1_inverse_5 : decode cX1_inverse 5 = .ok (.invokestatic 9, 3) := by decide +kernel
theorem dX1_inverse_8 : decode cX1_inverse 8 = .ok (.invokestatic 18, 3) := by decide +kernel
theorem dX1_inverse_11 : decode cX1_inverse 11 = .ok (.lreturn, 1) := by decide +kernel
theorem dX1_isAbove_0 : decode cX1_isAbove 0 = .ok (.lload_n 0, 1) := by decide +kernel
theorem dX1_isAbove_1 : decode cX1_isAbove 1 = .ok (.invokestatic 9, 3) := by decide +kernel
theorem dX1_isAbove_4 : decode cX1_isAbove 4 = .ok (.lload_n 2, 1) := by decide +kernel
theorem dX1_isAbove_5 : decode cX1_isAbove 5 = .ok (.invokestatic 15, 3) := by decide +kernel
theorem dX1_isAbove_8 : decode cX1_isAbove 8 = .ok (.lmul, 1) := by decide +kernel
theorem dX1_isAbove_9 : decode cX1_isAbove 9 = .ok (.lload_n 2, 1) := by decide +kernel
theorem dX1_isAbove_10 : decode cX1_isAbove 10 = .ok (.invokestatic 9, 3) := by decide +kernel
theorem dX1_isAbove_13 : decode cX1_isAbove 13 = .ok (.lload_n 0, 1) := by decide +kernel
theorem dX1_isAbove_14 : decode cX1_isAbove 14 = .ok (.invokestatic 15, 3) := by decide +kernel
theorem dX1_isAbove_17 : decode cX1_isAbove 17 = .ok (.lmul, 1) := by decide +kernel
theorem dX1_isAbove_18 : decode cX1_isAbove 18 = .ok (.lcmp, 1) := by decide +kernel
theorem dX1_isAbove_19 : decode cX1_isAbove 19 = .ok (.ifCond .le 7, 3) := by decide +kernel
theorem dX1_isAbove_22 : decode cX1_isAbove 22 = .ok (.iconst 1, 1) := by decide +kernel
theorem dX1_isAbove_23 : decode cX1_isAbove 23 = .ok (.goto 4, 3) := by decide +kernel
theorem dX1_isAbove_26 : decode cX1_isAbove 26 = .ok (.iconst 0, 1) := by decide +kernel
theorem dX1_isAbove_27 : decode cX1_isAbove 27 = .ok (.ireturn, 1) := by decide +kernel
theorem dX1_part_0 : decode cX1_part 0 = .ok (.iload_n 2, 1) := by decide +kernel
theorem dX1_part_1 : decode cX1_part 1 = .ok (.ifCond .ne 10, 3) := by decide +kernel
theorem dX1_part_4 : decode cX1_part 4 = .ok (.lload_n 0, 1) := by decide +kernel
theorem dX1_part_5 : decode cX1_part 5 = .ok (.invokestatic 9, 3) := by decide +kernel
theorem dX1_part_8 : decode cX1_part 8 = .ok (.goto 7, 3) := by decide +kernel
theorem dX1_part_11 : decode cX1_part 11 = .ok (.lload_n 0, 1) := by decide +kernel
theorem dX1_part_12 : decode cX1_part 12 = .ok (.invokestatic 15, 3) := by decide +kernel
theorem dX1_part_15 : decode cX1_part 15 = .ok (.lstore_n 3, 1) := by decide +kernel
theorem dX1_part_16 : decode cX1_part 16 = .ok (.lload_n 0, 1) := by decide +kernel
theorem dX1_part_17 : decode cX1_part 17 = .ok (.invokestatic 9, 3) := by decide +kernel
theorem dX1_part_20 : decode cX1_part 20 = .ok (.lload_n 0, 1) := by decide +kernel
theorem dX1_part_21 : decode cX1_part 21 = .ok (.invokestatic 15, 3) := by decide +kernel
theorem dX1_part_24 : decode cX1_part 24 = .ok (.invokestatic 22, 3) := by decide +kernel
theorem dX1_part_27 : decode cX1_part 27 = .ok (.lstore 5, 2) := by decide +kernel
theorem dX1_part_29 : decode cX1_part 29 = .ok (.lload 5, 2) := by decide +kernel
theorem dX1_part_31 : decode cX1_part 31 = .ok (.lconst 1, 1) := by decide +kernel
theorem dX1_part_32 : decode cX1_part 32 = .ok (.lcmp, 1) := by decide +kernel
theorem dX1_part_33 : decode cX1_part 33 = .ok (.ifCond .le 10, 3) := by decide +kernel
theorem dX1_part_36 : decode cX1_part 36 = .ok (.lload_n 3, 1) := by decide +kernel
theorem dX1_part_37 : decode cX1_part 37 = .ok (.lload 5, 2) := by decide +kernel
theorem dX1_part_39 : decode cX1_part 39 = .ok (.ldiv, 1) := by decide +kernel
theorem dX1_part_40 : decode cX1_part 40 = .ok (.goto 4, 3) := by decide +kernel
theorem dX1_part_43 : decode cX1_part 43 = .ok (.lload_n 3, 1) := by decide +kernel
theorem dX1_part_44 : decode cX1_part 44 = .ok (.l2i, 1) := by decide +kernel
theorem dX1_part_45 : decode cX1_part 45 = .ok (.ireturn, 1) := by decide +kernel
theorem dX1_commonDivisor_0 : decode cX1_commonDivisor 0 = .ok (.lload_n 0, 1) := by decide +kernel
theorem dX1_commonDivisor_1 : decode cX1_commonDivisor 1 = .ok (.lstore 4, 2) := by decide +kernel
theorem dX1_commonDivisor_3 : decode cX1_commonDivisor 3 = .ok (.lload_n 2, 1) := by decide +kernel
theorem dX1_commonDivisor_4 : decode cX1_commonDivisor 4 = .ok (.lstore 6, 2) := by decide +kernel
theorem dX1_commonDivisor_6 : decode cX1_commonDivisor 6 = .ok (.iconst 0, 1) := by decide +kernel
theorem dX1_commonDivisor_7 : decode cX1_commonDivisor 7 = .ok (.istore 8, 2) := by decide +kernel
theorem dX1_commonDivisor_9 : decode cX1_commonDivisor 9 = .ok (.iload 8, 2) := by decide +kernel
theorem dX1_commonDivisor_11 : decode cX1_commonDivisor 11 = .ok (.bipush 100, 2) := by decide +kernel
theorem dX1_commonDivisor_13 : decode cX1_commonDivisor 13 = .ok (.if_icmp .ge 31, 3) := by decide +kernel
theorem dX1_commonDivisor_16 : decode cX1_commonDivisor 16 = .ok (.lload 6, 2) := by decide +kernel
theorem dX1_commonDivisor_18 : decode cX1_commonDivisor 18 = .ok (.lconst 0, 1) := by decide +kernel
theorem dX1_commonDivisor_19 : decode cX1_commonDivisor 19 = .ok (.lcmp, 1) := by decide +kernel
theorem dX1_commonDivisor_20 : decode cX1_commonDivisor 20 = .ok (.ifCond .eq 24, 3) := by decide +kernel
theorem dX1_commonDivisor_23 : decode cX1_commonDivisor 23 = .ok (.lload 4, 2) := by decide +kernel
theorem dX1_commonDivisor_25 : decode cX1_commonDivisor 25 = .ok (.lload 6, 2) := by decide +kernel
theorem dX1_commonDivisor_27 : decode cX1_commonDivisor 27 = .ok (.lrem, 1) := by decide +kernel
theorem dX1_commonDivisor_28 : decode cX1_commonDivisor 28 = .ok (.lstore 9, 2) := by decide +kernel
theorem dX1_commonDivisor_30 : decode cX1_commonDivisor 30 = .ok (.lload 6, 2) := by decide +kernel
theorem dX1_commonDivisor_32 : decode cX1_commonDivisor 32 = .ok (.lstore 4, 2) := by decide +kernel
theorem dX1_commonDivisor_34 : decode cX1_commonDivisor 34 = .ok (.lload 9, 2) := by decide +kernel
theorem dX1_commonDivisor_36 : decode cX1_commonDivisor 36 = .ok (.lstore 6, 2) := by decide +kernel
theorem dX1_commonDivisor_38 : decode cX1_commonDivisor 38 = .ok (.iinc 8 1, 3) := by decide +kernel
theorem dX1_commonDivisor_41 : decode cX1_commonDivisor 41 = .ok (.goto (-32), 3) := by decide +kernel
theorem dX1_commonDivisor_44 : decode cX1_commonDivisor 44 = .ok (.lload 4, 2) := by decide +kernel
theorem dX1_commonDivisor_46 : decode cX1_commonDivisor 46 = .ok (.lreturn, 1) := by decide +kernel
theorem dX2_init_0 : decode cX2_init 0 = .ok (.aload_n 0, 1) := by decide +kernel
theorem dX2_init_1 : decode cX2_init 1 = .ok (.invokespecial 1, 3) := by decide +kernel
theorem dX2_init_4 : decode cX2_init 4 = .ok (.aload_n 0, 1) := by decide +kernel
theorem dX2_init_5 : decode cX2_init 5 = .ok (.iload_n 1, 1) := by decide +kernel
theorem dX2_init_6 : decode cX2_init 6 = .ok (.putfield 7, 3) := by decide +kernel
theorem dX2_init_9 : decode cX2_init 9 = .ok (.aload_n 0, 1) := by decide +kernel
theorem dX2_init_10 : decode cX2_init 10 = .ok (.iload_n 1, 1) := by decide +kernel
theorem dX2_init_11 : decode cX2_init 11 = .ok (.iload_n 1, 1) := by decide +kernel
theorem dX2_init_12 : decode cX2_init 12 = .ok (.iconst 1, 1) := by decide +kernel
theorem dX2_init_13 : decode cX2_init 13 = .ok (.isub, 1) := by decide +kernel
theorem dX2_init_14 : decode cX2_init 14 = .ok (.imul, 1) := by decide +kernel
theorem dX2_init_15 : decode cX2_init 15 = .ok (.iconst 2, 1) := by decide +kernel
theorem dX2_init_16 : decode cX2_init 16 = .ok (.idiv, 1) := by decide +kernel
theorem dX2_init_17 : decode cX2_init 17 = .ok (.putfield 13, 3) := by decide +kernel
theorem dX2_init_20 : decode cX2_init 20 = .ok (.aload_n 0, 1) := by decide +kernel
theorem dX2_init_21 : decode cX2_init 21 = .ok (.aload_n 0, 1) := by decide +kernel
theorem dX2_init_22 : decode cX2_init 22 = .ok (.getfield 13, 3) := by decide +kernel
theorem dX2_init_25 : decode cX2_init 25 = .ok (.newarray .int, 2) := by decide +kernel
theorem dX2_init_27 : decode cX2_init 27 = .ok (.putfield 16, 3) := by decide +kernel
theorem dX2_init_30 : decode cX2_init 30 = .ok (.aload_n 0, 1) := by decide +kernel
theorem dX2_init_31 : decode cX2_init 31 = .ok (.aload_n 0, 1) := by decide +kernel
theorem dX2_init_32 : decode cX2_init 32 = .ok (.getfield 13, 3) := by decide +kernel
theorem dX2_init_35 : decode cX2_init 35 = .ok (.newarray .int, 2) := by decide +kernel
theorem dX2_init_37 : decode cX2_init 37 = .ok (.putfield 20, 3) := by decide +kernel
theorem dX2_init_40 : decode cX2_init 40 = .ok (.aload_n 0, 1) := by decide +kernel
theorem dX2_init_41 : decode cX2_init 41 = .ok (.iload_n 1, 1) := by decide +kernel
theorem dX2_init_42 : decode cX2_init 42 = .ok (.iload_n 1, 1) := by decide +kernel
theorem dX2_init_43 : decode cX2_init 43 = .ok (.multianewarray 23 2, 4) := by decide +kernel
theorem dX2_init_47 : decode cX2_init 47 = .ok (.putfield 25, 3) := by decide +kernel
theorem dX2_init_50 : decode cX2_init 50 = .ok (.aload_n 0, 1) := by decide +kernel
theorem dX2_init_51 : decode cX2_init 51 = .ok (.iload_n 1, 1) := by decide +kernel
theorem dX2_init_52 : decode cX2_init 52 = .ok (.iload_n 1, 1) := by decide +kernel
theorem dX2_init_53 : decode cX2_init 53 = .ok (.multianewarray 23 2, 4) := by decide +kernel
theorem dX2_init_57 : decode cX2_init 57 = .ok (.putfield 28, 3) := by decide +kernel
theorem dX2_init_60 : decode cX2_init 60 = .ok (.iconst 0, 1) := by decide +kernel
theorem dX2_init_61 : decode cX2_init 61 = .ok (.istore_n 2, 1) := by decide +kernel
theorem dX2_init_62 : decode cX2_init 62 = .ok (.iconst 0, 1) := by decide +kernel
theorem dX2_init_63 : decode cX2_init 63 = .ok (.istore_n 3, 1) := by decide +kernel
theorem dX2_init_64 : decode cX2_init 64 = .ok (.iload_n 3, 1) := by decide +kernel
theorem dX2_init_65 : decode cX2_init 65 = .ok (.iload_n 1, 1) := by decide +kernel
theorem dX2_init_66 : decode cX2_init 66 = .ok (.if_icmp .ge 53, 3) := by decide +kernel
theorem dX2_init_69 : decode cX2_init 69 = .ok (.aload_n 0, 1) := by decide +kernel
theorem dX2_init_70 : decode cX2_init 70 = .ok (.getfield 25, 3) := by decide +kernel
theorem dX2_init_73 : decode cX2_init 73 = .ok (.iconst 0, 1) := by decide +kernel
theorem dX2_init_74 : decode cX2_init 74 = .ok (.aaload, 1) := by decide +kernel
theorem dX2_init_75 : decode cX2_init 75 = .ok (.iload_n 3, 1) := by decide +kernel
theorem dX2_init_76 : decode cX2_init 76 = .ok (.iload_n 3, 1) := by decide +kernel
theorem dX2_init_77 : decode cX2_init 77 = .ok (.iastore, 1) := by decide +kernel
theorem dX2_init_78 : decode cX2_init 78 = .ok (.iload_n 3, 1) := by decide +kernel
theorem dX2_init_79 : decode cX2_init 79 = .ok (.iconst 1, 1) := by decide +kernel
theorem dX2_init_80 : decode cX2_init 80 = .ok (.iadd, 1) := by decide +kernel
theorem dX2_init_81 : decode cX2_init 81 = .ok (.istore 4, 2) := by decide +kernel
theorem dX2_init_83 : decode cX2_init 83 = .ok (.iload 4, 2) := by decide +kernel
theorem dX2_init_85 : decode cX2_init 85 = .ok (.iload_n 1, 1) := by decide +kernel
theorem dX2_init_86 : decode cX2_init 86 = .ok (.if_icmp .ge 27, 3) := by decide +kernel
theorem dX2_init_89 : decode cX2_init 89 = .ok (.aload_n 0, 1) := by decide +kernel
theorem dX2_init_90 : decode cX2_init 90 = .ok (.getfield 16, 3) := by decide +kernel
theorem dX2_init_93 : decode cX2_init 93 = .ok (.iload_n 2, 1) := by decide +kernel
theorem dX2_init_94 : decode cX2_init 94 = .ok (.iload_n 3, 1) := by decide +kernel
theorem dX2_init_95 : decode cX2_init 95 = .ok (.iastore, 1) := by decide +kernel
theorem dX2_init_96 : decode cX2_init 96 = .ok (.aload_n 0, 1) := by decide +kernel
theorem dX2_init_97 : decode cX2_init 97 = .ok (.getfield 20, 3) := by decide +kernel
theorem dX2_init_100 : decode cX2_init 100 = .ok (.iload_n 2, 1) := by decide +kernel
theorem dX2_init_101 : decode cX2_init 101 = .ok (.iload 4, 2) := by decide +kernel
theorem dX2_init_103 : decode cX2_init 103 = .ok (.iastore, 1) := by decide +kernel
theorem dX2_init_104 : decode cX2_init 104 = .ok (.iinc 2 1, 3) := by decide +kernel
theorem dX2_init_107 : decode cX2_init 107 = .ok (.iinc 4 1, 3) := by decide +kernel
theorem dX2_init_110 : decode cX2_init 110 = .ok (.goto (-27), 3) := by decide +kernel
theorem dX2_init_113 : decode cX2_init 113 = .ok (.iinc 3 1, 3) := by decide +kernel
theorem dX2_init_116 : decode cX2_init 116 = .ok (.goto (-52), 3) := by decide +kernel
theorem dX2_init_119 : decode cX2_init 119 = .ok (.return_, 1) := by decide +kernel
theorem dX2_search_0 : decode cX2_search 0 = .ok (.aload_n 0, 1) := by decide +kernel
theorem dX2_search_1 : decode cX2_search 1 = .ok (.aload_n 0, 1) := by decide +kernel
theorem dX2_search_2 : decode cX2_search 2 = .ok (.getfield 13, 3) := by decide +kernel
theorem dX2_search_5 : decode cX2_search 5 = .ok (.iconst 1, 1) := by decide +kernel
theorem dX2_search_6 : decode cX2_search 6 = .ok (.iadd, 1) := by decide +kernel
theorem dX2_search_7 : decode cX2_search 7 = .ok (.putfield 31, 3) := by decide +kernel
theorem dX2_search_10 : decode cX2_search 10 = .ok (.aload_n 0, 1) := by decide +kernel
theorem dX2_search_11 : decode cX2_search 11 = .ok (.iconst 0, 1) := by decide +kernel
theorem dX2_search_12 : decode cX2_search 12 = .ok (.putfield 34, 3) := by decide +kernel
theorem dX2_search_15 : decode cX2_search 15 = .ok (.aload_n 0, 1) := by decide +kernel
theorem dX2_search_16 : decode cX2_search 16 = .ok (.aload_n 1, 1) := by decide +kernel
theorem dX2_search_17 : decode cX2_search 17 = .ok (.aload_n 0, 1) := by decide +kernel
theorem dX2_search_18 : decode cX2_search 18 = .ok (.getfield 13, 3) := by decide +kernel
theorem dX2_search_21 : decode cX2_search 21 = .ok (.iconst 1, 1) := by decide +kernel
theorem dX2_search_22 : decode cX2_search 22 = .ok (.isub, 1) := by decide +kernel
theorem dX2_search_23 : decode cX2_search 23 = .ok (.iconst 0, 1) := by decide +kernel
theorem dX2_search_24 : decode cX2_search 24 = .ok (.iconst 0, 1) := by decide +kernel
theorem dX2_search_25 : decode cX2_search 25 = .ok (.iconst 0, 1) := by decide +kernel
theorem dX2_search_26 : decode cX2_search 26 = .ok (.invokevirtual 37, 3) := by decide +kernel
theorem dX2_search_29 : decode cX2_search 29 = .ok (.return_, 1) := by decide +kernel
theorem dX2_settle_0 : decode cX2_settle 0 = .ok (.iload 5, 2) := by decide +kernel
theorem dX2_settle_2 : decode cX2_settle 2 = .ok (.aload_n 0, 1) := by decide +kernel
theorem dX2_settle_3 : decode cX2_settle 3 = .ok (.getfield 31, 3) := by decide +kernel
theorem dX2_settle_6 : decode cX2_settle 6 = .ok (.if_icmp .lt 4, 3) := by decide +kernel
theorem dX2_settle_9 : decode cX2_settle 9 = .ok (.return_, 1) := by decide +kernel
theorem dX2_settle_10 : decode cX2_settle 10 = .ok (.iload_n 2, 1) := by decide +kernel
theorem dX2_settle_11 : decode cX2_settle 11 = .ok (.ifCond .ge 16, 3) := by decide +kernel
theorem dX2_settle_14 : decode cX2_settle 14 = .ok (.aload_n 0, 1) := by decide +kernel
theorem dX2_settle_15 : decode cX2_settle 15 = .ok (.iload 5, 2) := by decide +kernel
theorem dX2_settle_17 : decode cX2_settle 17 = .ok (.putfield 31, 3) := by decide +kernel
theorem dX2_settle_20 : decode cX2_settle 20 = .ok (.aload_n 0, 1) := by decide +kernel
theorem dX2_settle_21 : decode cX2_settle 21 = .ok (.iload 4, 2) := by decide +kernel
theorem dX2_settle_23 : decode cX2_settle 23 = .ok (.putfield 34, 3) := by decide +kernel
theorem dX2_settle_26 : decode cX2_settle 26 = .ok (.return_, 1) := by decide +kernel
theorem dX2_settle_27 : decode cX2_settle 27 = .ok (.aload_n 0, 1) := by decide +kernel
theorem dX2_settle_28 : decode cX2_settle 28 = .ok (.getfield 16, 3) := by decide +kernel
theorem dX2_settle_31 : decode cX2_settle 31 = .ok (.iload_n 2, 1) := by decide +kernel
theorem dX2_settle_32 : decode cX2_settle 32 = .ok (.iaload, 1) := by decide +kernel
theorem dX2_settle_33 : decode cX2_settle 33 = .ok (.istore 6, 2) := by decide +kernel
theorem dX2_settle_35 : decode cX2_settle 35 = .ok (.aload_n 0, 1) := by decide +kernel
theorem dX2_settle_36 : decode cX2_settle 36 = .ok (.getfield 20, 3) := by decide +kernel
theorem dX2_settle_39 : decode cX2_settle 39 = .ok (.iload_n 2, 1) := by decide +kernel
theorem dX2_settle_40 : decode cX2_settle 40 = .ok (.iaload, 1) := by decide +kernel
theorem dX2_settle_41 : decode cX2_settle 41 = .ok (.istore 7, 2) := by decide +kernel
theorem dX2_settle_43 : decode cX2_settle 43 = .ok (.aload_n 1, 1) := by decide +kernel
theorem dX2_settle_44 : decode cX2_settle 44 = .ok (.iload 6, 2) := by decide +kernel
theorem dX2_settle_46 : decode cX2_settle 46 = .ok (.iload 7, 2) := by decide +kernel
theorem dX2_settle_48 : decode cX2_settle 48 = .ok (.invokevirtual 41, 3) := by decide +kernel
theorem dX2_settle_51 : decode cX2_settle 51 = .ok (.ifCond .ne 17, 3) := by decide +kernel
theorem dX2_settle_54 : decode cX2_settle 54 = .ok (.aload_n 0, 1) := by decide +kernel
theorem dX2_settle_55 : decode cX2_settle 55 = .ok (.aload_n 1, 1) := by decide +kernel
theorem dX2_settle_56 : decode cX2_settle 56 = .ok (.iload_n 2, 1) := by decide +kernel
theorem dX2_settle_57 : decode cX2_settle 57 = .ok (.iconst 1, 1) := by decide +kernel
theorem dX2_settle_58 : decode cX2_settle 58 = .ok (.isub, 1) := by decide +kernel
theorem dX2_settle_59 : decode cX2_settle 59 = .ok (.iload_n 3, 1) := by decide +kernel
theorem dX2_settle_60 : decode cX2_settle 60 = .ok (.iload 4, 2) := by decide +kernel
theorem dX2_settle_62 : decode cX2_settle 62 = .ok (.iload 5, 2) := by decide +kernel
theorem dX2_settle_64 : decode cX2_settle 64 = .ok (.invokevirtual 37, 3) := by decide +kernel
theorem dX2_settle_67 : decode cX2_settle 67 = .ok (.return_, 1) := by decide +kernel
theorem dX2_settle_68 : decode cX2_settle 68 = .ok (.aload_n 1, 1) := by decide +kernel
theorem dX2_settle_69 : decode cX2_settle 69 = .ok (.iload 6, 2) := by decide +kernel
theorem dX2_settle_71 : decode cX2_settle 71 = .ok (.iload 7, 2) := by decide +kernel
theorem dX2_settle_73 : decode cX2_settle 73 = .ok (.invokevirtual 47, 3) := by decide +kernel
theorem dX2_settle_76 : decode cX2_settle 76 = .ok (.invokestatic 51, 3) := by decide +kernel
theorem dX2_settle_79 : decode cX2_settle 79 = .ok (.istore 8, 2) := by decide +kernel
theorem dX2_settle_81 : decode cX2_settle 81 = .ok (.aload_n 0, 1) := by decide +kernel
theorem dX2_settle_82 : decode cX2_settle 82 = .ok (.getfield 25, 3) := by decide +kernel
theorem dX2_settle_85 : decode cX2_settle 85 = .ok (.iload_n 3, 1) := by decide +kernel
theorem dX2_settle_86 : decode cX2_settle 86 = .ok (.aaload, 1) := by decide +kernel
theorem dX2_settle_87 : decode cX2_settle 87 = .ok (.iload 6, 2) := by decide +kernel
theorem dX2_settle_89 : decode cX2_settle 89 = .ok (.iaload, 1) := by decide +kernel
theorem dX2_settle_90 : decode cX2_settle 90 = .ok (.aload_n 0, 1) := by decide +kernel
theorem dX2_settle_91 : decode cX2_settle 91 = .ok (.getfield 25, 3) := by decide +kernel
theorem dX2_settle_94 : decode cX2_settle 94 = .ok (.iload_n 3, 1) := by decide +kernel
theorem dX2_settle_95 : decode cX2_settle 95 = .ok (.aaload, 1) := by decide +kernel
theorem dX2_settle_96 : decode cX2_settle 96 = .ok (.iload 7, 2) := by decide +kernel
theorem dX2_settle_98 : decode cX2_settle 98 = .ok (.iaload, 1) := by decide +kernel
theorem dX2_settle_99 : decode cX2_settle 99 = .ok (.if_icmp .ne 7, 3) := by decide +kernel
theorem dX2_settle_102 : decode cX2_settle 102 = .ok (.iconst 1, 1) := by decide +kernel
theorem dX2_settle_103 : decode cX2_settle 103 = .ok (.goto 4, 3) := by decide +kernel
theorem dX2_settle_106 : decode cX2_settle 106 = .ok (.iconst 0, 1) := by decide +kernel
theorem dX2_settle_107 : decode cX2_settle 107 = .ok (.istore 9, 2) := by decide +kernel
theorem dX2_settle_109 : decode cX2_settle 109 = .ok (.aload_n 0, 1) := by decide +kernel
theorem dX2_settle_110 : decode cX2_settle 110 = .ok (.getfield 28, 3) := by decide +kernel
theorem dX2_settle_113 : decode cX2_settle 113 = .ok (.iload_n 3, 1) := by decide +kernel
theorem dX2_settle_114 : decode cX2_settle 114 = .ok (.aaload, 1) := by decide +kernel
theorem dX2_settle_115 : decode cX2_settle 115 = .ok (.iload 6, 2) := by decide +kernel
theorem dX2_settle_117 : decode cX2_settle 117 = .ok (.iaload, 1) := by decide +kernel
theorem dX2_settle_118 : decode cX2_settle 118 = .ok (.aload_n 0, 1) := by decide +kernel
theorem dX2_settle_119 : decode cX2_settle 119 = .ok (.getfield 28, 3) := by decide +kernel
theorem dX2_settle_122 : decode cX2_settle 122 = .ok (.iload_n 3, 1) := by decide +kernel
theorem dX2_settle_123 : decode cX2_settle 123 = .ok (.aaload, 1) := by decide +kernel
theorem dX2_settle_124 : decode cX2_settle 124 = .ok (.iload 7, 2) := by decide +kernel
theorem dX2_settle_126 : decode cX2_settle 126 = .ok (.iaload, 1) := by decide +kernel
theorem dX2_settle_127 : decode cX2_settle 127 = .ok (.isub, 1) := by decide +kernel
theorem dX2_settle_128 : decode cX2_settle 128 = .ok (.iload 8, 2) := by decide +kernel
theorem dX2_settle_130 : decode cX2_settle 130 = .ok (.if_icmp .ne 7, 3) := by decide +kernel
theorem dX2_settle_133 : decode cX2_settle 133 = .ok (.iconst 1, 1) := by decide +kernel
theorem dX2_settle_134 : decode cX2_settle 134 = .ok (.goto 4, 3) := by decide +kernel
theorem dX2_settle_137 : decode cX2_settle 137 = .ok (.iconst 0, 1) := by decide +kernel
