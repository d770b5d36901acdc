-- decode rows: X9c
theorem dX9_all_9 : decode cX9_all 9 = .ok (.if_icmp .ge 28, 3) := by decide +kernel
theorem dX9_all_12 : decode cX9_all 12 = .ok (.iload_n 1, 1) := by decide +kernel
theorem dX9_all_13 : decode cX9_all 13 = .ok (.aload_n 0, 1) := by decide +kernel
theorem dX9_all_14 : decode cX9_all 14 = .ok (.getfield 9, 3) := by decide +kernel
theorem dX9_all_17 : decode cX9_all 17 = .ok (.iload_n 2, 1) := by decide +kernel
theorem dX9_all_18 : decode cX9_all 18 = .ok (.iaload, 1) := by decide +kernel
theorem dX9_all_19 : decode cX9_all 19 = .ok (.ifCond .le 9, 3) := by decide +kernel
theorem dX9_all_22 : decode cX9_all 22 = .ok (.iconst 1, 1) := by decide +kernel
theorem dX9_all_23 : decode cX9_all 23 = .ok (.iload_n 2, 1) := by decide +kernel
theorem dX9_all_24 : decode cX9_all 24 = .ok (.ishl, 1) := by decide +kernel
theorem dX9_all_25 : decode cX9_all 25 = .ok (.goto 4, 3) := by decide +kernel
theorem dX9_all_28 : decode cX9_all 28 = .ok (.iconst 0, 1) := by decide +kernel
theorem dX9_all_29 : decode cX9_all 29 = .ok (.ior, 1) := by decide +kernel
theorem dX9_all_30 : decode cX9_all 30 = .ok (.istore_n 1, 1) := by decide +kernel
theorem dX9_all_31 : decode cX9_all 31 = .ok (.iinc 2 1, 3) := by decide +kernel
theorem dX9_all_34 : decode cX9_all 34 = .ok (.goto (-30), 3) := by decide +kernel
theorem dX9_all_37 : decode cX9_all 37 = .ok (.iload_n 1, 1) := by decide +kernel
theorem dX9_all_38 : decode cX9_all 38 = .ok (.ireturn, 1) := by decide +kernel
theorem dX9_even_0 : decode cX9_even 0 = .ok (.aload_n 0, 1) := by decide +kernel
theorem dX9_even_1 : decode cX9_even 1 = .ok (.aload_n 0, 1) := by decide +kernel
theorem dX9_even_2 : decode cX9_even 2 = .ok (.invokevirtual 100, 3) := by decide +kernel
theorem dX9_even_5 : decode cX9_even 5 = .ok (.invokevirtual 104, 3) := by decide +kernel
theorem dX9_even_8 : decode cX9_even 8 = .ok (.ireturn, 1) := by decide +kernel
theorem dX9_trees_0 : decode cX9_trees 0 = .ok (.aload_n 0, 1) := by decide +kernel
theorem dX9_trees_1 : decode cX9_trees 1 = .ok (.invokevirtual 100, 3) := by decide +kernel
theorem dX9_trees_4 : decode cX9_trees 4 = .ok (.istore_n 1, 1) := by decide +kernel
theorem dX9_trees_5 : decode cX9_trees 5 = .ok (.iconst 0, 1) := by decide +kernel
theorem dX9_trees_6 : decode cX9_trees 6 = .ok (.istore_n 2, 1) := by decide +kernel
theorem dX9_trees_7 : decode cX9_trees 7 = .ok (.iconst 0, 1) := by decide +kernel
theorem dX9_trees_8 : decode cX9_trees 8 = .ok (.istore_n 3, 1) := by decide +kernel
theorem dX9_trees_9 : decode cX9_trees 9 = .ok (.iload_n 3, 1) := by decide +kernel
theorem dX9_trees_10 : decode cX9_trees 10 = .ok (.iconst 1, 1) := by decide +kernel
theorem dX9_trees_11 : decode cX9_trees 11 = .ok (.aload_n 0, 1) := by decide +kernel
theorem dX9_trees_12 : decode cX9_trees 12 = .ok (.getfield 70, 3) := by decide +kernel
theorem dX9_trees_15 : decode cX9_trees 15 = .ok (.ishl, 1) := by decide +kernel
theorem dX9_trees_16 : decode cX9_trees 16 = .ok (.if_icmp .ge 56, 3) := by decide +kernel
theorem dX9_trees_19 : decode cX9_trees 19 = .ok (.iload_n 3, 1) := by decide +kernel
theorem dX9_trees_20 : decode cX9_trees 20 = .ok (.iload_n 1, 1) := by decide +kernel
theorem dX9_trees_21 : decode cX9_trees 21 = .ok (.iconst (-1), 1) := by decide +kernel
theorem dX9_trees_22 : decode cX9_trees 22 = .ok (.ixor, 1) := by decide +kernel
theorem dX9_trees_23 : decode cX9_trees 23 = .ok (.iand, 1) := by decide +kernel
theorem dX9_trees_24 : decode cX9_trees 24 = .ok (.ifCond .ne 42, 3) := by decide +kernel
theorem dX9_trees_27 : decode cX9_trees 27 = .ok (.iload_n 3, 1) := by decide +kernel
theorem dX9_trees_28 : decode cX9_trees 28 = .ok (.invokestatic 108, 3) := by decide +kernel
theorem dX9_trees_31 : decode cX9_trees 31 = .ok (.aload_n 0, 1) := by decide +kernel
theorem dX9_trees_32 : decode cX9_trees 32 = .ok (.getfield 66, 3) := by decide +kernel
theorem dX9_trees_35 : decode cX9_trees 35 = .ok (.iconst 1, 1) := by decide +kernel
theorem dX9_trees_36 : decode cX9_trees 36 = .ok (.isub, 1) := by decide +kernel
theorem dX9_trees_37 : decode cX9_trees 37 = .ok (.if_icmp .eq 6, 3) := by decide +kernel
theorem dX9_trees_40 : decode cX9_trees 40 = .ok (.goto 26, 3) := by decide +kernel
theorem dX9_trees_43 : decode cX9_trees 43 = .ok (.aload_n 0, 1) := by decide +kernel
theorem dX9_trees_44 : decode cX9_trees 44 = .ok (.iload_n 3, 1) := by decide +kernel
theorem dX9_trees_45 : decode cX9_trees 45 = .ok (.invokevirtual 104, 3) := by decide +kernel
theorem dX9_trees_48 : decode cX9_trees 48 = .ok (.istore 4, 2) := by decide +kernel
theorem dX9_trees_50 : decode cX9_trees 50 = .ok (.iload_n 2, 1) := by decide +kernel
theorem dX9_trees_51 : decode cX9_trees 51 = .ok (.aload_n 0, 1) := by decide +kernel
theorem dX9_trees_52 : decode cX9_trees 52 = .ok (.getfield 97, 3) := by decide +kernel
theorem dX9_trees_55 : decode cX9_trees 55 = .ok (.iconst 1, 1) := by decide +kernel
theorem dX9_trees_56 : decode cX9_trees 56 = .ok (.if_icmp .ne 7, 3) := by decide +kernel
theorem dX9_trees_59 : decode cX9_trees 59 = .ok (.iconst 1, 1) := by decide +kernel
theorem dX9_trees_60 : decode cX9_trees 60 = .ok (.goto 4, 3) := by decide +kernel
theorem dX9_trees_63 : decode cX9_trees 63 = .ok (.iconst 0, 1) := by decide +kernel
theorem dX9_trees_64 : decode cX9_trees 64 = .ok (.iadd, 1) := by decide +kernel
theorem dX9_trees_65 : decode cX9_trees 65 = .ok (.istore_n 2, 1) := by decide +kernel
theorem dX9_trees_66 : decode cX9_trees 66 = .ok (.iinc 3 1, 3) := by decide +kernel
theorem dX9_trees_69 : decode cX9_trees 69 = .ok (.goto (-60), 3) := by decide +kernel
theorem dX9_trees_72 : decode cX9_trees 72 = .ok (.iload_n 2, 1) := by decide +kernel
theorem dX9_trees_73 : decode cX9_trees 73 = .ok (.ireturn, 1) := by decide +kernel
theorem dX9_leastHeap_0 : decode cX9_leastHeap 0 = .ok (.aload_n 0, 1) := by decide +kernel
theorem dX9_leastHeap_1 : decode cX9_leastHeap 1 = .ok (.invokevirtual 100, 3) := by decide +kernel
theorem dX9_leastHeap_4 : decode cX9_leastHeap 4 = .ok (.istore_n 1, 1) := by decide +kernel
theorem dX9_leastHeap_5 : decode cX9_leastHeap 5 = .ok (.iload_n 1, 1) := by decide +kernel
theorem dX9_leastHeap_6 : decode cX9_leastHeap 6 = .ok (.istore_n 2, 1) := by decide +kernel
theorem dX9_leastHeap_7 : decode cX9_leastHeap 7 = .ok (.iconst 0, 1) := by decide +kernel
theorem dX9_leastHeap_8 : decode cX9_leastHeap 8 = .ok (.istore_n 3, 1) := by decide +kernel
theorem dX9_leastHeap_9 : decode cX9_leastHeap 9 = .ok (.iload_n 3, 1) := by decide +kernel
theorem dX9_leastHeap_10 : decode cX9_leastHeap 10 = .ok (.iconst 1, 1) := by decide +kernel
theorem dX9_leastHeap_11 : decode cX9_leastHeap 11 = .ok (.aload_n 0, 1) := by decide +kernel
theorem dX9_leastHeap_12 : decode cX9_leastHeap 12 = .ok (.getfield 70, 3) := by decide +kernel
theorem dX9_leastHeap_15 : decode cX9_leastHeap 15 = .ok (.ishl, 1) := by decide +kernel
theorem dX9_leastHeap_16 : decode cX9_leastHeap 16 = .ok (.if_icmp .ge 61, 3) := by decide +kernel
theorem dX9_leastHeap_19 : decode cX9_leastHeap 19 = .ok (.iload_n 3, 1) := by decide +kernel
theorem dX9_leastHeap_20 : decode cX9_leastHeap 20 = .ok (.iload_n 1, 1) := by decide +kernel
theorem dX9_leastHeap_21 : decode cX9_leastHeap 21 = .ok (.iconst (-1), 1) := by decide +kernel
theorem dX9_leastHeap_22 : decode cX9_leastHeap 22 = .ok (.ixor, 1) := by decide +kernel
theorem dX9_leastHeap_23 : decode cX9_leastHeap 23 = .ok (.iand, 1) := by decide +kernel
theorem dX9_leastHeap_24 : decode cX9_leastHeap 24 = .ok (.ifCond .ne 47, 3) := by decide +kernel
theorem dX9_leastHeap_27 : decode cX9_leastHeap 27 = .ok (.iload_n 3, 1) := by decide +kernel
theorem dX9_leastHeap_28 : decode cX9_leastHeap 28 = .ok (.invokestatic 108, 3) := by decide +kernel
theorem dX9_leastHeap_31 : decode cX9_leastHeap 31 = .ok (.iload_n 2, 1) := by decide +kernel
theorem dX9_leastHeap_32 : decode cX9_leastHeap 32 = .ok (.invokestatic 108, 3) := by decide +kernel
theorem dX9_leastHeap_35 : decode cX9_leastHeap 35 = .ok (.if_icmp .gt 36, 3) := by decide +kernel
theorem dX9_leastHeap_38 : decode cX9_leastHeap 38 = .ok (.iload_n 3, 1) := by decide +kernel
theorem dX9_leastHeap_39 : decode cX9_leastHeap 39 = .ok (.invokestatic 108, 3) := by decide +kernel
theorem dX9_leastHeap_42 : decode cX9_leastHeap 42 = .ok (.iload_n 2, 1) := by decide +kernel
theorem dX9_leastHeap_43 : decode cX9_leastHeap 43 = .ok (.invokestatic 108, 3) := by decide +kernel
theorem dX9_leastHeap_46 : decode cX9_leastHeap 46 = .ok (.if_icmp .ne 11, 3) := by decide +kernel
theorem dX9_leastHeap_49 : decode cX9_leastHeap 49 = .ok (.iload_n 3, 1) := by decide +kernel
theorem dX9_leastHeap_50 : decode cX9_leastHeap 50 = .ok (.iload_n 2, 1) := by decide +kernel
theorem dX9_leastHeap_51 : decode cX9_leastHeap 51 = .ok (.if_icmp .lt 6, 3) := by decide +kernel
theorem dX9_leastHeap_54 : decode cX9_leastHeap 54 = .ok (.goto 17, 3) := by decide +kernel
theorem dX9_leastHeap_57 : decode cX9_leastHeap 57 = .ok (.aload_n 0, 1) := by decide +kernel
theorem dX9_leastHeap_58 : decode cX9_leastHeap 58 = .ok (.iload_n 1, 1) := by decide +kernel
theorem dX9_leastHeap_59 : decode cX9_leastHeap 59 = .ok (.iload_n 3, 1) := by decide +kernel
theorem dX9_leastHeap_60 : decode cX9_leastHeap 60 = .ok (.iconst (-1), 1) := by decide +kernel
theorem dX9_leastHeap_61 : decode cX9_leastHeap 61 = .ok (.ixor, 1) := by decide +kernel
theorem dX9_leastHeap_62 : decode cX9_leastHeap 62 = .ok (.iand, 1) := by decide +kernel
theorem dX9_leastHeap_63 : decode cX9_leastHeap 63 = .ok (.invokevirtual 104, 3) := by decide +kernel
theorem dX9_leastHeap_66 : decode cX9_leastHeap 66 = .ok (.ifCond .eq 5, 3) := by decide +kernel
theorem dX9_leastHeap_69 : decode cX9_leastHeap 69 = .ok (.iload_n 3, 1) := by decide +kernel
theorem dX9_leastHeap_70 : decode cX9_leastHeap 70 = .ok (.istore_n 2, 1) := by decide +kernel
theorem dX9_leastHeap_71 : decode cX9_leastHeap 71 = .ok (.iinc 3 1, 3) := by decide +kernel
theorem dX9_leastHeap_74 : decode cX9_leastHeap 74 = .ok (.goto (-65), 3) := by decide +kernel
theorem dX9_leastHeap_77 : decode cX9_leastHeap 77 = .ok (.iload_n 2, 1) := by decide +kernel
theorem dX9_leastHeap_78 : decode cX9_leastHeap 78 = .ok (.ireturn, 1) := by decide +kernel
theorem dX9_few_0 : decode cX9_few 0 = .ok (.aload_n 0, 1) := by decide +kernel
theorem dX9_few_1 : decode cX9_few 1 = .ok (.invokevirtual 114, 3) := by decide +kernel
theorem dX9_few_4 : decode cX9_few 4 = .ok (.invokestatic 108, 3) := by decide +kernel
theorem dX9_few_7 : decode cX9_few 7 = .ok (.ireturn, 1) := by decide +kernel
theorem dX9_left_0 : decode cX9_left 0 = .ok (.aload_n 0, 1) := by decide +kernel
theorem dX9_left_1 : decode cX9_left 1 = .ok (.invokevirtual 114, 3) := by decide +kernel
theorem dX9_left_4 : decode cX9_left 4 = .ok (.ireturn, 1) := by decide +kernel
theorem dX9_findsWorst_0 : decode cX9_findsWorst 0 = .ok (.iconst 0, 1) := by decide +kernel
theorem dX9_findsWorst_1 : decode cX9_findsWorst 1 = .ok (.istore_n 1, 1) := by decide +kernel
theorem dX9_findsWorst_2 : decode cX9_findsWorst 2 = .ok (.iconst 0, 1) := by decide +kernel
theorem dX9_findsWorst_3 : decode cX9_findsWorst 3 = .ok (.istore_n 2, 1) := by decide +kernel
theorem dX9_findsWorst_4 : decode cX9_findsWorst 4 = .ok (.iload_n 2, 1) := by decide +kernel
theorem dX9_findsWorst_5 : decode cX9_findsWorst 5 = .ok (.aload_n 0, 1) := by decide +kernel
theorem dX9_findsWorst_6 : decode cX9_findsWorst 6 = .ok (.getfield 66, 3) := by decide +kernel
theorem dX9_findsWorst_9 : decode cX9_findsWorst 9 = .ok (.if_icmp .ge 236, 3) := by decide +kernel
theorem dX9_findsWorst_12 : decode cX9_findsWorst 12 = .ok (.iload_n 2, 1) := by decide +kernel
theorem dX9_findsWorst_13 : decode cX9_findsWorst 13 = .ok (.iconst 1, 1) := by decide +kernel
theorem dX9_findsWorst_14 : decode cX9_findsWorst 14 = .ok (.iadd, 1) := by decide +kernel
theorem dX9_findsWorst_15 : decode cX9_findsWorst 15 = .ok (.istore_n 3, 1) := by decide +kernel
theorem dX9_findsWorst_16 : decode cX9_findsWorst 16 = .ok (.iload_n 3, 1) := by decide +kernel
theorem dX9_findsWorst_17 : decode cX9_findsWorst 17 = .ok (.aload_n 0, 1) := by decide +kernel
theorem dX9_findsWorst_18 : decode cX9_findsWorst 18 = .ok (.getfield 66, 3) := by decide +kernel
theorem dX9_findsWorst_21 : decode cX9_findsWorst 21 = .ok (.if_icmp .ge 218, 3) := by decide +kernel
theorem dX9_findsWorst_24 : decode cX9_findsWorst 24 = .ok (.iload_n 3, 1) := by decide +kernel
theorem dX9_findsWorst_25 : decode cX9_findsWorst 25 = .ok (.iconst 1, 1) := by decide +kernel
theorem dX9_findsWorst_26 : decode cX9_findsWorst 26 = .ok (.iadd, 1) := by decide +kernel
theorem dX9_findsWorst_27 : decode cX9_findsWorst 27 = .ok (.istore 4, 2) := by decide +kernel
theorem dX9_findsWorst_29 : decode cX9_findsWorst 29 = .ok (.iload 4, 2) := by decide +kernel
theorem dX9_findsWorst_31 : decode cX9_findsWorst 31 = .ok (.aload_n 0, 1) := by decide +kernel
theorem dX9_findsWorst_32 : decode cX9_findsWorst 32 = .ok (.getfield 66, 3) := by decide +kernel
theorem dX9_findsWorst_35 : decode cX9_findsWorst 35 = .ok (.if_icmp .ge 198, 3) := by decide +kernel
theorem dX9_findsWorst_38 : decode cX9_findsWorst 38 = .ok (.aload_n 0, 1) := by decide +kernel
theorem dX9_findsWorst_39 : decode cX9_findsWorst 39 = .ok (.iload_n 2, 1) := by decide +kernel
theorem dX9_findsWorst_40 : decode cX9_findsWorst 40 = .ok (.iload_n 3, 1) := by decide +kernel
theorem dX9_findsWorst_41 : decode cX9_findsWorst 41 = .ok (.invokevirtual 88, 3) := by decide +kernel
theorem dX9_findsWorst_44 : decode cX9_findsWorst 44 = .ok (.ifCond .eq 183, 3) := by decide +kernel
theorem dX9_findsWorst_47 : decode cX9_findsWorst 47 = .ok (.aload_n 0, 1) := by decide +kernel
theorem dX9_findsWorst_48 : decode cX9_findsWorst 48 = .ok (.iload_n 3, 1) := by decide +kernel
theorem dX9_findsWorst_49 : decode cX9_findsWorst 49 = .ok (.iload 4, 2) := by decide +kernel
theorem dX9_findsWorst_51 : decode cX9_findsWorst 51 = .ok (.invokevirtual 88, 3) := by decide +kernel
theorem dX9_findsWorst_54 : decode cX9_findsWorst 54 = .ok (.ifCond .eq 173, 3) := by decide +kernel
theorem dX9_findsWorst_57 : decode cX9_findsWorst 57 = .ok (.aload_n 0, 1) := by decide +kernel
theorem dX9_findsWorst_58 : decode cX9_findsWorst 58 = .ok (.iload_n 2, 1) := by decide +kernel
theorem dX9_findsWorst_59 : decode cX9_findsWorst 59 = .ok (.iload 4, 2) := by decide +kernel
theorem dX9_findsWorst_61 : decode cX9_findsWorst 61 = .ok (.invokevirtual 88, 3) := by decide +kernel
theorem dX9_findsWorst_64 : decode cX9_findsWorst 64 = .ok (.ifCond .ne 6, 3) := by decide +kernel
theorem dX9_findsWorst_67 : decode cX9_findsWorst 67 = .ok (.goto 160, 3) := by decide +kernel
theorem dX9_findsWorst_70 : decode cX9_findsWorst 70 = .ok (.aload_n 0, 1) := by decide +kernel
theorem dX9_findsWorst_71 : decode cX9_findsWorst 71 = .ok (.iload_n 2, 1) := by decide +kernel
theorem dX9_findsWorst_72 : decode cX9_findsWorst 72 = .ok (.iload_n 3, 1) := by decide +kernel
theorem dX9_findsWorst_73 : decode cX9_findsWorst 73 = .ok (.invokevirtual 91, 3) := by decide +kernel
theorem dX9_findsWorst_76 : decode cX9_findsWorst 76 = .ok (.aload_n 0, 1) := by decide +kernel
theorem dX9_findsWorst_77 : decode cX9_findsWorst 77 = .ok (.iload_n 3, 1) := by decide +kernel
theorem dX9_findsWorst_78 : decode cX9_findsWorst 78 = .ok (.iload 4, 2) := by decide +kernel
theorem dX9_findsWorst_80 : decode cX9_findsWorst 80 = .ok (.invokevirtual 91, 3) := by decide +kernel
theorem dX9_findsWorst_83 : decode cX9_findsWorst 83 = .ok (.imul, 1) := by decide +kernel
theorem dX9_findsWorst_84 : decode cX9_findsWorst 84 = .ok (.aload_n 0, 1) := by decide +kernel
theorem dX9_findsWorst_85 : decode cX9_findsWorst 85 = .ok (.iload 4, 2) := by decide +kernel
theorem dX9_findsWorst_87 : decode cX9_findsWorst 87 = .ok (.iload_n 2, 1) := by decide +kernel
theorem dX9_findsWorst_88 : decode cX9_findsWorst 88 = .ok (.invokevirtual 91, 3) := by decide +kernel
theorem dX9_findsWorst_91 : decode cX9_findsWorst 91 = .ok (.imul, 1) := by decide +kernel
theorem dX9_findsWorst_92 : decode cX9_findsWorst 92 = .ok (.istore 5, 2) := by decide +kernel
theorem dX9_findsWorst_94 : decode cX9_findsWorst 94 = .ok (.aload_n 0, 1) := by decide +kernel
theorem dX9_findsWorst_95 : decode cX9_findsWorst 95 = .ok (.iload_n 2, 1) := by decide +kernel
theorem dX9_findsWorst_96 : decode cX9_findsWorst 96 = .ok (.iload_n 3, 1) := by decide +kernel
theorem dX9_findsWorst_97 : decode cX9_findsWorst 97 = .ok (.invokevirtual 94, 3) := by decide +kernel
theorem dX9_findsWorst_100 : decode cX9_findsWorst 100 = .ok (.aload_n 0, 1) := by decide +kernel
theorem dX9_findsWorst_101 : decode cX9_findsWorst 101 = .ok (.iload_n 3, 1) := by decide +kernel
theorem dX9_findsWorst_102 : decode cX9_findsWorst 102 = .ok (.iload 4, 2) := by decide +kernel
theorem dX9_findsWorst_104 : decode cX9_findsWorst 104 = .ok (.invokevirtual 94, 3) := by decide +kernel
theorem dX9_findsWorst_107 : decode cX9_findsWorst 107 = .ok (.imul, 1) := by decide +kernel
theorem dX9_findsWorst_108 : decode cX9_findsWorst 108 = .ok (.aload_n 0, 1) := by decide +kernel
theorem dX9_findsWorst_109 : decode cX9_findsWorst 109 = .ok (.iload 4, 2) := by decide +kernel
theorem dX9_findsWorst_111 : decode cX9_findsWorst 111 = .ok (.iload_n 2, 1) := by decide +kernel
theorem dX9_findsWorst_112 : decode cX9_findsWorst 112 = .ok (.invokevirtual 94, 3) := by decide +kernel
theorem dX9_findsWorst_115 : decode cX9_findsWorst 115 = .ok (.imul, 1) := by decide +kernel
theorem dX9_findsWorst_116 : decode cX9_findsWorst 116 = .ok (.istore 6, 2) := by decide +kernel
theorem dX9_findsWorst_118 : decode cX9_findsWorst 118 = .ok (.iload 5, 2) := by decide +kernel
theorem dX9_findsWorst_120 : decode cX9_findsWorst 120 = .ok (.i2l, 1) := by decide +kernel
theorem dX9_findsWorst_121 : decode cX9_findsWorst 121 = .ok (.iload 6, 2) := by decide +kernel
theorem dX9_findsWorst_123 : decode cX9_findsWorst 123 = .ok (.i2l, 1) := by decide +kernel
theorem dX9_findsWorst_124 : decode cX9_findsWorst 124 = .ok (.invokestatic 81, 3) := by decide +kernel
theorem dX9_findsWorst_127 : decode cX9_findsWorst 127 = .ok (.l2i, 1) := by decide +kernel
theorem dX9_findsWorst_128 : decode cX9_findsWorst 128 = .ok (.istore 7, 2) := by decide +kernel
theorem dX9_findsWorst_130 : decode cX9_findsWorst 130 = .ok (.iload 5, 2) := by decide +kernel
theorem dX9_findsWorst_132 : decode cX9_findsWorst 132 = .ok (.iload 6, 2) := by decide +kernel
theorem dX9_findsWorst_134 : decode cX9_findsWorst 134 = .ok (.invokestatic 63, 3) := by decide +kernel
theorem dX9_findsWorst_137 : decode cX9_findsWorst 137 = .ok (.iload 7, 2) := by decide +kernel
theorem dX9_findsWorst_139 : decode cX9_findsWorst 139 = .ok (.idiv, 1) := by decide +kernel
theorem dX9_findsWorst_140 : decode cX9_findsWorst 140 = .ok (.istore 8, 2) := by decide +kernel
theorem dX9_findsWorst_142 : decode cX9_findsWorst 142 = .ok (.iload 5, 2) := by decide +kernel
theorem dX9_findsWorst_144 : decode cX9_findsWorst 144 = .ok (.iload 6, 2) := by decide +kernel
theorem dX9_findsWorst_146 : decode cX9_findsWorst 146 = .ok (.invokestatic 57, 3) := by decide +kernel
theorem dX9_findsWorst_149 : decode cX9_findsWorst 149 = .ok (.iload 7, 2) := by decide +kernel
theorem dX9_findsWorst_151 : decode cX9_findsWorst 151 = .ok (.idiv, 1) := by decide +kernel
theorem dX9_findsWorst_152 : decode cX9_findsWorst 152 = .ok (.istore 9, 2) := by decide +kernel
theorem dX9_findsWorst_154 : decode cX9_findsWorst 154 = .ok (.iload_n 1, 1) := by decide +kernel
theorem dX9_findsWorst_155 : decode cX9_findsWorst 155 = .ok (.ifCond .eq 32, 3) := by decide +kernel
theorem dX9_findsWorst_158 : decode cX9_findsWorst 158 = .ok (.iload 8, 2) := by decide +kernel
theorem dX9_findsWorst_160 : decode cX9_findsWorst 160 = .ok (.i2l, 1) := by decide +kernel
theorem dX9_findsWorst_161 : decode cX9_findsWorst 161 = .ok (.aload_n 0, 1) := by decide +kernel
theorem dX9_findsWorst_162 : decode cX9_findsWorst 162 = .ok (.getfield 45, 3) := by decide +kernel
theorem dX9_findsWorst_165 : decode cX9_findsWorst 165 = .ok (.iconst 4, 1) := by decide +kernel
theorem dX9_findsWorst_166 : decode cX9_findsWorst 166 = .ok (.iaload, 1) := by decide +kernel
theorem dX9_findsWorst_167 : decode cX9_findsWorst 167 = .ok (.i2l, 1) := by decide +kernel
theorem dX9_findsWorst_168 : decode cX9_findsWorst 168 = .ok (.lmul, 1) := by decide +kernel
theorem dX9_findsWorst_169 : decode cX9_findsWorst 169 = .ok (.aload_n 0, 1) := by decide +kernel
theorem dX9_findsWorst_170 : decode cX9_findsWorst 170 = .ok (.getfield 45, 3) := by decide +kernel
theorem dX9_findsWorst_173 : decode cX9_findsWorst 173 = .ok (.iconst 3, 1) := by decide +kernel
theorem dX9_findsWorst_174 : decode cX9_findsWorst 174 = .ok (.iaload, 1) := by decide +kernel
theorem dX9_findsWorst_175 : decode cX9_findsWorst 175 = .ok (.i2l, 1) := by decide +kernel
theorem dX9_findsWorst_176 : decode cX9_findsWorst 176 = .ok (.iload 9, 2) := by decide +kernel
theorem dX9_findsWorst_178 : decode cX9_findsWorst 178 = .ok (.i2l, 1) := by decide +kernel
theorem dX9_findsWorst_179 : decode cX9_findsWorst 179 = .ok (.lmul, 1) := by decide +kernel
theorem dX9_findsWorst_180 : decode cX9_findsWorst 180 = .ok (.lcmp, 1) := by decide +kernel
theorem dX9_findsWorst_181 : decode cX9_findsWorst 181 = .ok (.ifCond .gt 6, 3) := by decide +kernel
theorem dX9_findsWorst_184 : decode cX9_findsWorst 184 = .ok (.goto 43, 3) := by decide +kernel
theorem dX9_findsWorst_187 : decode cX9_findsWorst 187 = .ok (.iconst 1, 1) := by decide +kernel
theorem dX9_findsWorst_188 : decode cX9_findsWorst 188 = .ok (.istore_n 1, 1) := by decide +kernel
theorem dX9_findsWorst_189 : decode cX9_findsWorst 189 = .ok (.aload_n 0, 1) := by decide +kernel
theorem dX9_findsWorst_190 : decode cX9_findsWorst 190 = .ok (.getfield 45, 3) := by decide +kernel
theorem dX9_findsWorst_193 : decode cX9_findsWorst 193 = .ok (.iconst 0, 1) := by decide +kernel
theorem dX9_findsWorst_194 : decode cX9_findsWorst 194 = .ok (.iload_n 2, 1) := by decide +kernel
theorem dX9_findsWorst_195 : decode cX9_findsWorst 195 = .ok (.iastore, 1) := by decide +kernel
theorem dX9_findsWorst_196 : decode cX9_findsWorst 196 = .ok (.aload_n 0, 1) := by decide +kernel
theorem dX9_findsWorst_197 : decode cX9_findsWorst 197 = .ok (.getfield 45, 3) := by decide +kernel
theorem dX9_findsWorst_200 : decode cX9_findsWorst 200 = .ok (.iconst 1, 1) := by decide +kernel
theorem dX9_findsWorst_201 : decode cX9_findsWorst 201 = .ok (.iload_n 3, 1) := by decide +kernel
theorem dX9_findsWorst_202 : decode cX9_findsWorst 202 = .ok (.iastore, 1) := by decide +kernel
theorem dX9_findsWorst_203 : decode cX9_findsWorst 203 = .ok (.aload_n 0, 1) := by decide +kernel
theorem dX9_findsWorst_204 : decode cX9_findsWorst 204 = .ok (.getfield 45, 3) := by decide +kernel
theorem dX9_findsWorst_207 : decode cX9_findsWorst 207 = .ok (.iconst 2, 1) := by decide +kernel
theorem dX9_findsWorst_208 : decode cX9_findsWorst 208 = .ok (.iload 4, 2) := by decide +kernel
theorem dX9_findsWorst_210 : decode cX9_findsWorst 210 = .ok (.iastore, 1) := by decide +kernel
theorem dX9_findsWorst_211 : decode cX9_findsWorst 211 = .ok (.aload_n 0, 1) := by decide +kernel
theorem dX9_findsWorst_212 : decode cX9_findsWorst 212 = .ok (.getfield 45, 3) := by decide +kernel
theorem dX9_findsWorst_215 : decode cX9_findsWorst 215 = .ok (.iconst 3, 1) := by decide +kernel
theorem dX9_findsWorst_216 : decode cX9_findsWorst 216 = .ok (.iload 8, 2) := by decide +kernel
theorem dX9_findsWorst_218 : decode cX9_findsWorst 218 = .ok (.iastore, 1) := by decide +kernel
theorem dX9_findsWorst_219 : decode cX9_findsWorst 219 = .ok (.aload_n 0, 1) := by decide +kernel
theorem dX9_findsWorst_220 : decode cX9_findsWorst 220 = .ok (.getfield 45, 3) := by decide +kernel
theorem dX9_findsWorst_223 : decode cX9_findsWorst 223 = .ok (.iconst 4, 1) := by decide +kernel
theorem dX9_findsWorst_224 : decode cX9_findsWorst 224 = .ok (.iload 9, 2) := by decide +kernel
theorem dX9_findsWorst_226 : decode cX9_findsWorst 226 = .ok (.iastore, 1) := by decide +kernel
theorem dX9_findsWorst_227 : decode cX9_findsWorst 227 = .ok (.iinc 4 1, 3) := by decide +kernel
theorem dX9_findsWorst_230 : decode cX9_findsWorst 230 = .ok (.goto (-201), 3) := by decide +kernel
theorem dX9_findsWorst_233 : decode cX9_findsWorst 233 = .ok (.iinc 3 1, 3) := by decide +kernel
theorem dX9_findsWorst_236 : decode cX9_findsWorst 236 = .ok (.goto (-220), 3) := by decide +kernel
theorem dX9_findsWorst_239 : decode cX9_findsWorst 239 = .ok (.iinc 2 1, 3) := by decide +kernel
theorem dX9_findsWorst_242 : decode cX9_findsWorst 242 = .ok (.goto (-238), 3) := by decide +kernel
theorem dX9_findsWorst_245 : decode cX9_findsWorst 245 = .ok (.iload_n 1, 1) := by decide +kernel
theorem dX9_findsWorst_246 : decode cX9_findsWorst 246 = .ok (.ireturn, 1) := by decide +kernel
theorem dX9_worst_0 : decode cX9_worst 0 = .ok (.iload_n 1, 1) := by decide +kernel
theorem dX9_worst_1 : decode cX9_worst 1 = .ok (.iconst 0, 1) := by decide +kernel
theorem dX9_worst_2 : decode cX9_worst 2 = .ok (.iconst 4, 1) := by decide +kernel
theorem dX9_worst_3 : decode cX9_worst 3 = .ok (.invokestatic 73, 3) := by decide +kernel
theorem dX9_worst_6 : decode cX9_worst 6 = .ok (.ifCond .eq 19, 3) := by decide +kernel
theorem dX9_worst_9 : decode cX9_worst 9 = .ok (.aload_n 0, 1) := by decide +kernel
theorem dX9_worst_10 : decode cX9_worst 10 = .ok (.invokevirtual 117, 3) := by decide +kernel
theorem dX9_worst_13 : decode cX9_worst 13 = .ok (.ifCond .eq 12, 3) := by decide +kernel
theorem dX9_worst_16 : decode cX9_worst 16 = .ok (.aload_n 0, 1) := by decide +kernel
theorem dX9_worst_17 : decode cX9_worst 17 = .ok (.getfield 45, 3) := by decide +kernel
theorem dX9_worst_20 : decode cX9_worst 20 = .ok (.iload_n 1, 1) := by decide +kernel
theorem dX9_worst_21 : decode cX9_worst 21 = .ok (.iaload, 1) := by decide +kernel
theorem dX9_worst_22 : decode cX9_worst 22 = .ok (.goto 4, 3) := by decide +kernel
theorem dX9_worst_25 : decode cX9_worst 25 = .ok (.iconst (-1), 1) := by decide +kernel
theorem dX9_worst_26 : decode cX9_worst 26 = .ok (.ireturn, 1) := by decide +kernel
theorem dX9_areAllSaid_0 : decode cX9_areAllSaid 0 = .ok (.aload_n 0, 1) := by decide +kernel
theorem dX9_areAllSaid_1 : decode cX9_areAllSaid 1 = .ok (.invokevirtual 100, 3) := by decide +kernel
theorem dX9_areAllSaid_4 : decode cX9_areAllSaid 4 = .ok (.invokestatic 108, 3) := by decide +kernel
theorem dX9_areAllSaid_7 : decode cX9_areAllSaid 7 = .ok (.aload_n 0, 1) := by decide +kernel
theorem dX9_areAllSaid_8 : decode cX9_areAllSaid 8 = .ok (.getfield 70, 3) := by decide +kernel
theorem dX9_areAllSaid_11 : decode cX9_areAllSaid 11 = .ok (.if_icmp .ne 7, 3) := by decide +kernel
theorem dX9_areAllSaid_14 : decode cX9_areAllSaid 14 = .ok (.iconst 1, 1) := by decide +kernel
theorem dX9_areAllSaid_15 : decode cX9_areAllSaid 15 = .ok (.goto 4, 3) := by decide +kernel
theorem dX9_areAllSaid_18 : decode cX9_areAllSaid 18 = .ok (.iconst 0, 1) := by decide +kernel
theorem dX9_areAllSaid_19 : decode cX9_areAllSaid 19 = .ok (.ireturn, 1) := by decide +kernel
theorem dX9_rowPart_0 : decode cX9_rowPart 0 = .ok (.lconst 1, 1) := by decide +kernel
theorem dX9_rowPart_1 : decode cX9_rowPart 1 = .ok (.lstore_n 3, 1) := by decide +kernel
theorem dX9_rowPart_2 : decode cX9_rowPart 2 = .ok (.lconst 1, 1) := by decide +kernel
