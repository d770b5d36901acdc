-- decode rows: X3 X4
theorem dX3_init_0 : decode cX3_init 0 = .ok (.aload_n 0, 1) := by decide +kernel
theorem dX3_init_1 : decode cX3_init 1 = .ok (.invokespecial 3, 3) := by decide +kernel
theorem dX3_init_4 : decode cX3_init 4 = .ok (.aload_n 0, 1) := by decide +kernel
theorem dX3_init_5 : decode cX3_init 5 = .ok (.iload_n 1, 1) := by decide +kernel
theorem dX3_init_6 : decode cX3_init 6 = .ok (.putfield 9, 3) := by decide +kernel
theorem dX3_init_9 : decode cX3_init 9 = .ok (.aload_n 0, 1) := by decide +kernel
theorem dX3_init_10 : decode cX3_init 10 = .ok (.iload_n 1, 1) := by decide +kernel
theorem dX3_init_11 : decode cX3_init 11 = .ok (.iconst 1, 1) := by decide +kernel
theorem dX3_init_12 : decode cX3_init 12 = .ok (.iadd, 1) := by decide +kernel
theorem dX3_init_13 : decode cX3_init 13 = .ok (.newarray .long, 2) := by decide +kernel
theorem dX3_init_15 : decode cX3_init 15 = .ok (.putfield 15, 3) := by decide +kernel
theorem dX3_init_18 : decode cX3_init 18 = .ok (.return_, 1) := by decide +kernel
theorem dX3_noneAboveOne_0 : decode cX3_noneAboveOne 0 = .ok (.aload_n 0, 1) := by decide +kernel
theorem dX3_noneAboveOne_1 : decode cX3_noneAboveOne 1 = .ok (.aload_n 1, 1) := by decide +kernel
theorem dX3_noneAboveOne_2 : decode cX3_noneAboveOne 2 = .ok (.invokevirtual 19, 3) := by decide +kernel
theorem dX3_noneAboveOne_5 : decode cX3_noneAboveOne 5 = .ok (.iconst 3, 1) := by decide +kernel
theorem dX3_noneAboveOne_6 : decode cX3_noneAboveOne 6 = .ok (.istore_n 2, 1) := by decide +kernel
theorem dX3_noneAboveOne_7 : decode cX3_noneAboveOne 7 = .ok (.iload_n 2, 1) := by decide +kernel
theorem dX3_noneAboveOne_8 : decode cX3_noneAboveOne 8 = .ok (.aload_n 0, 1) := by decide +kernel
theorem dX3_noneAboveOne_9 : decode cX3_noneAboveOne 9 = .ok (.getfield 9, 3) := by decide +kernel
theorem dX3_noneAboveOne_12 : decode cX3_noneAboveOne 12 = .ok (.if_icmp .gt 26, 3) := by decide +kernel
theorem dX3_noneAboveOne_15 : decode cX3_noneAboveOne 15 = .ok (.aload_n 0, 1) := by decide +kernel
theorem dX3_noneAboveOne_16 : decode cX3_noneAboveOne 16 = .ok (.getfield 15, 3) := by decide +kernel
theorem dX3_noneAboveOne_19 : decode cX3_noneAboveOne 19 = .ok (.iload_n 2, 1) := by decide +kernel
theorem dX3_noneAboveOne_20 : decode cX3_noneAboveOne 20 = .ok (.laload, 1) := by decide +kernel
theorem dX3_noneAboveOne_21 : decode cX3_noneAboveOne 21 = .ok (.ldc2_w 25, 3) := by decide +kernel
theorem dX3_noneAboveOne_24 : decode cX3_noneAboveOne 24 = .ok (.invokestatic 27, 3) := by decide +kernel
theorem dX3_noneAboveOne_27 : decode cX3_noneAboveOne 27 = .ok (.ifCond .eq 5, 3) := by decide +kernel
theorem dX3_noneAboveOne_30 : decode cX3_noneAboveOne 30 = .ok (.iconst 0, 1) := by decide +kernel
theorem dX3_noneAboveOne_31 : decode cX3_noneAboveOne 31 = .ok (.ireturn, 1) := by decide +kernel
theorem dX3_noneAboveOne_32 : decode cX3_noneAboveOne 32 = .ok (.iinc 2 1, 3) := by decide +kernel
theorem dX3_noneAboveOne_35 : decode cX3_noneAboveOne 35 = .ok (.goto (-28), 3) := by decide +kernel
theorem dX3_noneAboveOne_38 : decode cX3_noneAboveOne 38 = .ok (.iconst 1, 1) := by decide +kernel
theorem dX3_noneAboveOne_39 : decode cX3_noneAboveOne 39 = .ok (.ireturn, 1) := by decide +kernel
theorem dX3_measure_0 : decode cX3_measure 0 = .ok (.aload_n 0, 1) := by decide +kernel
theorem dX3_measure_1 : decode cX3_measure 1 = .ok (.getfield 15, 3) := by decide +kernel
theorem dX3_measure_4 : decode cX3_measure 4 = .ok (.lconst 1, 1) := by decide +kernel
theorem dX3_measure_5 : decode cX3_measure 5 = .ok (.invokestatic 31, 3) := by decide +kernel
theorem dX3_measure_8 : decode cX3_measure 8 = .ok (.iconst 0, 1) := by decide +kernel
theorem dX3_measure_9 : decode cX3_measure 9 = .ok (.istore_n 2, 1) := by decide +kernel
theorem dX3_measure_10 : decode cX3_measure 10 = .ok (.iload_n 2, 1) := by decide +kernel
theorem dX3_measure_11 : decode cX3_measure 11 = .ok (.aload_n 0, 1) := by decide +kernel
theorem dX3_measure_12 : decode cX3_measure 12 = .ok (.getfield 9, 3) := by decide +kernel
theorem dX3_measure_15 : decode cX3_measure 15 = .ok (.if_icmp .ge 23, 3) := by decide +kernel
theorem dX3_measure_18 : decode cX3_measure 18 = .ok (.aload_n 0, 1) := by decide +kernel
theorem dX3_measure_19 : decode cX3_measure 19 = .ok (.aload_n 1, 1) := by decide +kernel
theorem dX3_measure_20 : decode cX3_measure 20 = .ok (.iload_n 2, 1) := by decide +kernel
theorem dX3_measure_21 : decode cX3_measure 21 = .ok (.iload_n 2, 1) := by decide +kernel
theorem dX3_measure_22 : decode cX3_measure 22 = .ok (.iconst 1, 1) := by decide +kernel
theorem dX3_measure_23 : decode cX3_measure 23 = .ok (.iload_n 2, 1) := by decide +kernel
theorem dX3_measure_24 : decode cX3_measure 24 = .ok (.ishl, 1) := by decide +kernel
theorem dX3_measure_25 : decode cX3_measure 25 = .ok (.iconst 1, 1) := by decide +kernel
theorem dX3_measure_26 : decode cX3_measure 26 = .ok (.ldc2_w 25, 3) := by decide +kernel
theorem dX3_measure_29 : decode cX3_measure 29 = .ok (.invokevirtual 37, 3) := by decide +kernel
theorem dX3_measure_32 : decode cX3_measure 32 = .ok (.iinc 2 1, 3) := by decide +kernel
theorem dX3_measure_35 : decode cX3_measure 35 = .ok (.goto (-25), 3) := by decide +kernel
theorem dX3_measure_38 : decode cX3_measure 38 = .ok (.return_, 1) := by decide +kernel
theorem dX3_extend_0 : decode cX3_extend 0 = .ok (.iload 5, 2) := by decide +kernel
theorem dX3_extend_2 : decode cX3_extend 2 = .ok (.iconst 3, 1) := by decide +kernel
theorem dX3_extend_3 : decode cX3_extend 3 = .ok (.if_icmp .lt 29, 3) := by decide +kernel
theorem dX3_extend_6 : decode cX3_extend 6 = .ok (.aload_n 1, 1) := by decide +kernel
theorem dX3_extend_7 : decode cX3_extend 7 = .ok (.iload_n 3, 1) := by decide +kernel
theorem dX3_extend_8 : decode cX3_extend 8 = .ok (.iload_n 2, 1) := by decide +kernel
theorem dX3_extend_9 : decode cX3_extend 9 = .ok (.invokevirtual 41, 3) := by decide +kernel
theorem dX3_extend_12 : decode cX3_extend 12 = .ok (.ifCond .eq 20, 3) := by decide +kernel
theorem dX3_extend_15 : decode cX3_extend 15 = .ok (.aload_n 0, 1) := by decide +kernel
theorem dX3_extend_16 : decode cX3_extend 16 = .ok (.iload 5, 2) := by decide +kernel
theorem dX3_extend_18 : decode cX3_extend 18 = .ok (.lload 6, 2) := by decide +kernel
theorem dX3_extend_20 : decode cX3_extend 20 = .ok (.aload_n 1, 1) := by decide +kernel
theorem dX3_extend_21 : decode cX3_extend 21 = .ok (.iload_n 3, 1) := by decide +kernel
theorem dX3_extend_22 : decode cX3_extend 22 = .ok (.iload_n 2, 1) := by decide +kernel
theorem dX3_extend_23 : decode cX3_extend 23 = .ok (.invokevirtual 47, 3) := by decide +kernel
theorem dX3_extend_26 : decode cX3_extend 26 = .ok (.invokestatic 51, 3) := by decide +kernel
theorem dX3_extend_29 : decode cX3_extend 29 = .ok (.invokevirtual 55, 3) := by decide +kernel
theorem dX3_extend_32 : decode cX3_extend 32 = .ok (.iload 5, 2) := by decide +kernel
theorem dX3_extend_34 : decode cX3_extend 34 = .ok (.aload_n 0, 1) := by decide +kernel
theorem dX3_extend_35 : decode cX3_extend 35 = .ok (.getfield 9, 3) := by decide +kernel
theorem dX3_extend_38 : decode cX3_extend 38 = .ok (.if_icmp .lt 4, 3) := by decide +kernel
theorem dX3_extend_41 : decode cX3_extend 41 = .ok (.return_, 1) := by decide +kernel
theorem dX3_extend_42 : decode cX3_extend 42 = .ok (.iload_n 2, 1) := by decide +kernel
theorem dX3_extend_43 : decode cX3_extend 43 = .ok (.iconst 1, 1) := by decide +kernel
theorem dX3_extend_44 : decode cX3_extend 44 = .ok (.iadd, 1) := by decide +kernel
theorem dX3_extend_45 : decode cX3_extend 45 = .ok (.istore 8, 2) := by decide +kernel
theorem dX3_extend_47 : decode cX3_extend 47 = .ok (.iload 8, 2) := by decide +kernel
theorem dX3_extend_49 : decode cX3_extend 49 = .ok (.aload_n 0, 1) := by decide +kernel
theorem dX3_extend_50 : decode cX3_extend 50 = .ok (.getfield 9, 3) := by decide +kernel
theorem dX3_extend_53 : decode cX3_extend 53 = .ok (.if_icmp .ge 64, 3) := by decide +kernel
theorem dX3_extend_56 : decode cX3_extend 56 = .ok (.iload 4, 2) := by decide +kernel
theorem dX3_extend_58 : decode cX3_extend 58 = .ok (.iload 8, 2) := by decide +kernel
theorem dX3_extend_60 : decode cX3_extend 60 = .ok (.ishr, 1) := by decide +kernel
theorem dX3_extend_61 : decode cX3_extend 61 = .ok (.iconst 1, 1) := by decide +kernel
theorem dX3_extend_62 : decode cX3_extend 62 = .ok (.iand, 1) := by decide +kernel
theorem dX3_extend_63 : decode cX3_extend 63 = .ok (.ifCond .ne 48, 3) := by decide +kernel
theorem dX3_extend_66 : decode cX3_extend 66 = .ok (.aload_n 1, 1) := by decide +kernel
theorem dX3_extend_67 : decode cX3_extend 67 = .ok (.iload_n 3, 1) := by decide +kernel
theorem dX3_extend_68 : decode cX3_extend 68 = .ok (.iload 8, 2) := by decide +kernel
theorem dX3_extend_70 : decode cX3_extend 70 = .ok (.invokevirtual 41, 3) := by decide +kernel
theorem dX3_extend_73 : decode cX3_extend 73 = .ok (.ifCond .eq 38, 3) := by decide +kernel
theorem dX3_extend_76 : decode cX3_extend 76 = .ok (.lload 6, 2) := by decide +kernel
theorem dX3_extend_78 : decode cX3_extend 78 = .ok (.aload_n 1, 1) := by decide +kernel
theorem dX3_extend_79 : decode cX3_extend 79 = .ok (.iload_n 3, 1) := by decide +kernel
theorem dX3_extend_80 : decode cX3_extend 80 = .ok (.iload 8, 2) := by decide +kernel
theorem dX3_extend_82 : decode cX3_extend 82 = .ok (.invokevirtual 47, 3) := by decide +kernel
theorem dX3_extend_85 : decode cX3_extend 85 = .ok (.invokestatic 51, 3) := by decide +kernel
theorem dX3_extend_88 : decode cX3_extend 88 = .ok (.lstore 9, 2) := by decide +kernel
theorem dX3_extend_90 : decode cX3_extend 90 = .ok (.aload_n 0, 1) := by decide +kernel
theorem dX3_extend_91 : decode cX3_extend 91 = .ok (.aload_n 1, 1) := by decide +kernel
theorem dX3_extend_92 : decode cX3_extend 92 = .ok (.iload_n 2, 1) := by decide +kernel
theorem dX3_extend_93 : decode cX3_extend 93 = .ok (.iload 8, 2) := by decide +kernel
theorem dX3_extend_95 : decode cX3_extend 95 = .ok (.iload 4, 2) := by decide +kernel
theorem dX3_extend_97 : decode cX3_extend 97 = .ok (.iconst 1, 1) := by decide +kernel
theorem dX3_extend_98 : decode cX3_extend 98 = .ok (.iload 8, 2) := by decide +kernel
theorem dX3_extend_100 : decode cX3_extend 100 = .ok (.ishl, 1) := by decide +kernel
theorem dX3_extend_101 : decode cX3_extend 101 = .ok (.ior, 1) := by decide +kernel
theorem dX3_extend_102 : decode cX3_extend 102 = .ok (.iload 5, 2) := by decide +kernel
theorem dX3_extend_104 : decode cX3_extend 104 = .ok (.iconst 1, 1) := by decide +kernel
theorem dX3_extend_105 : decode cX3_extend 105 = .ok (.iadd, 1) := by decide +kernel
theorem dX3_extend_106 : decode cX3_extend 106 = .ok (.lload 9, 2) := by decide +kernel
theorem dX3_extend_108 : decode cX3_extend 108 = .ok (.invokevirtual 37, 3) := by decide +kernel
theorem dX3_extend_111 : decode cX3_extend 111 = .ok (.iinc 8 1, 3) := by decide +kernel
theorem dX3_extend_114 : decode cX3_extend 114 = .ok (.goto (-67), 3) := by decide +kernel
theorem dX3_extend_117 : decode cX3_extend 117 = .ok (.return_, 1) := by decide +kernel
theorem dX3_close_0 : decode cX3_close 0 = .ok (.iload_n 1, 1) := by decide +kernel
theorem dX3_close_1 : decode cX3_close 1 = .ok (.aload_n 0, 1) := by decide +kernel
theorem dX3_close_2 : decode cX3_close 2 = .ok (.getfield 15, 3) := by decide +kernel
theorem dX3_close_5 : decode cX3_close 5 = .ok (.arraylength, 1) := by decide +kernel
theorem dX3_close_6 : decode cX3_close 6 = .ok (.if_icmp .ge 23, 3) := by decide +kernel
theorem dX3_close_9 : decode cX3_close 9 = .ok (.lload_n 2, 1) := by decide +kernel
theorem dX3_close_10 : decode cX3_close 10 = .ok (.aload_n 0, 1) := by decide +kernel
theorem dX3_close_11 : decode cX3_close 11 = .ok (.getfield 15, 3) := by decide +kernel
theorem dX3_close_14 : decode cX3_close 14 = .ok (.iload_n 1, 1) := by decide +kernel
theorem dX3_close_15 : decode cX3_close 15 = .ok (.laload, 1) := by decide +kernel
theorem dX3_close_16 : decode cX3_close 16 = .ok (.invokestatic 27, 3) := by decide +kernel
theorem dX3_close_19 : decode cX3_close 19 = .ok (.ifCond .eq 10, 3) := by decide +kernel
theorem dX3_close_22 : decode cX3_close 22 = .ok (.aload_n 0, 1) := by decide +kernel
theorem dX3_close_23 : decode cX3_close 23 = .ok (.getfield 15, 3) := by decide +kernel
theorem dX3_close_26 : decode cX3_close 26 = .ok (.iload_n 1, 1) := by decide +kernel
theorem dX3_close_27 : decode cX3_close 27 = .ok (.lload_n 2, 1) := by decide +kernel
theorem dX3_close_28 : decode cX3_close 28 = .ok (.lastore, 1) := by decide +kernel
theorem dX3_close_29 : decode cX3_close 29 = .ok (.return_, 1) := by decide +kernel
theorem dX4_init_0 : decode cX4_init 0 = .ok (.aload_n 0, 1) := by decide +kernel
theorem dX4_init_1 : decode cX4_init 1 = .ok (.invokespecial 1, 3) := by decide +kernel
theorem dX4_init_4 : decode cX4_init 4 = .ok (.aload_n 0, 1) := by decide +kernel
theorem dX4_init_5 : decode cX4_init 5 = .ok (.new 7, 3) := by decide +kernel
theorem dX4_init_8 : decode cX4_init 8 = .ok (.dup, 1) := by decide +kernel
theorem dX4_init_9 : decode cX4_init 9 = .ok (.invokespecial 9, 3) := by decide +kernel
theorem dX4_init_12 : decode cX4_init 12 = .ok (.putfield 10, 3) := by decide +kernel
theorem dX4_init_15 : decode cX4_init 15 = .ok (.aload_n 0, 1) := by decide +kernel
theorem dX4_init_16 : decode cX4_init 16 = .ok (.new 7, 3) := by decide +kernel
theorem dX4_init_19 : decode cX4_init 19 = .ok (.dup, 1) := by decide +kernel
theorem dX4_init_20 : decode cX4_init 20 = .ok (.invokespecial 9, 3) := by decide +kernel
theorem dX4_init_23 : decode cX4_init 23 = .ok (.putfield 16, 3) := by decide +kernel
theorem dX4_init_26 : decode cX4_init 26 = .ok (.return_, 1) := by decide +kernel
theorem dX4_isAbove_0 : decode cX4_isAbove 0 = .ok (.aload_n 0, 1) := by decide +kernel
theorem dX4_isAbove_1 : decode cX4_isAbove 1 = .ok (.getfield 10, 3) := by decide +kernel
theorem dX4_isAbove_4 : decode cX4_isAbove 4 = .ok (.invokevirtual 19, 3) := by decide +kernel
theorem dX4_isAbove_7 : decode cX4_isAbove 7 = .ok (.aload_n 0, 1) := by decide +kernel
theorem dX4_isAbove_8 : decode cX4_isAbove 8 = .ok (.getfield 10, 3) := by decide +kernel
theorem dX4_isAbove_11 : decode cX4_isAbove 11 = .ok (.lload_n 1, 1) := by decide +kernel
theorem dX4_isAbove_12 : decode cX4_isAbove 12 = .ok (.invokestatic 22, 3) := by decide +kernel
theorem dX4_isAbove_15 : decode cX4_isAbove 15 = .ok (.iload 6, 2) := by decide +kernel
theorem dX4_isAbove_17 : decode cX4_isAbove 17 = .ok (.invokevirtual 28, 3) := by decide +kernel
theorem dX4_isAbove_20 : decode cX4_isAbove 20 = .ok (.aload_n 0, 1) := by decide +kernel
theorem dX4_isAbove_21 : decode cX4_isAbove 21 = .ok (.getfield 10, 3) := by decide +kernel
theorem dX4_isAbove_24 : decode cX4_isAbove 24 = .ok (.lload 4, 2) := by decide +kernel
theorem dX4_isAbove_26 : decode cX4_isAbove 26 = .ok (.invokestatic 32, 3) := by decide +kernel
theorem dX4_isAbove_29 : decode cX4_isAbove 29 = .ok (.iload_n 3, 1) := by decide +kernel
theorem dX4_isAbove_30 : decode cX4_isAbove 30 = .ok (.invokevirtual 28, 3) := by decide +kernel
theorem dX4_isAbove_33 : decode cX4_isAbove 33 = .ok (.aload_n 0, 1) := by decide +kernel
theorem dX4_isAbove_34 : decode cX4_isAbove 34 = .ok (.getfield 16, 3) := by decide +kernel
theorem dX4_isAbove_37 : decode cX4_isAbove 37 = .ok (.invokevirtual 19, 3) := by decide +kernel
theorem dX4_isAbove_40 : decode cX4_isAbove 40 = .ok (.aload_n 0, 1) := by decide +kernel
theorem dX4_isAbove_41 : decode cX4_isAbove 41 = .ok (.getfield 16, 3) := by decide +kernel
theorem dX4_isAbove_44 : decode cX4_isAbove 44 = .ok (.lload 4, 2) := by decide +kernel
theorem dX4_isAbove_46 : decode cX4_isAbove 46 = .ok (.invokestatic 22, 3) := by decide +kernel
theorem dX4_isAbove_49 : decode cX4_isAbove 49 = .ok (.iload_n 3, 1) := by decide +kernel
theorem dX4_isAbove_50 : decode cX4_isAbove 50 = .ok (.invokevirtual 28, 3) := by decide +kernel
theorem dX4_isAbove_53 : decode cX4_isAbove 53 = .ok (.aload_n 0, 1) := by decide +kernel
theorem dX4_isAbove_54 : decode cX4_isAbove 54 = .ok (.getfield 16, 3) := by decide +kernel
theorem dX4_isAbove_57 : decode cX4_isAbove 57 = .ok (.lload_n 1, 1) := by decide +kernel
theorem dX4_isAbove_58 : decode cX4_isAbove 58 = .ok (.invokestatic 32, 3) := by decide +kernel
theorem dX4_isAbove_61 : decode cX4_isAbove 61 = .ok (.iload 6, 2) := by decide +kernel
theorem dX4_isAbove_63 : decode cX4_isAbove 63 = .ok (.invokevirtual 28, 3) := by decide +kernel
theorem dX4_isAbove_66 : decode cX4_isAbove 66 = .ok (.aload_n 0, 1) := by decide +kernel
theorem dX4_isAbove_67 : decode cX4_isAbove 67 = .ok (.getfield 10, 3) := by decide +kernel
theorem dX4_isAbove_70 : decode cX4_isAbove 70 = .ok (.aload_n 0, 1) := by decide +kernel
theorem dX4_isAbove_71 : decode cX4_isAbove 71 = .ok (.getfield 16, 3) := by decide +kernel
theorem dX4_isAbove_74 : decode cX4_isAbove 74 = .ok (.invokevirtual 35, 3) := by decide +kernel
theorem dX4_isAbove_77 : decode cX4_isAbove 77 = .ok (.ireturn, 1) := by decide +kernel
