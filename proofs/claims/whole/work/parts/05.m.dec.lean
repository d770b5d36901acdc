-- decode rows: X9d
theorem dX9_rowPart_3 : decode cX9_rowPart 3 = .ok (.lstore 5, 2) := by decide +kernel
theorem dX9_rowPart_5 : decode cX9_rowPart 5 = .ok (.iconst 0, 1) := by decide +kernel
theorem dX9_rowPart_6 : decode cX9_rowPart 6 = .ok (.istore 7, 2) := by decide +kernel
theorem dX9_rowPart_8 : decode cX9_rowPart 8 = .ok (.iload 7, 2) := by decide +kernel
theorem dX9_rowPart_10 : decode cX9_rowPart 10 = .ok (.aload_n 0, 1) := by decide +kernel
theorem dX9_rowPart_11 : decode cX9_rowPart 11 = .ok (.getfield 66, 3) := by decide +kernel
theorem dX9_rowPart_14 : decode cX9_rowPart 14 = .ok (.if_icmp .ge 42, 3) := by decide +kernel
theorem dX9_rowPart_17 : decode cX9_rowPart 17 = .ok (.iload 7, 2) := by decide +kernel
theorem dX9_rowPart_19 : decode cX9_rowPart 19 = .ok (.iload_n 1, 1) := by decide +kernel
theorem dX9_rowPart_20 : decode cX9_rowPart 20 = .ok (.if_icmp .ne 6, 3) := by decide +kernel
theorem dX9_rowPart_23 : decode cX9_rowPart 23 = .ok (.goto 27, 3) := by decide +kernel
theorem dX9_rowPart_26 : decode cX9_rowPart 26 = .ok (.lload_n 3, 1) := by decide +kernel
theorem dX9_rowPart_27 : decode cX9_rowPart 27 = .ok (.aload_n 0, 1) := by decide +kernel
theorem dX9_rowPart_28 : decode cX9_rowPart 28 = .ok (.iload_n 1, 1) := by decide +kernel
theorem dX9_rowPart_29 : decode cX9_rowPart 29 = .ok (.iload 7, 2) := by decide +kernel
theorem dX9_rowPart_31 : decode cX9_rowPart 31 = .ok (.invokevirtual 91, 3) := by decide +kernel
theorem dX9_rowPart_34 : decode cX9_rowPart 34 = .ok (.i2l, 1) := by decide +kernel
theorem dX9_rowPart_35 : decode cX9_rowPart 35 = .ok (.lmul, 1) := by decide +kernel
theorem dX9_rowPart_36 : decode cX9_rowPart 36 = .ok (.lstore_n 3, 1) := by decide +kernel
theorem dX9_rowPart_37 : decode cX9_rowPart 37 = .ok (.lload 5, 2) := by decide +kernel
theorem dX9_rowPart_39 : decode cX9_rowPart 39 = .ok (.aload_n 0, 1) := by decide +kernel
theorem dX9_rowPart_40 : decode cX9_rowPart 40 = .ok (.iload_n 1, 1) := by decide +kernel
theorem dX9_rowPart_41 : decode cX9_rowPart 41 = .ok (.iload 7, 2) := by decide +kernel
theorem dX9_rowPart_43 : decode cX9_rowPart 43 = .ok (.invokevirtual 94, 3) := by decide +kernel
theorem dX9_rowPart_46 : decode cX9_rowPart 46 = .ok (.i2l, 1) := by decide +kernel
theorem dX9_rowPart_47 : decode cX9_rowPart 47 = .ok (.lmul, 1) := by decide +kernel
theorem dX9_rowPart_48 : decode cX9_rowPart 48 = .ok (.lstore 5, 2) := by decide +kernel
theorem dX9_rowPart_50 : decode cX9_rowPart 50 = .ok (.iinc 7 1, 3) := by decide +kernel
theorem dX9_rowPart_53 : decode cX9_rowPart 53 = .ok (.goto (-45), 3) := by decide +kernel
theorem dX9_rowPart_56 : decode cX9_rowPart 56 = .ok (.lload_n 3, 1) := by decide +kernel
theorem dX9_rowPart_57 : decode cX9_rowPart 57 = .ok (.lload 5, 2) := by decide +kernel
theorem dX9_rowPart_59 : decode cX9_rowPart 59 = .ok (.invokestatic 81, 3) := by decide +kernel
theorem dX9_rowPart_62 : decode cX9_rowPart 62 = .ok (.lstore 7, 2) := by decide +kernel
theorem dX9_rowPart_64 : decode cX9_rowPart 64 = .ok (.iload_n 2, 1) := by decide +kernel
theorem dX9_rowPart_65 : decode cX9_rowPart 65 = .ok (.ifCond .eq 10, 3) := by decide +kernel
theorem dX9_rowPart_68 : decode cX9_rowPart 68 = .ok (.lload_n 3, 1) := by decide +kernel
theorem dX9_rowPart_69 : decode cX9_rowPart 69 = .ok (.lload 7, 2) := by decide +kernel
theorem dX9_rowPart_71 : decode cX9_rowPart 71 = .ok (.ldiv, 1) := by decide +kernel
theorem dX9_rowPart_72 : decode cX9_rowPart 72 = .ok (.goto 8, 3) := by decide +kernel
theorem dX9_rowPart_75 : decode cX9_rowPart 75 = .ok (.lload 5, 2) := by decide +kernel
theorem dX9_rowPart_77 : decode cX9_rowPart 77 = .ok (.lload 7, 2) := by decide +kernel
theorem dX9_rowPart_79 : decode cX9_rowPart 79 = .ok (.ldiv, 1) := by decide +kernel
theorem dX9_rowPart_80 : decode cX9_rowPart 80 = .ok (.lreturn, 1) := by decide +kernel
theorem dX9_row_0 : decode cX9_row 0 = .ok (.iload_n 1, 1) := by decide +kernel
theorem dX9_row_1 : decode cX9_row 1 = .ok (.iconst 0, 1) := by decide +kernel
theorem dX9_row_2 : decode cX9_row 2 = .ok (.aload_n 0, 1) := by decide +kernel
theorem dX9_row_3 : decode cX9_row 3 = .ok (.getfield 66, 3) := by decide +kernel
theorem dX9_row_6 : decode cX9_row 6 = .ok (.iconst 1, 1) := by decide +kernel
theorem dX9_row_7 : decode cX9_row 7 = .ok (.isub, 1) := by decide +kernel
theorem dX9_row_8 : decode cX9_row 8 = .ok (.invokestatic 73, 3) := by decide +kernel
theorem dX9_row_11 : decode cX9_row 11 = .ok (.ifCond .eq 19, 3) := by decide +kernel
theorem dX9_row_14 : decode cX9_row 14 = .ok (.aload_n 0, 1) := by decide +kernel
theorem dX9_row_15 : decode cX9_row 15 = .ok (.invokevirtual 121, 3) := by decide +kernel
theorem dX9_row_18 : decode cX9_row 18 = .ok (.ifCond .eq 12, 3) := by decide +kernel
theorem dX9_row_21 : decode cX9_row 21 = .ok (.iload_n 2, 1) := by decide +kernel
theorem dX9_row_22 : decode cX9_row 22 = .ok (.iconst 0, 1) := by decide +kernel
theorem dX9_row_23 : decode cX9_row 23 = .ok (.iconst 1, 1) := by decide +kernel
theorem dX9_row_24 : decode cX9_row 24 = .ok (.invokestatic 73, 3) := by decide +kernel
theorem dX9_row_27 : decode cX9_row 27 = .ok (.ifCond .ne 5, 3) := by decide +kernel
theorem dX9_row_30 : decode cX9_row 30 = .ok (.iconst (-1), 1) := by decide +kernel
theorem dX9_row_31 : decode cX9_row 31 = .ok (.ireturn, 1) := by decide +kernel
theorem dX9_row_32 : decode cX9_row 32 = .ok (.aload_n 0, 1) := by decide +kernel
theorem dX9_row_33 : decode cX9_row 33 = .ok (.iload_n 1, 1) := by decide +kernel
theorem dX9_row_34 : decode cX9_row 34 = .ok (.iload_n 2, 1) := by decide +kernel
theorem dX9_row_35 : decode cX9_row 35 = .ok (.ifCond .ne 7, 3) := by decide +kernel
theorem dX9_row_38 : decode cX9_row 38 = .ok (.iconst 1, 1) := by decide +kernel
theorem dX9_row_39 : decode cX9_row 39 = .ok (.goto 4, 3) := by decide +kernel
theorem dX9_row_42 : decode cX9_row 42 = .ok (.iconst 0, 1) := by decide +kernel
theorem dX9_row_43 : decode cX9_row 43 = .ok (.invokevirtual 124, 3) := by decide +kernel
theorem dX9_row_46 : decode cX9_row 46 = .ok (.l2i, 1) := by decide +kernel
theorem dX9_row_47 : decode cX9_row 47 = .ok (.ireturn, 1) := by decide +kernel
theorem dX9_order_0 : decode cX9_order 0 = .ok (.iload_n 1, 1) := by decide +kernel
theorem dX9_order_1 : decode cX9_order 1 = .ok (.iconst 0, 1) := by decide +kernel
theorem dX9_order_2 : decode cX9_order 2 = .ok (.aload_n 0, 1) := by decide +kernel
theorem dX9_order_3 : decode cX9_order 3 = .ok (.getfield 66, 3) := by decide +kernel
theorem dX9_order_6 : decode cX9_order 6 = .ok (.iconst 1, 1) := by decide +kernel
theorem dX9_order_7 : decode cX9_order 7 = .ok (.isub, 1) := by decide +kernel
theorem dX9_order_8 : decode cX9_order 8 = .ok (.invokestatic 73, 3) := by decide +kernel
theorem dX9_order_11 : decode cX9_order 11 = .ok (.ifCond .eq 24, 3) := by decide +kernel
theorem dX9_order_14 : decode cX9_order 14 = .ok (.iload_n 2, 1) := by decide +kernel
theorem dX9_order_15 : decode cX9_order 15 = .ok (.iconst 0, 1) := by decide +kernel
theorem dX9_order_16 : decode cX9_order 16 = .ok (.aload_n 0, 1) := by decide +kernel
theorem dX9_order_17 : decode cX9_order 17 = .ok (.getfield 66, 3) := by decide +kernel
theorem dX9_order_20 : decode cX9_order 20 = .ok (.iconst 1, 1) := by decide +kernel
theorem dX9_order_21 : decode cX9_order 21 = .ok (.isub, 1) := by decide +kernel
theorem dX9_order_22 : decode cX9_order 22 = .ok (.invokestatic 73, 3) := by decide +kernel
theorem dX9_order_25 : decode cX9_order 25 = .ok (.ifCond .eq 10, 3) := by decide +kernel
theorem dX9_order_28 : decode cX9_order 28 = .ok (.aload_n 0, 1) := by decide +kernel
theorem dX9_order_29 : decode cX9_order 29 = .ok (.invokevirtual 121, 3) := by decide +kernel
theorem dX9_order_32 : decode cX9_order 32 = .ok (.ifCond .ne 5, 3) := by decide +kernel
theorem dX9_order_35 : decode cX9_order 35 = .ok (.iconst (-1), 1) := by decide +kernel
theorem dX9_order_36 : decode cX9_order 36 = .ok (.ireturn, 1) := by decide +kernel
theorem dX9_order_37 : decode cX9_order 37 = .ok (.aload_n 0, 1) := by decide +kernel
theorem dX9_order_38 : decode cX9_order 38 = .ok (.iload_n 1, 1) := by decide +kernel
theorem dX9_order_39 : decode cX9_order 39 = .ok (.iconst 1, 1) := by decide +kernel
theorem dX9_order_40 : decode cX9_order 40 = .ok (.invokevirtual 124, 3) := by decide +kernel
theorem dX9_order_43 : decode cX9_order 43 = .ok (.aload_n 0, 1) := by decide +kernel
theorem dX9_order_44 : decode cX9_order 44 = .ok (.iload_n 2, 1) := by decide +kernel
theorem dX9_order_45 : decode cX9_order 45 = .ok (.iconst 0, 1) := by decide +kernel
theorem dX9_order_46 : decode cX9_order 46 = .ok (.invokevirtual 124, 3) := by decide +kernel
theorem dX9_order_49 : decode cX9_order 49 = .ok (.lmul, 1) := by decide +kernel
theorem dX9_order_50 : decode cX9_order 50 = .ok (.lstore_n 3, 1) := by decide +kernel
theorem dX9_order_51 : decode cX9_order 51 = .ok (.aload_n 0, 1) := by decide +kernel
theorem dX9_order_52 : decode cX9_order 52 = .ok (.iload_n 2, 1) := by decide +kernel
theorem dX9_order_53 : decode cX9_order 53 = .ok (.iconst 1, 1) := by decide +kernel
theorem dX9_order_54 : decode cX9_order 54 = .ok (.invokevirtual 124, 3) := by decide +kernel
theorem dX9_order_57 : decode cX9_order 57 = .ok (.aload_n 0, 1) := by decide +kernel
theorem dX9_order_58 : decode cX9_order 58 = .ok (.iload_n 1, 1) := by decide +kernel
theorem dX9_order_59 : decode cX9_order 59 = .ok (.iconst 0, 1) := by decide +kernel
theorem dX9_order_60 : decode cX9_order 60 = .ok (.invokevirtual 124, 3) := by decide +kernel
theorem dX9_order_63 : decode cX9_order 63 = .ok (.lmul, 1) := by decide +kernel
theorem dX9_order_64 : decode cX9_order 64 = .ok (.lstore 5, 2) := by decide +kernel
theorem dX9_order_66 : decode cX9_order 66 = .ok (.lload_n 3, 1) := by decide +kernel
theorem dX9_order_67 : decode cX9_order 67 = .ok (.lload 5, 2) := by decide +kernel
theorem dX9_order_69 : decode cX9_order 69 = .ok (.lcmp, 1) := by decide +kernel
theorem dX9_order_70 : decode cX9_order 70 = .ok (.ifCond .le 7, 3) := by decide +kernel
theorem dX9_order_73 : decode cX9_order 73 = .ok (.iconst 1, 1) := by decide +kernel
theorem dX9_order_74 : decode cX9_order 74 = .ok (.goto 15, 3) := by decide +kernel
theorem dX9_order_77 : decode cX9_order 77 = .ok (.lload_n 3, 1) := by decide +kernel
theorem dX9_order_78 : decode cX9_order 78 = .ok (.lload 5, 2) := by decide +kernel
theorem dX9_order_80 : decode cX9_order 80 = .ok (.lcmp, 1) := by decide +kernel
theorem dX9_order_81 : decode cX9_order 81 = .ok (.ifCond .ge 7, 3) := by decide +kernel
theorem dX9_order_84 : decode cX9_order 84 = .ok (.iconst 2, 1) := by decide +kernel
theorem dX9_order_85 : decode cX9_order 85 = .ok (.goto 4, 3) := by decide +kernel
theorem dX9_order_88 : decode cX9_order 88 = .ok (.iconst 0, 1) := by decide +kernel
theorem dX9_order_89 : decode cX9_order 89 = .ok (.ireturn, 1) := by decide +kernel
theorem dX9_one_0 : decode cX9_one 0 = .ok (.iconst 0, 1) := by decide +kernel
theorem dX9_one_1 : decode cX9_one 1 = .ok (.istore_n 1, 1) := by decide +kernel
theorem dX9_one_2 : decode cX9_one 2 = .ok (.iload_n 1, 1) := by decide +kernel
theorem dX9_one_3 : decode cX9_one 3 = .ok (.bipush 12, 2) := by decide +kernel
theorem dX9_one_5 : decode cX9_one 5 = .ok (.if_icmp .ge 21, 3) := by decide +kernel
theorem dX9_one_8 : decode cX9_one 8 = .ok (.aload_n 0, 1) := by decide +kernel
theorem dX9_one_9 : decode cX9_one 9 = .ok (.iload_n 1, 1) := by decide +kernel
theorem dX9_one_10 : decode cX9_one 10 = .ok (.iload_n 1, 1) := by decide +kernel
theorem dX9_one_11 : decode cX9_one 11 = .ok (.ifCond .ne 7, 3) := by decide +kernel
theorem dX9_one_14 : decode cX9_one 14 = .ok (.lconst 1, 1) := by decide +kernel
theorem dX9_one_15 : decode cX9_one 15 = .ok (.goto 4, 3) := by decide +kernel
theorem dX9_one_18 : decode cX9_one 18 = .ok (.lconst 0, 1) := by decide +kernel
theorem dX9_one_19 : decode cX9_one 19 = .ok (.lastore, 1) := by decide +kernel
theorem dX9_one_20 : decode cX9_one 20 = .ok (.iinc 1 1, 3) := by decide +kernel
theorem dX9_one_23 : decode cX9_one 23 = .ok (.goto (-21), 3) := by decide +kernel
theorem dX9_one_26 : decode cX9_one 26 = .ok (.return_, 1) := by decide +kernel
theorem dX9_times_0 : decode cX9_times 0 = .ok (.iconst 0, 1) := by decide +kernel
theorem dX9_times_1 : decode cX9_times 1 = .ok (.istore 4, 2) := by decide +kernel
theorem dX9_times_3 : decode cX9_times 3 = .ok (.iload 4, 2) := by decide +kernel
theorem dX9_times_5 : decode cX9_times 5 = .ok (.iload_n 3, 1) := by decide +kernel
theorem dX9_times_6 : decode cX9_times 6 = .ok (.if_icmp .ge 57, 3) := by decide +kernel
theorem dX9_times_9 : decode cX9_times 9 = .ok (.lconst 0, 1) := by decide +kernel
theorem dX9_times_10 : decode cX9_times 10 = .ok (.lstore 5, 2) := by decide +kernel
theorem dX9_times_12 : decode cX9_times 12 = .ok (.iconst 0, 1) := by decide +kernel
theorem dX9_times_13 : decode cX9_times 13 = .ok (.istore 7, 2) := by decide +kernel
theorem dX9_times_15 : decode cX9_times 15 = .ok (.iload 7, 2) := by decide +kernel
theorem dX9_times_17 : decode cX9_times 17 = .ok (.bipush 12, 2) := by decide +kernel
theorem dX9_times_19 : decode cX9_times 19 = .ok (.if_icmp .ge 38, 3) := by decide +kernel
theorem dX9_times_22 : decode cX9_times 22 = .ok (.aload_n 0, 1) := by decide +kernel
theorem dX9_times_23 : decode cX9_times 23 = .ok (.iload 7, 2) := by decide +kernel
theorem dX9_times_25 : decode cX9_times 25 = .ok (.laload, 1) := by decide +kernel
theorem dX9_times_26 : decode cX9_times 26 = .ok (.lload_n 1, 1) := by decide +kernel
theorem dX9_times_27 : decode cX9_times 27 = .ok (.lmul, 1) := by decide +kernel
theorem dX9_times_28 : decode cX9_times 28 = .ok (.lload 5, 2) := by decide +kernel
theorem dX9_times_30 : decode cX9_times 30 = .ok (.ladd, 1) := by decide +kernel
theorem dX9_times_31 : decode cX9_times 31 = .ok (.lstore 8, 2) := by decide +kernel
theorem dX9_times_33 : decode cX9_times 33 = .ok (.aload_n 0, 1) := by decide +kernel
theorem dX9_times_34 : decode cX9_times 34 = .ok (.iload 7, 2) := by decide +kernel
theorem dX9_times_36 : decode cX9_times 36 = .ok (.lload 8, 2) := by decide +kernel
theorem dX9_times_38 : decode cX9_times 38 = .ok (.ldc2_w 128, 3) := by decide +kernel
theorem dX9_times_41 : decode cX9_times 41 = .ok (.lrem, 1) := by decide +kernel
theorem dX9_times_42 : decode cX9_times 42 = .ok (.lastore, 1) := by decide +kernel
theorem dX9_times_43 : decode cX9_times 43 = .ok (.lload 8, 2) := by decide +kernel
theorem dX9_times_45 : decode cX9_times 45 = .ok (.ldc2_w 128, 3) := by decide +kernel
theorem dX9_times_48 : decode cX9_times 48 = .ok (.ldiv, 1) := by decide +kernel
theorem dX9_times_49 : decode cX9_times 49 = .ok (.lstore 5, 2) := by decide +kernel
theorem dX9_times_51 : decode cX9_times 51 = .ok (.iinc 7 1, 3) := by decide +kernel
theorem dX9_times_54 : decode cX9_times 54 = .ok (.goto (-39), 3) := by decide +kernel
theorem dX9_times_57 : decode cX9_times 57 = .ok (.iinc 4 1, 3) := by decide +kernel
theorem dX9_times_60 : decode cX9_times 60 = .ok (.goto (-57), 3) := by decide +kernel
theorem dX9_times_63 : decode cX9_times 63 = .ok (.return_, 1) := by decide +kernel
theorem dX9_compare_0 : decode cX9_compare 0 = .ok (.aload_n 0, 1) := by decide +kernel
theorem dX9_compare_1 : decode cX9_compare 1 = .ok (.getfield 48, 3) := by decide +kernel
theorem dX9_compare_4 : decode cX9_compare 4 = .ok (.invokestatic 130, 3) := by decide +kernel
theorem dX9_compare_7 : decode cX9_compare 7 = .ok (.aload_n 0, 1) := by decide +kernel
theorem dX9_compare_8 : decode cX9_compare 8 = .ok (.getfield 48, 3) := by decide +kernel
theorem dX9_compare_11 : decode cX9_compare 11 = .ok (.lload_n 1, 1) := by decide +kernel
theorem dX9_compare_12 : decode cX9_compare 12 = .ok (.aload_n 0, 1) := by decide +kernel
theorem dX9_compare_13 : decode cX9_compare 13 = .ok (.getfield 134, 3) := by decide +kernel
theorem dX9_compare_16 : decode cX9_compare 16 = .ok (.invokestatic 137, 3) := by decide +kernel
theorem dX9_compare_19 : decode cX9_compare 19 = .ok (.aload_n 0, 1) := by decide +kernel
theorem dX9_compare_20 : decode cX9_compare 20 = .ok (.getfield 48, 3) := by decide +kernel
theorem dX9_compare_23 : decode cX9_compare 23 = .ok (.aload_n 0, 1) := by decide +kernel
theorem dX9_compare_24 : decode cX9_compare 24 = .ok (.getfield 141, 3) := by decide +kernel
theorem dX9_compare_27 : decode cX9_compare 27 = .ok (.iload 5, 2) := by decide +kernel
theorem dX9_compare_29 : decode cX9_compare 29 = .ok (.invokestatic 137, 3) := by decide +kernel
theorem dX9_compare_32 : decode cX9_compare 32 = .ok (.aload_n 0, 1) := by decide +kernel
theorem dX9_compare_33 : decode cX9_compare 33 = .ok (.getfield 51, 3) := by decide +kernel
theorem dX9_compare_36 : decode cX9_compare 36 = .ok (.invokestatic 130, 3) := by decide +kernel
theorem dX9_compare_39 : decode cX9_compare 39 = .ok (.aload_n 0, 1) := by decide +kernel
theorem dX9_compare_40 : decode cX9_compare 40 = .ok (.getfield 51, 3) := by decide +kernel
theorem dX9_compare_43 : decode cX9_compare 43 = .ok (.aload_n 0, 1) := by decide +kernel
theorem dX9_compare_44 : decode cX9_compare 44 = .ok (.getfield 145, 3) := by decide +kernel
theorem dX9_compare_47 : decode cX9_compare 47 = .ok (.iload 5, 2) := by decide +kernel
theorem dX9_compare_49 : decode cX9_compare 49 = .ok (.invokestatic 137, 3) := by decide +kernel
theorem dX9_compare_52 : decode cX9_compare 52 = .ok (.aload_n 0, 1) := by decide +kernel
theorem dX9_compare_53 : decode cX9_compare 53 = .ok (.getfield 51, 3) := by decide +kernel
theorem dX9_compare_56 : decode cX9_compare 56 = .ok (.lload_n 3, 1) := by decide +kernel
theorem dX9_compare_57 : decode cX9_compare 57 = .ok (.aload_n 0, 1) := by decide +kernel
theorem dX9_compare_58 : decode cX9_compare 58 = .ok (.getfield 134, 3) := by decide +kernel
theorem dX9_compare_61 : decode cX9_compare 61 = .ok (.invokestatic 137, 3) := by decide +kernel
theorem dX9_compare_64 : decode cX9_compare 64 = .ok (.bipush 11, 2) := by decide +kernel
theorem dX9_compare_66 : decode cX9_compare 66 = .ok (.istore 6, 2) := by decide +kernel
theorem dX9_compare_68 : decode cX9_compare 68 = .ok (.iload 6, 2) := by decide +kernel
theorem dX9_compare_70 : decode cX9_compare 70 = .ok (.ifCond .lt 51, 3) := by decide +kernel
theorem dX9_compare_73 : decode cX9_compare 73 = .ok (.aload_n 0, 1) := by decide +kernel
theorem dX9_compare_74 : decode cX9_compare 74 = .ok (.getfield 48, 3) := by decide +kernel
theorem dX9_compare_77 : decode cX9_compare 77 = .ok (.iload 6, 2) := by decide +kernel
theorem dX9_compare_79 : decode cX9_compare 79 = .ok (.laload, 1) := by decide +kernel
theorem dX9_compare_80 : decode cX9_compare 80 = .ok (.aload_n 0, 1) := by decide +kernel
theorem dX9_compare_81 : decode cX9_compare 81 = .ok (.getfield 51, 3) := by decide +kernel
theorem dX9_compare_84 : decode cX9_compare 84 = .ok (.iload 6, 2) := by decide +kernel
theorem dX9_compare_86 : decode cX9_compare 86 = .ok (.laload, 1) := by decide +kernel
theorem dX9_compare_87 : decode cX9_compare 87 = .ok (.lcmp, 1) := by decide +kernel
theorem dX9_compare_88 : decode cX9_compare 88 = .ok (.ifCond .eq 27, 3) := by decide +kernel
theorem dX9_compare_91 : decode cX9_compare 91 = .ok (.aload_n 0, 1) := by decide +kernel
theorem dX9_compare_92 : decode cX9_compare 92 = .ok (.getfield 48, 3) := by decide +kernel
theorem dX9_compare_95 : decode cX9_compare 95 = .ok (.iload 6, 2) := by decide +kernel
theorem dX9_compare_97 : decode cX9_compare 97 = .ok (.laload, 1) := by decide +kernel
theorem dX9_compare_98 : decode cX9_compare 98 = .ok (.aload_n 0, 1) := by decide +kernel
theorem dX9_compare_99 : decode cX9_compare 99 = .ok (.getfield 51, 3) := by decide +kernel
theorem dX9_compare_102 : decode cX9_compare 102 = .ok (.iload 6, 2) := by decide +kernel
theorem dX9_compare_104 : decode cX9_compare 104 = .ok (.laload, 1) := by decide +kernel
theorem dX9_compare_105 : decode cX9_compare 105 = .ok (.lcmp, 1) := by decide +kernel
theorem dX9_compare_106 : decode cX9_compare 106 = .ok (.ifCond .le 7, 3) := by decide +kernel
theorem dX9_compare_109 : decode cX9_compare 109 = .ok (.iconst 1, 1) := by decide +kernel
theorem dX9_compare_110 : decode cX9_compare 110 = .ok (.goto 4, 3) := by decide +kernel
theorem dX9_compare_113 : decode cX9_compare 113 = .ok (.iconst (-1), 1) := by decide +kernel
theorem dX9_compare_114 : decode cX9_compare 114 = .ok (.ireturn, 1) := by decide +kernel
theorem dX9_compare_115 : decode cX9_compare 115 = .ok (.iinc 6 (-1), 3) := by decide +kernel
theorem dX9_compare_118 : decode cX9_compare 118 = .ok (.goto (-50), 3) := by decide +kernel
theorem dX9_compare_121 : decode cX9_compare 121 = .ok (.iconst 0, 1) := by decide +kernel
theorem dX9_compare_122 : decode cX9_compare 122 = .ok (.ireturn, 1) := by decide +kernel
theorem dX9_ring_0 : decode cX9_ring 0 = .ok (.lload_n 1, 1) := by decide +kernel
theorem dX9_ring_1 : decode cX9_ring 1 = .ok (.lload_n 3, 1) := by decide +kernel
theorem dX9_ring_2 : decode cX9_ring 2 = .ok (.invokestatic 81, 3) := by decide +kernel
theorem dX9_ring_5 : decode cX9_ring 5 = .ok (.lstore 6, 2) := by decide +kernel
theorem dX9_ring_7 : decode cX9_ring 7 = .ok (.lload_n 1, 1) := by decide +kernel
theorem dX9_ring_8 : decode cX9_ring 8 = .ok (.lload_n 3, 1) := by decide +kernel
theorem dX9_ring_9 : decode cX9_ring 9 = .ok (.invokestatic 148, 3) := by decide +kernel
theorem dX9_ring_12 : decode cX9_ring 12 = .ok (.lload 6, 2) := by decide +kernel
theorem dX9_ring_14 : decode cX9_ring 14 = .ok (.ldiv, 1) := by decide +kernel
theorem dX9_ring_15 : decode cX9_ring 15 = .ok (.lstore 8, 2) := by decide +kernel
theorem dX9_ring_17 : decode cX9_ring 17 = .ok (.lload_n 1, 1) := by decide +kernel
theorem dX9_ring_18 : decode cX9_ring 18 = .ok (.lload_n 3, 1) := by decide +kernel
theorem dX9_ring_19 : decode cX9_ring 19 = .ok (.invokestatic 150, 3) := by decide +kernel
theorem dX9_ring_22 : decode cX9_ring 22 = .ok (.lload 6, 2) := by decide +kernel
theorem dX9_ring_24 : decode cX9_ring 24 = .ok (.ldiv, 1) := by decide +kernel
theorem dX9_ring_25 : decode cX9_ring 25 = .ok (.lstore 10, 2) := by decide +kernel
theorem dX9_ring_27 : decode cX9_ring 27 = .ok (.lload 8, 2) := by decide +kernel
theorem dX9_ring_29 : decode cX9_ring 29 = .ok (.lload 10, 2) := by decide +kernel
theorem dX9_ring_31 : decode cX9_ring 31 = .ok (.lcmp, 1) := by decide +kernel
theorem dX9_ring_32 : decode cX9_ring 32 = .ok (.ifCond .ne 4, 3) := by decide +kernel
theorem dX9_ring_35 : decode cX9_ring 35 = .ok (.return_, 1) := by decide +kernel
theorem dX9_ring_36 : decode cX9_ring 36 = .ok (.aload_n 0, 1) := by decide +kernel
theorem dX9_ring_37 : decode cX9_ring 37 = .ok (.getfield 134, 3) := by decide +kernel
theorem dX9_ring_40 : decode cX9_ring 40 = .ok (.ifCond .ne 7, 3) := by decide +kernel
theorem dX9_ring_43 : decode cX9_ring 43 = .ok (.iconst 1, 1) := by decide +kernel
theorem dX9_ring_44 : decode cX9_ring 44 = .ok (.goto 13, 3) := by decide +kernel
theorem dX9_ring_47 : decode cX9_ring 47 = .ok (.aload_n 0, 1) := by decide +kernel
theorem dX9_ring_48 : decode cX9_ring 48 = .ok (.lload 8, 2) := by decide +kernel
theorem dX9_ring_50 : decode cX9_ring 50 = .ok (.lload 10, 2) := by decide +kernel
theorem dX9_ring_52 : decode cX9_ring 52 = .ok (.iload 5, 2) := by decide +kernel
theorem dX9_ring_54 : decode cX9_ring 54 = .ok (.invokevirtual 152, 3) := by decide +kernel
theorem dX9_ring_57 : decode cX9_ring 57 = .ok (.istore 12, 2) := by decide +kernel
theorem dX9_ring_59 : decode cX9_ring 59 = .ok (.iload 12, 2) := by decide +kernel
theorem dX9_ring_61 : decode cX9_ring 61 = .ok (.ifCond .lt 17, 3) := by decide +kernel
theorem dX9_ring_64 : decode cX9_ring 64 = .ok (.iload 12, 2) := by decide +kernel
theorem dX9_ring_66 : decode cX9_ring 66 = .ok (.ifCond .ne 13, 3) := by decide +kernel
theorem dX9_ring_69 : decode cX9_ring 69 = .ok (.iload 5, 2) := by decide +kernel
theorem dX9_ring_71 : decode cX9_ring 71 = .ok (.aload_n 0, 1) := by decide +kernel
theorem dX9_ring_72 : decode cX9_ring 72 = .ok (.getfield 134, 3) := by decide +kernel
theorem dX9_ring_75 : decode cX9_ring 75 = .ok (.if_icmp .lt 4, 3) := by decide +kernel
theorem dX9_ring_78 : decode cX9_ring 78 = .ok (.return_, 1) := by decide +kernel
theorem dX9_ring_79 : decode cX9_ring 79 = .ok (.aload_n 0, 1) := by decide +kernel
theorem dX9_ring_80 : decode cX9_ring 80 = .ok (.lload 8, 2) := by decide +kernel
theorem dX9_ring_82 : decode cX9_ring 82 = .ok (.putfield 145, 3) := by decide +kernel
theorem dX9_ring_85 : decode cX9_ring 85 = .ok (.aload_n 0, 1) := by decide +kernel
theorem dX9_ring_86 : decode cX9_ring 86 = .ok (.lload 10, 2) := by decide +kernel
theorem dX9_ring_88 : decode cX9_ring 88 = .ok (.putfield 141, 3) := by decide +kernel
theorem dX9_ring_91 : decode cX9_ring 91 = .ok (.aload_n 0, 1) := by decide +kernel
theorem dX9_ring_92 : decode cX9_ring 92 = .ok (.iload 5, 2) := by decide +kernel
theorem dX9_ring_94 : decode cX9_ring 94 = .ok (.putfield 134, 3) := by decide +kernel
theorem dX9_ring_97 : decode cX9_ring 97 = .ok (.return_, 1) := by decide +kernel
theorem dX9_rings_0 : decode cX9_rings 0 = .ok (.aload_n 0, 1) := by decide +kernel
theorem dX9_rings_1 : decode cX9_rings 1 = .ok (.getfield 54, 3) := by decide +kernel
theorem dX9_rings_4 : decode cX9_rings 4 = .ok (.iload_n 1, 1) := by decide +kernel
theorem dX9_rings_5 : decode cX9_rings 5 = .ok (.iconst 1, 1) := by decide +kernel
theorem dX9_rings_6 : decode cX9_rings 6 = .ok (.isub, 1) := by decide +kernel
