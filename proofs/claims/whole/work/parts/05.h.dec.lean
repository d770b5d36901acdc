-- decode rows: X8a
theorem dX8_init_0 : decode cX8_init 0 = .ok (.aload_n 0, 1) := by decide +kernel
theorem dX8_init_1 : decode cX8_init 1 = .ok (.invokespecial 1, 3) := by decide +kernel
theorem dX8_init_4 : decode cX8_init 4 = .ok (.aload_n 0, 1) := by decide +kernel
theorem dX8_init_5 : decode cX8_init 5 = .ok (.iconst 2, 1) := by decide +kernel
theorem dX8_init_6 : decode cX8_init 6 = .ok (.bipush 6, 2) := by decide +kernel
theorem dX8_init_8 : decode cX8_init 8 = .ok (.iload_n 1, 1) := by decide +kernel
theorem dX8_init_9 : decode cX8_init 9 = .ok (.invokestatic 9, 3) := by decide +kernel
theorem dX8_init_12 : decode cX8_init 12 = .ok (.invokestatic 15, 3) := by decide +kernel
theorem dX8_init_15 : decode cX8_init 15 = .ok (.putfield 18, 3) := by decide +kernel
theorem dX8_init_18 : decode cX8_init 18 = .ok (.aload_n 0, 1) := by decide +kernel
theorem dX8_init_19 : decode cX8_init 19 = .ok (.new 22, 3) := by decide +kernel
theorem dX8_init_22 : decode cX8_init 22 = .ok (.dup, 1) := by decide +kernel
theorem dX8_init_23 : decode cX8_init 23 = .ok (.aload_n 0, 1) := by decide +kernel
theorem dX8_init_24 : decode cX8_init 24 = .ok (.getfield 18, 3) := by decide +kernel
theorem dX8_init_27 : decode cX8_init 27 = .ok (.invokespecial 24, 3) := by decide +kernel
theorem dX8_init_30 : decode cX8_init 30 = .ok (.putfield 27, 3) := by decide +kernel
theorem dX8_init_33 : decode cX8_init 33 = .ok (.aload_n 0, 1) := by decide +kernel
theorem dX8_init_34 : decode cX8_init 34 = .ok (.new 22, 3) := by decide +kernel
theorem dX8_init_37 : decode cX8_init 37 = .ok (.dup, 1) := by decide +kernel
theorem dX8_init_38 : decode cX8_init 38 = .ok (.aload_n 0, 1) := by decide +kernel
theorem dX8_init_39 : decode cX8_init 39 = .ok (.getfield 18, 3) := by decide +kernel
theorem dX8_init_42 : decode cX8_init 42 = .ok (.invokespecial 24, 3) := by decide +kernel
theorem dX8_init_45 : decode cX8_init 45 = .ok (.putfield 31, 3) := by decide +kernel
theorem dX8_init_48 : decode cX8_init 48 = .ok (.aload_n 0, 1) := by decide +kernel
theorem dX8_init_49 : decode cX8_init 49 = .ok (.new 34, 3) := by decide +kernel
theorem dX8_init_52 : decode cX8_init 52 = .ok (.dup, 1) := by decide +kernel
theorem dX8_init_53 : decode cX8_init 53 = .ok (.aload_n 0, 1) := by decide +kernel
theorem dX8_init_54 : decode cX8_init 54 = .ok (.getfield 18, 3) := by decide +kernel
theorem dX8_init_57 : decode cX8_init 57 = .ok (.invokespecial 36, 3) := by decide +kernel
theorem dX8_init_60 : decode cX8_init 60 = .ok (.putfield 37, 3) := by decide +kernel
theorem dX8_init_63 : decode cX8_init 63 = .ok (.aload_n 0, 1) := by decide +kernel
theorem dX8_init_64 : decode cX8_init 64 = .ok (.new 41, 3) := by decide +kernel
theorem dX8_init_67 : decode cX8_init 67 = .ok (.dup, 1) := by decide +kernel
theorem dX8_init_68 : decode cX8_init 68 = .ok (.aload_n 0, 1) := by decide +kernel
theorem dX8_init_69 : decode cX8_init 69 = .ok (.getfield 18, 3) := by decide +kernel
theorem dX8_init_72 : decode cX8_init 72 = .ok (.invokespecial 43, 3) := by decide +kernel
theorem dX8_init_75 : decode cX8_init 75 = .ok (.putfield 44, 3) := by decide +kernel
theorem dX8_init_78 : decode cX8_init 78 = .ok (.aload_n 0, 1) := by decide +kernel
theorem dX8_init_79 : decode cX8_init 79 = .ok (.new 48, 3) := by decide +kernel
theorem dX8_init_82 : decode cX8_init 82 = .ok (.dup, 1) := by decide +kernel
theorem dX8_init_83 : decode cX8_init 83 = .ok (.aload_n 0, 1) := by decide +kernel
theorem dX8_init_84 : decode cX8_init 84 = .ok (.getfield 18, 3) := by decide +kernel
theorem dX8_init_87 : decode cX8_init 87 = .ok (.invokespecial 50, 3) := by decide +kernel
theorem dX8_init_90 : decode cX8_init 90 = .ok (.putfield 51, 3) := by decide +kernel
theorem dX8_init_93 : decode cX8_init 93 = .ok (.aload_n 0, 1) := by decide +kernel
theorem dX8_init_94 : decode cX8_init 94 = .ok (.new 55, 3) := by decide +kernel
theorem dX8_init_97 : decode cX8_init 97 = .ok (.dup, 1) := by decide +kernel
theorem dX8_init_98 : decode cX8_init 98 = .ok (.aload_n 0, 1) := by decide +kernel
theorem dX8_init_99 : decode cX8_init 99 = .ok (.getfield 18, 3) := by decide +kernel
theorem dX8_init_102 : decode cX8_init 102 = .ok (.invokespecial 57, 3) := by decide +kernel
theorem dX8_init_105 : decode cX8_init 105 = .ok (.putfield 58, 3) := by decide +kernel
theorem dX8_init_108 : decode cX8_init 108 = .ok (.aload_n 0, 1) := by decide +kernel
theorem dX8_init_109 : decode cX8_init 109 = .ok (.new 62, 3) := by decide +kernel
theorem dX8_init_112 : decode cX8_init 112 = .ok (.dup, 1) := by decide +kernel
theorem dX8_init_113 : decode cX8_init 113 = .ok (.invokespecial 64, 3) := by decide +kernel
theorem dX8_init_116 : decode cX8_init 116 = .ok (.putfield 65, 3) := by decide +kernel
theorem dX8_init_119 : decode cX8_init 119 = .ok (.return_, 1) := by decide +kernel
theorem dX8_say_0 : decode cX8_say 0 = .ok (.aload_n 0, 1) := by decide +kernel
theorem dX8_say_1 : decode cX8_say 1 = .ok (.getfield 27, 3) := by decide +kernel
theorem dX8_say_4 : decode cX8_say 4 = .ok (.iload_n 1, 1) := by decide +kernel
theorem dX8_say_5 : decode cX8_say 5 = .ok (.iload_n 2, 1) := by decide +kernel
theorem dX8_say_6 : decode cX8_say 6 = .ok (.invokevirtual 69, 3) := by decide +kernel
theorem dX8_say_9 : decode cX8_say 9 = .ok (.ifCond .eq 18, 3) := by decide +kernel
theorem dX8_say_12 : decode cX8_say 12 = .ok (.iload_n 3, 1) := by decide +kernel
theorem dX8_say_13 : decode cX8_say 13 = .ok (.invokestatic 73, 3) := by decide +kernel
theorem dX8_say_16 : decode cX8_say 16 = .ok (.ifCond .eq 11, 3) := by decide +kernel
theorem dX8_say_19 : decode cX8_say 19 = .ok (.iload 4, 2) := by decide +kernel
theorem dX8_say_21 : decode cX8_say 21 = .ok (.invokestatic 73, 3) := by decide +kernel
theorem dX8_say_24 : decode cX8_say 24 = .ok (.ifCond .ne 5, 3) := by decide +kernel
theorem dX8_say_27 : decode cX8_say 27 = .ok (.iconst 0, 1) := by decide +kernel
theorem dX8_say_28 : decode cX8_say 28 = .ok (.ireturn, 1) := by decide +kernel
theorem dX8_say_29 : decode cX8_say 29 = .ok (.iload_n 3, 1) := by decide +kernel
theorem dX8_say_30 : decode cX8_say 30 = .ok (.i2l, 1) := by decide +kernel
theorem dX8_say_31 : decode cX8_say 31 = .ok (.iload 4, 2) := by decide +kernel
theorem dX8_say_33 : decode cX8_say 33 = .ok (.i2l, 1) := by decide +kernel
theorem dX8_say_34 : decode cX8_say 34 = .ok (.invokestatic 77, 3) := by decide +kernel
theorem dX8_say_37 : decode cX8_say 37 = .ok (.lstore 5, 2) := by decide +kernel
theorem dX8_say_39 : decode cX8_say 39 = .ok (.aload_n 0, 1) := by decide +kernel
theorem dX8_say_40 : decode cX8_say 40 = .ok (.getfield 27, 3) := by decide +kernel
theorem dX8_say_43 : decode cX8_say 43 = .ok (.iload_n 1, 1) := by decide +kernel
theorem dX8_say_44 : decode cX8_say 44 = .ok (.iload_n 2, 1) := by decide +kernel
theorem dX8_say_45 : decode cX8_say 45 = .ok (.lload 5, 2) := by decide +kernel
theorem dX8_say_47 : decode cX8_say 47 = .ok (.lload 5, 2) := by decide +kernel
theorem dX8_say_49 : decode cX8_say 49 = .ok (.invokevirtual 83, 3) := by decide +kernel
theorem dX8_say_52 : decode cX8_say 52 = .ok (.iconst 1, 1) := by decide +kernel
theorem dX8_say_53 : decode cX8_say 53 = .ok (.ireturn, 1) := by decide +kernel
theorem dX8_unsay_0 : decode cX8_unsay 0 = .ok (.aload_n 0, 1) := by decide +kernel
theorem dX8_unsay_1 : decode cX8_unsay 1 = .ok (.getfield 27, 3) := by decide +kernel
theorem dX8_unsay_4 : decode cX8_unsay 4 = .ok (.iload_n 1, 1) := by decide +kernel
theorem dX8_unsay_5 : decode cX8_unsay 5 = .ok (.iload_n 2, 1) := by decide +kernel
theorem dX8_unsay_6 : decode cX8_unsay 6 = .ok (.invokevirtual 87, 3) := by decide +kernel
theorem dX8_unsay_9 : decode cX8_unsay 9 = .ok (.ireturn, 1) := by decide +kernel
theorem dX8_said_0 : decode cX8_said 0 = .ok (.iload_n 3, 1) := by decide +kernel
theorem dX8_said_1 : decode cX8_said 1 = .ok (.invokestatic 90, 3) := by decide +kernel
theorem dX8_said_4 : decode cX8_said 4 = .ok (.ifCond .eq 15, 3) := by decide +kernel
theorem dX8_said_7 : decode cX8_said 7 = .ok (.aload_n 0, 1) := by decide +kernel
theorem dX8_said_8 : decode cX8_said 8 = .ok (.getfield 27, 3) := by decide +kernel
theorem dX8_said_11 : decode cX8_said 11 = .ok (.iload_n 1, 1) := by decide +kernel
theorem dX8_said_12 : decode cX8_said 12 = .ok (.iload_n 2, 1) := by decide +kernel
theorem dX8_said_13 : decode cX8_said 13 = .ok (.invokevirtual 93, 3) := by decide +kernel
theorem dX8_said_16 : decode cX8_said 16 = .ok (.ifCond .ne 5, 3) := by decide +kernel
theorem dX8_said_19 : decode cX8_said 19 = .ok (.iconst (-1), 1) := by decide +kernel
theorem dX8_said_20 : decode cX8_said 20 = .ok (.ireturn, 1) := by decide +kernel
theorem dX8_said_21 : decode cX8_said 21 = .ok (.aload_n 0, 1) := by decide +kernel
theorem dX8_said_22 : decode cX8_said 22 = .ok (.getfield 27, 3) := by decide +kernel
theorem dX8_said_25 : decode cX8_said 25 = .ok (.iload_n 1, 1) := by decide +kernel
theorem dX8_said_26 : decode cX8_said 26 = .ok (.iload_n 2, 1) := by decide +kernel
theorem dX8_said_27 : decode cX8_said 27 = .ok (.invokevirtual 96, 3) := by decide +kernel
theorem dX8_said_30 : decode cX8_said 30 = .ok (.iload_n 3, 1) := by decide +kernel
theorem dX8_said_31 : decode cX8_said 31 = .ok (.invokestatic 100, 3) := by decide +kernel
theorem dX8_said_34 : decode cX8_said 34 = .ok (.ireturn, 1) := by decide +kernel
theorem dX8_even_0 : decode cX8_even 0 = .ok (.aload_n 0, 1) := by decide +kernel
theorem dX8_even_1 : decode cX8_even 1 = .ok (.getfield 44, 3) := by decide +kernel
theorem dX8_even_4 : decode cX8_even 4 = .ok (.aload_n 0, 1) := by decide +kernel
theorem dX8_even_5 : decode cX8_even 5 = .ok (.getfield 27, 3) := by decide +kernel
theorem dX8_even_8 : decode cX8_even 8 = .ok (.invokevirtual 104, 3) := by decide +kernel
theorem dX8_even_11 : decode cX8_even 11 = .ok (.ireturn, 1) := by decide +kernel
theorem dX8_worst_0 : decode cX8_worst 0 = .ok (.iload_n 1, 1) := by decide +kernel
theorem dX8_worst_1 : decode cX8_worst 1 = .ok (.ifCond .lt 8, 3) := by decide +kernel
theorem dX8_worst_4 : decode cX8_worst 4 = .ok (.iload_n 1, 1) := by decide +kernel
theorem dX8_worst_5 : decode cX8_worst 5 = .ok (.iconst 4, 1) := by decide +kernel
theorem dX8_worst_6 : decode cX8_worst 6 = .ok (.if_icmp .le 5, 3) := by decide +kernel
theorem dX8_worst_9 : decode cX8_worst 9 = .ok (.iconst (-1), 1) := by decide +kernel
theorem dX8_worst_10 : decode cX8_worst 10 = .ok (.ireturn, 1) := by decide +kernel
theorem dX8_worst_11 : decode cX8_worst 11 = .ok (.aload_n 0, 1) := by decide +kernel
theorem dX8_worst_12 : decode cX8_worst 12 = .ok (.getfield 37, 3) := by decide +kernel
theorem dX8_worst_15 : decode cX8_worst 15 = .ok (.aload_n 0, 1) := by decide +kernel
theorem dX8_worst_16 : decode cX8_worst 16 = .ok (.getfield 27, 3) := by decide +kernel
theorem dX8_worst_19 : decode cX8_worst 19 = .ok (.invokevirtual 108, 3) := by decide +kernel
theorem dX8_worst_22 : decode cX8_worst 22 = .ok (.aload_n 0, 1) := by decide +kernel
theorem dX8_worst_23 : decode cX8_worst 23 = .ok (.getfield 37, 3) := by decide +kernel
theorem dX8_worst_26 : decode cX8_worst 26 = .ok (.getfield 112, 3) := by decide +kernel
theorem dX8_worst_29 : decode cX8_worst 29 = .ok (.lconst 1, 1) := by decide +kernel
theorem dX8_worst_30 : decode cX8_worst 30 = .ok (.lcmp, 1) := by decide +kernel
theorem dX8_worst_31 : decode cX8_worst 31 = .ok (.ifCond .ne 5, 3) := by decide +kernel
theorem dX8_worst_34 : decode cX8_worst 34 = .ok (.iconst (-1), 1) := by decide +kernel
theorem dX8_worst_35 : decode cX8_worst 35 = .ok (.ireturn, 1) := by decide +kernel
theorem dX8_worst_36 : decode cX8_worst 36 = .ok (.iload_n 1, 1) := by decide +kernel
theorem dX8_worst_37 : decode cX8_worst 37 = .ok (.tableswitch 51 0 2 #[27, 35, 43], 27) := by decide +kernel
theorem dX8_worst_64 : decode cX8_worst 64 = .ok (.aload_n 0, 1) := by decide +kernel
theorem dX8_worst_65 : decode cX8_worst 65 = .ok (.getfield 37, 3) := by decide +kernel
theorem dX8_worst_68 : decode cX8_worst 68 = .ok (.getfield 116, 3) := by decide +kernel
theorem dX8_worst_71 : decode cX8_worst 71 = .ok (.ireturn, 1) := by decide +kernel
theorem dX8_worst_72 : decode cX8_worst 72 = .ok (.aload_n 0, 1) := by decide +kernel
theorem dX8_worst_73 : decode cX8_worst 73 = .ok (.getfield 37, 3) := by decide +kernel
theorem dX8_worst_76 : decode cX8_worst 76 = .ok (.getfield 119, 3) := by decide +kernel
theorem dX8_worst_79 : decode cX8_worst 79 = .ok (.ireturn, 1) := by decide +kernel
theorem dX8_worst_80 : decode cX8_worst 80 = .ok (.aload_n 0, 1) := by decide +kernel
theorem dX8_worst_81 : decode cX8_worst 81 = .ok (.getfield 37, 3) := by decide +kernel
theorem dX8_worst_84 : decode cX8_worst 84 = .ok (.getfield 122, 3) := by decide +kernel
theorem dX8_worst_87 : decode cX8_worst 87 = .ok (.ireturn, 1) := by decide +kernel
theorem dX8_worst_88 : decode cX8_worst 88 = .ok (.aload_n 0, 1) := by decide +kernel
theorem dX8_worst_89 : decode cX8_worst 89 = .ok (.getfield 37, 3) := by decide +kernel
theorem dX8_worst_92 : decode cX8_worst 92 = .ok (.getfield 112, 3) := by decide +kernel
theorem dX8_worst_95 : decode cX8_worst 95 = .ok (.iload_n 1, 1) := by decide +kernel
theorem dX8_worst_96 : decode cX8_worst 96 = .ok (.iconst 3, 1) := by decide +kernel
theorem dX8_worst_97 : decode cX8_worst 97 = .ok (.isub, 1) := by decide +kernel
theorem dX8_worst_98 : decode cX8_worst 98 = .ok (.invokestatic 100, 3) := by decide +kernel
theorem dX8_worst_101 : decode cX8_worst 101 = .ok (.ireturn, 1) := by decide +kernel
theorem dX8_trees_0 : decode cX8_trees 0 = .ok (.aload_n 0, 1) := by decide +kernel
theorem dX8_trees_1 : decode cX8_trees 1 = .ok (.getfield 51, 3) := by decide +kernel
theorem dX8_trees_4 : decode cX8_trees 4 = .ok (.aload_n 0, 1) := by decide +kernel
theorem dX8_trees_5 : decode cX8_trees 5 = .ok (.getfield 27, 3) := by decide +kernel
theorem dX8_trees_8 : decode cX8_trees 8 = .ok (.invokevirtual 125, 3) := by decide +kernel
theorem dX8_trees_11 : decode cX8_trees 11 = .ok (.ireturn, 1) := by decide +kernel
theorem dX8_few_0 : decode cX8_few 0 = .ok (.aload_n 0, 1) := by decide +kernel
theorem dX8_few_1 : decode cX8_few 1 = .ok (.getfield 58, 3) := by decide +kernel
theorem dX8_few_4 : decode cX8_few 4 = .ok (.aload_n 0, 1) := by decide +kernel
theorem dX8_few_5 : decode cX8_few 5 = .ok (.getfield 27, 3) := by decide +kernel
theorem dX8_few_8 : decode cX8_few 8 = .ok (.invokevirtual 128, 3) := by decide +kernel
theorem dX8_few_11 : decode cX8_few 11 = .ok (.aload_n 0, 1) := by decide +kernel
theorem dX8_few_12 : decode cX8_few 12 = .ok (.getfield 58, 3) := by decide +kernel
theorem dX8_few_15 : decode cX8_few 15 = .ok (.getfield 131, 3) := by decide +kernel
theorem dX8_few_18 : decode cX8_few 18 = .ok (.ireturn, 1) := by decide +kernel
theorem dX8_left_0 : decode cX8_left 0 = .ok (.aload_n 0, 1) := by decide +kernel
theorem dX8_left_1 : decode cX8_left 1 = .ok (.getfield 58, 3) := by decide +kernel
theorem dX8_left_4 : decode cX8_left 4 = .ok (.aload_n 0, 1) := by decide +kernel
theorem dX8_left_5 : decode cX8_left 5 = .ok (.getfield 27, 3) := by decide +kernel
theorem dX8_left_8 : decode cX8_left 8 = .ok (.invokevirtual 128, 3) := by decide +kernel
theorem dX8_left_11 : decode cX8_left 11 = .ok (.aload_n 0, 1) := by decide +kernel
theorem dX8_left_12 : decode cX8_left 12 = .ok (.getfield 58, 3) := by decide +kernel
theorem dX8_left_15 : decode cX8_left 15 = .ok (.getfield 134, 3) := by decide +kernel
theorem dX8_left_18 : decode cX8_left 18 = .ok (.ireturn, 1) := by decide +kernel
theorem dX8_row_0 : decode cX8_row 0 = .ok (.iload_n 2, 1) := by decide +kernel
theorem dX8_row_1 : decode cX8_row 1 = .ok (.invokestatic 90, 3) := by decide +kernel
theorem dX8_row_4 : decode cX8_row 4 = .ok (.ifCond .eq 24, 3) := by decide +kernel
theorem dX8_row_7 : decode cX8_row 7 = .ok (.aload_n 0, 1) := by decide +kernel
theorem dX8_row_8 : decode cX8_row 8 = .ok (.getfield 27, 3) := by decide +kernel
theorem dX8_row_11 : decode cX8_row 11 = .ok (.iload_n 1, 1) := by decide +kernel
theorem dX8_row_12 : decode cX8_row 12 = .ok (.invokevirtual 137, 3) := by decide +kernel
theorem dX8_row_15 : decode cX8_row 15 = .ok (.ifCond .eq 13, 3) := by decide +kernel
theorem dX8_row_18 : decode cX8_row 18 = .ok (.aload_n 0, 1) := by decide +kernel
theorem dX8_row_19 : decode cX8_row 19 = .ok (.getfield 27, 3) := by decide +kernel
theorem dX8_row_22 : decode cX8_row 22 = .ok (.invokevirtual 140, 3) := by decide +kernel
theorem dX8_row_25 : decode cX8_row 25 = .ok (.ifCond .ne 5, 3) := by decide +kernel
theorem dX8_row_28 : decode cX8_row 28 = .ok (.iconst (-1), 1) := by decide +kernel
theorem dX8_row_29 : decode cX8_row 29 = .ok (.ireturn, 1) := by decide +kernel
theorem dX8_row_30 : decode cX8_row 30 = .ok (.aload_n 0, 1) := by decide +kernel
theorem dX8_row_31 : decode cX8_row 31 = .ok (.iload_n 1, 1) := by decide +kernel
theorem dX8_row_32 : decode cX8_row 32 = .ok (.invokevirtual 144, 3) := by decide +kernel
theorem dX8_row_35 : decode cX8_row 35 = .ok (.iload_n 2, 1) := by decide +kernel
theorem dX8_row_36 : decode cX8_row 36 = .ok (.invokestatic 100, 3) := by decide +kernel
theorem dX8_row_39 : decode cX8_row 39 = .ok (.ireturn, 1) := by decide +kernel
theorem dX8_order_0 : decode cX8_order 0 = .ok (.aload_n 0, 1) := by decide +kernel
theorem dX8_order_1 : decode cX8_order 1 = .ok (.getfield 27, 3) := by decide +kernel
theorem dX8_order_4 : decode cX8_order 4 = .ok (.iload_n 1, 1) := by decide +kernel
theorem dX8_order_5 : decode cX8_order 5 = .ok (.invokevirtual 137, 3) := by decide +kernel
theorem dX8_order_8 : decode cX8_order 8 = .ok (.ifCond .eq 24, 3) := by decide +kernel
theorem dX8_order_11 : decode cX8_order 11 = .ok (.aload_n 0, 1) := by decide +kernel
theorem dX8_order_12 : decode cX8_order 12 = .ok (.getfield 27, 3) := by decide +kernel
theorem dX8_order_15 : decode cX8_order 15 = .ok (.iload_n 2, 1) := by decide +kernel
theorem dX8_order_16 : decode cX8_order 16 = .ok (.invokevirtual 137, 3) := by decide +kernel
theorem dX8_order_19 : decode cX8_order 19 = .ok (.ifCond .eq 13, 3) := by decide +kernel
theorem dX8_order_22 : decode cX8_order 22 = .ok (.aload_n 0, 1) := by decide +kernel
theorem dX8_order_23 : decode cX8_order 23 = .ok (.getfield 27, 3) := by decide +kernel
theorem dX8_order_26 : decode cX8_order 26 = .ok (.invokevirtual 140, 3) := by decide +kernel
theorem dX8_order_29 : decode cX8_order 29 = .ok (.ifCond .ne 5, 3) := by decide +kernel
theorem dX8_order_32 : decode cX8_order 32 = .ok (.iconst (-1), 1) := by decide +kernel
theorem dX8_order_33 : decode cX8_order 33 = .ok (.ireturn, 1) := by decide +kernel
theorem dX8_order_34 : decode cX8_order 34 = .ok (.aload_n 0, 1) := by decide +kernel
theorem dX8_order_35 : decode cX8_order 35 = .ok (.iload_n 1, 1) := by decide +kernel
theorem dX8_order_36 : decode cX8_order 36 = .ok (.invokevirtual 144, 3) := by decide +kernel
theorem dX8_order_39 : decode cX8_order 39 = .ok (.lstore_n 3, 1) := by decide +kernel
theorem dX8_order_40 : decode cX8_order 40 = .ok (.aload_n 0, 1) := by decide +kernel
theorem dX8_order_41 : decode cX8_order 41 = .ok (.iload_n 2, 1) := by decide +kernel
theorem dX8_order_42 : decode cX8_order 42 = .ok (.invokevirtual 144, 3) := by decide +kernel
theorem dX8_order_45 : decode cX8_order 45 = .ok (.lstore 5, 2) := by decide +kernel
theorem dX8_order_47 : decode cX8_order 47 = .ok (.lload_n 3, 1) := by decide +kernel
theorem dX8_order_48 : decode cX8_order 48 = .ok (.lload 5, 2) := by decide +kernel
theorem dX8_order_50 : decode cX8_order 50 = .ok (.invokestatic 148, 3) := by decide +kernel
theorem dX8_order_53 : decode cX8_order 53 = .ok (.ifCond .eq 5, 3) := by decide +kernel
theorem dX8_order_56 : decode cX8_order 56 = .ok (.iconst 1, 1) := by decide +kernel
theorem dX8_order_57 : decode cX8_order 57 = .ok (.ireturn, 1) := by decide +kernel
theorem dX8_order_58 : decode cX8_order 58 = .ok (.lload 5, 2) := by decide +kernel
theorem dX8_order_60 : decode cX8_order 60 = .ok (.lload_n 3, 1) := by decide +kernel
theorem dX8_order_61 : decode cX8_order 61 = .ok (.invokestatic 148, 3) := by decide +kernel
theorem dX8_order_64 : decode cX8_order 64 = .ok (.ifCond .eq 7, 3) := by decide +kernel
theorem dX8_order_67 : decode cX8_order 67 = .ok (.iconst 2, 1) := by decide +kernel
theorem dX8_order_68 : decode cX8_order 68 = .ok (.goto 4, 3) := by decide +kernel
theorem dX8_order_71 : decode cX8_order 71 = .ok (.iconst 0, 1) := by decide +kernel
theorem dX8_order_72 : decode cX8_order 72 = .ok (.ireturn, 1) := by decide +kernel
theorem dX8_least_0 : decode cX8_least 0 = .ok (.iload_n 1, 1) := by decide +kernel
theorem dX8_least_1 : decode cX8_least 1 = .ok (.ifCond .lt 8, 3) := by decide +kernel
theorem dX8_least_4 : decode cX8_least 4 = .ok (.iload_n 1, 1) := by decide +kernel
theorem dX8_least_5 : decode cX8_least 5 = .ok (.iconst 2, 1) := by decide +kernel
theorem dX8_least_6 : decode cX8_least 6 = .ok (.if_icmp .le 5, 3) := by decide +kernel
theorem dX8_least_9 : decode cX8_least 9 = .ok (.iconst (-1), 1) := by decide +kernel
theorem dX8_least_10 : decode cX8_least 10 = .ok (.ireturn, 1) := by decide +kernel
theorem dX8_least_11 : decode cX8_least 11 = .ok (.aload_n 0, 1) := by decide +kernel
theorem dX8_least_12 : decode cX8_least 12 = .ok (.invokevirtual 152, 3) := by decide +kernel
theorem dX8_least_15 : decode cX8_least 15 = .ok (.istore_n 2, 1) := by decide +kernel
theorem dX8_least_16 : decode cX8_least 16 = .ok (.iload_n 1, 1) := by decide +kernel
theorem dX8_least_17 : decode cX8_least 17 = .ok (.iconst 2, 1) := by decide +kernel
theorem dX8_least_18 : decode cX8_least 18 = .ok (.if_icmp .ne 5, 3) := by decide +kernel
theorem dX8_least_21 : decode cX8_least 21 = .ok (.iload_n 2, 1) := by decide +kernel
theorem dX8_least_22 : decode cX8_least 22 = .ok (.ireturn, 1) := by decide +kernel
theorem dX8_least_23 : decode cX8_least 23 = .ok (.iload_n 2, 1) := by decide +kernel
theorem dX8_least_24 : decode cX8_least 24 = .ok (.ifCond .ne 7, 3) := by decide +kernel
theorem dX8_least_27 : decode cX8_least 27 = .ok (.iconst 1, 1) := by decide +kernel
theorem dX8_least_28 : decode cX8_least 28 = .ok (.goto 16, 3) := by decide +kernel
theorem dX8_least_31 : decode cX8_least 31 = .ok (.aload_n 0, 1) := by decide +kernel
theorem dX8_least_32 : decode cX8_least 32 = .ok (.getfield 44, 3) := by decide +kernel
theorem dX8_least_35 : decode cX8_least 35 = .ok (.getfield 156, 3) := by decide +kernel
theorem dX8_least_38 : decode cX8_least 38 = .ok (.iload_n 2, 1) := by decide +kernel
theorem dX8_least_39 : decode cX8_least 39 = .ok (.laload, 1) := by decide +kernel
theorem dX8_least_40 : decode cX8_least 40 = .ok (.iload_n 1, 1) := by decide +kernel
theorem dX8_least_41 : decode cX8_least 41 = .ok (.invokestatic 100, 3) := by decide +kernel
theorem dX8_least_44 : decode cX8_least 44 = .ok (.ireturn, 1) := by decide +kernel
theorem dX8_span_0 : decode cX8_span 0 = .ok (.iload_n 3, 1) := by decide +kernel
theorem dX8_span_1 : decode cX8_span 1 = .ok (.sipush 1000, 3) := by decide +kernel
theorem dX8_span_4 : decode cX8_span 4 = .ok (.idiv, 1) := by decide +kernel
theorem dX8_span_5 : decode cX8_span 5 = .ok (.istore 4, 2) := by decide +kernel
theorem dX8_span_7 : decode cX8_span 7 = .ok (.iload_n 3, 1) := by decide +kernel
theorem dX8_span_8 : decode cX8_span 8 = .ok (.bipush 100, 2) := by decide +kernel
theorem dX8_span_10 : decode cX8_span 10 = .ok (.idiv, 1) := by decide +kernel
