-- decode rows: X8b
theorem dX8_span_11 : decode cX8_span 11 = .ok (.bipush 10, 2) := by decide +kernel
theorem dX8_span_13 : decode cX8_span 13 = .ok (.irem, 1) := by decide +kernel
theorem dX8_span_14 : decode cX8_span 14 = .ok (.istore 5, 2) := by decide +kernel
theorem dX8_span_16 : decode cX8_span 16 = .ok (.iload_n 3, 1) := by decide +kernel
theorem dX8_span_17 : decode cX8_span 17 = .ok (.bipush 10, 2) := by decide +kernel
theorem dX8_span_19 : decode cX8_span 19 = .ok (.idiv, 1) := by decide +kernel
theorem dX8_span_20 : decode cX8_span 20 = .ok (.bipush 10, 2) := by decide +kernel
theorem dX8_span_22 : decode cX8_span 22 = .ok (.irem, 1) := by decide +kernel
theorem dX8_span_23 : decode cX8_span 23 = .ok (.istore 6, 2) := by decide +kernel
theorem dX8_span_25 : decode cX8_span 25 = .ok (.iload_n 3, 1) := by decide +kernel
theorem dX8_span_26 : decode cX8_span 26 = .ok (.bipush 10, 2) := by decide +kernel
theorem dX8_span_28 : decode cX8_span 28 = .ok (.irem, 1) := by decide +kernel
theorem dX8_span_29 : decode cX8_span 29 = .ok (.istore 7, 2) := by decide +kernel
theorem dX8_span_31 : decode cX8_span 31 = .ok (.aload_n 0, 1) := by decide +kernel
theorem dX8_span_32 : decode cX8_span 32 = .ok (.getfield 31, 3) := by decide +kernel
theorem dX8_span_35 : decode cX8_span 35 = .ok (.iload_n 1, 1) := by decide +kernel
theorem dX8_span_36 : decode cX8_span 36 = .ok (.iload_n 2, 1) := by decide +kernel
theorem dX8_span_37 : decode cX8_span 37 = .ok (.invokevirtual 69, 3) := by decide +kernel
theorem dX8_span_40 : decode cX8_span 40 = .ok (.ifCond .eq 35, 3) := by decide +kernel
theorem dX8_span_43 : decode cX8_span 43 = .ok (.iload 4, 2) := by decide +kernel
theorem dX8_span_45 : decode cX8_span 45 = .ok (.invokestatic 73, 3) := by decide +kernel
theorem dX8_span_48 : decode cX8_span 48 = .ok (.ifCond .eq 27, 3) := by decide +kernel
theorem dX8_span_51 : decode cX8_span 51 = .ok (.iload 5, 2) := by decide +kernel
theorem dX8_span_53 : decode cX8_span 53 = .ok (.invokestatic 73, 3) := by decide +kernel
theorem dX8_span_56 : decode cX8_span 56 = .ok (.ifCond .eq 19, 3) := by decide +kernel
theorem dX8_span_59 : decode cX8_span 59 = .ok (.iload 6, 2) := by decide +kernel
theorem dX8_span_61 : decode cX8_span 61 = .ok (.invokestatic 73, 3) := by decide +kernel
theorem dX8_span_64 : decode cX8_span 64 = .ok (.ifCond .eq 11, 3) := by decide +kernel
theorem dX8_span_67 : decode cX8_span 67 = .ok (.iload 7, 2) := by decide +kernel
theorem dX8_span_69 : decode cX8_span 69 = .ok (.invokestatic 73, 3) := by decide +kernel
theorem dX8_span_72 : decode cX8_span 72 = .ok (.ifCond .ne 5, 3) := by decide +kernel
theorem dX8_span_75 : decode cX8_span 75 = .ok (.iconst 0, 1) := by decide +kernel
theorem dX8_span_76 : decode cX8_span 76 = .ok (.ireturn, 1) := by decide +kernel
theorem dX8_span_77 : decode cX8_span 77 = .ok (.iload 4, 2) := by decide +kernel
theorem dX8_span_79 : decode cX8_span 79 = .ok (.i2l, 1) := by decide +kernel
theorem dX8_span_80 : decode cX8_span 80 = .ok (.iload 5, 2) := by decide +kernel
theorem dX8_span_82 : decode cX8_span 82 = .ok (.i2l, 1) := by decide +kernel
theorem dX8_span_83 : decode cX8_span 83 = .ok (.invokestatic 77, 3) := by decide +kernel
theorem dX8_span_86 : decode cX8_span 86 = .ok (.lstore 8, 2) := by decide +kernel
theorem dX8_span_88 : decode cX8_span 88 = .ok (.iload 6, 2) := by decide +kernel
theorem dX8_span_90 : decode cX8_span 90 = .ok (.i2l, 1) := by decide +kernel
theorem dX8_span_91 : decode cX8_span 91 = .ok (.iload 7, 2) := by decide +kernel
theorem dX8_span_93 : decode cX8_span 93 = .ok (.i2l, 1) := by decide +kernel
theorem dX8_span_94 : decode cX8_span 94 = .ok (.invokestatic 77, 3) := by decide +kernel
theorem dX8_span_97 : decode cX8_span 97 = .ok (.lstore 10, 2) := by decide +kernel
theorem dX8_span_99 : decode cX8_span 99 = .ok (.lload 8, 2) := by decide +kernel
theorem dX8_span_101 : decode cX8_span 101 = .ok (.lload 10, 2) := by decide +kernel
theorem dX8_span_103 : decode cX8_span 103 = .ok (.invokestatic 148, 3) := by decide +kernel
theorem dX8_span_106 : decode cX8_span 106 = .ok (.ifCond .eq 5, 3) := by decide +kernel
theorem dX8_span_109 : decode cX8_span 109 = .ok (.iconst 0, 1) := by decide +kernel
theorem dX8_span_110 : decode cX8_span 110 = .ok (.ireturn, 1) := by decide +kernel
theorem dX8_span_111 : decode cX8_span 111 = .ok (.aload_n 0, 1) := by decide +kernel
theorem dX8_span_112 : decode cX8_span 112 = .ok (.getfield 31, 3) := by decide +kernel
theorem dX8_span_115 : decode cX8_span 115 = .ok (.iload_n 1, 1) := by decide +kernel
theorem dX8_span_116 : decode cX8_span 116 = .ok (.iload_n 2, 1) := by decide +kernel
theorem dX8_span_117 : decode cX8_span 117 = .ok (.lload 8, 2) := by decide +kernel
theorem dX8_span_119 : decode cX8_span 119 = .ok (.lload 10, 2) := by decide +kernel
theorem dX8_span_121 : decode cX8_span 121 = .ok (.invokevirtual 83, 3) := by decide +kernel
theorem dX8_span_124 : decode cX8_span 124 = .ok (.iconst 1, 1) := by decide +kernel
theorem dX8_span_125 : decode cX8_span 125 = .ok (.ireturn, 1) := by decide +kernel
theorem dX8_unspan_0 : decode cX8_unspan 0 = .ok (.aload_n 0, 1) := by decide +kernel
theorem dX8_unspan_1 : decode cX8_unspan 1 = .ok (.getfield 31, 3) := by decide +kernel
theorem dX8_unspan_4 : decode cX8_unspan 4 = .ok (.iload_n 1, 1) := by decide +kernel
theorem dX8_unspan_5 : decode cX8_unspan 5 = .ok (.iload_n 2, 1) := by decide +kernel
theorem dX8_unspan_6 : decode cX8_unspan 6 = .ok (.invokevirtual 87, 3) := by decide +kernel
theorem dX8_unspan_9 : decode cX8_unspan 9 = .ok (.ireturn, 1) := by decide +kernel
theorem dX8_can_0 : decode cX8_can 0 = .ok (.aload_n 0, 1) := by decide +kernel
theorem dX8_can_1 : decode cX8_can 1 = .ok (.getfield 44, 3) := by decide +kernel
theorem dX8_can_4 : decode cX8_can 4 = .ok (.aload_n 0, 1) := by decide +kernel
theorem dX8_can_5 : decode cX8_can 5 = .ok (.getfield 31, 3) := by decide +kernel
theorem dX8_can_8 : decode cX8_can 8 = .ok (.invokevirtual 104, 3) := by decide +kernel
theorem dX8_can_11 : decode cX8_can 11 = .ok (.ireturn, 1) := by decide +kernel
theorem dX8_bound_0 : decode cX8_bound 0 = .ok (.iload_n 3, 1) := by decide +kernel
theorem dX8_bound_1 : decode cX8_bound 1 = .ok (.invokestatic 90, 3) := by decide +kernel
theorem dX8_bound_4 : decode cX8_bound 4 = .ok (.ifCond .eq 29, 3) := by decide +kernel
theorem dX8_bound_7 : decode cX8_bound 7 = .ok (.aload_n 0, 1) := by decide +kernel
theorem dX8_bound_8 : decode cX8_bound 8 = .ok (.getfield 31, 3) := by decide +kernel
theorem dX8_bound_11 : decode cX8_bound 11 = .ok (.iload_n 1, 1) := by decide +kernel
theorem dX8_bound_12 : decode cX8_bound 12 = .ok (.iload_n 2, 1) := by decide +kernel
theorem dX8_bound_13 : decode cX8_bound 13 = .ok (.invokevirtual 69, 3) := by decide +kernel
theorem dX8_bound_16 : decode cX8_bound 16 = .ok (.ifCond .eq 17, 3) := by decide +kernel
theorem dX8_bound_19 : decode cX8_bound 19 = .ok (.aload_n 0, 1) := by decide +kernel
theorem dX8_bound_20 : decode cX8_bound 20 = .ok (.getfield 44, 3) := by decide +kernel
theorem dX8_bound_23 : decode cX8_bound 23 = .ok (.aload_n 0, 1) := by decide +kernel
theorem dX8_bound_24 : decode cX8_bound 24 = .ok (.getfield 31, 3) := by decide +kernel
theorem dX8_bound_27 : decode cX8_bound 27 = .ok (.invokevirtual 104, 3) := by decide +kernel
theorem dX8_bound_30 : decode cX8_bound 30 = .ok (.ifCond .ne 5, 3) := by decide +kernel
theorem dX8_bound_33 : decode cX8_bound 33 = .ok (.iconst (-1), 1) := by decide +kernel
theorem dX8_bound_34 : decode cX8_bound 34 = .ok (.ireturn, 1) := by decide +kernel
theorem dX8_bound_35 : decode cX8_bound 35 = .ok (.aload_n 0, 1) := by decide +kernel
theorem dX8_bound_36 : decode cX8_bound 36 = .ok (.iload_n 1, 1) := by decide +kernel
theorem dX8_bound_37 : decode cX8_bound 37 = .ok (.iload_n 2, 1) := by decide +kernel
theorem dX8_bound_38 : decode cX8_bound 38 = .ok (.iconst 1, 1) := by decide +kernel
theorem dX8_bound_39 : decode cX8_bound 39 = .ok (.iload_n 1, 1) := by decide +kernel
theorem dX8_bound_40 : decode cX8_bound 40 = .ok (.ishl, 1) := by decide +kernel
theorem dX8_bound_41 : decode cX8_bound 41 = .ok (.iconst 1, 1) := by decide +kernel
theorem dX8_bound_42 : decode cX8_bound 42 = .ok (.ldc2_w 160, 3) := by decide +kernel
theorem dX8_bound_45 : decode cX8_bound 45 = .ok (.invokevirtual 162, 3) := by decide +kernel
theorem dX8_bound_48 : decode cX8_bound 48 = .ok (.lstore 4, 2) := by decide +kernel
theorem dX8_bound_50 : decode cX8_bound 50 = .ok (.lload 4, 2) := by decide +kernel
theorem dX8_bound_52 : decode cX8_bound 52 = .ok (.lconst 1, 1) := by decide +kernel
theorem dX8_bound_53 : decode cX8_bound 53 = .ok (.lcmp, 1) := by decide +kernel
theorem dX8_bound_54 : decode cX8_bound 54 = .ok (.ifCond .ne 7, 3) := by decide +kernel
theorem dX8_bound_57 : decode cX8_bound 57 = .ok (.iconst (-1), 1) := by decide +kernel
theorem dX8_bound_58 : decode cX8_bound 58 = .ok (.goto 9, 3) := by decide +kernel
theorem dX8_bound_61 : decode cX8_bound 61 = .ok (.lload 4, 2) := by decide +kernel
theorem dX8_bound_63 : decode cX8_bound 63 = .ok (.iload_n 3, 1) := by decide +kernel
theorem dX8_bound_64 : decode cX8_bound 64 = .ok (.invokestatic 100, 3) := by decide +kernel
theorem dX8_bound_67 : decode cX8_bound 67 = .ok (.ireturn, 1) := by decide +kernel
theorem dX8_count_0 : decode cX8_count 0 = .ok (.iload_n 1, 1) := by decide +kernel
theorem dX8_count_1 : decode cX8_count 1 = .ok (.tableswitch 48 0 2 #[27, 32, 40], 27) := by decide +kernel
theorem dX8_count_28 : decode cX8_count 28 = .ok (.aload_n 0, 1) := by decide +kernel
theorem dX8_count_29 : decode cX8_count 29 = .ok (.getfield 18, 3) := by decide +kernel
theorem dX8_count_32 : decode cX8_count 32 = .ok (.ireturn, 1) := by decide +kernel
theorem dX8_count_33 : decode cX8_count 33 = .ok (.aload_n 0, 1) := by decide +kernel
theorem dX8_count_34 : decode cX8_count 34 = .ok (.getfield 27, 3) := by decide +kernel
theorem dX8_count_37 : decode cX8_count 37 = .ok (.getfield 166, 3) := by decide +kernel
theorem dX8_count_40 : decode cX8_count 40 = .ok (.ireturn, 1) := by decide +kernel
theorem dX8_count_41 : decode cX8_count 41 = .ok (.aload_n 0, 1) := by decide +kernel
theorem dX8_count_42 : decode cX8_count 42 = .ok (.getfield 31, 3) := by decide +kernel
theorem dX8_count_45 : decode cX8_count 45 = .ok (.getfield 166, 3) := by decide +kernel
theorem dX8_count_48 : decode cX8_count 48 = .ok (.ireturn, 1) := by decide +kernel
theorem dX8_count_49 : decode cX8_count 49 = .ok (.iconst (-1), 1) := by decide +kernel
theorem dX8_count_50 : decode cX8_count 50 = .ok (.ireturn, 1) := by decide +kernel
theorem dX8_isDigit_0 : decode cX8_isDigit 0 = .ok (.iload_n 0, 1) := by decide +kernel
theorem dX8_isDigit_1 : decode cX8_isDigit 1 = .ok (.iconst 1, 1) := by decide +kernel
theorem dX8_isDigit_2 : decode cX8_isDigit 2 = .ok (.if_icmp .lt 13, 3) := by decide +kernel
theorem dX8_isDigit_5 : decode cX8_isDigit 5 = .ok (.iload_n 0, 1) := by decide +kernel
theorem dX8_isDigit_6 : decode cX8_isDigit 6 = .ok (.bipush 9, 2) := by decide +kernel
theorem dX8_isDigit_8 : decode cX8_isDigit 8 = .ok (.if_icmp .gt 7, 3) := by decide +kernel
theorem dX8_isDigit_11 : decode cX8_isDigit 11 = .ok (.iconst 1, 1) := by decide +kernel
theorem dX8_isDigit_12 : decode cX8_isDigit 12 = .ok (.goto 4, 3) := by decide +kernel
theorem dX8_isDigit_15 : decode cX8_isDigit 15 = .ok (.iconst 0, 1) := by decide +kernel
theorem dX8_isDigit_16 : decode cX8_isDigit 16 = .ok (.ireturn, 1) := by decide +kernel
theorem dX8_isPart_0 : decode cX8_isPart 0 = .ok (.iload_n 0, 1) := by decide +kernel
theorem dX8_isPart_1 : decode cX8_isPart 1 = .ok (.ifCond .eq 8, 3) := by decide +kernel
theorem dX8_isPart_4 : decode cX8_isPart 4 = .ok (.iload_n 0, 1) := by decide +kernel
theorem dX8_isPart_5 : decode cX8_isPart 5 = .ok (.iconst 1, 1) := by decide +kernel
theorem dX8_isPart_6 : decode cX8_isPart 6 = .ok (.if_icmp .ne 7, 3) := by decide +kernel
theorem dX8_isPart_9 : decode cX8_isPart 9 = .ok (.iconst 1, 1) := by decide +kernel
theorem dX8_isPart_10 : decode cX8_isPart 10 = .ok (.goto 4, 3) := by decide +kernel
theorem dX8_isPart_13 : decode cX8_isPart 13 = .ok (.iconst 0, 1) := by decide +kernel
theorem dX8_isPart_14 : decode cX8_isPart 14 = .ok (.ireturn, 1) := by decide +kernel
theorem dX8_productOfRow_0 : decode cX8_productOfRow 0 = .ok (.ldc2_w 160, 3) := by decide +kernel
theorem dX8_productOfRow_3 : decode cX8_productOfRow 3 = .ok (.lstore_n 2, 1) := by decide +kernel
theorem dX8_productOfRow_4 : decode cX8_productOfRow 4 = .ok (.iconst 0, 1) := by decide +kernel
theorem dX8_productOfRow_5 : decode cX8_productOfRow 5 = .ok (.istore 4, 2) := by decide +kernel
theorem dX8_productOfRow_7 : decode cX8_productOfRow 7 = .ok (.iload 4, 2) := by decide +kernel
theorem dX8_productOfRow_9 : decode cX8_productOfRow 9 = .ok (.aload_n 0, 1) := by decide +kernel
theorem dX8_productOfRow_10 : decode cX8_productOfRow 10 = .ok (.getfield 18, 3) := by decide +kernel
theorem dX8_productOfRow_13 : decode cX8_productOfRow 13 = .ok (.if_icmp .ge 37, 3) := by decide +kernel
theorem dX8_productOfRow_16 : decode cX8_productOfRow 16 = .ok (.aload_n 0, 1) := by decide +kernel
theorem dX8_productOfRow_17 : decode cX8_productOfRow 17 = .ok (.getfield 27, 3) := by decide +kernel
theorem dX8_productOfRow_20 : decode cX8_productOfRow 20 = .ok (.iload_n 1, 1) := by decide +kernel
theorem dX8_productOfRow_21 : decode cX8_productOfRow 21 = .ok (.iload 4, 2) := by decide +kernel
theorem dX8_productOfRow_23 : decode cX8_productOfRow 23 = .ok (.invokevirtual 93, 3) := by decide +kernel
theorem dX8_productOfRow_26 : decode cX8_productOfRow 26 = .ok (.ifCond .eq 18, 3) := by decide +kernel
theorem dX8_productOfRow_29 : decode cX8_productOfRow 29 = .ok (.lload_n 2, 1) := by decide +kernel
theorem dX8_productOfRow_30 : decode cX8_productOfRow 30 = .ok (.aload_n 0, 1) := by decide +kernel
theorem dX8_productOfRow_31 : decode cX8_productOfRow 31 = .ok (.getfield 27, 3) := by decide +kernel
theorem dX8_productOfRow_34 : decode cX8_productOfRow 34 = .ok (.iload_n 1, 1) := by decide +kernel
theorem dX8_productOfRow_35 : decode cX8_productOfRow 35 = .ok (.iload 4, 2) := by decide +kernel
theorem dX8_productOfRow_37 : decode cX8_productOfRow 37 = .ok (.invokevirtual 96, 3) := by decide +kernel
theorem dX8_productOfRow_40 : decode cX8_productOfRow 40 = .ok (.invokestatic 169, 3) := by decide +kernel
theorem dX8_productOfRow_43 : decode cX8_productOfRow 43 = .ok (.lstore_n 2, 1) := by decide +kernel
theorem dX8_productOfRow_44 : decode cX8_productOfRow 44 = .ok (.iinc 4 1, 3) := by decide +kernel
theorem dX8_productOfRow_47 : decode cX8_productOfRow 47 = .ok (.goto (-40), 3) := by decide +kernel
theorem dX8_productOfRow_50 : decode cX8_productOfRow 50 = .ok (.lload_n 2, 1) := by decide +kernel
theorem dX8_productOfRow_51 : decode cX8_productOfRow 51 = .ok (.lreturn, 1) := by decide +kernel
theorem dX8_sizeOfGreatestRoot_0 : decode cX8_sizeOfGreatestRoot 0 = .ok (.aload_n 0, 1) := by decide +kernel
theorem dX8_sizeOfGreatestRoot_1 : decode cX8_sizeOfGreatestRoot 1 = .ok (.getfield 44, 3) := by decide +kernel
theorem dX8_sizeOfGreatestRoot_4 : decode cX8_sizeOfGreatestRoot 4 = .ok (.aload_n 0, 1) := by decide +kernel
theorem dX8_sizeOfGreatestRoot_5 : decode cX8_sizeOfGreatestRoot 5 = .ok (.getfield 27, 3) := by decide +kernel
theorem dX8_sizeOfGreatestRoot_8 : decode cX8_sizeOfGreatestRoot 8 = .ok (.invokevirtual 172, 3) := by decide +kernel
theorem dX8_sizeOfGreatestRoot_11 : decode cX8_sizeOfGreatestRoot 11 = .ok (.iconst 0, 1) := by decide +kernel
theorem dX8_sizeOfGreatestRoot_12 : decode cX8_sizeOfGreatestRoot 12 = .ok (.istore_n 1, 1) := by decide +kernel
theorem dX8_sizeOfGreatestRoot_13 : decode cX8_sizeOfGreatestRoot 13 = .ok (.iconst 3, 1) := by decide +kernel
theorem dX8_sizeOfGreatestRoot_14 : decode cX8_sizeOfGreatestRoot 14 = .ok (.istore_n 2, 1) := by decide +kernel
theorem dX8_sizeOfGreatestRoot_15 : decode cX8_sizeOfGreatestRoot 15 = .ok (.iload_n 2, 1) := by decide +kernel
theorem dX8_sizeOfGreatestRoot_16 : decode cX8_sizeOfGreatestRoot 16 = .ok (.aload_n 0, 1) := by decide +kernel
theorem dX8_sizeOfGreatestRoot_17 : decode cX8_sizeOfGreatestRoot 17 = .ok (.getfield 18, 3) := by decide +kernel
theorem dX8_sizeOfGreatestRoot_20 : decode cX8_sizeOfGreatestRoot 20 = .ok (.if_icmp .gt 57, 3) := by decide +kernel
theorem dX8_sizeOfGreatestRoot_23 : decode cX8_sizeOfGreatestRoot 23 = .ok (.aload_n 0, 1) := by decide +kernel
theorem dX8_sizeOfGreatestRoot_24 : decode cX8_sizeOfGreatestRoot 24 = .ok (.getfield 44, 3) := by decide +kernel
theorem dX8_sizeOfGreatestRoot_27 : decode cX8_sizeOfGreatestRoot 27 = .ok (.getfield 156, 3) := by decide +kernel
theorem dX8_sizeOfGreatestRoot_30 : decode cX8_sizeOfGreatestRoot 30 = .ok (.iload_n 2, 1) := by decide +kernel
theorem dX8_sizeOfGreatestRoot_31 : decode cX8_sizeOfGreatestRoot 31 = .ok (.laload, 1) := by decide +kernel
theorem dX8_sizeOfGreatestRoot_32 : decode cX8_sizeOfGreatestRoot 32 = .ok (.lstore_n 3, 1) := by decide +kernel
theorem dX8_sizeOfGreatestRoot_33 : decode cX8_sizeOfGreatestRoot 33 = .ok (.lload_n 3, 1) := by decide +kernel
theorem dX8_sizeOfGreatestRoot_34 : decode cX8_sizeOfGreatestRoot 34 = .ok (.ldc2_w 160, 3) := by decide +kernel
theorem dX8_sizeOfGreatestRoot_37 : decode cX8_sizeOfGreatestRoot 37 = .ok (.invokestatic 148, 3) := by decide +kernel
theorem dX8_sizeOfGreatestRoot_40 : decode cX8_sizeOfGreatestRoot 40 = .ok (.ifCond .eq 31, 3) := by decide +kernel
theorem dX8_sizeOfGreatestRoot_43 : decode cX8_sizeOfGreatestRoot 43 = .ok (.iload_n 1, 1) := by decide +kernel
theorem dX8_sizeOfGreatestRoot_44 : decode cX8_sizeOfGreatestRoot 44 = .ok (.ifCond .eq 25, 3) := by decide +kernel
theorem dX8_sizeOfGreatestRoot_47 : decode cX8_sizeOfGreatestRoot 47 = .ok (.aload_n 0, 1) := by decide +kernel
theorem dX8_sizeOfGreatestRoot_48 : decode cX8_sizeOfGreatestRoot 48 = .ok (.getfield 65, 3) := by decide +kernel
theorem dX8_sizeOfGreatestRoot_51 : decode cX8_sizeOfGreatestRoot 51 = .ok (.lload_n 3, 1) := by decide +kernel
theorem dX8_sizeOfGreatestRoot_52 : decode cX8_sizeOfGreatestRoot 52 = .ok (.iload_n 2, 1) := by decide +kernel
theorem dX8_sizeOfGreatestRoot_53 : decode cX8_sizeOfGreatestRoot 53 = .ok (.aload_n 0, 1) := by decide +kernel
theorem dX8_sizeOfGreatestRoot_54 : decode cX8_sizeOfGreatestRoot 54 = .ok (.getfield 44, 3) := by decide +kernel
theorem dX8_sizeOfGreatestRoot_57 : decode cX8_sizeOfGreatestRoot 57 = .ok (.getfield 156, 3) := by decide +kernel
theorem dX8_sizeOfGreatestRoot_60 : decode cX8_sizeOfGreatestRoot 60 = .ok (.iload_n 1, 1) := by decide +kernel
theorem dX8_sizeOfGreatestRoot_61 : decode cX8_sizeOfGreatestRoot 61 = .ok (.laload, 1) := by decide +kernel
theorem dX8_sizeOfGreatestRoot_62 : decode cX8_sizeOfGreatestRoot 62 = .ok (.iload_n 1, 1) := by decide +kernel
theorem dX8_sizeOfGreatestRoot_63 : decode cX8_sizeOfGreatestRoot 63 = .ok (.invokevirtual 175, 3) := by decide +kernel
theorem dX8_sizeOfGreatestRoot_66 : decode cX8_sizeOfGreatestRoot 66 = .ok (.ifCond .eq 5, 3) := by decide +kernel
theorem dX8_sizeOfGreatestRoot_69 : decode cX8_sizeOfGreatestRoot 69 = .ok (.iload_n 2, 1) := by decide +kernel
theorem dX8_sizeOfGreatestRoot_70 : decode cX8_sizeOfGreatestRoot 70 = .ok (.istore_n 1, 1) := by decide +kernel
theorem dX8_sizeOfGreatestRoot_71 : decode cX8_sizeOfGreatestRoot 71 = .ok (.iinc 2 1, 3) := by decide +kernel
theorem dX8_sizeOfGreatestRoot_74 : decode cX8_sizeOfGreatestRoot 74 = .ok (.goto (-59), 3) := by decide +kernel
theorem dX8_sizeOfGreatestRoot_77 : decode cX8_sizeOfGreatestRoot 77 = .ok (.iload_n 1, 1) := by decide +kernel
theorem dX8_sizeOfGreatestRoot_78 : decode cX8_sizeOfGreatestRoot 78 = .ok (.ireturn, 1) := by decide +kernel
theorem dX8_greatestWay_0 : decode cX8_greatestWay 0 = .ok (.iload_n 1, 1) := by decide +kernel
theorem dX8_greatestWay_1 : decode cX8_greatestWay 1 = .ok (.iload_n 2, 1) := by decide +kernel
theorem dX8_greatestWay_2 : decode cX8_greatestWay 2 = .ok (.if_icmp .ne 6, 3) := by decide +kernel
theorem dX8_greatestWay_5 : decode cX8_greatestWay 5 = .ok (.lload 5, 2) := by decide +kernel
theorem dX8_greatestWay_7 : decode cX8_greatestWay 7 = .ok (.lreturn, 1) := by decide +kernel
theorem dX8_greatestWay_8 : decode cX8_greatestWay 8 = .ok (.lconst 1, 1) := by decide +kernel
theorem dX8_greatestWay_9 : decode cX8_greatestWay 9 = .ok (.lstore 7, 2) := by decide +kernel
theorem dX8_greatestWay_11 : decode cX8_greatestWay 11 = .ok (.iload 4, 2) := by decide +kernel
theorem dX8_greatestWay_13 : decode cX8_greatestWay 13 = .ok (.aload_n 0, 1) := by decide +kernel
theorem dX8_greatestWay_14 : decode cX8_greatestWay 14 = .ok (.getfield 18, 3) := by decide +kernel
theorem dX8_greatestWay_17 : decode cX8_greatestWay 17 = .ok (.if_icmp .lt 6, 3) := by decide +kernel
theorem dX8_greatestWay_20 : decode cX8_greatestWay 20 = .ok (.lload 7, 2) := by decide +kernel
theorem dX8_greatestWay_22 : decode cX8_greatestWay 22 = .ok (.lreturn, 1) := by decide +kernel
theorem dX8_greatestWay_23 : decode cX8_greatestWay 23 = .ok (.iconst 0, 1) := by decide +kernel
theorem dX8_greatestWay_24 : decode cX8_greatestWay 24 = .ok (.istore 9, 2) := by decide +kernel
theorem dX8_greatestWay_26 : decode cX8_greatestWay 26 = .ok (.iload 9, 2) := by decide +kernel
theorem dX8_greatestWay_28 : decode cX8_greatestWay 28 = .ok (.aload_n 0, 1) := by decide +kernel
theorem dX8_greatestWay_29 : decode cX8_greatestWay 29 = .ok (.getfield 18, 3) := by decide +kernel
theorem dX8_greatestWay_32 : decode cX8_greatestWay 32 = .ok (.if_icmp .ge 83, 3) := by decide +kernel
theorem dX8_greatestWay_35 : decode cX8_greatestWay 35 = .ok (.iload_n 3, 1) := by decide +kernel
theorem dX8_greatestWay_36 : decode cX8_greatestWay 36 = .ok (.iload 9, 2) := by decide +kernel
theorem dX8_greatestWay_38 : decode cX8_greatestWay 38 = .ok (.ishr, 1) := by decide +kernel
theorem dX8_greatestWay_39 : decode cX8_greatestWay 39 = .ok (.iconst 1, 1) := by decide +kernel
theorem dX8_greatestWay_40 : decode cX8_greatestWay 40 = .ok (.iand, 1) := by decide +kernel
theorem dX8_greatestWay_41 : decode cX8_greatestWay 41 = .ok (.ifCond .ne 68, 3) := by decide +kernel
theorem dX8_greatestWay_44 : decode cX8_greatestWay 44 = .ok (.aload_n 0, 1) := by decide +kernel
theorem dX8_greatestWay_45 : decode cX8_greatestWay 45 = .ok (.getfield 31, 3) := by decide +kernel
theorem dX8_greatestWay_48 : decode cX8_greatestWay 48 = .ok (.iload_n 1, 1) := by decide +kernel
theorem dX8_greatestWay_49 : decode cX8_greatestWay 49 = .ok (.iload 9, 2) := by decide +kernel
theorem dX8_greatestWay_51 : decode cX8_greatestWay 51 = .ok (.invokevirtual 93, 3) := by decide +kernel
theorem dX8_greatestWay_54 : decode cX8_greatestWay 54 = .ok (.ifCond .eq 55, 3) := by decide +kernel
theorem dX8_greatestWay_57 : decode cX8_greatestWay 57 = .ok (.lload 5, 2) := by decide +kernel
theorem dX8_greatestWay_59 : decode cX8_greatestWay 59 = .ok (.aload_n 0, 1) := by decide +kernel
theorem dX8_greatestWay_60 : decode cX8_greatestWay 60 = .ok (.getfield 31, 3) := by decide +kernel
theorem dX8_greatestWay_63 : decode cX8_greatestWay 63 = .ok (.iload_n 1, 1) := by decide +kernel
theorem dX8_greatestWay_64 : decode cX8_greatestWay 64 = .ok (.iload 9, 2) := by decide +kernel
theorem dX8_greatestWay_66 : decode cX8_greatestWay 66 = .ok (.invokevirtual 96, 3) := by decide +kernel
theorem dX8_greatestWay_69 : decode cX8_greatestWay 69 = .ok (.invokestatic 169, 3) := by decide +kernel
theorem dX8_greatestWay_72 : decode cX8_greatestWay 72 = .ok (.lstore 10, 2) := by decide +kernel
theorem dX8_greatestWay_74 : decode cX8_greatestWay 74 = .ok (.aload_n 0, 1) := by decide +kernel
theorem dX8_greatestWay_75 : decode cX8_greatestWay 75 = .ok (.iload 9, 2) := by decide +kernel
theorem dX8_greatestWay_77 : decode cX8_greatestWay 77 = .ok (.iload_n 2, 1) := by decide +kernel
theorem dX8_greatestWay_78 : decode cX8_greatestWay 78 = .ok (.iload_n 3, 1) := by decide +kernel
theorem dX8_greatestWay_79 : decode cX8_greatestWay 79 = .ok (.iconst 1, 1) := by decide +kernel
theorem dX8_greatestWay_80 : decode cX8_greatestWay 80 = .ok (.iload 9, 2) := by decide +kernel
theorem dX8_greatestWay_82 : decode cX8_greatestWay 82 = .ok (.ishl, 1) := by decide +kernel
theorem dX8_greatestWay_83 : decode cX8_greatestWay 83 = .ok (.ior, 1) := by decide +kernel
theorem dX8_greatestWay_84 : decode cX8_greatestWay 84 = .ok (.iload 4, 2) := by decide +kernel
theorem dX8_greatestWay_86 : decode cX8_greatestWay 86 = .ok (.iconst 1, 1) := by decide +kernel
theorem dX8_greatestWay_87 : decode cX8_greatestWay 87 = .ok (.iadd, 1) := by decide +kernel
theorem dX8_greatestWay_88 : decode cX8_greatestWay 88 = .ok (.lload 10, 2) := by decide +kernel
theorem dX8_greatestWay_90 : decode cX8_greatestWay 90 = .ok (.invokevirtual 162, 3) := by decide +kernel
theorem dX8_greatestWay_93 : decode cX8_greatestWay 93 = .ok (.lstore 12, 2) := by decide +kernel
theorem dX8_greatestWay_95 : decode cX8_greatestWay 95 = .ok (.lload 12, 2) := by decide +kernel
theorem dX8_greatestWay_97 : decode cX8_greatestWay 97 = .ok (.lload 7, 2) := by decide +kernel
theorem dX8_greatestWay_99 : decode cX8_greatestWay 99 = .ok (.invokestatic 148, 3) := by decide +kernel
theorem dX8_greatestWay_102 : decode cX8_greatestWay 102 = .ok (.ifCond .eq 7, 3) := by decide +kernel
theorem dX8_greatestWay_105 : decode cX8_greatestWay 105 = .ok (.lload 12, 2) := by decide +kernel
theorem dX8_greatestWay_107 : decode cX8_greatestWay 107 = .ok (.lstore 7, 2) := by decide +kernel
theorem dX8_greatestWay_109 : decode cX8_greatestWay 109 = .ok (.iinc 9 1, 3) := by decide +kernel
theorem dX8_greatestWay_112 : decode cX8_greatestWay 112 = .ok (.goto (-86), 3) := by decide +kernel
theorem dX8_greatestWay_115 : decode cX8_greatestWay 115 = .ok (.lload 7, 2) := by decide +kernel
theorem dX8_greatestWay_117 : decode cX8_greatestWay 117 = .ok (.lreturn, 1) := by decide +kernel
