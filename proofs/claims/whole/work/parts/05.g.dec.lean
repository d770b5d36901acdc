-- decode rows: X6 X7
theorem dX6_init_0 : decode cX6_init 0 = .ok (.aload_n 0, 1) := by decide +kernel
theorem dX6_init_1 : decode cX6_init 1 = .ok (.invokespecial 1, 3) := by decide +kernel
theorem dX6_init_4 : decode cX6_init 4 = .ok (.aload_n 0, 1) := by decide +kernel
theorem dX6_init_5 : decode cX6_init 5 = .ok (.iload_n 1, 1) := by decide +kernel
theorem dX6_init_6 : decode cX6_init 6 = .ok (.iconst 1, 1) := by decide +kernel
theorem dX6_init_7 : decode cX6_init 7 = .ok (.isub, 1) := by decide +kernel
theorem dX6_init_8 : decode cX6_init 8 = .ok (.putfield 7, 3) := by decide +kernel
theorem dX6_init_11 : decode cX6_init 11 = .ok (.aload_n 0, 1) := by decide +kernel
theorem dX6_init_12 : decode cX6_init 12 = .ok (.iload_n 1, 1) := by decide +kernel
theorem dX6_init_13 : decode cX6_init 13 = .ok (.iconst 1, 1) := by decide +kernel
theorem dX6_init_14 : decode cX6_init 14 = .ok (.isub, 1) := by decide +kernel
theorem dX6_init_15 : decode cX6_init 15 = .ok (.iload_n 1, 1) := by decide +kernel
theorem dX6_init_16 : decode cX6_init 16 = .ok (.iconst 1, 1) := by decide +kernel
theorem dX6_init_17 : decode cX6_init 17 = .ok (.isub, 1) := by decide +kernel
theorem dX6_init_18 : decode cX6_init 18 = .ok (.multianewarray 13 2, 4) := by decide +kernel
theorem dX6_init_22 : decode cX6_init 22 = .ok (.putfield 15, 3) := by decide +kernel
theorem dX6_init_25 : decode cX6_init 25 = .ok (.return_, 1) := by decide +kernel
theorem dX6_of_0 : decode cX6_of 0 = .ok (.aload_n 0, 1) := by decide +kernel
theorem dX6_of_1 : decode cX6_of 1 = .ok (.aload_n 1, 1) := by decide +kernel
theorem dX6_of_2 : decode cX6_of 2 = .ok (.invokevirtual 18, 3) := by decide +kernel
theorem dX6_of_5 : decode cX6_of 5 = .ok (.iconst 1, 1) := by decide +kernel
theorem dX6_of_6 : decode cX6_of 6 = .ok (.istore_n 2, 1) := by decide +kernel
theorem dX6_of_7 : decode cX6_of 7 = .ok (.iconst 0, 1) := by decide +kernel
theorem dX6_of_8 : decode cX6_of 8 = .ok (.istore_n 3, 1) := by decide +kernel
theorem dX6_of_9 : decode cX6_of 9 = .ok (.iload_n 3, 1) := by decide +kernel
theorem dX6_of_10 : decode cX6_of 10 = .ok (.aload_n 0, 1) := by decide +kernel
theorem dX6_of_11 : decode cX6_of 11 = .ok (.getfield 7, 3) := by decide +kernel
theorem dX6_of_14 : decode cX6_of 14 = .ok (.iconst 1, 1) := by decide +kernel
theorem dX6_of_15 : decode cX6_of 15 = .ok (.isub, 1) := by decide +kernel
theorem dX6_of_16 : decode cX6_of 16 = .ok (.if_icmp .ge 37, 3) := by decide +kernel
theorem dX6_of_19 : decode cX6_of 19 = .ok (.aload_n 0, 1) := by decide +kernel
theorem dX6_of_20 : decode cX6_of 20 = .ok (.getfield 15, 3) := by decide +kernel
theorem dX6_of_23 : decode cX6_of 23 = .ok (.iload_n 3, 1) := by decide +kernel
theorem dX6_of_24 : decode cX6_of 24 = .ok (.aaload, 1) := by decide +kernel
theorem dX6_of_25 : decode cX6_of 25 = .ok (.iload_n 3, 1) := by decide +kernel
theorem dX6_of_26 : decode cX6_of 26 = .ok (.iaload, 1) := by decide +kernel
theorem dX6_of_27 : decode cX6_of 27 = .ok (.istore 4, 2) := by decide +kernel
theorem dX6_of_29 : decode cX6_of 29 = .ok (.iload 4, 2) := by decide +kernel
theorem dX6_of_31 : decode cX6_of 31 = .ok (.ifCond .ne 5, 3) := by decide +kernel
theorem dX6_of_34 : decode cX6_of 34 = .ok (.iconst 0, 1) := by decide +kernel
theorem dX6_of_35 : decode cX6_of 35 = .ok (.ireturn, 1) := by decide +kernel
theorem dX6_of_36 : decode cX6_of 36 = .ok (.aload_n 0, 1) := by decide +kernel
theorem dX6_of_37 : decode cX6_of 37 = .ok (.iload_n 3, 1) := by decide +kernel
theorem dX6_of_38 : decode cX6_of 38 = .ok (.iload 4, 2) := by decide +kernel
theorem dX6_of_40 : decode cX6_of 40 = .ok (.iload_n 2, 1) := by decide +kernel
theorem dX6_of_41 : decode cX6_of 41 = .ok (.invokevirtual 22, 3) := by decide +kernel
theorem dX6_of_44 : decode cX6_of 44 = .ok (.iload 4, 2) := by decide +kernel
theorem dX6_of_46 : decode cX6_of 46 = .ok (.istore_n 2, 1) := by decide +kernel
theorem dX6_of_47 : decode cX6_of 47 = .ok (.iinc 3 1, 3) := by decide +kernel
theorem dX6_of_50 : decode cX6_of 50 = .ok (.goto (-41), 3) := by decide +kernel
theorem dX6_of_53 : decode cX6_of 53 = .ok (.aload_n 0, 1) := by decide +kernel
theorem dX6_of_54 : decode cX6_of 54 = .ok (.getfield 15, 3) := by decide +kernel
theorem dX6_of_57 : decode cX6_of 57 = .ok (.aload_n 0, 1) := by decide +kernel
theorem dX6_of_58 : decode cX6_of 58 = .ok (.getfield 7, 3) := by decide +kernel
theorem dX6_of_61 : decode cX6_of 61 = .ok (.iconst 1, 1) := by decide +kernel
theorem dX6_of_62 : decode cX6_of 62 = .ok (.isub, 1) := by decide +kernel
theorem dX6_of_63 : decode cX6_of 63 = .ok (.aaload, 1) := by decide +kernel
theorem dX6_of_64 : decode cX6_of 64 = .ok (.aload_n 0, 1) := by decide +kernel
theorem dX6_of_65 : decode cX6_of 65 = .ok (.getfield 7, 3) := by decide +kernel
theorem dX6_of_68 : decode cX6_of 68 = .ok (.iconst 1, 1) := by decide +kernel
theorem dX6_of_69 : decode cX6_of 69 = .ok (.isub, 1) := by decide +kernel
theorem dX6_of_70 : decode cX6_of 70 = .ok (.iaload, 1) := by decide +kernel
theorem dX6_of_71 : decode cX6_of 71 = .ok (.ireturn, 1) := by decide +kernel
theorem dX6_fill_0 : decode cX6_fill 0 = .ok (.iconst 0, 1) := by decide +kernel
theorem dX6_fill_1 : decode cX6_fill 1 = .ok (.istore_n 2, 1) := by decide +kernel
theorem dX6_fill_2 : decode cX6_fill 2 = .ok (.iload_n 2, 1) := by decide +kernel
theorem dX6_fill_3 : decode cX6_fill 3 = .ok (.aload_n 0, 1) := by decide +kernel
theorem dX6_fill_4 : decode cX6_fill 4 = .ok (.getfield 7, 3) := by decide +kernel
theorem dX6_fill_7 : decode cX6_fill 7 = .ok (.if_icmp .ge 95, 3) := by decide +kernel
theorem dX6_fill_10 : decode cX6_fill 10 = .ok (.aload_n 1, 1) := by decide +kernel
theorem dX6_fill_11 : decode cX6_fill 11 = .ok (.iload_n 2, 1) := by decide +kernel
theorem dX6_fill_12 : decode cX6_fill 12 = .ok (.aload_n 0, 1) := by decide +kernel
theorem dX6_fill_13 : decode cX6_fill 13 = .ok (.getfield 7, 3) := by decide +kernel
theorem dX6_fill_16 : decode cX6_fill 16 = .ok (.invokevirtual 26, 3) := by decide +kernel
theorem dX6_fill_19 : decode cX6_fill 19 = .ok (.ifCond .eq 7, 3) := by decide +kernel
theorem dX6_fill_22 : decode cX6_fill 22 = .ok (.iconst 1, 1) := by decide +kernel
theorem dX6_fill_23 : decode cX6_fill 23 = .ok (.goto 4, 3) := by decide +kernel
theorem dX6_fill_26 : decode cX6_fill 26 = .ok (.iconst 0, 1) := by decide +kernel
theorem dX6_fill_27 : decode cX6_fill 27 = .ok (.istore_n 3, 1) := by decide +kernel
theorem dX6_fill_28 : decode cX6_fill 28 = .ok (.iconst 0, 1) := by decide +kernel
theorem dX6_fill_29 : decode cX6_fill 29 = .ok (.istore 4, 2) := by decide +kernel
theorem dX6_fill_31 : decode cX6_fill 31 = .ok (.iload 4, 2) := by decide +kernel
theorem dX6_fill_33 : decode cX6_fill 33 = .ok (.aload_n 0, 1) := by decide +kernel
theorem dX6_fill_34 : decode cX6_fill 34 = .ok (.getfield 7, 3) := by decide +kernel
theorem dX6_fill_37 : decode cX6_fill 37 = .ok (.if_icmp .ge 50, 3) := by decide +kernel
theorem dX6_fill_40 : decode cX6_fill 40 = .ok (.aload_n 1, 1) := by decide +kernel
theorem dX6_fill_41 : decode cX6_fill 41 = .ok (.iload_n 2, 1) := by decide +kernel
theorem dX6_fill_42 : decode cX6_fill 42 = .ok (.iload 4, 2) := by decide +kernel
theorem dX6_fill_44 : decode cX6_fill 44 = .ok (.invokevirtual 26, 3) := by decide +kernel
theorem dX6_fill_47 : decode cX6_fill 47 = .ok (.istore 5, 2) := by decide +kernel
theorem dX6_fill_49 : decode cX6_fill 49 = .ok (.aload_n 0, 1) := by decide +kernel
theorem dX6_fill_50 : decode cX6_fill 50 = .ok (.getfield 15, 3) := by decide +kernel
theorem dX6_fill_53 : decode cX6_fill 53 = .ok (.iload_n 2, 1) := by decide +kernel
theorem dX6_fill_54 : decode cX6_fill 54 = .ok (.aaload, 1) := by decide +kernel
theorem dX6_fill_55 : decode cX6_fill 55 = .ok (.iload 4, 2) := by decide +kernel
theorem dX6_fill_57 : decode cX6_fill 57 = .ok (.iload 5, 2) := by decide +kernel
theorem dX6_fill_59 : decode cX6_fill 59 = .ok (.ifCond .eq 7, 3) := by decide +kernel
theorem dX6_fill_62 : decode cX6_fill 62 = .ok (.iconst (-1), 1) := by decide +kernel
theorem dX6_fill_63 : decode cX6_fill 63 = .ok (.goto 4, 3) := by decide +kernel
theorem dX6_fill_66 : decode cX6_fill 66 = .ok (.iconst 0, 1) := by decide +kernel
theorem dX6_fill_67 : decode cX6_fill 67 = .ok (.iastore, 1) := by decide +kernel
theorem dX6_fill_68 : decode cX6_fill 68 = .ok (.iload_n 3, 1) := by decide +kernel
theorem dX6_fill_69 : decode cX6_fill 69 = .ok (.iload 5, 2) := by decide +kernel
theorem dX6_fill_71 : decode cX6_fill 71 = .ok (.ifCond .eq 7, 3) := by decide +kernel
theorem dX6_fill_74 : decode cX6_fill 74 = .ok (.iconst 1, 1) := by decide +kernel
theorem dX6_fill_75 : decode cX6_fill 75 = .ok (.goto 4, 3) := by decide +kernel
theorem dX6_fill_78 : decode cX6_fill 78 = .ok (.iconst 0, 1) := by decide +kernel
theorem dX6_fill_79 : decode cX6_fill 79 = .ok (.iadd, 1) := by decide +kernel
theorem dX6_fill_80 : decode cX6_fill 80 = .ok (.istore_n 3, 1) := by decide +kernel
theorem dX6_fill_81 : decode cX6_fill 81 = .ok (.iinc 4 1, 3) := by decide +kernel
theorem dX6_fill_84 : decode cX6_fill 84 = .ok (.goto (-53), 3) := by decide +kernel
theorem dX6_fill_87 : decode cX6_fill 87 = .ok (.aload_n 0, 1) := by decide +kernel
theorem dX6_fill_88 : decode cX6_fill 88 = .ok (.getfield 15, 3) := by decide +kernel
theorem dX6_fill_91 : decode cX6_fill 91 = .ok (.iload_n 2, 1) := by decide +kernel
theorem dX6_fill_92 : decode cX6_fill 92 = .ok (.aaload, 1) := by decide +kernel
theorem dX6_fill_93 : decode cX6_fill 93 = .ok (.iload_n 2, 1) := by decide +kernel
theorem dX6_fill_94 : decode cX6_fill 94 = .ok (.iload_n 3, 1) := by decide +kernel
theorem dX6_fill_95 : decode cX6_fill 95 = .ok (.iastore, 1) := by decide +kernel
theorem dX6_fill_96 : decode cX6_fill 96 = .ok (.iinc 2 1, 3) := by decide +kernel
theorem dX6_fill_99 : decode cX6_fill 99 = .ok (.goto (-97), 3) := by decide +kernel
theorem dX6_fill_102 : decode cX6_fill 102 = .ok (.return_, 1) := by decide +kernel
theorem dX6_eliminate_0 : decode cX6_eliminate 0 = .ok (.iload_n 3, 1) := by decide +kernel
theorem dX6_eliminate_1 : decode cX6_eliminate 1 = .ok (.ifCond .ne 4, 3) := by decide +kernel
theorem dX6_eliminate_4 : decode cX6_eliminate 4 = .ok (.return_, 1) := by decide +kernel
theorem dX6_eliminate_5 : decode cX6_eliminate 5 = .ok (.iload_n 1, 1) := by decide +kernel
theorem dX6_eliminate_6 : decode cX6_eliminate 6 = .ok (.iconst 1, 1) := by decide +kernel
theorem dX6_eliminate_7 : decode cX6_eliminate 7 = .ok (.iadd, 1) := by decide +kernel
theorem dX6_eliminate_8 : decode cX6_eliminate 8 = .ok (.istore 4, 2) := by decide +kernel
theorem dX6_eliminate_10 : decode cX6_eliminate 10 = .ok (.iload 4, 2) := by decide +kernel
theorem dX6_eliminate_12 : decode cX6_eliminate 12 = .ok (.aload_n 0, 1) := by decide +kernel
theorem dX6_eliminate_13 : decode cX6_eliminate 13 = .ok (.getfield 7, 3) := by decide +kernel
theorem dX6_eliminate_16 : decode cX6_eliminate 16 = .ok (.if_icmp .ge 77, 3) := by decide +kernel
theorem dX6_eliminate_19 : decode cX6_eliminate 19 = .ok (.iload_n 1, 1) := by decide +kernel
theorem dX6_eliminate_20 : decode cX6_eliminate 20 = .ok (.iconst 1, 1) := by decide +kernel
theorem dX6_eliminate_21 : decode cX6_eliminate 21 = .ok (.iadd, 1) := by decide +kernel
theorem dX6_eliminate_22 : decode cX6_eliminate 22 = .ok (.istore 5, 2) := by decide +kernel
theorem dX6_eliminate_24 : decode cX6_eliminate 24 = .ok (.iload 5, 2) := by decide +kernel
theorem dX6_eliminate_26 : decode cX6_eliminate 26 = .ok (.aload_n 0, 1) := by decide +kernel
theorem dX6_eliminate_27 : decode cX6_eliminate 27 = .ok (.getfield 7, 3) := by decide +kernel
theorem dX6_eliminate_30 : decode cX6_eliminate 30 = .ok (.if_icmp .ge 57, 3) := by decide +kernel
theorem dX6_eliminate_33 : decode cX6_eliminate 33 = .ok (.aload_n 0, 1) := by decide +kernel
theorem dX6_eliminate_34 : decode cX6_eliminate 34 = .ok (.getfield 15, 3) := by decide +kernel
theorem dX6_eliminate_37 : decode cX6_eliminate 37 = .ok (.iload 4, 2) := by decide +kernel
theorem dX6_eliminate_39 : decode cX6_eliminate 39 = .ok (.aaload, 1) := by decide +kernel
theorem dX6_eliminate_40 : decode cX6_eliminate 40 = .ok (.iload 5, 2) := by decide +kernel
theorem dX6_eliminate_42 : decode cX6_eliminate 42 = .ok (.iaload, 1) := by decide +kernel
theorem dX6_eliminate_43 : decode cX6_eliminate 43 = .ok (.iload_n 2, 1) := by decide +kernel
theorem dX6_eliminate_44 : decode cX6_eliminate 44 = .ok (.imul, 1) := by decide +kernel
theorem dX6_eliminate_45 : decode cX6_eliminate 45 = .ok (.aload_n 0, 1) := by decide +kernel
theorem dX6_eliminate_46 : decode cX6_eliminate 46 = .ok (.getfield 15, 3) := by decide +kernel
theorem dX6_eliminate_49 : decode cX6_eliminate 49 = .ok (.iload 4, 2) := by decide +kernel
theorem dX6_eliminate_51 : decode cX6_eliminate 51 = .ok (.aaload, 1) := by decide +kernel
theorem dX6_eliminate_52 : decode cX6_eliminate 52 = .ok (.iload_n 1, 1) := by decide +kernel
theorem dX6_eliminate_53 : decode cX6_eliminate 53 = .ok (.iaload, 1) := by decide +kernel
theorem dX6_eliminate_54 : decode cX6_eliminate 54 = .ok (.aload_n 0, 1) := by decide +kernel
theorem dX6_eliminate_55 : decode cX6_eliminate 55 = .ok (.getfield 15, 3) := by decide +kernel
theorem dX6_eliminate_58 : decode cX6_eliminate 58 = .ok (.iload_n 1, 1) := by decide +kernel
theorem dX6_eliminate_59 : decode cX6_eliminate 59 = .ok (.aaload, 1) := by decide +kernel
theorem dX6_eliminate_60 : decode cX6_eliminate 60 = .ok (.iload 5, 2) := by decide +kernel
theorem dX6_eliminate_62 : decode cX6_eliminate 62 = .ok (.iaload, 1) := by decide +kernel
theorem dX6_eliminate_63 : decode cX6_eliminate 63 = .ok (.imul, 1) := by decide +kernel
theorem dX6_eliminate_64 : decode cX6_eliminate 64 = .ok (.isub, 1) := by decide +kernel
theorem dX6_eliminate_65 : decode cX6_eliminate 65 = .ok (.istore 6, 2) := by decide +kernel
theorem dX6_eliminate_67 : decode cX6_eliminate 67 = .ok (.aload_n 0, 1) := by decide +kernel
theorem dX6_eliminate_68 : decode cX6_eliminate 68 = .ok (.getfield 15, 3) := by decide +kernel
theorem dX6_eliminate_71 : decode cX6_eliminate 71 = .ok (.iload 4, 2) := by decide +kernel
theorem dX6_eliminate_73 : decode cX6_eliminate 73 = .ok (.aaload, 1) := by decide +kernel
theorem dX6_eliminate_74 : decode cX6_eliminate 74 = .ok (.iload 5, 2) := by decide +kernel
theorem dX6_eliminate_76 : decode cX6_eliminate 76 = .ok (.iload 6, 2) := by decide +kernel
theorem dX6_eliminate_78 : decode cX6_eliminate 78 = .ok (.iload_n 3, 1) := by decide +kernel
theorem dX6_eliminate_79 : decode cX6_eliminate 79 = .ok (.idiv, 1) := by decide +kernel
theorem dX6_eliminate_80 : decode cX6_eliminate 80 = .ok (.iastore, 1) := by decide +kernel
theorem dX6_eliminate_81 : decode cX6_eliminate 81 = .ok (.iinc 5 1, 3) := by decide +kernel
theorem dX6_eliminate_84 : decode cX6_eliminate 84 = .ok (.goto (-60), 3) := by decide +kernel
theorem dX6_eliminate_87 : decode cX6_eliminate 87 = .ok (.iinc 4 1, 3) := by decide +kernel
theorem dX6_eliminate_90 : decode cX6_eliminate 90 = .ok (.goto (-80), 3) := by decide +kernel
theorem dX6_eliminate_93 : decode cX6_eliminate 93 = .ok (.return_, 1) := by decide +kernel
theorem dX7_init_0 : decode cX7_init 0 = .ok (.aload_n 0, 1) := by decide +kernel
theorem dX7_init_1 : decode cX7_init 1 = .ok (.invokespecial 1, 3) := by decide +kernel
theorem dX7_init_4 : decode cX7_init 4 = .ok (.aload_n 0, 1) := by decide +kernel
theorem dX7_init_5 : decode cX7_init 5 = .ok (.iload_n 1, 1) := by decide +kernel
theorem dX7_init_6 : decode cX7_init 6 = .ok (.putfield 7, 3) := by decide +kernel
theorem dX7_init_9 : decode cX7_init 9 = .ok (.return_, 1) := by decide +kernel
theorem dX7_find_0 : decode cX7_find 0 = .ok (.aload_n 0, 1) := by decide +kernel
theorem dX7_find_1 : decode cX7_find 1 = .ok (.lconst 1, 1) := by decide +kernel
theorem dX7_find_2 : decode cX7_find 2 = .ok (.putfield 15, 3) := by decide +kernel
theorem dX7_find_5 : decode cX7_find 5 = .ok (.iconst 0, 1) := by decide +kernel
theorem dX7_find_6 : decode cX7_find 6 = .ok (.istore_n 2, 1) := by decide +kernel
theorem dX7_find_7 : decode cX7_find 7 = .ok (.iload_n 2, 1) := by decide +kernel
theorem dX7_find_8 : decode cX7_find 8 = .ok (.aload_n 0, 1) := by decide +kernel
theorem dX7_find_9 : decode cX7_find 9 = .ok (.getfield 7, 3) := by decide +kernel
theorem dX7_find_12 : decode cX7_find 12 = .ok (.if_icmp .ge 56, 3) := by decide +kernel
theorem dX7_find_15 : decode cX7_find 15 = .ok (.iload_n 2, 1) := by decide +kernel
theorem dX7_find_16 : decode cX7_find 16 = .ok (.iconst 1, 1) := by decide +kernel
theorem dX7_find_17 : decode cX7_find 17 = .ok (.iadd, 1) := by decide +kernel
theorem dX7_find_18 : decode cX7_find 18 = .ok (.istore_n 3, 1) := by decide +kernel
theorem dX7_find_19 : decode cX7_find 19 = .ok (.iload_n 3, 1) := by decide +kernel
theorem dX7_find_20 : decode cX7_find 20 = .ok (.aload_n 0, 1) := by decide +kernel
theorem dX7_find_21 : decode cX7_find 21 = .ok (.getfield 7, 3) := by decide +kernel
theorem dX7_find_24 : decode cX7_find 24 = .ok (.if_icmp .ge 38, 3) := by decide +kernel
theorem dX7_find_27 : decode cX7_find 27 = .ok (.iload_n 3, 1) := by decide +kernel
theorem dX7_find_28 : decode cX7_find 28 = .ok (.iconst 1, 1) := by decide +kernel
theorem dX7_find_29 : decode cX7_find 29 = .ok (.iadd, 1) := by decide +kernel
theorem dX7_find_30 : decode cX7_find 30 = .ok (.istore 4, 2) := by decide +kernel
theorem dX7_find_32 : decode cX7_find 32 = .ok (.iload 4, 2) := by decide +kernel
theorem dX7_find_34 : decode cX7_find 34 = .ok (.aload_n 0, 1) := by decide +kernel
theorem dX7_find_35 : decode cX7_find 35 = .ok (.getfield 7, 3) := by decide +kernel
theorem dX7_find_38 : decode cX7_find 38 = .ok (.if_icmp .ge 18, 3) := by decide +kernel
theorem dX7_find_41 : decode cX7_find 41 = .ok (.aload_n 0, 1) := by decide +kernel
theorem dX7_find_42 : decode cX7_find 42 = .ok (.aload_n 1, 1) := by decide +kernel
theorem dX7_find_43 : decode cX7_find 43 = .ok (.iload_n 2, 1) := by decide +kernel
theorem dX7_find_44 : decode cX7_find 44 = .ok (.iload_n 3, 1) := by decide +kernel
theorem dX7_find_45 : decode cX7_find 45 = .ok (.iload 4, 2) := by decide +kernel
theorem dX7_find_47 : decode cX7_find 47 = .ok (.invokevirtual 19, 3) := by decide +kernel
theorem dX7_find_50 : decode cX7_find 50 = .ok (.iinc 4 1, 3) := by decide +kernel
theorem dX7_find_53 : decode cX7_find 53 = .ok (.goto (-21), 3) := by decide +kernel
theorem dX7_find_56 : decode cX7_find 56 = .ok (.iinc 3 1, 3) := by decide +kernel
theorem dX7_find_59 : decode cX7_find 59 = .ok (.goto (-40), 3) := by decide +kernel
theorem dX7_find_62 : decode cX7_find 62 = .ok (.iinc 2 1, 3) := by decide +kernel
theorem dX7_find_65 : decode cX7_find 65 = .ok (.goto (-58), 3) := by decide +kernel
theorem dX7_find_68 : decode cX7_find 68 = .ok (.return_, 1) := by decide +kernel
theorem dX7_compare_0 : decode cX7_compare 0 = .ok (.aload_n 1, 1) := by decide +kernel
theorem dX7_compare_1 : decode cX7_compare 1 = .ok (.iload_n 2, 1) := by decide +kernel
theorem dX7_compare_2 : decode cX7_compare 2 = .ok (.iload_n 3, 1) := by decide +kernel
theorem dX7_compare_3 : decode cX7_compare 3 = .ok (.iload 4, 2) := by decide +kernel
theorem dX7_compare_5 : decode cX7_compare 5 = .ok (.invokestatic 23, 3) := by decide +kernel
theorem dX7_compare_8 : decode cX7_compare 8 = .ok (.lstore 5, 2) := by decide +kernel
theorem dX7_compare_10 : decode cX7_compare 10 = .ok (.lload 5, 2) := by decide +kernel
theorem dX7_compare_12 : decode cX7_compare 12 = .ok (.aload_n 0, 1) := by decide +kernel
theorem dX7_compare_13 : decode cX7_compare 13 = .ok (.getfield 15, 3) := by decide +kernel
theorem dX7_compare_16 : decode cX7_compare 16 = .ok (.invokestatic 27, 3) := by decide +kernel
theorem dX7_compare_19 : decode cX7_compare 19 = .ok (.ifCond .eq 25, 3) := by decide +kernel
theorem dX7_compare_22 : decode cX7_compare 22 = .ok (.aload_n 0, 1) := by decide +kernel
theorem dX7_compare_23 : decode cX7_compare 23 = .ok (.iload_n 2, 1) := by decide +kernel
theorem dX7_compare_24 : decode cX7_compare 24 = .ok (.putfield 31, 3) := by decide +kernel
theorem dX7_compare_27 : decode cX7_compare 27 = .ok (.aload_n 0, 1) := by decide +kernel
theorem dX7_compare_28 : decode cX7_compare 28 = .ok (.iload_n 3, 1) := by decide +kernel
theorem dX7_compare_29 : decode cX7_compare 29 = .ok (.putfield 34, 3) := by decide +kernel
theorem dX7_compare_32 : decode cX7_compare 32 = .ok (.aload_n 0, 1) := by decide +kernel
theorem dX7_compare_33 : decode cX7_compare 33 = .ok (.iload 4, 2) := by decide +kernel
theorem dX7_compare_35 : decode cX7_compare 35 = .ok (.putfield 37, 3) := by decide +kernel
theorem dX7_compare_38 : decode cX7_compare 38 = .ok (.aload_n 0, 1) := by decide +kernel
theorem dX7_compare_39 : decode cX7_compare 39 = .ok (.lload 5, 2) := by decide +kernel
theorem dX7_compare_41 : decode cX7_compare 41 = .ok (.putfield 15, 3) := by decide +kernel
theorem dX7_compare_44 : decode cX7_compare 44 = .ok (.return_, 1) := by decide +kernel
theorem dX7_offOf_0 : decode cX7_offOf 0 = .ok (.aload_n 0, 1) := by decide +kernel
theorem dX7_offOf_1 : decode cX7_offOf 1 = .ok (.iload_n 1, 1) := by decide +kernel
theorem dX7_offOf_2 : decode cX7_offOf 2 = .ok (.iload_n 2, 1) := by decide +kernel
theorem dX7_offOf_3 : decode cX7_offOf 3 = .ok (.invokevirtual 40, 3) := by decide +kernel
theorem dX7_offOf_6 : decode cX7_offOf 6 = .ok (.ifCond .eq 21, 3) := by decide +kernel
theorem dX7_offOf_9 : decode cX7_offOf 9 = .ok (.aload_n 0, 1) := by decide +kernel
theorem dX7_offOf_10 : decode cX7_offOf 10 = .ok (.iload_n 2, 1) := by decide +kernel
theorem dX7_offOf_11 : decode cX7_offOf 11 = .ok (.iload_n 3, 1) := by decide +kernel
theorem dX7_offOf_12 : decode cX7_offOf 12 = .ok (.invokevirtual 40, 3) := by decide +kernel
theorem dX7_offOf_15 : decode cX7_offOf 15 = .ok (.ifCond .eq 12, 3) := by decide +kernel
theorem dX7_offOf_18 : decode cX7_offOf 18 = .ok (.aload_n 0, 1) := by decide +kernel
theorem dX7_offOf_19 : decode cX7_offOf 19 = .ok (.iload_n 3, 1) := by decide +kernel
theorem dX7_offOf_20 : decode cX7_offOf 20 = .ok (.iload_n 1, 1) := by decide +kernel
theorem dX7_offOf_21 : decode cX7_offOf 21 = .ok (.invokevirtual 40, 3) := by decide +kernel
theorem dX7_offOf_24 : decode cX7_offOf 24 = .ok (.ifCond .ne 5, 3) := by decide +kernel
theorem dX7_offOf_27 : decode cX7_offOf 27 = .ok (.lconst 1, 1) := by decide +kernel
theorem dX7_offOf_28 : decode cX7_offOf 28 = .ok (.lreturn, 1) := by decide +kernel
theorem dX7_offOf_29 : decode cX7_offOf 29 = .ok (.aload_n 0, 1) := by decide +kernel
theorem dX7_offOf_30 : decode cX7_offOf 30 = .ok (.iload_n 1, 1) := by decide +kernel
theorem dX7_offOf_31 : decode cX7_offOf 31 = .ok (.iload_n 2, 1) := by decide +kernel
theorem dX7_offOf_32 : decode cX7_offOf 32 = .ok (.invokevirtual 46, 3) := by decide +kernel
theorem dX7_offOf_35 : decode cX7_offOf 35 = .ok (.aload_n 0, 1) := by decide +kernel
theorem dX7_offOf_36 : decode cX7_offOf 36 = .ok (.iload_n 2, 1) := by decide +kernel
theorem dX7_offOf_37 : decode cX7_offOf 37 = .ok (.iload_n 3, 1) := by decide +kernel
theorem dX7_offOf_38 : decode cX7_offOf 38 = .ok (.invokevirtual 46, 3) := by decide +kernel
theorem dX7_offOf_41 : decode cX7_offOf 41 = .ok (.invokestatic 50, 3) := by decide +kernel
theorem dX7_offOf_44 : decode cX7_offOf 44 = .ok (.lstore 4, 2) := by decide +kernel
theorem dX7_offOf_46 : decode cX7_offOf 46 = .ok (.lload 4, 2) := by decide +kernel
theorem dX7_offOf_48 : decode cX7_offOf 48 = .ok (.aload_n 0, 1) := by decide +kernel
theorem dX7_offOf_49 : decode cX7_offOf 49 = .ok (.iload_n 3, 1) := by decide +kernel
theorem dX7_offOf_50 : decode cX7_offOf 50 = .ok (.iload_n 1, 1) := by decide +kernel
theorem dX7_offOf_51 : decode cX7_offOf 51 = .ok (.invokevirtual 46, 3) := by decide +kernel
theorem dX7_offOf_54 : decode cX7_offOf 54 = .ok (.invokestatic 50, 3) := by decide +kernel
theorem dX7_offOf_57 : decode cX7_offOf 57 = .ok (.lstore 4, 2) := by decide +kernel
theorem dX7_offOf_59 : decode cX7_offOf 59 = .ok (.ldc2_w 54, 3) := by decide +kernel
theorem dX7_offOf_62 : decode cX7_offOf 62 = .ok (.lload 4, 2) := by decide +kernel
theorem dX7_offOf_64 : decode cX7_offOf 64 = .ok (.invokestatic 27, 3) := by decide +kernel
theorem dX7_offOf_67 : decode cX7_offOf 67 = .ok (.ifCond .eq 11, 3) := by decide +kernel
theorem dX7_offOf_70 : decode cX7_offOf 70 = .ok (.lload 4, 2) := by decide +kernel
theorem dX7_offOf_72 : decode cX7_offOf 72 = .ok (.invokestatic 56, 3) := by decide +kernel
theorem dX7_offOf_75 : decode cX7_offOf 75 = .ok (.goto 5, 3) := by decide +kernel
theorem dX7_offOf_78 : decode cX7_offOf 78 = .ok (.lload 4, 2) := by decide +kernel
theorem dX7_offOf_80 : decode cX7_offOf 80 = .ok (.lreturn, 1) := by decide +kernel
