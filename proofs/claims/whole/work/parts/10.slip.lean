theorem dX6_blockOf_55 : decode cX6_blockOf 55 = .ok (.ireturn, 1) := by decide +kernel
theorem dX6_blockOf_54 : decode cX6_blockOf 54 = .ok (.iconst (-1), 1) := by decide +kernel
theorem dX6_blockOf_15 : decode cX6_blockOf 15 = .ok (.iload_n 2, 1) := by decide +kernel
theorem dX6_blockOf_16 : decode cX6_blockOf 16 = .ok (.iconst 1, 1) := by decide +kernel
theorem dX6_blockOf_17 : decode cX6_blockOf 17 = .ok (.iload_n 1, 1) := by decide +kernel
theorem dX6_blockOf_18 : decode cX6_blockOf 18 = .ok (.ishl, 1) := by decide +kernel
theorem dX6_blockOf_19 : decode cX6_blockOf 19 = .ok (.iconst 1, 1) := by decide +kernel
theorem dX6_blockOf_20 : decode cX6_blockOf 20 = .ok (.isub, 1) := by decide +kernel
theorem dX6_blockOf_21 : decode cX6_blockOf 21 = .ok (.iand, 1) := by decide +kernel
theorem dX6_blockOf_22 : decode cX6_blockOf 22 = .ok (.invokestatic 70, 3) := by decide +kernel
theorem dX6_blockOf_25 : decode cX6_blockOf 25 = .ok (.istore_n 3, 1) := by decide +kernel
theorem dX6_blockOf_26 : decode cX6_blockOf 26 = .ok (.iload_n 3, 1) := by decide +kernel
theorem dX6_blockOf_27 : decode cX6_blockOf 27 = .ok (.aload_n 0, 1) := by decide +kernel
theorem dX6_blockOf_28 : decode cX6_blockOf 28 = .ok (.getfield 27, 3) := by decide +kernel
theorem dX6_blockOf_31 : decode cX6_blockOf 31 = .ok (.iconst 4, 1) := by decide +kernel
theorem dX6_blockOf_32 : decode cX6_blockOf 32 = .ok (.iaload, 1) := by decide +kernel
theorem dX6_blockOf_33 : decode cX6_blockOf 33 = .ok (.invokestatic 75, 3) := by decide +kernel
theorem dX6_blockOf_36 : decode cX6_blockOf 36 = .ok (.idiv, 1) := by decide +kernel
theorem dX6_blockOf_37 : decode cX6_blockOf 37 = .ok (.istore 4, 2) := by decide +kernel
theorem dX6_blockOf_39 : decode cX6_blockOf 39 = .ok (.iload 4, 2) := by decide +kernel
theorem dX6_blockOf_41 : decode cX6_blockOf 41 = .ok (.aload_n 0, 1) := by decide +kernel
theorem dX6_blockOf_42 : decode cX6_blockOf 42 = .ok (.iload_n 2, 1) := by decide +kernel
theorem dX6_blockOf_43 : decode cX6_blockOf 43 = .ok (.invokevirtual 89, 3) := by decide +kernel
theorem dX6_blockOf_46 : decode cX6_blockOf 46 = .ok (.if_icmp .ge 8, 3) := by decide +kernel
theorem dX6_blockOf_49 : decode cX6_blockOf 49 = .ok (.iload 4, 2) := by decide +kernel
theorem dX6_blockOf_51 : decode cX6_blockOf 51 = .ok (.goto 4, 3) := by decide +kernel
theorem dX6_blockOf_0 : decode cX6_blockOf 0 = .ok (.aload_n 0, 1) := by decide +kernel
theorem dX6_blockOf_1 : decode cX6_blockOf 1 = .ok (.invokevirtual 83, 3) := by decide +kernel
theorem dX6_blockOf_4 : decode cX6_blockOf 4 = .ok (.istore_n 2, 1) := by decide +kernel
theorem dX6_blockOf_5 : decode cX6_blockOf 5 = .ok (.iload_n 2, 1) := by decide +kernel
theorem dX6_blockOf_6 : decode cX6_blockOf 6 = .ok (.iload_n 1, 1) := by decide +kernel
theorem dX6_blockOf_7 : decode cX6_blockOf 7 = .ok (.invokestatic 86, 3) := by decide +kernel
theorem dX6_blockOf_10 : decode cX6_blockOf 10 = .ok (.ifCond .ne 5, 3) := by decide +kernel
theorem dX6_blockOf_13 : decode cX6_blockOf 13 = .ok (.iconst (-1), 1) := by decide +kernel
theorem dX6_blockOf_14 : decode cX6_blockOf 14 = .ok (.ireturn, 1) := by decide +kernel
theorem dX6_pairAt_41 : decode cX6_pairAt 41 = .ok (.iconst (-1), 1) := by decide +kernel
theorem dX6_pairAt_42 : decode cX6_pairAt 42 = .ok (.ireturn, 1) := by decide +kernel
theorem dX6_pairAt_35 : decode cX6_pairAt 35 = .ok (.iinc 4 1, 3) := by decide +kernel
theorem dX6_pairAt_38 : decode cX6_pairAt 38 = .ok (.goto (-33), 3) := by decide +kernel
theorem dX6_pairAt_32 : decode cX6_pairAt 32 = .ok (.iinc 3 1, 3) := by decide +kernel
theorem dX6_pairAt_5 : decode cX6_pairAt 5 = .ok (.iload 4, 2) := by decide +kernel
theorem dX6_pairAt_7 : decode cX6_pairAt 7 = .ok (.aload_n 0, 1) := by decide +kernel
theorem dX6_pairAt_8 : decode cX6_pairAt 8 = .ok (.getfield 34, 3) := by decide +kernel
theorem dX6_pairAt_11 : decode cX6_pairAt 11 = .ok (.if_icmp .ge 30, 3) := by decide +kernel
theorem dX6_pairAt_14 : decode cX6_pairAt 14 = .ok (.iload_n 1, 1) := by decide +kernel
theorem dX6_pairAt_15 : decode cX6_pairAt 15 = .ok (.iload 4, 2) := by decide +kernel
theorem dX6_pairAt_17 : decode cX6_pairAt 17 = .ok (.invokestatic 86, 3) := by decide +kernel
theorem dX6_pairAt_20 : decode cX6_pairAt 20 = .ok (.iconst 1, 1) := by decide +kernel
theorem dX6_pairAt_21 : decode cX6_pairAt 21 = .ok (.if_icmp .ne 14, 3) := by decide +kernel
theorem dX6_pairAt_24 : decode cX6_pairAt 24 = .ok (.iload_n 3, 1) := by decide +kernel
theorem dX6_pairAt_25 : decode cX6_pairAt 25 = .ok (.iload_n 2, 1) := by decide +kernel
theorem dX6_pairAt_26 : decode cX6_pairAt 26 = .ok (.if_icmp .ne 6, 3) := by decide +kernel
theorem dX6_pairAt_29 : decode cX6_pairAt 29 = .ok (.iload 4, 2) := by decide +kernel
theorem dX6_pairAt_31 : decode cX6_pairAt 31 = .ok (.ireturn, 1) := by decide +kernel
theorem dX6_pairAt_0 : decode cX6_pairAt 0 = .ok (.iconst 0, 1) := by decide +kernel
theorem dX6_pairAt_1 : decode cX6_pairAt 1 = .ok (.istore_n 3, 1) := by decide +kernel
theorem dX6_pairAt_2 : decode cX6_pairAt 2 = .ok (.iconst 0, 1) := by decide +kernel
theorem dX6_pairAt_3 : decode cX6_pairAt 3 = .ok (.istore 4, 2) := by decide +kernel
theorem dX6_canRead_79 : decode cX6_canRead 79 = .ok (.ireturn, 1) := by decide +kernel
theorem dX6_canRead_78 : decode cX6_canRead 78 = .ok (.iconst 0, 1) := by decide +kernel
theorem dX6_canRead_53 : decode cX6_canRead 53 = .ok (.iadd, 1) := by decide +kernel
theorem dX6_canRead_54 : decode cX6_canRead 54 = .ok (.istore 7, 2) := by decide +kernel
theorem dX6_canRead_56 : decode cX6_canRead 56 = .ok (.aload_n 0, 1) := by decide +kernel
theorem dX6_canRead_57 : decode cX6_canRead 57 = .ok (.iload_n 1, 1) := by decide +kernel
theorem dX6_canRead_58 : decode cX6_canRead 58 = .ok (.iload 7, 2) := by decide +kernel
theorem dX6_canRead_60 : decode cX6_canRead 60 = .ok (.aload_n 0, 1) := by decide +kernel
theorem dX6_canRead_61 : decode cX6_canRead 61 = .ok (.iload 5, 2) := by decide +kernel
theorem dX6_canRead_63 : decode cX6_canRead 63 = .ok (.iload_n 2, 1) := by decide +kernel
theorem dX6_canRead_64 : decode cX6_canRead 64 = .ok (.invokevirtual 43, 3) := by decide +kernel
theorem dX6_canRead_67 : decode cX6_canRead 67 = .ok (.invokevirtual 47, 3) := by decide +kernel
theorem dX6_canRead_70 : decode cX6_canRead 70 = .ok (.iload_n 3, 1) := by decide +kernel
theorem dX6_canRead_71 : decode cX6_canRead 71 = .ok (.if_icmp .ne 7, 3) := by decide +kernel
theorem dX6_canRead_74 : decode cX6_canRead 74 = .ok (.iconst 1, 1) := by decide +kernel
theorem dX6_canRead_75 : decode cX6_canRead 75 = .ok (.goto 4, 3) := by decide +kernel
theorem dX6_canRead_50 : decode cX6_canRead 50 = .ok (.iload 6, 2) := by decide +kernel
theorem dX6_canRead_52 : decode cX6_canRead 52 = .ok (.ineg, 1) := by decide +kernel
theorem dX6_canRead_0 : decode cX6_canRead 0 = .ok (.aload_n 0, 1) := by decide +kernel
theorem dX6_canRead_1 : decode cX6_canRead 1 = .ok (.getfield 21, 3) := by decide +kernel
theorem dX6_canRead_4 : decode cX6_canRead 4 = .ok (.iload_n 1, 1) := by decide +kernel
theorem dX6_canRead_5 : decode cX6_canRead 5 = .ok (.iaload, 1) := by decide +kernel
theorem dX6_canRead_6 : decode cX6_canRead 6 = .ok (.istore 4, 2) := by decide +kernel
theorem dX6_canRead_8 : decode cX6_canRead 8 = .ok (.aload_n 0, 1) := by decide +kernel
theorem dX6_canRead_9 : decode cX6_canRead 9 = .ok (.getfield 24, 3) := by decide +kernel
theorem dX6_canRead_12 : decode cX6_canRead 12 = .ok (.iload_n 1, 1) := by decide +kernel
theorem dX6_canRead_13 : decode cX6_canRead 13 = .ok (.iaload, 1) := by decide +kernel
theorem dX6_canRead_14 : decode cX6_canRead 14 = .ok (.istore 5, 2) := by decide +kernel
theorem dX6_canRead_16 : decode cX6_canRead 16 = .ok (.aload_n 0, 1) := by decide +kernel
theorem dX6_canRead_17 : decode cX6_canRead 17 = .ok (.getfield 18, 3) := by decide +kernel
theorem dX6_canRead_20 : decode cX6_canRead 20 = .ok (.iload 4, 2) := by decide +kernel
theorem dX6_canRead_22 : decode cX6_canRead 22 = .ok (.iaload, 1) := by decide +kernel
theorem dX6_canRead_23 : decode cX6_canRead 23 = .ok (.aload_n 0, 1) := by decide +kernel
theorem dX6_canRead_24 : decode cX6_canRead 24 = .ok (.getfield 18, 3) := by decide +kernel
theorem dX6_canRead_27 : decode cX6_canRead 27 = .ok (.iload 5, 2) := by decide +kernel
theorem dX6_canRead_29 : decode cX6_canRead 29 = .ok (.iaload, 1) := by decide +kernel
theorem dX6_canRead_30 : decode cX6_canRead 30 = .ok (.iadd, 1) := by decide +kernel
theorem dX6_canRead_31 : decode cX6_canRead 31 = .ok (.istore 6, 2) := by decide +kernel
theorem dX6_canRead_33 : decode cX6_canRead 33 = .ok (.aload_n 0, 1) := by decide +kernel
theorem dX6_canRead_34 : decode cX6_canRead 34 = .ok (.iload 4, 2) := by decide +kernel
theorem dX6_canRead_36 : decode cX6_canRead 36 = .ok (.iload_n 2, 1) := by decide +kernel
theorem dX6_canRead_37 : decode cX6_canRead 37 = .ok (.invokevirtual 43, 3) := by decide +kernel
theorem dX6_canRead_40 : decode cX6_canRead 40 = .ok (.iload_n 3, 1) := by decide +kernel
theorem dX6_canRead_41 : decode cX6_canRead 41 = .ok (.iconst 1, 1) := by decide +kernel
theorem dX6_canRead_42 : decode cX6_canRead 42 = .ok (.if_icmp .ne 8, 3) := by decide +kernel
theorem dX6_canRead_45 : decode cX6_canRead 45 = .ok (.iload 6, 2) := by decide +kernel
theorem dX6_canRead_47 : decode cX6_canRead 47 = .ok (.goto 6, 3) := by decide +kernel
theorem dX6_drawsOf_0 : decode cX6_drawsOf 0 = .ok (.iconst 2, 1) := by decide +kernel
theorem dX6_drawsOf_1 : decode cX6_drawsOf 1 = .ok (.aload_n 0, 1) := by decide +kernel
theorem dX6_drawsOf_2 : decode cX6_drawsOf 2 = .ok (.getfield 18, 3) := by decide +kernel
theorem dX6_drawsOf_5 : decode cX6_drawsOf 5 = .ok (.aload_n 0, 1) := by decide +kernel
theorem dX6_drawsOf_6 : decode cX6_drawsOf 6 = .ok (.getfield 21, 3) := by decide +kernel
theorem dX6_drawsOf_9 : decode cX6_drawsOf 9 = .ok (.iload_n 1, 1) := by decide +kernel
theorem dX6_drawsOf_10 : decode cX6_drawsOf 10 = .ok (.iaload, 1) := by decide +kernel
theorem dX6_drawsOf_11 : decode cX6_drawsOf 11 = .ok (.iaload, 1) := by decide +kernel
theorem dX6_drawsOf_12 : decode cX6_drawsOf 12 = .ok (.imul, 1) := by decide +kernel
theorem dX6_drawsOf_13 : decode cX6_drawsOf 13 = .ok (.iconst 1, 1) := by decide +kernel
theorem dX6_drawsOf_14 : decode cX6_drawsOf 14 = .ok (.iadd, 1) := by decide +kernel
theorem dX6_drawsOf_15 : decode cX6_drawsOf 15 = .ok (.iconst 2, 1) := by decide +kernel
theorem dX6_drawsOf_16 : decode cX6_drawsOf 16 = .ok (.aload_n 0, 1) := by decide +kernel
theorem dX6_drawsOf_17 : decode cX6_drawsOf 17 = .ok (.getfield 18, 3) := by decide +kernel
theorem dX6_drawsOf_20 : decode cX6_drawsOf 20 = .ok (.aload_n 0, 1) := by decide +kernel
theorem dX6_drawsOf_21 : decode cX6_drawsOf 21 = .ok (.getfield 24, 3) := by decide +kernel
theorem dX6_drawsOf_24 : decode cX6_drawsOf 24 = .ok (.iload_n 1, 1) := by decide +kernel
theorem dX6_drawsOf_25 : decode cX6_drawsOf 25 = .ok (.iaload, 1) := by decide +kernel
theorem dX6_drawsOf_26 : decode cX6_drawsOf 26 = .ok (.iaload, 1) := by decide +kernel
theorem dX6_drawsOf_27 : decode cX6_drawsOf 27 = .ok (.imul, 1) := by decide +kernel
theorem dX6_drawsOf_28 : decode cX6_drawsOf 28 = .ok (.iconst 1, 1) := by decide +kernel
theorem dX6_drawsOf_29 : decode cX6_drawsOf 29 = .ok (.iadd, 1) := by decide +kernel
theorem dX6_drawsOf_30 : decode cX6_drawsOf 30 = .ok (.imul, 1) := by decide +kernel
theorem dX6_drawsOf_31 : decode cX6_drawsOf 31 = .ok (.ireturn, 1) := by decide +kernel
theorem dX6_drawsWithOne_126 : decode cX6_drawsWithOne 126 = .ok (.iload 9, 2) := by decide +kernel
theorem dX6_drawsWithOne_128 : decode cX6_drawsWithOne 128 = .ok (.ireturn, 1) := by decide +kernel
theorem dX6_drawsWithOne_80 : decode cX6_drawsWithOne 80 = .ok (.iload 10, 2) := by decide +kernel
theorem dX6_drawsWithOne_82 : decode cX6_drawsWithOne 82 = .ok (.iload 5, 2) := by decide +kernel
theorem dX6_drawsWithOne_84 : decode cX6_drawsWithOne 84 = .ok (.aload_n 0, 1) := by decide +kernel
theorem dX6_drawsWithOne_85 : decode cX6_drawsWithOne 85 = .ok (.getfield 18, 3) := by decide +kernel
theorem dX6_drawsWithOne_88 : decode cX6_drawsWithOne 88 = .ok (.iload_n 3, 1) := by decide +kernel
theorem dX6_drawsWithOne_89 : decode cX6_drawsWithOne 89 = .ok (.iaload, 1) := by decide +kernel
theorem dX6_drawsWithOne_90 : decode cX6_drawsWithOne 90 = .ok (.iadd, 1) := by decide +kernel
theorem dX6_drawsWithOne_91 : decode cX6_drawsWithOne 91 = .ok (.if_icmp .gt 35, 3) := by decide +kernel
theorem dX6_drawsWithOne_94 : decode cX6_drawsWithOne 94 = .ok (.iload 10, 2) := by decide +kernel
theorem dX6_drawsWithOne_96 : decode cX6_drawsWithOne 96 = .ok (.iload 6, 2) := by decide +kernel
theorem dX6_drawsWithOne_98 : decode cX6_drawsWithOne 98 = .ok (.isub, 1) := by decide +kernel
theorem dX6_drawsWithOne_99 : decode cX6_drawsWithOne 99 = .ok (.iload 8, 2) := by decide +kernel
theorem dX6_drawsWithOne_101 : decode cX6_drawsWithOne 101 = .ok (.iadd, 1) := by decide +kernel
theorem dX6_drawsWithOne_102 : decode cX6_drawsWithOne 102 = .ok (.istore 11, 2) := by decide +kernel
theorem dX6_drawsWithOne_104 : decode cX6_drawsWithOne 104 = .ok (.iload 9, 2) := by decide +kernel
theorem dX6_drawsWithOne_106 : decode cX6_drawsWithOne 106 = .ok (.iconst 0, 1) := by decide +kernel
theorem dX6_drawsWithOne_107 : decode cX6_drawsWithOne 107 = .ok (.iload 11, 2) := by decide +kernel
theorem dX6_drawsWithOne_109 : decode cX6_drawsWithOne 109 = .ok (.iload 7, 2) := by decide +kernel
theorem dX6_drawsWithOne_111 : decode cX6_drawsWithOne 111 = .ok (.invokestatic 55, 3) := by decide +kernel
theorem dX6_drawsWithOne_114 : decode cX6_drawsWithOne 114 = .ok (.invokestatic 92, 3) := by decide +kernel
theorem dX6_drawsWithOne_117 : decode cX6_drawsWithOne 117 = .ok (.iadd, 1) := by decide +kernel
theorem dX6_drawsWithOne_118 : decode cX6_drawsWithOne 118 = .ok (.istore 9, 2) := by decide +kernel
theorem dX6_drawsWithOne_120 : decode cX6_drawsWithOne 120 = .ok (.iinc 10 1, 3) := by decide +kernel
theorem dX6_drawsWithOne_123 : decode cX6_drawsWithOne 123 = .ok (.goto (-43), 3) := by decide +kernel
theorem dX6_drawsWithOne_64 : decode cX6_drawsWithOne 64 = .ok (.istore 8, 2) := by decide +kernel
theorem dX6_drawsWithOne_66 : decode cX6_drawsWithOne 66 = .ok (.iconst 0, 1) := by decide +kernel
theorem dX6_drawsWithOne_67 : decode cX6_drawsWithOne 67 = .ok (.istore 9, 2) := by decide +kernel
theorem dX6_drawsWithOne_69 : decode cX6_drawsWithOne 69 = .ok (.iload 5, 2) := by decide +kernel
theorem dX6_drawsWithOne_71 : decode cX6_drawsWithOne 71 = .ok (.aload_n 0, 1) := by decide +kernel
theorem dX6_drawsWithOne_72 : decode cX6_drawsWithOne 72 = .ok (.getfield 18, 3) := by decide +kernel
theorem dX6_drawsWithOne_75 : decode cX6_drawsWithOne 75 = .ok (.iload_n 3, 1) := by decide +kernel
theorem dX6_drawsWithOne_76 : decode cX6_drawsWithOne 76 = .ok (.iaload, 1) := by decide +kernel
theorem dX6_drawsWithOne_77 : decode cX6_drawsWithOne 77 = .ok (.isub, 1) := by decide +kernel
theorem dX6_drawsWithOne_78 : decode cX6_drawsWithOne 78 = .ok (.istore 10, 2) := by decide +kernel
theorem dX6_drawsWithOne_63 : decode cX6_drawsWithOne 63 = .ok (.iconst 0, 1) := by decide +kernel
theorem dX6_drawsWithOne_0 : decode cX6_drawsWithOne 0 = .ok (.aload_n 0, 1) := by decide +kernel
theorem dX6_drawsWithOne_1 : decode cX6_drawsWithOne 1 = .ok (.getfield 21, 3) := by decide +kernel
theorem dX6_drawsWithOne_4 : decode cX6_drawsWithOne 4 = .ok (.iload_n 1, 1) := by decide +kernel
theorem dX6_drawsWithOne_5 : decode cX6_drawsWithOne 5 = .ok (.iaload, 1) := by decide +kernel
theorem dX6_drawsWithOne_6 : decode cX6_drawsWithOne 6 = .ok (.istore_n 3, 1) := by decide +kernel
theorem dX6_drawsWithOne_7 : decode cX6_drawsWithOne 7 = .ok (.aload_n 0, 1) := by decide +kernel
theorem dX6_drawsWithOne_8 : decode cX6_drawsWithOne 8 = .ok (.getfield 24, 3) := by decide +kernel
theorem dX6_drawsWithOne_11 : decode cX6_drawsWithOne 11 = .ok (.iload_n 1, 1) := by decide +kernel
theorem dX6_drawsWithOne_12 : decode cX6_drawsWithOne 12 = .ok (.iaload, 1) := by decide +kernel
theorem dX6_drawsWithOne_13 : decode cX6_drawsWithOne 13 = .ok (.istore 4, 2) := by decide +kernel
theorem dX6_drawsWithOne_15 : decode cX6_drawsWithOne 15 = .ok (.aload_n 0, 1) := by decide +kernel
theorem dX6_drawsWithOne_16 : decode cX6_drawsWithOne 16 = .ok (.iload_n 3, 1) := by decide +kernel
theorem dX6_drawsWithOne_17 : decode cX6_drawsWithOne 17 = .ok (.iload_n 2, 1) := by decide +kernel
theorem dX6_drawsWithOne_18 : decode cX6_drawsWithOne 18 = .ok (.invokevirtual 43, 3) := by decide +kernel
theorem dX6_drawsWithOne_21 : decode cX6_drawsWithOne 21 = .ok (.istore 5, 2) := by decide +kernel
theorem dX6_drawsWithOne_23 : decode cX6_drawsWithOne 23 = .ok (.aload_n 0, 1) := by decide +kernel
theorem dX6_drawsWithOne_24 : decode cX6_drawsWithOne 24 = .ok (.iload 4, 2) := by decide +kernel
theorem dX6_drawsWithOne_26 : decode cX6_drawsWithOne 26 = .ok (.iload_n 2, 1) := by decide +kernel
theorem dX6_drawsWithOne_27 : decode cX6_drawsWithOne 27 = .ok (.invokevirtual 43, 3) := by decide +kernel
theorem dX6_drawsWithOne_30 : decode cX6_drawsWithOne 30 = .ok (.aload_n 0, 1) := by decide +kernel
theorem dX6_drawsWithOne_31 : decode cX6_drawsWithOne 31 = .ok (.getfield 18, 3) := by decide +kernel
theorem dX6_drawsWithOne_34 : decode cX6_drawsWithOne 34 = .ok (.iload 4, 2) := by decide +kernel
theorem dX6_drawsWithOne_36 : decode cX6_drawsWithOne 36 = .ok (.iaload, 1) := by decide +kernel
theorem dX6_drawsWithOne_37 : decode cX6_drawsWithOne 37 = .ok (.isub, 1) := by decide +kernel
theorem dX6_drawsWithOne_38 : decode cX6_drawsWithOne 38 = .ok (.istore 6, 2) := by decide +kernel
theorem dX6_drawsWithOne_40 : decode cX6_drawsWithOne 40 = .ok (.iconst 2, 1) := by decide +kernel
theorem dX6_drawsWithOne_41 : decode cX6_drawsWithOne 41 = .ok (.aload_n 0, 1) := by decide +kernel
theorem dX6_drawsWithOne_42 : decode cX6_drawsWithOne 42 = .ok (.getfield 18, 3) := by decide +kernel
theorem dX6_drawsWithOne_45 : decode cX6_drawsWithOne 45 = .ok (.iload 4, 2) := by decide +kernel
theorem dX6_drawsWithOne_47 : decode cX6_drawsWithOne 47 = .ok (.iaload, 1) := by decide +kernel
theorem dX6_drawsWithOne_48 : decode cX6_drawsWithOne 48 = .ok (.imul, 1) := by decide +kernel
theorem dX6_drawsWithOne_49 : decode cX6_drawsWithOne 49 = .ok (.iconst 1, 1) := by decide +kernel
theorem dX6_drawsWithOne_50 : decode cX6_drawsWithOne 50 = .ok (.iadd, 1) := by decide +kernel
theorem dX6_drawsWithOne_51 : decode cX6_drawsWithOne 51 = .ok (.istore 7, 2) := by decide +kernel
theorem dX6_drawsWithOne_53 : decode cX6_drawsWithOne 53 = .ok (.iload_n 3, 1) := by decide +kernel
theorem dX6_drawsWithOne_54 : decode cX6_drawsWithOne 54 = .ok (.iload 4, 2) := by decide +kernel
theorem dX6_drawsWithOne_56 : decode cX6_drawsWithOne 56 = .ok (.if_icmp .ge 7, 3) := by decide +kernel
theorem dX6_drawsWithOne_59 : decode cX6_drawsWithOne 59 = .ok (.iconst 1, 1) := by decide +kernel
theorem dX6_drawsWithOne_60 : decode cX6_drawsWithOne 60 = .ok (.goto 4, 3) := by decide +kernel
theorem pop_mk (f : Nat → Bool) {n : Nat} (hn : n ≤ 32) : pop (mk f n) = fb_ct f n := by
  rw [pop, show (32 : Nat) = n + (32 - n) by omega, fb_ct_split]
  rw [fb_ct_cong (q := f) (fun i hi => by rw [mk_bit]; simp [hi]), fb_ct_cong (n := 32 - n) (q := fun _ => false) (fun i _ => by rw [mk_bit]; simp; omega), fb_ct_z]
  rfl
theorem mk_land (f : Nat → Bool) {n p : Nat} (h : p ≤ n) : mk f n &&& (2 ^ p - 1) = mk f p := by
  apply Nat.eq_of_testBit_eq
  intro i
  rw [Nat.testBit_and, mk_bit, mk_bit, Nat.testBit_two_pow_sub_one]
  by_cases hi : i < p
  · have : i < n := by omega
    simp [hi, this]
  · simp [hi]
theorem usd_lt {S : zD} (h : dP S ≤ 28) : usd S < 2 ^ 28 := Nat.lt_of_lt_of_le (mk_lt _ _) (Nat.pow_le_pow_right (by omega) h)
/-- how many blocks; a pair's block -/
def nbk (S : zD) : Nat := bkc (dR S) (fb_ct (us S) (dP S))
def blk (S : zD) (p : Nat) : Int32 := if us S p = true ∧ fb_ct (us S) p / lnR (dR S) < nbk S then nI (fb_ct (us S) p / lnR (dR S)) else -1
theorem nbk_le {S : zD} (hv : vS S) : nbk S ≤ 16 ∧ nbk S * btR (dR S) ≤ 16 ∧ nbk S * lnR (dR S) ≤ fb_ct (us S) (dP S) := by
  obtain ⟨hr1, hr2⟩ := hv.2.2.2.2.2
  obtain ⟨q1, q2, q3, q4⟩ := lnR_pos hr2
  unfold nbk bkc
  refine ⟨?_, ?_, ?_⟩
  · exact Nat.le_trans (Nat.min_le_right _ _) (Nat.div_le_self _ _)
  · exact Nat.le_trans (Nat.mul_le_mul_right _ (Nat.min_le_right _ _)) (Nat.div_mul_le_self _ _)
  · exact Nat.le_trans (Nat.mul_le_mul_right _ (Nat.min_le_left _ _)) (Nat.div_mul_le_self _ _)
def ca_X6_blockOf : (zD × Nat × Nat) → List zV := fun (S, a, p) => [vR 15 0 a, vI (nI p)]
def cp_X6_blockOf : (zD × Nat × Nat) → zH → Prop := fun (S, a, p) h => rpS S h a ∧ p < dP S ∧ vS S
def cf_X6_blockOf : (zD × Nat × Nat) → zH → Int32 := fun (S, a, p) _ => blk S p
theorem rc_X6_blockOf : ∀ x : (zD × Nat × Nat), ∃ (j a : Nat) (As : List zV), ca_X6_blockOf x = vR (10 + 5) j a :: As := by
  rintro ⟨S, a, p⟩
  exact ⟨_, _, _, rfl⟩
set_option maxHeartbeats 4000000 in
set_option maxRecDepth 100000 in
theorem m_X6_blockOf : zM yX6_blockOf cX6_blockOf 5 (some .int) ({ frames := 5, cells := 0, slots := 0, locals := 112 } : Room) (zcI ca_X6_blockOf cp_X6_blockOf cf_X6_blockOf) := by
  refine zM_of (by decide) ?_
  rintro X Y ⟨S, a, p⟩ h ⟨hS, hp, hv⟩ O E hR
  have B_55 := zr_ireturn (X := X) (Y := Y) (u := 0) (v := 0) O E (Nat.le_refl _) (Nat.le_refl _) dX6_blockOf_55
  have B_54 := zr_iconst (X := X) (Y := Y) (u := 0) (v := 0) (x := (-1)) O dX6_blockOf_54 rfl (B_55)
  have B_15 := zr_iload_n (X := X) (Y := Y) (u := 0) (v := 0) O dX6_blockOf_15 rfl (zr_iconst (x := 1) O dX6_blockOf_16 rfl (zr_iload_n O dX6_blockOf_17 rfl (zr_ishl O dX6_blockOf_18 (zr_iconst (x := 1) O dX6_blockOf_19 rfl (zr_isub O dX6_blockOf_20 (zr_iand O dX6_blockOf_21 (zr_cI (zr_cS (n := 1) O m_J6_bitCount_0f7a4 (bn_J6_bitCount_0f7a4 _ ⟨rfl, rfl⟩) tw_767 tw_766 (zrm hR rfl rfl) dX6_blockOf_22 (zr_istore_n O dX6_blockOf_25 rfl (zr_iload_n O dX6_blockOf_26 rfl (zr_aload_n O dX6_blockOf_27 rfl (zr_gS (ci := 5) (j := 7) (off := 6) (t := 1) (n := 5) O zc_5 (by decide) rfl tw_73 dX6_blockOf_28 (zr_iconst (x := 4) O dX6_blockOf_31 rfl (zr_iald O dX6_blockOf_32 (zr_cI (zr_cS (n := 1) O m_X0_lengthOf (bn_X0_lengthOf _ ⟨rfl, rfl⟩) tw_773 tw_772 (zrm hR rfl rfl) dX6_blockOf_33 (zr_idiv O dX6_blockOf_36 (zr_istore O dX6_blockOf_37 (zr_iload O dX6_blockOf_39 (zr_aload_n O dX6_blockOf_41 rfl (zr_iload_n O dX6_blockOf_42 rfl (zr_cI (zr_cV (ci := 5) (n := 1) O m_X6_blockCount (bn_X6_blockCount _ ⟨rfl, rfl⟩) vw_X6_blockCount tw_933 rc_X6_blockCount (zrm hR rfl rfl) dX6_blockOf_43 (zr_icge (tgt := 54) O dX6_blockOf_46 rfl B_54 (zr_iload O dX6_blockOf_49 (zr_goto (tgt := 55) O dX6_blockOf_51 rfl B_55))))))))))))))))))))))))))
  have B_0 := zr_aload_n (X := X) (Y := Y) (u := 0) (v := 0) O dX6_blockOf_0 rfl (zr_cI (zr_cV (ci := 5) (n := 0) O m_X6_usedPairs (bn_X6_usedPairs _ ⟨rfl, rfl⟩) vw_X6_usedPairs tw_931 rc_X6_usedPairs (zrm hR rfl rfl) dX6_blockOf_1 (zr_istore_n O dX6_blockOf_4 rfl (zr_iload_n O dX6_blockOf_5 rfl (zr_iload_n O dX6_blockOf_6 rfl (zr_cI (zr_cSN (n := 2) O m_X10_bitIn (bn_X10_bitIn _ ⟨rfl, rfl⟩) tw_374 wn_RX6_86 (zrm hR rfl rfl) dX6_blockOf_7 (zr_ifne (tgt := 15) O dX6_blockOf_10 rfl B_15 (zr_iconst (x := (-1)) O dX6_blockOf_13 rfl (zr_ireturn O E (Nat.le_refl _) (Nat.le_refl _) dX6_blockOf_14))))))))))
  refine ⟨rfl, Nat.le_of_ble_eq_true rfl, _, B_0, ?_⟩
  have hP := hS.2.1.2
  obtain ⟨hr1, hr2⟩ := hv.2.2.2.2.2
  obtain ⟨q1, q2, q3, q4⟩ := lnR_pos hr2
  have e4 : h.1 (a + 6) 4 = nI (dR S) := (hS.2.2.2.2 4 (by decide)).trans hr1
  have hu := usd_lt hP
  have eb : (nI (usd S) >>> (nI p &&& 31)) &&& 1 = bI (us S p) := by
    rw [bI_in (by omega) (by omega), usd, mk_bit]
    simp [hp]
  have hcp : fb_ct (us S) p ≤ p := fb_ct_le _ _
  have e5 : pcI (nI (usd S) &&& ((1 : Int32) <<< (nI p &&& 31) - 1)) = nI (fb_ct (us S) p) := by
    rw [nI_lo (by omega), fa_and, usd, mk_land _ (by omega), pcI_pop (Nat.lt_of_lt_of_le (mk_lt _ _) (Nat.pow_le_pow_right (by omega) (by omega))), pop_mk _ (by omega)]
  have hd : fb_ct (us S) p / lnR (dR S) ≤ fb_ct (us S) p := Nat.div_le_self _ _
  have hb16 := (nbk_le hv).1
  have e6 : nI (bkc (dR S) (pop (usd S))) = nI (nbk S) := by rw [usd, pop_mk _ (by omega)]; rfl
  refine ⟨(S, a), rfl, ⟨hS, hv⟩, (nI (usd S), nI p), rfl, trivial, fun cq => ?_, fun cq => ⟨zri ?_, rfl⟩⟩
  · replace cq : ¬ (nI (usd S) >>> (nI p &&& 31)) &&& 1 = 0 := cq
    rw [eb] at cq
    have hus : us S p = true := by cases hz : us S p with
      | true => rfl
      | false => exact absurd (by rw [hz]; rfl) cq
    have e7 : pcI (nI (usd S) &&& ((1 : Int32) <<< (nI p &&& 31) - 1)) / nI (lnR (dR S)) = nI (fb_ct (us S) p / lnR (dR S)) := by
      rw [e5, pk_div (by omega) (by omega) (by omega)]
    refine ⟨_, rfl, trivial, 4, rfl, by decide, dR S, congrArg (fun z => [vI z]) e4, hr2, ?_, (S, a, usd S), rfl, ⟨hS, hv, by omega⟩, fun dq => ⟨zri ?_, rfl⟩, fun dq => ⟨zri ?_, rfl⟩⟩
    · exact fun z => by have := (nI_eq (b := 0) (by omega) (by omega)).mp z; omega
    · replace dq : nI (bkc (dR S) (pop (usd S))) ≤ pcI (nI (usd S) &&& ((1 : Int32) <<< (nI p &&& 31) - 1)) / nI (lnR (dR S)) := dq
      rw [e6, e7] at dq
      have := (nI_leI (by omega) (by omega)).mp dq
      show (-1 : Int32) = blk S p
      rw [blk, if_neg (by omega)]
    · replace dq : ¬ nI (bkc (dR S) (pop (usd S))) ≤ pcI (nI (usd S) &&& ((1 : Int32) <<< (nI p &&& 31) - 1)) / nI (lnR (dR S)) := dq
      rw [e6, e7] at dq
      have : fb_ct (us S) p / lnR (dR S) < nbk S := Nat.not_le.mp (fun z => dq ((nI_leI (by omega) (by omega)).mpr z))
      show pcI (nI (usd S) &&& ((1 : Int32) <<< (nI p &&& 31) - 1)) / nI (lnR (dR S)) = blk S p
      rw [blk, if_pos ⟨hus, this⟩, e7]
  · replace cq : (nI (usd S) >>> (nI p &&& 31)) &&& 1 = 0 := cq
    rw [eb] at cq
    have hus : us S p = false := (bI_0 _).mp cq
    show (-1 : Int32) = blk S p
    rw [blk, if_neg (by simp [hus])]
/-- the k-th of the marked ones among the first n -/
def sel (f : Nat → Bool) (k : Nat) : Nat → Nat
  | 0 => 0
  | n + 1 => if k < fb_ct f n then sel f k n else n
theorem sel_at {f : Nat → Bool} {k i : Nat} (hf : f i = true) (hk : fb_ct f i = k) : ∀ n, i < n → k < fb_ct f n ∧ sel f k n = i
  | 0, h => absurd h (by omega)
  | n + 1, h => by
    by_cases hi : i < n
    · obtain ⟨h1, h2⟩ := sel_at hf hk n hi
      have := fb_ct_mono f (m := n) (n := n + 1) (by omega)
      exact ⟨by omega, by rw [sel, if_pos h1]; exact h2⟩
    · have : i = n := by omega
      subst this
      exact ⟨by rw [fb_ct_succ, hf]; simp; omega, by rw [sel, if_neg (by omega)]⟩
theorem sel_spec {f : Nat → Bool} {k : Nat} : ∀ n, k < fb_ct f n → sel f k n < n ∧ f (sel f k n) = true ∧ fb_ct f (sel f k n) = k := by
  intro n h
  obtain ⟨i, h1, h2, h3⟩ := fb_ct_kth h
  obtain ⟨-, h4⟩ := sel_at h2 h3 n h1
  rw [h4]
  exact ⟨h1, h2, h3⟩
def kAt (f : Nat → Bool) (k n : Nat) : Int32 := if k < fb_ct f n then nI (sel f k n) else -1
def ca_X6_pairAt : (zD × Nat × Nat × Nat) → List zV := fun (S, a, m, k) => [vR 15 0 a, vI (nI m), vI (nI k)]
def cp_X6_pairAt : (zD × Nat × Nat × Nat) → zH → Prop := fun (S, a, m, k) h => rpS S h a ∧ m < 2 ^ 31 ∧ k < 2 ^ 31
def cf_X6_pairAt : (zD × Nat × Nat × Nat) → zH → Int32 := fun (S, a, m, k) _ => kAt (fun i => m.testBit i) k (dP S)
theorem rc_X6_pairAt : ∀ x : (zD × Nat × Nat × Nat), ∃ (j a : Nat) (As : List zV), ca_X6_pairAt x = vR (10 + 5) j a :: As := by
  rintro ⟨S, a, m, k⟩
  exact ⟨_, _, _, rfl⟩
set_option maxHeartbeats 4000000 in
set_option maxRecDepth 100000 in
theorem m_X6_pairAt : zM yX6_pairAt cX6_pairAt 5 (some .int) ({ frames := 1, cells := 0, slots := 0, locals := 21 } : Room) (zcI ca_X6_pairAt cp_X6_pairAt cf_X6_pairAt) := by
  refine zM_of (by decide) ?_
  rintro X Y ⟨S, a, m, k⟩ h ⟨hS, hm, hk⟩ O E hR
  have hP := hS.2.1.2
  have B_41 := zr_iconst (X := X) (Y := Y) (u := 0) (v := 0) (x := (-1)) O dX6_pairAt_41 rfl (zr_ireturn O E (Nat.le_refl _) (Nat.le_refl _) dX6_pairAt_42)
  have L_5 : ∀ nn : Nat, zSd X Y 0 0 5 ((fun c ls st h1 => ∃ (i : Nat) (y z : Int32), c = dP S - i ∧ i ≤ dP S ∧ fb_ct (fun i => m.testBit i) i ≤ k ∧ ls = [some (vR 15 0 a), some (vI (nI m)), some (vI (nI k)), some (vI y), some (vI z)] ∧ y = nI (fb_ct (fun i => m.testBit i) i) ∧ z = nI i ∧ st = [] ∧ h = h1 : Nat → zT) nn) := by
    refine zSd_loop (fun nn ih => ?_)
    have B_35 := zr_iinc (X := X) (Y := Y) (u := 0) (v := 0) (c := 1) O dX6_pairAt_35 rfl (zr_goto (tgt := 5) O dX6_pairAt_38 rfl ih)
    have B_32 := zr_iinc (X := X) (Y := Y) (u := 0) (v := 0) (c := 1) O dX6_pairAt_32 rfl (B_35)
    have B_5 := zr_iload (X := X) (Y := Y) (u := 0) (v := 0) O dX6_pairAt_5 (zr_aload_n O dX6_pairAt_7 rfl (zr_gI (ci := 5) (j := 4) O zc_5 (by decide) rfl tw_54 dX6_pairAt_8 (zr_icge (tgt := 41) O dX6_pairAt_11 rfl B_41 (zr_iload_n O dX6_pairAt_14 rfl (zr_iload O dX6_pairAt_15 (zr_cI (zr_cSN (n := 2) O m_X10_bitIn (bn_X10_bitIn _ ⟨rfl, rfl⟩) tw_374 wn_RX6_86 (zrm hR rfl rfl) dX6_pairAt_17 (zr_iconst (x := 1) O dX6_pairAt_20 rfl (zr_icne (tgt := 35) O dX6_pairAt_21 rfl B_35 (zr_iload_n O dX6_pairAt_24 rfl (zr_iload_n O dX6_pairAt_25 rfl (zr_icne (tgt := 32) O dX6_pairAt_26 rfl B_32 (zr_iload O dX6_pairAt_29 (zr_ireturn O E (Nat.le_refl _) (Nat.le_refl _) dX6_pairAt_31))))))))))))))
    refine zSd_weak B_5 (fun ls st h1 t => ?_)
    obtain ⟨i, y, z, rfl, hi, hle, rfl, rfl, rfl, rfl, rfl⟩ := t
    have hci := fb_ct_le (fun i => m.testBit i) i
    refine ⟨fun cq => ⟨zri ?_, rfl⟩, fun cq => ?_⟩
    · rw [hS.2.1.1] at cq
      have := (nI_leI (by omega) (by omega)).mp cq
      have e : i = dP S := by omega
      show (-1 : Int32) = kAt (fun i => m.testBit i) k (dP S)
      rw [kAt, if_neg (by rw [← e]; omega)]
    · rw [hS.2.1.1] at cq
      have hi2 : i < dP S := Nat.not_le.mp (fun z => cq ((nI_leI (by omega) (by omega)).mpr z))
      have eb : (nI m >>> (nI i &&& 31)) &&& 1 = bI (m.testBit i) := bI_in hm (by omega)
      refine ⟨(nI m, nI i), rfl, trivial, fun dq => ?_, fun dq => ⟨fun eq => ?_, fun eq => ⟨zri ?_, rfl⟩⟩⟩
      · replace dq : ¬ (nI m >>> (nI i &&& 31)) &&& 1 = 1 := dq
        rw [eb, bI_1] at dq
        have hb : m.testBit i = false := by simpa using dq
        have ec : fb_ct (fun i => m.testBit i) (i + 1) = fb_ct (fun i => m.testBit i) i := by rw [fb_ct_succ, hb]; rfl
        exact ⟨dP S - (i + 1), by omega, i + 1, _, _, rfl, by omega, by omega, rfl, by rw [ec], nI_1 i, rfl, rfl⟩
      · replace dq : (nI m >>> (nI i &&& 31)) &&& 1 = 1 := dq
        rw [eb, bI_1] at dq
        have hne : fb_ct (fun i => m.testBit i) i ≠ k := fun z => eq (by rw [z])
        have ec : fb_ct (fun i => m.testBit i) (i + 1) = fb_ct (fun i => m.testBit i) i + 1 := by rw [fb_ct_succ, dq]; rfl
        exact ⟨dP S - (i + 1), by omega, i + 1, _, _, rfl, by omega, by omega, rfl, by rw [ec, nI_1], nI_1 i, rfl, rfl⟩
      · replace dq : (nI m >>> (nI i &&& 31)) &&& 1 = 1 := dq
        rw [eb, bI_1] at dq
        have he : fb_ct (fun i => m.testBit i) i = k := (nI_eq (by omega) (by omega)).mp eq
        obtain ⟨s1, s2⟩ := sel_at (f := fun i => m.testBit i) dq he (dP S) hi2
        show nI i = kAt (fun i => m.testBit i) k (dP S)
        rw [kAt, if_pos s1, s2]
  have B_5 := zSd_any L_5
  have B_0 := zr_iconst (X := X) (Y := Y) (u := 0) (v := 0) (x := 0) O dX6_pairAt_0 rfl (zr_istore_n O dX6_pairAt_1 rfl (zr_iconst (x := 0) O dX6_pairAt_2 rfl (zr_istore O dX6_pairAt_3 (B_5))))
  refine ⟨rfl, Nat.le_of_ble_eq_true rfl, _, B_0, ?_⟩
  exact ⟨dP S - 0, 0, _, _, rfl, Nat.zero_le _, Nat.zero_le _, rfl, rfl, rfl, rfl, rfl⟩
/-- whether some draws give a bit -/
def crd (S : zD) (p : Nat) (te w : Int32) : Bool := decide (bby (spd S (dF S p) te + (if w = 1 then dZ S (dF S p) + dZ S (dS S p) else -(dZ S (dF S p) + dZ S (dS S p)))) (spd S (dS S p) te) (dF S p) (dS S p) = w)
def ca_X6_canRead : (zD × Nat × Nat × Int32 × Int32) → List zV := fun (S, a, p, te, w) => [vR 15 0 a, vI (nI p), vI te, vI w]
def cp_X6_canRead : (zD × Nat × Nat × Int32 × Int32) → zH → Prop := fun (S, a, p, te, w) h => rpS S h a ∧ p < dP S
def cf_X6_canRead : (zD × Nat × Nat × Int32 × Int32) → zH → Int32 := fun (S, a, p, te, w) _ => bI (crd S p te w)
theorem rc_X6_canRead : ∀ x : (zD × Nat × Nat × Int32 × Int32), ∃ (j a : Nat) (As : List zV), ca_X6_canRead x = vR (10 + 5) j a :: As := by
  rintro ⟨S, a, p, te, w⟩
  exact ⟨_, _, _, rfl⟩
set_option maxHeartbeats 4000000 in
set_option maxRecDepth 100000 in
theorem m_X6_canRead : zM yX6_canRead cX6_canRead 8 (some .boolean) ({ frames := 1, cells := 0, slots := 0, locals := 23 } : Room) (zcI ca_X6_canRead cp_X6_canRead cf_X6_canRead) := by
  refine zM_of (by decide) ?_
  rintro X Y ⟨S, a, p, te, w⟩ h ⟨hS, hp⟩ O E hR
  have B_79 := zr_zreturn (X := X) (Y := Y) (u := 0) (v := 0) O E (Nat.le_refl _) (Nat.le_refl _) dX6_canRead_79
  have B_78 := zr_iconst (X := X) (Y := Y) (u := 0) (v := 0) (x := 0) O dX6_canRead_78 rfl (B_79)
  have B_53 := zr_iadd (X := X) (Y := Y) (u := 0) (v := 0) O dX6_canRead_53 (zr_istore O dX6_canRead_54 (zr_aload_n O dX6_canRead_56 rfl (zr_iload_n O dX6_canRead_57 rfl (zr_iload O dX6_canRead_58 (zr_aload_n O dX6_canRead_60 rfl (zr_iload O dX6_canRead_61 (zr_iload_n O dX6_canRead_63 rfl (zr_cI (zr_cV (ci := 5) (n := 2) O m_X6_speedOf (bn_X6_speedOf _ ⟨rfl, rfl⟩) vw_X6_speedOf tw_440 rc_X6_speedOf (zrm hR rfl rfl) dX6_canRead_64 (zr_cI (zr_cV (ci := 5) (n := 3) O m_X6_bitFrom (bn_X6_bitFrom _ ⟨rfl, rfl⟩) vw_X6_bitFrom tw_422 rc_X6_bitFrom (zrm hR rfl rfl) dX6_canRead_67 (zr_iload_n O dX6_canRead_70 rfl (zr_icne (tgt := 78) O dX6_canRead_71 rfl B_78 (zr_iconst (x := 1) O dX6_canRead_74 rfl (zr_goto (tgt := 79) O dX6_canRead_75 rfl B_79)))))))))))))))
  have B_50 := zr_iload (X := X) (Y := Y) (u := 0) (v := 0) O dX6_canRead_50 (zr_ineg O dX6_canRead_52 (B_53))
  have B_0 := zr_aload_n (X := X) (Y := Y) (u := 0) (v := 0) O dX6_canRead_0 rfl (zr_gS (ci := 5) (j := 5) (off := 4) (t := 1) (n := 28) O zc_5 (by decide) rfl tw_59 dX6_canRead_1 (zr_iload_n O dX6_canRead_4 rfl (zr_iald O dX6_canRead_5 (zr_istore O dX6_canRead_6 (zr_aload_n O dX6_canRead_8 rfl (zr_gS (ci := 5) (j := 6) (off := 5) (t := 1) (n := 28) O zc_5 (by decide) rfl tw_66 dX6_canRead_9 (zr_iload_n O dX6_canRead_12 rfl (zr_iald O dX6_canRead_13 (zr_istore O dX6_canRead_14 (zr_aload_n O dX6_canRead_16 rfl (zr_gS (ci := 5) (j := 3) (off := 3) (t := 1) (n := 10) O zc_5 (by decide) rfl tw_52 dX6_canRead_17 (zr_iload O dX6_canRead_20 (zr_iald O dX6_canRead_22 (zr_aload_n O dX6_canRead_23 rfl (zr_gS (ci := 5) (j := 3) (off := 3) (t := 1) (n := 10) O zc_5 (by decide) rfl tw_52 dX6_canRead_24 (zr_iload O dX6_canRead_27 (zr_iald O dX6_canRead_29 (zr_iadd O dX6_canRead_30 (zr_istore O dX6_canRead_31 (zr_aload_n O dX6_canRead_33 rfl (zr_iload O dX6_canRead_34 (zr_iload_n O dX6_canRead_36 rfl (zr_cI (zr_cV (ci := 5) (n := 2) O m_X6_speedOf (bn_X6_speedOf _ ⟨rfl, rfl⟩) vw_X6_speedOf tw_440 rc_X6_speedOf (zrm hR rfl rfl) dX6_canRead_37 (zr_iload_n O dX6_canRead_40 rfl (zr_iconst (x := 1) O dX6_canRead_41 rfl (zr_icne (tgt := 50) O dX6_canRead_42 rfl B_50 (zr_iload O dX6_canRead_45 (zr_goto (tgt := 53) O dX6_canRead_47 rfl B_53)))))))))))))))))))))))))))))
  refine ⟨rfl, Nat.le_of_ble_eq_true rfl, _, B_0, ?_⟩
  obtain ⟨⟨f1, f2⟩, s1, s2⟩ := hS.2.2.2.1 p hp
  have hN := hS.1.2
  have hp28 : p < 28 := Nat.lt_of_lt_of_le hp hS.2.1.2
  have n1 := (hS.2.2.1 _ f2).2.2
  have n2 := (hS.2.2.1 _ s2).2.2
  have key : ∀ x : Int32, x = (if w = 1 then dZ S (dF S p) + dZ S (dS S p) else -(dZ S (dF S p) + dZ S (dS S p))) → (bby (spd S (dF S p) te + x) (spd S (dS S p) te) (dF S p) (dS S p) = w ↔ crd S p te w = true) := by
    intro x hx
    rw [hx, crd, decide_eq_true_iff]
  refine ⟨p, rfl, hp28, p, rfl, hp28, dF S p, f1, by omega, dS S p, s1, by omega, (S, a, dF S p, te), congrArg (fun z => [vR 15 0 a, vI z, vI te]) f1, ⟨hS, f2⟩, fun cq => ?_, fun cq => ?_⟩
  · have k2 := key (-(h.1 (a + 3) (dF S p) + h.1 (a + 3) (dS S p))) (by rw [if_neg cq, n1, n2])
    refine ⟨(S, a, dS S p, te), congrArg (fun z => [vR 15 0 a, vI z, vI te]) s1, ⟨hS, s2⟩, (S, a, p, _, _), rfl, ⟨hS, hp⟩, fun dq => ⟨Or.inl rfl, zri ?_, rfl⟩, fun dq => ⟨Or.inr rfl, zri ?_, rfl⟩⟩
    · exact ((bI_0 _).mpr (by cases hz : crd S p te w with
        | false => rfl
        | true => exact absurd (k2.mpr hz) dq)).symm
    · exact ((bI_1 _).mpr (k2.mp dq)).symm
  · have k2 := key (h.1 (a + 3) (dF S p) + h.1 (a + 3) (dS S p)) (by rw [if_pos cq, n1, n2])
    refine ⟨(S, a, dS S p, te), congrArg (fun z => [vR 15 0 a, vI z, vI te]) s1, ⟨hS, s2⟩, (S, a, p, _, _), rfl, ⟨hS, hp⟩, fun dq => ⟨Or.inl rfl, zri ?_, rfl⟩, fun dq => ⟨Or.inr rfl, zri ?_, rfl⟩⟩
    · exact ((bI_0 _).mpr (by cases hz : crd S p te w with
        | false => rfl
        | true => exact absurd (k2.mpr hz) dq)).symm
    · exact ((bI_1 _).mpr (k2.mp dq)).symm
def ca_X6_drawsOf : (zD × Nat × Nat) → List zV := fun (S, a, p) => [vR 15 0 a, vI (nI p)]
def cp_X6_drawsOf : (zD × Nat × Nat) → zH → Prop := fun (S, a, p) h => rpS S h a ∧ p < dP S
def cf_X6_drawsOf : (zD × Nat × Nat) → zH → Int32 := fun (S, a, p) _ => (2 * dZ S (dF S p) + 1) * (2 * dZ S (dS S p) + 1)
theorem rc_X6_drawsOf : ∀ x : (zD × Nat × Nat), ∃ (j a : Nat) (As : List zV), ca_X6_drawsOf x = vR (10 + 5) j a :: As := by
  rintro ⟨S, a, p⟩
  exact ⟨_, _, _, rfl⟩
set_option maxHeartbeats 4000000 in
set_option maxRecDepth 100000 in
theorem m_X6_drawsOf : zM yX6_drawsOf cX6_drawsOf 2 (some .int) ({ frames := 0, cells := 0, slots := 0, locals := 0 } : Room) (zcI ca_X6_drawsOf cp_X6_drawsOf cf_X6_drawsOf) := by
  refine zM_of (by decide) ?_
  rintro X Y ⟨S, a, p⟩ h ⟨hS, hp⟩ O E hR
  have B_0 := zr_iconst (X := X) (Y := Y) (u := 0) (v := 0) (x := 2) O dX6_drawsOf_0 rfl (zr_aload_n O dX6_drawsOf_1 rfl (zr_gS (ci := 5) (j := 3) (off := 3) (t := 1) (n := 10) O zc_5 (by decide) rfl tw_52 dX6_drawsOf_2 (zr_aload_n O dX6_drawsOf_5 rfl (zr_gS (ci := 5) (j := 5) (off := 4) (t := 1) (n := 28) O zc_5 (by decide) rfl tw_59 dX6_drawsOf_6 (zr_iload_n O dX6_drawsOf_9 rfl (zr_iald O dX6_drawsOf_10 (zr_iald O dX6_drawsOf_11 (zr_imul O dX6_drawsOf_12 (zr_iconst (x := 1) O dX6_drawsOf_13 rfl (zr_iadd O dX6_drawsOf_14 (zr_iconst (x := 2) O dX6_drawsOf_15 rfl (zr_aload_n O dX6_drawsOf_16 rfl (zr_gS (ci := 5) (j := 3) (off := 3) (t := 1) (n := 10) O zc_5 (by decide) rfl tw_52 dX6_drawsOf_17 (zr_aload_n O dX6_drawsOf_20 rfl (zr_gS (ci := 5) (j := 6) (off := 5) (t := 1) (n := 28) O zc_5 (by decide) rfl tw_66 dX6_drawsOf_21 (zr_iload_n O dX6_drawsOf_24 rfl (zr_iald O dX6_drawsOf_25 (zr_iald O dX6_drawsOf_26 (zr_imul O dX6_drawsOf_27 (zr_iconst (x := 1) O dX6_drawsOf_28 rfl (zr_iadd O dX6_drawsOf_29 (zr_imul O dX6_drawsOf_30 (zr_ireturn O E (Nat.le_refl _) (Nat.le_refl _) dX6_drawsOf_31)))))))))))))))))))))))
  refine ⟨rfl, Nat.le_of_ble_eq_true rfl, _, B_0, ?_⟩
  obtain ⟨⟨f1, f2⟩, s1, s2⟩ := hS.2.2.2.1 p hp
  have hN := hS.1.2
  have hp28 : p < 28 := Nat.lt_of_lt_of_le hp hS.2.1.2
  refine ⟨p, rfl, hp28, dF S p, f1, by omega, p, rfl, hp28, dS S p, s1, by omega, zri ?_, rfl⟩
  rw [(hS.2.2.1 _ f2).2.2, (hS.2.2.1 _ s2).2.2]
  rfl
/-! bounds of speeds -/
theorem tdiv_b {a d : Int} {n : Nat} (hd : 0 < d) (h1 : -(n * d) ≤ a) (h2 : a ≤ n * d) : -(n : Int) ≤ a.tdiv d ∧ a.tdiv d ≤ n := by
  rcases Int.le_total 0 a with h | h
  · rw [Int.tdiv_eq_ediv_of_nonneg h]
    have h3 := Int.ediv_nonneg h (Int.le_of_lt hd)
    have h4 : a / d ≤ n := Int.ediv_le_of_le_mul hd h2
    omega
  · have e : a.tdiv d = -((-a).tdiv d) := by rw [Int.neg_tdiv, Int.neg_neg]
    rw [e, Int.tdiv_eq_ediv_of_nonneg (by omega)]
    have h3 := Int.ediv_nonneg (show 0 ≤ -a by omega) (Int.le_of_lt hd)
    have h4 : -a / d ≤ n := Int.ediv_le_of_le_mul hd (by omega)
    omega
def okH (te : Int32) : Prop := -40 ≤ te.toInt ∧ te.toInt ≤ 125
theorem mul_b {a b : Int} {m n : Nat} (h1 : -(m : Int) ≤ a) (h2 : a ≤ m) (h3 : -(n : Int) ≤ b) (h4 : b ≤ n) : -((m * n : Nat) : Int) ≤ a * b ∧ a * b ≤ ((m * n : Nat) : Int) := by
  have h : (a * b).natAbs ≤ m * n := by
    rw [Int.natAbs_mul]
    exact Nat.mul_le_mul (by omega) (by omega)
  omega
theorem spd_i {S : zD} (hv : vS S) {r : Nat} (hr : r < dN S) {te : Int32} (ht : okH te) : (spd S r te).toInt = (dB S r).toInt + ((dD S r).toInt * (te.toInt - 20)).tdiv 10 ∧ -1040 ≤ (spd S r te).toInt ∧ (spd S r te).toInt ≤ 11039 := by
  obtain ⟨⟨b1, b2⟩, ⟨d1, d2⟩, -⟩ := hv.1 r hr
  obtain ⟨t1, t2⟩ := ht
  have e1 : (te - 20).toInt = te.toInt - 20 := fb_subI (by show _ ≤ te.toInt - 20; omega) (by show te.toInt - 20 < _; omega)
  have m1 := mul_b (a := (dD S r).toInt) (b := te.toInt - 20) (m := 99) (n := 105) (by omega) (by omega) (by omega) (by omega)
  have e2 : (dD S r * (te - 20)).toInt = (dD S r).toInt * (te.toInt - 20) := by
    have := fb_mulI (x := dD S r) (y := te - 20) (by rw [e1]; omega) (by rw [e1]; omega)
    rw [this, e1]
  have e3 : (dD S r * (te - 20) / 10).toInt = ((dD S r).toInt * (te.toInt - 20)).tdiv 10 := by
    rw [Int32.toInt_div_of_ne_right _ _ (by decide), e2]
    rfl
  have q := tdiv_b (a := (dD S r).toInt * (te.toInt - 20)) (d := 10) (n := 1040) (by omega) (by omega) (by omega)
  have e4 : (spd S r te).toInt = (dB S r).toInt + ((dD S r).toInt * (te.toInt - 20)).tdiv 10 := by
    rw [spd, fb_addI (by rw [e3]; omega) (by rw [e3]; omega), e3]
  refine ⟨e4, by omega, by omega⟩
theorem spd_20 (S : zD) (r : Nat) : spd S r 20 = dB S r := by
  rw [spd, Int32.sub_self, Int32.mul_zero]
  show dB S r + 0 = _
  exact Int32.add_zero _
/-- how many draws of both give the bit 1: by the draws of the first -/
def zN (S : zD) (r : Nat) : Nat := (dZ S r).toInt.toNat
def dw1 (S : zD) (p : Nat) (te : Int32) : Nat → Int32
  | 0 => 0
  | n + 1 => dw1 S p te n + mx2 0 (mn2 ((spd S (dF S p) te - dZ S (dF S p) + nI n) - (spd S (dS S p) te - dZ S (dS S p)) + (if dF S p < dS S p then 1 else 0)) (2 * dZ S (dS S p) + 1))
def ca_X6_drawsWithOne : (zD × Nat × Nat × Int32) → List zV := fun (S, a, p, te) => [vR 15 0 a, vI (nI p), vI te]
def cp_X6_drawsWithOne : (zD × Nat × Nat × Int32) → zH → Prop := fun (S, a, p, te) h => rpS S h a ∧ p < dP S ∧ vS S ∧ okH te
def cf_X6_drawsWithOne : (zD × Nat × Nat × Int32) → zH → Int32 := fun (S, a, p, te) _ => dw1 S p te (2 * zN S (dF S p) + 1)
theorem rc_X6_drawsWithOne : ∀ x : (zD × Nat × Nat × Int32), ∃ (j a : Nat) (As : List zV), ca_X6_drawsWithOne x = vR (10 + 5) j a :: As := by
  rintro ⟨S, a, p, te⟩
  exact ⟨_, _, _, rfl⟩
set_option maxHeartbeats 4000000 in
set_option maxRecDepth 100000 in
theorem m_X6_drawsWithOne : zM yX6_drawsWithOne cX6_drawsWithOne 12 (some .int) ({ frames := 1, cells := 0, slots := 0, locals := 22 } : Room) (zcI ca_X6_drawsWithOne cp_X6_drawsWithOne cf_X6_drawsWithOne) := by
  refine zM_of (by decide) ?_
  rintro X Y ⟨S, a, p, te⟩ h ⟨hS, hp, hv, hte⟩ O E hR
  obtain ⟨⟨f1, f2⟩, s1, s2⟩ := hS.2.2.2.1 p hp
  have hN := hS.1.2
  have hp28 : p < 28 := Nat.lt_of_lt_of_le hp hS.2.1.2
  have n1 := (hS.2.2.1 _ f2).2.2
  have n2 := (hS.2.2.1 _ s2).2.2
  obtain ⟨-, c1, c2⟩ := spd_i hv f2 hte
  obtain ⟨-, -, z1, z2⟩ := hv.1 _ f2
  have hz : ((zN S (dF S p) : Nat) : Int) = (dZ S (dF S p)).toInt := by unfold zN; omega
  have ei : ∀ i : Nat, i ≤ 2 * zN S (dF S p) + 1 → (spd S (dF S p) te - dZ S (dF S p) + nI i).toInt = (spd S (dF S p) te).toInt - (dZ S (dF S p)).toInt + i := by
    intro i hi
    have q1 : (spd S (dF S p) te - dZ S (dF S p)).toInt = (spd S (dF S p) te).toInt - (dZ S (dF S p)).toInt := fb_subI (by omega) (by omega)
    rw [fb_addI (by rw [q1, nI_toInt (by omega)]; omega) (by rw [q1, nI_toInt (by omega)]; omega), q1, nI_toInt (by omega)]
  have ee : (spd S (dF S p) te + dZ S (dF S p)).toInt = (spd S (dF S p) te).toInt + (dZ S (dF S p)).toInt := fb_addI (by omega) (by omega)
  have B_126 := zr_iload (X := X) (Y := Y) (u := 0) (v := 0) O dX6_drawsWithOne_126 (zr_ireturn O E (Nat.le_refl _) (Nat.le_refl _) dX6_drawsWithOne_128)
  have L_80 : ∀ nn : Nat, zSd X Y 0 0 80 ((fun c ls st h1 => ∃ (i : Nat) (y z : Int32) (w : Option zV), c = (2 * zN S (dF S p) + 1) - i ∧ i ≤ 2 * zN S (dF S p) + 1 ∧ ls = [some (vR 15 0 a), some (vI (nI p)), some (vI te), some (vI (h.1 (a + 4) p)), some (vI (h.1 (a + 5) p)), some (vI (spd S (dF S p) te)), some (vI (spd S (dS S p) te - h.1 (a + 3) (dS S p))), some (vI (2 * h.1 (a + 3) (dS S p) + 1)), some (vI (if dF S p < dS S p then 1 else 0)), some (vI y), some (vI z), w] ∧ y = dw1 S p te i ∧ z = spd S (dF S p) te - dZ S (dF S p) + nI i ∧ st = [] ∧ h = h1 : Nat → zT) nn) := by
    refine zSd_loop (fun nn ih => ?_)
    have B_80 := zr_iload (X := X) (Y := Y) (u := 0) (v := 0) O dX6_drawsWithOne_80 (zr_iload O dX6_drawsWithOne_82 (zr_aload_n O dX6_drawsWithOne_84 rfl (zr_gS (ci := 5) (j := 3) (off := 3) (t := 1) (n := 10) O zc_5 (by decide) rfl tw_52 dX6_drawsWithOne_85 (zr_iload_n O dX6_drawsWithOne_88 rfl (zr_iald O dX6_drawsWithOne_89 (zr_iadd O dX6_drawsWithOne_90 (zr_icgt (tgt := 126) O dX6_drawsWithOne_91 rfl B_126 (zr_iload O dX6_drawsWithOne_94 (zr_iload O dX6_drawsWithOne_96 (zr_isub O dX6_drawsWithOne_98 (zr_iload O dX6_drawsWithOne_99 (zr_iadd O dX6_drawsWithOne_101 (zr_istore O dX6_drawsWithOne_102 (zr_iload O dX6_drawsWithOne_104 (zr_iconst (x := 0) O dX6_drawsWithOne_106 rfl (zr_iload O dX6_drawsWithOne_107 (zr_iload O dX6_drawsWithOne_109 (zr_min O zwm tw_444 (zrm hR rfl rfl) dX6_drawsWithOne_111 (zr_max O zwm tw_969 (zrm hR rfl rfl) dX6_drawsWithOne_114 (zr_iadd O dX6_drawsWithOne_117 (zr_istore O dX6_drawsWithOne_118 (zr_iinc (c := 1) O dX6_drawsWithOne_120 rfl (zr_goto (tgt := 80) O dX6_drawsWithOne_123 rfl ih)))))))))))))))))))))))
    refine zSd_weak B_80 (fun ls st h1 t => ?_)
    obtain ⟨i, y, z, w, rfl, hi, rfl, rfl, rfl, rfl, rfl⟩ := t
    refine ⟨dF S p, f1, by omega, fun cq => ⟨zri ?_, rfl⟩, fun cq => ?_⟩
    · rw [n1, fa_lt, ei i hi, ee] at cq
      rw [show i = 2 * zN S (dF S p) + 1 by omega]
      rfl
    · rw [n1, fa_lt, ei i hi, ee] at cq
      refine ⟨2 * zN S (dF S p) + 1 - (i + 1), by omega, i + 1, _, _, _, rfl, by omega, rfl, ?_, by rw [Int32.add_assoc, nI_1], rfl, rfl⟩
      rw [n2]
      rfl
  have B_80 := zSd_any L_80
  have B_64 := zr_istore (X := X) (Y := Y) (u := 0) (v := 0) O dX6_drawsWithOne_64 (zr_iconst (x := 0) O dX6_drawsWithOne_66 rfl (zr_istore O dX6_drawsWithOne_67 (zr_iload O dX6_drawsWithOne_69 (zr_aload_n O dX6_drawsWithOne_71 rfl (zr_gS (ci := 5) (j := 3) (off := 3) (t := 1) (n := 10) O zc_5 (by decide) rfl tw_52 dX6_drawsWithOne_72 (zr_iload_n O dX6_drawsWithOne_75 rfl (zr_iald O dX6_drawsWithOne_76 (zr_isub O dX6_drawsWithOne_77 (zr_istore O dX6_drawsWithOne_78 (B_80))))))))))
  have B_63 := zr_iconst (X := X) (Y := Y) (u := 0) (v := 0) (x := 0) O dX6_drawsWithOne_63 rfl (B_64)
  have B_0 := zr_aload_n (X := X) (Y := Y) (u := 0) (v := 0) O dX6_drawsWithOne_0 rfl (zr_gS (ci := 5) (j := 5) (off := 4) (t := 1) (n := 28) O zc_5 (by decide) rfl tw_59 dX6_drawsWithOne_1 (zr_iload_n O dX6_drawsWithOne_4 rfl (zr_iald O dX6_drawsWithOne_5 (zr_istore_n O dX6_drawsWithOne_6 rfl (zr_aload_n O dX6_drawsWithOne_7 rfl (zr_gS (ci := 5) (j := 6) (off := 5) (t := 1) (n := 28) O zc_5 (by decide) rfl tw_66 dX6_drawsWithOne_8 (zr_iload_n O dX6_drawsWithOne_11 rfl (zr_iald O dX6_drawsWithOne_12 (zr_istore O dX6_drawsWithOne_13 (zr_aload_n O dX6_drawsWithOne_15 rfl (zr_iload_n O dX6_drawsWithOne_16 rfl (zr_iload_n O dX6_drawsWithOne_17 rfl (zr_cI (zr_cV (ci := 5) (n := 2) O m_X6_speedOf (bn_X6_speedOf _ ⟨rfl, rfl⟩) vw_X6_speedOf tw_440 rc_X6_speedOf (zrm hR rfl rfl) dX6_drawsWithOne_18 (zr_istore O dX6_drawsWithOne_21 (zr_aload_n O dX6_drawsWithOne_23 rfl (zr_iload O dX6_drawsWithOne_24 (zr_iload_n O dX6_drawsWithOne_26 rfl (zr_cI (zr_cV (ci := 5) (n := 2) O m_X6_speedOf (bn_X6_speedOf _ ⟨rfl, rfl⟩) vw_X6_speedOf tw_440 rc_X6_speedOf (zrm hR rfl rfl) dX6_drawsWithOne_27 (zr_aload_n O dX6_drawsWithOne_30 rfl (zr_gS (ci := 5) (j := 3) (off := 3) (t := 1) (n := 10) O zc_5 (by decide) rfl tw_52 dX6_drawsWithOne_31 (zr_iload O dX6_drawsWithOne_34 (zr_iald O dX6_drawsWithOne_36 (zr_isub O dX6_drawsWithOne_37 (zr_istore O dX6_drawsWithOne_38 (zr_iconst (x := 2) O dX6_drawsWithOne_40 rfl (zr_aload_n O dX6_drawsWithOne_41 rfl (zr_gS (ci := 5) (j := 3) (off := 3) (t := 1) (n := 10) O zc_5 (by decide) rfl tw_52 dX6_drawsWithOne_42 (zr_iload O dX6_drawsWithOne_45 (zr_iald O dX6_drawsWithOne_47 (zr_imul O dX6_drawsWithOne_48 (zr_iconst (x := 1) O dX6_drawsWithOne_49 rfl (zr_iadd O dX6_drawsWithOne_50 (zr_istore O dX6_drawsWithOne_51 (zr_iload_n O dX6_drawsWithOne_53 rfl (zr_iload O dX6_drawsWithOne_54 (zr_icge (tgt := 63) O dX6_drawsWithOne_56 rfl B_63 (zr_iconst (x := 1) O dX6_drawsWithOne_59 rfl (zr_goto (tgt := 64) O dX6_drawsWithOne_60 rfl B_64))))))))))))))))))))))))))))))))))))))))
  refine ⟨rfl, Nat.le_of_ble_eq_true rfl, _, B_0, ?_⟩
  refine ⟨p, rfl, hp28, p, rfl, hp28, (S, a, dF S p, te), congrArg (fun z => [vR 15 0 a, vI z, vI te]) f1, ⟨hS, f2⟩, (S, a, dS S p, te), congrArg (fun z => [vR 15 0 a, vI z, vI te]) s1, ⟨hS, s2⟩, dS S p, s1, by omega, dS S p, s1, by omega, fun cq => ?_, fun cq => ?_⟩
  · rw [f1, s1] at cq
    have hlt : ¬ dF S p < dS S p := by have := (nI_leI (by omega) (by omega)).mp cq; omega
    refine ⟨dF S p, f1, by omega, 2 * zN S (dF S p) + 1 - 0, 0, _, _, _, rfl, Nat.zero_le _, by rw [if_neg hlt]; rfl, rfl, ?_, rfl, rfl⟩
    rw [n1, nI_0, Int32.add_zero]
    rfl
  · rw [f1, s1] at cq
    have hlt : dF S p < dS S p := Nat.not_le.mp (fun z => cq ((nI_leI (by omega) (by omega)).mpr z))
    refine ⟨dF S p, f1, by omega, 2 * zN S (dF S p) + 1 - 0, 0, _, _, _, rfl, Nat.zero_le _, by rw [if_pos hlt]; rfl, rfl, ?_, rfl, rfl⟩
    rw [n1, nI_0, Int32.add_zero]
    rfl

