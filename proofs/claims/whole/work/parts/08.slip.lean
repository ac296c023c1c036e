theorem dX6_marginOf_98 : decode cX6_marginOf 98 = .ok (.iload 5, 2) := by decide +kernel
theorem dX6_marginOf_100 : decode cX6_marginOf 100 = .ok (.aload_n 0, 1) := by decide +kernel
theorem dX6_marginOf_101 : decode cX6_marginOf 101 = .ok (.getfield 18, 3) := by decide +kernel
theorem dX6_marginOf_104 : decode cX6_marginOf 104 = .ok (.iload_n 2, 1) := by decide +kernel
theorem dX6_marginOf_105 : decode cX6_marginOf 105 = .ok (.iaload, 1) := by decide +kernel
theorem dX6_marginOf_106 : decode cX6_marginOf 106 = .ok (.isub, 1) := by decide +kernel
theorem dX6_marginOf_107 : decode cX6_marginOf 107 = .ok (.aload_n 0, 1) := by decide +kernel
theorem dX6_marginOf_108 : decode cX6_marginOf 108 = .ok (.getfield 18, 3) := by decide +kernel
theorem dX6_marginOf_111 : decode cX6_marginOf 111 = .ok (.iload_n 3, 1) := by decide +kernel
theorem dX6_marginOf_112 : decode cX6_marginOf 112 = .ok (.iaload, 1) := by decide +kernel
theorem dX6_marginOf_113 : decode cX6_marginOf 113 = .ok (.isub, 1) := by decide +kernel
theorem dX6_marginOf_114 : decode cX6_marginOf 114 = .ok (.ireturn, 1) := by decide +kernel
theorem dX6_marginOf_56 : decode cX6_marginOf 56 = .ok (.iload 6, 2) := by decide +kernel
theorem dX6_marginOf_58 : decode cX6_marginOf 58 = .ok (.aload_n 0, 1) := by decide +kernel
theorem dX6_marginOf_59 : decode cX6_marginOf 59 = .ok (.getfield 27, 3) := by decide +kernel
theorem dX6_marginOf_62 : decode cX6_marginOf 62 = .ok (.iconst 2, 1) := by decide +kernel
theorem dX6_marginOf_63 : decode cX6_marginOf 63 = .ok (.iaload, 1) := by decide +kernel
theorem dX6_marginOf_64 : decode cX6_marginOf 64 = .ok (.if_icmp .gt 34, 3) := by decide +kernel
theorem dX6_marginOf_67 : decode cX6_marginOf 67 = .ok (.iload 5, 2) := by decide +kernel
theorem dX6_marginOf_69 : decode cX6_marginOf 69 = .ok (.iload 4, 2) := by decide +kernel
theorem dX6_marginOf_71 : decode cX6_marginOf 71 = .ok (.aload_n 0, 1) := by decide +kernel
theorem dX6_marginOf_72 : decode cX6_marginOf 72 = .ok (.iload_n 2, 1) := by decide +kernel
theorem dX6_marginOf_73 : decode cX6_marginOf 73 = .ok (.iload 6, 2) := by decide +kernel
theorem dX6_marginOf_75 : decode cX6_marginOf 75 = .ok (.invokevirtual 43, 3) := by decide +kernel
theorem dX6_marginOf_78 : decode cX6_marginOf 78 = .ok (.aload_n 0, 1) := by decide +kernel
theorem dX6_marginOf_79 : decode cX6_marginOf 79 = .ok (.iload_n 3, 1) := by decide +kernel
theorem dX6_marginOf_80 : decode cX6_marginOf 80 = .ok (.iload 6, 2) := by decide +kernel
theorem dX6_marginOf_82 : decode cX6_marginOf 82 = .ok (.invokevirtual 43, 3) := by decide +kernel
theorem dX6_marginOf_85 : decode cX6_marginOf 85 = .ok (.isub, 1) := by decide +kernel
theorem dX6_marginOf_86 : decode cX6_marginOf 86 = .ok (.imul, 1) := by decide +kernel
theorem dX6_marginOf_87 : decode cX6_marginOf 87 = .ok (.invokestatic 55, 3) := by decide +kernel
theorem dX6_marginOf_90 : decode cX6_marginOf 90 = .ok (.istore 5, 2) := by decide +kernel
theorem dX6_marginOf_92 : decode cX6_marginOf 92 = .ok (.iinc 6 1, 3) := by decide +kernel
theorem dX6_marginOf_95 : decode cX6_marginOf 95 = .ok (.goto (-39), 3) := by decide +kernel
theorem dX6_marginOf_28 : decode cX6_marginOf 28 = .ok (.istore 4, 2) := by decide +kernel
theorem dX6_marginOf_30 : decode cX6_marginOf 30 = .ok (.iload 4, 2) := by decide +kernel
theorem dX6_marginOf_32 : decode cX6_marginOf 32 = .ok (.aload_n 0, 1) := by decide +kernel
theorem dX6_marginOf_33 : decode cX6_marginOf 33 = .ok (.getfield 9, 3) := by decide +kernel
theorem dX6_marginOf_36 : decode cX6_marginOf 36 = .ok (.iload_n 2, 1) := by decide +kernel
theorem dX6_marginOf_37 : decode cX6_marginOf 37 = .ok (.iaload, 1) := by decide +kernel
theorem dX6_marginOf_38 : decode cX6_marginOf 38 = .ok (.aload_n 0, 1) := by decide +kernel
theorem dX6_marginOf_39 : decode cX6_marginOf 39 = .ok (.getfield 9, 3) := by decide +kernel
theorem dX6_marginOf_42 : decode cX6_marginOf 42 = .ok (.iload_n 3, 1) := by decide +kernel
theorem dX6_marginOf_43 : decode cX6_marginOf 43 = .ok (.iaload, 1) := by decide +kernel
theorem dX6_marginOf_44 : decode cX6_marginOf 44 = .ok (.isub, 1) := by decide +kernel
theorem dX6_marginOf_45 : decode cX6_marginOf 45 = .ok (.imul, 1) := by decide +kernel
theorem dX6_marginOf_46 : decode cX6_marginOf 46 = .ok (.istore 5, 2) := by decide +kernel
theorem dX6_marginOf_48 : decode cX6_marginOf 48 = .ok (.aload_n 0, 1) := by decide +kernel
theorem dX6_marginOf_49 : decode cX6_marginOf 49 = .ok (.getfield 27, 3) := by decide +kernel
theorem dX6_marginOf_52 : decode cX6_marginOf 52 = .ok (.iconst 1, 1) := by decide +kernel
theorem dX6_marginOf_53 : decode cX6_marginOf 53 = .ok (.iaload, 1) := by decide +kernel
theorem dX6_marginOf_54 : decode cX6_marginOf 54 = .ok (.istore 6, 2) := by decide +kernel
theorem dX6_marginOf_27 : decode cX6_marginOf 27 = .ok (.iconst (-1), 1) := by decide +kernel
theorem dX6_marginOf_0 : decode cX6_marginOf 0 = .ok (.aload_n 0, 1) := by decide +kernel
theorem dX6_marginOf_1 : decode cX6_marginOf 1 = .ok (.getfield 21, 3) := by decide +kernel
theorem dX6_marginOf_4 : decode cX6_marginOf 4 = .ok (.iload_n 1, 1) := by decide +kernel
theorem dX6_marginOf_5 : decode cX6_marginOf 5 = .ok (.iaload, 1) := by decide +kernel
theorem dX6_marginOf_6 : decode cX6_marginOf 6 = .ok (.istore_n 2, 1) := by decide +kernel
theorem dX6_marginOf_7 : decode cX6_marginOf 7 = .ok (.aload_n 0, 1) := by decide +kernel
theorem dX6_marginOf_8 : decode cX6_marginOf 8 = .ok (.getfield 24, 3) := by decide +kernel
theorem dX6_marginOf_11 : decode cX6_marginOf 11 = .ok (.iload_n 1, 1) := by decide +kernel
theorem dX6_marginOf_12 : decode cX6_marginOf 12 = .ok (.iaload, 1) := by decide +kernel
theorem dX6_marginOf_13 : decode cX6_marginOf 13 = .ok (.istore_n 3, 1) := by decide +kernel
theorem dX6_marginOf_14 : decode cX6_marginOf 14 = .ok (.aload_n 0, 1) := by decide +kernel
theorem dX6_marginOf_15 : decode cX6_marginOf 15 = .ok (.iload_n 1, 1) := by decide +kernel
theorem dX6_marginOf_16 : decode cX6_marginOf 16 = .ok (.invokevirtual 51, 3) := by decide +kernel
theorem dX6_marginOf_19 : decode cX6_marginOf 19 = .ok (.iconst 1, 1) := by decide +kernel
theorem dX6_marginOf_20 : decode cX6_marginOf 20 = .ok (.if_icmp .ne 7, 3) := by decide +kernel
theorem dX6_marginOf_23 : decode cX6_marginOf 23 = .ok (.iconst 1, 1) := by decide +kernel
theorem dX6_marginOf_24 : decode cX6_marginOf 24 = .ok (.goto 4, 3) := by decide +kernel
theorem dX6_pairsWith_46 : decode cX6_pairsWith 46 = .ok (.iload_n 2, 1) := by decide +kernel
theorem dX6_pairsWith_47 : decode cX6_pairsWith 47 = .ok (.ireturn, 1) := by decide +kernel
theorem dX6_pairsWith_38 : decode cX6_pairsWith 38 = .ok (.iadd, 1) := by decide +kernel
theorem dX6_pairsWith_39 : decode cX6_pairsWith 39 = .ok (.istore_n 2, 1) := by decide +kernel
theorem dX6_pairsWith_40 : decode cX6_pairsWith 40 = .ok (.iinc 3 1, 3) := by decide +kernel
theorem dX6_pairsWith_43 : decode cX6_pairsWith 43 = .ok (.goto (-39), 3) := by decide +kernel
theorem dX6_pairsWith_37 : decode cX6_pairsWith 37 = .ok (.iconst 0, 1) := by decide +kernel
theorem dX6_pairsWith_33 : decode cX6_pairsWith 33 = .ok (.iconst 1, 1) := by decide +kernel
theorem dX6_pairsWith_34 : decode cX6_pairsWith 34 = .ok (.goto 4, 3) := by decide +kernel
theorem dX6_pairsWith_4 : decode cX6_pairsWith 4 = .ok (.iload_n 3, 1) := by decide +kernel
theorem dX6_pairsWith_5 : decode cX6_pairsWith 5 = .ok (.aload_n 0, 1) := by decide +kernel
theorem dX6_pairsWith_6 : decode cX6_pairsWith 6 = .ok (.getfield 34, 3) := by decide +kernel
theorem dX6_pairsWith_9 : decode cX6_pairsWith 9 = .ok (.if_icmp .ge 37, 3) := by decide +kernel
theorem dX6_pairsWith_12 : decode cX6_pairsWith 12 = .ok (.iload_n 2, 1) := by decide +kernel
theorem dX6_pairsWith_13 : decode cX6_pairsWith 13 = .ok (.aload_n 0, 1) := by decide +kernel
theorem dX6_pairsWith_14 : decode cX6_pairsWith 14 = .ok (.getfield 21, 3) := by decide +kernel
theorem dX6_pairsWith_17 : decode cX6_pairsWith 17 = .ok (.iload_n 3, 1) := by decide +kernel
theorem dX6_pairsWith_18 : decode cX6_pairsWith 18 = .ok (.iaload, 1) := by decide +kernel
theorem dX6_pairsWith_19 : decode cX6_pairsWith 19 = .ok (.iload_n 1, 1) := by decide +kernel
theorem dX6_pairsWith_20 : decode cX6_pairsWith 20 = .ok (.if_icmp .eq 13, 3) := by decide +kernel
theorem dX6_pairsWith_23 : decode cX6_pairsWith 23 = .ok (.aload_n 0, 1) := by decide +kernel
theorem dX6_pairsWith_24 : decode cX6_pairsWith 24 = .ok (.getfield 24, 3) := by decide +kernel
theorem dX6_pairsWith_27 : decode cX6_pairsWith 27 = .ok (.iload_n 3, 1) := by decide +kernel
theorem dX6_pairsWith_28 : decode cX6_pairsWith 28 = .ok (.iaload, 1) := by decide +kernel
theorem dX6_pairsWith_29 : decode cX6_pairsWith 29 = .ok (.iload_n 1, 1) := by decide +kernel
theorem dX6_pairsWith_30 : decode cX6_pairsWith 30 = .ok (.if_icmp .ne 7, 3) := by decide +kernel
theorem dX6_pairsWith_0 : decode cX6_pairsWith 0 = .ok (.iconst 0, 1) := by decide +kernel
theorem dX6_pairsWith_1 : decode cX6_pairsWith 1 = .ok (.istore_n 2, 1) := by decide +kernel
theorem dX6_pairsWith_2 : decode cX6_pairsWith 2 = .ok (.iconst 0, 1) := by decide +kernel
theorem dX6_pairsWith_3 : decode cX6_pairsWith 3 = .ok (.istore_n 3, 1) := by decide +kernel
theorem dX6_ringsAheadOf_65 : decode cX6_ringsAheadOf 65 = .ok (.iload 4, 2) := by decide +kernel
theorem dX6_ringsAheadOf_67 : decode cX6_ringsAheadOf 67 = .ok (.ireturn, 1) := by decide +kernel
theorem dX6_ringsAheadOf_56 : decode cX6_ringsAheadOf 56 = .ok (.iadd, 1) := by decide +kernel
theorem dX6_ringsAheadOf_57 : decode cX6_ringsAheadOf 57 = .ok (.istore 4, 2) := by decide +kernel
theorem dX6_ringsAheadOf_59 : decode cX6_ringsAheadOf 59 = .ok (.iinc 5 1, 3) := by decide +kernel
theorem dX6_ringsAheadOf_62 : decode cX6_ringsAheadOf 62 = .ok (.goto (-49), 3) := by decide +kernel
theorem dX6_ringsAheadOf_55 : decode cX6_ringsAheadOf 55 = .ok (.iconst 0, 1) := by decide +kernel
theorem dX6_ringsAheadOf_51 : decode cX6_ringsAheadOf 51 = .ok (.iconst 1, 1) := by decide +kernel
theorem dX6_ringsAheadOf_52 : decode cX6_ringsAheadOf 52 = .ok (.goto 4, 3) := by decide +kernel
theorem dX6_ringsAheadOf_13 : decode cX6_ringsAheadOf 13 = .ok (.iload 5, 2) := by decide +kernel
theorem dX6_ringsAheadOf_15 : decode cX6_ringsAheadOf 15 = .ok (.aload_n 0, 1) := by decide +kernel
theorem dX6_ringsAheadOf_16 : decode cX6_ringsAheadOf 16 = .ok (.getfield 30, 3) := by decide +kernel
theorem dX6_ringsAheadOf_19 : decode cX6_ringsAheadOf 19 = .ok (.if_icmp .ge 46, 3) := by decide +kernel
theorem dX6_ringsAheadOf_22 : decode cX6_ringsAheadOf 22 = .ok (.aload_n 0, 1) := by decide +kernel
theorem dX6_ringsAheadOf_23 : decode cX6_ringsAheadOf 23 = .ok (.iload 5, 2) := by decide +kernel
theorem dX6_ringsAheadOf_25 : decode cX6_ringsAheadOf 25 = .ok (.iload_n 2, 1) := by decide +kernel
theorem dX6_ringsAheadOf_26 : decode cX6_ringsAheadOf 26 = .ok (.invokevirtual 43, 3) := by decide +kernel
theorem dX6_ringsAheadOf_29 : decode cX6_ringsAheadOf 29 = .ok (.istore 6, 2) := by decide +kernel
theorem dX6_ringsAheadOf_31 : decode cX6_ringsAheadOf 31 = .ok (.iload 4, 2) := by decide +kernel
theorem dX6_ringsAheadOf_33 : decode cX6_ringsAheadOf 33 = .ok (.iload 6, 2) := by decide +kernel
theorem dX6_ringsAheadOf_35 : decode cX6_ringsAheadOf 35 = .ok (.iload_n 3, 1) := by decide +kernel
theorem dX6_ringsAheadOf_36 : decode cX6_ringsAheadOf 36 = .ok (.if_icmp .gt 15, 3) := by decide +kernel
theorem dX6_ringsAheadOf_39 : decode cX6_ringsAheadOf 39 = .ok (.iload 6, 2) := by decide +kernel
theorem dX6_ringsAheadOf_41 : decode cX6_ringsAheadOf 41 = .ok (.iload_n 3, 1) := by decide +kernel
theorem dX6_ringsAheadOf_42 : decode cX6_ringsAheadOf 42 = .ok (.if_icmp .ne 13, 3) := by decide +kernel
theorem dX6_ringsAheadOf_45 : decode cX6_ringsAheadOf 45 = .ok (.iload 5, 2) := by decide +kernel
theorem dX6_ringsAheadOf_47 : decode cX6_ringsAheadOf 47 = .ok (.iload_n 1, 1) := by decide +kernel
theorem dX6_ringsAheadOf_48 : decode cX6_ringsAheadOf 48 = .ok (.if_icmp .ge 7, 3) := by decide +kernel
theorem dX6_ringsAheadOf_0 : decode cX6_ringsAheadOf 0 = .ok (.aload_n 0, 1) := by decide +kernel
theorem dX6_ringsAheadOf_1 : decode cX6_ringsAheadOf 1 = .ok (.iload_n 1, 1) := by decide +kernel
theorem dX6_ringsAheadOf_2 : decode cX6_ringsAheadOf 2 = .ok (.iload_n 2, 1) := by decide +kernel
theorem dX6_ringsAheadOf_3 : decode cX6_ringsAheadOf 3 = .ok (.invokevirtual 43, 3) := by decide +kernel
theorem dX6_ringsAheadOf_6 : decode cX6_ringsAheadOf 6 = .ok (.istore_n 3, 1) := by decide +kernel
theorem dX6_ringsAheadOf_7 : decode cX6_ringsAheadOf 7 = .ok (.iconst 0, 1) := by decide +kernel
theorem dX6_ringsAheadOf_8 : decode cX6_ringsAheadOf 8 = .ok (.istore 4, 2) := by decide +kernel
theorem dX6_ringsAheadOf_10 : decode cX6_ringsAheadOf 10 = .ok (.iconst 0, 1) := by decide +kernel
theorem dX6_ringsAheadOf_11 : decode cX6_ringsAheadOf 11 = .ok (.istore 5, 2) := by decide +kernel
theorem dX6_allPairs_0 : decode cX6_allPairs 0 = .ok (.iconst 1, 1) := by decide +kernel
theorem dX6_allPairs_1 : decode cX6_allPairs 1 = .ok (.aload_n 0, 1) := by decide +kernel
theorem dX6_allPairs_2 : decode cX6_allPairs 2 = .ok (.getfield 34, 3) := by decide +kernel
theorem dX6_allPairs_5 : decode cX6_allPairs 5 = .ok (.ishl, 1) := by decide +kernel
theorem dX6_allPairs_6 : decode cX6_allPairs 6 = .ok (.iconst 1, 1) := by decide +kernel
theorem dX6_allPairs_7 : decode cX6_allPairs 7 = .ok (.isub, 1) := by decide +kernel
theorem dX6_allPairs_8 : decode cX6_allPairs 8 = .ok (.ireturn, 1) := by decide +kernel
theorem dX6_steadyPairs_42 : decode cX6_steadyPairs 42 = .ok (.iload_n 1, 1) := by decide +kernel
theorem dX6_steadyPairs_43 : decode cX6_steadyPairs 43 = .ok (.ireturn, 1) := by decide +kernel
theorem dX6_steadyPairs_34 : decode cX6_steadyPairs 34 = .ok (.ior, 1) := by decide +kernel
theorem dX6_steadyPairs_35 : decode cX6_steadyPairs 35 = .ok (.istore_n 1, 1) := by decide +kernel
theorem dX6_steadyPairs_36 : decode cX6_steadyPairs 36 = .ok (.iinc 2 1, 3) := by decide +kernel
theorem dX6_steadyPairs_39 : decode cX6_steadyPairs 39 = .ok (.goto (-35), 3) := by decide +kernel
theorem dX6_steadyPairs_33 : decode cX6_steadyPairs 33 = .ok (.iconst 0, 1) := by decide +kernel
theorem dX6_steadyPairs_4 : decode cX6_steadyPairs 4 = .ok (.iload_n 2, 1) := by decide +kernel
theorem dX6_steadyPairs_5 : decode cX6_steadyPairs 5 = .ok (.aload_n 0, 1) := by decide +kernel
theorem dX6_steadyPairs_6 : decode cX6_steadyPairs 6 = .ok (.getfield 34, 3) := by decide +kernel
theorem dX6_steadyPairs_9 : decode cX6_steadyPairs 9 = .ok (.if_icmp .ge 33, 3) := by decide +kernel
theorem dX6_steadyPairs_12 : decode cX6_steadyPairs 12 = .ok (.iload_n 1, 1) := by decide +kernel
theorem dX6_steadyPairs_13 : decode cX6_steadyPairs 13 = .ok (.aload_n 0, 1) := by decide +kernel
theorem dX6_steadyPairs_14 : decode cX6_steadyPairs 14 = .ok (.iload_n 2, 1) := by decide +kernel
theorem dX6_steadyPairs_15 : decode cX6_steadyPairs 15 = .ok (.invokevirtual 60, 3) := by decide +kernel
theorem dX6_steadyPairs_18 : decode cX6_steadyPairs 18 = .ok (.aload_n 0, 1) := by decide +kernel
theorem dX6_steadyPairs_19 : decode cX6_steadyPairs 19 = .ok (.getfield 27, 3) := by decide +kernel
theorem dX6_steadyPairs_22 : decode cX6_steadyPairs 22 = .ok (.iconst 0, 1) := by decide +kernel
theorem dX6_steadyPairs_23 : decode cX6_steadyPairs 23 = .ok (.iaload, 1) := by decide +kernel
theorem dX6_steadyPairs_24 : decode cX6_steadyPairs 24 = .ok (.if_icmp .le 9, 3) := by decide +kernel
theorem dX6_steadyPairs_27 : decode cX6_steadyPairs 27 = .ok (.iconst 1, 1) := by decide +kernel
theorem dX6_steadyPairs_28 : decode cX6_steadyPairs 28 = .ok (.iload_n 2, 1) := by decide +kernel
theorem dX6_steadyPairs_29 : decode cX6_steadyPairs 29 = .ok (.ishl, 1) := by decide +kernel
theorem dX6_steadyPairs_30 : decode cX6_steadyPairs 30 = .ok (.goto 4, 3) := by decide +kernel
theorem dX6_steadyPairs_0 : decode cX6_steadyPairs 0 = .ok (.iconst 0, 1) := by decide +kernel
theorem dX6_steadyPairs_1 : decode cX6_steadyPairs 1 = .ok (.istore_n 1, 1) := by decide +kernel
theorem dX6_steadyPairs_2 : decode cX6_steadyPairs 2 = .ok (.iconst 0, 1) := by decide +kernel
theorem dX6_steadyPairs_3 : decode cX6_steadyPairs 3 = .ok (.istore_n 2, 1) := by decide +kernel
theorem dX6_usedPairs_21 : decode cX6_usedPairs 21 = .ok (.ireturn, 1) := by decide +kernel
theorem dX6_usedPairs_17 : decode cX6_usedPairs 17 = .ok (.aload_n 0, 1) := by decide +kernel
theorem dX6_usedPairs_18 : decode cX6_usedPairs 18 = .ok (.invokevirtual 67, 3) := by decide +kernel
theorem dX6_usedPairs_0 : decode cX6_usedPairs 0 = .ok (.aload_n 0, 1) := by decide +kernel
theorem dX6_usedPairs_1 : decode cX6_usedPairs 1 = .ok (.getfield 27, 3) := by decide +kernel
theorem dX6_usedPairs_4 : decode cX6_usedPairs 4 = .ok (.iconst 3, 1) := by decide +kernel
theorem dX6_usedPairs_5 : decode cX6_usedPairs 5 = .ok (.iaload, 1) := by decide +kernel
theorem dX6_usedPairs_6 : decode cX6_usedPairs 6 = .ok (.iconst 1, 1) := by decide +kernel
theorem dX6_usedPairs_7 : decode cX6_usedPairs 7 = .ok (.if_icmp .ne 10, 3) := by decide +kernel
theorem dX6_usedPairs_10 : decode cX6_usedPairs 10 = .ok (.aload_n 0, 1) := by decide +kernel
theorem dX6_usedPairs_11 : decode cX6_usedPairs 11 = .ok (.invokevirtual 63, 3) := by decide +kernel
theorem dX6_usedPairs_14 : decode cX6_usedPairs 14 = .ok (.goto 7, 3) := by decide +kernel
theorem dX6_blockCount_0 : decode cX6_blockCount 0 = .ok (.iload_n 1, 1) := by decide +kernel
theorem dX6_blockCount_1 : decode cX6_blockCount 1 = .ok (.invokestatic 70, 3) := by decide +kernel
theorem dX6_blockCount_4 : decode cX6_blockCount 4 = .ok (.aload_n 0, 1) := by decide +kernel
theorem dX6_blockCount_5 : decode cX6_blockCount 5 = .ok (.getfield 27, 3) := by decide +kernel
theorem dX6_blockCount_8 : decode cX6_blockCount 8 = .ok (.iconst 4, 1) := by decide +kernel
theorem dX6_blockCount_9 : decode cX6_blockCount 9 = .ok (.iaload, 1) := by decide +kernel
theorem dX6_blockCount_10 : decode cX6_blockCount 10 = .ok (.invokestatic 75, 3) := by decide +kernel
theorem dX6_blockCount_13 : decode cX6_blockCount 13 = .ok (.idiv, 1) := by decide +kernel
theorem dX6_blockCount_14 : decode cX6_blockCount 14 = .ok (.istore_n 2, 1) := by decide +kernel
theorem dX6_blockCount_15 : decode cX6_blockCount 15 = .ok (.iload_n 2, 1) := by decide +kernel
theorem dX6_blockCount_16 : decode cX6_blockCount 16 = .ok (.bipush 16, 2) := by decide +kernel
theorem dX6_blockCount_18 : decode cX6_blockCount 18 = .ok (.aload_n 0, 1) := by decide +kernel
theorem dX6_blockCount_19 : decode cX6_blockCount 19 = .ok (.getfield 27, 3) := by decide +kernel
theorem dX6_blockCount_22 : decode cX6_blockCount 22 = .ok (.iconst 4, 1) := by decide +kernel
theorem dX6_blockCount_23 : decode cX6_blockCount 23 = .ok (.iaload, 1) := by decide +kernel
theorem dX6_blockCount_24 : decode cX6_blockCount 24 = .ok (.invokestatic 80, 3) := by decide +kernel
theorem dX6_blockCount_27 : decode cX6_blockCount 27 = .ok (.idiv, 1) := by decide +kernel
theorem dX6_blockCount_28 : decode cX6_blockCount 28 = .ok (.invokestatic 55, 3) := by decide +kernel
theorem dX6_blockCount_31 : decode cX6_blockCount 31 = .ok (.ireturn, 1) := by decide +kernel
/-! margins, steady pairs, blocks -/
def nH (S : zD) : Nat := ((dT S 2).toInt + 1 - (dT S 1).toInt).toNat
theorem nH_le {S : zD} (hv : vS S) : nH S ≤ 166 ∧ 1 ≤ nH S := by
  obtain ⟨-, -, -, ⟨l1, l2, l3⟩, -⟩ := hv
  unfold nH; omega
theorem ht_i {S : zD} (hv : vS S) {i : Nat} (hi : i ≤ nH S) : (dT S 1 + nI i).toInt = (dT S 1).toInt + i := by
  have h6 := nH_le hv
  obtain ⟨-, -, -, ⟨l1, l2, l3⟩, -⟩ := hv
  rw [fb_addI (by rw [nI_toInt (by omega)]; omega) (by rw [nI_toInt (by omega)]; omega), nI_toInt (by omega)]
theorem ht_gt {S : zD} (hv : vS S) {i : Nat} (hi : i ≤ nH S) : dT S 2 < dT S 1 + nI i ↔ nH S ≤ i := by
  have h6 := nH_le hv
  rw [fa_lt, ht_i hv hi]
  obtain ⟨-, -, -, ⟨l1, l2, l3⟩, -⟩ := hv
  unfold nH at *; omega
def sg (S : zD) (p : Nat) : Int32 := if pb S p = 1 then 1 else -1
def mgl (S : zD) (p : Nat) : Nat → Int32
  | 0 => sg S p * (dB S (dF S p) - dB S (dS S p))
  | n + 1 => mn2 (mgl S p n) (sg S p * (spd S (dF S p) (dT S 1 + nI n) - spd S (dS S p) (dT S 1 + nI n)))
def mrg (S : zD) (p : Nat) : Int32 := mgl S p (nH S) - dZ S (dF S p) - dZ S (dS S p)
def ca_X6_marginOf : (zD × Nat × Nat) → List zV := fun (S, a, p) => [vR 15 0 a, vI (nI p)]
def cp_X6_marginOf : (zD × Nat × Nat) → zH → Prop := fun (S, a, p) h => rpS S h a ∧ p < dP S ∧ vS S
def cf_X6_marginOf : (zD × Nat × Nat) → zH → Int32 := fun (S, a, p) _ => mrg S p
theorem rc_X6_marginOf : ∀ x : (zD × Nat × Nat), ∃ (j a : Nat) (As : List zV), ca_X6_marginOf x = vR (10 + 5) j a :: As := by
  rintro ⟨S, a, p⟩
  exact ⟨_, _, _, rfl⟩
set_option maxHeartbeats 4000000 in
set_option maxRecDepth 100000 in
theorem m_X6_marginOf : zM yX6_marginOf cX6_marginOf 7 (some .int) ({ frames := 2, cells := 0, slots := 0, locals := 44 } : Room) (zcI ca_X6_marginOf cp_X6_marginOf cf_X6_marginOf) := by
  refine zM_of (by decide) ?_
  rintro X Y ⟨S, a, p⟩ h ⟨hS, hp, hv⟩ O E hR
  obtain ⟨⟨f1, f2⟩, s1, s2⟩ := hS.2.2.2.1 p hp
  have hN := hS.1.2
  have hp28 : p < 28 := Nat.lt_of_lt_of_le hp hS.2.1.2
  have B_98 := zr_iload (X := X) (Y := Y) (u := 0) (v := 0) O dX6_marginOf_98 (zr_aload_n O dX6_marginOf_100 rfl (zr_gS (ci := 5) (j := 3) (off := 3) (t := 1) (n := 10) O zc_5 (by decide) rfl tw_52 dX6_marginOf_101 (zr_iload_n O dX6_marginOf_104 rfl (zr_iald O dX6_marginOf_105 (zr_isub O dX6_marginOf_106 (zr_aload_n O dX6_marginOf_107 rfl (zr_gS (ci := 5) (j := 3) (off := 3) (t := 1) (n := 10) O zc_5 (by decide) rfl tw_52 dX6_marginOf_108 (zr_iload_n O dX6_marginOf_111 rfl (zr_iald O dX6_marginOf_112 (zr_isub O dX6_marginOf_113 (zr_ireturn O E (Nat.le_refl _) (Nat.le_refl _) dX6_marginOf_114)))))))))))
  have L_56 : ∀ nn : Nat, zSd X Y 0 0 56 ((fun k ls st h1 => ∃ (i : Nat) (y z : Int32), k = nH S - i ∧ i ≤ nH S ∧ ls = [some (vR 15 0 a), some (vI (nI p)), some (vI (h.1 (a + 4) p)), some (vI (h.1 (a + 5) p)), some (vI (sg S p)), some (vI y), some (vI z)] ∧ y = mgl S p i ∧ z = dT S 1 + nI i ∧ st = [] ∧ h = h1 : Nat → zT) nn) := by
    refine zSd_loop (fun nn ih => ?_)
    have B_56 := zr_iload (X := X) (Y := Y) (u := 0) (v := 0) O dX6_marginOf_56 (zr_aload_n O dX6_marginOf_58 rfl (zr_gS (ci := 5) (j := 7) (off := 6) (t := 1) (n := 5) O zc_5 (by decide) rfl tw_73 dX6_marginOf_59 (zr_iconst (x := 2) O dX6_marginOf_62 rfl (zr_iald O dX6_marginOf_63 (zr_icgt (tgt := 98) O dX6_marginOf_64 rfl B_98 (zr_iload O dX6_marginOf_67 (zr_iload O dX6_marginOf_69 (zr_aload_n O dX6_marginOf_71 rfl (zr_iload_n O dX6_marginOf_72 rfl (zr_iload O dX6_marginOf_73 (zr_cI (zr_cV (ci := 5) (n := 2) O m_X6_speedOf (bn_X6_speedOf _ ⟨rfl, rfl⟩) vw_X6_speedOf tw_440 rc_X6_speedOf (zrm hR rfl rfl) dX6_marginOf_75 (zr_aload_n O dX6_marginOf_78 rfl (zr_iload_n O dX6_marginOf_79 rfl (zr_iload O dX6_marginOf_80 (zr_cI (zr_cV (ci := 5) (n := 2) O m_X6_speedOf (bn_X6_speedOf _ ⟨rfl, rfl⟩) vw_X6_speedOf tw_440 rc_X6_speedOf (zrm hR rfl rfl) dX6_marginOf_82 (zr_isub O dX6_marginOf_85 (zr_imul O dX6_marginOf_86 (zr_min O zwm tw_444 (zrm hR rfl rfl) dX6_marginOf_87 (zr_istore O dX6_marginOf_90 (zr_iinc (c := 1) O dX6_marginOf_92 rfl (zr_goto (tgt := 56) O dX6_marginOf_95 rfl ih)))))))))))))))))))))))
    refine zSd_weak B_56 (fun ls st h1 t => ?_)
    obtain ⟨i, y, z, rfl, hi, rfl, rfl, rfl, rfl, rfl⟩ := t
    refine ⟨2, rfl, by decide, fun c => ?_, fun c => ?_⟩
    · rw [hS.2.2.2.2 2 (by decide)] at c
      have hi2 := (ht_gt hv hi).mp c
      refine ⟨dF S p, f1, by omega, dS S p, s1, by omega, zri ?_, rfl⟩
      rw [(hS.2.2.1 _ f2).2.2, (hS.2.2.1 _ s2).2.2, show i = nH S by omega]
      rfl
    · rw [hS.2.2.2.2 2 (by decide)] at c
      have hi2 : i < nH S := Nat.not_le.mp (fun z => c ((ht_gt hv hi).mpr z))
      exact ⟨(S, a, dF S p, _), congrArg (fun z => [vR 15 0 a, vI z, vI _]) f1, ⟨hS, f2⟩, (S, a, dS S p, _), congrArg (fun z => [vR 15 0 a, vI z, vI _]) s1, ⟨hS, s2⟩, nH S - (i + 1), by omega, i + 1, _, _, rfl, by omega, rfl, rfl, by rw [Int32.add_assoc, nI_1], rfl, rfl⟩
  have B_56 := zSd_any L_56
  have B_28 := zr_istore (X := X) (Y := Y) (u := 0) (v := 0) O dX6_marginOf_28 (zr_iload O dX6_marginOf_30 (zr_aload_n O dX6_marginOf_32 rfl (zr_gS (ci := 5) (j := 1) (off := 1) (t := 1) (n := 10) O zc_5 (by decide) rfl tw_50 dX6_marginOf_33 (zr_iload_n O dX6_marginOf_36 rfl (zr_iald O dX6_marginOf_37 (zr_aload_n O dX6_marginOf_38 rfl (zr_gS (ci := 5) (j := 1) (off := 1) (t := 1) (n := 10) O zc_5 (by decide) rfl tw_50 dX6_marginOf_39 (zr_iload_n O dX6_marginOf_42 rfl (zr_iald O dX6_marginOf_43 (zr_isub O dX6_marginOf_44 (zr_imul O dX6_marginOf_45 (zr_istore O dX6_marginOf_46 (zr_aload_n O dX6_marginOf_48 rfl (zr_gS (ci := 5) (j := 7) (off := 6) (t := 1) (n := 5) O zc_5 (by decide) rfl tw_73 dX6_marginOf_49 (zr_iconst (x := 1) O dX6_marginOf_52 rfl (zr_iald O dX6_marginOf_53 (zr_istore O dX6_marginOf_54 (B_56))))))))))))))))))
  have B_27 := zr_iconst (X := X) (Y := Y) (u := 0) (v := 0) (x := (-1)) O dX6_marginOf_27 rfl (B_28)
  have B_0 := zr_aload_n (X := X) (Y := Y) (u := 0) (v := 0) O dX6_marginOf_0 rfl (zr_gS (ci := 5) (j := 5) (off := 4) (t := 1) (n := 28) O zc_5 (by decide) rfl tw_59 dX6_marginOf_1 (zr_iload_n O dX6_marginOf_4 rfl (zr_iald O dX6_marginOf_5 (zr_istore_n O dX6_marginOf_6 rfl (zr_aload_n O dX6_marginOf_7 rfl (zr_gS (ci := 5) (j := 6) (off := 5) (t := 1) (n := 28) O zc_5 (by decide) rfl tw_66 dX6_marginOf_8 (zr_iload_n O dX6_marginOf_11 rfl (zr_iald O dX6_marginOf_12 (zr_istore_n O dX6_marginOf_13 rfl (zr_aload_n O dX6_marginOf_14 rfl (zr_iload_n O dX6_marginOf_15 rfl (zr_cI (zr_cV (ci := 5) (n := 1) O m_X6_bitOf (bn_X6_bitOf _ ⟨rfl, rfl⟩) vw_X6_bitOf tw_439 rc_X6_bitOf (zrm hR rfl rfl) dX6_marginOf_16 (zr_iconst (x := 1) O dX6_marginOf_19 rfl (zr_icne (tgt := 27) O dX6_marginOf_20 rfl B_27 (zr_iconst (x := 1) O dX6_marginOf_23 rfl (zr_goto (tgt := 28) O dX6_marginOf_24 rfl B_28)))))))))))))))))
  refine ⟨rfl, Nat.le_of_ble_eq_true rfl, _, B_0, ?_⟩
  refine ⟨p, rfl, hp28, p, rfl, hp28, (S, a, p), rfl, ⟨hS, hp⟩, zmn ?_⟩
  refine ⟨dF S p, f1, by omega, dS S p, s1, by omega, 1, rfl, by decide, nH S - 0, 0, _, _, rfl, Nat.zero_le _, rfl, ?_, ?_, rfl, rfl⟩
  · rw [(hS.2.2.1 _ f2).1, (hS.2.2.1 _ s2).1]
    rfl
  · rw [hS.2.2.2.2 1 (by decide), nI_0, Int32.add_zero]
/-- in how many pairs a ring is -/
def pwr (S : zD) (r : Nat) : Nat := fb_ct (fun i => decide (dF S i = r ∨ dS S i = r)) (dP S)
def ca_X6_pairsWith : (zD × Nat × Nat) → List zV := fun (S, a, r) => [vR 15 0 a, vI (nI r)]
def cp_X6_pairsWith : (zD × Nat × Nat) → zH → Prop := fun (S, a, r) h => rpS S h a ∧ r < 10
def cf_X6_pairsWith : (zD × Nat × Nat) → zH → Int32 := fun (S, a, r) _ => nI (pwr S r)
theorem rc_X6_pairsWith : ∀ x : (zD × Nat × Nat), ∃ (j a : Nat) (As : List zV), ca_X6_pairsWith x = vR (10 + 5) j a :: As := by
  rintro ⟨S, a, r⟩
  exact ⟨_, _, _, rfl⟩
set_option maxHeartbeats 4000000 in
set_option maxRecDepth 100000 in
theorem m_X6_pairsWith : zM yX6_pairsWith cX6_pairsWith 4 (some .int) ({ frames := 0, cells := 0, slots := 0, locals := 0 } : Room) (zcI ca_X6_pairsWith cp_X6_pairsWith cf_X6_pairsWith) := by
  refine zM_of (by decide) ?_
  rintro X Y ⟨S, a, r⟩ h ⟨hS, hr⟩ O E hR
  have hP := hS.2.1.2
  have hN := hS.1.2
  have B_46 := zr_iload_n (X := X) (Y := Y) (u := 0) (v := 0) O dX6_pairsWith_46 rfl (zr_ireturn O E (Nat.le_refl _) (Nat.le_refl _) dX6_pairsWith_47)
  have L_4 : ∀ nn : Nat, zSd X Y 0 0 4 ((fun k ls st h1 => ∃ (i : Nat) (y z : Int32), k = dP S - i ∧ i ≤ dP S ∧ ls = [some (vR 15 0 a), some (vI (nI r)), some (vI y), some (vI z)] ∧ y = nI (fb_ct (fun i => decide (dF S i = r ∨ dS S i = r)) i) ∧ z = nI i ∧ st = [] ∧ h = h1 : Nat → zT) nn) := by
    refine zSd_loop (fun nn ih => ?_)
    have B_38 := zr_iadd (X := X) (Y := Y) (u := 0) (v := 0) O dX6_pairsWith_38 (zr_istore_n O dX6_pairsWith_39 rfl (zr_iinc (c := 1) O dX6_pairsWith_40 rfl (zr_goto (tgt := 4) O dX6_pairsWith_43 rfl ih)))
    have B_37 := zr_iconst (X := X) (Y := Y) (u := 0) (v := 0) (x := 0) O dX6_pairsWith_37 rfl (B_38)
    have B_33 := zr_iconst (X := X) (Y := Y) (u := 0) (v := 0) (x := 1) O dX6_pairsWith_33 rfl (zr_goto (tgt := 38) O dX6_pairsWith_34 rfl B_38)
    have B_4 := zr_iload_n (X := X) (Y := Y) (u := 0) (v := 0) O dX6_pairsWith_4 rfl (zr_aload_n O dX6_pairsWith_5 rfl (zr_gI (ci := 5) (j := 4) O zc_5 (by decide) rfl tw_54 dX6_pairsWith_6 (zr_icge (tgt := 46) O dX6_pairsWith_9 rfl B_46 (zr_iload_n O dX6_pairsWith_12 rfl (zr_aload_n O dX6_pairsWith_13 rfl (zr_gS (ci := 5) (j := 5) (off := 4) (t := 1) (n := 28) O zc_5 (by decide) rfl tw_59 dX6_pairsWith_14 (zr_iload_n O dX6_pairsWith_17 rfl (zr_iald O dX6_pairsWith_18 (zr_iload_n O dX6_pairsWith_19 rfl (zr_iceq (tgt := 33) O dX6_pairsWith_20 rfl B_33 (zr_aload_n O dX6_pairsWith_23 rfl (zr_gS (ci := 5) (j := 6) (off := 5) (t := 1) (n := 28) O zc_5 (by decide) rfl tw_66 dX6_pairsWith_24 (zr_iload_n O dX6_pairsWith_27 rfl (zr_iald O dX6_pairsWith_28 (zr_iload_n O dX6_pairsWith_29 rfl (zr_icne (tgt := 37) O dX6_pairsWith_30 rfl B_37 (B_33)))))))))))))))))
    refine zSd_weak B_4 (fun ls st h1 t => ?_)
    obtain ⟨i, y, z, rfl, hi, rfl, rfl, rfl, rfl, rfl⟩ := t
    refine ⟨fun c => ⟨zri ?_, rfl⟩, fun c => ?_⟩
    · rw [hS.2.1.1] at c
      have := (nI_leI (by omega) (by omega)).mp c
      rw [show i = dP S by omega]
      rfl
    · rw [hS.2.1.1] at c
      have hi2 : i < dP S := Nat.not_le.mp (fun z => c ((nI_leI (by omega) (by omega)).mpr z))
      obtain ⟨⟨f1, f2⟩, s1, s2⟩ := hS.2.2.2.1 i hi2
      refine ⟨i, rfl, by omega, fun c => ⟨dP S - (i + 1), by omega, i + 1, _, _, rfl, by omega, rfl, ?_, nI_1 i, rfl, rfl⟩, fun c => ⟨i, rfl, by omega, fun d => ⟨dP S - (i + 1), by omega, i + 1, _, _, rfl, by omega, rfl, ?_, nI_1 i, rfl, rfl⟩, fun d => ⟨dP S - (i + 1), by omega, i + 1, _, _, rfl, by omega, rfl, ?_, nI_1 i, rfl, rfl⟩⟩⟩
      · rw [f1] at c
        have c2 := (nI_eq (by omega) (by omega)).mp c
        rw [nI_1, fb_ct_succ]
        simp [c2]
      · rw [f1] at c
        rw [s1] at d
        have c2 : ¬ dF S i = r := fun z => c (by rw [z])
        have d2 : ¬ dS S i = r := fun z => d (by rw [z])
        rw [fb_ct_succ]
        simp [c2, d2]
      · rw [s1] at d
        have d2 := (nI_eq (by omega) (by omega)).mp d
        rw [nI_1, fb_ct_succ]
        simp [d2]
  have B_4 := zSd_any L_4
  have B_0 := zr_iconst (X := X) (Y := Y) (u := 0) (v := 0) (x := 0) O dX6_pairsWith_0 rfl (zr_istore_n O dX6_pairsWith_1 rfl (zr_iconst (x := 0) O dX6_pairsWith_2 rfl (zr_istore_n O dX6_pairsWith_3 rfl (B_4))))
  refine ⟨rfl, Nat.le_of_ble_eq_true rfl, _, B_0, ?_⟩
  exact ⟨dP S - 0, 0, _, _, rfl, Nat.zero_le _, rfl, rfl, rfl, rfl, rfl⟩
/-- how many of the first n rings are ahead of ring r at a heat -/
def rah (S : zD) (r : Nat) (t : Int32) (n : Nat) : Nat := fb_ct (fun i => decide (spd S r t < spd S i t ∨ spd S i t = spd S r t ∧ i < r)) n
def ca_X6_ringsAheadOf : (zD × Nat × Nat × Int32) → List zV := fun (S, a, r, te) => [vR 15 0 a, vI (nI r), vI te]
def cp_X6_ringsAheadOf : (zD × Nat × Nat × Int32) → zH → Prop := fun (S, a, r, te) h => rpS S h a ∧ r < dN S
def cf_X6_ringsAheadOf : (zD × Nat × Nat × Int32) → zH → Int32 := fun (S, a, r, te) _ => nI (rah S r te (dN S))
theorem rc_X6_ringsAheadOf : ∀ x : (zD × Nat × Nat × Int32), ∃ (j a : Nat) (As : List zV), ca_X6_ringsAheadOf x = vR (10 + 5) j a :: As := by
  rintro ⟨S, a, r, te⟩
  exact ⟨_, _, _, rfl⟩
set_option maxHeartbeats 4000000 in
set_option maxRecDepth 100000 in
theorem m_X6_ringsAheadOf : zM yX6_ringsAheadOf cX6_ringsAheadOf 7 (some .int) ({ frames := 1, cells := 0, slots := 0, locals := 22 } : Room) (zcI ca_X6_ringsAheadOf cp_X6_ringsAheadOf cf_X6_ringsAheadOf) := by
  refine zM_of (by decide) ?_
  rintro X Y ⟨S, a, r, te⟩ h ⟨hS, hr⟩ O E hR
  have hN := hS.1.2
  have B_65 := zr_iload (X := X) (Y := Y) (u := 0) (v := 0) O dX6_ringsAheadOf_65 (zr_ireturn O E (Nat.le_refl _) (Nat.le_refl _) dX6_ringsAheadOf_67)
  have L_13 : ∀ nn : Nat, zSd X Y 0 0 13 ((fun k ls st h1 => ∃ (i : Nat) (y z : Int32) (w : Option zV), k = dN S - i ∧ i ≤ dN S ∧ ls = [some (vR 15 0 a), some (vI (nI r)), some (vI te), some (vI (spd S r te)), some (vI y), some (vI z), w] ∧ y = nI (rah S r te i) ∧ z = nI i ∧ st = [] ∧ h = h1 : Nat → zT) nn) := by
    refine zSd_loop (fun nn ih => ?_)
    have B_56 := zr_iadd (X := X) (Y := Y) (u := 0) (v := 0) O dX6_ringsAheadOf_56 (zr_istore O dX6_ringsAheadOf_57 (zr_iinc (c := 1) O dX6_ringsAheadOf_59 rfl (zr_goto (tgt := 13) O dX6_ringsAheadOf_62 rfl ih)))
    have B_55 := zr_iconst (X := X) (Y := Y) (u := 0) (v := 0) (x := 0) O dX6_ringsAheadOf_55 rfl (B_56)
    have B_51 := zr_iconst (X := X) (Y := Y) (u := 0) (v := 0) (x := 1) O dX6_ringsAheadOf_51 rfl (zr_goto (tgt := 56) O dX6_ringsAheadOf_52 rfl B_56)
    have B_13 := zr_iload (X := X) (Y := Y) (u := 0) (v := 0) O dX6_ringsAheadOf_13 (zr_aload_n O dX6_ringsAheadOf_15 rfl (zr_gI (ci := 5) (j := 0) O zc_5 (by decide) rfl tw_46 dX6_ringsAheadOf_16 (zr_icge (tgt := 65) O dX6_ringsAheadOf_19 rfl B_65 (zr_aload_n O dX6_ringsAheadOf_22 rfl (zr_iload O dX6_ringsAheadOf_23 (zr_iload_n O dX6_ringsAheadOf_25 rfl (zr_cI (zr_cV (ci := 5) (n := 2) O m_X6_speedOf (bn_X6_speedOf _ ⟨rfl, rfl⟩) vw_X6_speedOf tw_440 rc_X6_speedOf (zrm hR rfl rfl) dX6_ringsAheadOf_26 (zr_istore O dX6_ringsAheadOf_29 (zr_iload O dX6_ringsAheadOf_31 (zr_iload O dX6_ringsAheadOf_33 (zr_iload_n O dX6_ringsAheadOf_35 rfl (zr_icgt (tgt := 51) O dX6_ringsAheadOf_36 rfl B_51 (zr_iload O dX6_ringsAheadOf_39 (zr_iload_n O dX6_ringsAheadOf_41 rfl (zr_icne (tgt := 55) O dX6_ringsAheadOf_42 rfl B_55 (zr_iload O dX6_ringsAheadOf_45 (zr_iload_n O dX6_ringsAheadOf_47 rfl (zr_icge (tgt := 55) O dX6_ringsAheadOf_48 rfl B_55 (B_51))))))))))))))))))))
    refine zSd_weak B_13 (fun ls st h1 t => ?_)
    obtain ⟨i, y, z, w, rfl, hi, rfl, rfl, rfl, rfl, rfl⟩ := t
    refine ⟨fun c => ⟨zri ?_, rfl⟩, fun c => ?_⟩
    · rw [hS.1.1] at c
      have := (nI_leI (by omega) (by omega)).mp c
      rw [show i = dN S by omega]
      rfl
    · rw [hS.1.1] at c
      have hi2 : i < dN S := Nat.not_le.mp (fun z => c ((nI_leI (by omega) (by omega)).mpr z))
      have e : rah S r te (i + 1) = rah S r te i + if spd S r te < spd S i te ∨ spd S i te = spd S r te ∧ i < r then 1 else 0 := by
        rw [rah, fb_ct_succ]
        simp [rah]
      refine ⟨(S, a, i, te), rfl, ⟨hS, hi2⟩, fun c => ⟨dN S - (i + 1), by omega, i + 1, _, _, _, rfl, by omega, rfl, ?_, nI_1 i, rfl, rfl⟩, fun c => ⟨fun d => ⟨dN S - (i + 1), by omega, i + 1, _, _, _, rfl, by omega, rfl, ?_, nI_1 i, rfl, rfl⟩, fun d => ⟨fun q => ⟨dN S - (i + 1), by omega, i + 1, _, _, _, rfl, by omega, rfl, ?_, nI_1 i, rfl, rfl⟩, fun q => ⟨dN S - (i + 1), by omega, i + 1, _, _, _, rfl, by omega, rfl, ?_, nI_1 i, rfl, rfl⟩⟩⟩⟩
      · replace c : spd S r te < spd S i te := c
        rw [e, if_pos (Or.inl c), nI_1]
      · rw [e, if_neg (fun z => z.elim c (fun z => d z.1))]
        exact Int32.add_zero _
      · have q2 := (nI_leI (by omega) (by omega)).mp q
        rw [e, if_neg (fun z => z.elim c (fun z => absurd z.2 (by omega)))]
        exact Int32.add_zero _
      · have q2 : i < r := Nat.not_le.mp (fun z => q ((nI_leI (by omega) (by omega)).mpr z))
        rw [e, if_pos (Or.inr ⟨d, q2⟩), nI_1]
  have B_13 := zSd_any L_13
  have B_0 := zr_aload_n (X := X) (Y := Y) (u := 0) (v := 0) O dX6_ringsAheadOf_0 rfl (zr_iload_n O dX6_ringsAheadOf_1 rfl (zr_iload_n O dX6_ringsAheadOf_2 rfl (zr_cI (zr_cV (ci := 5) (n := 2) O m_X6_speedOf (bn_X6_speedOf _ ⟨rfl, rfl⟩) vw_X6_speedOf tw_440 rc_X6_speedOf (zrm hR rfl rfl) dX6_ringsAheadOf_3 (zr_istore_n O dX6_ringsAheadOf_6 rfl (zr_iconst (x := 0) O dX6_ringsAheadOf_7 rfl (zr_istore O dX6_ringsAheadOf_8 (zr_iconst (x := 0) O dX6_ringsAheadOf_10 rfl (zr_istore O dX6_ringsAheadOf_11 (B_13))))))))))
  refine ⟨rfl, Nat.le_of_ble_eq_true rfl, _, B_0, ?_⟩
  exact ⟨(S, a, r, te), rfl, ⟨hS, hr⟩, dN S - 0, 0, _, _, _, rfl, Nat.zero_le _, rfl, rfl, rfl, rfl, rfl⟩
/-- steady; used -/
def std (S : zD) (p : Nat) : Bool := decide (dT S 0 < mrg S p)
def us (S : zD) (p : Nat) : Bool := decide (dT S 3 = 1) || std S p
def usd (S : zD) : Nat := mk (us S) (dP S)
theorem mk_true : ∀ n : Nat, mk (fun _ => true) n = 2 ^ n - 1 := by
  intro n
  apply Nat.eq_of_testBit_eq
  intro i
  rw [mk_bit, Nat.testBit_two_pow_sub_one]
  simp
theorem nI_lo {n : Nat} (h : n < 31) : (1 : Int32) <<< (nI n &&& 31) - 1 = nI (2 ^ n - 1) := by
  rw [nI_pow h, show (1 : Int32) = nI 1 from rfl, pk_sub Nat.one_le_two_pow]
def ca_X6_allPairs : (zD × Nat) → List zV := fun (S, a) => [vR 15 0 a]
def cp_X6_allPairs : (zD × Nat) → zH → Prop := fun (S, a) h => rpS S h a
def cf_X6_allPairs : (zD × Nat) → zH → Int32 := fun (S, a) _ => nI (2 ^ dP S - 1)
theorem rc_X6_allPairs : ∀ x : (zD × Nat), ∃ (j a : Nat) (As : List zV), ca_X6_allPairs x = vR (10 + 5) j a :: As := by
  rintro ⟨S, a⟩
  exact ⟨_, _, _, rfl⟩
set_option maxHeartbeats 4000000 in
set_option maxRecDepth 100000 in
theorem m_X6_allPairs : zM yX6_allPairs cX6_allPairs 1 (some .int) ({ frames := 0, cells := 0, slots := 0, locals := 0 } : Room) (zcI ca_X6_allPairs cp_X6_allPairs cf_X6_allPairs) := by
  refine zM_of (by decide) ?_
  rintro X Y ⟨S, a⟩ h hS O E hR
  have B_0 := zr_iconst (X := X) (Y := Y) (u := 0) (v := 0) (x := 1) O dX6_allPairs_0 rfl (zr_aload_n O dX6_allPairs_1 rfl (zr_gI (ci := 5) (j := 4) O zc_5 (by decide) rfl tw_54 dX6_allPairs_2 (zr_ishl O dX6_allPairs_5 (zr_iconst (x := 1) O dX6_allPairs_6 rfl (zr_isub O dX6_allPairs_7 (zr_ireturn O E (Nat.le_refl _) (Nat.le_refl _) dX6_allPairs_8))))))
  refine ⟨rfl, Nat.le_of_ble_eq_true rfl, _, B_0, ?_⟩
  have hS : rpS S h a := hS
  have hP := hS.2.1.2
  refine ⟨zri ?_, rfl⟩
  rw [hS.2.1.1]
  exact nI_lo (by omega)
def ca_X6_steadyPairs : (zD × Nat) → List zV := fun (S, a) => [vR 15 0 a]
def cp_X6_steadyPairs : (zD × Nat) → zH → Prop := fun (S, a) h => rpS S h a ∧ vS S
def cf_X6_steadyPairs : (zD × Nat) → zH → Int32 := fun (S, a) _ => nI (mk (std S) (dP S))
theorem rc_X6_steadyPairs : ∀ x : (zD × Nat), ∃ (j a : Nat) (As : List zV), ca_X6_steadyPairs x = vR (10 + 5) j a :: As := by
  rintro ⟨S, a⟩
  exact ⟨_, _, _, rfl⟩
set_option maxHeartbeats 4000000 in
set_option maxRecDepth 100000 in
theorem m_X6_steadyPairs : zM yX6_steadyPairs cX6_steadyPairs 3 (some .int) ({ frames := 3, cells := 0, slots := 0, locals := 70 } : Room) (zcI ca_X6_steadyPairs cp_X6_steadyPairs cf_X6_steadyPairs) := by
  refine zM_of (by decide) ?_
  rintro X Y ⟨S, a⟩ h ⟨hS, hv⟩ O E hR
  have hP := hS.2.1.2
  have B_42 := zr_iload_n (X := X) (Y := Y) (u := 0) (v := 0) O dX6_steadyPairs_42 rfl (zr_ireturn O E (Nat.le_refl _) (Nat.le_refl _) dX6_steadyPairs_43)
  have L_4 : ∀ nn : Nat, zSd X Y 0 0 4 ((fun k ls st h1 => ∃ (i : Nat) (y z : Int32), k = dP S - i ∧ i ≤ dP S ∧ ls = [some (vR 15 0 a), some (vI y), some (vI z)] ∧ y = nI (mk (std S) i) ∧ z = nI i ∧ st = [] ∧ h = h1 : Nat → zT) nn) := by
    refine zSd_loop (fun nn ih => ?_)
    have B_34 := zr_ior (X := X) (Y := Y) (u := 0) (v := 0) O dX6_steadyPairs_34 (zr_istore_n O dX6_steadyPairs_35 rfl (zr_iinc (c := 1) O dX6_steadyPairs_36 rfl (zr_goto (tgt := 4) O dX6_steadyPairs_39 rfl ih)))
    have B_33 := zr_iconst (X := X) (Y := Y) (u := 0) (v := 0) (x := 0) O dX6_steadyPairs_33 rfl (B_34)
    have B_4 := zr_iload_n (X := X) (Y := Y) (u := 0) (v := 0) O dX6_steadyPairs_4 rfl (zr_aload_n O dX6_steadyPairs_5 rfl (zr_gI (ci := 5) (j := 4) O zc_5 (by decide) rfl tw_54 dX6_steadyPairs_6 (zr_icge (tgt := 42) O dX6_steadyPairs_9 rfl B_42 (zr_iload_n O dX6_steadyPairs_12 rfl (zr_aload_n O dX6_steadyPairs_13 rfl (zr_iload_n O dX6_steadyPairs_14 rfl (zr_cI (zr_cV (ci := 5) (n := 1) O m_X6_marginOf (bn_X6_marginOf _ ⟨rfl, rfl⟩) vw_X6_marginOf tw_761 rc_X6_marginOf (zrm hR rfl rfl) dX6_steadyPairs_15 (zr_aload_n O dX6_steadyPairs_18 rfl (zr_gS (ci := 5) (j := 7) (off := 6) (t := 1) (n := 5) O zc_5 (by decide) rfl tw_73 dX6_steadyPairs_19 (zr_iconst (x := 0) O dX6_steadyPairs_22 rfl (zr_iald O dX6_steadyPairs_23 (zr_icle (tgt := 33) O dX6_steadyPairs_24 rfl B_33 (zr_iconst (x := 1) O dX6_steadyPairs_27 rfl (zr_iload_n O dX6_steadyPairs_28 rfl (zr_ishl O dX6_steadyPairs_29 (zr_goto (tgt := 34) O dX6_steadyPairs_30 rfl B_34)))))))))))))))))
    refine zSd_weak B_4 (fun ls st h1 t => ?_)
    obtain ⟨i, y, z, rfl, hi, rfl, rfl, rfl, rfl, rfl⟩ := t
    refine ⟨fun c => ⟨zri ?_, rfl⟩, fun c => ?_⟩
    · rw [hS.2.1.1] at c
      have := (nI_leI (by omega) (by omega)).mp c
      rw [show i = dP S by omega]
      rfl
    · rw [hS.2.1.1] at c
      have hi2 : i < dP S := Nat.not_le.mp (fun z => c ((nI_leI (by omega) (by omega)).mpr z))
      refine ⟨(S, a, i), rfl, ⟨hS, hi2, hv⟩, 0, rfl, by decide, zmg (k := _) (c := mrg S i ≤ h.1 (a + 6) 0) (x := 0) (y := 1 <<< (nI i &&& 31)) ?_⟩
      refine ⟨dP S - (i + 1), by omega, i + 1, _, _, rfl, by omega, rfl, ?_, nI_1 i, rfl, rfl⟩
      rw [hS.2.2.2.2 0 (by decide)]
      show nI (mk (std S) i) ||| (if mrg S i ≤ dT S 0 then (0 : Int32) else (1 : Int32) <<< (nI i &&& 31)) = nI (mk (std S) i ||| if std S i then 2 ^ i else 0)
      by_cases hz : mrg S i ≤ dT S 0
      · rw [if_pos hz, if_neg (by simp only [std, decide_eq_true_eq]; exact Int32.not_lt.mpr hz), show (0 : Int32) = nI 0 from rfl, fa_or]
      · rw [if_neg hz, if_pos (by simp only [std, decide_eq_true_eq]; exact Int32.not_le.mp hz), nI_pow (by omega), fa_or]
  have B_4 := zSd_any L_4
  have B_0 := zr_iconst (X := X) (Y := Y) (u := 0) (v := 0) (x := 0) O dX6_steadyPairs_0 rfl (zr_istore_n O dX6_steadyPairs_1 rfl (zr_iconst (x := 0) O dX6_steadyPairs_2 rfl (zr_istore_n O dX6_steadyPairs_3 rfl (B_4))))
  refine ⟨rfl, Nat.le_of_ble_eq_true rfl, _, B_0, ?_⟩
  exact ⟨dP S - 0, 0, _, _, rfl, Nat.zero_le _, rfl, rfl, rfl, rfl, rfl⟩
def ca_X6_usedPairs : (zD × Nat) → List zV := fun (S, a) => [vR 15 0 a]
def cp_X6_usedPairs : (zD × Nat) → zH → Prop := fun (S, a) h => rpS S h a ∧ vS S
def cf_X6_usedPairs : (zD × Nat) → zH → Int32 := fun (S, a) _ => nI (usd S)
theorem rc_X6_usedPairs : ∀ x : (zD × Nat), ∃ (j a : Nat) (As : List zV), ca_X6_usedPairs x = vR (10 + 5) j a :: As := by
  rintro ⟨S, a⟩
  exact ⟨_, _, _, rfl⟩
set_option maxHeartbeats 4000000 in
set_option maxRecDepth 100000 in
theorem m_X6_usedPairs : zM yX6_usedPairs cX6_usedPairs 1 (some .int) ({ frames := 4, cells := 0, slots := 0, locals := 92 } : Room) (zcI ca_X6_usedPairs cp_X6_usedPairs cf_X6_usedPairs) := by
  refine zM_of (by decide) ?_
  rintro X Y ⟨S, a⟩ h ⟨hS, hv⟩ O E hR
  have B_21 := zr_ireturn (X := X) (Y := Y) (u := 0) (v := 0) O E (Nat.le_refl _) (Nat.le_refl _) dX6_usedPairs_21
  have B_17 := zr_aload_n (X := X) (Y := Y) (u := 0) (v := 0) O dX6_usedPairs_17 rfl (zr_cI (zr_cV (ci := 5) (n := 0) O m_X6_steadyPairs (bn_X6_steadyPairs _ ⟨rfl, rfl⟩) vw_X6_steadyPairs tw_757 rc_X6_steadyPairs (zrm hR rfl rfl) dX6_usedPairs_18 (B_21)))
  have B_0 := zr_aload_n (X := X) (Y := Y) (u := 0) (v := 0) O dX6_usedPairs_0 rfl (zr_gS (ci := 5) (j := 7) (off := 6) (t := 1) (n := 5) O zc_5 (by decide) rfl tw_73 dX6_usedPairs_1 (zr_iconst (x := 3) O dX6_usedPairs_4 rfl (zr_iald O dX6_usedPairs_5 (zr_iconst (x := 1) O dX6_usedPairs_6 rfl (zr_icne (tgt := 17) O dX6_usedPairs_7 rfl B_17 (zr_aload_n O dX6_usedPairs_10 rfl (zr_cI (zr_cV (ci := 5) (n := 0) O m_X6_allPairs (bn_X6_allPairs _ ⟨rfl, rfl⟩) vw_X6_allPairs tw_753 rc_X6_allPairs (zrm hR rfl rfl) dX6_usedPairs_11 (zr_goto (tgt := 21) O dX6_usedPairs_14 rfl B_21)))))))))
  refine ⟨rfl, Nat.le_of_ble_eq_true rfl, _, B_0, ?_⟩
  refine ⟨3, rfl, by decide, fun c => ⟨(S, a), rfl, ⟨hS, hv⟩, zri ?_, rfl⟩, fun c => ⟨(S, a), rfl, hS, zri ?_, rfl⟩⟩
  · rw [hS.2.2.2.2 3 (by decide)] at c
    show nI (mk (std S) (dP S)) = nI (mk (us S) (dP S))
    rw [mk_cong (g := us S) (fun i _ => by simp [us, c])]
  · rw [hS.2.2.2.2 3 (by decide)] at c
    show nI (2 ^ dP S - 1) = nI (mk (us S) (dP S))
    rw [← mk_true, mk_cong (g := us S) (fun i _ => by simp [us, c])]
/-- how many blocks so many pairs give -/
def bkc (r c : Nat) : Nat := min (c / lnR r) (16 / btR r)
theorem pop_le (m : Nat) : pop m ≤ 32 := fb_ct_le _ _
theorem lnR_pos {r : Nat} (h : vRp r) : 1 ≤ lnR r ∧ lnR r ≤ 7 ∧ 1 ≤ btR r ∧ btR r ≤ 4 := by
  rcases h with rfl | rfl | rfl | rfl | rfl <;> decide
def ca_X6_blockCount : (zD × Nat × Nat) → List zV := fun (S, a, m) => [vR 15 0 a, vI (nI m)]
def cp_X6_blockCount : (zD × Nat × Nat) → zH → Prop := fun (S, a, m) h => rpS S h a ∧ vS S ∧ m < 2 ^ 31
def cf_X6_blockCount : (zD × Nat × Nat) → zH → Int32 := fun (S, a, m) _ => nI (bkc (dR S) (pop m))
theorem rc_X6_blockCount : ∀ x : (zD × Nat × Nat), ∃ (j a : Nat) (As : List zV), ca_X6_blockCount x = vR (10 + 5) j a :: As := by
  rintro ⟨S, a, m⟩
  exact ⟨_, _, _, rfl⟩
set_option maxHeartbeats 4000000 in
set_option maxRecDepth 100000 in
theorem m_X6_blockCount : zM yX6_blockCount cX6_blockCount 3 (some .int) ({ frames := 2, cells := 0, slots := 0, locals := 41 } : Room) (zcI ca_X6_blockCount cp_X6_blockCount cf_X6_blockCount) := by
  refine zM_of (by decide) ?_
  rintro X Y ⟨S, a, m⟩ h ⟨hS, hv, hm⟩ O E hR
  have B_0 := zr_iload_n (X := X) (Y := Y) (u := 0) (v := 0) O dX6_blockCount_0 rfl (zr_cI (zr_cS (n := 1) O m_J6_bitCount_0f7a4 (bn_J6_bitCount_0f7a4 _ ⟨rfl, rfl⟩) tw_767 tw_766 (zrm hR rfl rfl) dX6_blockCount_1 (zr_aload_n O dX6_blockCount_4 rfl (zr_gS (ci := 5) (j := 7) (off := 6) (t := 1) (n := 5) O zc_5 (by decide) rfl tw_73 dX6_blockCount_5 (zr_iconst (x := 4) O dX6_blockCount_8 rfl (zr_iald O dX6_blockCount_9 (zr_cI (zr_cS (n := 1) O m_X0_lengthOf (bn_X0_lengthOf _ ⟨rfl, rfl⟩) tw_773 tw_772 (zrm hR rfl rfl) dX6_blockCount_10 (zr_idiv O dX6_blockCount_13 (zr_istore_n O dX6_blockCount_14 rfl (zr_iload_n O dX6_blockCount_15 rfl (zr_bipush (x := (16)) O dX6_blockCount_16 (by decide) (zr_aload_n O dX6_blockCount_18 rfl (zr_gS (ci := 5) (j := 7) (off := 6) (t := 1) (n := 5) O zc_5 (by decide) rfl tw_73 dX6_blockCount_19 (zr_iconst (x := 4) O dX6_blockCount_22 rfl (zr_iald O dX6_blockCount_23 (zr_cI (zr_cS (n := 1) O m_X0_bitsOf (bn_X0_bitsOf _ ⟨rfl, rfl⟩) tw_779 tw_778 (zrm hR rfl rfl) dX6_blockCount_24 (zr_idiv O dX6_blockCount_27 (zr_min O zwm tw_444 (zrm hR rfl rfl) dX6_blockCount_28 (zr_ireturn O E (Nat.le_refl _) (Nat.le_refl _) dX6_blockCount_31)))))))))))))))))))))
  refine ⟨rfl, Nat.le_of_ble_eq_true rfl, _, B_0, ?_⟩
  obtain ⟨hr1, hr2⟩ := hv.2.2.2.2.2
  obtain ⟨q1, q2, q3, q4⟩ := lnR_pos hr2
  have hp := pop_le m
  have e4 : h.1 (a + 6) 4 = nI (dR S) := (hS.2.2.2.2 4 (by decide)).trans hr1
  refine ⟨nI m, rfl, trivial, 4, rfl, by decide, dR S, congrArg (fun z => [vI z]) e4, hr2, ?_, 4, rfl, by decide, dR S, congrArg (fun z => [vI z]) e4, hr2, ?_, zri ?_, rfl⟩
  · exact fun z => by have := (nI_eq (b := 0) (by omega) (by omega)).mp z; omega
  · exact fun z => by have := (nI_eq (b := 0) (by omega) (by omega)).mp z; omega
  · show (if (16 : Int32) / nI (btR (dR S)) < pcI (nI m) / nI (lnR (dR S)) then (16 : Int32) / nI (btR (dR S)) else pcI (nI m) / nI (lnR (dR S))) = nI (min _ _)
    rw [pcI_pop hm, show (16 : Int32) = nI 16 from rfl, pk_div (by omega) (by omega) (by omega), pk_div (by omega) (by omega) (by omega)]
    have l1 : 16 / btR (dR S) ≤ 16 := Nat.div_le_self _ _
    have l2 : pop m / lnR (dR S) ≤ pop m := Nat.div_le_self _ _
    by_cases hz : 16 / btR (dR S) < pop m / lnR (dR S)
    · rw [if_pos ((nI_ltI (by omega) (by omega)).mpr hz), Nat.min_eq_right (by omega)]
    · rw [if_neg (fun z => hz ((nI_ltI (by omega) (by omega)).mp z)), Nat.min_eq_left (by omega)]

