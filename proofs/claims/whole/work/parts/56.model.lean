theorem dX11_usedBy_48 : decode cX11_usedBy 48 = .ok (.iload_n 3, 1) := by decide +kernel
theorem dX11_usedBy_49 : decode cX11_usedBy 49 = .ok (.ireturn, 1) := by decide +kernel
theorem dX11_usedBy_42 : decode cX11_usedBy 42 = .ok (.iinc 4 1, 3) := by decide +kernel
theorem dX11_usedBy_45 : decode cX11_usedBy 45 = .ok (.goto (-40), 3) := by decide +kernel
theorem dX11_usedBy_31 : decode cX11_usedBy 31 = .ok (.aload_n 0, 1) := by decide +kernel
theorem dX11_usedBy_32 : decode cX11_usedBy 32 = .ok (.getfield 38, 3) := by decide +kernel
theorem dX11_usedBy_35 : decode cX11_usedBy 35 = .ok (.iload_n 3, 1) := by decide +kernel
theorem dX11_usedBy_36 : decode cX11_usedBy 36 = .ok (.iload 4, 2) := by decide +kernel
theorem dX11_usedBy_38 : decode cX11_usedBy 38 = .ok (.iastore, 1) := by decide +kernel
theorem dX11_usedBy_39 : decode cX11_usedBy 39 = .ok (.iinc 3 1, 3) := by decide +kernel
theorem dX11_usedBy_5 : decode cX11_usedBy 5 = .ok (.iload 4, 2) := by decide +kernel
theorem dX11_usedBy_7 : decode cX11_usedBy 7 = .ok (.aload_n 0, 1) := by decide +kernel
theorem dX11_usedBy_8 : decode cX11_usedBy 8 = .ok (.getfield 103, 3) := by decide +kernel
theorem dX11_usedBy_11 : decode cX11_usedBy 11 = .ok (.if_icmp .ge 37, 3) := by decide +kernel
theorem dX11_usedBy_14 : decode cX11_usedBy 14 = .ok (.iload_n 2, 1) := by decide +kernel
theorem dX11_usedBy_15 : decode cX11_usedBy 15 = .ok (.ifCond .ne 16, 3) := by decide +kernel
theorem dX11_usedBy_18 : decode cX11_usedBy 18 = .ok (.aload_n 0, 1) := by decide +kernel
theorem dX11_usedBy_19 : decode cX11_usedBy 19 = .ok (.iload 4, 2) := by decide +kernel
theorem dX11_usedBy_21 : decode cX11_usedBy 21 = .ok (.iload_n 1, 1) := by decide +kernel
theorem dX11_usedBy_22 : decode cX11_usedBy 22 = .ok (.invokevirtual 106, 3) := by decide +kernel
theorem dX11_usedBy_25 : decode cX11_usedBy 25 = .ok (.ifCond .ne 6, 3) := by decide +kernel
theorem dX11_usedBy_28 : decode cX11_usedBy 28 = .ok (.goto 14, 3) := by decide +kernel
theorem dX11_usedBy_0 : decode cX11_usedBy 0 = .ok (.iconst 0, 1) := by decide +kernel
theorem dX11_usedBy_1 : decode cX11_usedBy 1 = .ok (.istore_n 3, 1) := by decide +kernel
theorem dX11_usedBy_2 : decode cX11_usedBy 2 = .ok (.iconst 0, 1) := by decide +kernel
theorem dX11_usedBy_3 : decode cX11_usedBy 3 = .ok (.istore 4, 2) := by decide +kernel
theorem dX11_usedNow_22 : decode cX11_usedNow 22 = .ok (.invokevirtual 110, 3) := by decide +kernel
theorem dX11_usedNow_25 : decode cX11_usedNow 25 = .ok (.ireturn, 1) := by decide +kernel
theorem dX11_usedNow_21 : decode cX11_usedNow 21 = .ok (.iconst 0, 1) := by decide +kernel
theorem dX11_usedNow_0 : decode cX11_usedNow 0 = .ok (.aload_n 0, 1) := by decide +kernel
theorem dX11_usedNow_1 : decode cX11_usedNow 1 = .ok (.aload_n 0, 1) := by decide +kernel
theorem dX11_usedNow_2 : decode cX11_usedNow 2 = .ok (.getfield 17, 3) := by decide +kernel
theorem dX11_usedNow_5 : decode cX11_usedNow 5 = .ok (.iconst 0, 1) := by decide +kernel
theorem dX11_usedNow_6 : decode cX11_usedNow 6 = .ok (.iaload, 1) := by decide +kernel
theorem dX11_usedNow_7 : decode cX11_usedNow 7 = .ok (.aload_n 0, 1) := by decide +kernel
theorem dX11_usedNow_8 : decode cX11_usedNow 8 = .ok (.getfield 17, 3) := by decide +kernel
theorem dX11_usedNow_11 : decode cX11_usedNow 11 = .ok (.iconst 3, 1) := by decide +kernel
theorem dX11_usedNow_12 : decode cX11_usedNow 12 = .ok (.iaload, 1) := by decide +kernel
theorem dX11_usedNow_13 : decode cX11_usedNow 13 = .ok (.iconst 1, 1) := by decide +kernel
theorem dX11_usedNow_14 : decode cX11_usedNow 14 = .ok (.if_icmp .ne 7, 3) := by decide +kernel
theorem dX11_usedNow_17 : decode cX11_usedNow 17 = .ok (.iconst 1, 1) := by decide +kernel
theorem dX11_usedNow_18 : decode cX11_usedNow 18 = .ok (.goto 4, 3) := by decide +kernel
theorem dX11_wideBy_10 : decode cX11_wideBy 10 = .ok (.ireturn, 1) := by decide +kernel
theorem dX11_wideBy_9 : decode cX11_wideBy 9 = .ok (.iload_n 0, 1) := by decide +kernel
theorem dX11_wideBy_0 : decode cX11_wideBy 0 = .ok (.iload_n 0, 1) := by decide +kernel
theorem dX11_wideBy_1 : decode cX11_wideBy 1 = .ok (.ifCond .ne 8, 3) := by decide +kernel
theorem dX11_wideBy_4 : decode cX11_wideBy 4 = .ok (.bipush 7, 2) := by decide +kernel
theorem dX11_wideBy_6 : decode cX11_wideBy 6 = .ok (.goto 4, 3) := by decide +kernel
theorem dX11_givesBy_9 : decode cX11_givesBy 9 = .ok (.ireturn, 1) := by decide +kernel
theorem dX11_givesBy_8 : decode cX11_givesBy 8 = .ok (.iconst 1, 1) := by decide +kernel
theorem dX11_givesBy_0 : decode cX11_givesBy 0 = .ok (.iload_n 0, 1) := by decide +kernel
theorem dX11_givesBy_1 : decode cX11_givesBy 1 = .ok (.ifCond .ne 7, 3) := by decide +kernel
theorem dX11_givesBy_4 : decode cX11_givesBy 4 = .ok (.iconst 4, 1) := by decide +kernel
theorem dX11_givesBy_5 : decode cX11_givesBy 5 = .ok (.goto 4, 3) := by decide +kernel
theorem dX11_blocksOf_0 : decode cX11_blocksOf 0 = .ok (.iload_n 1, 1) := by decide +kernel
theorem dX11_blocksOf_1 : decode cX11_blocksOf 1 = .ok (.iload_n 2, 1) := by decide +kernel
theorem dX11_blocksOf_2 : decode cX11_blocksOf 2 = .ok (.invokestatic 114, 3) := by decide +kernel
theorem dX11_blocksOf_5 : decode cX11_blocksOf 5 = .ok (.idiv, 1) := by decide +kernel
theorem dX11_blocksOf_6 : decode cX11_blocksOf 6 = .ok (.bipush 16, 2) := by decide +kernel
theorem dX11_blocksOf_8 : decode cX11_blocksOf 8 = .ok (.iload_n 2, 1) := by decide +kernel
theorem dX11_blocksOf_9 : decode cX11_blocksOf 9 = .ok (.invokestatic 117, 3) := by decide +kernel
theorem dX11_blocksOf_12 : decode cX11_blocksOf 12 = .ok (.idiv, 1) := by decide +kernel
theorem dX11_blocksOf_13 : decode cX11_blocksOf 13 = .ok (.invokestatic 95, 3) := by decide +kernel
theorem dX11_blocksOf_16 : decode cX11_blocksOf 16 = .ok (.ireturn, 1) := by decide +kernel
theorem dX11_blocks_0 : decode cX11_blocks 0 = .ok (.aload_n 0, 1) := by decide +kernel
theorem dX11_blocks_1 : decode cX11_blocks 1 = .ok (.aload_n 0, 1) := by decide +kernel
theorem dX11_blocks_2 : decode cX11_blocks 2 = .ok (.invokevirtual 120, 3) := by decide +kernel
theorem dX11_blocks_5 : decode cX11_blocks 5 = .ok (.aload_n 0, 1) := by decide +kernel
theorem dX11_blocks_6 : decode cX11_blocks 6 = .ok (.getfield 17, 3) := by decide +kernel
theorem dX11_blocks_9 : decode cX11_blocks 9 = .ok (.iconst 4, 1) := by decide +kernel
theorem dX11_blocks_10 : decode cX11_blocks 10 = .ok (.iaload, 1) := by decide +kernel
theorem dX11_blocks_11 : decode cX11_blocks 11 = .ok (.invokevirtual 124, 3) := by decide +kernel
theorem dX11_blocks_14 : decode cX11_blocks 14 = .ok (.ireturn, 1) := by decide +kernel
theorem dX11_secretBits_0 : decode cX11_secretBits 0 = .ok (.aload_n 0, 1) := by decide +kernel
theorem dX11_secretBits_1 : decode cX11_secretBits 1 = .ok (.invokevirtual 239, 3) := by decide +kernel
theorem dX11_secretBits_4 : decode cX11_secretBits 4 = .ok (.aload_n 0, 1) := by decide +kernel
theorem dX11_secretBits_5 : decode cX11_secretBits 5 = .ok (.getfield 17, 3) := by decide +kernel
theorem dX11_secretBits_8 : decode cX11_secretBits 8 = .ok (.iconst 4, 1) := by decide +kernel
theorem dX11_secretBits_9 : decode cX11_secretBits 9 = .ok (.iaload, 1) := by decide +kernel
theorem dX11_secretBits_10 : decode cX11_secretBits 10 = .ok (.invokestatic 117, 3) := by decide +kernel
theorem dX11_secretBits_13 : decode cX11_secretBits 13 = .ok (.imul, 1) := by decide +kernel
theorem dX11_secretBits_14 : decode cX11_secretBits 14 = .ok (.ireturn, 1) := by decide +kernel
theorem dX11_steadyMany_40 : decode cX11_steadyMany 40 = .ok (.iload_n 1, 1) := by decide +kernel
theorem dX11_steadyMany_41 : decode cX11_steadyMany 41 = .ok (.ireturn, 1) := by decide +kernel
theorem dX11_steadyMany_32 : decode cX11_steadyMany 32 = .ok (.iadd, 1) := by decide +kernel
theorem dX11_steadyMany_33 : decode cX11_steadyMany 33 = .ok (.istore_n 1, 1) := by decide +kernel
theorem dX11_steadyMany_34 : decode cX11_steadyMany 34 = .ok (.iinc 2 1, 3) := by decide +kernel
theorem dX11_steadyMany_37 : decode cX11_steadyMany 37 = .ok (.goto (-33), 3) := by decide +kernel
theorem dX11_steadyMany_31 : decode cX11_steadyMany 31 = .ok (.iconst 0, 1) := by decide +kernel
theorem dX11_steadyMany_4 : decode cX11_steadyMany 4 = .ok (.iload_n 2, 1) := by decide +kernel
theorem dX11_steadyMany_5 : decode cX11_steadyMany 5 = .ok (.aload_n 0, 1) := by decide +kernel
theorem dX11_steadyMany_6 : decode cX11_steadyMany 6 = .ok (.getfield 103, 3) := by decide +kernel
theorem dX11_steadyMany_9 : decode cX11_steadyMany 9 = .ok (.if_icmp .ge 31, 3) := by decide +kernel
theorem dX11_steadyMany_12 : decode cX11_steadyMany 12 = .ok (.iload_n 1, 1) := by decide +kernel
theorem dX11_steadyMany_13 : decode cX11_steadyMany 13 = .ok (.aload_n 0, 1) := by decide +kernel
theorem dX11_steadyMany_14 : decode cX11_steadyMany 14 = .ok (.iload_n 2, 1) := by decide +kernel
theorem dX11_steadyMany_15 : decode cX11_steadyMany 15 = .ok (.aload_n 0, 1) := by decide +kernel
theorem dX11_steadyMany_16 : decode cX11_steadyMany 16 = .ok (.getfield 17, 3) := by decide +kernel
theorem dX11_steadyMany_19 : decode cX11_steadyMany 19 = .ok (.iconst 0, 1) := by decide +kernel
theorem dX11_steadyMany_20 : decode cX11_steadyMany 20 = .ok (.iaload, 1) := by decide +kernel
theorem dX11_steadyMany_21 : decode cX11_steadyMany 21 = .ok (.invokevirtual 106, 3) := by decide +kernel
theorem dX11_steadyMany_24 : decode cX11_steadyMany 24 = .ok (.ifCond .eq 7, 3) := by decide +kernel
theorem dX11_steadyMany_27 : decode cX11_steadyMany 27 = .ok (.iconst 1, 1) := by decide +kernel
theorem dX11_steadyMany_28 : decode cX11_steadyMany 28 = .ok (.goto 4, 3) := by decide +kernel
theorem dX11_steadyMany_0 : decode cX11_steadyMany 0 = .ok (.iconst 0, 1) := by decide +kernel
theorem dX11_steadyMany_1 : decode cX11_steadyMany 1 = .ok (.istore_n 1, 1) := by decide +kernel
theorem dX11_steadyMany_2 : decode cX11_steadyMany 2 = .ok (.iconst 0, 1) := by decide +kernel
theorem dX11_steadyMany_3 : decode cX11_steadyMany 3 = .ok (.istore_n 2, 1) := by decide +kernel
theorem dX11_pairsWith_46 : decode cX11_pairsWith 46 = .ok (.iload_n 2, 1) := by decide +kernel
theorem dX11_pairsWith_47 : decode cX11_pairsWith 47 = .ok (.ireturn, 1) := by decide +kernel
theorem dX11_pairsWith_38 : decode cX11_pairsWith 38 = .ok (.iadd, 1) := by decide +kernel
theorem dX11_pairsWith_39 : decode cX11_pairsWith 39 = .ok (.istore_n 2, 1) := by decide +kernel
theorem dX11_pairsWith_40 : decode cX11_pairsWith 40 = .ok (.iinc 3 1, 3) := by decide +kernel
theorem dX11_pairsWith_43 : decode cX11_pairsWith 43 = .ok (.goto (-39), 3) := by decide +kernel
theorem dX11_pairsWith_37 : decode cX11_pairsWith 37 = .ok (.iconst 0, 1) := by decide +kernel
theorem dX11_pairsWith_33 : decode cX11_pairsWith 33 = .ok (.iconst 1, 1) := by decide +kernel
theorem dX11_pairsWith_34 : decode cX11_pairsWith 34 = .ok (.goto 4, 3) := by decide +kernel
theorem dX11_pairsWith_4 : decode cX11_pairsWith 4 = .ok (.iload_n 3, 1) := by decide +kernel
theorem dX11_pairsWith_5 : decode cX11_pairsWith 5 = .ok (.aload_n 0, 1) := by decide +kernel
theorem dX11_pairsWith_6 : decode cX11_pairsWith 6 = .ok (.getfield 103, 3) := by decide +kernel
theorem dX11_pairsWith_9 : decode cX11_pairsWith 9 = .ok (.if_icmp .ge 37, 3) := by decide +kernel
theorem dX11_pairsWith_12 : decode cX11_pairsWith 12 = .ok (.iload_n 2, 1) := by decide +kernel
theorem dX11_pairsWith_13 : decode cX11_pairsWith 13 = .ok (.aload_n 0, 1) := by decide +kernel
theorem dX11_pairsWith_14 : decode cX11_pairsWith 14 = .ok (.getfield 26, 3) := by decide +kernel
theorem dX11_pairsWith_17 : decode cX11_pairsWith 17 = .ok (.iload_n 3, 1) := by decide +kernel
theorem dX11_pairsWith_18 : decode cX11_pairsWith 18 = .ok (.iaload, 1) := by decide +kernel
theorem dX11_pairsWith_19 : decode cX11_pairsWith 19 = .ok (.iload_n 1, 1) := by decide +kernel
theorem dX11_pairsWith_20 : decode cX11_pairsWith 20 = .ok (.if_icmp .eq 13, 3) := by decide +kernel
theorem dX11_pairsWith_23 : decode cX11_pairsWith 23 = .ok (.aload_n 0, 1) := by decide +kernel
theorem dX11_pairsWith_24 : decode cX11_pairsWith 24 = .ok (.getfield 29, 3) := by decide +kernel
theorem dX11_pairsWith_27 : decode cX11_pairsWith 27 = .ok (.iload_n 3, 1) := by decide +kernel
theorem dX11_pairsWith_28 : decode cX11_pairsWith 28 = .ok (.iaload, 1) := by decide +kernel
theorem dX11_pairsWith_29 : decode cX11_pairsWith 29 = .ok (.iload_n 1, 1) := by decide +kernel
theorem dX11_pairsWith_30 : decode cX11_pairsWith 30 = .ok (.if_icmp .ne 7, 3) := by decide +kernel
theorem dX11_pairsWith_0 : decode cX11_pairsWith 0 = .ok (.iconst 0, 1) := by decide +kernel
theorem dX11_pairsWith_1 : decode cX11_pairsWith 1 = .ok (.istore_n 2, 1) := by decide +kernel
theorem dX11_pairsWith_2 : decode cX11_pairsWith 2 = .ok (.iconst 0, 1) := by decide +kernel
theorem dX11_pairsWith_3 : decode cX11_pairsWith 3 = .ok (.istore_n 3, 1) := by decide +kernel
theorem dX11_checkOf_38 : decode cX11_checkOf 38 = .ok (.iload_n 2, 1) := by decide +kernel
theorem dX11_checkOf_39 : decode cX11_checkOf 39 = .ok (.ireturn, 1) := by decide +kernel
theorem dX11_checkOf_32 : decode cX11_checkOf 32 = .ok (.iinc 3 1, 3) := by decide +kernel
theorem dX11_checkOf_35 : decode cX11_checkOf 35 = .ok (.goto (-31), 3) := by decide +kernel
theorem dX11_checkOf_4 : decode cX11_checkOf 4 = .ok (.iload_n 3, 1) := by decide +kernel
theorem dX11_checkOf_5 : decode cX11_checkOf 5 = .ok (.iload_n 1, 1) := by decide +kernel
theorem dX11_checkOf_6 : decode cX11_checkOf 6 = .ok (.if_icmp .ge 32, 3) := by decide +kernel
theorem dX11_checkOf_9 : decode cX11_checkOf 9 = .ok (.iconst 2, 1) := by decide +kernel
theorem dX11_checkOf_10 : decode cX11_checkOf 10 = .ok (.iload_n 2, 1) := by decide +kernel
theorem dX11_checkOf_11 : decode cX11_checkOf 11 = .ok (.imul, 1) := by decide +kernel
theorem dX11_checkOf_12 : decode cX11_checkOf 12 = .ok (.iload_n 0, 1) := by decide +kernel
theorem dX11_checkOf_13 : decode cX11_checkOf 13 = .ok (.iload_n 3, 1) := by decide +kernel
theorem dX11_checkOf_14 : decode cX11_checkOf 14 = .ok (.ishr, 1) := by decide +kernel
theorem dX11_checkOf_15 : decode cX11_checkOf 15 = .ok (.iconst 1, 1) := by decide +kernel
theorem dX11_checkOf_16 : decode cX11_checkOf 16 = .ok (.iand, 1) := by decide +kernel
theorem dX11_checkOf_17 : decode cX11_checkOf 17 = .ok (.iadd, 1) := by decide +kernel
theorem dX11_checkOf_18 : decode cX11_checkOf 18 = .ok (.istore_n 2, 1) := by decide +kernel
theorem dX11_checkOf_19 : decode cX11_checkOf 19 = .ok (.iload_n 2, 1) := by decide +kernel
theorem dX11_checkOf_20 : decode cX11_checkOf 20 = .ok (.bipush 15, 2) := by decide +kernel
theorem dX11_checkOf_22 : decode cX11_checkOf 22 = .ok (.if_icmp .le 10, 3) := by decide +kernel
theorem dX11_checkOf_25 : decode cX11_checkOf 25 = .ok (.iload_n 2, 1) := by decide +kernel
theorem dX11_checkOf_26 : decode cX11_checkOf 26 = .ok (.bipush 16, 2) := by decide +kernel
theorem dX11_checkOf_28 : decode cX11_checkOf 28 = .ok (.isub, 1) := by decide +kernel
theorem dX11_checkOf_29 : decode cX11_checkOf 29 = .ok (.iconst 3, 1) := by decide +kernel
theorem dX11_checkOf_30 : decode cX11_checkOf 30 = .ok (.ixor, 1) := by decide +kernel
theorem dX11_checkOf_31 : decode cX11_checkOf 31 = .ok (.istore_n 2, 1) := by decide +kernel
theorem dX11_checkOf_0 : decode cX11_checkOf 0 = .ok (.iconst 0, 1) := by decide +kernel
theorem dX11_checkOf_1 : decode cX11_checkOf 1 = .ok (.istore_n 2, 1) := by decide +kernel
theorem dX11_checkOf_2 : decode cX11_checkOf 2 = .ok (.iconst 0, 1) := by decide +kernel
theorem dX11_checkOf_3 : decode cX11_checkOf 3 = .ok (.istore_n 3, 1) := by decide +kernel
theorem dX11_words_27 : decode cX11_words 27 = .ok (.iload_n 2, 1) := by decide +kernel
theorem dX11_words_28 : decode cX11_words 28 = .ok (.iconst 1, 1) := by decide +kernel
theorem dX11_words_29 : decode cX11_words 29 = .ok (.iand, 1) := by decide +kernel
theorem dX11_words_30 : decode cX11_words 30 = .ok (.istore_n 3, 1) := by decide +kernel
theorem dX11_words_31 : decode cX11_words 31 = .ok (.iload_n 2, 1) := by decide +kernel
theorem dX11_words_32 : decode cX11_words 32 = .ok (.iconst 1, 1) := by decide +kernel
theorem dX11_words_33 : decode cX11_words 33 = .ok (.ishr, 1) := by decide +kernel
theorem dX11_words_34 : decode cX11_words 34 = .ok (.iconst 1, 1) := by decide +kernel
theorem dX11_words_35 : decode cX11_words 35 = .ok (.iand, 1) := by decide +kernel
theorem dX11_words_36 : decode cX11_words 36 = .ok (.istore 4, 2) := by decide +kernel
theorem dX11_words_38 : decode cX11_words 38 = .ok (.iload_n 2, 1) := by decide +kernel
theorem dX11_words_39 : decode cX11_words 39 = .ok (.iconst 2, 1) := by decide +kernel
theorem dX11_words_40 : decode cX11_words 40 = .ok (.ishr, 1) := by decide +kernel
theorem dX11_words_41 : decode cX11_words 41 = .ok (.iconst 1, 1) := by decide +kernel
theorem dX11_words_42 : decode cX11_words 42 = .ok (.iand, 1) := by decide +kernel
theorem dX11_words_43 : decode cX11_words 43 = .ok (.istore 5, 2) := by decide +kernel
theorem dX11_words_45 : decode cX11_words 45 = .ok (.iload_n 2, 1) := by decide +kernel
theorem dX11_words_46 : decode cX11_words 46 = .ok (.iconst 3, 1) := by decide +kernel
theorem dX11_words_47 : decode cX11_words 47 = .ok (.ishr, 1) := by decide +kernel
theorem dX11_words_48 : decode cX11_words 48 = .ok (.iconst 1, 1) := by decide +kernel
theorem dX11_words_49 : decode cX11_words 49 = .ok (.iand, 1) := by decide +kernel
theorem dX11_words_50 : decode cX11_words 50 = .ok (.istore 6, 2) := by decide +kernel
theorem dX11_words_52 : decode cX11_words 52 = .ok (.aload_n 0, 1) := by decide +kernel
theorem dX11_words_53 : decode cX11_words 53 = .ok (.getfield 44, 3) := by decide +kernel
theorem dX11_words_56 : decode cX11_words 56 = .ok (.iconst 0, 1) := by decide +kernel
theorem dX11_words_57 : decode cX11_words 57 = .ok (.iload_n 3, 1) := by decide +kernel
theorem dX11_words_58 : decode cX11_words 58 = .ok (.iload 4, 2) := by decide +kernel
theorem dX11_words_60 : decode cX11_words 60 = .ok (.ixor, 1) := by decide +kernel
theorem dX11_words_61 : decode cX11_words 61 = .ok (.iload 6, 2) := by decide +kernel
theorem dX11_words_63 : decode cX11_words 63 = .ok (.ixor, 1) := by decide +kernel
theorem dX11_words_64 : decode cX11_words 64 = .ok (.iastore, 1) := by decide +kernel
theorem dX11_words_65 : decode cX11_words 65 = .ok (.aload_n 0, 1) := by decide +kernel
theorem dX11_words_66 : decode cX11_words 66 = .ok (.getfield 44, 3) := by decide +kernel
theorem dX11_words_69 : decode cX11_words 69 = .ok (.iconst 1, 1) := by decide +kernel
theorem dX11_words_70 : decode cX11_words 70 = .ok (.iload_n 3, 1) := by decide +kernel
theorem dX11_words_71 : decode cX11_words 71 = .ok (.iload 5, 2) := by decide +kernel
theorem dX11_words_73 : decode cX11_words 73 = .ok (.ixor, 1) := by decide +kernel
theorem dX11_words_74 : decode cX11_words 74 = .ok (.iload 6, 2) := by decide +kernel
theorem dX11_words_76 : decode cX11_words 76 = .ok (.ixor, 1) := by decide +kernel
theorem dX11_words_77 : decode cX11_words 77 = .ok (.iastore, 1) := by decide +kernel
theorem dX11_words_78 : decode cX11_words 78 = .ok (.aload_n 0, 1) := by decide +kernel
theorem dX11_words_79 : decode cX11_words 79 = .ok (.getfield 44, 3) := by decide +kernel
theorem dX11_words_82 : decode cX11_words 82 = .ok (.iconst 2, 1) := by decide +kernel
theorem dX11_words_83 : decode cX11_words 83 = .ok (.iload_n 3, 1) := by decide +kernel
theorem dX11_words_84 : decode cX11_words 84 = .ok (.iastore, 1) := by decide +kernel
theorem dX11_words_85 : decode cX11_words 85 = .ok (.aload_n 0, 1) := by decide +kernel
theorem dX11_words_86 : decode cX11_words 86 = .ok (.getfield 44, 3) := by decide +kernel
theorem dX11_words_89 : decode cX11_words 89 = .ok (.iconst 3, 1) := by decide +kernel
theorem dX11_words_90 : decode cX11_words 90 = .ok (.iload 4, 2) := by decide +kernel
theorem dX11_words_92 : decode cX11_words 92 = .ok (.iload 5, 2) := by decide +kernel
theorem dX11_words_94 : decode cX11_words 94 = .ok (.ixor, 1) := by decide +kernel
theorem dX11_words_95 : decode cX11_words 95 = .ok (.iload 6, 2) := by decide +kernel
theorem dX11_words_97 : decode cX11_words 97 = .ok (.ixor, 1) := by decide +kernel
theorem dX11_words_98 : decode cX11_words 98 = .ok (.iastore, 1) := by decide +kernel
theorem dX11_words_99 : decode cX11_words 99 = .ok (.aload_n 0, 1) := by decide +kernel
theorem dX11_words_100 : decode cX11_words 100 = .ok (.getfield 44, 3) := by decide +kernel
theorem dX11_words_103 : decode cX11_words 103 = .ok (.iconst 4, 1) := by decide +kernel
theorem dX11_words_104 : decode cX11_words 104 = .ok (.iload 4, 2) := by decide +kernel
theorem dX11_words_106 : decode cX11_words 106 = .ok (.iastore, 1) := by decide +kernel
theorem dX11_words_107 : decode cX11_words 107 = .ok (.aload_n 0, 1) := by decide +kernel
theorem dX11_words_108 : decode cX11_words 108 = .ok (.getfield 44, 3) := by decide +kernel
theorem dX11_words_111 : decode cX11_words 111 = .ok (.iconst 5, 1) := by decide +kernel
theorem dX11_words_112 : decode cX11_words 112 = .ok (.iload 5, 2) := by decide +kernel
theorem dX11_words_114 : decode cX11_words 114 = .ok (.iastore, 1) := by decide +kernel
theorem dX11_words_115 : decode cX11_words 115 = .ok (.aload_n 0, 1) := by decide +kernel
theorem dX11_words_116 : decode cX11_words 116 = .ok (.getfield 44, 3) := by decide +kernel
theorem dX11_words_119 : decode cX11_words 119 = .ok (.bipush 6, 2) := by decide +kernel
theorem dX11_words_121 : decode cX11_words 121 = .ok (.iload 6, 2) := by decide +kernel
theorem dX11_words_123 : decode cX11_words 123 = .ok (.iastore, 1) := by decide +kernel
theorem dX11_words_124 : decode cX11_words 124 = .ok (.return_, 1) := by decide +kernel
theorem dX11_words_26 : decode cX11_words 26 = .ok (.return_, 1) := by decide +kernel
theorem dX11_words_6 : decode cX11_words 6 = .ok (.iload_n 3, 1) := by decide +kernel
theorem dX11_words_7 : decode cX11_words 7 = .ok (.iload_n 1, 1) := by decide +kernel
theorem dX11_words_8 : decode cX11_words 8 = .ok (.if_icmp .ge 18, 3) := by decide +kernel
theorem dX11_words_11 : decode cX11_words 11 = .ok (.aload_n 0, 1) := by decide +kernel
theorem dX11_words_12 : decode cX11_words 12 = .ok (.getfield 44, 3) := by decide +kernel
theorem dX11_words_15 : decode cX11_words 15 = .ok (.iload_n 3, 1) := by decide +kernel
theorem dX11_words_16 : decode cX11_words 16 = .ok (.iload_n 2, 1) := by decide +kernel
theorem dX11_words_17 : decode cX11_words 17 = .ok (.iconst 1, 1) := by decide +kernel
theorem dX11_words_18 : decode cX11_words 18 = .ok (.iand, 1) := by decide +kernel
theorem dX11_words_19 : decode cX11_words 19 = .ok (.iastore, 1) := by decide +kernel
theorem dX11_words_20 : decode cX11_words 20 = .ok (.iinc 3 1, 3) := by decide +kernel
theorem dX11_words_23 : decode cX11_words 23 = .ok (.goto (-17), 3) := by decide +kernel
theorem dX11_words_0 : decode cX11_words 0 = .ok (.iload_n 1, 1) := by decide +kernel
theorem dX11_words_1 : decode cX11_words 1 = .ok (.ifCond .le 26, 3) := by decide +kernel
theorem dX11_words_4 : decode cX11_words 4 = .ok (.iconst 0, 1) := by decide +kernel
theorem dX11_words_5 : decode cX11_words 5 = .ok (.istore_n 3, 1) := by decide +kernel
/-! the reference: pairs used, codes -/
theorem rmS_cg {S : zD} {h h' : zH} {y : Nat} (h0 : h'.1 y 10 = h.1 y 10 ∧ h'.1 y 11 = h.1 y 11) (h2 : h'.1 (y + 2) = h.1 (y + 2)) (h5 : h'.1 (y + 5) = h.1 (y + 5)) (h6 : h'.1 (y + 6) = h.1 (y + 6)) (hS : rmS S h y) : rmS S h' y := by
  unfold rmS at hS ⊢
  rw [h0.1, h0.2, h2, h5, h6]
  exact hS
theorem rmS_fr {S : zD} {h : zH} {y q : Nat} {f : Nat → Int32} (q0 : q ≠ y) (q2 : q ≠ y + 2) (q5 : q ≠ y + 5) (q6 : q ≠ y + 6) (hS : rmS S h y) : rmS S (zsW h q f) y :=
  rmS_cg ⟨by rw [zsW_n _ _ q0.symm], by rw [zsW_n _ _ q0.symm]⟩ (zsW_n _ _ q2.symm) (zsW_n _ _ q5.symm) (zsW_n _ _ q6.symm) hS
/-- the row of the pairs that are used -/
def usR (f : Nat → Bool) (n : Nat) (u : Nat → Int32) : Prop := ∀ k, k < fb_ct f n → u k = nI (sel f k n)
def ca_X11_usedBy : (zD × Nat × Int32 × Bool) → List zV := fun (S, y, g, e) => [vR 20 0 y, vI g, vI (bI e)]
def cp_X11_usedBy : (zD × Nat × Int32 × Bool) → zH → Prop := fun (S, y, g, e) h => rmS S h y ∧ vS S
def cq_X11_usedBy : (zD × Nat × Int32 × Bool) → zH → Option zV → zH → Prop := fun (S, y, g, e) h r h' => r = some (vI (nI (fb_ct (fun p => e || decide (g < mrg S p)) (dP S)))) ∧ ∃ u : Nat → Int32, h' = zsW h (y + 9) u ∧ usR (fun p => e || decide (g < mrg S p)) (dP S) u
theorem rc_X11_usedBy : ∀ x : (zD × Nat × Int32 × Bool), ∃ (j a : Nat) (As : List zV), ca_X11_usedBy x = vR (10 + 10) j a :: As := by
  rintro ⟨S, y, g, e⟩
  exact ⟨_, _, _, rfl⟩
set_option maxHeartbeats 4000000 in
set_option maxRecDepth 100000 in
theorem m_X11_usedBy : zM yX11_usedBy cX11_usedBy 5 (some .int) ({ frames := 6, cells := 0, slots := 0, locals := 134 } : Room) ((ca_X11_usedBy, cp_X11_usedBy, cq_X11_usedBy) : zC (zD × Nat × Int32 × Bool)) := by
  refine zM_of (by decide) ?_
  rintro X Y ⟨S, y, g, e⟩ h ⟨hS, hv⟩ O E hR
  have hS : rmS S h y := hS
  have hP28 := hS.2.1.2
  obtain ⟨f, ef⟩ : ∃ f : Nat → Bool, f = fun p => e || decide (g < mrg S p) := ⟨_, rfl⟩
  have B_48 := zr_iload_n (X := X) (Y := Y) (u := 0) (v := 0) O dX11_usedBy_48 rfl (zr_ireturn O E (Nat.le_refl _) (Nat.le_refl _) dX11_usedBy_49)
  have L_5 : ∀ nn : Nat, zSd X Y 0 0 5 ((fun k ls st h1 => ∃ (i : Nat) (y3 y4 : Int32) (u : Nat → Int32), k = dP S - i ∧ i ≤ dP S ∧ ls = [some (vR 20 0 y), some (vI g), some (vI (bI e)), some (vI y3), some (vI y4)] ∧ y3 = nI (fb_ct f i) ∧ y4 = nI i ∧ st = [] ∧ h1 = zsW h (y + 9) u ∧ usR f i u : Nat → zT) nn) := by
    refine zSd_loop (fun nn ih => ?_)
    have B_42 := zr_iinc (X := X) (Y := Y) (u := 0) (v := 0) (c := 1) O dX11_usedBy_42 rfl (zr_goto (tgt := 5) O dX11_usedBy_45 rfl ih)
    have B_31 := zr_aload_n (X := X) (Y := Y) (u := 0) (v := 0) O dX11_usedBy_31 rfl (zr_gS (ci := 10) (j := 12) (off := 9) (t := 1) (n := 28) O zc_10 (by decide) rfl tw_1199 dX11_usedBy_32 (zr_iload_n O dX11_usedBy_35 rfl (zr_iload O dX11_usedBy_36 (zr_iast O dX11_usedBy_38 (zr_iinc (c := 1) O dX11_usedBy_39 rfl (B_42))))))
    have B_5 := zr_iload (X := X) (Y := Y) (u := 0) (v := 0) O dX11_usedBy_5 (zr_aload_n O dX11_usedBy_7 rfl (zr_gI (ci := 10) (j := 11) O zc_10 (by decide) rfl tw_1198 dX11_usedBy_8 (zr_icge (tgt := 48) O dX11_usedBy_11 rfl B_48 (zr_iload_n O dX11_usedBy_14 rfl (zr_ifne (tgt := 31) O dX11_usedBy_15 rfl B_31 (zr_aload_n O dX11_usedBy_18 rfl (zr_iload O dX11_usedBy_19 (zr_iload_n O dX11_usedBy_21 rfl (zr_cI (zr_cV (ci := 10) (n := 2) O m_X11_isSteady (bn_X11_isSteady _ ⟨rfl, rfl⟩) vw_X11_isSteady tw_1403 rc_X11_isSteady (zrm hR rfl rfl) dX11_usedBy_22 (zr_ifne (tgt := 31) O dX11_usedBy_25 rfl B_31 (zr_goto (tgt := 42) O dX11_usedBy_28 rfl B_42))))))))))))
    refine zSd_weak B_5 (fun ls st h1 t => ?_)
    obtain ⟨i, y3, y4, u, rfl, hi, rfl, rfl, rfl, rfl, rfl, hu⟩ := t
    have hS1 : rmS S (zsW h (y + 9) u) y := rmS_fr (by omega) (by omega) (by omega) (by omega) hS
    have hct := fb_ct_le f i
    refine ⟨fun c => ⟨zri ?_, u, rfl, ?_⟩, fun c => ?_⟩
    · rw [hS1.2.1.1] at c
      have := (nI_leI (by omega) (by omega)).mp c
      have hi2 : i = dP S := by omega
      subst hi2
      rw [← ef]
    · rw [hS1.2.1.1] at c
      have := (nI_leI (by omega) (by omega)).mp c
      have hi2 : i = dP S := by omega
      subst hi2
      rw [← ef]; exact hu
    · rw [hS1.2.1.1] at c
      have hi2 : i < dP S := Nat.not_le.mp (fun z => c ((nI_leI (by omega) (by omega)).mpr z))
      have yes : f i = true → ∃ j : Nat, nI (fb_ct f i) = nI j ∧ j < 28 ∧ ∃ k_1, k_1 < dP S - i ∧ ∃ (i_1 : Nat) (y3 y4 : Int32) (u_1 : Nat → Int32), k_1 = dP S - i_1 ∧ i_1 ≤ dP S ∧ ([some (vR 20 0 y), some (vI g), some (vI (bI e)), some (vI (nI (fb_ct f i) + 1)), some (vI (nI i + 1))] : zL) = [some (vR 20 0 y), some (vI g), some (vI (bI e)), some (vI y3), some (vI y4)] ∧ y3 = nI (fb_ct f i_1) ∧ y4 = nI i_1 ∧ ([] : List zV) = [] ∧ zsI (zsW h (y + 9) u) (y + 9) j (nI i) = zsW h (y + 9) u_1 ∧ usR f i_1 u_1 := by
        intro hf
        refine ⟨fb_ct f i, rfl, by omega, dP S - (i + 1), by omega, i + 1, _, _, va_up u (fb_ct f i) (nI i), rfl, by omega, rfl, ?_, nI_1 i, rfl, ?_, fun k hk => ?_⟩
        · rw [fb_ct_succ, hf, nI_1]; rfl
        · rw [zsI_W, zsW_s, zsW_W]
        · rw [fb_ct_succ, hf] at hk
          simp only [if_true] at hk
          rw [sel]
          by_cases ck : k < fb_ct f i
          · rw [if_pos ck, zup_n _ _ (by omega)]; exact hu k ck
          · rw [if_neg ck, show k = fb_ct f i by omega, zup_s]
      refine ⟨fun d => yes ?_, fun d => ⟨(S, y, i, g), rfl, ⟨hS1, hi2, hv⟩, fun q => yes ?_, fun q => ?_⟩⟩
      · have he : e = true := by
          cases hb : e with
          | true => rfl
          | false => exact absurd ((bI_0 _).mpr hb) d
        rw [ef]; show (e || _) = true; rw [he]; rfl
      · replace q : ¬ bI (decide (g < mrg S i)) = 0 := q
        have hg : decide (g < mrg S i) = true := by
          cases hb : decide (g < mrg S i) with
          | true => rfl
          | false => exact absurd ((bI_0 _).mpr hb) q
        rw [ef]; show (e || _) = true; rw [hg, Bool.or_true]
      · replace q : bI (decide (g < mrg S i)) = 0 := q
        have hf : f i = false := by
          rw [ef]; show (e || _) = false; rw [(bI_0 _).mp d, (bI_0 _).mp q]; rfl
        refine ⟨dP S - (i + 1), by omega, i + 1, _, _, u, rfl, by omega, rfl, ?_, nI_1 i, rfl, rfl, fun k hk => ?_⟩
        · rw [fb_ct_succ, hf]; rfl
        · rw [fb_ct_succ, hf] at hk
          simp only [Bool.false_eq_true, if_false, Nat.add_zero] at hk
          rw [sel, if_pos hk]; exact hu k hk
  have B_5 := zSd_any L_5
  have B_0 := zr_iconst (X := X) (Y := Y) (u := 0) (v := 0) (x := 0) O dX11_usedBy_0 rfl (zr_istore_n O dX11_usedBy_1 rfl (zr_iconst (x := 0) O dX11_usedBy_2 rfl (zr_istore O dX11_usedBy_3 (B_5))))
  refine ⟨rfl, Nat.le_of_ble_eq_true rfl, _, B_0, ?_⟩
  exact ⟨dP S - 0, 0, _, _, h.1 (y + 9), rfl, Nat.zero_le _, rfl, rfl, rfl, rfl, (zsW_self _ _).symm, fun k hk => absurd hk (Nat.not_lt_zero _)⟩
def ca_X11_usedNow : (zD × Nat) → List zV := fun (S, y) => [vR 20 0 y]
def cp_X11_usedNow : (zD × Nat) → zH → Prop := fun (S, y) h => rmS S h y ∧ vS S
def cq_X11_usedNow : (zD × Nat) → zH → Option zV → zH → Prop := fun (S, y) h r h' => r = some (vI (nI (fb_ct (us S) (dP S)))) ∧ ∃ u : Nat → Int32, h' = zsW h (y + 9) u ∧ usR (us S) (dP S) u
theorem rc_X11_usedNow : ∀ x : (zD × Nat), ∃ (j a : Nat) (As : List zV), ca_X11_usedNow x = vR (10 + 10) j a :: As := by
  rintro ⟨S, y⟩
  exact ⟨_, _, _, rfl⟩
set_option maxHeartbeats 4000000 in
set_option maxRecDepth 100000 in
theorem m_X11_usedNow : zM yX11_usedNow cX11_usedNow 1 (some .int) ({ frames := 7, cells := 0, slots := 0, locals := 158 } : Room) ((ca_X11_usedNow, cp_X11_usedNow, cq_X11_usedNow) : zC (zD × Nat)) := by
  refine zM_of (by decide) ?_
  rintro X Y ⟨S, y⟩ h ⟨hS, hv⟩ O E hR
  have B_22 := zr_cV (X := X) (Y := Y) (u := 0) (v := 0) (ci := 10) (n := 2) O m_X11_usedBy (bn_X11_usedBy _ ⟨rfl, rfl⟩) vw_X11_usedBy tw_1399 rc_X11_usedBy (zrm hR rfl rfl) dX11_usedNow_22 (zr_ireturn O E (Nat.le_refl _) (Nat.le_refl _) dX11_usedNow_25)
  have B_21 := zr_iconst (X := X) (Y := Y) (u := 0) (v := 0) (x := 0) O dX11_usedNow_21 rfl (B_22)
  have B_0 := zr_aload_n (X := X) (Y := Y) (u := 0) (v := 0) O dX11_usedNow_0 rfl (zr_aload_n O dX11_usedNow_1 rfl (zr_gS (ci := 10) (j := 2) (off := 2) (t := 1) (n := 218) O zc_10 (by decide) rfl tw_1189 dX11_usedNow_2 (zr_iconst (x := 0) O dX11_usedNow_5 rfl (zr_iald O dX11_usedNow_6 (zr_aload_n O dX11_usedNow_7 rfl (zr_gS (ci := 10) (j := 2) (off := 2) (t := 1) (n := 218) O zc_10 (by decide) rfl tw_1189 dX11_usedNow_8 (zr_iconst (x := 3) O dX11_usedNow_11 rfl (zr_iald O dX11_usedNow_12 (zr_iconst (x := 1) O dX11_usedNow_13 rfl (zr_icne (tgt := 21) O dX11_usedNow_14 rfl B_21 (zr_iconst (x := 1) O dX11_usedNow_17 rfl (zr_goto (tgt := 22) O dX11_usedNow_18 rfl B_22))))))))))))
  refine ⟨rfl, Nat.le_of_ble_eq_true rfl, _, B_0, ?_⟩
  have hS : rmS S h y := hS
  have t0 := hS.2.2.2.2 0 (by decide)
  have t3 := hS.2.2.2.2 3 (by decide)
  refine ⟨0, rfl, by decide, 3, rfl, by decide, fun c => ⟨(S, y, dT S 0, decide (dT S 3 = 1)), ?_, ⟨hS, hv⟩, fun r h2 hq => ?_⟩, fun c => ⟨(S, y, dT S 0, decide (dT S 3 = 1)), ?_, ⟨hS, hv⟩, fun r h2 hq => ?_⟩⟩
  · rw [t3] at c
    rw [t0]
    show [vR 20 0 y, vI (dT S 0), vI 0] = [vR 20 0 y, vI (dT S 0), vI (bI (decide (dT S 3 = 1)))]
    rw [decide_eq_false c]; rfl
  · obtain ⟨rfl, hq⟩ := hq
    exact ⟨rfl, hq⟩
  · rw [t3] at c
    rw [t0]
    show [vR 20 0 y, vI (dT S 0), vI 1] = [vR 20 0 y, vI (dT S 0), vI (bI (decide (dT S 3 = 1)))]
    rw [decide_eq_true c]; rfl
  · obtain ⟨rfl, hq⟩ := hq
    exact ⟨rfl, hq⟩
def ca_X11_wideBy : (Nat) → List zV := fun r => [vI (nI r)]
def cp_X11_wideBy : (Nat) → zH → Prop := fun r _ => r < 8
def cf_X11_wideBy : (Nat) → zH → Int32 := fun r _ => nI (lnR r)
set_option maxHeartbeats 4000000 in
set_option maxRecDepth 100000 in
theorem m_X11_wideBy : zM yX11_wideBy cX11_wideBy 1 (some .int) ({ frames := 0, cells := 0, slots := 0, locals := 0 } : Room) (zcI ca_X11_wideBy cp_X11_wideBy cf_X11_wideBy) := by
  refine zM_of (by decide) ?_
  rintro X Y r h hr O E hR
  have B_10 := zr_ireturn (X := X) (Y := Y) (u := 0) (v := 0) O E (Nat.le_refl _) (Nat.le_refl _) dX11_wideBy_10
  have B_9 := zr_iload_n (X := X) (Y := Y) (u := 0) (v := 0) O dX11_wideBy_9 rfl (B_10)
  have B_0 := zr_iload_n (X := X) (Y := Y) (u := 0) (v := 0) O dX11_wideBy_0 rfl (zr_ifne (tgt := 9) O dX11_wideBy_1 rfl B_9 (zr_bipush (x := (7)) O dX11_wideBy_4 (by decide) (zr_goto (tgt := 10) O dX11_wideBy_6 rfl B_10)))
  refine ⟨rfl, Nat.le_of_ble_eq_true rfl, _, B_0, ?_⟩
  have hr : r < 8 := hr
  refine ⟨fun c => ⟨zri ?_, rfl⟩, fun c => ⟨zri ?_, rfl⟩⟩
  · show nI r = nI (lnR r)
    rw [lnR, if_neg (fun z => c (by rw [z]; rfl))]
  · show (7 : Int32) = nI (lnR r)
    rw [lnR, if_pos ((nI_eq (b := 0) (by omega) (by omega)).mp c)]; rfl
def ca_X11_givesBy : (Nat) → List zV := fun r => [vI (nI r)]
def cp_X11_givesBy : (Nat) → zH → Prop := fun r _ => r < 8
def cf_X11_givesBy : (Nat) → zH → Int32 := fun r _ => nI (btR r)
set_option maxHeartbeats 4000000 in
set_option maxRecDepth 100000 in
theorem m_X11_givesBy : zM yX11_givesBy cX11_givesBy 1 (some .int) ({ frames := 0, cells := 0, slots := 0, locals := 0 } : Room) (zcI ca_X11_givesBy cp_X11_givesBy cf_X11_givesBy) := by
  refine zM_of (by decide) ?_
  rintro X Y r h hr O E hR
  have B_9 := zr_ireturn (X := X) (Y := Y) (u := 0) (v := 0) O E (Nat.le_refl _) (Nat.le_refl _) dX11_givesBy_9
  have B_8 := zr_iconst (X := X) (Y := Y) (u := 0) (v := 0) (x := 1) O dX11_givesBy_8 rfl (B_9)
  have B_0 := zr_iload_n (X := X) (Y := Y) (u := 0) (v := 0) O dX11_givesBy_0 rfl (zr_ifne (tgt := 8) O dX11_givesBy_1 rfl B_8 (zr_iconst (x := 4) O dX11_givesBy_4 rfl (zr_goto (tgt := 9) O dX11_givesBy_5 rfl B_9)))
  refine ⟨rfl, Nat.le_of_ble_eq_true rfl, _, B_0, ?_⟩
  have hr : r < 8 := hr
  refine ⟨fun c => ⟨zri ?_, rfl⟩, fun c => ⟨zri ?_, rfl⟩⟩
  · show (1 : Int32) = nI (btR r)
    rw [btR, if_neg (fun z => c (by rw [z]; rfl))]; rfl
  · show (4 : Int32) = nI (btR r)
    rw [btR, if_pos ((nI_eq (b := 0) (by omega) (by omega)).mp c)]; rfl
theorem vRp_8 {r : Nat} (h : vRp r) : r < 8 := by unfold vRp at h; omega
theorem mn2_n {a b : Nat} (ha : a < 2 ^ 31) (hb : b < 2 ^ 31) : mn2 (nI a) (nI b) = nI (min a b) := by
  unfold mn2
  by_cases h : b < a
  · rw [if_pos ((nI_ltI hb ha).mpr h), Nat.min_eq_right (by omega)]
  · rw [if_neg (fun z => h ((nI_ltI hb ha).mp z)), Nat.min_eq_left (by omega)]
def ca_X11_blocksOf : (Nat × Nat × Nat) → List zV := fun (y, n, r) => [vR 20 0 y, vI (nI n), vI (nI r)]
def cp_X11_blocksOf : (Nat × Nat × Nat) → zH → Prop := fun (y, n, r) _ => n ≤ 28 ∧ vRp r
def cf_X11_blocksOf : (Nat × Nat × Nat) → zH → Int32 := fun (y, n, r) _ => nI (bkc r n)
theorem rc_X11_blocksOf : ∀ x : (Nat × Nat × Nat), ∃ (j a : Nat) (As : List zV), ca_X11_blocksOf x = vR (10 + 10) j a :: As := by
  rintro ⟨y, n, r⟩
  exact ⟨_, _, _, rfl⟩
set_option maxHeartbeats 4000000 in
set_option maxRecDepth 100000 in
theorem m_X11_blocksOf : zM yX11_blocksOf cX11_blocksOf 3 (some .int) ({ frames := 1, cells := 0, slots := 0, locals := 21 } : Room) (zcI ca_X11_blocksOf cp_X11_blocksOf cf_X11_blocksOf) := by
  refine zM_of (by decide) ?_
  rintro X Y ⟨y, n, r⟩ h ⟨hn, hr⟩ O E hR
  have B_0 := zr_iload_n (X := X) (Y := Y) (u := 0) (v := 0) O dX11_blocksOf_0 rfl (zr_iload_n O dX11_blocksOf_1 rfl (zr_cI (zr_cS (n := 1) O m_X11_wideBy (bn_X11_wideBy _ ⟨rfl, rfl⟩) tw_1439 tw_1438 (zrm hR rfl rfl) dX11_blocksOf_2 (zr_idiv O dX11_blocksOf_5 (zr_bipush (x := (16)) O dX11_blocksOf_6 (by decide) (zr_iload_n O dX11_blocksOf_8 rfl (zr_cI (zr_cS (n := 1) O m_X11_givesBy (bn_X11_givesBy _ ⟨rfl, rfl⟩) tw_1442 tw_1441 (zrm hR rfl rfl) dX11_blocksOf_9 (zr_idiv O dX11_blocksOf_12 (zr_min O zwm tw_1339 (zrm hR rfl rfl) dX11_blocksOf_13 (zr_ireturn O E (Nat.le_refl _) (Nat.le_refl _) dX11_blocksOf_16)))))))))))
  refine ⟨rfl, Nat.le_of_ble_eq_true rfl, _, B_0, ?_⟩
  have hn : n ≤ 28 := hn
  have hln := lnR_pos hr
  have d1 := Nat.div_le_self n (lnR r)
  have d2 := Nat.div_le_self 16 (btR r)
  refine ⟨r, rfl, vRp_8 hr, nI_ne0 (by omega) (by omega), r, rfl, vRp_8 hr, nI_ne0 (by omega) (by omega), zri ?_, rfl⟩
  show mn2 (nI n / nI (lnR r)) ((16 : Int32) / nI (btR r)) = nI (bkc r n)
  rw [pk_div (by omega) (by omega) (by omega), show (16 : Int32) = nI 16 from rfl, pk_div (by omega) (by omega) (by omega), mn2_n (by omega) (by omega)]
  rfl
def ca_X11_blocks : (zD × Nat) → List zV := fun (S, y) => [vR 20 0 y]
def cp_X11_blocks : (zD × Nat) → zH → Prop := fun (S, y) h => rmS S h y ∧ vS S
def cq_X11_blocks : (zD × Nat) → zH → Option zV → zH → Prop := fun (S, y) h r h' => r = some (vI (nI (nbk S))) ∧ ∃ u : Nat → Int32, h' = zsW h (y + 9) u ∧ usR (us S) (dP S) u
theorem rc_X11_blocks : ∀ x : (zD × Nat), ∃ (j a : Nat) (As : List zV), ca_X11_blocks x = vR (10 + 10) j a :: As := by
  rintro ⟨S, y⟩
  exact ⟨_, _, _, rfl⟩
set_option maxHeartbeats 4000000 in
set_option maxRecDepth 100000 in
theorem m_X11_blocks : zM yX11_blocks cX11_blocks 1 (some .int) ({ frames := 8, cells := 0, slots := 0, locals := 178 } : Room) ((ca_X11_blocks, cp_X11_blocks, cq_X11_blocks) : zC (zD × Nat)) := by
  refine zM_of (by decide) ?_
  rintro X Y ⟨S, y⟩ h ⟨hS, hv⟩ O E hR
  have B_0 := zr_aload_n (X := X) (Y := Y) (u := 0) (v := 0) O dX11_blocks_0 rfl (zr_aload_n O dX11_blocks_1 rfl (zr_cV (ci := 10) (n := 0) O m_X11_usedNow (bn_X11_usedNow _ ⟨rfl, rfl⟩) vw_X11_usedNow tw_1395 rc_X11_usedNow (zrm hR rfl rfl) dX11_blocks_2 (zr_aload_n O dX11_blocks_5 rfl (zr_gS (ci := 10) (j := 2) (off := 2) (t := 1) (n := 218) O zc_10 (by decide) rfl tw_1189 dX11_blocks_6 (zr_iconst (x := 4) O dX11_blocks_9 rfl (zr_iald O dX11_blocks_10 (zr_cI (zr_cV (ci := 10) (n := 2) O m_X11_blocksOf (bn_X11_blocksOf _ ⟨rfl, rfl⟩) vw_X11_blocksOf tw_1434 rc_X11_blocksOf (zrm hR rfl rfl) dX11_blocks_11 (zr_ireturn O E (Nat.le_refl _) (Nat.le_refl _) dX11_blocks_14)))))))))
  refine ⟨rfl, Nat.le_of_ble_eq_true rfl, _, B_0, ?_⟩
  have hS : rmS S h y := hS
  have hP28 := hS.2.1.2
  have hv : vS S := hv
  have hct := fb_ct_le (us S) (dP S)
  refine ⟨(S, y), rfl, ⟨hS, hv⟩, fun r h2 hq => ?_⟩
  obtain ⟨rfl, u, rfl, hu⟩ := hq
  have t4 : (zsW h (y + 9) u).1 (y + 2) 4 = nI (dR S) := by rw [zsW_n _ _ (by omega), hS.2.2.2.2 4 (by decide)]; exact hv.2.2.2.2.2.1
  exact ⟨4, rfl, by decide, (y, fb_ct (us S) (dP S), dR S), by rw [t4]; rfl, ⟨by show fb_ct (us S) (dP S) ≤ 28; omega, hv.2.2.2.2.2.2⟩, rfl, u, rfl, hu⟩
def ca_X11_secretBits : (zD × Nat) → List zV := fun (S, y) => [vR 20 0 y]
def cp_X11_secretBits : (zD × Nat) → zH → Prop := fun (S, y) h => rmS S h y ∧ vS S
def cq_X11_secretBits : (zD × Nat) → zH → Option zV → zH → Prop := fun (S, y) h r h' => r = some (vI (nI (nbk S * btR (dR S)))) ∧ ∃ u : Nat → Int32, h' = zsW h (y + 9) u ∧ usR (us S) (dP S) u
theorem rc_X11_secretBits : ∀ x : (zD × Nat), ∃ (j a : Nat) (As : List zV), ca_X11_secretBits x = vR (10 + 10) j a :: As := by
  rintro ⟨S, y⟩
  exact ⟨_, _, _, rfl⟩
set_option maxHeartbeats 4000000 in
set_option maxRecDepth 100000 in
theorem m_X11_secretBits : zM yX11_secretBits cX11_secretBits 1 (some .int) ({ frames := 9, cells := 0, slots := 0, locals := 198 } : Room) ((ca_X11_secretBits, cp_X11_secretBits, cq_X11_secretBits) : zC (zD × Nat)) := by
  refine zM_of (by decide) ?_
  rintro X Y ⟨S, y⟩ h ⟨hS, hv⟩ O E hR
  have B_0 := zr_aload_n (X := X) (Y := Y) (u := 0) (v := 0) O dX11_secretBits_0 rfl (zr_cV (ci := 10) (n := 0) O m_X11_blocks (bn_X11_blocks _ ⟨rfl, rfl⟩) vw_X11_blocks tw_1391 rc_X11_blocks (zrm hR rfl rfl) dX11_secretBits_1 (zr_aload_n O dX11_secretBits_4 rfl (zr_gS (ci := 10) (j := 2) (off := 2) (t := 1) (n := 218) O zc_10 (by decide) rfl tw_1189 dX11_secretBits_5 (zr_iconst (x := 4) O dX11_secretBits_8 rfl (zr_iald O dX11_secretBits_9 (zr_cI (zr_cS (n := 1) O m_X11_givesBy (bn_X11_givesBy _ ⟨rfl, rfl⟩) tw_1442 tw_1441 (zrm hR rfl rfl) dX11_secretBits_10 (zr_imul O dX11_secretBits_13 (zr_ireturn O E (Nat.le_refl _) (Nat.le_refl _) dX11_secretBits_14)))))))))
  refine ⟨rfl, Nat.le_of_ble_eq_true rfl, _, B_0, ?_⟩
  have hS : rmS S h y := hS
  have hv : vS S := hv
  refine ⟨(S, y), rfl, ⟨hS, hv⟩, fun r h2 hq => ?_⟩
  obtain ⟨rfl, u, rfl, hu⟩ := hq
  have t4 : (zsW h (y + 9) u).1 (y + 2) 4 = nI (dR S) := by rw [zsW_n _ _ (by omega), hS.2.2.2.2 4 (by decide)]; exact hv.2.2.2.2.2.1
  exact ⟨4, rfl, by decide, dR S, by rw [t4]; rfl, vRp_8 hv.2.2.2.2.2.2, zri (nI_mul _ _), u, rfl, hu⟩
def ca_X11_steadyMany : (zD × Nat) → List zV := fun (S, y) => [vR 20 0 y]
def cp_X11_steadyMany : (zD × Nat) → zH → Prop := fun (S, y) h => rmS S h y ∧ vS S
def cf_X11_steadyMany : (zD × Nat) → zH → Int32 := fun (S, y) _ => nI (fb_ct (std S) (dP S))
theorem rc_X11_steadyMany : ∀ x : (zD × Nat), ∃ (j a : Nat) (As : List zV), ca_X11_steadyMany x = vR (10 + 10) j a :: As := by
  rintro ⟨S, y⟩
  exact ⟨_, _, _, rfl⟩
set_option maxHeartbeats 4000000 in
set_option maxRecDepth 100000 in
theorem m_X11_steadyMany : zM yX11_steadyMany cX11_steadyMany 3 (some .int) ({ frames := 6, cells := 0, slots := 0, locals := 134 } : Room) (zcI ca_X11_steadyMany cp_X11_steadyMany cf_X11_steadyMany) := by
  refine zM_of (by decide) ?_
  rintro X Y ⟨S, y⟩ h ⟨hS, hv⟩ O E hR
  have hS : rmS S h y := hS
  have hP28 := hS.2.1.2
  have t0 := hS.2.2.2.2 0 (by decide)
  have B_40 := zr_iload_n (X := X) (Y := Y) (u := 0) (v := 0) O dX11_steadyMany_40 rfl (zr_ireturn O E (Nat.le_refl _) (Nat.le_refl _) dX11_steadyMany_41)
  have L_4 : ∀ nn : Nat, zSd X Y 0 0 4 ((fun k ls st h1 => ∃ (i : Nat) (u z : Int32), k = dP S - i ∧ i ≤ dP S ∧ ls = [some (vR 20 0 y), some (vI u), some (vI z)] ∧ u = nI (fb_ct (std S) i) ∧ z = nI i ∧ st = [] ∧ h = h1 : Nat → zT) nn) := by
    refine zSd_loop (fun nn ih => ?_)
    have B_32 := zr_iadd (X := X) (Y := Y) (u := 0) (v := 0) O dX11_steadyMany_32 (zr_istore_n O dX11_steadyMany_33 rfl (zr_iinc (c := 1) O dX11_steadyMany_34 rfl (zr_goto (tgt := 4) O dX11_steadyMany_37 rfl ih)))
    have B_31 := zr_iconst (X := X) (Y := Y) (u := 0) (v := 0) (x := 0) O dX11_steadyMany_31 rfl (B_32)
    have B_4 := zr_iload_n (X := X) (Y := Y) (u := 0) (v := 0) O dX11_steadyMany_4 rfl (zr_aload_n O dX11_steadyMany_5 rfl (zr_gI (ci := 10) (j := 11) O zc_10 (by decide) rfl tw_1198 dX11_steadyMany_6 (zr_icge (tgt := 40) O dX11_steadyMany_9 rfl B_40 (zr_iload_n O dX11_steadyMany_12 rfl (zr_aload_n O dX11_steadyMany_13 rfl (zr_iload_n O dX11_steadyMany_14 rfl (zr_aload_n O dX11_steadyMany_15 rfl (zr_gS (ci := 10) (j := 2) (off := 2) (t := 1) (n := 218) O zc_10 (by decide) rfl tw_1189 dX11_steadyMany_16 (zr_iconst (x := 0) O dX11_steadyMany_19 rfl (zr_iald O dX11_steadyMany_20 (zr_cI (zr_cV (ci := 10) (n := 2) O m_X11_isSteady (bn_X11_isSteady _ ⟨rfl, rfl⟩) vw_X11_isSteady tw_1403 rc_X11_isSteady (zrm hR rfl rfl) dX11_steadyMany_21 (zr_ifeq (tgt := 31) O dX11_steadyMany_24 rfl B_31 (zr_iconst (x := 1) O dX11_steadyMany_27 rfl (zr_goto (tgt := 32) O dX11_steadyMany_28 rfl B_32)))))))))))))))
    refine zSd_weak B_4 (fun ls st h1 t => ?_)
    obtain ⟨i, u, z, rfl, hi, rfl, rfl, rfl, rfl, rfl⟩ := t
    refine ⟨fun c => ⟨zri ?_, rfl⟩, fun c => ?_⟩
    · rw [hS.2.1.1] at c
      have := (nI_leI (by omega) (by omega)).mp c
      rw [show i = dP S by omega]; rfl
    · rw [hS.2.1.1] at c
      have hi2 : i < dP S := Nat.not_le.mp (fun z => c ((nI_leI (by omega) (by omega)).mpr z))
      refine ⟨0, rfl, by decide, (S, y, i, dT S 0), by rw [t0]; rfl, ⟨hS, hi2, hv⟩, zmg (k := _) (c := bI (decide (dT S 0 < mrg S i)) = 0) (x := 0) (y := 1) ?_⟩
      refine ⟨dP S - (i + 1), by omega, i + 1, _, _, rfl, by omega, rfl, ?_, nI_1 i, rfl, rfl⟩
      rw [fb_ct_succ]
      cases hb : std S i with
      | true => rw [show decide (dT S 0 < mrg S i) = true from hb]; exact nI_1 _
      | false => rw [show decide (dT S 0 < mrg S i) = false from hb]; exact Int32.add_zero _
  have B_4 := zSd_any L_4
  have B_0 := zr_iconst (X := X) (Y := Y) (u := 0) (v := 0) (x := 0) O dX11_steadyMany_0 rfl (zr_istore_n O dX11_steadyMany_1 rfl (zr_iconst (x := 0) O dX11_steadyMany_2 rfl (zr_istore_n O dX11_steadyMany_3 rfl (B_4))))
  refine ⟨rfl, Nat.le_of_ble_eq_true rfl, _, B_0, ?_⟩
  exact ⟨dP S - 0, 0, _, _, rfl, Nat.zero_le _, rfl, rfl, rfl, rfl, rfl⟩
def ca_X11_pairsWith : (zD × Nat × Nat) → List zV := fun (S, y, r) => [vR 20 0 y, vI (nI r)]
def cp_X11_pairsWith : (zD × Nat × Nat) → zH → Prop := fun (S, y, r) h => rmS S h y ∧ r < 10
def cf_X11_pairsWith : (zD × Nat × Nat) → zH → Int32 := fun (S, y, r) _ => nI (pwr S r)
theorem rc_X11_pairsWith : ∀ x : (zD × Nat × Nat), ∃ (j a : Nat) (As : List zV), ca_X11_pairsWith x = vR (10 + 10) j a :: As := by
  rintro ⟨S, y, r⟩
  exact ⟨_, _, _, rfl⟩
set_option maxHeartbeats 4000000 in
set_option maxRecDepth 100000 in
theorem m_X11_pairsWith : zM yX11_pairsWith cX11_pairsWith 4 (some .int) ({ frames := 0, cells := 0, slots := 0, locals := 0 } : Room) (zcI ca_X11_pairsWith cp_X11_pairsWith cf_X11_pairsWith) := by
  refine zM_of (by decide) ?_
  rintro X Y ⟨S, y, r⟩ h ⟨hS, hr⟩ O E hR
  have hS : rmS S h y := hS
  have hr : r < 10 := hr
  have hP28 := hS.2.1.2
  have hN10 := hS.1.2
  have B_46 := zr_iload_n (X := X) (Y := Y) (u := 0) (v := 0) O dX11_pairsWith_46 rfl (zr_ireturn O E (Nat.le_refl _) (Nat.le_refl _) dX11_pairsWith_47)
  have L_4 : ∀ nn : Nat, zSd X Y 0 0 4 ((fun k ls st h1 => ∃ (i : Nat) (u z : Int32), k = dP S - i ∧ i ≤ dP S ∧ ls = [some (vR 20 0 y), some (vI (nI r)), some (vI u), some (vI z)] ∧ u = nI (fb_ct (fun i => decide (dF S i = r ∨ dS S i = r)) i) ∧ z = nI i ∧ st = [] ∧ h = h1 : Nat → zT) nn) := by
    refine zSd_loop (fun nn ih => ?_)
    have B_38 := zr_iadd (X := X) (Y := Y) (u := 0) (v := 0) O dX11_pairsWith_38 (zr_istore_n O dX11_pairsWith_39 rfl (zr_iinc (c := 1) O dX11_pairsWith_40 rfl (zr_goto (tgt := 4) O dX11_pairsWith_43 rfl ih)))
    have B_37 := zr_iconst (X := X) (Y := Y) (u := 0) (v := 0) (x := 0) O dX11_pairsWith_37 rfl (B_38)
    have B_33 := zr_iconst (X := X) (Y := Y) (u := 0) (v := 0) (x := 1) O dX11_pairsWith_33 rfl (zr_goto (tgt := 38) O dX11_pairsWith_34 rfl B_38)
    have B_4 := zr_iload_n (X := X) (Y := Y) (u := 0) (v := 0) O dX11_pairsWith_4 rfl (zr_aload_n O dX11_pairsWith_5 rfl (zr_gI (ci := 10) (j := 11) O zc_10 (by decide) rfl tw_1198 dX11_pairsWith_6 (zr_icge (tgt := 46) O dX11_pairsWith_9 rfl B_46 (zr_iload_n O dX11_pairsWith_12 rfl (zr_aload_n O dX11_pairsWith_13 rfl (zr_gS (ci := 10) (j := 5) (off := 5) (t := 1) (n := 28) O zc_10 (by decide) rfl tw_1192 dX11_pairsWith_14 (zr_iload_n O dX11_pairsWith_17 rfl (zr_iald O dX11_pairsWith_18 (zr_iload_n O dX11_pairsWith_19 rfl (zr_iceq (tgt := 33) O dX11_pairsWith_20 rfl B_33 (zr_aload_n O dX11_pairsWith_23 rfl (zr_gS (ci := 10) (j := 6) (off := 6) (t := 1) (n := 28) O zc_10 (by decide) rfl tw_1193 dX11_pairsWith_24 (zr_iload_n O dX11_pairsWith_27 rfl (zr_iald O dX11_pairsWith_28 (zr_iload_n O dX11_pairsWith_29 rfl (zr_icne (tgt := 37) O dX11_pairsWith_30 rfl B_37 (B_33)))))))))))))))))
    refine zSd_weak B_4 (fun ls st h1 t => ?_)
    obtain ⟨i, u, z, rfl, hi, rfl, rfl, rfl, rfl, rfl⟩ := t
    refine ⟨fun c => ⟨zri ?_, rfl⟩, fun c => ?_⟩
    · rw [hS.2.1.1] at c
      have := (nI_leI (by omega) (by omega)).mp c
      rw [show i = dP S by omega]; rfl
    · rw [hS.2.1.1] at c
      have hi2 : i < dP S := Nat.not_le.mp (fun z => c ((nI_leI (by omega) (by omega)).mpr z))
      obtain ⟨⟨f1, f2⟩, s1, s2⟩ := hS.2.2.2.1 i hi2
      have nx : ∀ v : Int32, nI (fb_ct (fun i => decide (dF S i = r ∨ dS S i = r)) i) + v = nI (fb_ct (fun i => decide (dF S i = r ∨ dS S i = r)) (i + 1)) → ∃ k_1, k_1 < dP S - i ∧ ∃ (i_1 : Nat) (u z : Int32), k_1 = dP S - i_1 ∧ i_1 ≤ dP S ∧ ([some (vR 20 0 y), some (vI (nI r)), some (vI (nI (fb_ct (fun i => decide (dF S i = r ∨ dS S i = r)) i) + v)), some (vI (nI i + 1))] : zL) = [some (vR 20 0 y), some (vI (nI r)), some (vI u), some (vI z)] ∧ u = nI (fb_ct (fun i => decide (dF S i = r ∨ dS S i = r)) i_1) ∧ z = nI i_1 ∧ ([] : List zV) = [] ∧ h = h := fun v e => ⟨dP S - (i + 1), by omega, i + 1, _, _, rfl, by omega, rfl, e, nI_1 i, rfl, rfl⟩
      refine ⟨i, rfl, by omega, fun d => nx _ ?_, fun d => ⟨i, rfl, by omega, fun e => nx _ ?_, fun e => nx _ ?_⟩⟩
      · rw [f1] at d
        have hd := (nI_eq (by omega) (by omega)).mp d
        rw [fb_ct_succ, decide_eq_true (Or.inl hd)]; exact nI_1 _
      · rw [f1] at d
        rw [s1] at e
        rw [fb_ct_succ, decide_eq_false (fun z => z.elim (fun q => d (by rw [q])) (fun q => e (by rw [q])))]; exact Int32.add_zero _
      · rw [s1] at e
        have he := (nI_eq (by omega) (by omega)).mp e
        rw [fb_ct_succ, decide_eq_true (Or.inr he)]; exact nI_1 _
  have B_4 := zSd_any L_4
  have B_0 := zr_iconst (X := X) (Y := Y) (u := 0) (v := 0) (x := 0) O dX11_pairsWith_0 rfl (zr_istore_n O dX11_pairsWith_1 rfl (zr_iconst (x := 0) O dX11_pairsWith_2 rfl (zr_istore_n O dX11_pairsWith_3 rfl (B_4))))
  refine ⟨rfl, Nat.le_of_ble_eq_true rfl, _, B_0, ?_⟩
  exact ⟨dP S - 0, 0, _, _, rfl, Nat.zero_le _, rfl, rfl, rfl, rfl, rfl⟩
def ca_X11_checkOf : (Nat × Nat) → List zV := fun (x, n) => [vI (nI x), vI (nI n)]
def cp_X11_checkOf : (Nat × Nat) → zH → Prop := fun (x, n) _ => x < 2 ^ 31 ∧ n ≤ 16
def cf_X11_checkOf : (Nat × Nat) → zH → Int32 := fun (x, n) _ => nI (ckW 0 x n)
set_option maxHeartbeats 4000000 in
set_option maxRecDepth 100000 in
theorem m_X11_checkOf : zM yX11_checkOf cX11_checkOf 4 (some .int) ({ frames := 0, cells := 0, slots := 0, locals := 0 } : Room) (zcI ca_X11_checkOf cp_X11_checkOf cf_X11_checkOf) := by
  refine zM_of (by decide) ?_
  rintro X Y ⟨x, n⟩ h ⟨hx, hn⟩ O E hR
  have hx : x < 2 ^ 31 := hx
  have hn : n ≤ 16 := hn
  have B_38 := zr_iload_n (X := X) (Y := Y) (u := 0) (v := 0) O dX11_checkOf_38 rfl (zr_ireturn O E (Nat.le_refl _) (Nat.le_refl _) dX11_checkOf_39)
  have L_4 : ∀ nn : Nat, zSd X Y 0 0 4 ((fun k ls st h1 => ∃ (i : Nat) (y z : Int32), k = n - i ∧ i ≤ n ∧ ls = [some (vI (nI x)), some (vI (nI n)), some (vI y), some (vI z)] ∧ y = nI (ckW 0 x i) ∧ z = nI i ∧ st = [] ∧ h = h1 : Nat → zT) nn) := by
    refine zSd_loop (fun nn ih => ?_)
    have B_32 := zr_iinc (X := X) (Y := Y) (u := 0) (v := 0) (c := 1) O dX11_checkOf_32 rfl (zr_goto (tgt := 4) O dX11_checkOf_35 rfl ih)
    have B_4 := zr_iload_n (X := X) (Y := Y) (u := 0) (v := 0) O dX11_checkOf_4 rfl (zr_iload_n O dX11_checkOf_5 rfl (zr_icge (tgt := 38) O dX11_checkOf_6 rfl B_38 (zr_iconst (x := 2) O dX11_checkOf_9 rfl (zr_iload_n O dX11_checkOf_10 rfl (zr_imul O dX11_checkOf_11 (zr_iload_n O dX11_checkOf_12 rfl (zr_iload_n O dX11_checkOf_13 rfl (zr_ishr O dX11_checkOf_14 (zr_iconst (x := 1) O dX11_checkOf_15 rfl (zr_iand O dX11_checkOf_16 (zr_iadd O dX11_checkOf_17 (zr_istore_n O dX11_checkOf_18 rfl (zr_iload_n O dX11_checkOf_19 rfl (zr_bipush (x := (15)) O dX11_checkOf_20 (by decide) (zr_icle (tgt := 32) O dX11_checkOf_22 rfl B_32 (zr_iload_n O dX11_checkOf_25 rfl (zr_bipush (x := (16)) O dX11_checkOf_26 (by decide) (zr_isub O dX11_checkOf_28 (zr_iconst (x := 3) O dX11_checkOf_29 rfl (zr_ixor O dX11_checkOf_30 (zr_istore_n O dX11_checkOf_31 rfl (B_32))))))))))))))))))))))
    refine zSd_weak B_4 (fun ls st h1 t => ?_)
    obtain ⟨i, y, z, rfl, hi, rfl, rfl, rfl, rfl, rfl⟩ := t
    have hv := ckW_lt (c := 0) (by decide) x i
    refine ⟨fun d => ⟨zri ?_, rfl⟩, fun d => ?_⟩
    · have := (nI_leI (by omega) (by omega)).mp d
      rw [show i = n by omega]; rfl
    · have hin : i < n := Nat.not_le.mp (fun z => d ((nI_leI (by omega) (by omega)).mpr z))
      have hb : (nI x >>> (nI i &&& 31)) &&& 1 = bI (x.testBit i) := bI_in hx (by omega)
      obtain ⟨e1, e2⟩ := ckS_i _ hv (x.testBit i)
      have hw : ckW 0 x (i + 1) = ckS (ckW 0 x i) (x.testBit i) := rfl
      refine ⟨fun q => ⟨n - (i + 1), by omega, i + 1, _, _, rfl, by omega, rfl, ?_, nI_1 i, rfl, rfl⟩, fun q => ⟨n - (i + 1), by omega, i + 1, _, _, rfl, by omega, rfl, ?_, nI_1 i, rfl, rfl⟩⟩
      · replace q : (2 : Int32) * nI (ckW 0 x i) + ((nI x >>> (nI i &&& 31)) &&& 1) ≤ 15 := q
        show (2 : Int32) * nI (ckW 0 x i) + ((nI x >>> (nI i &&& 31)) &&& 1) = _
        rw [hb, e1] at q ⊢
        have := (nI_leI (b := 15) (by cases x.testBit i <;> simp <;> omega) (by omega)).mp q
        rw [hw, ckS, if_neg (by omega)]
      · replace q : ¬ (2 : Int32) * nI (ckW 0 x i) + ((nI x >>> (nI i &&& 31)) &&& 1) ≤ 15 := q
        show (((2 : Int32) * nI (ckW 0 x i) + ((nI x >>> (nI i &&& 31)) &&& 1)) - 16) ^^^ 3 = _
        rw [hb] at q ⊢
        rw [e1] at q
        have q2 : 15 < 2 * ckW 0 x i + (x.testBit i).toNat := Nat.not_le.mp (fun z => q ((nI_leI (b := 15) (by cases x.testBit i <;> simp <;> omega) (by omega)).mpr z))
        rw [e2 q2, hw, ckS, if_pos q2]
  have B_4 := zSd_any L_4
  have B_0 := zr_iconst (X := X) (Y := Y) (u := 0) (v := 0) (x := 0) O dX11_checkOf_0 rfl (zr_istore_n O dX11_checkOf_1 rfl (zr_iconst (x := 0) O dX11_checkOf_2 rfl (zr_istore_n O dX11_checkOf_3 rfl (B_4))))
  refine ⟨rfl, Nat.le_of_ble_eq_true rfl, _, B_0, ?_⟩
  exact ⟨n - 0, 0, _, _, rfl, Nat.zero_le _, rfl, rfl, rfl, rfl, rfl⟩
/-- a row of bits -/
def btw (n m : Nat) (u : Nat → Int32) : Prop := ∀ k, k < n → u k = bI (m.testBit k)
theorem wd_rep : ∀ r, r < 8 → 0 < r → ∀ x, x < 2 → ∀ k, k < r → nI x &&& 1 = bI ((wdN r x).testBit k) := by decide +kernel
def hwI (x : Nat) (k : Nat) : Int32 := ([(nI x &&& 1) ^^^ ((nI x >>> ((1 : Int32) &&& 31)) &&& 1) ^^^ ((nI x >>> ((3 : Int32) &&& 31)) &&& 1), (nI x &&& 1) ^^^ ((nI x >>> ((2 : Int32) &&& 31)) &&& 1) ^^^ ((nI x >>> ((3 : Int32) &&& 31)) &&& 1), nI x &&& 1, ((nI x >>> ((1 : Int32) &&& 31)) &&& 1) ^^^ ((nI x >>> ((2 : Int32) &&& 31)) &&& 1) ^^^ ((nI x >>> ((3 : Int32) &&& 31)) &&& 1), (nI x >>> ((1 : Int32) &&& 31)) &&& 1, (nI x >>> ((2 : Int32) &&& 31)) &&& 1, (nI x >>> ((3 : Int32) &&& 31)) &&& 1] : List Int32).getD k 0
theorem wd_ham : ∀ x, x < 16 → ∀ k, k < 7 → hwI x k = bI ((wdN 0 x).testBit k) := by decide +kernel
def ca_X11_words : (Nat × Nat × Nat) → List zV := fun (y, r, x) => [vR 20 0 y, vI (nI r), vI (nI x)]
def cp_X11_words : (Nat × Nat × Nat) → zH → Prop := fun (y, r, x) _ => vRp r ∧ x < 2 ^ btR r
def cq_X11_words : (Nat × Nat × Nat) → zH → Option zV → zH → Prop := fun (y, r, x) h o h' => o = none ∧ ∃ u : Nat → Int32, h' = zsW h (y + 11) u ∧ btw (lnR r) (wdN r x) u
theorem rc_X11_words : ∀ x : (Nat × Nat × Nat), ∃ (j a : Nat) (As : List zV), ca_X11_words x = vR (10 + 10) j a :: As := by
  rintro ⟨y, r, x⟩
  exact ⟨_, _, _, rfl⟩
set_option maxHeartbeats 4000000 in
set_option maxRecDepth 100000 in
theorem m_X11_words : zM yX11_words cX11_words 7 none ({ frames := 0, cells := 0, slots := 0, locals := 0 } : Room) ((ca_X11_words, cp_X11_words, cq_X11_words) : zC (Nat × Nat × Nat)) := by
  refine zM_of (by decide) ?_
  rintro X Y ⟨y, r, x⟩ h ⟨hr, hx⟩ O E hR
  have hr8 := vRp_8 hr
  have hx : x < 2 ^ btR r := hx
  have B_27 := zr_iload_n (X := X) (Y := Y) (u := 0) (v := 0) O dX11_words_27 rfl (zr_iconst (x := 1) O dX11_words_28 rfl (zr_iand O dX11_words_29 (zr_istore_n O dX11_words_30 rfl (zr_iload_n O dX11_words_31 rfl (zr_iconst (x := 1) O dX11_words_32 rfl (zr_ishr O dX11_words_33 (zr_iconst (x := 1) O dX11_words_34 rfl (zr_iand O dX11_words_35 (zr_istore O dX11_words_36 (zr_iload_n O dX11_words_38 rfl (zr_iconst (x := 2) O dX11_words_39 rfl (zr_ishr O dX11_words_40 (zr_iconst (x := 1) O dX11_words_41 rfl (zr_iand O dX11_words_42 (zr_istore O dX11_words_43 (zr_iload_n O dX11_words_45 rfl (zr_iconst (x := 3) O dX11_words_46 rfl (zr_ishr O dX11_words_47 (zr_iconst (x := 1) O dX11_words_48 rfl (zr_iand O dX11_words_49 (zr_istore O dX11_words_50 (zr_aload_n O dX11_words_52 rfl (zr_gS (ci := 10) (j := 14) (off := 11) (t := 1) (n := 7) O zc_10 (by decide) rfl tw_1201 dX11_words_53 (zr_iconst (x := 0) O dX11_words_56 rfl (zr_iload_n O dX11_words_57 rfl (zr_iload O dX11_words_58 (zr_ixor O dX11_words_60 (zr_iload O dX11_words_61 (zr_ixor O dX11_words_63 (zr_iast O dX11_words_64 (zr_aload_n O dX11_words_65 rfl (zr_gS (ci := 10) (j := 14) (off := 11) (t := 1) (n := 7) O zc_10 (by decide) rfl tw_1201 dX11_words_66 (zr_iconst (x := 1) O dX11_words_69 rfl (zr_iload_n O dX11_words_70 rfl (zr_iload O dX11_words_71 (zr_ixor O dX11_words_73 (zr_iload O dX11_words_74 (zr_ixor O dX11_words_76 (zr_iast O dX11_words_77 (zr_aload_n O dX11_words_78 rfl (zr_gS (ci := 10) (j := 14) (off := 11) (t := 1) (n := 7) O zc_10 (by decide) rfl tw_1201 dX11_words_79 (zr_iconst (x := 2) O dX11_words_82 rfl (zr_iload_n O dX11_words_83 rfl (zr_iast O dX11_words_84 (zr_aload_n O dX11_words_85 rfl (zr_gS (ci := 10) (j := 14) (off := 11) (t := 1) (n := 7) O zc_10 (by decide) rfl tw_1201 dX11_words_86 (zr_iconst (x := 3) O dX11_words_89 rfl (zr_iload O dX11_words_90 (zr_iload O dX11_words_92 (zr_ixor O dX11_words_94 (zr_iload O dX11_words_95 (zr_ixor O dX11_words_97 (zr_iast O dX11_words_98 (zr_aload_n O dX11_words_99 rfl (zr_gS (ci := 10) (j := 14) (off := 11) (t := 1) (n := 7) O zc_10 (by decide) rfl tw_1201 dX11_words_100 (zr_iconst (x := 4) O dX11_words_103 rfl (zr_iload O dX11_words_104 (zr_iast O dX11_words_106 (zr_aload_n O dX11_words_107 rfl (zr_gS (ci := 10) (j := 14) (off := 11) (t := 1) (n := 7) O zc_10 (by decide) rfl tw_1201 dX11_words_108 (zr_iconst (x := 5) O dX11_words_111 rfl (zr_iload O dX11_words_112 (zr_iast O dX11_words_114 (zr_aload_n O dX11_words_115 rfl (zr_gS (ci := 10) (j := 14) (off := 11) (t := 1) (n := 7) O zc_10 (by decide) rfl tw_1201 dX11_words_116 (zr_bipush (x := (6)) O dX11_words_119 (by decide) (zr_iload O dX11_words_121 (zr_iast O dX11_words_123 (zr_return O E (Nat.le_refl _) (Nat.le_refl _) dX11_words_124)))))))))))))))))))))))))))))))))))))))))))))))))))))))))))))))))))))
  have B_26 := zr_return (X := X) (Y := Y) (u := 0) (v := 0) O E (Nat.le_refl _) (Nat.le_refl _) dX11_words_26
  have L_6 : ∀ nn : Nat, zSd X Y 0 0 6 ((fun k ls st h1 => ∃ (i : Nat) (z : Int32) (u : Nat → Int32), k = r - i ∧ i ≤ r ∧ ls = [some (vR 20 0 y), some (vI (nI r)), some (vI (nI x)), some (vI z), none, none, none] ∧ z = nI i ∧ st = [] ∧ h1 = zsW h (y + 11) u ∧ 0 < r ∧ btw i (wdN r x) u : Nat → zT) nn) := by
    refine zSd_loop (fun nn ih => ?_)
    have B_6 := zr_iload_n (X := X) (Y := Y) (u := 0) (v := 0) O dX11_words_6 rfl (zr_iload_n O dX11_words_7 rfl (zr_icge (tgt := 26) O dX11_words_8 rfl B_26 (zr_aload_n O dX11_words_11 rfl (zr_gS (ci := 10) (j := 14) (off := 11) (t := 1) (n := 7) O zc_10 (by decide) rfl tw_1201 dX11_words_12 (zr_iload_n O dX11_words_15 rfl (zr_iload_n O dX11_words_16 rfl (zr_iconst (x := 1) O dX11_words_17 rfl (zr_iand O dX11_words_18 (zr_iast O dX11_words_19 (zr_iinc (c := 1) O dX11_words_20 rfl (zr_goto (tgt := 6) O dX11_words_23 rfl ih)))))))))))
    refine zSd_weak B_6 (fun ls st h1 t => ?_)
    obtain ⟨i, z, u, rfl, hi, rfl, rfl, rfl, rfl, hr0, hu⟩ := t
    refine ⟨fun c => ⟨rfl, u, rfl, ?_⟩, fun c => ?_⟩
    · have := (nI_leI (by omega) (by omega)).mp c
      have hi2 : i = r := by omega
      subst hi2
      have e : lnR i = i := by rw [lnR, if_neg (by omega)]
      show btw (lnR i) (wdN i x) u
      rw [e]; exact hu
    · have hi2 : i < r := Nat.not_le.mp (fun z => c ((nI_leI (by omega) (by omega)).mpr z))
      have hx2 : x < 2 := by
        have e : btR r = 1 := by rw [btR, if_neg (by omega)]
        rw [e] at hx; exact hx
      refine ⟨i, rfl, by omega, r - (i + 1), by omega, i + 1, _, va_up u i (nI x &&& 1), rfl, by omega, rfl, nI_1 i, rfl, by rw [zsI_W, zsW_s, zsW_W], hr0, fun k hk => ?_⟩
      by_cases e : k = i
      · rw [e, zup_s]; exact wd_rep r hr8 hr0 x hx2 i hi2
      · rw [zup_n _ _ e]; exact hu k (by omega)
  have B_6 := zSd_any L_6
  have B_0 := zr_iload_n (X := X) (Y := Y) (u := 0) (v := 0) O dX11_words_0 rfl (zr_ifle (tgt := 27) O dX11_words_1 rfl B_27 (zr_iconst (x := 0) O dX11_words_4 rfl (zr_istore_n O dX11_words_5 rfl (B_6))))
  refine ⟨rfl, Nat.le_of_ble_eq_true rfl, _, B_0, ?_⟩
  refine ⟨fun c => ?_, fun c => ?_⟩
  · have hz : r = 0 := by
      rcases Nat.eq_zero_or_pos r with z | z
      · exact z
      · exact absurd c (nI_nle z (by omega))
    subst hz
    have hx : x < 16 := hx
    refine ⟨0, rfl, by decide, 1, rfl, by decide, 2, rfl, by decide, 3, rfl, by decide, 4, rfl, by decide, 5, rfl, by decide, 6, rfl, by decide, rfl, va_up (va_up (va_up (va_up (va_up (va_up (va_up (h.1 (y + 11)) 0 (hwI x 0)) 1 (hwI x 1)) 2 (hwI x 2)) 3 (hwI x 3)) 4 (hwI x 4)) 5 (hwI x 5)) 6 (hwI x 6), ?_, fun k hk => ?_⟩
    · simp only [zsI_W, zsW_s, zsW_W]
      rfl
    · have hk : k < 7 := hk
      rw [← wd_ham x hx k hk]
      have h7 : k = 0 ∨ k = 1 ∨ k = 2 ∨ k = 3 ∨ k = 4 ∨ k = 5 ∨ k = 6 := by omega
      rcases h7 with rfl | rfl | rfl | rfl | rfl | rfl | rfl <;> rfl
  · have hz : 0 < r := Nat.pos_of_ne_zero (fun z => c (by rw [z]; decide))
    exact ⟨r - 0, 0, _, h.1 (y + 11), rfl, Nat.zero_le _, rfl, rfl, rfl, (zsW_self _ _).symm, hz, fun k hk => absurd hk (Nat.not_lt_zero _)⟩

