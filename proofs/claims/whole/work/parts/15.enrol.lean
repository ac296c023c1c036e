theorem dX1_clear_0 : decode cX1_clear 0 = .ok (.aload_n 0, 1) := by decide +kernel
theorem dX1_clear_1 : decode cX1_clear 1 = .ok (.iconst 0, 1) := by decide +kernel
theorem dX1_clear_2 : decode cX1_clear 2 = .ok (.putfield 15, 3) := by decide +kernel
theorem dX1_clear_5 : decode cX1_clear 5 = .ok (.aload_n 0, 1) := by decide +kernel
theorem dX1_clear_6 : decode cX1_clear 6 = .ok (.iconst 0, 1) := by decide +kernel
theorem dX1_clear_7 : decode cX1_clear 7 = .ok (.putfield 19, 3) := by decide +kernel
theorem dX1_clear_10 : decode cX1_clear 10 = .ok (.return_, 1) := by decide +kernel
theorem dX1_copyFrom_0 : decode cX1_copyFrom 0 = .ok (.aload_n 0, 1) := by decide +kernel
theorem dX1_copyFrom_1 : decode cX1_copyFrom 1 = .ok (.aload_n 1, 1) := by decide +kernel
theorem dX1_copyFrom_2 : decode cX1_copyFrom 2 = .ok (.getfield 15, 3) := by decide +kernel
theorem dX1_copyFrom_5 : decode cX1_copyFrom 5 = .ok (.putfield 15, 3) := by decide +kernel
theorem dX1_copyFrom_8 : decode cX1_copyFrom 8 = .ok (.aload_n 1, 1) := by decide +kernel
theorem dX1_copyFrom_9 : decode cX1_copyFrom 9 = .ok (.getfield 9, 3) := by decide +kernel
theorem dX1_copyFrom_12 : decode cX1_copyFrom 12 = .ok (.iconst 0, 1) := by decide +kernel
theorem dX1_copyFrom_13 : decode cX1_copyFrom 13 = .ok (.aload_n 0, 1) := by decide +kernel
theorem dX1_copyFrom_14 : decode cX1_copyFrom 14 = .ok (.getfield 9, 3) := by decide +kernel
theorem dX1_copyFrom_17 : decode cX1_copyFrom 17 = .ok (.iconst 0, 1) := by decide +kernel
theorem dX1_copyFrom_18 : decode cX1_copyFrom 18 = .ok (.bipush 28, 2) := by decide +kernel
theorem dX1_copyFrom_20 : decode cX1_copyFrom 20 = .ok (.invokestatic 22, 3) := by decide +kernel
theorem dX1_copyFrom_23 : decode cX1_copyFrom 23 = .ok (.aload_n 0, 1) := by decide +kernel
theorem dX1_copyFrom_24 : decode cX1_copyFrom 24 = .ok (.aload_n 1, 1) := by decide +kernel
theorem dX1_copyFrom_25 : decode cX1_copyFrom 25 = .ok (.getfield 28, 3) := by decide +kernel
theorem dX1_copyFrom_28 : decode cX1_copyFrom 28 = .ok (.putfield 28, 3) := by decide +kernel
theorem dX1_copyFrom_31 : decode cX1_copyFrom 31 = .ok (.aload_n 0, 1) := by decide +kernel
theorem dX1_copyFrom_32 : decode cX1_copyFrom 32 = .ok (.aload_n 1, 1) := by decide +kernel
theorem dX1_copyFrom_33 : decode cX1_copyFrom 33 = .ok (.getfield 19, 3) := by decide +kernel
theorem dX1_copyFrom_36 : decode cX1_copyFrom 36 = .ok (.putfield 19, 3) := by decide +kernel
theorem dX1_copyFrom_39 : decode cX1_copyFrom 39 = .ok (.aload_n 0, 1) := by decide +kernel
theorem dX1_copyFrom_40 : decode cX1_copyFrom 40 = .ok (.aload_n 1, 1) := by decide +kernel
theorem dX1_copyFrom_41 : decode cX1_copyFrom 41 = .ok (.getfield 31, 3) := by decide +kernel
theorem dX1_copyFrom_44 : decode cX1_copyFrom 44 = .ok (.putfield 31, 3) := by decide +kernel
theorem dX1_copyFrom_47 : decode cX1_copyFrom 47 = .ok (.aload_n 0, 1) := by decide +kernel
theorem dX1_copyFrom_48 : decode cX1_copyFrom 48 = .ok (.aload_n 1, 1) := by decide +kernel
theorem dX1_copyFrom_49 : decode cX1_copyFrom 49 = .ok (.getfield 34, 3) := by decide +kernel
theorem dX1_copyFrom_52 : decode cX1_copyFrom 52 = .ok (.putfield 34, 3) := by decide +kernel
theorem dX1_copyFrom_55 : decode cX1_copyFrom 55 = .ok (.aload_n 0, 1) := by decide +kernel
theorem dX1_copyFrom_56 : decode cX1_copyFrom 56 = .ok (.aload_n 1, 1) := by decide +kernel
theorem dX1_copyFrom_57 : decode cX1_copyFrom 57 = .ok (.getfield 37, 3) := by decide +kernel
theorem dX1_copyFrom_60 : decode cX1_copyFrom 60 = .ok (.putfield 37, 3) := by decide +kernel
theorem dX1_copyFrom_63 : decode cX1_copyFrom 63 = .ok (.aload_n 0, 1) := by decide +kernel
theorem dX1_copyFrom_64 : decode cX1_copyFrom 64 = .ok (.aload_n 1, 1) := by decide +kernel
theorem dX1_copyFrom_65 : decode cX1_copyFrom 65 = .ok (.getfield 40, 3) := by decide +kernel
theorem dX1_copyFrom_68 : decode cX1_copyFrom 68 = .ok (.putfield 40, 3) := by decide +kernel
theorem dX1_copyFrom_71 : decode cX1_copyFrom 71 = .ok (.aload_n 0, 1) := by decide +kernel
theorem dX1_copyFrom_72 : decode cX1_copyFrom 72 = .ok (.aload_n 1, 1) := by decide +kernel
theorem dX1_copyFrom_73 : decode cX1_copyFrom 73 = .ok (.getfield 43, 3) := by decide +kernel
theorem dX1_copyFrom_76 : decode cX1_copyFrom 76 = .ok (.putfield 43, 3) := by decide +kernel
theorem dX1_copyFrom_79 : decode cX1_copyFrom 79 = .ok (.return_, 1) := by decide +kernel
theorem dX1_isEmpty_12 : decode cX1_isEmpty 12 = .ok (.ireturn, 1) := by decide +kernel
theorem dX1_isEmpty_11 : decode cX1_isEmpty 11 = .ok (.iconst 0, 1) := by decide +kernel
theorem dX1_isEmpty_0 : decode cX1_isEmpty 0 = .ok (.aload_n 0, 1) := by decide +kernel
theorem dX1_isEmpty_1 : decode cX1_isEmpty 1 = .ok (.getfield 15, 3) := by decide +kernel
theorem dX1_isEmpty_4 : decode cX1_isEmpty 4 = .ok (.ifCond .ne 7, 3) := by decide +kernel
theorem dX1_isEmpty_7 : decode cX1_isEmpty 7 = .ok (.iconst 1, 1) := by decide +kernel
theorem dX1_isEmpty_8 : decode cX1_isEmpty 8 = .ok (.goto 4, 3) := by decide +kernel
theorem dX1_secretBits_0 : decode cX1_secretBits 0 = .ok (.aload_n 0, 1) := by decide +kernel
theorem dX1_secretBits_1 : decode cX1_secretBits 1 = .ok (.getfield 19, 3) := by decide +kernel
theorem dX1_secretBits_4 : decode cX1_secretBits 4 = .ok (.aload_n 0, 1) := by decide +kernel
theorem dX1_secretBits_5 : decode cX1_secretBits 5 = .ok (.getfield 28, 3) := by decide +kernel
theorem dX1_secretBits_8 : decode cX1_secretBits 8 = .ok (.invokestatic 77, 3) := by decide +kernel
theorem dX1_secretBits_11 : decode cX1_secretBits 11 = .ok (.imul, 1) := by decide +kernel
theorem dX1_secretBits_12 : decode cX1_secretBits 12 = .ok (.ireturn, 1) := by decide +kernel
theorem dX1_leaked_0 : decode cX1_leaked 0 = .ok (.aload_n 0, 1) := by decide +kernel
theorem dX1_leaked_1 : decode cX1_leaked 1 = .ok (.getfield 19, 3) := by decide +kernel
theorem dX1_leaked_4 : decode cX1_leaked 4 = .ok (.aload_n 0, 1) := by decide +kernel
theorem dX1_leaked_5 : decode cX1_leaked 5 = .ok (.getfield 28, 3) := by decide +kernel
theorem dX1_leaked_8 : decode cX1_leaked 8 = .ok (.invokestatic 61, 3) := by decide +kernel
theorem dX1_leaked_11 : decode cX1_leaked 11 = .ok (.aload_n 0, 1) := by decide +kernel
theorem dX1_leaked_12 : decode cX1_leaked 12 = .ok (.getfield 28, 3) := by decide +kernel
theorem dX1_leaked_15 : decode cX1_leaked 15 = .ok (.invokestatic 77, 3) := by decide +kernel
theorem dX1_leaked_18 : decode cX1_leaked 18 = .ok (.isub, 1) := by decide +kernel
theorem dX1_leaked_19 : decode cX1_leaked 19 = .ok (.imul, 1) := by decide +kernel
theorem dX1_leaked_20 : decode cX1_leaked 20 = .ok (.iconst 4, 1) := by decide +kernel
theorem dX1_leaked_21 : decode cX1_leaked 21 = .ok (.iadd, 1) := by decide +kernel
theorem dX1_leaked_22 : decode cX1_leaked 22 = .ok (.ireturn, 1) := by decide +kernel
theorem dX1_placeOf_28 : decode cX1_placeOf 28 = .ok (.iconst (-1), 1) := by decide +kernel
theorem dX1_placeOf_29 : decode cX1_placeOf 29 = .ok (.ireturn, 1) := by decide +kernel
theorem dX1_placeOf_22 : decode cX1_placeOf 22 = .ok (.iinc 2 1, 3) := by decide +kernel
theorem dX1_placeOf_25 : decode cX1_placeOf 25 = .ok (.goto (-23), 3) := by decide +kernel
theorem dX1_placeOf_2 : decode cX1_placeOf 2 = .ok (.iload_n 2, 1) := by decide +kernel
theorem dX1_placeOf_3 : decode cX1_placeOf 3 = .ok (.aload_n 0, 1) := by decide +kernel
theorem dX1_placeOf_4 : decode cX1_placeOf 4 = .ok (.getfield 15, 3) := by decide +kernel
theorem dX1_placeOf_7 : decode cX1_placeOf 7 = .ok (.if_icmp .ge 21, 3) := by decide +kernel
theorem dX1_placeOf_10 : decode cX1_placeOf 10 = .ok (.aload_n 0, 1) := by decide +kernel
theorem dX1_placeOf_11 : decode cX1_placeOf 11 = .ok (.getfield 9, 3) := by decide +kernel
theorem dX1_placeOf_14 : decode cX1_placeOf 14 = .ok (.iload_n 2, 1) := by decide +kernel
theorem dX1_placeOf_15 : decode cX1_placeOf 15 = .ok (.iaload, 1) := by decide +kernel
theorem dX1_placeOf_16 : decode cX1_placeOf 16 = .ok (.iload_n 1, 1) := by decide +kernel
theorem dX1_placeOf_17 : decode cX1_placeOf 17 = .ok (.if_icmp .ne 5, 3) := by decide +kernel
theorem dX1_placeOf_20 : decode cX1_placeOf 20 = .ok (.iload_n 2, 1) := by decide +kernel
theorem dX1_placeOf_21 : decode cX1_placeOf 21 = .ok (.ireturn, 1) := by decide +kernel
theorem dX1_placeOf_0 : decode cX1_placeOf 0 = .ok (.iconst 0, 1) := by decide +kernel
theorem dX1_placeOf_1 : decode cX1_placeOf 1 = .ok (.istore_n 2, 1) := by decide +kernel
theorem dX1_pairsAsSet_29 : decode cX1_pairsAsSet 29 = .ok (.iload_n 1, 1) := by decide +kernel
theorem dX1_pairsAsSet_30 : decode cX1_pairsAsSet 30 = .ok (.ireturn, 1) := by decide +kernel
theorem dX1_pairsAsSet_4 : decode cX1_pairsAsSet 4 = .ok (.iload_n 2, 1) := by decide +kernel
theorem dX1_pairsAsSet_5 : decode cX1_pairsAsSet 5 = .ok (.aload_n 0, 1) := by decide +kernel
theorem dX1_pairsAsSet_6 : decode cX1_pairsAsSet 6 = .ok (.getfield 15, 3) := by decide +kernel
theorem dX1_pairsAsSet_9 : decode cX1_pairsAsSet 9 = .ok (.if_icmp .ge 20, 3) := by decide +kernel
theorem dX1_pairsAsSet_12 : decode cX1_pairsAsSet 12 = .ok (.iload_n 1, 1) := by decide +kernel
theorem dX1_pairsAsSet_13 : decode cX1_pairsAsSet 13 = .ok (.iconst 1, 1) := by decide +kernel
theorem dX1_pairsAsSet_14 : decode cX1_pairsAsSet 14 = .ok (.aload_n 0, 1) := by decide +kernel
theorem dX1_pairsAsSet_15 : decode cX1_pairsAsSet 15 = .ok (.getfield 9, 3) := by decide +kernel
theorem dX1_pairsAsSet_18 : decode cX1_pairsAsSet 18 = .ok (.iload_n 2, 1) := by decide +kernel
theorem dX1_pairsAsSet_19 : decode cX1_pairsAsSet 19 = .ok (.iaload, 1) := by decide +kernel
theorem dX1_pairsAsSet_20 : decode cX1_pairsAsSet 20 = .ok (.ishl, 1) := by decide +kernel
theorem dX1_pairsAsSet_21 : decode cX1_pairsAsSet 21 = .ok (.ior, 1) := by decide +kernel
theorem dX1_pairsAsSet_22 : decode cX1_pairsAsSet 22 = .ok (.istore_n 1, 1) := by decide +kernel
theorem dX1_pairsAsSet_23 : decode cX1_pairsAsSet 23 = .ok (.iinc 2 1, 3) := by decide +kernel
theorem dX1_pairsAsSet_26 : decode cX1_pairsAsSet 26 = .ok (.goto (-22), 3) := by decide +kernel
theorem dX1_pairsAsSet_0 : decode cX1_pairsAsSet 0 = .ok (.iconst 0, 1) := by decide +kernel
theorem dX1_pairsAsSet_1 : decode cX1_pairsAsSet 1 = .ok (.istore_n 1, 1) := by decide +kernel
theorem dX1_pairsAsSet_2 : decode cX1_pairsAsSet 2 = .ok (.iconst 0, 1) := by decide +kernel
theorem dX1_pairsAsSet_3 : decode cX1_pairsAsSet 3 = .ok (.istore_n 2, 1) := by decide +kernel
theorem dX1_shakyAt_61 : decode cX1_shakyAt 61 = .ok (.iload_n 3, 1) := by decide +kernel
theorem dX1_shakyAt_62 : decode cX1_shakyAt 62 = .ok (.ireturn, 1) := by decide +kernel
theorem dX1_shakyAt_53 : decode cX1_shakyAt 53 = .ok (.ior, 1) := by decide +kernel
theorem dX1_shakyAt_54 : decode cX1_shakyAt 54 = .ok (.istore_n 3, 1) := by decide +kernel
theorem dX1_shakyAt_55 : decode cX1_shakyAt 55 = .ok (.iinc 4 1, 3) := by decide +kernel
theorem dX1_shakyAt_58 : decode cX1_shakyAt 58 = .ok (.goto (-53), 3) := by decide +kernel
theorem dX1_shakyAt_52 : decode cX1_shakyAt 52 = .ok (.iconst 0, 1) := by decide +kernel
theorem dX1_shakyAt_5 : decode cX1_shakyAt 5 = .ok (.iload 4, 2) := by decide +kernel
theorem dX1_shakyAt_7 : decode cX1_shakyAt 7 = .ok (.aload_n 0, 1) := by decide +kernel
theorem dX1_shakyAt_8 : decode cX1_shakyAt 8 = .ok (.getfield 15, 3) := by decide +kernel
theorem dX1_shakyAt_11 : decode cX1_shakyAt 11 = .ok (.if_icmp .ge 50, 3) := by decide +kernel
theorem dX1_shakyAt_14 : decode cX1_shakyAt 14 = .ok (.iconst 1, 1) := by decide +kernel
theorem dX1_shakyAt_15 : decode cX1_shakyAt 15 = .ok (.aload_n 0, 1) := by decide +kernel
theorem dX1_shakyAt_16 : decode cX1_shakyAt 16 = .ok (.getfield 31, 3) := by decide +kernel
theorem dX1_shakyAt_19 : decode cX1_shakyAt 19 = .ok (.iload 4, 2) := by decide +kernel
theorem dX1_shakyAt_21 : decode cX1_shakyAt 21 = .ok (.invokestatic 67, 3) := by decide +kernel
theorem dX1_shakyAt_24 : decode cX1_shakyAt 24 = .ok (.isub, 1) := by decide +kernel
theorem dX1_shakyAt_25 : decode cX1_shakyAt 25 = .ok (.istore 5, 2) := by decide +kernel
theorem dX1_shakyAt_27 : decode cX1_shakyAt 27 = .ok (.iload_n 3, 1) := by decide +kernel
theorem dX1_shakyAt_28 : decode cX1_shakyAt 28 = .ok (.aload_n 1, 1) := by decide +kernel
theorem dX1_shakyAt_29 : decode cX1_shakyAt 29 = .ok (.aload_n 0, 1) := by decide +kernel
theorem dX1_shakyAt_30 : decode cX1_shakyAt 30 = .ok (.getfield 9, 3) := by decide +kernel
theorem dX1_shakyAt_33 : decode cX1_shakyAt 33 = .ok (.iload 4, 2) := by decide +kernel
theorem dX1_shakyAt_35 : decode cX1_shakyAt 35 = .ok (.iaload, 1) := by decide +kernel
theorem dX1_shakyAt_36 : decode cX1_shakyAt 36 = .ok (.iload_n 2, 1) := by decide +kernel
theorem dX1_shakyAt_37 : decode cX1_shakyAt 37 = .ok (.iload 5, 2) := by decide +kernel
theorem dX1_shakyAt_39 : decode cX1_shakyAt 39 = .ok (.invokevirtual 80, 3) := by decide +kernel
theorem dX1_shakyAt_42 : decode cX1_shakyAt 42 = .ok (.ifCond .eq 10, 3) := by decide +kernel
theorem dX1_shakyAt_45 : decode cX1_shakyAt 45 = .ok (.iconst 1, 1) := by decide +kernel
theorem dX1_shakyAt_46 : decode cX1_shakyAt 46 = .ok (.iload 4, 2) := by decide +kernel
theorem dX1_shakyAt_48 : decode cX1_shakyAt 48 = .ok (.ishl, 1) := by decide +kernel
theorem dX1_shakyAt_49 : decode cX1_shakyAt 49 = .ok (.goto 4, 3) := by decide +kernel
theorem dX1_shakyAt_0 : decode cX1_shakyAt 0 = .ok (.iconst 0, 1) := by decide +kernel
theorem dX1_shakyAt_1 : decode cX1_shakyAt 1 = .ok (.istore_n 3, 1) := by decide +kernel
theorem dX1_shakyAt_2 : decode cX1_shakyAt 2 = .ok (.iconst 0, 1) := by decide +kernel
theorem dX1_shakyAt_3 : decode cX1_shakyAt 3 = .ok (.istore 4, 2) := by decide +kernel
theorem dX1_isSafeBlock_55 : decode cX1_isSafeBlock 55 = .ok (.ireturn, 1) := by decide +kernel
theorem dX1_isSafeBlock_54 : decode cX1_isSafeBlock 54 = .ok (.iconst 0, 1) := by decide +kernel
theorem dX1_isSafeBlock_0 : decode cX1_isSafeBlock 0 = .ok (.aload_n 0, 1) := by decide +kernel
theorem dX1_isSafeBlock_1 : decode cX1_isSafeBlock 1 = .ok (.getfield 28, 3) := by decide +kernel
theorem dX1_isSafeBlock_4 : decode cX1_isSafeBlock 4 = .ok (.invokestatic 61, 3) := by decide +kernel
theorem dX1_isSafeBlock_7 : decode cX1_isSafeBlock 7 = .ok (.istore_n 3, 1) := by decide +kernel
theorem dX1_isSafeBlock_8 : decode cX1_isSafeBlock 8 = .ok (.iload_n 2, 1) := by decide +kernel
theorem dX1_isSafeBlock_9 : decode cX1_isSafeBlock 9 = .ok (.aload_n 0, 1) := by decide +kernel
theorem dX1_isSafeBlock_10 : decode cX1_isSafeBlock 10 = .ok (.getfield 34, 3) := by decide +kernel
theorem dX1_isSafeBlock_13 : decode cX1_isSafeBlock 13 = .ok (.aload_n 0, 1) := by decide +kernel
theorem dX1_isSafeBlock_14 : decode cX1_isSafeBlock 14 = .ok (.getfield 37, 3) := by decide +kernel
theorem dX1_isSafeBlock_17 : decode cX1_isSafeBlock 17 = .ok (.ixor, 1) := by decide +kernel
theorem dX1_isSafeBlock_18 : decode cX1_isSafeBlock 18 = .ok (.ior, 1) := by decide +kernel
theorem dX1_isSafeBlock_19 : decode cX1_isSafeBlock 19 = .ok (.istore 4, 2) := by decide +kernel
theorem dX1_isSafeBlock_21 : decode cX1_isSafeBlock 21 = .ok (.iload 4, 2) := by decide +kernel
theorem dX1_isSafeBlock_23 : decode cX1_isSafeBlock 23 = .ok (.iload_n 1, 1) := by decide +kernel
theorem dX1_isSafeBlock_24 : decode cX1_isSafeBlock 24 = .ok (.iload_n 3, 1) := by decide +kernel
theorem dX1_isSafeBlock_25 : decode cX1_isSafeBlock 25 = .ok (.imul, 1) := by decide +kernel
theorem dX1_isSafeBlock_26 : decode cX1_isSafeBlock 26 = .ok (.ishr, 1) := by decide +kernel
theorem dX1_isSafeBlock_27 : decode cX1_isSafeBlock 27 = .ok (.iconst 1, 1) := by decide +kernel
theorem dX1_isSafeBlock_28 : decode cX1_isSafeBlock 28 = .ok (.iload_n 3, 1) := by decide +kernel
theorem dX1_isSafeBlock_29 : decode cX1_isSafeBlock 29 = .ok (.ishl, 1) := by decide +kernel
theorem dX1_isSafeBlock_30 : decode cX1_isSafeBlock 30 = .ok (.iconst 1, 1) := by decide +kernel
theorem dX1_isSafeBlock_31 : decode cX1_isSafeBlock 31 = .ok (.isub, 1) := by decide +kernel
theorem dX1_isSafeBlock_32 : decode cX1_isSafeBlock 32 = .ok (.iand, 1) := by decide +kernel
theorem dX1_isSafeBlock_33 : decode cX1_isSafeBlock 33 = .ok (.istore 5, 2) := by decide +kernel
theorem dX1_isSafeBlock_35 : decode cX1_isSafeBlock 35 = .ok (.iload 5, 2) := by decide +kernel
theorem dX1_isSafeBlock_37 : decode cX1_isSafeBlock 37 = .ok (.invokestatic 84, 3) := by decide +kernel
theorem dX1_isSafeBlock_40 : decode cX1_isSafeBlock 40 = .ok (.aload_n 0, 1) := by decide +kernel
theorem dX1_isSafeBlock_41 : decode cX1_isSafeBlock 41 = .ok (.getfield 28, 3) := by decide +kernel
theorem dX1_isSafeBlock_44 : decode cX1_isSafeBlock 44 = .ok (.invokestatic 89, 3) := by decide +kernel
theorem dX1_isSafeBlock_47 : decode cX1_isSafeBlock 47 = .ok (.if_icmp .gt 7, 3) := by decide +kernel
theorem dX1_isSafeBlock_50 : decode cX1_isSafeBlock 50 = .ok (.iconst 1, 1) := by decide +kernel
theorem dX1_isSafeBlock_51 : decode cX1_isSafeBlock 51 = .ok (.goto 4, 3) := by decide +kernel
theorem dX1_safeBlocks_35 : decode cX1_safeBlocks 35 = .ok (.iload_n 2, 1) := by decide +kernel
theorem dX1_safeBlocks_36 : decode cX1_safeBlocks 36 = .ok (.ireturn, 1) := by decide +kernel
theorem dX1_safeBlocks_27 : decode cX1_safeBlocks 27 = .ok (.iadd, 1) := by decide +kernel
theorem dX1_safeBlocks_28 : decode cX1_safeBlocks 28 = .ok (.istore_n 2, 1) := by decide +kernel
theorem dX1_safeBlocks_29 : decode cX1_safeBlocks 29 = .ok (.iinc 3 1, 3) := by decide +kernel
theorem dX1_safeBlocks_32 : decode cX1_safeBlocks 32 = .ok (.goto (-28), 3) := by decide +kernel
theorem dX1_safeBlocks_26 : decode cX1_safeBlocks 26 = .ok (.iconst 0, 1) := by decide +kernel
theorem dX1_safeBlocks_4 : decode cX1_safeBlocks 4 = .ok (.iload_n 3, 1) := by decide +kernel
theorem dX1_safeBlocks_5 : decode cX1_safeBlocks 5 = .ok (.aload_n 0, 1) := by decide +kernel
theorem dX1_safeBlocks_6 : decode cX1_safeBlocks 6 = .ok (.getfield 19, 3) := by decide +kernel
theorem dX1_safeBlocks_9 : decode cX1_safeBlocks 9 = .ok (.if_icmp .ge 26, 3) := by decide +kernel
theorem dX1_safeBlocks_12 : decode cX1_safeBlocks 12 = .ok (.iload_n 2, 1) := by decide +kernel
theorem dX1_safeBlocks_13 : decode cX1_safeBlocks 13 = .ok (.aload_n 0, 1) := by decide +kernel
theorem dX1_safeBlocks_14 : decode cX1_safeBlocks 14 = .ok (.iload_n 3, 1) := by decide +kernel
theorem dX1_safeBlocks_15 : decode cX1_safeBlocks 15 = .ok (.iload_n 1, 1) := by decide +kernel
theorem dX1_safeBlocks_16 : decode cX1_safeBlocks 16 = .ok (.invokevirtual 92, 3) := by decide +kernel
theorem dX1_safeBlocks_19 : decode cX1_safeBlocks 19 = .ok (.ifCond .eq 7, 3) := by decide +kernel
theorem dX1_safeBlocks_22 : decode cX1_safeBlocks 22 = .ok (.iconst 1, 1) := by decide +kernel
theorem dX1_safeBlocks_23 : decode cX1_safeBlocks 23 = .ok (.goto 4, 3) := by decide +kernel
theorem dX1_safeBlocks_0 : decode cX1_safeBlocks 0 = .ok (.iconst 0, 1) := by decide +kernel
theorem dX1_safeBlocks_1 : decode cX1_safeBlocks 1 = .ok (.istore_n 2, 1) := by decide +kernel
theorem dX1_safeBlocks_2 : decode cX1_safeBlocks 2 = .ok (.iconst 0, 1) := by decide +kernel
theorem dX1_safeBlocks_3 : decode cX1_safeBlocks 3 = .ok (.istore_n 3, 1) := by decide +kernel
theorem dX1_firstUnsafe_27 : decode cX1_firstUnsafe 27 = .ok (.iconst (-1), 1) := by decide +kernel
theorem dX1_firstUnsafe_28 : decode cX1_firstUnsafe 28 = .ok (.ireturn, 1) := by decide +kernel
theorem dX1_firstUnsafe_21 : decode cX1_firstUnsafe 21 = .ok (.iinc 2 1, 3) := by decide +kernel
theorem dX1_firstUnsafe_24 : decode cX1_firstUnsafe 24 = .ok (.goto (-22), 3) := by decide +kernel
theorem dX1_firstUnsafe_2 : decode cX1_firstUnsafe 2 = .ok (.iload_n 2, 1) := by decide +kernel
theorem dX1_firstUnsafe_3 : decode cX1_firstUnsafe 3 = .ok (.aload_n 0, 1) := by decide +kernel
theorem dX1_firstUnsafe_4 : decode cX1_firstUnsafe 4 = .ok (.getfield 19, 3) := by decide +kernel
theorem dX1_firstUnsafe_7 : decode cX1_firstUnsafe 7 = .ok (.if_icmp .ge 20, 3) := by decide +kernel
theorem dX1_firstUnsafe_10 : decode cX1_firstUnsafe 10 = .ok (.aload_n 0, 1) := by decide +kernel
theorem dX1_firstUnsafe_11 : decode cX1_firstUnsafe 11 = .ok (.iload_n 2, 1) := by decide +kernel
theorem dX1_firstUnsafe_12 : decode cX1_firstUnsafe 12 = .ok (.iload_n 1, 1) := by decide +kernel
theorem dX1_firstUnsafe_13 : decode cX1_firstUnsafe 13 = .ok (.invokevirtual 92, 3) := by decide +kernel
theorem dX1_firstUnsafe_16 : decode cX1_firstUnsafe 16 = .ok (.ifCond .ne 5, 3) := by decide +kernel
theorem dX1_firstUnsafe_19 : decode cX1_firstUnsafe 19 = .ok (.iload_n 2, 1) := by decide +kernel
theorem dX1_firstUnsafe_20 : decode cX1_firstUnsafe 20 = .ok (.ireturn, 1) := by decide +kernel
theorem dX1_firstUnsafe_0 : decode cX1_firstUnsafe 0 = .ok (.iconst 0, 1) := by decide +kernel
theorem dX1_firstUnsafe_1 : decode cX1_firstUnsafe 1 = .ok (.istore_n 2, 1) := by decide +kernel
/-! what is enrolled: how many, which pairs, the code, blocks, bits, helper, helper at first, secret, check -/
abbrev zE : Type := Nat × (Nat → Nat) × Nat × Nat × Nat × Nat × Nat × Nat × Nat
abbrev eN (K : zE) : Nat := K.1
abbrev eP (K : zE) : Nat → Nat := K.2.1
abbrev eR (K : zE) : Nat := K.2.2.1
abbrev eK (K : zE) : Nat := K.2.2.2.1
abbrev eB (K : zE) : Nat := K.2.2.2.2.1
abbrev eH (K : zE) : Nat := K.2.2.2.2.2.1
abbrev eG (K : zE) : Nat := K.2.2.2.2.2.2.1
abbrev eS (K : zE) : Nat := K.2.2.2.2.2.2.2.1
abbrev eC (K : zE) : Nat := K.2.2.2.2.2.2.2.2
def vE (K : zE) : Prop := eN K ≤ 28 ∧ (0 < eN K → (∀ i, i < eN K → eP K i < 28) ∧ vRp (eR K) ∧ eN K = eK K * lnR (eR K) ∧ eK K * btR (eR K) ≤ 16 ∧ (eB K < 2 ^ eN K ∧ eH K < 2 ^ eN K ∧ eG K < 2 ^ eN K) ∧ eS K < 2 ^ (eK K * btR (eR K)) ∧ eC K < 16)
/-- the enrolment at e holds K -/
def rpE (K : zE) (h : zH) (e : Nat) : Prop := h.1 e 0 = nI (eN K) ∧ vE K ∧ (0 < eN K → (∀ i, i < eN K → h.1 (e + 1) i = nI (eP K i)) ∧ (h.1 e 2 = nI (eR K) ∧ h.1 e 3 = nI (eK K)) ∧ (h.1 e 4 = nI (eB K) ∧ h.1 e 5 = nI (eH K) ∧ h.1 e 6 = nI (eG K)) ∧ h.1 e 7 = nI (eS K) ∧ h.1 e 8 = nI (eC K))
theorem rpE_cg {K : zE} {h h' : zH} {e : Nat} (h0 : h'.1 e = h.1 e) (h1 : h'.1 (e + 1) = h.1 (e + 1)) (hE : rpE K h e) : rpE K h' e := by
  unfold rpE at hE ⊢
  rw [h0, h1]
  exact hE
theorem rpE_sm {K : zE} {h h' : zH} {e b n : Nat} (s : sm b n h h') (hd : e + 2 ≤ b ∨ b + n ≤ e) (hE : rpE K h e) : rpE K h' e := rpE_cg (s.1 _ (by omega)) (s.1 _ (by omega)) hE
def eZ : zE := (0, fun _ => 0, 0, 0, 0, 0, 0, 0, 0)
theorem vE_eZ : vE eZ := ⟨Nat.zero_le _, fun z => absurd z (Nat.lt_irrefl _)⟩
theorem vE_b {K : zE} (hv : vE K) (h0 : 0 < eN K) : eB K < 2 ^ 28 ∧ eH K < 2 ^ 28 ∧ eG K < 2 ^ 28 ∧ eS K < 2 ^ 16 ∧ eK K ≤ 16 ∧ (1 ≤ lnR (eR K) ∧ lnR (eR K) ≤ 7 ∧ 1 ≤ btR (eR K) ∧ btR (eR K) ≤ 4) ∧ 1 ≤ eK K := by
  obtain ⟨v1, v2⟩ := hv
  obtain ⟨-, v3, v4, v5, ⟨v6, v7, v8⟩, v9, -⟩ := v2 h0
  have q := lnR_pos v3
  have hp : (2 : Nat) ^ eN K ≤ 2 ^ 28 := Nat.pow_le_pow_right (by omega) v1
  have hp2 : (2 : Nat) ^ (eK K * btR (eR K)) ≤ 2 ^ 16 := Nat.pow_le_pow_right (by omega) v5
  refine ⟨by omega, by omega, by omega, by omega, ?_, q, ?_⟩
  · exact Nat.le_trans (Nat.le_mul_of_pos_right _ (by omega)) v5
  · rcases Nat.eq_zero_or_pos (eK K) with z | z
    · rw [z, Nat.zero_mul] at v4; omega
    · exact z
def ca_X1_clear : (Nat) → List zV := fun e => [vR 10 0 e]
def cp_X1_clear : (Nat) → zH → Prop := fun _ _ => True
def cq_X1_clear : (Nat) → zH → Option zV → zH → Prop := fun e h r h' => r = none ∧ sm e 2 h h' ∧ rpE eZ h' e
theorem rc_X1_clear : ∀ x : (Nat), ∃ (j a : Nat) (As : List zV), ca_X1_clear x = vR (10 + 0) j a :: As := by
  rintro e
  exact ⟨_, _, _, rfl⟩
set_option maxHeartbeats 4000000 in
set_option maxRecDepth 100000 in
theorem m_X1_clear : zM yX1_clear cX1_clear 1 none ({ frames := 0, cells := 0, slots := 0, locals := 0 } : Room) ((ca_X1_clear, cp_X1_clear, cq_X1_clear) : zC (Nat)) := by
  refine zM_of (by decide) ?_
  rintro X Y e h _ O E hR
  have B_0 := zr_aload_n (X := X) (Y := Y) (u := 0) (v := 0) O dX1_clear_0 rfl (zr_iconst (x := 0) O dX1_clear_1 rfl (zr_pI (ci := 0) (j := 0) O zc_0 (by decide) rfl rfl rfl tw_101 dX1_clear_2 (zr_aload_n O dX1_clear_5 rfl (zr_iconst (x := 0) O dX1_clear_6 rfl (zr_pI (ci := 0) (j := 3) O zc_0 (by decide) rfl rfl rfl tw_110 dX1_clear_7 (zr_return O E (Nat.le_refl _) (Nat.le_refl _) dX1_clear_10))))))
  refine ⟨rfl, Nat.le_of_ble_eq_true rfl, _, B_0, ?_⟩
  refine ⟨rfl, sm_tr (sm_I _ _ (by omega) (by omega)) (sm_I _ _ (by omega) (by omega)), ?_, vE_eZ, fun z => absurd z (Nat.lt_irrefl _)⟩
  simp only [zsI_W, zsW_s]
  rfl
def ca_X1_copyFrom : (zE × Nat × Nat) → List zV := fun (K, e, q) => [vR 10 0 e, vR 10 0 q]
def cp_X1_copyFrom : (zE × Nat × Nat) → zH → Prop := fun (K, e, q) h => rpE K h q ∧ (e + 2 ≤ q ∨ q + 2 ≤ e)
def cq_X1_copyFrom : (zE × Nat × Nat) → zH → Option zV → zH → Prop := fun (K, e, q) h r h' => r = none ∧ sm e 2 h h' ∧ rpE K h' e
theorem rc_X1_copyFrom : ∀ x : (zE × Nat × Nat), ∃ (j a : Nat) (As : List zV), ca_X1_copyFrom x = vR (10 + 0) j a :: As := by
  rintro ⟨K, e, q⟩
  exact ⟨_, _, _, rfl⟩
set_option maxHeartbeats 4000000 in
set_option maxRecDepth 100000 in
theorem m_X1_copyFrom : zM yX1_copyFrom cX1_copyFrom 2 none ({ frames := 1, cells := 0, slots := 0, locals := 60 } : Room) ((ca_X1_copyFrom, cp_X1_copyFrom, cq_X1_copyFrom) : zC (zE × Nat × Nat)) := by
  refine zM_of (by decide) ?_
  rintro X Y ⟨K, e, q⟩ h ⟨hE, hd⟩ O E hR
  have B_0 := zr_aload_n (X := X) (Y := Y) (u := 0) (v := 0) O dX1_copyFrom_0 rfl (zr_aload_n O dX1_copyFrom_1 rfl (zr_gI (ci := 0) (j := 0) O zc_0 (by decide) rfl tw_101 dX1_copyFrom_2 (zr_pI (ci := 0) (j := 0) O zc_0 (by decide) rfl rfl rfl tw_101 dX1_copyFrom_5 (zr_aload_n O dX1_copyFrom_8 rfl (zr_gS (ci := 0) (j := 1) (off := 1) (t := 1) (n := 28) O zc_0 (by decide) rfl tw_104 dX1_copyFrom_9 (zr_iconst (x := 0) O dX1_copyFrom_12 rfl (zr_aload_n O dX1_copyFrom_13 rfl (zr_gS (ci := 0) (j := 1) (off := 1) (t := 1) (n := 28) O zc_0 (by decide) rfl tw_104 dX1_copyFrom_14 (zr_iconst (x := 0) O dX1_copyFrom_17 rfl (zr_bipush (x := (28)) O dX1_copyFrom_18 (by decide) (zr_cpy O tw_699 zwc ⟨(zrm (a := 1) (b := 60) hR rfl rfl).1, Nat.le_trans zwn (zrm (a := 1) (b := 60) hR rfl rfl).2.1⟩ dX1_copyFrom_20 (zr_aload_n O dX1_copyFrom_23 rfl (zr_aload_n O dX1_copyFrom_24 rfl (zr_gI (ci := 0) (j := 2) O zc_0 (by decide) rfl tw_108 dX1_copyFrom_25 (zr_pI (ci := 0) (j := 2) O zc_0 (by decide) rfl rfl rfl tw_108 dX1_copyFrom_28 (zr_aload_n O dX1_copyFrom_31 rfl (zr_aload_n O dX1_copyFrom_32 rfl (zr_gI (ci := 0) (j := 3) O zc_0 (by decide) rfl tw_110 dX1_copyFrom_33 (zr_pI (ci := 0) (j := 3) O zc_0 (by decide) rfl rfl rfl tw_110 dX1_copyFrom_36 (zr_aload_n O dX1_copyFrom_39 rfl (zr_aload_n O dX1_copyFrom_40 rfl (zr_gI (ci := 0) (j := 4) O zc_0 (by decide) rfl tw_114 dX1_copyFrom_41 (zr_pI (ci := 0) (j := 4) O zc_0 (by decide) rfl rfl rfl tw_114 dX1_copyFrom_44 (zr_aload_n O dX1_copyFrom_47 rfl (zr_aload_n O dX1_copyFrom_48 rfl (zr_gI (ci := 0) (j := 5) O zc_0 (by decide) rfl tw_117 dX1_copyFrom_49 (zr_pI (ci := 0) (j := 5) O zc_0 (by decide) rfl rfl rfl tw_117 dX1_copyFrom_52 (zr_aload_n O dX1_copyFrom_55 rfl (zr_aload_n O dX1_copyFrom_56 rfl (zr_gI (ci := 0) (j := 6) O zc_0 (by decide) rfl tw_120 dX1_copyFrom_57 (zr_pI (ci := 0) (j := 6) O zc_0 (by decide) rfl rfl rfl tw_120 dX1_copyFrom_60 (zr_aload_n O dX1_copyFrom_63 rfl (zr_aload_n O dX1_copyFrom_64 rfl (zr_gI (ci := 0) (j := 7) O zc_0 (by decide) rfl tw_121 dX1_copyFrom_65 (zr_pI (ci := 0) (j := 7) O zc_0 (by decide) rfl rfl rfl tw_121 dX1_copyFrom_68 (zr_aload_n O dX1_copyFrom_71 rfl (zr_aload_n O dX1_copyFrom_72 rfl (zr_gI (ci := 0) (j := 8) O zc_0 (by decide) rfl tw_125 dX1_copyFrom_73 (zr_pI (ci := 0) (j := 8) O zc_0 (by decide) rfl rfl rfl tw_125 dX1_copyFrom_76 (zr_return O E (Nat.le_refl _) (Nat.le_refl _) dX1_copyFrom_79))))))))))))))))))))))))))))))))))))))))
  refine ⟨rfl, Nat.le_of_ble_eq_true rfl, _, B_0, ?_⟩
  have hE : rpE K h q := hE
  have e1 : q ≠ e := by omega
  have e2 : q ≠ e + 1 := by omega
  have e3 : e ≠ e + 1 := by omega
  have e4 : q + 1 ≠ e := by omega
  have e5 : e + 1 ≠ e := by omega
  refine ⟨rfl, rfl, 28, rfl, by decide, by decide, rfl, ?_, ?_⟩
  · simp only [zsI_W]
    exact sm_tr (sm_tr (sm_tr (sm_tr (sm_tr (sm_tr (sm_tr (sm_tr (sm_W _ _ (by omega) (by omega)) (sm_W _ _ (by omega) (by omega))) (sm_W _ _ (by omega) (by omega))) (sm_W _ _ (by omega) (by omega))) (sm_W _ _ (by omega) (by omega))) (sm_W _ _ (by omega) (by omega))) (sm_W _ _ (by omega) (by omega))) (sm_W _ _ (by omega) (by omega))) (sm_W _ _ (by omega) (by omega))
  · obtain ⟨n1, v1, r1⟩ := hE
    simp only [zsI_W, zsW_s, zsW_n _ _ e1, zsW_n _ _ e2, zsW_n _ _ e3, zsW_n _ _ e4, zsW_n _ _ e5]
    refine ⟨?_, v1, fun h0 => ?_⟩
    · rw [zsW_s]; exact n1
    · obtain ⟨p1, ⟨a1, a2⟩, ⟨a3, a4, a5⟩, a6, a7⟩ := r1 h0
      simp only [zsW_s, zsW_n _ _ e5]
      refine ⟨fun i hi => ?_, ⟨a1, a2⟩, ⟨a3, a4, a5⟩, a6, a7⟩
      have := v1.1
      rw [if_pos (by omega)]
      exact p1 i hi
def ca_X1_isEmpty : (Nat × Nat) → List zV := fun (e, n) => [vR 10 0 e]
def cp_X1_isEmpty : (Nat × Nat) → zH → Prop := fun (e, n) h => h.1 e 0 = nI n ∧ n ≤ 28
def cf_X1_isEmpty : (Nat × Nat) → zH → Int32 := fun (e, n) _ => bI (decide (n = 0))
theorem rc_X1_isEmpty : ∀ x : (Nat × Nat), ∃ (j a : Nat) (As : List zV), ca_X1_isEmpty x = vR (10 + 0) j a :: As := by
  rintro ⟨e, n⟩
  exact ⟨_, _, _, rfl⟩
set_option maxHeartbeats 4000000 in
set_option maxRecDepth 100000 in
theorem m_X1_isEmpty : zM yX1_isEmpty cX1_isEmpty 1 (some .boolean) ({ frames := 0, cells := 0, slots := 0, locals := 0 } : Room) (zcI ca_X1_isEmpty cp_X1_isEmpty cf_X1_isEmpty) := by
  refine zM_of (by decide) ?_
  rintro X Y ⟨e, n⟩ h ⟨hn, hn2⟩ O E hR
  have B_12 := zr_zreturn (X := X) (Y := Y) (u := 0) (v := 0) O E (Nat.le_refl _) (Nat.le_refl _) dX1_isEmpty_12
  have B_11 := zr_iconst (X := X) (Y := Y) (u := 0) (v := 0) (x := 0) O dX1_isEmpty_11 rfl (B_12)
  have B_0 := zr_aload_n (X := X) (Y := Y) (u := 0) (v := 0) O dX1_isEmpty_0 rfl (zr_gI (ci := 0) (j := 0) O zc_0 (by decide) rfl tw_101 dX1_isEmpty_1 (zr_ifne (tgt := 11) O dX1_isEmpty_4 rfl B_11 (zr_iconst (x := 1) O dX1_isEmpty_7 rfl (zr_goto (tgt := 12) O dX1_isEmpty_8 rfl B_12))))
  refine ⟨rfl, Nat.le_of_ble_eq_true rfl, _, B_0, ?_⟩
  have hn : h.1 e 0 = nI n := hn
  have hn2 : n ≤ 28 := hn2
  refine ⟨fun cq => ⟨Or.inl rfl, zri ?_, rfl⟩, fun cq => ⟨Or.inr rfl, zri ?_, rfl⟩⟩
  · rw [hn] at cq
    have : ¬ n = 0 := fun z => cq (by rw [z]; rfl)
    show (0 : Int32) = bI (decide (n = 0))
    rw [decide_eq_false this]; rfl
  · rw [hn] at cq
    have : n = 0 := (nI_eq (b := 0) (by omega) (by omega)).mp cq
    show (1 : Int32) = bI (decide (n = 0))
    rw [decide_eq_true this]; rfl
def ca_X1_secretBits : (Nat × Nat × Nat) → List zV := fun (e, r, n) => [vR 10 0 e]
def cp_X1_secretBits : (Nat × Nat × Nat) → zH → Prop := fun (e, r, n) h => h.1 e 2 = nI r ∧ h.1 e 3 = nI n ∧ vRp r
def cf_X1_secretBits : (Nat × Nat × Nat) → zH → Int32 := fun (e, r, n) _ => nI (n * btR r)
theorem rc_X1_secretBits : ∀ x : (Nat × Nat × Nat), ∃ (j a : Nat) (As : List zV), ca_X1_secretBits x = vR (10 + 0) j a :: As := by
  rintro ⟨e, r, n⟩
  exact ⟨_, _, _, rfl⟩
set_option maxHeartbeats 4000000 in
set_option maxRecDepth 100000 in
theorem m_X1_secretBits : zM yX1_secretBits cX1_secretBits 1 (some .int) ({ frames := 1, cells := 0, slots := 0, locals := 20 } : Room) (zcI ca_X1_secretBits cp_X1_secretBits cf_X1_secretBits) := by
  refine zM_of (by decide) ?_
  rintro X Y ⟨e, r, n⟩ h ⟨h2, h3, hr⟩ O E hR
  have B_0 := zr_aload_n (X := X) (Y := Y) (u := 0) (v := 0) O dX1_secretBits_0 rfl (zr_gI (ci := 0) (j := 3) O zc_0 (by decide) rfl tw_110 dX1_secretBits_1 (zr_aload_n O dX1_secretBits_4 rfl (zr_gI (ci := 0) (j := 2) O zc_0 (by decide) rfl tw_108 dX1_secretBits_5 (zr_cI (zr_cS (n := 1) O m_X0_bitsOf (bn_X0_bitsOf _ ⟨rfl, rfl⟩) tw_779 tw_810 (zrm hR rfl rfl) dX1_secretBits_8 (zr_imul O dX1_secretBits_11 (zr_ireturn O E (Nat.le_refl _) (Nat.le_refl _) dX1_secretBits_12)))))))
  refine ⟨rfl, Nat.le_of_ble_eq_true rfl, _, B_0, ?_⟩
  refine ⟨r, by rw [h2]; rfl, hr, zri ?_, rfl⟩
  show h.1 e 3 * nI (btR r) = nI (n * btR r)
  rw [h3, pk_mul]
def ca_X1_leaked : (Nat × Nat × Nat) → List zV := fun (e, r, n) => [vR 10 0 e]
def cp_X1_leaked : (Nat × Nat × Nat) → zH → Prop := fun (e, r, n) h => h.1 e 2 = nI r ∧ h.1 e 3 = nI n ∧ vRp r
def cf_X1_leaked : (Nat × Nat × Nat) → zH → Int32 := fun (e, r, n) _ => nI (n * (lnR r - btR r) + 4)
theorem rc_X1_leaked : ∀ x : (Nat × Nat × Nat), ∃ (j a : Nat) (As : List zV), ca_X1_leaked x = vR (10 + 0) j a :: As := by
  rintro ⟨e, r, n⟩
  exact ⟨_, _, _, rfl⟩
set_option maxHeartbeats 4000000 in
set_option maxRecDepth 100000 in
theorem m_X1_leaked : zM yX1_leaked cX1_leaked 1 (some .int) ({ frames := 2, cells := 0, slots := 0, locals := 41 } : Room) (zcI ca_X1_leaked cp_X1_leaked cf_X1_leaked) := by
  refine zM_of (by decide) ?_
  rintro X Y ⟨e, r, n⟩ h ⟨h2, h3, hr⟩ O E hR
  have B_0 := zr_aload_n (X := X) (Y := Y) (u := 0) (v := 0) O dX1_leaked_0 rfl (zr_gI (ci := 0) (j := 3) O zc_0 (by decide) rfl tw_110 dX1_leaked_1 (zr_aload_n O dX1_leaked_4 rfl (zr_gI (ci := 0) (j := 2) O zc_0 (by decide) rfl tw_108 dX1_leaked_5 (zr_cI (zr_cS (n := 1) O m_X0_lengthOf (bn_X0_lengthOf _ ⟨rfl, rfl⟩) tw_773 tw_815 (zrm hR rfl rfl) dX1_leaked_8 (zr_aload_n O dX1_leaked_11 rfl (zr_gI (ci := 0) (j := 2) O zc_0 (by decide) rfl tw_108 dX1_leaked_12 (zr_cI (zr_cS (n := 1) O m_X0_bitsOf (bn_X0_bitsOf _ ⟨rfl, rfl⟩) tw_779 tw_810 (zrm hR rfl rfl) dX1_leaked_15 (zr_isub O dX1_leaked_18 (zr_imul O dX1_leaked_19 (zr_iconst (x := 4) O dX1_leaked_20 rfl (zr_iadd O dX1_leaked_21 (zr_ireturn O E (Nat.le_refl _) (Nat.le_refl _) dX1_leaked_22))))))))))))))
  refine ⟨rfl, Nat.le_of_ble_eq_true rfl, _, B_0, ?_⟩
  refine ⟨r, by rw [h2]; rfl, hr, r, by rw [h2]; rfl, hr, zri ?_, rfl⟩
  show h.1 e 3 * (nI (lnR r) - nI (btR r)) + 4 = nI (n * (lnR r - btR r) + 4)
  have : nI (lnR r) - nI (btR r) = nI (lnR r - btR r) := by
    rcases hr with rfl | rfl | rfl | rfl | rfl <;> decide
  rw [h3, this, pk_mul, show (4 : Int32) = nI 4 from rfl, nI_add]
/-- a pair's place among the enrolled -/
def plc (K : zE) (p : Nat) : Nat := fa_first (fun i => decide (eP K i = p)) (eN K)
def plI (K : zE) (p : Nat) : Int32 := if plc K p < eN K then nI (plc K p) else -1
theorem first_at {f : Nat → Bool} {n i : Nat} (hi : i < n) (hf : f i = true) (hb : ∀ j, j < i → f j = false) : fa_first f n = i := by
  have h1 := fa_first_le f n
  rcases Nat.lt_trichotomy (fa_first f n) i with h | h | h
  · have h2 := fa_first_yes f n (by omega)
    rw [hb _ h] at h2; cases h2
  · exact h
  · have h2 := fa_first_no f n i h
    rw [hf] at h2; cases h2
theorem first_none {f : Nat → Bool} {n : Nat} (hb : ∀ j, j < n → f j = false) : ¬ fa_first f n < n := by
  intro h
  have h2 := fa_first_yes f n h
  rw [hb _ h] at h2; cases h2
def ca_X1_placeOf : (zE × Nat × Nat) → List zV := fun (K, e, p) => [vR 10 0 e, vI (nI p)]
def cp_X1_placeOf : (zE × Nat × Nat) → zH → Prop := fun (K, e, p) h => rpE K h e ∧ p < 28
def cf_X1_placeOf : (zE × Nat × Nat) → zH → Int32 := fun (K, e, p) _ => plI K p
theorem rc_X1_placeOf : ∀ x : (zE × Nat × Nat), ∃ (j a : Nat) (As : List zV), ca_X1_placeOf x = vR (10 + 0) j a :: As := by
  rintro ⟨K, e, p⟩
  exact ⟨_, _, _, rfl⟩
set_option maxHeartbeats 4000000 in
set_option maxRecDepth 100000 in
theorem m_X1_placeOf : zM yX1_placeOf cX1_placeOf 3 (some .int) ({ frames := 0, cells := 0, slots := 0, locals := 0 } : Room) (zcI ca_X1_placeOf cp_X1_placeOf cf_X1_placeOf) := by
  refine zM_of (by decide) ?_
  rintro X Y ⟨K, e, p⟩ h ⟨hE, hp⟩ O E hR
  have B_28 := zr_iconst (X := X) (Y := Y) (u := 0) (v := 0) (x := (-1)) O dX1_placeOf_28 rfl (zr_ireturn O E (Nat.le_refl _) (Nat.le_refl _) dX1_placeOf_29)
  have L_2 : ∀ nn : Nat, zSd X Y 0 0 2 ((fun k ls st h1 => ∃ (i : Nat) (z : Int32), k = eN K - i ∧ i ≤ eN K ∧ ls = [some (vR 10 0 e), some (vI (nI p)), some (vI z)] ∧ z = nI i ∧ st = [] ∧ h = h1 ∧ ∀ j, j < i → decide (eP K j = p) = false : Nat → zT) nn) := by
    refine zSd_loop (fun nn ih => ?_)
    have B_22 := zr_iinc (X := X) (Y := Y) (u := 0) (v := 0) (c := 1) O dX1_placeOf_22 rfl (zr_goto (tgt := 2) O dX1_placeOf_25 rfl ih)
    have B_2 := zr_iload_n (X := X) (Y := Y) (u := 0) (v := 0) O dX1_placeOf_2 rfl (zr_aload_n O dX1_placeOf_3 rfl (zr_gI (ci := 0) (j := 0) O zc_0 (by decide) rfl tw_101 dX1_placeOf_4 (zr_icge (tgt := 28) O dX1_placeOf_7 rfl B_28 (zr_aload_n O dX1_placeOf_10 rfl (zr_gS (ci := 0) (j := 1) (off := 1) (t := 1) (n := 28) O zc_0 (by decide) rfl tw_104 dX1_placeOf_11 (zr_iload_n O dX1_placeOf_14 rfl (zr_iald O dX1_placeOf_15 (zr_iload_n O dX1_placeOf_16 rfl (zr_icne (tgt := 22) O dX1_placeOf_17 rfl B_22 (zr_iload_n O dX1_placeOf_20 rfl (zr_ireturn O E (Nat.le_refl _) (Nat.le_refl _) dX1_placeOf_21)))))))))))
    refine zSd_weak B_2 (fun ls st h1 t => ?_)
    have hE : rpE K h e := hE
    have hp : p < 28 := hp
    obtain ⟨i, z, rfl, hi, rfl, rfl, rfl, rfl, hb⟩ := t
    have h28 := hE.2.1.1
    refine ⟨fun cq => ⟨zri ?_, rfl⟩, fun cq => ?_⟩
    · rw [hE.1] at cq
      have := (nI_leI (by omega) (by omega)).mp cq
      rw [show i = eN K by omega] at hb
      show (-1 : Int32) = plI K p
      rw [plI, plc, if_neg (first_none hb)]
    · rw [hE.1] at cq
      have hi2 : i < eN K := Nat.not_le.mp (fun z => cq ((nI_leI (by omega) (by omega)).mpr z))
      have ei := (hE.2.2 (by omega)).1 i hi2
      have li := (hE.2.1.2 (by omega)).1 i hi2
      refine ⟨i, rfl, by omega, fun dq => ?_, fun dq => ⟨zri ?_, rfl⟩⟩
      · rw [ei] at dq
        have hne : eP K i ≠ p := fun z => dq (by rw [z])
        refine ⟨eN K - (i + 1), by omega, i + 1, _, rfl, by omega, rfl, nI_1 i, rfl, rfl, fun j hj => ?_⟩
        by_cases hji : j = i
        · rw [hji]; exact decide_eq_false hne
        · exact hb j (by omega)
      · rw [ei] at dq
        have he : eP K i = p := (nI_eq (by omega) (by omega)).mp dq
        have ep : plc K p = i := first_at hi2 (decide_eq_true he) hb
        show nI i = plI K p
        rw [plI, ep, if_pos hi2]
  have B_2 := zSd_any L_2
  have B_0 := zr_iconst (X := X) (Y := Y) (u := 0) (v := 0) (x := 0) O dX1_placeOf_0 rfl (zr_istore_n O dX1_placeOf_1 rfl (B_2))
  refine ⟨rfl, Nat.le_of_ble_eq_true rfl, _, B_0, ?_⟩
  exact ⟨eN K - 0, 0, _, rfl, Nat.zero_le _, rfl, rfl, rfl, rfl, fun j hj => absurd hj (by omega)⟩
/-- the enrolled pairs as a set -/
def psN (K : zE) : Nat → Nat
  | 0 => 0
  | i + 1 => psN K i ||| 2 ^ eP K i
theorem psN_lt {K : zE} : ∀ n, (∀ i, i < n → eP K i < 28) → psN K n < 2 ^ 28
  | 0, _ => (by decide : (0 : Nat) < 2 ^ 28)
  | n + 1, hp => or_lt (psN_lt n (fun i hi => hp i (by omega))) (Nat.pow_lt_pow_right (by omega) (hp n (by omega)))
def ca_X1_pairsAsSet : (zE × Nat) → List zV := fun (K, e) => [vR 10 0 e]
def cp_X1_pairsAsSet : (zE × Nat) → zH → Prop := fun (K, e) h => rpE K h e
def cf_X1_pairsAsSet : (zE × Nat) → zH → Int32 := fun (K, e) _ => nI (psN K (eN K))
theorem rc_X1_pairsAsSet : ∀ x : (zE × Nat), ∃ (j a : Nat) (As : List zV), ca_X1_pairsAsSet x = vR (10 + 0) j a :: As := by
  rintro ⟨K, e⟩
  exact ⟨_, _, _, rfl⟩
set_option maxHeartbeats 4000000 in
set_option maxRecDepth 100000 in
theorem m_X1_pairsAsSet : zM yX1_pairsAsSet cX1_pairsAsSet 3 (some .int) ({ frames := 0, cells := 0, slots := 0, locals := 0 } : Room) (zcI ca_X1_pairsAsSet cp_X1_pairsAsSet cf_X1_pairsAsSet) := by
  refine zM_of (by decide) ?_
  rintro X Y ⟨K, e⟩ h hE O E hR
  have B_29 := zr_iload_n (X := X) (Y := Y) (u := 0) (v := 0) O dX1_pairsAsSet_29 rfl (zr_ireturn O E (Nat.le_refl _) (Nat.le_refl _) dX1_pairsAsSet_30)
  have L_4 : ∀ nn : Nat, zSd X Y 0 0 4 ((fun k ls st h1 => ∃ (i : Nat) (y z : Int32), k = eN K - i ∧ i ≤ eN K ∧ ls = [some (vR 10 0 e), some (vI y), some (vI z)] ∧ y = nI (psN K i) ∧ z = nI i ∧ st = [] ∧ h = h1 : Nat → zT) nn) := by
    refine zSd_loop (fun nn ih => ?_)
    have B_4 := zr_iload_n (X := X) (Y := Y) (u := 0) (v := 0) O dX1_pairsAsSet_4 rfl (zr_aload_n O dX1_pairsAsSet_5 rfl (zr_gI (ci := 0) (j := 0) O zc_0 (by decide) rfl tw_101 dX1_pairsAsSet_6 (zr_icge (tgt := 29) O dX1_pairsAsSet_9 rfl B_29 (zr_iload_n O dX1_pairsAsSet_12 rfl (zr_iconst (x := 1) O dX1_pairsAsSet_13 rfl (zr_aload_n O dX1_pairsAsSet_14 rfl (zr_gS (ci := 0) (j := 1) (off := 1) (t := 1) (n := 28) O zc_0 (by decide) rfl tw_104 dX1_pairsAsSet_15 (zr_iload_n O dX1_pairsAsSet_18 rfl (zr_iald O dX1_pairsAsSet_19 (zr_ishl O dX1_pairsAsSet_20 (zr_ior O dX1_pairsAsSet_21 (zr_istore_n O dX1_pairsAsSet_22 rfl (zr_iinc (c := 1) O dX1_pairsAsSet_23 rfl (zr_goto (tgt := 4) O dX1_pairsAsSet_26 rfl ih))))))))))))))
    refine zSd_weak B_4 (fun ls st h1 t => ?_)
    have hE : rpE K h e := hE
    obtain ⟨i, y, z, rfl, hi, rfl, rfl, rfl, rfl, rfl⟩ := t
    have h28 := hE.2.1.1
    refine ⟨fun cq => ⟨zri ?_, rfl⟩, fun cq => ?_⟩
    · rw [hE.1] at cq
      have := (nI_leI (by omega) (by omega)).mp cq
      rw [show i = eN K by omega]
      rfl
    · rw [hE.1] at cq
      have hi2 : i < eN K := Nat.not_le.mp (fun z => cq ((nI_leI (by omega) (by omega)).mpr z))
      have ei := (hE.2.2 (by omega)).1 i hi2
      have li := (hE.2.1.2 (by omega)).1 i hi2
      refine ⟨i, rfl, by omega, eN K - (i + 1), by omega, i + 1, _, _, rfl, by omega, rfl, ?_, nI_1 i, rfl, rfl⟩
      rw [ei, nI_pow (by omega), fa_or]
      rfl
  have B_4 := zSd_any L_4
  have B_0 := zr_iconst (X := X) (Y := Y) (u := 0) (v := 0) (x := 0) O dX1_pairsAsSet_0 rfl (zr_istore_n O dX1_pairsAsSet_1 rfl (zr_iconst (x := 0) O dX1_pairsAsSet_2 rfl (zr_istore_n O dX1_pairsAsSet_3 rfl (B_4))))
  refine ⟨rfl, Nat.le_of_ble_eq_true rfl, _, B_0, ?_⟩
  exact ⟨eN K - 0, 0, _, _, rfl, Nat.zero_le _, rfl, rfl, rfl, rfl, rfl⟩
/-- whether a heat's noise can turn a place -/
def shk (S : zD) (K : zE) (te : Int32) (i : Nat) : Bool := crd S (eP K i) te (1 - bI ((eB K).testBit i))
def ca_X1_shakyAt : (zD × zE × Nat × Nat × Int32) → List zV := fun (S, K, e, a, te) => [vR 10 0 e, vR 15 0 a, vI te]
def cp_X1_shakyAt : (zD × zE × Nat × Nat × Int32) → zH → Prop := fun (S, K, e, a, te) h => rpE K h e ∧ rpS S h a ∧ ∀ i, i < eN K → eP K i < dP S
def cf_X1_shakyAt : (zD × zE × Nat × Nat × Int32) → zH → Int32 := fun (S, K, e, a, te) _ => nI (mk (shk S K te) (eN K))
theorem rc_X1_shakyAt : ∀ x : (zD × zE × Nat × Nat × Int32), ∃ (j a : Nat) (As : List zV), ca_X1_shakyAt x = vR (10 + 0) j a :: As := by
  rintro ⟨S, K, e, a, te⟩
  exact ⟨_, _, _, rfl⟩
set_option maxHeartbeats 4000000 in
set_option maxRecDepth 100000 in
theorem m_X1_shakyAt : zM yX1_shakyAt cX1_shakyAt 6 (some .int) ({ frames := 2, cells := 0, slots := 0, locals := 50 } : Room) (zcI ca_X1_shakyAt cp_X1_shakyAt cf_X1_shakyAt) := by
  refine zM_of (by decide) ?_
  rintro X Y ⟨S, K, e, a, te⟩ h ⟨hE, hS, hP⟩ O E hR
  have B_61 := zr_iload_n (X := X) (Y := Y) (u := 0) (v := 0) O dX1_shakyAt_61 rfl (zr_ireturn O E (Nat.le_refl _) (Nat.le_refl _) dX1_shakyAt_62)
  have L_5 : ∀ nn : Nat, zSd X Y 0 0 5 ((fun k ls st h1 => ∃ (i : Nat) (y z : Int32) (y5 : Option zV), k = eN K - i ∧ i ≤ eN K ∧ ls = [some (vR 10 0 e), some (vR 15 0 a), some (vI te), some (vI y), some (vI z), y5] ∧ y = nI (mk (shk S K te) i) ∧ z = nI i ∧ st = [] ∧ h = h1 : Nat → zT) nn) := by
    refine zSd_loop (fun nn ih => ?_)
    have B_53 := zr_ior (X := X) (Y := Y) (u := 0) (v := 0) O dX1_shakyAt_53 (zr_istore_n O dX1_shakyAt_54 rfl (zr_iinc (c := 1) O dX1_shakyAt_55 rfl (zr_goto (tgt := 5) O dX1_shakyAt_58 rfl ih)))
    have B_52 := zr_iconst (X := X) (Y := Y) (u := 0) (v := 0) (x := 0) O dX1_shakyAt_52 rfl (B_53)
    have B_5 := zr_iload (X := X) (Y := Y) (u := 0) (v := 0) O dX1_shakyAt_5 (zr_aload_n O dX1_shakyAt_7 rfl (zr_gI (ci := 0) (j := 0) O zc_0 (by decide) rfl tw_101 dX1_shakyAt_8 (zr_icge (tgt := 61) O dX1_shakyAt_11 rfl B_61 (zr_iconst (x := 1) O dX1_shakyAt_14 rfl (zr_aload_n O dX1_shakyAt_15 rfl (zr_gI (ci := 0) (j := 4) O zc_0 (by decide) rfl tw_114 dX1_shakyAt_16 (zr_iload O dX1_shakyAt_19 (zr_cI (zr_cSN (n := 2) O m_X10_bitIn (bn_X10_bitIn _ ⟨rfl, rfl⟩) tw_374 wn_RX1_67 (zrm hR rfl rfl) dX1_shakyAt_21 (zr_isub O dX1_shakyAt_24 (zr_istore O dX1_shakyAt_25 (zr_iload_n O dX1_shakyAt_27 rfl (zr_aload_n O dX1_shakyAt_28 rfl (zr_aload_n O dX1_shakyAt_29 rfl (zr_gS (ci := 0) (j := 1) (off := 1) (t := 1) (n := 28) O zc_0 (by decide) rfl tw_104 dX1_shakyAt_30 (zr_iload O dX1_shakyAt_33 (zr_iald O dX1_shakyAt_35 (zr_iload_n O dX1_shakyAt_36 rfl (zr_iload O dX1_shakyAt_37 (zr_cI (zr_cV (ci := 5) (n := 3) O m_X6_canRead (bn_X6_canRead _ ⟨rfl, rfl⟩) vw_X6_canRead tw_1039 rc_X6_canRead (zrm hR rfl rfl) dX1_shakyAt_39 (zr_ifeq (tgt := 52) O dX1_shakyAt_42 rfl B_52 (zr_iconst (x := 1) O dX1_shakyAt_45 rfl (zr_iload O dX1_shakyAt_46 (zr_ishl O dX1_shakyAt_48 (zr_goto (tgt := 53) O dX1_shakyAt_49 rfl B_53))))))))))))))))))))))))))
    refine zSd_weak B_5 (fun ls st h1 t => ?_)
    have hE : rpE K h e := hE
    have hS : rpS S h a := hS
    obtain ⟨i, y, z, y5, rfl, hi, rfl, rfl, rfl, rfl, rfl⟩ := t
    have h28 := hE.2.1.1
    refine ⟨fun cq => ⟨zri ?_, rfl⟩, fun cq => ?_⟩
    · rw [hE.1] at cq
      have := (nI_leI (by omega) (by omega)).mp cq
      rw [show i = eN K by omega]
      rfl
    · rw [hE.1] at cq
      have hi2 : i < eN K := Nat.not_le.mp (fun z => cq ((nI_leI (by omega) (by omega)).mpr z))
      obtain ⟨p1, ⟨a1, a2⟩, ⟨a3, a4, a5⟩, a6, a7⟩ := hE.2.2 (by omega)
      have ei := p1 i hi2
      obtain ⟨b1, -⟩ := vE_b hE.2.1 (by omega)
      have eb : (h.1 e 4 >>> (nI i &&& 31)) &&& 1 = bI ((eB K).testBit i) := by rw [a3]; exact bI_in (by omega) (by omega)
      refine ⟨(h.1 e 4, nI i), rfl, trivial, i, rfl, by omega, (S, a, eP K i, te, 1 - bI ((eB K).testBit i)), ?_, ⟨hS, hP i hi2⟩, zmg (k := _) (c := bI (shk S K te i) = 0) (x := 0) (y := 1 <<< (nI i &&& 31)) ?_⟩
      · rw [ei]
        show [_, _, _, vI (1 - ((h.1 e 4 >>> (nI i &&& 31)) &&& 1))] = _
        rw [eb]
        rfl
      · refine ⟨eN K - (i + 1), by omega, i + 1, _, _, _, rfl, by omega, rfl, ?_, nI_1 i, rfl, rfl⟩
        show nI (mk (shk S K te) i) ||| (if bI (shk S K te i) = 0 then (0 : Int32) else (1 : Int32) <<< (nI i &&& 31)) = nI (mk (shk S K te) i ||| if shk S K te i then 2 ^ i else 0)
        cases hz : shk S K te i with
        | false => exact fa_or _ 0
        | true => rw [if_neg (by decide), nI_pow (by omega), fa_or]; rfl
  have B_5 := zSd_any L_5
  have B_0 := zr_iconst (X := X) (Y := Y) (u := 0) (v := 0) (x := 0) O dX1_shakyAt_0 rfl (zr_istore_n O dX1_shakyAt_1 rfl (zr_iconst (x := 0) O dX1_shakyAt_2 rfl (zr_istore O dX1_shakyAt_3 (B_5))))
  refine ⟨rfl, Nat.le_of_ble_eq_true rfl, _, B_0, ?_⟩
  exact ⟨eN K - 0, 0, _, _, _, rfl, Nat.zero_le _, rfl, rfl, rfl, rfl, rfl⟩
/-- a block comes back for sure -/
def sfb (K : zE) (w b : Nat) : Bool := decide (pop (wbk (eR K) (w ||| (eH K ^^^ eG K)) b) ≤ mdR (eR K))
def ca_X1_isSafeBlock : (zE × Nat × Nat × Nat) → List zV := fun (K, e, b, w) => [vR 10 0 e, vI (nI b), vI (nI w)]
def cp_X1_isSafeBlock : (zE × Nat × Nat × Nat) → zH → Prop := fun (K, e, b, w) h => rpE K h e ∧ 0 < eN K ∧ b < eK K ∧ w < 2 ^ 28
def cf_X1_isSafeBlock : (zE × Nat × Nat × Nat) → zH → Int32 := fun (K, e, b, w) _ => bI (sfb K w b)
theorem rc_X1_isSafeBlock : ∀ x : (zE × Nat × Nat × Nat), ∃ (j a : Nat) (As : List zV), ca_X1_isSafeBlock x = vR (10 + 0) j a :: As := by
  rintro ⟨K, e, b, w⟩
  exact ⟨_, _, _, rfl⟩
set_option maxHeartbeats 4000000 in
set_option maxRecDepth 100000 in
theorem m_X1_isSafeBlock : zM yX1_isSafeBlock cX1_isSafeBlock 6 (some .boolean) ({ frames := 2, cells := 0, slots := 0, locals := 41 } : Room) (zcI ca_X1_isSafeBlock cp_X1_isSafeBlock cf_X1_isSafeBlock) := by
  refine zM_of (by decide) ?_
  rintro X Y ⟨K, e, b, w⟩ h ⟨hE, h0, hb, hw⟩ O E hR
  have B_55 := zr_zreturn (X := X) (Y := Y) (u := 0) (v := 0) O E (Nat.le_refl _) (Nat.le_refl _) dX1_isSafeBlock_55
  have B_54 := zr_iconst (X := X) (Y := Y) (u := 0) (v := 0) (x := 0) O dX1_isSafeBlock_54 rfl (B_55)
  have B_0 := zr_aload_n (X := X) (Y := Y) (u := 0) (v := 0) O dX1_isSafeBlock_0 rfl (zr_gI (ci := 0) (j := 2) O zc_0 (by decide) rfl tw_108 dX1_isSafeBlock_1 (zr_cI (zr_cS (n := 1) O m_X0_lengthOf (bn_X0_lengthOf _ ⟨rfl, rfl⟩) tw_773 tw_815 (zrm hR rfl rfl) dX1_isSafeBlock_4 (zr_istore_n O dX1_isSafeBlock_7 rfl (zr_iload_n O dX1_isSafeBlock_8 rfl (zr_aload_n O dX1_isSafeBlock_9 rfl (zr_gI (ci := 0) (j := 5) O zc_0 (by decide) rfl tw_117 dX1_isSafeBlock_10 (zr_aload_n O dX1_isSafeBlock_13 rfl (zr_gI (ci := 0) (j := 6) O zc_0 (by decide) rfl tw_120 dX1_isSafeBlock_14 (zr_ixor O dX1_isSafeBlock_17 (zr_ior O dX1_isSafeBlock_18 (zr_istore O dX1_isSafeBlock_19 (zr_iload O dX1_isSafeBlock_21 (zr_iload_n O dX1_isSafeBlock_23 rfl (zr_iload_n O dX1_isSafeBlock_24 rfl (zr_imul O dX1_isSafeBlock_25 (zr_ishr O dX1_isSafeBlock_26 (zr_iconst (x := 1) O dX1_isSafeBlock_27 rfl (zr_iload_n O dX1_isSafeBlock_28 rfl (zr_ishl O dX1_isSafeBlock_29 (zr_iconst (x := 1) O dX1_isSafeBlock_30 rfl (zr_isub O dX1_isSafeBlock_31 (zr_iand O dX1_isSafeBlock_32 (zr_istore O dX1_isSafeBlock_33 (zr_iload O dX1_isSafeBlock_35 (zr_cI (zr_cS (n := 1) O m_J6_bitCount_0f7a4 (bn_J6_bitCount_0f7a4 _ ⟨rfl, rfl⟩) tw_767 tw_1051 (zrm hR rfl rfl) dX1_isSafeBlock_37 (zr_aload_n O dX1_isSafeBlock_40 rfl (zr_gI (ci := 0) (j := 2) O zc_0 (by decide) rfl tw_108 dX1_isSafeBlock_41 (zr_cI (zr_cS (n := 1) O m_X0_mendedBy (bn_X0_mendedBy _ ⟨rfl, rfl⟩) tw_1053 tw_1052 (zrm hR rfl rfl) dX1_isSafeBlock_44 (zr_icgt (tgt := 54) O dX1_isSafeBlock_47 rfl B_54 (zr_iconst (x := 1) O dX1_isSafeBlock_50 rfl (zr_goto (tgt := 55) O dX1_isSafeBlock_51 rfl B_55))))))))))))))))))))))))))))))))))
  refine ⟨rfl, Nat.le_of_ble_eq_true rfl, _, B_0, ?_⟩
  have hE : rpE K h e := hE
  obtain ⟨p1, ⟨a1, a2⟩, ⟨a3, a4, a5⟩, a6, a7⟩ := hE.2.2 h0
  obtain ⟨b1, b2, b3, b4, b5, ⟨q1, q2, q3, q4⟩, b6⟩ := vE_b hE.2.1 h0
  obtain ⟨-, hr, hn, -⟩ := hE.2.1.2 h0
  have h28 := hE.2.1.1
  have hbl : b * lnR (eR K) + lnR (eR K) ≤ eK K * lnR (eR K) := by rw [← Nat.succ_mul]; exact Nat.mul_le_mul_right _ hb
  have hm : w ||| (eH K ^^^ eG K) < 2 ^ 28 := or_lt hw (Nat.xor_lt_two_pow b2 b3)
  have e1 : ((nI w ||| (h.1 e 5 ^^^ h.1 e 6)) >>> ((nI b * nI (lnR (eR K))) &&& 31)) &&& ((1 : Int32) <<< (nI (lnR (eR K)) &&& 31) - 1) = nI (wbk (eR K) (w ||| (eH K ^^^ eG K)) b) := by
    rw [a4, a5, fb_xorI, fa_or, pk_mul, shrI (by omega) (by omega), mskI (by omega)]
    rfl
  have hlt : wbk (eR K) (w ||| (eH K ^^^ eG K)) b < 128 := Nat.lt_of_lt_of_le (Nat.mod_lt _ (Nat.two_pow_pos _)) (Nat.pow_le_pow_right (n := 2) (by omega) (by omega : lnR (eR K) ≤ 7))
  have hpop : pcI (nI (wbk (eR K) (w ||| (eH K ^^^ eG K)) b)) = nI (pop (wbk (eR K) (w ||| (eH K ^^^ eG K)) b)) := pcI_pop (by omega)
  have hp32 := pop_le (wbk (eR K) (w ||| (eH K ^^^ eG K)) b)
  have hmd : mdR (eR K) < 32 := by rcases hr with z | z | z | z | z <;> rw [z] <;> decide
  refine ⟨eR K, by rw [a1]; rfl, hr, nI (wbk (eR K) (w ||| (eH K ^^^ eG K)) b), congrArg (fun z => [vI z]) e1, trivial, eR K, by rw [a1]; rfl, hr, fun cq => ⟨Or.inl rfl, zri ?_, rfl⟩, fun cq => ⟨Or.inr rfl, zri ?_, rfl⟩⟩
  · replace cq : nI (mdR (eR K)) < pcI (nI (wbk (eR K) (w ||| (eH K ^^^ eG K)) b)) := cq
    rw [hpop] at cq
    have := (nI_ltI (by omega) (by omega)).mp cq
    show (0 : Int32) = bI (sfb K w b)
    rw [sfb, decide_eq_false (by omega)]
    rfl
  · replace cq : ¬ nI (mdR (eR K)) < pcI (nI (wbk (eR K) (w ||| (eH K ^^^ eG K)) b)) := cq
    rw [hpop] at cq
    have : ¬ _ := fun z => cq ((nI_ltI (by omega) (by omega)).mpr z)
    show (1 : Int32) = bI (sfb K w b)
    rw [sfb, decide_eq_true (by omega)]
    rfl
def ca_X1_safeBlocks : (zE × Nat × Nat) → List zV := fun (K, e, w) => [vR 10 0 e, vI (nI w)]
def cp_X1_safeBlocks : (zE × Nat × Nat) → zH → Prop := fun (K, e, w) h => rpE K h e ∧ 0 < eN K ∧ w < 2 ^ 28
def cf_X1_safeBlocks : (zE × Nat × Nat) → zH → Int32 := fun (K, e, w) _ => nI (fb_ct (sfb K w) (eK K))
theorem rc_X1_safeBlocks : ∀ x : (zE × Nat × Nat), ∃ (j a : Nat) (As : List zV), ca_X1_safeBlocks x = vR (10 + 0) j a :: As := by
  rintro ⟨K, e, w⟩
  exact ⟨_, _, _, rfl⟩
set_option maxHeartbeats 4000000 in
set_option maxRecDepth 100000 in
theorem m_X1_safeBlocks : zM yX1_safeBlocks cX1_safeBlocks 4 (some .int) ({ frames := 3, cells := 0, slots := 0, locals := 66 } : Room) (zcI ca_X1_safeBlocks cp_X1_safeBlocks cf_X1_safeBlocks) := by
  refine zM_of (by decide) ?_
  rintro X Y ⟨K, e, w⟩ h ⟨hE, h0, hw⟩ O E hR
  have B_35 := zr_iload_n (X := X) (Y := Y) (u := 0) (v := 0) O dX1_safeBlocks_35 rfl (zr_ireturn O E (Nat.le_refl _) (Nat.le_refl _) dX1_safeBlocks_36)
  have L_4 : ∀ nn : Nat, zSd X Y 0 0 4 ((fun k ls st h1 => ∃ (i : Nat) (y z : Int32), k = eK K - i ∧ i ≤ eK K ∧ ls = [some (vR 10 0 e), some (vI (nI w)), some (vI y), some (vI z)] ∧ y = nI (fb_ct (sfb K w) i) ∧ z = nI i ∧ st = [] ∧ h = h1 : Nat → zT) nn) := by
    refine zSd_loop (fun nn ih => ?_)
    have B_27 := zr_iadd (X := X) (Y := Y) (u := 0) (v := 0) O dX1_safeBlocks_27 (zr_istore_n O dX1_safeBlocks_28 rfl (zr_iinc (c := 1) O dX1_safeBlocks_29 rfl (zr_goto (tgt := 4) O dX1_safeBlocks_32 rfl ih)))
    have B_26 := zr_iconst (X := X) (Y := Y) (u := 0) (v := 0) (x := 0) O dX1_safeBlocks_26 rfl (B_27)
    have B_4 := zr_iload_n (X := X) (Y := Y) (u := 0) (v := 0) O dX1_safeBlocks_4 rfl (zr_aload_n O dX1_safeBlocks_5 rfl (zr_gI (ci := 0) (j := 3) O zc_0 (by decide) rfl tw_110 dX1_safeBlocks_6 (zr_icge (tgt := 35) O dX1_safeBlocks_9 rfl B_35 (zr_iload_n O dX1_safeBlocks_12 rfl (zr_aload_n O dX1_safeBlocks_13 rfl (zr_iload_n O dX1_safeBlocks_14 rfl (zr_iload_n O dX1_safeBlocks_15 rfl (zr_cI (zr_cV (ci := 0) (n := 2) O m_X1_isSafeBlock (bn_X1_isSafeBlock _ ⟨rfl, rfl⟩) vw_X1_isSafeBlock tw_1047 rc_X1_isSafeBlock (zrm hR rfl rfl) dX1_safeBlocks_16 (zr_ifeq (tgt := 26) O dX1_safeBlocks_19 rfl B_26 (zr_iconst (x := 1) O dX1_safeBlocks_22 rfl (zr_goto (tgt := 27) O dX1_safeBlocks_23 rfl B_27))))))))))))
    refine zSd_weak B_4 (fun ls st h1 t => ?_)
    have hE : rpE K h e := hE
    obtain ⟨p1, ⟨a1, a2⟩, -⟩ := hE.2.2 h0
    obtain ⟨b1, b2, b3, b4, b5, -⟩ := vE_b hE.2.1 h0
    obtain ⟨i, y, z, rfl, hi, rfl, rfl, rfl, rfl, rfl⟩ := t
    refine ⟨fun cq => ⟨zri ?_, rfl⟩, fun cq => ?_⟩
    · rw [a2] at cq
      have := (nI_leI (by omega) (by omega)).mp cq
      rw [show i = eK K by omega]
      rfl
    · rw [a2] at cq
      have hi2 : i < eK K := Nat.not_le.mp (fun z => cq ((nI_leI (by omega) (by omega)).mpr z))
      refine ⟨(K, e, i, w), rfl, ⟨hE, h0, hi2, hw⟩, zmg (k := _) (c := bI (sfb K w i) = 0) (x := 0) (y := 1) ?_⟩
      refine ⟨eK K - (i + 1), by omega, i + 1, _, _, rfl, by omega, rfl, ?_, nI_1 i, rfl, rfl⟩
      rw [fb_ct_succ]
      cases hz : sfb K w i with
      | false => exact Int32.add_zero _
      | true => rw [if_neg (by decide)]; exact nI_1 _
  have B_4 := zSd_any L_4
  have B_0 := zr_iconst (X := X) (Y := Y) (u := 0) (v := 0) (x := 0) O dX1_safeBlocks_0 rfl (zr_istore_n O dX1_safeBlocks_1 rfl (zr_iconst (x := 0) O dX1_safeBlocks_2 rfl (zr_istore_n O dX1_safeBlocks_3 rfl (B_4))))
  refine ⟨rfl, Nat.le_of_ble_eq_true rfl, _, B_0, ?_⟩
  exact ⟨eK K - 0, 0, _, _, rfl, Nat.zero_le _, rfl, rfl, rfl, rfl, rfl⟩
/-- the first block that doesn't -/
def fus (K : zE) (w : Nat) : Nat := fa_first (fun b => !sfb K w b) (eK K)
def fuI (K : zE) (w : Nat) : Int32 := if fus K w < eK K then nI (fus K w) else -1
def ca_X1_firstUnsafe : (zE × Nat × Nat) → List zV := fun (K, e, w) => [vR 10 0 e, vI (nI w)]
def cp_X1_firstUnsafe : (zE × Nat × Nat) → zH → Prop := fun (K, e, w) h => rpE K h e ∧ 0 < eN K ∧ w < 2 ^ 28
def cf_X1_firstUnsafe : (zE × Nat × Nat) → zH → Int32 := fun (K, e, w) _ => fuI K w
theorem rc_X1_firstUnsafe : ∀ x : (zE × Nat × Nat), ∃ (j a : Nat) (As : List zV), ca_X1_firstUnsafe x = vR (10 + 0) j a :: As := by
  rintro ⟨K, e, w⟩
  exact ⟨_, _, _, rfl⟩
set_option maxHeartbeats 4000000 in
set_option maxRecDepth 100000 in
theorem m_X1_firstUnsafe : zM yX1_firstUnsafe cX1_firstUnsafe 3 (some .int) ({ frames := 3, cells := 0, slots := 0, locals := 66 } : Room) (zcI ca_X1_firstUnsafe cp_X1_firstUnsafe cf_X1_firstUnsafe) := by
  refine zM_of (by decide) ?_
  rintro X Y ⟨K, e, w⟩ h ⟨hE, h0, hw⟩ O E hR
  have B_27 := zr_iconst (X := X) (Y := Y) (u := 0) (v := 0) (x := (-1)) O dX1_firstUnsafe_27 rfl (zr_ireturn O E (Nat.le_refl _) (Nat.le_refl _) dX1_firstUnsafe_28)
  have L_2 : ∀ nn : Nat, zSd X Y 0 0 2 ((fun k ls st h1 => ∃ (i : Nat) (z : Int32), k = eK K - i ∧ i ≤ eK K ∧ ls = [some (vR 10 0 e), some (vI (nI w)), some (vI z)] ∧ z = nI i ∧ st = [] ∧ h = h1 ∧ ∀ j, j < i → (!sfb K w j) = false : Nat → zT) nn) := by
    refine zSd_loop (fun nn ih => ?_)
    have B_21 := zr_iinc (X := X) (Y := Y) (u := 0) (v := 0) (c := 1) O dX1_firstUnsafe_21 rfl (zr_goto (tgt := 2) O dX1_firstUnsafe_24 rfl ih)
    have B_2 := zr_iload_n (X := X) (Y := Y) (u := 0) (v := 0) O dX1_firstUnsafe_2 rfl (zr_aload_n O dX1_firstUnsafe_3 rfl (zr_gI (ci := 0) (j := 3) O zc_0 (by decide) rfl tw_110 dX1_firstUnsafe_4 (zr_icge (tgt := 27) O dX1_firstUnsafe_7 rfl B_27 (zr_aload_n O dX1_firstUnsafe_10 rfl (zr_iload_n O dX1_firstUnsafe_11 rfl (zr_iload_n O dX1_firstUnsafe_12 rfl (zr_cI (zr_cV (ci := 0) (n := 2) O m_X1_isSafeBlock (bn_X1_isSafeBlock _ ⟨rfl, rfl⟩) vw_X1_isSafeBlock tw_1047 rc_X1_isSafeBlock (zrm hR rfl rfl) dX1_firstUnsafe_13 (zr_ifne (tgt := 21) O dX1_firstUnsafe_16 rfl B_21 (zr_iload_n O dX1_firstUnsafe_19 rfl (zr_ireturn O E (Nat.le_refl _) (Nat.le_refl _) dX1_firstUnsafe_20)))))))))))
    refine zSd_weak B_2 (fun ls st h1 t => ?_)
    have hE : rpE K h e := hE
    obtain ⟨p1, ⟨a1, a2⟩, -⟩ := hE.2.2 h0
    obtain ⟨b1, b2, b3, b4, b5, -⟩ := vE_b hE.2.1 h0
    obtain ⟨i, z, rfl, hi, rfl, rfl, rfl, rfl, hb⟩ := t
    refine ⟨fun cq => ⟨zri ?_, rfl⟩, fun cq => ?_⟩
    · rw [a2] at cq
      have := (nI_leI (by omega) (by omega)).mp cq
      rw [show i = eK K by omega] at hb
      show (-1 : Int32) = fuI K w
      rw [fuI, fus, if_neg (first_none hb)]
    · rw [a2] at cq
      have hi2 : i < eK K := Nat.not_le.mp (fun z => cq ((nI_leI (by omega) (by omega)).mpr z))
      refine ⟨(K, e, i, w), rfl, ⟨hE, h0, hi2, hw⟩, fun dq => ?_, fun dq => ⟨zri ?_, rfl⟩⟩
      · have hz : sfb K w i = true := by
          cases hz : sfb K w i with
          | true => rfl
          | false => exact absurd ((bI_0 _).mpr hz) dq
        refine ⟨eK K - (i + 1), by omega, i + 1, _, rfl, by omega, rfl, nI_1 i, rfl, rfl, fun j hj => ?_⟩
        by_cases hji : j = i
        · rw [hji, hz]; rfl
        · exact hb j (by omega)
      · have hz : sfb K w i = false := (bI_0 _).mp dq
        have ep : fus K w = i := first_at hi2 (by rw [hz]; rfl) hb
        show nI i = fuI K w
        rw [fuI, ep, if_pos hi2]
  have B_2 := zSd_any L_2
  have B_0 := zr_iconst (X := X) (Y := Y) (u := 0) (v := 0) (x := 0) O dX1_firstUnsafe_0 rfl (zr_istore_n O dX1_firstUnsafe_1 rfl (B_2))
  refine ⟨rfl, Nat.le_of_ble_eq_true rfl, _, B_0, ?_⟩
  exact ⟨eK K - 0, 0, _, rfl, Nat.zero_le _, rfl, rfl, rfl, rfl, fun j hj => absurd hj (by omega)⟩

