theorem dX0_wordOf_52 : decode cX0_wordOf 52 = .ok (.iload_n 2, 1) := by decide +kernel
theorem dX0_wordOf_53 : decode cX0_wordOf 53 = .ok (.ireturn, 1) := by decide +kernel
theorem dX0_wordOf_23 : decode cX0_wordOf 23 = .ok (.iload_n 3, 1) := by decide +kernel
theorem dX0_wordOf_24 : decode cX0_wordOf 24 = .ok (.bipush 7, 2) := by decide +kernel
theorem dX0_wordOf_26 : decode cX0_wordOf 26 = .ok (.if_icmp .ge 26, 3) := by decide +kernel
theorem dX0_wordOf_29 : decode cX0_wordOf 29 = .ok (.iload_n 2, 1) := by decide +kernel
theorem dX0_wordOf_30 : decode cX0_wordOf 30 = .ok (.iload_n 1, 1) := by decide +kernel
theorem dX0_wordOf_31 : decode cX0_wordOf 31 = .ok (.getstatic 17, 3) := by decide +kernel
theorem dX0_wordOf_34 : decode cX0_wordOf 34 = .ok (.iload_n 3, 1) := by decide +kernel
theorem dX0_wordOf_35 : decode cX0_wordOf 35 = .ok (.iaload, 1) := by decide +kernel
theorem dX0_wordOf_36 : decode cX0_wordOf 36 = .ok (.iand, 1) := by decide +kernel
theorem dX0_wordOf_37 : decode cX0_wordOf 37 = .ok (.invokestatic 21, 3) := by decide +kernel
theorem dX0_wordOf_40 : decode cX0_wordOf 40 = .ok (.iconst 1, 1) := by decide +kernel
theorem dX0_wordOf_41 : decode cX0_wordOf 41 = .ok (.iand, 1) := by decide +kernel
theorem dX0_wordOf_42 : decode cX0_wordOf 42 = .ok (.iload_n 3, 1) := by decide +kernel
theorem dX0_wordOf_43 : decode cX0_wordOf 43 = .ok (.ishl, 1) := by decide +kernel
theorem dX0_wordOf_44 : decode cX0_wordOf 44 = .ok (.ior, 1) := by decide +kernel
theorem dX0_wordOf_45 : decode cX0_wordOf 45 = .ok (.istore_n 2, 1) := by decide +kernel
theorem dX0_wordOf_46 : decode cX0_wordOf 46 = .ok (.iinc 3 1, 3) := by decide +kernel
theorem dX0_wordOf_49 : decode cX0_wordOf 49 = .ok (.goto (-26), 3) := by decide +kernel
theorem dX0_wordOf_19 : decode cX0_wordOf 19 = .ok (.iconst 0, 1) := by decide +kernel
theorem dX0_wordOf_20 : decode cX0_wordOf 20 = .ok (.istore_n 2, 1) := by decide +kernel
theorem dX0_wordOf_21 : decode cX0_wordOf 21 = .ok (.iconst 0, 1) := by decide +kernel
theorem dX0_wordOf_22 : decode cX0_wordOf 22 = .ok (.istore_n 3, 1) := by decide +kernel
theorem dX0_wordOf_18 : decode cX0_wordOf 18 = .ok (.ireturn, 1) := by decide +kernel
theorem dX0_wordOf_17 : decode cX0_wordOf 17 = .ok (.iconst 0, 1) := by decide +kernel
theorem dX0_wordOf_0 : decode cX0_wordOf 0 = .ok (.iload_n 0, 1) := by decide +kernel
theorem dX0_wordOf_1 : decode cX0_wordOf 1 = .ok (.ifCond .eq 18, 3) := by decide +kernel
theorem dX0_wordOf_4 : decode cX0_wordOf 4 = .ok (.iload_n 1, 1) := by decide +kernel
theorem dX0_wordOf_5 : decode cX0_wordOf 5 = .ok (.iconst 1, 1) := by decide +kernel
theorem dX0_wordOf_6 : decode cX0_wordOf 6 = .ok (.if_icmp .ne 11, 3) := by decide +kernel
theorem dX0_wordOf_9 : decode cX0_wordOf 9 = .ok (.iconst 1, 1) := by decide +kernel
theorem dX0_wordOf_10 : decode cX0_wordOf 10 = .ok (.iload_n 0, 1) := by decide +kernel
theorem dX0_wordOf_11 : decode cX0_wordOf 11 = .ok (.ishl, 1) := by decide +kernel
theorem dX0_wordOf_12 : decode cX0_wordOf 12 = .ok (.iconst 1, 1) := by decide +kernel
theorem dX0_wordOf_13 : decode cX0_wordOf 13 = .ok (.isub, 1) := by decide +kernel
theorem dX0_wordOf_14 : decode cX0_wordOf 14 = .ok (.goto 4, 3) := by decide +kernel
theorem dX0_decodedFrom_67 : decode cX0_decodedFrom 67 = .ok (.istore_n 3, 1) := by decide +kernel
theorem dX0_decodedFrom_68 : decode cX0_decodedFrom 68 = .ok (.iload_n 3, 1) := by decide +kernel
theorem dX0_decodedFrom_69 : decode cX0_decodedFrom 69 = .ok (.iconst 2, 1) := by decide +kernel
theorem dX0_decodedFrom_70 : decode cX0_decodedFrom 70 = .ok (.invokestatic 30, 3) := by decide +kernel
theorem dX0_decodedFrom_73 : decode cX0_decodedFrom 73 = .ok (.iload_n 3, 1) := by decide +kernel
theorem dX0_decodedFrom_74 : decode cX0_decodedFrom 74 = .ok (.iconst 4, 1) := by decide +kernel
theorem dX0_decodedFrom_75 : decode cX0_decodedFrom 75 = .ok (.invokestatic 30, 3) := by decide +kernel
theorem dX0_decodedFrom_78 : decode cX0_decodedFrom 78 = .ok (.iconst 1, 1) := by decide +kernel
theorem dX0_decodedFrom_79 : decode cX0_decodedFrom 79 = .ok (.ishl, 1) := by decide +kernel
theorem dX0_decodedFrom_80 : decode cX0_decodedFrom 80 = .ok (.ior, 1) := by decide +kernel
theorem dX0_decodedFrom_81 : decode cX0_decodedFrom 81 = .ok (.iload_n 3, 1) := by decide +kernel
theorem dX0_decodedFrom_82 : decode cX0_decodedFrom 82 = .ok (.iconst 5, 1) := by decide +kernel
theorem dX0_decodedFrom_83 : decode cX0_decodedFrom 83 = .ok (.invokestatic 30, 3) := by decide +kernel
theorem dX0_decodedFrom_86 : decode cX0_decodedFrom 86 = .ok (.iconst 2, 1) := by decide +kernel
theorem dX0_decodedFrom_87 : decode cX0_decodedFrom 87 = .ok (.ishl, 1) := by decide +kernel
theorem dX0_decodedFrom_88 : decode cX0_decodedFrom 88 = .ok (.ior, 1) := by decide +kernel
theorem dX0_decodedFrom_89 : decode cX0_decodedFrom 89 = .ok (.iload_n 3, 1) := by decide +kernel
theorem dX0_decodedFrom_90 : decode cX0_decodedFrom 90 = .ok (.bipush 6, 2) := by decide +kernel
theorem dX0_decodedFrom_92 : decode cX0_decodedFrom 92 = .ok (.invokestatic 30, 3) := by decide +kernel
theorem dX0_decodedFrom_95 : decode cX0_decodedFrom 95 = .ok (.iconst 3, 1) := by decide +kernel
theorem dX0_decodedFrom_96 : decode cX0_decodedFrom 96 = .ok (.ishl, 1) := by decide +kernel
theorem dX0_decodedFrom_97 : decode cX0_decodedFrom 97 = .ok (.ior, 1) := by decide +kernel
theorem dX0_decodedFrom_98 : decode cX0_decodedFrom 98 = .ok (.ireturn, 1) := by decide +kernel
theorem dX0_decodedFrom_60 : decode cX0_decodedFrom 60 = .ok (.iload_n 1, 1) := by decide +kernel
theorem dX0_decodedFrom_61 : decode cX0_decodedFrom 61 = .ok (.iconst 1, 1) := by decide +kernel
theorem dX0_decodedFrom_62 : decode cX0_decodedFrom 62 = .ok (.iload_n 2, 1) := by decide +kernel
theorem dX0_decodedFrom_63 : decode cX0_decodedFrom 63 = .ok (.iconst 1, 1) := by decide +kernel
theorem dX0_decodedFrom_64 : decode cX0_decodedFrom 64 = .ok (.isub, 1) := by decide +kernel
theorem dX0_decodedFrom_65 : decode cX0_decodedFrom 65 = .ok (.ishl, 1) := by decide +kernel
theorem dX0_decodedFrom_66 : decode cX0_decodedFrom 66 = .ok (.ixor, 1) := by decide +kernel
theorem dX0_decodedFrom_52 : decode cX0_decodedFrom 52 = .ok (.iload_n 2, 1) := by decide +kernel
theorem dX0_decodedFrom_53 : decode cX0_decodedFrom 53 = .ok (.ifCond .ne 7, 3) := by decide +kernel
theorem dX0_decodedFrom_56 : decode cX0_decodedFrom 56 = .ok (.iload_n 1, 1) := by decide +kernel
theorem dX0_decodedFrom_57 : decode cX0_decodedFrom 57 = .ok (.goto 10, 3) := by decide +kernel
theorem dX0_decodedFrom_24 : decode cX0_decodedFrom 24 = .ok (.iload_n 3, 1) := by decide +kernel
theorem dX0_decodedFrom_25 : decode cX0_decodedFrom 25 = .ok (.iconst 3, 1) := by decide +kernel
theorem dX0_decodedFrom_26 : decode cX0_decodedFrom 26 = .ok (.if_icmp .ge 26, 3) := by decide +kernel
theorem dX0_decodedFrom_29 : decode cX0_decodedFrom 29 = .ok (.iload_n 2, 1) := by decide +kernel
theorem dX0_decodedFrom_30 : decode cX0_decodedFrom 30 = .ok (.iload_n 1, 1) := by decide +kernel
theorem dX0_decodedFrom_31 : decode cX0_decodedFrom 31 = .ok (.getstatic 27, 3) := by decide +kernel
theorem dX0_decodedFrom_34 : decode cX0_decodedFrom 34 = .ok (.iload_n 3, 1) := by decide +kernel
theorem dX0_decodedFrom_35 : decode cX0_decodedFrom 35 = .ok (.iaload, 1) := by decide +kernel
theorem dX0_decodedFrom_36 : decode cX0_decodedFrom 36 = .ok (.iand, 1) := by decide +kernel
theorem dX0_decodedFrom_37 : decode cX0_decodedFrom 37 = .ok (.invokestatic 21, 3) := by decide +kernel
theorem dX0_decodedFrom_40 : decode cX0_decodedFrom 40 = .ok (.iconst 1, 1) := by decide +kernel
theorem dX0_decodedFrom_41 : decode cX0_decodedFrom 41 = .ok (.iand, 1) := by decide +kernel
theorem dX0_decodedFrom_42 : decode cX0_decodedFrom 42 = .ok (.iload_n 3, 1) := by decide +kernel
theorem dX0_decodedFrom_43 : decode cX0_decodedFrom 43 = .ok (.ishl, 1) := by decide +kernel
theorem dX0_decodedFrom_44 : decode cX0_decodedFrom 44 = .ok (.ior, 1) := by decide +kernel
theorem dX0_decodedFrom_45 : decode cX0_decodedFrom 45 = .ok (.istore_n 2, 1) := by decide +kernel
theorem dX0_decodedFrom_46 : decode cX0_decodedFrom 46 = .ok (.iinc 3 1, 3) := by decide +kernel
theorem dX0_decodedFrom_49 : decode cX0_decodedFrom 49 = .ok (.goto (-25), 3) := by decide +kernel
theorem dX0_decodedFrom_20 : decode cX0_decodedFrom 20 = .ok (.iconst 0, 1) := by decide +kernel
theorem dX0_decodedFrom_21 : decode cX0_decodedFrom 21 = .ok (.istore_n 2, 1) := by decide +kernel
theorem dX0_decodedFrom_22 : decode cX0_decodedFrom 22 = .ok (.iconst 0, 1) := by decide +kernel
theorem dX0_decodedFrom_23 : decode cX0_decodedFrom 23 = .ok (.istore_n 3, 1) := by decide +kernel
theorem dX0_decodedFrom_19 : decode cX0_decodedFrom 19 = .ok (.ireturn, 1) := by decide +kernel
theorem dX0_decodedFrom_18 : decode cX0_decodedFrom 18 = .ok (.iconst 0, 1) := by decide +kernel
theorem dX0_decodedFrom_0 : decode cX0_decodedFrom 0 = .ok (.iload_n 0, 1) := by decide +kernel
theorem dX0_decodedFrom_1 : decode cX0_decodedFrom 1 = .ok (.ifCond .eq 19, 3) := by decide +kernel
theorem dX0_decodedFrom_4 : decode cX0_decodedFrom 4 = .ok (.iconst 2, 1) := by decide +kernel
theorem dX0_decodedFrom_5 : decode cX0_decodedFrom 5 = .ok (.iload_n 1, 1) := by decide +kernel
theorem dX0_decodedFrom_6 : decode cX0_decodedFrom 6 = .ok (.invokestatic 21, 3) := by decide +kernel
theorem dX0_decodedFrom_9 : decode cX0_decodedFrom 9 = .ok (.imul, 1) := by decide +kernel
theorem dX0_decodedFrom_10 : decode cX0_decodedFrom 10 = .ok (.iload_n 0, 1) := by decide +kernel
theorem dX0_decodedFrom_11 : decode cX0_decodedFrom 11 = .ok (.if_icmp .le 7, 3) := by decide +kernel
theorem dX0_decodedFrom_14 : decode cX0_decodedFrom 14 = .ok (.iconst 1, 1) := by decide +kernel
theorem dX0_decodedFrom_15 : decode cX0_decodedFrom 15 = .ok (.goto 4, 3) := by decide +kernel
theorem dX0_wordsOf_56 : decode cX0_wordsOf 56 = .ok (.iload 4, 2) := by decide +kernel
theorem dX0_wordsOf_58 : decode cX0_wordsOf 58 = .ok (.ireturn, 1) := by decide +kernel
theorem dX0_wordsOf_11 : decode cX0_wordsOf 11 = .ok (.iload 5, 2) := by decide +kernel
theorem dX0_wordsOf_13 : decode cX0_wordsOf 13 = .ok (.iload_n 1, 1) := by decide +kernel
theorem dX0_wordsOf_14 : decode cX0_wordsOf 14 = .ok (.if_icmp .ge 42, 3) := by decide +kernel
theorem dX0_wordsOf_17 : decode cX0_wordsOf 17 = .ok (.iload_n 2, 1) := by decide +kernel
theorem dX0_wordsOf_18 : decode cX0_wordsOf 18 = .ok (.iload 5, 2) := by decide +kernel
theorem dX0_wordsOf_20 : decode cX0_wordsOf 20 = .ok (.iload_n 3, 1) := by decide +kernel
theorem dX0_wordsOf_21 : decode cX0_wordsOf 21 = .ok (.imul, 1) := by decide +kernel
theorem dX0_wordsOf_22 : decode cX0_wordsOf 22 = .ok (.ishr, 1) := by decide +kernel
theorem dX0_wordsOf_23 : decode cX0_wordsOf 23 = .ok (.iconst 1, 1) := by decide +kernel
theorem dX0_wordsOf_24 : decode cX0_wordsOf 24 = .ok (.iload_n 3, 1) := by decide +kernel
theorem dX0_wordsOf_25 : decode cX0_wordsOf 25 = .ok (.ishl, 1) := by decide +kernel
theorem dX0_wordsOf_26 : decode cX0_wordsOf 26 = .ok (.iconst 1, 1) := by decide +kernel
theorem dX0_wordsOf_27 : decode cX0_wordsOf 27 = .ok (.isub, 1) := by decide +kernel
theorem dX0_wordsOf_28 : decode cX0_wordsOf 28 = .ok (.iand, 1) := by decide +kernel
theorem dX0_wordsOf_29 : decode cX0_wordsOf 29 = .ok (.istore 6, 2) := by decide +kernel
theorem dX0_wordsOf_31 : decode cX0_wordsOf 31 = .ok (.iload 4, 2) := by decide +kernel
theorem dX0_wordsOf_33 : decode cX0_wordsOf 33 = .ok (.iload_n 0, 1) := by decide +kernel
theorem dX0_wordsOf_34 : decode cX0_wordsOf 34 = .ok (.iload 6, 2) := by decide +kernel
theorem dX0_wordsOf_36 : decode cX0_wordsOf 36 = .ok (.invokestatic 36, 3) := by decide +kernel
theorem dX0_wordsOf_39 : decode cX0_wordsOf 39 = .ok (.iload 5, 2) := by decide +kernel
theorem dX0_wordsOf_41 : decode cX0_wordsOf 41 = .ok (.iload_n 0, 1) := by decide +kernel
theorem dX0_wordsOf_42 : decode cX0_wordsOf 42 = .ok (.invokestatic 39, 3) := by decide +kernel
theorem dX0_wordsOf_45 : decode cX0_wordsOf 45 = .ok (.imul, 1) := by decide +kernel
theorem dX0_wordsOf_46 : decode cX0_wordsOf 46 = .ok (.ishl, 1) := by decide +kernel
theorem dX0_wordsOf_47 : decode cX0_wordsOf 47 = .ok (.ior, 1) := by decide +kernel
theorem dX0_wordsOf_48 : decode cX0_wordsOf 48 = .ok (.istore 4, 2) := by decide +kernel
theorem dX0_wordsOf_50 : decode cX0_wordsOf 50 = .ok (.iinc 5 1, 3) := by decide +kernel
theorem dX0_wordsOf_53 : decode cX0_wordsOf 53 = .ok (.goto (-42), 3) := by decide +kernel
theorem dX0_wordsOf_0 : decode cX0_wordsOf 0 = .ok (.iload_n 0, 1) := by decide +kernel
theorem dX0_wordsOf_1 : decode cX0_wordsOf 1 = .ok (.invokestatic 33, 3) := by decide +kernel
theorem dX0_wordsOf_4 : decode cX0_wordsOf 4 = .ok (.istore_n 3, 1) := by decide +kernel
theorem dX0_wordsOf_5 : decode cX0_wordsOf 5 = .ok (.iconst 0, 1) := by decide +kernel
theorem dX0_wordsOf_6 : decode cX0_wordsOf 6 = .ok (.istore 4, 2) := by decide +kernel
theorem dX0_wordsOf_8 : decode cX0_wordsOf 8 = .ok (.iconst 0, 1) := by decide +kernel
theorem dX0_wordsOf_9 : decode cX0_wordsOf 9 = .ok (.istore 5, 2) := by decide +kernel
theorem dX0_secretFrom_56 : decode cX0_secretFrom 56 = .ok (.iload 4, 2) := by decide +kernel
theorem dX0_secretFrom_58 : decode cX0_secretFrom 58 = .ok (.ireturn, 1) := by decide +kernel
theorem dX0_secretFrom_11 : decode cX0_secretFrom 11 = .ok (.iload 5, 2) := by decide +kernel
theorem dX0_secretFrom_13 : decode cX0_secretFrom 13 = .ok (.iload_n 1, 1) := by decide +kernel
theorem dX0_secretFrom_14 : decode cX0_secretFrom 14 = .ok (.if_icmp .ge 42, 3) := by decide +kernel
theorem dX0_secretFrom_17 : decode cX0_secretFrom 17 = .ok (.iload_n 2, 1) := by decide +kernel
theorem dX0_secretFrom_18 : decode cX0_secretFrom 18 = .ok (.iload 5, 2) := by decide +kernel
theorem dX0_secretFrom_20 : decode cX0_secretFrom 20 = .ok (.iload_n 3, 1) := by decide +kernel
theorem dX0_secretFrom_21 : decode cX0_secretFrom 21 = .ok (.imul, 1) := by decide +kernel
theorem dX0_secretFrom_22 : decode cX0_secretFrom 22 = .ok (.ishr, 1) := by decide +kernel
theorem dX0_secretFrom_23 : decode cX0_secretFrom 23 = .ok (.iconst 1, 1) := by decide +kernel
theorem dX0_secretFrom_24 : decode cX0_secretFrom 24 = .ok (.iload_n 3, 1) := by decide +kernel
theorem dX0_secretFrom_25 : decode cX0_secretFrom 25 = .ok (.ishl, 1) := by decide +kernel
theorem dX0_secretFrom_26 : decode cX0_secretFrom 26 = .ok (.iconst 1, 1) := by decide +kernel
theorem dX0_secretFrom_27 : decode cX0_secretFrom 27 = .ok (.isub, 1) := by decide +kernel
theorem dX0_secretFrom_28 : decode cX0_secretFrom 28 = .ok (.iand, 1) := by decide +kernel
theorem dX0_secretFrom_29 : decode cX0_secretFrom 29 = .ok (.istore 6, 2) := by decide +kernel
theorem dX0_secretFrom_31 : decode cX0_secretFrom 31 = .ok (.iload 4, 2) := by decide +kernel
theorem dX0_secretFrom_33 : decode cX0_secretFrom 33 = .ok (.iload_n 0, 1) := by decide +kernel
theorem dX0_secretFrom_34 : decode cX0_secretFrom 34 = .ok (.iload 6, 2) := by decide +kernel
theorem dX0_secretFrom_36 : decode cX0_secretFrom 36 = .ok (.invokestatic 42, 3) := by decide +kernel
theorem dX0_secretFrom_39 : decode cX0_secretFrom 39 = .ok (.iload 5, 2) := by decide +kernel
theorem dX0_secretFrom_41 : decode cX0_secretFrom 41 = .ok (.iload_n 0, 1) := by decide +kernel
theorem dX0_secretFrom_42 : decode cX0_secretFrom 42 = .ok (.invokestatic 33, 3) := by decide +kernel
theorem dX0_secretFrom_45 : decode cX0_secretFrom 45 = .ok (.imul, 1) := by decide +kernel
theorem dX0_secretFrom_46 : decode cX0_secretFrom 46 = .ok (.ishl, 1) := by decide +kernel
theorem dX0_secretFrom_47 : decode cX0_secretFrom 47 = .ok (.ior, 1) := by decide +kernel
theorem dX0_secretFrom_48 : decode cX0_secretFrom 48 = .ok (.istore 4, 2) := by decide +kernel
theorem dX0_secretFrom_50 : decode cX0_secretFrom 50 = .ok (.iinc 5 1, 3) := by decide +kernel
theorem dX0_secretFrom_53 : decode cX0_secretFrom 53 = .ok (.goto (-42), 3) := by decide +kernel
theorem dX0_secretFrom_0 : decode cX0_secretFrom 0 = .ok (.iload_n 0, 1) := by decide +kernel
theorem dX0_secretFrom_1 : decode cX0_secretFrom 1 = .ok (.invokestatic 39, 3) := by decide +kernel
theorem dX0_secretFrom_4 : decode cX0_secretFrom 4 = .ok (.istore_n 3, 1) := by decide +kernel
theorem dX0_secretFrom_5 : decode cX0_secretFrom 5 = .ok (.iconst 0, 1) := by decide +kernel
theorem dX0_secretFrom_6 : decode cX0_secretFrom 6 = .ok (.istore 4, 2) := by decide +kernel
theorem dX0_secretFrom_8 : decode cX0_secretFrom 8 = .ok (.iconst 0, 1) := by decide +kernel
theorem dX0_secretFrom_9 : decode cX0_secretFrom 9 = .ok (.istore 5, 2) := by decide +kernel
theorem dX0_canBecome_23 : decode cX0_canBecome 23 = .ok (.ireturn, 1) := by decide +kernel
theorem dX0_canBecome_22 : decode cX0_canBecome 22 = .ok (.iconst 0, 1) := by decide +kernel
theorem dX0_canBecome_18 : decode cX0_canBecome 18 = .ok (.iconst 1, 1) := by decide +kernel
theorem dX0_canBecome_19 : decode cX0_canBecome 19 = .ok (.goto 4, 3) := by decide +kernel
theorem dX0_canBecome_0 : decode cX0_canBecome 0 = .ok (.iload_n 1, 1) := by decide +kernel
theorem dX0_canBecome_1 : decode cX0_canBecome 1 = .ok (.iconst 4, 1) := by decide +kernel
theorem dX0_canBecome_2 : decode cX0_canBecome 2 = .ok (.if_icmp .ge 16, 3) := by decide +kernel
theorem dX0_canBecome_5 : decode cX0_canBecome 5 = .ok (.iload_n 0, 1) := by decide +kernel
theorem dX0_canBecome_6 : decode cX0_canBecome 6 = .ok (.iconst 0, 1) := by decide +kernel
theorem dX0_canBecome_7 : decode cX0_canBecome 7 = .ok (.iload_n 1, 1) := by decide +kernel
theorem dX0_canBecome_8 : decode cX0_canBecome 8 = .ok (.invokestatic 45, 3) := by decide +kernel
theorem dX0_canBecome_11 : decode cX0_canBecome 11 = .ok (.iload_n 2, 1) := by decide +kernel
theorem dX0_canBecome_12 : decode cX0_canBecome 12 = .ok (.ixor, 1) := by decide +kernel
theorem dX0_canBecome_13 : decode cX0_canBecome 13 = .ok (.iload_n 1, 1) := by decide +kernel
theorem dX0_canBecome_14 : decode cX0_canBecome 14 = .ok (.ishr, 1) := by decide +kernel
theorem dX0_canBecome_15 : decode cX0_canBecome 15 = .ok (.ifCond .ne 7, 3) := by decide +kernel
/-! shifts and masks of small numbers -/
theorem shrI {m i : Nat} (hm : m < 2 ^ 31) (hi : i < 32) : nI m >>> (nI i &&& 31) = nI (m / 2 ^ i) := pk_shrN hm _ i (s_l i hi)
theorem shlI {m i : Nat} (hi : i < 32) (h : m * 2 ^ i < 2 ^ 32) : nI m <<< (nI i &&& 31) = nI (m * 2 ^ i) := pk_shlN _ i (s_l i hi) h
theorem mskI {m k : Nat} (hk : k < 31) : nI m &&& ((1 : Int32) <<< (nI k &&& 31) - 1) = nI (m % 2 ^ k) := by rw [nI_lo hk, fa_mask]
/-- the places of Hamming's words and sums -/
def hpt (i : Nat) : Nat := ([11, 13, 1, 14, 2, 4, 8] : List Nat).getD i 0
def hsm (i : Nat) : Nat := ([85, 102, 120] : List Nat).getD i 0
def hmw (x : Nat) : Nat → Nat := mk (fun i => decide (pop (x &&& hpt i) % 2 = 1))
def hms (x : Nat) : Nat → Nat := mk (fun i => decide (pop (x &&& hsm i) % 2 = 1))
theorem hmw_i : ∀ x, x < 16 → ∀ i, i < 7 → (pcI (nI x &&& zCc 0 i) &&& 1) <<< (nI i &&& 31) = nI (if pop (x &&& hpt i) % 2 = 1 then 2 ^ i else 0) := by decide +kernel
theorem hms_i : ∀ x, x < 128 → ∀ i, i < 3 → (pcI (nI x &&& zCc 1 i) &&& 1) <<< (nI i &&& 31) = nI (if pop (x &&& hsm i) % 2 = 1 then 2 ^ i else 0) := by decide +kernel
/-- the word of a block's data -/
def wdN (r x : Nat) : Nat := if r = 0 then hmw x 7 else if x = 1 then 2 ^ r - 1 else 0
def ca_X0_wordOf : (Nat × Nat) → List zV := fun (r, x) => [vI (nI r), vI (nI x)]
def cp_X0_wordOf : (Nat × Nat) → zH → Prop := fun (r, x) _ => vRp r ∧ x < 2 ^ btR r
def cf_X0_wordOf : (Nat × Nat) → zH → Int32 := fun (r, x) _ => nI (wdN r x)
set_option maxHeartbeats 4000000 in
set_option maxRecDepth 100000 in
theorem m_X0_wordOf : zM yX0_wordOf cX0_wordOf 4 (some .int) ({ frames := 1, cells := 0, slots := 0, locals := 20 } : Room) (zcI ca_X0_wordOf cp_X0_wordOf cf_X0_wordOf) := by
  refine zM_of (by decide) ?_
  rintro X Y ⟨r, x⟩ h ⟨hr, hx⟩ O E hR
  have B_52 := zr_iload_n (X := X) (Y := Y) (u := 0) (v := 0) O dX0_wordOf_52 rfl (zr_ireturn O E (Nat.le_refl _) (Nat.le_refl _) dX0_wordOf_53)
  have L_23 : ∀ nn : Nat, zSd X Y 0 0 23 ((fun k ls st h1 => ∃ (i : Nat) (y z : Int32), r = 0 ∧ k = 7 - i ∧ i ≤ 7 ∧ ls = [some (vI (nI r)), some (vI (nI x)), some (vI y), some (vI z)] ∧ y = nI (hmw x i) ∧ z = nI i ∧ st = [] ∧ h = h1 : Nat → zT) nn) := by
    refine zSd_loop (fun nn ih => ?_)
    have B_23 := zr_iload_n (X := X) (Y := Y) (u := 0) (v := 0) O dX0_wordOf_23 rfl (zr_bipush (x := (7)) O dX0_wordOf_24 (by decide) (zr_icge (tgt := 52) O dX0_wordOf_26 rfl B_52 (zr_iload_n O dX0_wordOf_29 rfl (zr_iload_n O dX0_wordOf_30 rfl (zr_gst (n := 0) O (by decide) tw_825 dX0_wordOf_31 (zr_iload_n O dX0_wordOf_34 rfl (zr_iald8 O dX0_wordOf_35 (zr_iand O dX0_wordOf_36 (zr_cI (zr_cS (n := 1) O m_J6_bitCount_0f7a4 (bn_J6_bitCount_0f7a4 _ ⟨rfl, rfl⟩) tw_767 tw_827 (zrm hR rfl rfl) dX0_wordOf_37 (zr_iconst (x := 1) O dX0_wordOf_40 rfl (zr_iand O dX0_wordOf_41 (zr_iload_n O dX0_wordOf_42 rfl (zr_ishl O dX0_wordOf_43 (zr_ior O dX0_wordOf_44 (zr_istore_n O dX0_wordOf_45 rfl (zr_iinc (c := 1) O dX0_wordOf_46 rfl (zr_goto (tgt := 23) O dX0_wordOf_49 rfl ih))))))))))))))))))
    refine zSd_weak B_23 (fun ls st h1 t => ?_)
    obtain ⟨i, y, z, rfl, rfl, hi, rfl, rfl, rfl, rfl, rfl⟩ := t
    have hx16 : x < 16 := hx
    refine ⟨fun cq => ⟨zri ?_, rfl⟩, fun cq t0 => ?_⟩
    · have := (nI_leI (a := 7) (by omega) (by omega)).mp cq
      rw [show i = 7 by omega]
      rfl
    · have hi2 : i < 7 := Nat.not_le.mp (fun z => cq ((nI_leI (a := 7) (by omega) (by omega)).mpr z))
      refine ⟨i, rfl, hi2, _, rfl, trivial, 7 - (i + 1), by omega, i + 1, _, _, rfl, rfl, by omega, rfl, ?_, nI_1 i, rfl, rfl⟩
      have e := hmw_i x hx16 i hi2
      show nI (hmw x i) ||| ((pcI (nI x &&& zCc 0 i) &&& 1) <<< (nI i &&& 31)) = nI (hmw x i ||| _)
      rw [e, fa_or]
      simp
  have B_23 := zSd_any L_23
  have B_19 := zr_iconst (X := X) (Y := Y) (u := 0) (v := 0) (x := 0) O dX0_wordOf_19 rfl (zr_istore_n O dX0_wordOf_20 rfl (zr_iconst (x := 0) O dX0_wordOf_21 rfl (zr_istore_n O dX0_wordOf_22 rfl (B_23))))
  have B_18 := zr_ireturn (X := X) (Y := Y) (u := 0) (v := 0) O E (Nat.le_refl _) (Nat.le_refl _) dX0_wordOf_18
  have B_17 := zr_iconst (X := X) (Y := Y) (u := 0) (v := 0) (x := 0) O dX0_wordOf_17 rfl (B_18)
  have B_0 := zr_iload_n (X := X) (Y := Y) (u := 0) (v := 0) O dX0_wordOf_0 rfl (zr_ifeq (tgt := 19) O dX0_wordOf_1 rfl B_19 (zr_iload_n O dX0_wordOf_4 rfl (zr_iconst (x := 1) O dX0_wordOf_5 rfl (zr_icne (tgt := 17) O dX0_wordOf_6 rfl B_17 (zr_iconst (x := 1) O dX0_wordOf_9 rfl (zr_iload_n O dX0_wordOf_10 rfl (zr_ishl O dX0_wordOf_11 (zr_iconst (x := 1) O dX0_wordOf_12 rfl (zr_isub O dX0_wordOf_13 (zr_goto (tgt := 18) O dX0_wordOf_14 rfl B_18))))))))))
  refine ⟨rfl, Nat.le_of_ble_eq_true rfl, _, B_0, ?_⟩
  refine ⟨fun cq => ⟨7 - 0, 0, _, _, ?_, rfl, Nat.zero_le _, rfl, rfl, rfl, rfl, rfl⟩, fun cq => ?_⟩
  · rcases hr with rfl | rfl | rfl | rfl | rfl <;> first | rfl | exact absurd cq (by decide)
  · have h0 : r ≠ 0 := fun z => cq (by rw [z]; rfl)
    have hr8 : r < 8 := by rcases hr with rfl | rfl | rfl | rfl | rfl <;> decide
    have hb : btR r = 1 := if_neg h0
    rw [hb] at hx
    refine ⟨fun dq => ⟨zri ?_, rfl⟩, fun dq => ⟨zri ?_, rfl⟩⟩
    · have : x ≠ 1 := fun z => dq (by rw [z]; rfl)
      show (0 : Int32) = nI (wdN r x)
      rw [wdN, if_neg h0, if_neg this]
      rfl
    · have : x = 1 := (nI_eq (b := 1) (by omega) (by omega)).mp dq
      show (1 : Int32) <<< (nI r &&& 31) - 1 = nI (wdN r x)
      rw [nI_lo (by omega), wdN, if_neg h0, if_pos this]
/-- the data that a word decodes to -/
def hmd (w : Nat) : Nat := if hms w 3 = 0 then w else w ^^^ 2 ^ (hms w 3 - 1)
def h4b (w : Nat) : Nat := (w.testBit 2).toNat + 2 * (w.testBit 4).toNat + 4 * (w.testBit 5).toNat + 8 * (w.testBit 6).toNat
def dcN (r w : Nat) : Nat := if r = 0 then h4b (hmd w) else if r < 2 * pop w then 1 else 0
theorem hmd_i : ∀ w, w < 128 → hms w 3 < 8 ∧ (hms w 3 ≠ 0 → nI w ^^^ ((1 : Int32) <<< ((nI (hms w 3) - 1) &&& 31)) = nI (w ^^^ 2 ^ (hms w 3 - 1)) ∧ w ^^^ 2 ^ (hms w 3 - 1) < 128) := by decide +kernel
theorem h4b_i : ∀ w, w < 128 → ((((nI w >>> ((2 : Int32) &&& 31)) &&& 1) ||| (((nI w >>> ((4 : Int32) &&& 31)) &&& 1) <<< ((1 : Int32) &&& 31))) ||| (((nI w >>> ((5 : Int32) &&& 31)) &&& 1) <<< ((2 : Int32) &&& 31))) ||| (((nI w >>> ((6 : Int32) &&& 31)) &&& 1) <<< ((3 : Int32) &&& 31)) = nI (h4b w) := by decide +kernel
theorem pop7 : ∀ w, w < 128 → pcI (nI w) = nI (pop w) := fun w h => pcI_pop (by omega)
def ca_X0_decodedFrom : (Nat × Nat) → List zV := fun (r, w) => [vI (nI r), vI (nI w)]
def cp_X0_decodedFrom : (Nat × Nat) → zH → Prop := fun (r, w) _ => vRp r ∧ w < 128
def cf_X0_decodedFrom : (Nat × Nat) → zH → Int32 := fun (r, w) _ => nI (dcN r w)
set_option maxHeartbeats 4000000 in
set_option maxRecDepth 100000 in
theorem m_X0_decodedFrom : zM yX0_decodedFrom cX0_decodedFrom 4 (some .int) ({ frames := 1, cells := 0, slots := 0, locals := 21 } : Room) (zcI ca_X0_decodedFrom cp_X0_decodedFrom cf_X0_decodedFrom) := by
  refine zM_of (by decide) ?_
  rintro X Y ⟨r, w⟩ h ⟨hr, hw⟩ O E hR
  have B_67 := zr_istore_n (X := X) (Y := Y) (u := 0) (v := 0) O dX0_decodedFrom_67 rfl (zr_iload_n O dX0_decodedFrom_68 rfl (zr_iconst (x := 2) O dX0_decodedFrom_69 rfl (zr_cI (zr_cSN (n := 2) O m_X10_bitIn (bn_X10_bitIn _ ⟨rfl, rfl⟩) tw_374 wn_RX0_30 (zrm hR rfl rfl) dX0_decodedFrom_70 (zr_iload_n O dX0_decodedFrom_73 rfl (zr_iconst (x := 4) O dX0_decodedFrom_74 rfl (zr_cI (zr_cSN (n := 2) O m_X10_bitIn (bn_X10_bitIn _ ⟨rfl, rfl⟩) tw_374 wn_RX0_30 (zrm hR rfl rfl) dX0_decodedFrom_75 (zr_iconst (x := 1) O dX0_decodedFrom_78 rfl (zr_ishl O dX0_decodedFrom_79 (zr_ior O dX0_decodedFrom_80 (zr_iload_n O dX0_decodedFrom_81 rfl (zr_iconst (x := 5) O dX0_decodedFrom_82 rfl (zr_cI (zr_cSN (n := 2) O m_X10_bitIn (bn_X10_bitIn _ ⟨rfl, rfl⟩) tw_374 wn_RX0_30 (zrm hR rfl rfl) dX0_decodedFrom_83 (zr_iconst (x := 2) O dX0_decodedFrom_86 rfl (zr_ishl O dX0_decodedFrom_87 (zr_ior O dX0_decodedFrom_88 (zr_iload_n O dX0_decodedFrom_89 rfl (zr_bipush (x := (6)) O dX0_decodedFrom_90 (by decide) (zr_cI (zr_cSN (n := 2) O m_X10_bitIn (bn_X10_bitIn _ ⟨rfl, rfl⟩) tw_374 wn_RX0_30 (zrm hR rfl rfl) dX0_decodedFrom_92 (zr_iconst (x := 3) O dX0_decodedFrom_95 rfl (zr_ishl O dX0_decodedFrom_96 (zr_ior O dX0_decodedFrom_97 (zr_ireturn O E (Nat.le_refl _) (Nat.le_refl _) dX0_decodedFrom_98))))))))))))))))))))))))))
  have B_60 := zr_iload_n (X := X) (Y := Y) (u := 0) (v := 0) O dX0_decodedFrom_60 rfl (zr_iconst (x := 1) O dX0_decodedFrom_61 rfl (zr_iload_n O dX0_decodedFrom_62 rfl (zr_iconst (x := 1) O dX0_decodedFrom_63 rfl (zr_isub O dX0_decodedFrom_64 (zr_ishl O dX0_decodedFrom_65 (zr_ixor O dX0_decodedFrom_66 (B_67)))))))
  have B_52 := zr_iload_n (X := X) (Y := Y) (u := 0) (v := 0) O dX0_decodedFrom_52 rfl (zr_ifne (tgt := 60) O dX0_decodedFrom_53 rfl B_60 (zr_iload_n O dX0_decodedFrom_56 rfl (zr_goto (tgt := 67) O dX0_decodedFrom_57 rfl B_67)))
  have L_24 : ∀ nn : Nat, zSd X Y 0 0 24 ((fun k ls st h1 => ∃ (i : Nat) (y z : Int32), r = 0 ∧ k = 3 - i ∧ i ≤ 3 ∧ ls = [some (vI (nI r)), some (vI (nI w)), some (vI y), some (vI z)] ∧ y = nI (hms w i) ∧ z = nI i ∧ st = [] ∧ h = h1 : Nat → zT) nn) := by
    refine zSd_loop (fun nn ih => ?_)
    have B_24 := zr_iload_n (X := X) (Y := Y) (u := 0) (v := 0) O dX0_decodedFrom_24 rfl (zr_iconst (x := 3) O dX0_decodedFrom_25 rfl (zr_icge (tgt := 52) O dX0_decodedFrom_26 rfl B_52 (zr_iload_n O dX0_decodedFrom_29 rfl (zr_iload_n O dX0_decodedFrom_30 rfl (zr_gst (n := 1) O (by decide) tw_1012 dX0_decodedFrom_31 (zr_iload_n O dX0_decodedFrom_34 rfl (zr_iald8 O dX0_decodedFrom_35 (zr_iand O dX0_decodedFrom_36 (zr_cI (zr_cS (n := 1) O m_J6_bitCount_0f7a4 (bn_J6_bitCount_0f7a4 _ ⟨rfl, rfl⟩) tw_767 tw_827 (zrm hR rfl rfl) dX0_decodedFrom_37 (zr_iconst (x := 1) O dX0_decodedFrom_40 rfl (zr_iand O dX0_decodedFrom_41 (zr_iload_n O dX0_decodedFrom_42 rfl (zr_ishl O dX0_decodedFrom_43 (zr_ior O dX0_decodedFrom_44 (zr_istore_n O dX0_decodedFrom_45 rfl (zr_iinc (c := 1) O dX0_decodedFrom_46 rfl (zr_goto (tgt := 24) O dX0_decodedFrom_49 rfl ih))))))))))))))))))
    refine zSd_weak B_24 (fun ls st h1 t => ?_)
    obtain ⟨i, y, z, rfl, rfl, hi, rfl, rfl, rfl, rfl, rfl⟩ := t
    refine ⟨fun cq => ?_, fun cq t0 => ?_⟩
    · have := (nI_leI (a := 3) (by omega) (by omega)).mp cq
      obtain rfl : i = 3 := by omega
      obtain ⟨m1, m2⟩ := hmd_i w hw
      refine ⟨fun dq => ?_, fun dq => ?_⟩
      · have hz : hms w 3 ≠ 0 := fun z => dq (by rw [z]; rfl)
        obtain ⟨m3, m4⟩ := m2 hz
        refine ⟨(_, _), rfl, trivial, (_, _), rfl, trivial, (_, _), rfl, trivial, (_, _), rfl, trivial, zri ?_, rfl⟩
        have e := h4b_i _ m4
        rw [← m3] at e
        refine e.trans ?_
        show nI (h4b (w ^^^ 2 ^ (hms w 3 - 1))) = nI (dcN 0 w)
        rw [dcN, if_pos rfl, hmd, if_neg hz]
      · have hz : hms w 3 = 0 := (nI_eq (b := 0) (by omega) (by omega)).mp dq
        refine ⟨(_, _), rfl, trivial, (_, _), rfl, trivial, (_, _), rfl, trivial, (_, _), rfl, trivial, zri ?_, rfl⟩
        refine (h4b_i w hw).trans ?_
        show nI (h4b w) = nI (dcN 0 w)
        rw [dcN, if_pos rfl, hmd, if_pos hz]
    · have hi2 : i < 3 := Nat.not_le.mp (fun z => cq ((nI_leI (a := 3) (by omega) (by omega)).mpr z))
      refine ⟨i, rfl, hi2, _, rfl, trivial, 3 - (i + 1), by omega, i + 1, _, _, rfl, rfl, by omega, rfl, ?_, nI_1 i, rfl, rfl⟩
      have e := hms_i w hw i hi2
      show nI (hms w i) ||| ((pcI (nI w &&& zCc 1 i) &&& 1) <<< (nI i &&& 31)) = nI (hms w i ||| _)
      rw [e, fa_or]
      simp
  have B_24 := zSd_any L_24
  have B_20 := zr_iconst (X := X) (Y := Y) (u := 0) (v := 0) (x := 0) O dX0_decodedFrom_20 rfl (zr_istore_n O dX0_decodedFrom_21 rfl (zr_iconst (x := 0) O dX0_decodedFrom_22 rfl (zr_istore_n O dX0_decodedFrom_23 rfl (B_24))))
  have B_19 := zr_ireturn (X := X) (Y := Y) (u := 0) (v := 0) O E (Nat.le_refl _) (Nat.le_refl _) dX0_decodedFrom_19
  have B_18 := zr_iconst (X := X) (Y := Y) (u := 0) (v := 0) (x := 0) O dX0_decodedFrom_18 rfl (B_19)
  have B_0 := zr_iload_n (X := X) (Y := Y) (u := 0) (v := 0) O dX0_decodedFrom_0 rfl (zr_ifeq (tgt := 20) O dX0_decodedFrom_1 rfl B_20 (zr_iconst (x := 2) O dX0_decodedFrom_4 rfl (zr_iload_n O dX0_decodedFrom_5 rfl (zr_cI (zr_cS (n := 1) O m_J6_bitCount_0f7a4 (bn_J6_bitCount_0f7a4 _ ⟨rfl, rfl⟩) tw_767 tw_827 (zrm hR rfl rfl) dX0_decodedFrom_6 (zr_imul O dX0_decodedFrom_9 (zr_iload_n O dX0_decodedFrom_10 rfl (zr_icle (tgt := 18) O dX0_decodedFrom_11 rfl B_18 (zr_iconst (x := 1) O dX0_decodedFrom_14 rfl (zr_goto (tgt := 19) O dX0_decodedFrom_15 rfl B_19))))))))))
  refine ⟨rfl, Nat.le_of_ble_eq_true rfl, _, B_0, ?_⟩
  refine ⟨fun cq => ⟨3 - 0, 0, _, _, ?_, rfl, Nat.zero_le _, rfl, rfl, rfl, rfl, rfl⟩, fun cq => ?_⟩
  · rcases hr with rfl | rfl | rfl | rfl | rfl <;> first | rfl | exact absurd cq (by decide)
  · have h0 : r ≠ 0 := fun z => cq (by rw [z]; rfl)
    have hr8 : r < 8 := by rcases hr with rfl | rfl | rfl | rfl | rfl <;> decide
    have hp := pop_le w
    have e : (2 : Int32) * pcI (nI w) = nI (2 * pop w) := by rw [pop7 w hw, show (2 : Int32) = nI 2 from rfl, pk_mul]
    refine ⟨nI w, rfl, trivial, fun dq => ⟨zri ?_, rfl⟩, fun dq => ⟨zri ?_, rfl⟩⟩
    · replace dq : (2 : Int32) * pcI (nI w) ≤ nI r := dq
      rw [e] at dq
      have := (nI_leI (by omega) (by omega)).mp dq
      show (0 : Int32) = nI (dcN r w)
      rw [dcN, if_neg h0, if_neg (by omega)]
      rfl
    · replace dq : ¬ (2 : Int32) * pcI (nI w) ≤ nI r := dq
      rw [e] at dq
      have : r < 2 * pop w := Nat.not_le.mp (fun z => dq ((nI_leI (by omega) (by omega)).mpr z))
      show (1 : Int32) = nI (dcN r w)
      rw [dcN, if_neg h0, if_pos this]
      rfl
theorem wdN_lt {r x : Nat} (hr : vRp r) : wdN r x < 2 ^ lnR r := by
  unfold wdN lnR
  split
  · exact mk_lt _ _
  · split
    · have := Nat.one_le_two_pow (n := r); omega
    · exact Nat.two_pow_pos _
theorem dcN_lt {r w : Nat} : dcN r w < 2 ^ btR r := by
  unfold dcN btR
  split
  · unfold h4b
    generalize (hmd w).testBit 2 = a
    generalize (hmd w).testBit 4 = b
    generalize (hmd w).testBit 5 = c
    generalize (hmd w).testBit 6 = d
    revert a b c d
    decide
  · split <;> decide
/-- the data of block i in a secret -/
def sbk (r s i : Nat) : Nat := s / 2 ^ (i * btR r) % 2 ^ btR r
/-- the word of block i in all words -/
def wbk (r w i : Nat) : Nat := w / 2 ^ (i * lnR r) % 2 ^ lnR r
/-- all words of a secret; all data of words -/
def wsN (r s : Nat) : Nat → Nat
  | 0 => 0
  | n + 1 => wsN r s n ||| wdN r (sbk r s n) * 2 ^ (n * lnR r)
def scN (r w : Nat) : Nat → Nat
  | 0 => 0
  | n + 1 => scN r w n ||| dcN r (wbk r w n) * 2 ^ (n * btR r)
theorem or_lt {a b n : Nat} (ha : a < 2 ^ n) (hb : b < 2 ^ n) : a ||| b < 2 ^ n := Nat.or_lt_two_pow ha hb
theorem shl_lt {x k n l : Nat} (hx : x < 2 ^ l) (h : n * l + l ≤ k) : x * 2 ^ (n * l) < 2 ^ k := by
  have h1 : x * 2 ^ (n * l) < 2 ^ l * 2 ^ (n * l) := Nat.mul_lt_mul_of_pos_right hx (Nat.two_pow_pos _)
  rw [← Nat.pow_add] at h1
  exact Nat.lt_of_lt_of_le h1 (Nat.pow_le_pow_right (by omega) (by omega))
theorem wsN_lt {r s : Nat} (hr : vRp r) : ∀ n, wsN r s n < 2 ^ (n * lnR r)
  | 0 => by show 0 < _; exact Nat.two_pow_pos _
  | n + 1 => by
    have h1 := wsN_lt (s := s) hr n
    have e : (n + 1) * lnR r = n * lnR r + lnR r := Nat.succ_mul _ _
    rw [wsN]
    refine or_lt (Nat.lt_of_lt_of_le h1 (Nat.pow_le_pow_right (by omega) (by omega))) (shl_lt (wdN_lt hr) (by omega))
theorem scN_lt {r w : Nat} : ∀ n, scN r w n < 2 ^ (n * btR r)
  | 0 => by show 0 < _; exact Nat.two_pow_pos _
  | n + 1 => by
    have h1 := scN_lt (r := r) (w := w) n
    have e : (n + 1) * btR r = n * btR r + btR r := Nat.succ_mul _ _
    rw [scN]
    refine or_lt (Nat.lt_of_lt_of_le h1 (Nat.pow_le_pow_right (by omega) (by omega))) (shl_lt dcN_lt (by omega))
def ca_X0_wordsOf : (Nat × Nat × Nat) → List zV := fun (r, n, s) => [vI (nI r), vI (nI n), vI (nI s)]
def cp_X0_wordsOf : (Nat × Nat × Nat) → zH → Prop := fun (r, n, s) _ => vRp r ∧ n * lnR r ≤ 28 ∧ n * btR r ≤ 16 ∧ s < 2 ^ 16
def cf_X0_wordsOf : (Nat × Nat × Nat) → zH → Int32 := fun (r, n, s) _ => nI (wsN r s n)
set_option maxHeartbeats 4000000 in
set_option maxRecDepth 100000 in
theorem m_X0_wordsOf : zM yX0_wordsOf cX0_wordsOf 7 (some .int) ({ frames := 2, cells := 0, slots := 0, locals := 43 } : Room) (zcI ca_X0_wordsOf cp_X0_wordsOf cf_X0_wordsOf) := by
  refine zM_of (by decide) ?_
  rintro X Y ⟨r, n, s⟩ h ⟨hr, hn, hn2, hs⟩ O E hR
  obtain ⟨q1, q2, q3, q4⟩ := lnR_pos hr
  have hnb : n ≤ 28 := Nat.le_trans (Nat.le_mul_of_pos_right _ (by omega)) hn
  have B_56 := zr_iload (X := X) (Y := Y) (u := 0) (v := 0) O dX0_wordsOf_56 (zr_ireturn O E (Nat.le_refl _) (Nat.le_refl _) dX0_wordsOf_58)
  have L_11 : ∀ nn : Nat, zSd X Y 0 0 11 ((fun k ls st h1 => ∃ (i : Nat) (y z : Int32) (w : Option zV), k = n - i ∧ i ≤ n ∧ ls = [some (vI (nI r)), some (vI (nI n)), some (vI (nI s)), some (vI (nI (btR r))), some (vI y), some (vI z), w] ∧ y = nI (wsN r s i) ∧ z = nI i ∧ st = [] ∧ h = h1 : Nat → zT) nn) := by
    refine zSd_loop (fun nn ih => ?_)
    have B_11 := zr_iload (X := X) (Y := Y) (u := 0) (v := 0) O dX0_wordsOf_11 (zr_iload_n O dX0_wordsOf_13 rfl (zr_icge (tgt := 56) O dX0_wordsOf_14 rfl B_56 (zr_iload_n O dX0_wordsOf_17 rfl (zr_iload O dX0_wordsOf_18 (zr_iload_n O dX0_wordsOf_20 rfl (zr_imul O dX0_wordsOf_21 (zr_ishr O dX0_wordsOf_22 (zr_iconst (x := 1) O dX0_wordsOf_23 rfl (zr_iload_n O dX0_wordsOf_24 rfl (zr_ishl O dX0_wordsOf_25 (zr_iconst (x := 1) O dX0_wordsOf_26 rfl (zr_isub O dX0_wordsOf_27 (zr_iand O dX0_wordsOf_28 (zr_istore O dX0_wordsOf_29 (zr_iload O dX0_wordsOf_31 (zr_iload_n O dX0_wordsOf_33 rfl (zr_iload O dX0_wordsOf_34 (zr_cI (zr_cS (n := 2) O m_X0_wordOf (bn_X0_wordOf _ ⟨rfl, rfl⟩) tw_823 tw_822 (zrm hR rfl rfl) dX0_wordsOf_36 (zr_iload O dX0_wordsOf_39 (zr_iload_n O dX0_wordsOf_41 rfl (zr_cI (zr_cS (n := 1) O m_X0_lengthOf (bn_X0_lengthOf _ ⟨rfl, rfl⟩) tw_773 tw_828 (zrm hR rfl rfl) dX0_wordsOf_42 (zr_imul O dX0_wordsOf_45 (zr_ishl O dX0_wordsOf_46 (zr_ior O dX0_wordsOf_47 (zr_istore O dX0_wordsOf_48 (zr_iinc (c := 1) O dX0_wordsOf_50 rfl (zr_goto (tgt := 11) O dX0_wordsOf_53 rfl ih)))))))))))))))))))))))))))))
    refine zSd_weak B_11 (fun ls st h1 t => ?_)
    obtain ⟨i, y, z, w, rfl, hi, rfl, rfl, rfl, rfl, rfl⟩ := t
    refine ⟨fun cq => ⟨zri ?_, rfl⟩, fun cq => ?_⟩
    · have := (nI_leI (by omega) (by omega)).mp cq
      rw [show i = n by omega]
      rfl
    · have hi2 : i < n := Nat.not_le.mp (fun z => cq ((nI_leI (by omega) (by omega)).mpr z))
      have hib : i * btR r + btR r ≤ n * btR r := by rw [← Nat.succ_mul]; exact Nat.mul_le_mul_right _ hi2
      have hil : i * lnR r + lnR r ≤ n * lnR r := by rw [← Nat.succ_mul]; exact Nat.mul_le_mul_right _ hi2
      have e1 : (nI s >>> ((nI i * nI (btR r)) &&& 31)) &&& ((1 : Int32) <<< (nI (btR r) &&& 31) - 1) = nI (sbk r s i) := by
        rw [pk_mul, shrI (by omega) (by omega), mskI (by omega)]
        rfl
      have hlt : sbk r s i < 2 ^ btR r := Nat.mod_lt _ (Nat.two_pow_pos _)
      refine ⟨(r, sbk r s i), congrArg (fun z => [vI (nI r), vI z]) e1, ⟨hr, hlt⟩, r, rfl, hr, n - (i + 1), by omega, i + 1, _, _, _, rfl, by omega, rfl, ?_, nI_1 i, rfl, rfl⟩
      show nI (wsN r s i) ||| (nI (wdN r (sbk r s i)) <<< ((nI i * nI (lnR r)) &&& 31)) = nI (wsN r s i ||| _)
      have hw := shl_lt (x := wdN r (sbk r s i)) (n := i) (k := 28) (wdN_lt hr) (by omega)
      rw [pk_mul, shlI (by omega) (by omega), fa_or]
  have B_11 := zSd_any L_11
  have B_0 := zr_iload_n (X := X) (Y := Y) (u := 0) (v := 0) O dX0_wordsOf_0 rfl (zr_cI (zr_cS (n := 1) O m_X0_bitsOf (bn_X0_bitsOf _ ⟨rfl, rfl⟩) tw_779 tw_821 (zrm hR rfl rfl) dX0_wordsOf_1 (zr_istore_n O dX0_wordsOf_4 rfl (zr_iconst (x := 0) O dX0_wordsOf_5 rfl (zr_istore O dX0_wordsOf_6 (zr_iconst (x := 0) O dX0_wordsOf_8 rfl (zr_istore O dX0_wordsOf_9 (B_11))))))))
  refine ⟨rfl, Nat.le_of_ble_eq_true rfl, _, B_0, ?_⟩
  exact ⟨r, rfl, hr, n - 0, 0, _, _, _, rfl, Nat.zero_le _, rfl, rfl, rfl, rfl, rfl⟩
def ca_X0_secretFrom : (Nat × Nat × Nat) → List zV := fun (r, n, w) => [vI (nI r), vI (nI n), vI (nI w)]
def cp_X0_secretFrom : (Nat × Nat × Nat) → zH → Prop := fun (r, n, w) _ => vRp r ∧ n * lnR r ≤ 28 ∧ n * btR r ≤ 16 ∧ w < 2 ^ 28
def cf_X0_secretFrom : (Nat × Nat × Nat) → zH → Int32 := fun (r, n, w) _ => nI (scN r w n)
set_option maxHeartbeats 4000000 in
set_option maxRecDepth 100000 in
theorem m_X0_secretFrom : zM yX0_secretFrom cX0_secretFrom 7 (some .int) ({ frames := 2, cells := 0, slots := 0, locals := 44 } : Room) (zcI ca_X0_secretFrom cp_X0_secretFrom cf_X0_secretFrom) := by
  refine zM_of (by decide) ?_
  rintro X Y ⟨r, n, w⟩ h ⟨hr, hn, hn2, hw⟩ O E hR
  obtain ⟨q1, q2, q3, q4⟩ := lnR_pos hr
  have hnb : n ≤ 28 := Nat.le_trans (Nat.le_mul_of_pos_right _ (by omega)) hn
  have B_56 := zr_iload (X := X) (Y := Y) (u := 0) (v := 0) O dX0_secretFrom_56 (zr_ireturn O E (Nat.le_refl _) (Nat.le_refl _) dX0_secretFrom_58)
  have L_11 : ∀ nn : Nat, zSd X Y 0 0 11 ((fun k ls st h1 => ∃ (i : Nat) (y z : Int32) (w' : Option zV), k = n - i ∧ i ≤ n ∧ ls = [some (vI (nI r)), some (vI (nI n)), some (vI (nI w)), some (vI (nI (lnR r))), some (vI y), some (vI z), w'] ∧ y = nI (scN r w i) ∧ z = nI i ∧ st = [] ∧ h = h1 : Nat → zT) nn) := by
    refine zSd_loop (fun nn ih => ?_)
    have B_11 := zr_iload (X := X) (Y := Y) (u := 0) (v := 0) O dX0_secretFrom_11 (zr_iload_n O dX0_secretFrom_13 rfl (zr_icge (tgt := 56) O dX0_secretFrom_14 rfl B_56 (zr_iload_n O dX0_secretFrom_17 rfl (zr_iload O dX0_secretFrom_18 (zr_iload_n O dX0_secretFrom_20 rfl (zr_imul O dX0_secretFrom_21 (zr_ishr O dX0_secretFrom_22 (zr_iconst (x := 1) O dX0_secretFrom_23 rfl (zr_iload_n O dX0_secretFrom_24 rfl (zr_ishl O dX0_secretFrom_25 (zr_iconst (x := 1) O dX0_secretFrom_26 rfl (zr_isub O dX0_secretFrom_27 (zr_iand O dX0_secretFrom_28 (zr_istore O dX0_secretFrom_29 (zr_iload O dX0_secretFrom_31 (zr_iload_n O dX0_secretFrom_33 rfl (zr_iload O dX0_secretFrom_34 (zr_cI (zr_cS (n := 2) O m_X0_decodedFrom (bn_X0_decodedFrom _ ⟨rfl, rfl⟩) tw_1010 tw_1009 (zrm hR rfl rfl) dX0_secretFrom_36 (zr_iload O dX0_secretFrom_39 (zr_iload_n O dX0_secretFrom_41 rfl (zr_cI (zr_cS (n := 1) O m_X0_bitsOf (bn_X0_bitsOf _ ⟨rfl, rfl⟩) tw_779 tw_821 (zrm hR rfl rfl) dX0_secretFrom_42 (zr_imul O dX0_secretFrom_45 (zr_ishl O dX0_secretFrom_46 (zr_ior O dX0_secretFrom_47 (zr_istore O dX0_secretFrom_48 (zr_iinc (c := 1) O dX0_secretFrom_50 rfl (zr_goto (tgt := 11) O dX0_secretFrom_53 rfl ih)))))))))))))))))))))))))))))
    refine zSd_weak B_11 (fun ls st h1 t => ?_)
    obtain ⟨i, y, z, w', rfl, hi, rfl, rfl, rfl, rfl, rfl⟩ := t
    refine ⟨fun cq => ⟨zri ?_, rfl⟩, fun cq => ?_⟩
    · have := (nI_leI (by omega) (by omega)).mp cq
      rw [show i = n by omega]
      rfl
    · have hi2 : i < n := Nat.not_le.mp (fun z => cq ((nI_leI (by omega) (by omega)).mpr z))
      have hib : i * btR r + btR r ≤ n * btR r := by rw [← Nat.succ_mul]; exact Nat.mul_le_mul_right _ hi2
      have hil : i * lnR r + lnR r ≤ n * lnR r := by rw [← Nat.succ_mul]; exact Nat.mul_le_mul_right _ hi2
      have e1 : (nI w >>> ((nI i * nI (lnR r)) &&& 31)) &&& ((1 : Int32) <<< (nI (lnR r) &&& 31) - 1) = nI (wbk r w i) := by
        rw [pk_mul, shrI (by omega) (by omega), mskI (by omega)]
        rfl
      have hlt : wbk r w i < 128 := Nat.lt_of_lt_of_le (Nat.mod_lt _ (Nat.two_pow_pos _)) (Nat.pow_le_pow_right (n := 2) (by omega) (by omega : lnR r ≤ 7))
      refine ⟨(r, wbk r w i), congrArg (fun z => [vI (nI r), vI z]) e1, ⟨hr, hlt⟩, r, rfl, hr, n - (i + 1), by omega, i + 1, _, _, _, rfl, by omega, rfl, ?_, nI_1 i, rfl, rfl⟩
      show nI (scN r w i) ||| (nI (dcN r (wbk r w i)) <<< ((nI i * nI (btR r)) &&& 31)) = nI (scN r w i ||| _)
      have hw2 := shl_lt (x := dcN r (wbk r w i)) (n := i) (k := 16) dcN_lt (by omega)
      rw [pk_mul, shlI (by omega) (by omega), fa_or]
  have B_11 := zSd_any L_11
  have B_0 := zr_iload_n (X := X) (Y := Y) (u := 0) (v := 0) O dX0_secretFrom_0 rfl (zr_cI (zr_cS (n := 1) O m_X0_lengthOf (bn_X0_lengthOf _ ⟨rfl, rfl⟩) tw_773 tw_828 (zrm hR rfl rfl) dX0_secretFrom_1 (zr_istore_n O dX0_secretFrom_4 rfl (zr_iconst (x := 0) O dX0_secretFrom_5 rfl (zr_istore O dX0_secretFrom_6 (zr_iconst (x := 0) O dX0_secretFrom_8 rfl (zr_istore O dX0_secretFrom_9 (B_11))))))))
  refine ⟨rfl, Nat.le_of_ble_eq_true rfl, _, B_0, ?_⟩
  exact ⟨r, rfl, hr, n - 0, 0, _, _, _, rfl, Nat.zero_le _, rfl, rfl, rfl, rfl, rfl⟩
/-- can a check become another by so many bits -/
def cbN (c n w : Nat) : Bool := decide (4 ≤ n) || decide ((ckW c 0 n ^^^ w) / 2 ^ n = 0)
def ca_X0_canBecome : (Nat × Nat × Nat) → List zV := fun (c, n, w) => [vI (nI c), vI (nI n), vI (nI w)]
def cp_X0_canBecome : (Nat × Nat × Nat) → zH → Prop := fun (c, n, w) _ => c < 16 ∧ n ≤ 16 ∧ w < 16
def cf_X0_canBecome : (Nat × Nat × Nat) → zH → Int32 := fun (c, n, w) _ => bI (cbN c n w)
set_option maxHeartbeats 4000000 in
set_option maxRecDepth 100000 in
theorem m_X0_canBecome : zM yX0_canBecome cX0_canBecome 3 (some .boolean) ({ frames := 2, cells := 0, slots := 0, locals := 45 } : Room) (zcI ca_X0_canBecome cp_X0_canBecome cf_X0_canBecome) := by
  refine zM_of (by decide) ?_
  rintro X Y ⟨c, n, w⟩ h ⟨hc, hn, hw⟩ O E hR
  have B_23 := zr_zreturn (X := X) (Y := Y) (u := 0) (v := 0) O E (Nat.le_refl _) (Nat.le_refl _) dX0_canBecome_23
  have B_22 := zr_iconst (X := X) (Y := Y) (u := 0) (v := 0) (x := 0) O dX0_canBecome_22 rfl (B_23)
  have B_18 := zr_iconst (X := X) (Y := Y) (u := 0) (v := 0) (x := 1) O dX0_canBecome_18 rfl (zr_goto (tgt := 23) O dX0_canBecome_19 rfl B_23)
  have B_0 := zr_iload_n (X := X) (Y := Y) (u := 0) (v := 0) O dX0_canBecome_0 rfl (zr_iconst (x := 4) O dX0_canBecome_1 rfl (zr_icge (tgt := 18) O dX0_canBecome_2 rfl B_18 (zr_iload_n O dX0_canBecome_5 rfl (zr_iconst (x := 0) O dX0_canBecome_6 rfl (zr_iload_n O dX0_canBecome_7 rfl (zr_cI (zr_cS (n := 3) O m_X0_checkWith (bn_X0_checkWith _ ⟨rfl, rfl⟩) tw_812 tw_1142 (zrm hR rfl rfl) dX0_canBecome_8 (zr_iload_n O dX0_canBecome_11 rfl (zr_ixor O dX0_canBecome_12 (zr_iload_n O dX0_canBecome_13 rfl (zr_ishr O dX0_canBecome_14 (zr_ifne (tgt := 22) O dX0_canBecome_15 rfl B_22 (B_18)))))))))))))
  refine ⟨rfl, Nat.le_of_ble_eq_true rfl, _, B_0, ?_⟩
  refine ⟨fun cq => ⟨Or.inr rfl, zri ?_, rfl⟩, fun cq => ⟨(c, 0, n), rfl, ⟨hc, by decide, hn⟩, fun dq => ⟨Or.inl rfl, zri ?_, rfl⟩, fun dq => ⟨Or.inr rfl, zri ?_, rfl⟩⟩⟩
  · have := (nI_leI (a := 4) (by omega) (by omega)).mp cq
    show (1 : Int32) = bI (cbN c n w)
    simp [cbN, this, bI]
  · have hn4 : ¬ 4 ≤ n := fun z => cq ((nI_leI (a := 4) (by omega) (by omega)).mpr z)
    replace dq : ¬ (nI (ckW c 0 n) ^^^ nI w) >>> (nI n &&& 31) = 0 := dq
    have hlt := ckW_lt hc 0 n
    have hx : ckW c 0 n ^^^ w < 2 ^ 4 := Nat.xor_lt_two_pow (n := 4) hlt hw
    rw [fb_xorI, shrI (by omega) (by omega)] at dq
    have h0 : ¬ (ckW c 0 n ^^^ w) / 2 ^ n = 0 := fun z => dq (by rw [z]; rfl)
    show (0 : Int32) = bI (cbN c n w)
    simp [cbN, hn4, bI, h0]
  · have hn4 : ¬ 4 ≤ n := fun z => cq ((nI_leI (a := 4) (by omega) (by omega)).mpr z)
    replace dq : (nI (ckW c 0 n) ^^^ nI w) >>> (nI n &&& 31) = 0 := dq
    have hlt := ckW_lt hc 0 n
    have hx : ckW c 0 n ^^^ w < 2 ^ 4 := Nat.xor_lt_two_pow (n := 4) hlt hw
    rw [fb_xorI, shrI (by omega) (by omega)] at dq
    have hdl : (ckW c 0 n ^^^ w) / 2 ^ n ≤ ckW c 0 n ^^^ w := Nat.div_le_self _ _
    have h0 : (ckW c 0 n ^^^ w) / 2 ^ n = 0 := (nI_eq (b := 0) (by omega) (by omega)).mp dq
    show (1 : Int32) = bI (cbN c n w)
    simp [cbN, hn4, bI, h0]

