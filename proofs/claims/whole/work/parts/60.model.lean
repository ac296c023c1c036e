theorem dX11_isShaky_136 : decode cX11_isShaky 136 = .ok (.ireturn, 1) := by decide +kernel
theorem dX11_isShaky_135 : decode cX11_isShaky 135 = .ok (.iconst 0, 1) := by decide +kernel
theorem dX11_isShaky_105 : decode cX11_isShaky 105 = .ok (.iload 5, 2) := by decide +kernel
theorem dX11_isShaky_107 : decode cX11_isShaky 107 = .ok (.iload 4, 2) := by decide +kernel
theorem dX11_isShaky_109 : decode cX11_isShaky 109 = .ok (.iadd, 1) := by decide +kernel
theorem dX11_isShaky_110 : decode cX11_isShaky 110 = .ok (.iload 6, 2) := by decide +kernel
theorem dX11_isShaky_112 : decode cX11_isShaky 112 = .ok (.aload_n 0, 1) := by decide +kernel
theorem dX11_isShaky_113 : decode cX11_isShaky 113 = .ok (.getfield 26, 3) := by decide +kernel
theorem dX11_isShaky_116 : decode cX11_isShaky 116 = .ok (.iload_n 3, 1) := by decide +kernel
theorem dX11_isShaky_117 : decode cX11_isShaky 117 = .ok (.iaload, 1) := by decide +kernel
theorem dX11_isShaky_118 : decode cX11_isShaky 118 = .ok (.aload_n 0, 1) := by decide +kernel
theorem dX11_isShaky_119 : decode cX11_isShaky 119 = .ok (.getfield 29, 3) := by decide +kernel
theorem dX11_isShaky_122 : decode cX11_isShaky 122 = .ok (.iload_n 3, 1) := by decide +kernel
theorem dX11_isShaky_123 : decode cX11_isShaky 123 = .ok (.iaload, 1) := by decide +kernel
theorem dX11_isShaky_124 : decode cX11_isShaky 124 = .ok (.invokestatic 78, 3) := by decide +kernel
theorem dX11_isShaky_127 : decode cX11_isShaky 127 = .ok (.iconst 1, 1) := by decide +kernel
theorem dX11_isShaky_128 : decode cX11_isShaky 128 = .ok (.if_icmp .ne 7, 3) := by decide +kernel
theorem dX11_isShaky_131 : decode cX11_isShaky 131 = .ok (.iconst 1, 1) := by decide +kernel
theorem dX11_isShaky_132 : decode cX11_isShaky 132 = .ok (.goto 4, 3) := by decide +kernel
theorem dX11_isShaky_101 : decode cX11_isShaky 101 = .ok (.iconst 0, 1) := by decide +kernel
theorem dX11_isShaky_102 : decode cX11_isShaky 102 = .ok (.goto 34, 3) := by decide +kernel
theorem dX11_isShaky_0 : decode cX11_isShaky 0 = .ok (.aload_n 0, 1) := by decide +kernel
theorem dX11_isShaky_1 : decode cX11_isShaky 1 = .ok (.getfield 17, 3) := by decide +kernel
theorem dX11_isShaky_4 : decode cX11_isShaky 4 = .ok (.bipush 49, 2) := by decide +kernel
theorem dX11_isShaky_6 : decode cX11_isShaky 6 = .ok (.iload_n 1, 1) := by decide +kernel
theorem dX11_isShaky_7 : decode cX11_isShaky 7 = .ok (.iadd, 1) := by decide +kernel
theorem dX11_isShaky_8 : decode cX11_isShaky 8 = .ok (.iaload, 1) := by decide +kernel
theorem dX11_isShaky_9 : decode cX11_isShaky 9 = .ok (.istore_n 3, 1) := by decide +kernel
theorem dX11_isShaky_10 : decode cX11_isShaky 10 = .ok (.aload_n 0, 1) := by decide +kernel
theorem dX11_isShaky_11 : decode cX11_isShaky 11 = .ok (.aload_n 0, 1) := by decide +kernel
theorem dX11_isShaky_12 : decode cX11_isShaky 12 = .ok (.getfield 26, 3) := by decide +kernel
theorem dX11_isShaky_15 : decode cX11_isShaky 15 = .ok (.iload_n 3, 1) := by decide +kernel
theorem dX11_isShaky_16 : decode cX11_isShaky 16 = .ok (.iaload, 1) := by decide +kernel
theorem dX11_isShaky_17 : decode cX11_isShaky 17 = .ok (.invokevirtual 89, 3) := by decide +kernel
theorem dX11_isShaky_20 : decode cX11_isShaky 20 = .ok (.aload_n 0, 1) := by decide +kernel
theorem dX11_isShaky_21 : decode cX11_isShaky 21 = .ok (.aload_n 0, 1) := by decide +kernel
theorem dX11_isShaky_22 : decode cX11_isShaky 22 = .ok (.getfield 29, 3) := by decide +kernel
theorem dX11_isShaky_25 : decode cX11_isShaky 25 = .ok (.iload_n 3, 1) := by decide +kernel
theorem dX11_isShaky_26 : decode cX11_isShaky 26 = .ok (.iaload, 1) := by decide +kernel
theorem dX11_isShaky_27 : decode cX11_isShaky 27 = .ok (.invokevirtual 89, 3) := by decide +kernel
theorem dX11_isShaky_30 : decode cX11_isShaky 30 = .ok (.iadd, 1) := by decide +kernel
theorem dX11_isShaky_31 : decode cX11_isShaky 31 = .ok (.istore 4, 2) := by decide +kernel
theorem dX11_isShaky_33 : decode cX11_isShaky 33 = .ok (.aload_n 0, 1) := by decide +kernel
theorem dX11_isShaky_34 : decode cX11_isShaky 34 = .ok (.aload_n 0, 1) := by decide +kernel
theorem dX11_isShaky_35 : decode cX11_isShaky 35 = .ok (.getfield 26, 3) := by decide +kernel
theorem dX11_isShaky_38 : decode cX11_isShaky 38 = .ok (.iload_n 3, 1) := by decide +kernel
theorem dX11_isShaky_39 : decode cX11_isShaky 39 = .ok (.iaload, 1) := by decide +kernel
theorem dX11_isShaky_40 : decode cX11_isShaky 40 = .ok (.iload_n 2, 1) := by decide +kernel
theorem dX11_isShaky_41 : decode cX11_isShaky 41 = .ok (.invokevirtual 74, 3) := by decide +kernel
theorem dX11_isShaky_44 : decode cX11_isShaky 44 = .ok (.istore 5, 2) := by decide +kernel
theorem dX11_isShaky_46 : decode cX11_isShaky 46 = .ok (.aload_n 0, 1) := by decide +kernel
theorem dX11_isShaky_47 : decode cX11_isShaky 47 = .ok (.aload_n 0, 1) := by decide +kernel
theorem dX11_isShaky_48 : decode cX11_isShaky 48 = .ok (.getfield 29, 3) := by decide +kernel
theorem dX11_isShaky_51 : decode cX11_isShaky 51 = .ok (.iload_n 3, 1) := by decide +kernel
theorem dX11_isShaky_52 : decode cX11_isShaky 52 = .ok (.iaload, 1) := by decide +kernel
theorem dX11_isShaky_53 : decode cX11_isShaky 53 = .ok (.iload_n 2, 1) := by decide +kernel
theorem dX11_isShaky_54 : decode cX11_isShaky 54 = .ok (.invokevirtual 74, 3) := by decide +kernel
theorem dX11_isShaky_57 : decode cX11_isShaky 57 = .ok (.istore 6, 2) := by decide +kernel
theorem dX11_isShaky_59 : decode cX11_isShaky 59 = .ok (.aload_n 0, 1) := by decide +kernel
theorem dX11_isShaky_60 : decode cX11_isShaky 60 = .ok (.getfield 17, 3) := by decide +kernel
theorem dX11_isShaky_63 : decode cX11_isShaky 63 = .ok (.bipush 77, 2) := by decide +kernel
theorem dX11_isShaky_65 : decode cX11_isShaky 65 = .ok (.iload_n 1, 1) := by decide +kernel
theorem dX11_isShaky_66 : decode cX11_isShaky 66 = .ok (.iadd, 1) := by decide +kernel
theorem dX11_isShaky_67 : decode cX11_isShaky 67 = .ok (.iaload, 1) := by decide +kernel
theorem dX11_isShaky_68 : decode cX11_isShaky 68 = .ok (.iconst 1, 1) := by decide +kernel
theorem dX11_isShaky_69 : decode cX11_isShaky 69 = .ok (.if_icmp .ne 36, 3) := by decide +kernel
theorem dX11_isShaky_72 : decode cX11_isShaky 72 = .ok (.iload 5, 2) := by decide +kernel
theorem dX11_isShaky_74 : decode cX11_isShaky 74 = .ok (.iload 4, 2) := by decide +kernel
theorem dX11_isShaky_76 : decode cX11_isShaky 76 = .ok (.isub, 1) := by decide +kernel
theorem dX11_isShaky_77 : decode cX11_isShaky 77 = .ok (.iload 6, 2) := by decide +kernel
theorem dX11_isShaky_79 : decode cX11_isShaky 79 = .ok (.aload_n 0, 1) := by decide +kernel
theorem dX11_isShaky_80 : decode cX11_isShaky 80 = .ok (.getfield 26, 3) := by decide +kernel
theorem dX11_isShaky_83 : decode cX11_isShaky 83 = .ok (.iload_n 3, 1) := by decide +kernel
theorem dX11_isShaky_84 : decode cX11_isShaky 84 = .ok (.iaload, 1) := by decide +kernel
theorem dX11_isShaky_85 : decode cX11_isShaky 85 = .ok (.aload_n 0, 1) := by decide +kernel
theorem dX11_isShaky_86 : decode cX11_isShaky 86 = .ok (.getfield 29, 3) := by decide +kernel
theorem dX11_isShaky_89 : decode cX11_isShaky 89 = .ok (.iload_n 3, 1) := by decide +kernel
theorem dX11_isShaky_90 : decode cX11_isShaky 90 = .ok (.iaload, 1) := by decide +kernel
theorem dX11_isShaky_91 : decode cX11_isShaky 91 = .ok (.invokestatic 78, 3) := by decide +kernel
theorem dX11_isShaky_94 : decode cX11_isShaky 94 = .ok (.ifCond .ne 7, 3) := by decide +kernel
theorem dX11_isShaky_97 : decode cX11_isShaky 97 = .ok (.iconst 1, 1) := by decide +kernel
theorem dX11_isShaky_98 : decode cX11_isShaky 98 = .ok (.goto 38, 3) := by decide +kernel
theorem dX11_isSafe_108 : decode cX11_isSafe 108 = .ok (.ireturn, 1) := by decide +kernel
theorem dX11_isSafe_107 : decode cX11_isSafe 107 = .ok (.iconst 0, 1) := by decide +kernel
theorem dX11_isSafe_100 : decode cX11_isSafe 100 = .ok (.if_icmp .gt 7, 3) := by decide +kernel
theorem dX11_isSafe_103 : decode cX11_isSafe 103 = .ok (.iconst 1, 1) := by decide +kernel
theorem dX11_isSafe_104 : decode cX11_isSafe 104 = .ok (.goto 4, 3) := by decide +kernel
theorem dX11_isSafe_95 : decode cX11_isSafe 95 = .ok (.iload_n 3, 1) := by decide +kernel
theorem dX11_isSafe_96 : decode cX11_isSafe 96 = .ok (.iconst 1, 1) := by decide +kernel
theorem dX11_isSafe_97 : decode cX11_isSafe 97 = .ok (.isub, 1) := by decide +kernel
theorem dX11_isSafe_98 : decode cX11_isSafe 98 = .ok (.iconst 2, 1) := by decide +kernel
theorem dX11_isSafe_99 : decode cX11_isSafe 99 = .ok (.idiv, 1) := by decide +kernel
theorem dX11_isSafe_79 : decode cX11_isSafe 79 = .ok (.iload 4, 2) := by decide +kernel
theorem dX11_isSafe_81 : decode cX11_isSafe 81 = .ok (.aload_n 0, 1) := by decide +kernel
theorem dX11_isSafe_82 : decode cX11_isSafe 82 = .ok (.getfield 17, 3) := by decide +kernel
theorem dX11_isSafe_85 : decode cX11_isSafe 85 = .ok (.bipush 46, 2) := by decide +kernel
theorem dX11_isSafe_87 : decode cX11_isSafe 87 = .ok (.iaload, 1) := by decide +kernel
theorem dX11_isSafe_88 : decode cX11_isSafe 88 = .ok (.ifCond .ne 7, 3) := by decide +kernel
theorem dX11_isSafe_91 : decode cX11_isSafe 91 = .ok (.iconst 1, 1) := by decide +kernel
theorem dX11_isSafe_92 : decode cX11_isSafe 92 = .ok (.goto 8, 3) := by decide +kernel
theorem dX11_isSafe_70 : decode cX11_isSafe 70 = .ok (.iadd, 1) := by decide +kernel
theorem dX11_isSafe_71 : decode cX11_isSafe 71 = .ok (.istore 4, 2) := by decide +kernel
theorem dX11_isSafe_73 : decode cX11_isSafe 73 = .ok (.iinc 5 1, 3) := by decide +kernel
theorem dX11_isSafe_76 : decode cX11_isSafe 76 = .ok (.goto (-57), 3) := by decide +kernel
theorem dX11_isSafe_69 : decode cX11_isSafe 69 = .ok (.iconst 0, 1) := by decide +kernel
theorem dX11_isSafe_65 : decode cX11_isSafe 65 = .ok (.iconst 1, 1) := by decide +kernel
theorem dX11_isSafe_66 : decode cX11_isSafe 66 = .ok (.goto 4, 3) := by decide +kernel
theorem dX11_isSafe_19 : decode cX11_isSafe 19 = .ok (.iload 5, 2) := by decide +kernel
theorem dX11_isSafe_21 : decode cX11_isSafe 21 = .ok (.iload_n 3, 1) := by decide +kernel
theorem dX11_isSafe_22 : decode cX11_isSafe 22 = .ok (.iload_n 1, 1) := by decide +kernel
theorem dX11_isSafe_23 : decode cX11_isSafe 23 = .ok (.iconst 1, 1) := by decide +kernel
theorem dX11_isSafe_24 : decode cX11_isSafe 24 = .ok (.iadd, 1) := by decide +kernel
theorem dX11_isSafe_25 : decode cX11_isSafe 25 = .ok (.imul, 1) := by decide +kernel
theorem dX11_isSafe_26 : decode cX11_isSafe 26 = .ok (.if_icmp .ge 53, 3) := by decide +kernel
theorem dX11_isSafe_29 : decode cX11_isSafe 29 = .ok (.iload 4, 2) := by decide +kernel
theorem dX11_isSafe_31 : decode cX11_isSafe 31 = .ok (.aload_n 0, 1) := by decide +kernel
theorem dX11_isSafe_32 : decode cX11_isSafe 32 = .ok (.iload 5, 2) := by decide +kernel
theorem dX11_isSafe_34 : decode cX11_isSafe 34 = .ok (.iload_n 2, 1) := by decide +kernel
theorem dX11_isSafe_35 : decode cX11_isSafe 35 = .ok (.invokevirtual 320, 3) := by decide +kernel
theorem dX11_isSafe_38 : decode cX11_isSafe 38 = .ok (.ifCond .ne 27, 3) := by decide +kernel
theorem dX11_isSafe_41 : decode cX11_isSafe 41 = .ok (.aload_n 0, 1) := by decide +kernel
theorem dX11_isSafe_42 : decode cX11_isSafe 42 = .ok (.getfield 17, 3) := by decide +kernel
theorem dX11_isSafe_45 : decode cX11_isSafe 45 = .ok (.bipush 105, 2) := by decide +kernel
theorem dX11_isSafe_47 : decode cX11_isSafe 47 = .ok (.iload 5, 2) := by decide +kernel
theorem dX11_isSafe_49 : decode cX11_isSafe 49 = .ok (.iadd, 1) := by decide +kernel
theorem dX11_isSafe_50 : decode cX11_isSafe 50 = .ok (.iaload, 1) := by decide +kernel
theorem dX11_isSafe_51 : decode cX11_isSafe 51 = .ok (.aload_n 0, 1) := by decide +kernel
theorem dX11_isSafe_52 : decode cX11_isSafe 52 = .ok (.getfield 17, 3) := by decide +kernel
theorem dX11_isSafe_55 : decode cX11_isSafe 55 = .ok (.sipush 133, 3) := by decide +kernel
theorem dX11_isSafe_58 : decode cX11_isSafe 58 = .ok (.iload 5, 2) := by decide +kernel
theorem dX11_isSafe_60 : decode cX11_isSafe 60 = .ok (.iadd, 1) := by decide +kernel
theorem dX11_isSafe_61 : decode cX11_isSafe 61 = .ok (.iaload, 1) := by decide +kernel
theorem dX11_isSafe_62 : decode cX11_isSafe 62 = .ok (.if_icmp .eq 7, 3) := by decide +kernel
theorem dX11_isSafe_0 : decode cX11_isSafe 0 = .ok (.aload_n 0, 1) := by decide +kernel
theorem dX11_isSafe_1 : decode cX11_isSafe 1 = .ok (.getfield 17, 3) := by decide +kernel
theorem dX11_isSafe_4 : decode cX11_isSafe 4 = .ok (.bipush 46, 2) := by decide +kernel
theorem dX11_isSafe_6 : decode cX11_isSafe 6 = .ok (.iaload, 1) := by decide +kernel
theorem dX11_isSafe_7 : decode cX11_isSafe 7 = .ok (.invokestatic 114, 3) := by decide +kernel
theorem dX11_isSafe_10 : decode cX11_isSafe 10 = .ok (.istore_n 3, 1) := by decide +kernel
theorem dX11_isSafe_11 : decode cX11_isSafe 11 = .ok (.iconst 0, 1) := by decide +kernel
theorem dX11_isSafe_12 : decode cX11_isSafe 12 = .ok (.istore 4, 2) := by decide +kernel
theorem dX11_isSafe_14 : decode cX11_isSafe 14 = .ok (.iload_n 3, 1) := by decide +kernel
theorem dX11_isSafe_15 : decode cX11_isSafe 15 = .ok (.iload_n 1, 1) := by decide +kernel
theorem dX11_isSafe_16 : decode cX11_isSafe 16 = .ok (.imul, 1) := by decide +kernel
theorem dX11_isSafe_17 : decode cX11_isSafe 17 = .ok (.istore 5, 2) := by decide +kernel
theorem dX11_firstUnsafe_27 : decode cX11_firstUnsafe 27 = .ok (.iconst (-1), 1) := by decide +kernel
theorem dX11_firstUnsafe_28 : decode cX11_firstUnsafe 28 = .ok (.ireturn, 1) := by decide +kernel
theorem dX11_firstUnsafe_21 : decode cX11_firstUnsafe 21 = .ok (.iinc 2 1, 3) := by decide +kernel
theorem dX11_firstUnsafe_24 : decode cX11_firstUnsafe 24 = .ok (.goto (-22), 3) := by decide +kernel
theorem dX11_firstUnsafe_2 : decode cX11_firstUnsafe 2 = .ok (.iload_n 2, 1) := by decide +kernel
theorem dX11_firstUnsafe_3 : decode cX11_firstUnsafe 3 = .ok (.aload_n 0, 1) := by decide +kernel
theorem dX11_firstUnsafe_4 : decode cX11_firstUnsafe 4 = .ok (.invokevirtual 323, 3) := by decide +kernel
theorem dX11_firstUnsafe_7 : decode cX11_firstUnsafe 7 = .ok (.if_icmp .ge 20, 3) := by decide +kernel
theorem dX11_firstUnsafe_10 : decode cX11_firstUnsafe 10 = .ok (.aload_n 0, 1) := by decide +kernel
theorem dX11_firstUnsafe_11 : decode cX11_firstUnsafe 11 = .ok (.iload_n 2, 1) := by decide +kernel
theorem dX11_firstUnsafe_12 : decode cX11_firstUnsafe 12 = .ok (.iload_n 1, 1) := by decide +kernel
theorem dX11_firstUnsafe_13 : decode cX11_firstUnsafe 13 = .ok (.invokevirtual 326, 3) := by decide +kernel
theorem dX11_firstUnsafe_16 : decode cX11_firstUnsafe 16 = .ok (.ifCond .ne 5, 3) := by decide +kernel
theorem dX11_firstUnsafe_19 : decode cX11_firstUnsafe 19 = .ok (.iload_n 2, 1) := by decide +kernel
theorem dX11_firstUnsafe_20 : decode cX11_firstUnsafe 20 = .ok (.ireturn, 1) := by decide +kernel
theorem dX11_firstUnsafe_0 : decode cX11_firstUnsafe 0 = .ok (.iconst 0, 1) := by decide +kernel
theorem dX11_firstUnsafe_1 : decode cX11_firstUnsafe 1 = .ok (.istore_n 2, 1) := by decide +kernel
theorem dX11_epoch_116 : decode cX11_epoch 116 = .ok (.iload_n 1, 1) := by decide +kernel
theorem dX11_epoch_117 : decode cX11_epoch 117 = .ok (.ireturn, 1) := by decide +kernel
theorem dX11_epoch_110 : decode cX11_epoch 110 = .ok (.iinc 2 1, 3) := by decide +kernel
theorem dX11_epoch_113 : decode cX11_epoch 113 = .ok (.goto (-109), 3) := by decide +kernel
theorem dX11_epoch_70 : decode cX11_epoch 70 = .ok (.istore 4, 2) := by decide +kernel
theorem dX11_epoch_72 : decode cX11_epoch 72 = .ok (.aload_n 0, 1) := by decide +kernel
theorem dX11_epoch_73 : decode cX11_epoch 73 = .ok (.getfield 17, 3) := by decide +kernel
theorem dX11_epoch_76 : decode cX11_epoch 76 = .ok (.bipush 35, 2) := by decide +kernel
theorem dX11_epoch_78 : decode cX11_epoch 78 = .ok (.aload_n 0, 1) := by decide +kernel
theorem dX11_epoch_79 : decode cX11_epoch 79 = .ok (.getfield 26, 3) := by decide +kernel
theorem dX11_epoch_82 : decode cX11_epoch 82 = .ok (.iload_n 3, 1) := by decide +kernel
theorem dX11_epoch_83 : decode cX11_epoch 83 = .ok (.iaload, 1) := by decide +kernel
theorem dX11_epoch_84 : decode cX11_epoch 84 = .ok (.iadd, 1) := by decide +kernel
theorem dX11_epoch_85 : decode cX11_epoch 85 = .ok (.dup2, 1) := by decide +kernel
theorem dX11_epoch_86 : decode cX11_epoch 86 = .ok (.iaload, 1) := by decide +kernel
theorem dX11_epoch_87 : decode cX11_epoch 87 = .ok (.iload 4, 2) := by decide +kernel
theorem dX11_epoch_89 : decode cX11_epoch 89 = .ok (.iadd, 1) := by decide +kernel
theorem dX11_epoch_90 : decode cX11_epoch 90 = .ok (.iastore, 1) := by decide +kernel
theorem dX11_epoch_91 : decode cX11_epoch 91 = .ok (.aload_n 0, 1) := by decide +kernel
theorem dX11_epoch_92 : decode cX11_epoch 92 = .ok (.getfield 17, 3) := by decide +kernel
theorem dX11_epoch_95 : decode cX11_epoch 95 = .ok (.bipush 35, 2) := by decide +kernel
theorem dX11_epoch_97 : decode cX11_epoch 97 = .ok (.aload_n 0, 1) := by decide +kernel
theorem dX11_epoch_98 : decode cX11_epoch 98 = .ok (.getfield 29, 3) := by decide +kernel
theorem dX11_epoch_101 : decode cX11_epoch 101 = .ok (.iload_n 3, 1) := by decide +kernel
theorem dX11_epoch_102 : decode cX11_epoch 102 = .ok (.iaload, 1) := by decide +kernel
theorem dX11_epoch_103 : decode cX11_epoch 103 = .ok (.iadd, 1) := by decide +kernel
theorem dX11_epoch_104 : decode cX11_epoch 104 = .ok (.dup2, 1) := by decide +kernel
theorem dX11_epoch_105 : decode cX11_epoch 105 = .ok (.iaload, 1) := by decide +kernel
theorem dX11_epoch_106 : decode cX11_epoch 106 = .ok (.iload 4, 2) := by decide +kernel
theorem dX11_epoch_108 : decode cX11_epoch 108 = .ok (.isub, 1) := by decide +kernel
theorem dX11_epoch_109 : decode cX11_epoch 109 = .ok (.iastore, 1) := by decide +kernel
theorem dX11_epoch_69 : decode cX11_epoch 69 = .ok (.iconst (-1), 1) := by decide +kernel
theorem dX11_epoch_48 : decode cX11_epoch 48 = .ok (.iinc 1 1, 3) := by decide +kernel
theorem dX11_epoch_51 : decode cX11_epoch 51 = .ok (.aload_n 0, 1) := by decide +kernel
theorem dX11_epoch_52 : decode cX11_epoch 52 = .ok (.getfield 17, 3) := by decide +kernel
theorem dX11_epoch_55 : decode cX11_epoch 55 = .ok (.sipush 190, 3) := by decide +kernel
theorem dX11_epoch_58 : decode cX11_epoch 58 = .ok (.iload_n 2, 1) := by decide +kernel
theorem dX11_epoch_59 : decode cX11_epoch 59 = .ok (.iadd, 1) := by decide +kernel
theorem dX11_epoch_60 : decode cX11_epoch 60 = .ok (.iaload, 1) := by decide +kernel
theorem dX11_epoch_61 : decode cX11_epoch 61 = .ok (.iconst 1, 1) := by decide +kernel
theorem dX11_epoch_62 : decode cX11_epoch 62 = .ok (.if_icmp .ne 7, 3) := by decide +kernel
theorem dX11_epoch_65 : decode cX11_epoch 65 = .ok (.iconst 1, 1) := by decide +kernel
theorem dX11_epoch_66 : decode cX11_epoch 66 = .ok (.goto 4, 3) := by decide +kernel
theorem dX11_epoch_4 : decode cX11_epoch 4 = .ok (.iload_n 2, 1) := by decide +kernel
theorem dX11_epoch_5 : decode cX11_epoch 5 = .ok (.aload_n 0, 1) := by decide +kernel
theorem dX11_epoch_6 : decode cX11_epoch 6 = .ok (.getfield 17, 3) := by decide +kernel
theorem dX11_epoch_9 : decode cX11_epoch 9 = .ok (.sipush 161, 3) := by decide +kernel
theorem dX11_epoch_12 : decode cX11_epoch 12 = .ok (.iaload, 1) := by decide +kernel
theorem dX11_epoch_13 : decode cX11_epoch 13 = .ok (.if_icmp .ge 103, 3) := by decide +kernel
theorem dX11_epoch_16 : decode cX11_epoch 16 = .ok (.aload_n 0, 1) := by decide +kernel
theorem dX11_epoch_17 : decode cX11_epoch 17 = .ok (.getfield 17, 3) := by decide +kernel
theorem dX11_epoch_20 : decode cX11_epoch 20 = .ok (.sipush 162, 3) := by decide +kernel
theorem dX11_epoch_23 : decode cX11_epoch 23 = .ok (.iload_n 2, 1) := by decide +kernel
theorem dX11_epoch_24 : decode cX11_epoch 24 = .ok (.iadd, 1) := by decide +kernel
theorem dX11_epoch_25 : decode cX11_epoch 25 = .ok (.iaload, 1) := by decide +kernel
theorem dX11_epoch_26 : decode cX11_epoch 26 = .ok (.istore_n 3, 1) := by decide +kernel
theorem dX11_epoch_27 : decode cX11_epoch 27 = .ok (.aload_n 0, 1) := by decide +kernel
theorem dX11_epoch_28 : decode cX11_epoch 28 = .ok (.iload_n 3, 1) := by decide +kernel
theorem dX11_epoch_29 : decode cX11_epoch 29 = .ok (.invokevirtual 257, 3) := by decide +kernel
theorem dX11_epoch_32 : decode cX11_epoch 32 = .ok (.aload_n 0, 1) := by decide +kernel
theorem dX11_epoch_33 : decode cX11_epoch 33 = .ok (.getfield 17, 3) := by decide +kernel
theorem dX11_epoch_36 : decode cX11_epoch 36 = .ok (.sipush 190, 3) := by decide +kernel
theorem dX11_epoch_39 : decode cX11_epoch 39 = .ok (.iload_n 2, 1) := by decide +kernel
theorem dX11_epoch_40 : decode cX11_epoch 40 = .ok (.iadd, 1) := by decide +kernel
theorem dX11_epoch_41 : decode cX11_epoch 41 = .ok (.iaload, 1) := by decide +kernel
theorem dX11_epoch_42 : decode cX11_epoch 42 = .ok (.if_icmp .ne 6, 3) := by decide +kernel
theorem dX11_epoch_45 : decode cX11_epoch 45 = .ok (.goto 65, 3) := by decide +kernel
theorem dX11_epoch_0 : decode cX11_epoch 0 = .ok (.iconst 0, 1) := by decide +kernel
theorem dX11_epoch_1 : decode cX11_epoch 1 = .ok (.istore_n 1, 1) := by decide +kernel
theorem dX11_epoch_2 : decode cX11_epoch 2 = .ok (.iconst 0, 1) := by decide +kernel
theorem dX11_epoch_3 : decode cX11_epoch 3 = .ok (.istore_n 2, 1) := by decide +kernel
/-! the reference: what is shaky, one epoch -/
theorem nI_lt2 {a b : Nat} (ha : a < 2 ^ 31) (hb : b < 2 ^ 31) (h : nI a < nI b) : a < b := by
  rw [fa_lt, nI_toInt ha, nI_toInt hb] at h; omega
def ca_X11_isShaky : (zD × zE × Nat × Nat × Int32) → List zV := fun (S, K, y, i, te) => [vR 20 0 y, vI (nI i), vI te]
def cp_X11_isShaky : (zD × zE × Nat × Nat × Int32) → zH → Prop := fun (S, K, y, i, te) h => rmS S h y ∧ rmE K (h.1 (y + 2)) ∧ i < eN K ∧ eP K i < dP S
def cf_X11_isShaky : (zD × zE × Nat × Nat × Int32) → zH → Int32 := fun (S, K, y, i, te) _ => bI (shk S K te i)
theorem rc_X11_isShaky : ∀ x : (zD × zE × Nat × Nat × Int32), ∃ (j a : Nat) (As : List zV), ca_X11_isShaky x = vR (10 + 10) j a :: As := by
  rintro ⟨S, K, y, i, te⟩
  exact ⟨_, _, _, rfl⟩
set_option maxHeartbeats 4000000 in
set_option maxRecDepth 100000 in
theorem m_X11_isShaky : zM yX11_isShaky cX11_isShaky 7 (some .boolean) ({ frames := 1, cells := 0, slots := 0, locals := 23 } : Room) (zcI ca_X11_isShaky cp_X11_isShaky cf_X11_isShaky) := by
  refine zM_of (by decide) ?_
  rintro X Y ⟨S, K, y, i, te⟩ h ⟨hS, hE, hi, hp⟩ O E hR
  have B_136 := zr_zreturn (X := X) (Y := Y) (u := 0) (v := 0) O E (Nat.le_refl _) (Nat.le_refl _) dX11_isShaky_136
  have B_135 := zr_iconst (X := X) (Y := Y) (u := 0) (v := 0) (x := 0) O dX11_isShaky_135 rfl (B_136)
  have B_105 := zr_iload (X := X) (Y := Y) (u := 0) (v := 0) O dX11_isShaky_105 (zr_iload O dX11_isShaky_107 (zr_iadd O dX11_isShaky_109 (zr_iload O dX11_isShaky_110 (zr_aload_n O dX11_isShaky_112 rfl (zr_gS (ci := 10) (j := 5) (off := 5) (t := 1) (n := 28) O zc_10 (by decide) rfl tw_1192 dX11_isShaky_113 (zr_iload_n O dX11_isShaky_116 rfl (zr_iald O dX11_isShaky_117 (zr_aload_n O dX11_isShaky_118 rfl (zr_gS (ci := 10) (j := 6) (off := 6) (t := 1) (n := 28) O zc_10 (by decide) rfl tw_1193 dX11_isShaky_119 (zr_iload_n O dX11_isShaky_122 rfl (zr_iald O dX11_isShaky_123 (zr_cI (zr_cS (n := 4) O m_X11_bitBy (bn_X11_bitBy _ ⟨rfl, rfl⟩) tw_1428 tw_1427 (zrm hR rfl rfl) dX11_isShaky_124 (zr_iconst (x := 1) O dX11_isShaky_127 rfl (zr_icne (tgt := 135) O dX11_isShaky_128 rfl B_135 (zr_iconst (x := 1) O dX11_isShaky_131 rfl (zr_goto (tgt := 136) O dX11_isShaky_132 rfl B_136)))))))))))))))))
  have B_101 := zr_iconst (X := X) (Y := Y) (u := 0) (v := 0) (x := 0) O dX11_isShaky_101 rfl (zr_goto (tgt := 136) O dX11_isShaky_102 rfl B_136)
  have B_0 := zr_aload_n (X := X) (Y := Y) (u := 0) (v := 0) O dX11_isShaky_0 rfl (zr_gS (ci := 10) (j := 2) (off := 2) (t := 1) (n := 218) O zc_10 (by decide) rfl tw_1189 dX11_isShaky_1 (zr_bipush (x := (49)) O dX11_isShaky_4 (by decide) (zr_iload_n O dX11_isShaky_6 rfl (zr_iadd O dX11_isShaky_7 (zr_iald O dX11_isShaky_8 (zr_istore_n O dX11_isShaky_9 rfl (zr_aload_n O dX11_isShaky_10 rfl (zr_aload_n O dX11_isShaky_11 rfl (zr_gS (ci := 10) (j := 5) (off := 5) (t := 1) (n := 28) O zc_10 (by decide) rfl tw_1192 dX11_isShaky_12 (zr_iload_n O dX11_isShaky_15 rfl (zr_iald O dX11_isShaky_16 (zr_cI (zr_cV (ci := 10) (n := 1) O m_X11_noiseOf (bn_X11_noiseOf _ ⟨rfl, rfl⟩) vw_X11_noiseOf tw_1430 rc_X11_noiseOf (zrm hR rfl rfl) dX11_isShaky_17 (zr_aload_n O dX11_isShaky_20 rfl (zr_aload_n O dX11_isShaky_21 rfl (zr_gS (ci := 10) (j := 6) (off := 6) (t := 1) (n := 28) O zc_10 (by decide) rfl tw_1193 dX11_isShaky_22 (zr_iload_n O dX11_isShaky_25 rfl (zr_iald O dX11_isShaky_26 (zr_cI (zr_cV (ci := 10) (n := 1) O m_X11_noiseOf (bn_X11_noiseOf _ ⟨rfl, rfl⟩) vw_X11_noiseOf tw_1430 rc_X11_noiseOf (zrm hR rfl rfl) dX11_isShaky_27 (zr_iadd O dX11_isShaky_30 (zr_istore O dX11_isShaky_31 (zr_aload_n O dX11_isShaky_33 rfl (zr_aload_n O dX11_isShaky_34 rfl (zr_gS (ci := 10) (j := 5) (off := 5) (t := 1) (n := 28) O zc_10 (by decide) rfl tw_1192 dX11_isShaky_35 (zr_iload_n O dX11_isShaky_38 rfl (zr_iald O dX11_isShaky_39 (zr_iload_n O dX11_isShaky_40 rfl (zr_cI (zr_cV (ci := 10) (n := 2) O m_X11_speedOf (bn_X11_speedOf _ ⟨rfl, rfl⟩) vw_X11_speedOf tw_1415 rc_X11_speedOf (zrm hR rfl rfl) dX11_isShaky_41 (zr_istore O dX11_isShaky_44 (zr_aload_n O dX11_isShaky_46 rfl (zr_aload_n O dX11_isShaky_47 rfl (zr_gS (ci := 10) (j := 6) (off := 6) (t := 1) (n := 28) O zc_10 (by decide) rfl tw_1193 dX11_isShaky_48 (zr_iload_n O dX11_isShaky_51 rfl (zr_iald O dX11_isShaky_52 (zr_iload_n O dX11_isShaky_53 rfl (zr_cI (zr_cV (ci := 10) (n := 2) O m_X11_speedOf (bn_X11_speedOf _ ⟨rfl, rfl⟩) vw_X11_speedOf tw_1415 rc_X11_speedOf (zrm hR rfl rfl) dX11_isShaky_54 (zr_istore O dX11_isShaky_57 (zr_aload_n O dX11_isShaky_59 rfl (zr_gS (ci := 10) (j := 2) (off := 2) (t := 1) (n := 218) O zc_10 (by decide) rfl tw_1189 dX11_isShaky_60 (zr_bipush (x := (77)) O dX11_isShaky_63 (by decide) (zr_iload_n O dX11_isShaky_65 rfl (zr_iadd O dX11_isShaky_66 (zr_iald O dX11_isShaky_67 (zr_iconst (x := 1) O dX11_isShaky_68 rfl (zr_icne (tgt := 105) O dX11_isShaky_69 rfl B_105 (zr_iload O dX11_isShaky_72 (zr_iload O dX11_isShaky_74 (zr_isub O dX11_isShaky_76 (zr_iload O dX11_isShaky_77 (zr_aload_n O dX11_isShaky_79 rfl (zr_gS (ci := 10) (j := 5) (off := 5) (t := 1) (n := 28) O zc_10 (by decide) rfl tw_1192 dX11_isShaky_80 (zr_iload_n O dX11_isShaky_83 rfl (zr_iald O dX11_isShaky_84 (zr_aload_n O dX11_isShaky_85 rfl (zr_gS (ci := 10) (j := 6) (off := 6) (t := 1) (n := 28) O zc_10 (by decide) rfl tw_1193 dX11_isShaky_86 (zr_iload_n O dX11_isShaky_89 rfl (zr_iald O dX11_isShaky_90 (zr_cI (zr_cS (n := 4) O m_X11_bitBy (bn_X11_bitBy _ ⟨rfl, rfl⟩) tw_1428 tw_1427 (zrm hR rfl rfl) dX11_isShaky_91 (zr_ifne (tgt := 101) O dX11_isShaky_94 rfl B_101 (zr_iconst (x := 1) O dX11_isShaky_97 rfl (zr_goto (tgt := 136) O dX11_isShaky_98 rfl B_136)))))))))))))))))))))))))))))))))))))))))))))))))))))))))))))))))
  refine ⟨rfl, Nat.le_of_ble_eq_true rfl, _, B_0, ?_⟩
  have hS : rmS S h y := hS
  have hE : rmE K (h.1 (y + 2)) := hE
  have hi : i < eN K := hi
  have hp : eP K i < dP S := hp
  obtain ⟨⟨f1, f2⟩, s1, s2⟩ := hS.2.2.2.1 _ hp
  have hN := hS.1.2
  have hp28 : eP K i < 28 := Nat.lt_of_lt_of_le hp hS.2.1.2
  have h28 := hE.2.1.1
  obtain ⟨c1, c2, -, -⟩ := (hE.2.2 (by omega)).2 i hi
  refine ⟨49 + i, lI 49 i, by omega, eP K i, c1, hp28, (S, y, dF S (eP K i)), by rw [f1]; rfl, ⟨hS, f2⟩, eP K i, c1, hp28, (S, y, dS S (eP K i)), by rw [s1]; rfl, ⟨hS, s2⟩, eP K i, c1, hp28, (S, y, dF S (eP K i), te), by rw [f1]; rfl, ⟨hS, f2⟩, eP K i, c1, hp28, (S, y, dS S (eP K i), te), by rw [s1]; rfl, ⟨hS, s2⟩, 77 + i, lI 77 i, by omega, fun c => ?_, fun c => ?_⟩
  · rw [c2] at c
    have hb : (eB K).testBit i = false := by
      cases hz : (eB K).testBit i with
      | true => rw [hz] at c; exact absurd rfl c
      | false => rfl
    obtain ⟨B, eB2⟩ : ∃ B : Int32, B = bby (spd S (dF S (eP K i)) te + (dZ S (dF S (eP K i)) + dZ S (dS S (eP K i)))) (spd S (dS S (eP K i)) te) (dF S (eP K i)) (dS S (eP K i)) := ⟨_, rfl⟩
    have key : shk S K te i = decide (bby (spd S (dF S (eP K i)) te + (dZ S (dF S (eP K i)) + dZ S (dS S (eP K i)))) (spd S (dS S (eP K i)) te) (dF S (eP K i)) (dS S (eP K i)) = 1) := by
      unfold shk crd
      rw [hb]; rfl
    refine ⟨eP K i, c1, hp28, eP K i, c1, hp28, (spd S (dF S (eP K i)) te + (dZ S (dF S (eP K i)) + dZ S (dS S (eP K i))), spd S (dS S (eP K i)) te, dF S (eP K i), dS S (eP K i)), by rw [f1, s1]; rfl, ⟨by omega, by omega⟩, fun d => ⟨Or.inl rfl, zri ?_, rfl⟩, fun d => ⟨Or.inr rfl, zri ?_, rfl⟩⟩
    · show (0 : Int32) = bI (shk S K te i)
      rw [key, ← eB2, decide_eq_false (by rw [eB2]; exact d)]; rfl
    · show (1 : Int32) = bI (shk S K te i)
      rw [key, ← eB2, decide_eq_true (by rw [eB2]; exact d)]; rfl
  · rw [c2] at c
    have hb : (eB K).testBit i = true := (bI_1 _).mp c
    obtain ⟨B, eB2⟩ : ∃ B : Int32, B = bby (spd S (dF S (eP K i)) te - (dZ S (dF S (eP K i)) + dZ S (dS S (eP K i)))) (spd S (dS S (eP K i)) te) (dF S (eP K i)) (dS S (eP K i)) := ⟨_, rfl⟩
    have key : shk S K te i = decide (bby (spd S (dF S (eP K i)) te - (dZ S (dF S (eP K i)) + dZ S (dS S (eP K i)))) (spd S (dS S (eP K i)) te) (dF S (eP K i)) (dS S (eP K i)) = 0) := by
      unfold shk crd
      rw [hb, Int32.sub_eq_add_neg (a := spd S (dF S (eP K i)) te)]; rfl
    refine ⟨eP K i, c1, hp28, eP K i, c1, hp28, (spd S (dF S (eP K i)) te - (dZ S (dF S (eP K i)) + dZ S (dS S (eP K i))), spd S (dS S (eP K i)) te, dF S (eP K i), dS S (eP K i)), by rw [f1, s1]; rfl, ⟨by omega, by omega⟩, fun d => ⟨Or.inl rfl, zri ?_, rfl⟩, fun d => ⟨Or.inr rfl, zri ?_, rfl⟩⟩
    · show (0 : Int32) = bI (shk S K te i)
      rw [key, ← eB2, decide_eq_false (by rw [eB2]; exact d)]; rfl
    · show (1 : Int32) = bI (shk S K te i)
      rw [key, ← eB2, decide_eq_true (by rw [eB2]; exact d)]; rfl
def ufK (S : zD) (K : zE) (te : Int32) (b j : Nat) : Bool := shk S K te (b * lnR (eR K) + j) || ((eH K).testBit (b * lnR (eR K) + j) ^^ (eG K).testBit (b * lnR (eR K) + j))
theorem sfb_ct {S : zD} {K : zE} {te : Int32} {b : Nat} (hl : lnR (eR K) ≤ 28) (hb : b * lnR (eR K) + lnR (eR K) ≤ eN K) : sfb K (mk (shk S K te) (eN K)) b = decide (fb_ct (ufK S K te b) (lnR (eR K)) ≤ mdR (eR K)) := by
  unfold sfb
  rw [pop_low (w := wbk (eR K) (mk (shk S K te) (eN K) ||| (eH K ^^^ eG K)) b) (r := lnR (eR K)) (Nat.mod_lt _ (Nat.two_pow_pos _)) (by omega)]
  rw [fb_ct_cong (q := ufK S K te b)]
  intro k hk
  rw [wbk_bit, decide_eq_true hk, Bool.true_and, Nat.testBit_or, Nat.testBit_xor, mk_bit, decide_eq_true (show b * lnR (eR K) + k < eN K by omega), Bool.true_and]
  rfl
def ca_X11_isSafe : (zD × zE × Nat × Nat × Int32) → List zV := fun (S, K, y, b, te) => [vR 20 0 y, vI (nI b), vI te]
def cp_X11_isSafe : (zD × zE × Nat × Nat × Int32) → zH → Prop := fun (S, K, y, b, te) h => rmS S h y ∧ rmE K (h.1 (y + 2)) ∧ 0 < eN K ∧ b < eK K ∧ ∀ i, i < eN K → eP K i < dP S
def cf_X11_isSafe : (zD × zE × Nat × Nat × Int32) → zH → Int32 := fun (S, K, y, b, te) _ => bI (sfb K (mk (shk S K te) (eN K)) b)
theorem rc_X11_isSafe : ∀ x : (zD × zE × Nat × Nat × Int32), ∃ (j a : Nat) (As : List zV), ca_X11_isSafe x = vR (10 + 10) j a :: As := by
  rintro ⟨S, K, y, b, te⟩
  exact ⟨_, _, _, rfl⟩
set_option maxHeartbeats 4000000 in
set_option maxRecDepth 100000 in
theorem m_X11_isSafe : zM yX11_isSafe cX11_isSafe 6 (some .boolean) ({ frames := 2, cells := 0, slots := 0, locals := 49 } : Room) (zcI ca_X11_isSafe cp_X11_isSafe cf_X11_isSafe) := by
  refine zM_of (by decide) ?_
  rintro X Y ⟨S, K, y, b, te⟩ h ⟨hS, hE, h0, hb, hP⟩ O E hR
  have hS : rmS S h y := hS
  have hE : rmE K (h.1 (y + 2)) := hE
  have h0 : 0 < eN K := h0
  have hb : b < eK K := hb
  have hP : ∀ i, i < eN K → eP K i < dP S := hP
  have h28 := hE.2.1.1
  obtain ⟨⟨a1, a2, a3⟩, a4⟩ := hE.2.2 h0
  obtain ⟨-, hr, hn, -⟩ := hE.2.1.2 h0
  have hln := lnR_pos hr
  have hr8 := vRp_8 hr
  have hbl : b * lnR (eR K) + lnR (eR K) ≤ eN K := by rw [hn, ← Nat.succ_mul]; exact Nat.mul_le_mul_right _ hb
  have key := sfb_ct (S := S) (te := te) (by omega) hbl
  have B_108 := zr_zreturn (X := X) (Y := Y) (u := 0) (v := 0) O E (Nat.le_refl _) (Nat.le_refl _) dX11_isSafe_108
  have B_107 := zr_iconst (X := X) (Y := Y) (u := 0) (v := 0) (x := 0) O dX11_isSafe_107 rfl (B_108)
  have B_100 := zr_icgt (X := X) (Y := Y) (u := 0) (v := 0) (tgt := 107) O dX11_isSafe_100 rfl B_107 (zr_iconst (x := 1) O dX11_isSafe_103 rfl (zr_goto (tgt := 108) O dX11_isSafe_104 rfl B_108))
  have B_95 := zr_iload_n (X := X) (Y := Y) (u := 0) (v := 0) O dX11_isSafe_95 rfl (zr_iconst (x := 1) O dX11_isSafe_96 rfl (zr_isub O dX11_isSafe_97 (zr_iconst (x := 2) O dX11_isSafe_98 rfl (zr_idiv O dX11_isSafe_99 (B_100)))))
  have B_79 := zr_iload (X := X) (Y := Y) (u := 0) (v := 0) O dX11_isSafe_79 (zr_aload_n O dX11_isSafe_81 rfl (zr_gS (ci := 10) (j := 2) (off := 2) (t := 1) (n := 218) O zc_10 (by decide) rfl tw_1189 dX11_isSafe_82 (zr_bipush (x := (46)) O dX11_isSafe_85 (by decide) (zr_iald O dX11_isSafe_87 (zr_ifne (tgt := 95) O dX11_isSafe_88 rfl B_95 (zr_iconst (x := 1) O dX11_isSafe_91 rfl (zr_goto (tgt := 100) O dX11_isSafe_92 rfl B_100)))))))
  have L_19 : ∀ nn : Nat, zSd X Y 0 0 19 ((fun c ls st h1 => ∃ (k : Nat) (u z : Int32), c = lnR (eR K) - k ∧ k ≤ lnR (eR K) ∧ ls = [some (vR 20 0 y), some (vI (nI b)), some (vI te), some (vI (nI (lnR (eR K)))), some (vI u), some (vI z)] ∧ u = nI (fb_ct (ufK S K te b) k) ∧ z = nI (b * lnR (eR K) + k) ∧ st = [] ∧ h = h1 : Nat → zT) nn) := by
    refine zSd_loop (fun nn ih => ?_)
    have B_70 := zr_iadd (X := X) (Y := Y) (u := 0) (v := 0) O dX11_isSafe_70 (zr_istore O dX11_isSafe_71 (zr_iinc (c := 1) O dX11_isSafe_73 rfl (zr_goto (tgt := 19) O dX11_isSafe_76 rfl ih)))
    have B_69 := zr_iconst (X := X) (Y := Y) (u := 0) (v := 0) (x := 0) O dX11_isSafe_69 rfl (B_70)
    have B_65 := zr_iconst (X := X) (Y := Y) (u := 0) (v := 0) (x := 1) O dX11_isSafe_65 rfl (zr_goto (tgt := 70) O dX11_isSafe_66 rfl B_70)
    have B_19 := zr_iload (X := X) (Y := Y) (u := 0) (v := 0) O dX11_isSafe_19 (zr_iload_n O dX11_isSafe_21 rfl (zr_iload_n O dX11_isSafe_22 rfl (zr_iconst (x := 1) O dX11_isSafe_23 rfl (zr_iadd O dX11_isSafe_24 (zr_imul O dX11_isSafe_25 (zr_icge (tgt := 79) O dX11_isSafe_26 rfl B_79 (zr_iload O dX11_isSafe_29 (zr_aload_n O dX11_isSafe_31 rfl (zr_iload O dX11_isSafe_32 (zr_iload_n O dX11_isSafe_34 rfl (zr_cI (zr_cV (ci := 10) (n := 2) O m_X11_isShaky (bn_X11_isShaky _ ⟨rfl, rfl⟩) vw_X11_isShaky tw_1625 rc_X11_isShaky (zrm hR rfl rfl) dX11_isSafe_35 (zr_ifne (tgt := 65) O dX11_isSafe_38 rfl B_65 (zr_aload_n O dX11_isSafe_41 rfl (zr_gS (ci := 10) (j := 2) (off := 2) (t := 1) (n := 218) O zc_10 (by decide) rfl tw_1189 dX11_isSafe_42 (zr_bipush (x := (105)) O dX11_isSafe_45 (by decide) (zr_iload O dX11_isSafe_47 (zr_iadd O dX11_isSafe_49 (zr_iald O dX11_isSafe_50 (zr_aload_n O dX11_isSafe_51 rfl (zr_gS (ci := 10) (j := 2) (off := 2) (t := 1) (n := 218) O zc_10 (by decide) rfl tw_1189 dX11_isSafe_52 (zr_sipush (x := (133)) O dX11_isSafe_55 (by decide) (zr_iload O dX11_isSafe_58 (zr_iadd O dX11_isSafe_60 (zr_iald O dX11_isSafe_61 (zr_iceq (tgt := 69) O dX11_isSafe_62 rfl B_69 (B_65)))))))))))))))))))))))))))
    refine zSd_weak B_19 (fun ls st h1 t => ?_)
    obtain ⟨k, u, z, rfl, hk, rfl, rfl, rfl, rfl, rfl⟩ := t
    have hct := fb_ct_le (ufK S K te b) k
    have eup : nI (lnR (eR K)) * (nI b + 1) = nI (b * lnR (eR K) + lnR (eR K)) := by
      rw [show nI b + 1 = nI (b + 1) from nI_1 b, nI_mul, Nat.mul_comm, Nat.succ_mul]
    refine ⟨fun c => ?_, fun c => ?_⟩
    · rw [eup] at c
      have := (nI_leI (by omega) (by omega)).mp c
      have hk2 : k = lnR (eR K) := by omega
      subst hk2
      have fin : ∀ m : Nat, m < 9 → m = mdR (eR K) → ((nI (fb_ct (ufK S K te b) (lnR (eR K))) > nI m → (0 : Int32) = bI (sfb K (mk (shk S K te) (eN K)) b)) ∧ (¬ nI (fb_ct (ufK S K te b) (lnR (eR K))) > nI m → (1 : Int32) = bI (sfb K (mk (shk S K te) (eN K)) b))) := by
        intro m hm em
        rw [key, ← em]
        constructor
        · intro d
          have := nI_lt2 (by omega) (by omega) d
          rw [decide_eq_false (by omega)]; rfl
        · intro d
          have : ¬ m < fb_ct (ufK S K te b) (lnR (eR K)) := fun z => d (nI_lt z (by omega))
          rw [decide_eq_true (by omega)]; rfl
      have hmd : mdR (eR K) < 9 := by unfold mdR; split <;> omega
      refine ⟨46, rfl, by decide, fun c => ?_, fun c => ?_⟩
      · rw [a1] at c
        have hz : eR K ≠ 0 := fun z => c (by rw [z]; rfl)
        have ed : (nI (lnR (eR K)) - 1) / 2 = nI (mdR (eR K)) := by
          rw [show (1 : Int32) = nI 1 from rfl, nI_sub (by omega), show (2 : Int32) = nI 2 from rfl, pk_div (by omega) (by omega) (by omega), mdR, if_neg hz, lnR, if_neg hz]
        obtain ⟨g1, g2⟩ := fin _ hmd rfl
        refine ⟨by decide, fun d => ⟨Or.inl rfl, zri (g1 ?_), rfl⟩, fun d => ⟨Or.inr rfl, zri (g2 ?_), rfl⟩⟩
        · rw [← ed]; exact d
        · rw [← ed]; exact d
      · rw [a1] at c
        have hz : eR K = 0 := (nI_eq (by omega) (by omega)).mp c
        obtain ⟨g1, g2⟩ := fin 1 (by decide) (by rw [mdR, if_pos hz])
        exact ⟨fun d => ⟨Or.inl rfl, zri (g1 d), rfl⟩, fun d => ⟨Or.inr rfl, zri (g2 d), rfl⟩⟩
    · rw [eup] at c
      have hk2 : k < lnR (eR K) := Nat.not_le.mp (fun z => c ((nI_leI (by omega) (by omega)).mpr (by omega)))
      have hat : b * lnR (eR K) + k < eN K := by omega
      obtain ⟨-, -, c3, c4⟩ := a4 _ hat
      have next : ∀ v : Bool, ufK S K te b k = v → ∃ c, c < lnR (eR K) - k ∧ ∃ (k2 : Nat) (u z : Int32), c = lnR (eR K) - k2 ∧ k2 ≤ lnR (eR K) ∧ ([some (vR 20 0 y), some (vI (nI b)), some (vI te), some (vI (nI (lnR (eR K)))), some (vI (nI (fb_ct (ufK S K te b) k) + bI v)), some (vI (nI (b * lnR (eR K) + k) + 1))] : zL) = [some (vR 20 0 y), some (vI (nI b)), some (vI te), some (vI (nI (lnR (eR K)))), some (vI u), some (vI z)] ∧ u = nI (fb_ct (ufK S K te b) k2) ∧ z = nI (b * lnR (eR K) + k2) ∧ ([] : List zV) = [] ∧ h = h := by
        intro v hv
        refine ⟨lnR (eR K) - (k + 1), by omega, k + 1, _, _, rfl, by omega, rfl, ?_, nI_1 _, rfl, rfl⟩
        rw [fb_ct_succ, hv]
        cases v with
        | true => exact nI_1 _
        | false => exact Int32.add_zero _
      refine ⟨(S, K, y, b * lnR (eR K) + k, te), rfl, ⟨hS, hE, hat, hP _ hat⟩, fun d => next true ?_, fun d => ⟨105 + (b * lnR (eR K) + k), lI 105 _, by omega, 133 + (b * lnR (eR K) + k), lI 133 _, by omega, fun e => next false ?_, fun e => next true ?_⟩⟩
      · replace d : ¬ bI (shk S K te (b * lnR (eR K) + k)) = 0 := d
        show (shk S K te (b * lnR (eR K) + k) || _) = true
        cases hz : shk S K te (b * lnR (eR K) + k) with
        | true => rfl
        | false => rw [hz] at d; exact absurd rfl d
      · replace d : bI (shk S K te (b * lnR (eR K) + k)) = 0 := d
        rw [c3, c4] at e
        show (shk S K te (b * lnR (eR K) + k) || ((eH K).testBit (b * lnR (eR K) + k) ^^ (eG K).testBit (b * lnR (eR K) + k))) = false
        cases hz : shk S K te (b * lnR (eR K) + k) with
        | true => rw [hz] at d; exact absurd d (by decide)
        | false =>
          cases hx : (eH K).testBit (b * lnR (eR K) + k) <;> cases hy : (eG K).testBit (b * lnR (eR K) + k) <;> rw [hx, hy] at e <;> first | rfl | exact absurd e (by decide)
      · rw [c3, c4] at e
        show (shk S K te (b * lnR (eR K) + k) || ((eH K).testBit (b * lnR (eR K) + k) ^^ (eG K).testBit (b * lnR (eR K) + k))) = true
        cases hx : (eH K).testBit (b * lnR (eR K) + k) <;> cases hy : (eG K).testBit (b * lnR (eR K) + k) <;> rw [hx, hy] at e <;> first | exact absurd rfl e | (cases shk S K te (b * lnR (eR K) + k) <;> rfl)
  have B_19 := zSd_any L_19
  have B_0 := zr_aload_n (X := X) (Y := Y) (u := 0) (v := 0) O dX11_isSafe_0 rfl (zr_gS (ci := 10) (j := 2) (off := 2) (t := 1) (n := 218) O zc_10 (by decide) rfl tw_1189 dX11_isSafe_1 (zr_bipush (x := (46)) O dX11_isSafe_4 (by decide) (zr_iald O dX11_isSafe_6 (zr_cI (zr_cS (n := 1) O m_X11_wideBy (bn_X11_wideBy _ ⟨rfl, rfl⟩) tw_1439 tw_1438 (zrm hR rfl rfl) dX11_isSafe_7 (zr_istore_n O dX11_isSafe_10 rfl (zr_iconst (x := 0) O dX11_isSafe_11 rfl (zr_istore O dX11_isSafe_12 (zr_iload_n O dX11_isSafe_14 rfl (zr_iload_n O dX11_isSafe_15 rfl (zr_imul O dX11_isSafe_16 (zr_istore O dX11_isSafe_17 (B_19)))))))))))))
  refine ⟨rfl, Nat.le_of_ble_eq_true rfl, _, B_0, ?_⟩
  refine ⟨46, rfl, by decide, eR K, by rw [a1]; rfl, hr8, lnR (eR K) - 0, 0, _, _, rfl, Nat.zero_le _, rfl, rfl, ?_, rfl, rfl⟩
  show nI (lnR (eR K)) * nI b = _
  rw [nI_mul, Nat.mul_comm]; rfl
def ca_X11_firstUnsafe : (zD × zE × Nat × Int32) → List zV := fun (S, K, y, te) => [vR 20 0 y, vI te]
def cp_X11_firstUnsafe : (zD × zE × Nat × Int32) → zH → Prop := fun (S, K, y, te) h => rmS S h y ∧ rmE K (h.1 (y + 2)) ∧ 0 < eN K ∧ ∀ i, i < eN K → eP K i < dP S
def cf_X11_firstUnsafe : (zD × zE × Nat × Int32) → zH → Int32 := fun (S, K, y, te) _ => fuI K (mk (shk S K te) (eN K))
theorem rc_X11_firstUnsafe : ∀ x : (zD × zE × Nat × Int32), ∃ (j a : Nat) (As : List zV), ca_X11_firstUnsafe x = vR (10 + 10) j a :: As := by
  rintro ⟨S, K, y, te⟩
  exact ⟨_, _, _, rfl⟩
set_option maxHeartbeats 4000000 in
set_option maxRecDepth 100000 in
theorem m_X11_firstUnsafe : zM yX11_firstUnsafe cX11_firstUnsafe 3 (some .int) ({ frames := 3, cells := 0, slots := 0, locals := 74 } : Room) (zcI ca_X11_firstUnsafe cp_X11_firstUnsafe cf_X11_firstUnsafe) := by
  refine zM_of (by decide) ?_
  rintro X Y ⟨S, K, y, te⟩ h ⟨hS, hE, h0, hP⟩ O E hR
  have hS : rmS S h y := hS
  have hE : rmE K (h.1 (y + 2)) := hE
  have h0 : 0 < eN K := h0
  have hP : ∀ i, i < eN K → eP K i < dP S := hP
  have kb16 : eK K ≤ 16 := (vE_b hE.2.1 h0).2.2.2.2.1
  have B_27 := zr_iconst (X := X) (Y := Y) (u := 0) (v := 0) (x := (-1)) O dX11_firstUnsafe_27 rfl (zr_ireturn O E (Nat.le_refl _) (Nat.le_refl _) dX11_firstUnsafe_28)
  have L_2 : ∀ nn : Nat, zSd X Y 0 0 2 ((fun c ls st h1 => ∃ (b : Nat) (z : Int32), c = eK K - b ∧ b ≤ eK K ∧ ls = [some (vR 20 0 y), some (vI te), some (vI z)] ∧ z = nI b ∧ st = [] ∧ h = h1 ∧ ∀ j, j < b → (!sfb K (mk (shk S K te) (eN K)) j) = false : Nat → zT) nn) := by
    refine zSd_loop (fun nn ih => ?_)
    have B_21 := zr_iinc (X := X) (Y := Y) (u := 0) (v := 0) (c := 1) O dX11_firstUnsafe_21 rfl (zr_goto (tgt := 2) O dX11_firstUnsafe_24 rfl ih)
    have B_2 := zr_iload_n (X := X) (Y := Y) (u := 0) (v := 0) O dX11_firstUnsafe_2 rfl (zr_aload_n O dX11_firstUnsafe_3 rfl (zr_cI (zr_cV (ci := 10) (n := 0) O m_X11_keptBlocks (bn_X11_keptBlocks _ ⟨rfl, rfl⟩) vw_X11_keptBlocks tw_1617 rc_X11_keptBlocks (zrm hR rfl rfl) dX11_firstUnsafe_4 (zr_icge (tgt := 27) O dX11_firstUnsafe_7 rfl B_27 (zr_aload_n O dX11_firstUnsafe_10 rfl (zr_iload_n O dX11_firstUnsafe_11 rfl (zr_iload_n O dX11_firstUnsafe_12 rfl (zr_cI (zr_cV (ci := 10) (n := 2) O m_X11_isSafe (bn_X11_isSafe _ ⟨rfl, rfl⟩) vw_X11_isSafe tw_1621 rc_X11_isSafe (zrm hR rfl rfl) dX11_firstUnsafe_13 (zr_ifne (tgt := 21) O dX11_firstUnsafe_16 rfl B_21 (zr_iload_n O dX11_firstUnsafe_19 rfl (zr_ireturn O E (Nat.le_refl _) (Nat.le_refl _) dX11_firstUnsafe_20))))))))))))
    refine zSd_weak B_2 (fun ls st h1 t => ?_)
    obtain ⟨b, z, rfl, hb, rfl, rfl, rfl, rfl, hl⟩ := t
    refine ⟨(K, y), rfl, ⟨hE, h0⟩, fun c => ⟨zri ?_, rfl⟩, fun c => ?_⟩
    · replace c : nI (eK K) ≤ nI b := c
      have := (nI_leI (by omega) (by omega)).mp c
      have hb2 : b = eK K := by omega
      subst hb2
      show (-1 : Int32) = fuI K (mk (shk S K te) (eN K))
      rw [fuI, if_neg (show ¬ fus K (mk (shk S K te) (eN K)) < eK K from first_none hl)]
    · replace c : ¬ nI (eK K) ≤ nI b := c
      have hb2 : b < eK K := Nat.not_le.mp (fun z => c ((nI_leI (by omega) (by omega)).mpr z))
      refine ⟨(S, K, y, b, te), rfl, ⟨hS, hE, h0, hb2, hP⟩, fun d => ?_, fun d => ⟨zri ?_, rfl⟩⟩
      · replace d : ¬ bI (sfb K (mk (shk S K te) (eN K)) b) = 0 := d
        refine ⟨eK K - (b + 1), by omega, b + 1, _, rfl, by omega, rfl, nI_1 b, rfl, rfl, fun j hj => ?_⟩
        by_cases e : j = b
        · rw [e]
          cases hz : sfb K (mk (shk S K te) (eN K)) b with
          | true => rfl
          | false => rw [hz] at d; exact absurd rfl d
        · exact hl j (by omega)
      · replace d : bI (sfb K (mk (shk S K te) (eN K)) b) = 0 := d
        have hz : sfb K (mk (shk S K te) (eN K)) b = false := by
          cases hz : sfb K (mk (shk S K te) (eN K)) b with
          | true => rw [hz] at d; exact absurd d (by decide)
          | false => rfl
        have e : fus K (mk (shk S K te) (eN K)) = b := first_at hb2 (by show (!sfb K _ b) = true; rw [hz]; rfl) hl
        show nI b = fuI K (mk (shk S K te) (eN K))
        rw [fuI, e, if_pos hb2]
  have B_2 := zSd_any L_2
  have B_0 := zr_iconst (X := X) (Y := Y) (u := 0) (v := 0) (x := 0) O dX11_firstUnsafe_0 rfl (zr_istore_n O dX11_firstUnsafe_1 rfl (B_2))
  refine ⟨rfl, Nat.le_of_ble_eq_true rfl, _, B_0, ?_⟩
  exact ⟨eK K - 0, 0, _, rfl, Nat.zero_le _, rfl, rfl, rfl, rfl, fun j hj => absurd hj (Nat.not_lt_zero _)⟩
theorem rmS_m {S : zD} {h : zH} {y : Nat} {f : Nat → Int32} (hf : ∀ k, k < 35 → f k = h.1 (y + 2) k) (hS : rmS S h y) : rmS S (zsW h (y + 2) f) y := by
  obtain ⟨⟨n1, n2⟩, p1, r1, q1, k1⟩ := hS
  refine ⟨⟨by rw [zsW_n _ _ (by omega)]; exact n1, n2⟩, ⟨by rw [zsW_n _ _ (by omega)]; exact p1.1, p1.2⟩, fun r hr => ?_, fun p hp => ?_, fun k hk => ?_⟩
  · rw [zsW_s, hf _ (by omega), hf _ (by omega), hf _ (by omega)]; exact r1 r hr
  · rw [zsW_n _ _ (by omega), zsW_n _ _ (by omega)]; exact q1 p hp
  · rw [zsW_s, hf _ (by omega)]; exact k1 k hk
/-- a row of numbers whose weights alone are new -/
def wrw (g f : Nat → Int32) (W : Nat → Int32) : Prop := (∀ k, k < 35 ∨ 45 ≤ k → f k = g k) ∧ ∀ r, r < 10 → f (35 + r) = W r
def ca_X11_epoch : (zD × zG × Nat) → List zV := fun (S, M, y) => [vR 20 0 y]
def cp_X11_epoch : (zD × zG × Nat) → zH → Prop := fun (S, M, y) h => rmS S h y ∧ rmL M (h.1 (y + 2)) ∧ ∀ i, i < gN M → gP M i < dP S
def cq_X11_epoch : (zD × zG × Nat) → zH → Option zV → zH → Prop := fun (S, M, y) h r h' => r = some (vI (nI (lrn S M (gN M)).2)) ∧ ∃ f : Nat → Int32, h' = zsW h (y + 2) f ∧ wrw (h.1 (y + 2)) f (lrn S M (gN M)).1
theorem rc_X11_epoch : ∀ x : (zD × zG × Nat), ∃ (j a : Nat) (As : List zV), ca_X11_epoch x = vR (10 + 10) j a :: As := by
  rintro ⟨S, M, y⟩
  exact ⟨_, _, _, rfl⟩
set_option maxHeartbeats 4000000 in
set_option maxRecDepth 100000 in
theorem m_X11_epoch : zM yX11_epoch cX11_epoch 5 (some .int) ({ frames := 2, cells := 0, slots := 0, locals := 44 } : Room) ((ca_X11_epoch, cp_X11_epoch, cq_X11_epoch) : zC (zD × zG × Nat)) := by
  refine zM_of (by decide) ?_
  rintro X Y ⟨S, M, y⟩ h ⟨hS, hL, hP⟩ O E hR
  have hS : rmS S h y := hS
  have hL : rmL M (h.1 (y + 2)) := hL
  have hP : ∀ i, i < gN M → gP M i < dP S := hP
  have h28 := hL.1.2
  have hN := hS.1.2
  have B_116 := zr_iload_n (X := X) (Y := Y) (u := 0) (v := 0) O dX11_epoch_116 rfl (zr_ireturn O E (Nat.le_refl _) (Nat.le_refl _) dX11_epoch_117)
  have L_4 : ∀ nn : Nat, zSd X Y 0 0 4 ((fun c ls st h1 => ∃ (i : Nat) (u z : Int32) (f : Nat → Int32) (y3 y4 : Option zV), c = gN M - i ∧ i ≤ gN M ∧ ls = [some (vR 20 0 y), some (vI u), some (vI z), y3, y4] ∧ u = nI (lrn S M i).2 ∧ z = nI i ∧ st = [] ∧ h1 = zsW h (y + 2) f ∧ wrw (h.1 (y + 2)) f (lrn S M i).1 : Nat → zT) nn) := by
    refine zSd_loop (fun nn ih => ?_)
    have B_110 := zr_iinc (X := X) (Y := Y) (u := 0) (v := 0) (c := 1) O dX11_epoch_110 rfl (zr_goto (tgt := 4) O dX11_epoch_113 rfl ih)
    have B_70 := zr_istore (X := X) (Y := Y) (u := 0) (v := 0) O dX11_epoch_70 (zr_aload_n O dX11_epoch_72 rfl (zr_gS (ci := 10) (j := 2) (off := 2) (t := 1) (n := 218) O zc_10 (by decide) rfl tw_1189 dX11_epoch_73 (zr_bipush (x := (35)) O dX11_epoch_76 (by decide) (zr_aload_n O dX11_epoch_78 rfl (zr_gS (ci := 10) (j := 5) (off := 5) (t := 1) (n := 28) O zc_10 (by decide) rfl tw_1192 dX11_epoch_79 (zr_iload_n O dX11_epoch_82 rfl (zr_iald O dX11_epoch_83 (zr_iadd O dX11_epoch_84 (zr_dup2 O dX11_epoch_85 (zr_iald O dX11_epoch_86 (zr_iload O dX11_epoch_87 (zr_iadd O dX11_epoch_89 (zr_iast O dX11_epoch_90 (zr_aload_n O dX11_epoch_91 rfl (zr_gS (ci := 10) (j := 2) (off := 2) (t := 1) (n := 218) O zc_10 (by decide) rfl tw_1189 dX11_epoch_92 (zr_bipush (x := (35)) O dX11_epoch_95 (by decide) (zr_aload_n O dX11_epoch_97 rfl (zr_gS (ci := 10) (j := 6) (off := 6) (t := 1) (n := 28) O zc_10 (by decide) rfl tw_1193 dX11_epoch_98 (zr_iload_n O dX11_epoch_101 rfl (zr_iald O dX11_epoch_102 (zr_iadd O dX11_epoch_103 (zr_dup2 O dX11_epoch_104 (zr_iald O dX11_epoch_105 (zr_iload O dX11_epoch_106 (zr_isub O dX11_epoch_108 (zr_iast O dX11_epoch_109 (B_110)))))))))))))))))))))))))))
    have C_70 : zSd X Y 0 0 70 (fun ls st h1 => ∃ (i : Nat) (u z : Int32) (f : Nat → Int32) (y4 : Option zV), nn = gN M - i ∧ i < gN M ∧ ls = [some (vR 20 0 y), some (vI u), some (vI z), some (vI (nI (gP M i))), y4] ∧ u = nI ((lrn S M i).2 + 1) ∧ z = nI i ∧ st = [vI (if gB M i then 1 else -1)] ∧ h1 = zsW h (y + 2) f ∧ wrw (h.1 (y + 2)) f (lrn S M i).1 ∧ ¬ gss S (lrn S M i).1 (gP M i) = bI (gB M i)) := by
      refine zSd_weak B_70 (fun ls st h1 t => ?_)
      obtain ⟨i, u, z, f, y4, en, hi, rfl, rfl, rfl, rfl, rfl, hf, hg⟩ := t
      have q3 := hP i hi
      obtain ⟨⟨f1, f2⟩, s1, s2⟩ := hS.2.2.2.1 _ q3
      have hp28 : gP M i < 28 := Nat.lt_of_lt_of_le q3 hS.2.1.2
      have hF10 : dF S (gP M i) < 10 := by omega
      have hS10 : dS S (gP M i) < 10 := by omega
      have eF : ∀ g : Nat → Int32, (zsW h (y + 2) g).1 (y + 5) (gP M i) = nI (dF S (gP M i)) := fun g => by rw [zsW_n _ _ (by omega)]; exact f1
      have eS : ∀ g : Nat → Int32, (zsW h (y + 2) g).1 (y + 6) (gP M i) = nI (dS S (gP M i)) := fun g => by rw [zsW_n _ _ (by omega)]; exact s1
      have e3 : lrn S M (i + 1) = (lst (lrn S M i).1 (dF S (gP M i)) (dS S (gP M i)) (if gB M i then 1 else -1), (lrn S M i).2 + 1) := by rw [lrn, if_neg hg]
      refine ⟨gP M i, rfl, hp28, 35 + dF S (gP M i), by rw [eF]; exact lI 35 _, by omega, 35 + dF S (gP M i), by rw [eF]; exact lI 35 _, by omega, ?_⟩
      rw [zsI_W, zsW_W, zsW_s]
      refine ⟨gP M i, rfl, hp28, 35 + dS S (gP M i), by rw [eS]; exact lI 35 _, by omega, 35 + dS S (gP M i), by rw [eS]; exact lI 35 _, by omega, gN M - (i + 1), by omega, i + 1, _, _, _, _, _, rfl, by omega, rfl, by rw [e3], nI_1 i, rfl, by rw [zsI_W, zsW_W, zsW_s], ?_, ?_⟩
      · intro k hk
        rw [zup_n _ _ (by omega), zup_n _ _ (by omega)]; exact hf.1 k hk
      · intro r hr
        rw [e3]
        show _ = va_up (va_up (lrn S M i).1 (dF S (gP M i)) _) (dS S (gP M i)) _ r
        have h1 : ∀ r, r < 10 → va_up f (35 + dF S (gP M i)) (f (35 + dF S (gP M i)) + (if gB M i then 1 else -1)) (35 + r) = va_up (lrn S M i).1 (dF S (gP M i)) ((lrn S M i).1 (dF S (gP M i)) + (if gB M i then 1 else -1)) r := by
          intro r hr
          by_cases e : r = dF S (gP M i)
          · rw [e, zup_s, zup_s, hf.2 _ hF10]
          · rw [zup_n _ _ (by omega), zup_n _ _ e, hf.2 r hr]
        by_cases e : r = dS S (gP M i)
        · rw [e, zup_s, zup_s, h1 _ hS10]
        · rw [zup_n _ _ (by omega), zup_n _ _ e, h1 r hr]
    have B_69 := zr_iconst (X := X) (Y := Y) (u := 0) (v := 0) (x := (-1)) O dX11_epoch_69 rfl (C_70)
    have B_48 := zr_iinc (X := X) (Y := Y) (u := 0) (v := 0) (c := 1) O dX11_epoch_48 rfl (zr_aload_n O dX11_epoch_51 rfl (zr_gS (ci := 10) (j := 2) (off := 2) (t := 1) (n := 218) O zc_10 (by decide) rfl tw_1189 dX11_epoch_52 (zr_sipush (x := (190)) O dX11_epoch_55 (by decide) (zr_iload_n O dX11_epoch_58 rfl (zr_iadd O dX11_epoch_59 (zr_iald O dX11_epoch_60 (zr_iconst (x := 1) O dX11_epoch_61 rfl (zr_icne (tgt := 69) O dX11_epoch_62 rfl B_69 (zr_iconst (x := 1) O dX11_epoch_65 rfl (zr_goto (tgt := 70) O dX11_epoch_66 rfl C_70))))))))))
    have B_4 := zr_iload_n (X := X) (Y := Y) (u := 0) (v := 0) O dX11_epoch_4 rfl (zr_aload_n O dX11_epoch_5 rfl (zr_gS (ci := 10) (j := 2) (off := 2) (t := 1) (n := 218) O zc_10 (by decide) rfl tw_1189 dX11_epoch_6 (zr_sipush (x := (161)) O dX11_epoch_9 (by decide) (zr_iald O dX11_epoch_12 (zr_icge (tgt := 116) O dX11_epoch_13 rfl B_116 (zr_aload_n O dX11_epoch_16 rfl (zr_gS (ci := 10) (j := 2) (off := 2) (t := 1) (n := 218) O zc_10 (by decide) rfl tw_1189 dX11_epoch_17 (zr_sipush (x := (162)) O dX11_epoch_20 (by decide) (zr_iload_n O dX11_epoch_23 rfl (zr_iadd O dX11_epoch_24 (zr_iald O dX11_epoch_25 (zr_istore_n O dX11_epoch_26 rfl (zr_aload_n O dX11_epoch_27 rfl (zr_iload_n O dX11_epoch_28 rfl (zr_cI (zr_cV (ci := 10) (n := 1) O m_X11_guessOf (bn_X11_guessOf _ ⟨rfl, rfl⟩) vw_X11_guessOf tw_1475 rc_X11_guessOf (zrm hR rfl rfl) dX11_epoch_29 (zr_aload_n O dX11_epoch_32 rfl (zr_gS (ci := 10) (j := 2) (off := 2) (t := 1) (n := 218) O zc_10 (by decide) rfl tw_1189 dX11_epoch_33 (zr_sipush (x := (190)) O dX11_epoch_36 (by decide) (zr_iload_n O dX11_epoch_39 rfl (zr_iadd O dX11_epoch_40 (zr_iald O dX11_epoch_41 (zr_icne (tgt := 48) O dX11_epoch_42 rfl B_48 (zr_goto (tgt := 110) O dX11_epoch_45 rfl B_110))))))))))))))))))))))))
    refine zSd_weak B_4 (fun ls st h1 t => ?_)
    obtain ⟨i, u, z, f, y3, y4, rfl, hi, rfl, rfl, rfl, rfl, rfl, hf⟩ := t
    have e161 : (zsW h (y + 2) f).1 (y + 2) 161 = nI (gN M) := by rw [zsW_s, hf.1 161 (by omega)]; exact hL.1.1
    refine ⟨161, rfl, by decide, fun c => ?_, fun c => ?_⟩
    · rw [e161] at c
      have := (nI_leI (by omega) (by omega)).mp c
      have hi2 : i = gN M := by omega
      subst hi2
      exact ⟨zri rfl, f, rfl, hf⟩
    · rw [e161] at c
      have hi2 : i < gN M := Nat.not_le.mp (fun z => c ((nI_leI (by omega) (by omega)).mpr z))
      obtain ⟨⟨p1, p2⟩, p3⟩ := hL.2.1 i hi2
      have q3 := hP i hi2
      have e162 : (zsW h (y + 2) f).1 (y + 2) (162 + i) = nI (gP M i) := by rw [zsW_s, hf.1 _ (by omega)]; exact p1
      have e190 : (zsW h (y + 2) f).1 (y + 2) (190 + i) = bI (gB M i) := by rw [zsW_s, hf.1 _ (by omega)]; exact p3
      have hS1 : rmS S (zsW h (y + 2) f) y := rmS_m (fun k hk => hf.1 k (by omega)) hS
      refine ⟨162 + i, lI 162 i, by omega, (S, (gN M, gP M, gB M, (lrn S M i).1), y, gP M i), by rw [e162]; rfl, ⟨hS1, fun r hr => by rw [zsW_s]; exact hf.2 r hr, q3⟩, 190 + i, lI 190 i, by omega, fun d => ?_, fun d => ?_⟩
      · replace d : ¬ gss S (lrn S M i).1 (gP M i) = (zsW h (y + 2) f).1 (y + 2) (190 + i) := d
        rw [e190] at d
        refine ⟨190 + i, lI 190 i, by omega, fun e => ?_, fun e => ?_⟩
        · rw [e190] at e
          have hb : gB M i = false := by
            cases hz : gB M i with
            | true => rw [hz] at e; exact absurd rfl e
            | false => rfl
          refine ⟨i, _, _, f, _, rfl, hi2, by rw [e162], nI_1 _, rfl, ?_, rfl, hf, d⟩
          rw [hb]; rfl
        · rw [e190] at e
          have hb : gB M i = true := (bI_1 _).mp e
          refine ⟨i, _, _, f, _, rfl, hi2, by rw [e162], nI_1 _, rfl, ?_, rfl, hf, d⟩
          rw [hb]; rfl
      · replace d : gss S (lrn S M i).1 (gP M i) = (zsW h (y + 2) f).1 (y + 2) (190 + i) := d
        rw [e190] at d
        have e3 : lrn S M (i + 1) = lrn S M i := by rw [lrn, if_pos d]
        exact ⟨gN M - (i + 1), by omega, i + 1, _, _, f, _, _, rfl, by omega, rfl, by rw [e3], nI_1 i, rfl, rfl, by rw [e3]; exact hf⟩
  have B_4 := zSd_any L_4
  have B_0 := zr_iconst (X := X) (Y := Y) (u := 0) (v := 0) (x := 0) O dX11_epoch_0 rfl (zr_istore_n O dX11_epoch_1 rfl (zr_iconst (x := 0) O dX11_epoch_2 rfl (zr_istore_n O dX11_epoch_3 rfl (B_4))))
  refine ⟨rfl, Nat.le_of_ble_eq_true rfl, _, B_0, ?_⟩
  refine ⟨gN M - 0, 0, _, _, h.1 (y + 2), none, none, rfl, Nat.zero_le _, rfl, rfl, rfl, rfl, ?_, fun _ _ => rfl, fun r hr => hL.2.2 r hr⟩
  exact (zsW_self _ _).symm

