theorem dX11_flips_106 : decode cX11_flips 106 = .ok (.ireturn, 1) := by decide +kernel
theorem dX11_flips_104 : decode cX11_flips 104 = .ok (.iload 4, 2) := by decide +kernel
theorem dX11_flips_96 : decode cX11_flips 96 = .ok (.iload_n 2, 1) := by decide +kernel
theorem dX11_flips_97 : decode cX11_flips 97 = .ok (.ifCond .ne 7, 3) := by decide +kernel
theorem dX11_flips_100 : decode cX11_flips 100 = .ok (.iload_n 3, 1) := by decide +kernel
theorem dX11_flips_101 : decode cX11_flips 101 = .ok (.goto 5, 3) := by decide +kernel
theorem dX11_flips_90 : decode cX11_flips 90 = .ok (.iinc 5 1, 3) := by decide +kernel
theorem dX11_flips_93 : decode cX11_flips 93 = .ok (.goto (-48), 3) := by decide +kernel
theorem dX11_flips_85 : decode cX11_flips 85 = .ok (.istore 4, 2) := by decide +kernel
theorem dX11_flips_87 : decode cX11_flips 87 = .ok (.iinc 3 1, 3) := by decide +kernel
theorem dX11_flips_83 : decode cX11_flips 83 = .ok (.iload 4, 2) := by decide +kernel
theorem dX11_flips_74 : decode cX11_flips 74 = .ok (.iload_n 3, 1) := by decide +kernel
theorem dX11_flips_75 : decode cX11_flips 75 = .ok (.ifCond .ne 8, 3) := by decide +kernel
theorem dX11_flips_78 : decode cX11_flips 78 = .ok (.iload 5, 2) := by decide +kernel
theorem dX11_flips_80 : decode cX11_flips 80 = .ok (.goto 5, 3) := by decide +kernel
theorem dX11_flips_45 : decode cX11_flips 45 = .ok (.iload 5, 2) := by decide +kernel
theorem dX11_flips_47 : decode cX11_flips 47 = .ok (.aload_n 0, 1) := by decide +kernel
theorem dX11_flips_48 : decode cX11_flips 48 = .ok (.getfield 17, 3) := by decide +kernel
theorem dX11_flips_51 : decode cX11_flips 51 = .ok (.iconst 2, 1) := by decide +kernel
theorem dX11_flips_52 : decode cX11_flips 52 = .ok (.iaload, 1) := by decide +kernel
theorem dX11_flips_53 : decode cX11_flips 53 = .ok (.if_icmp .gt 43, 3) := by decide +kernel
theorem dX11_flips_56 : decode cX11_flips 56 = .ok (.aload_n 0, 1) := by decide +kernel
theorem dX11_flips_57 : decode cX11_flips 57 = .ok (.iload_n 1, 1) := by decide +kernel
theorem dX11_flips_58 : decode cX11_flips 58 = .ok (.iload 5, 2) := by decide +kernel
theorem dX11_flips_60 : decode cX11_flips 60 = .ok (.invokevirtual 82, 3) := by decide +kernel
theorem dX11_flips_63 : decode cX11_flips 63 = .ok (.aload_n 0, 1) := by decide +kernel
theorem dX11_flips_64 : decode cX11_flips 64 = .ok (.iload_n 1, 1) := by decide +kernel
theorem dX11_flips_65 : decode cX11_flips 65 = .ok (.invokevirtual 85, 3) := by decide +kernel
theorem dX11_flips_68 : decode cX11_flips 68 = .ok (.if_icmp .ne 6, 3) := by decide +kernel
theorem dX11_flips_71 : decode cX11_flips 71 = .ok (.goto 19, 3) := by decide +kernel
theorem dX11_flips_30 : decode cX11_flips 30 = .ok (.iconst 0, 1) := by decide +kernel
theorem dX11_flips_31 : decode cX11_flips 31 = .ok (.istore_n 3, 1) := by decide +kernel
theorem dX11_flips_32 : decode cX11_flips 32 = .ok (.sipush 999, 3) := by decide +kernel
theorem dX11_flips_35 : decode cX11_flips 35 = .ok (.istore 4, 2) := by decide +kernel
theorem dX11_flips_37 : decode cX11_flips 37 = .ok (.aload_n 0, 1) := by decide +kernel
theorem dX11_flips_38 : decode cX11_flips 38 = .ok (.getfield 17, 3) := by decide +kernel
theorem dX11_flips_41 : decode cX11_flips 41 = .ok (.iconst 1, 1) := by decide +kernel
theorem dX11_flips_42 : decode cX11_flips 42 = .ok (.iaload, 1) := by decide +kernel
theorem dX11_flips_43 : decode cX11_flips 43 = .ok (.istore 5, 2) := by decide +kernel
theorem dX11_flips_28 : decode cX11_flips 28 = .ok (.iconst 0, 1) := by decide +kernel
theorem dX11_flips_29 : decode cX11_flips 29 = .ok (.ireturn, 1) := by decide +kernel
theorem dX11_flips_0 : decode cX11_flips 0 = .ok (.aload_n 0, 1) := by decide +kernel
theorem dX11_flips_1 : decode cX11_flips 1 = .ok (.iconst 0, 1) := by decide +kernel
theorem dX11_flips_2 : decode cX11_flips 2 = .ok (.putfield 1, 3) := by decide +kernel
theorem dX11_flips_5 : decode cX11_flips 5 = .ok (.aload_n 0, 1) := by decide +kernel
theorem dX11_flips_6 : decode cX11_flips 6 = .ok (.iload_n 1, 1) := by decide +kernel
theorem dX11_flips_7 : decode cX11_flips 7 = .ok (.invokevirtual 251, 3) := by decide +kernel
theorem dX11_flips_10 : decode cX11_flips 10 = .ok (.ifCond .eq 18, 3) := by decide +kernel
theorem dX11_flips_13 : decode cX11_flips 13 = .ok (.aload_n 0, 1) := by decide +kernel
theorem dX11_flips_14 : decode cX11_flips 14 = .ok (.iload_n 2, 1) := by decide +kernel
theorem dX11_flips_15 : decode cX11_flips 15 = .ok (.iconst 0, 1) := by decide +kernel
theorem dX11_flips_16 : decode cX11_flips 16 = .ok (.iconst 1, 1) := by decide +kernel
theorem dX11_flips_17 : decode cX11_flips 17 = .ok (.invokestatic 173, 3) := by decide +kernel
theorem dX11_flips_20 : decode cX11_flips 20 = .ok (.iconst 2, 1) := by decide +kernel
theorem dX11_flips_21 : decode cX11_flips 21 = .ok (.iconst 1, 1) := by decide +kernel
theorem dX11_flips_22 : decode cX11_flips 22 = .ok (.invokevirtual 217, 3) := by decide +kernel
theorem dX11_flips_25 : decode cX11_flips 25 = .ok (.ifCond .ne 5, 3) := by decide +kernel
theorem dX11_range_87 : decode cX11_range 87 = .ok (.iload_n 2, 1) := by decide +kernel
theorem dX11_range_88 : decode cX11_range 88 = .ok (.ireturn, 1) := by decide +kernel
theorem dX11_range_56 : decode cX11_range 56 = .ok (.iload_n 2, 1) := by decide +kernel
theorem dX11_range_57 : decode cX11_range 57 = .ok (.iload_n 3, 1) := by decide +kernel
theorem dX11_range_58 : decode cX11_range 58 = .ok (.iadd, 1) := by decide +kernel
theorem dX11_range_59 : decode cX11_range 59 = .ok (.bipush (-40), 2) := by decide +kernel
theorem dX11_range_61 : decode cX11_range 61 = .ok (.bipush 125, 2) := by decide +kernel
theorem dX11_range_63 : decode cX11_range 63 = .ok (.invokestatic 173, 3) := by decide +kernel
theorem dX11_range_66 : decode cX11_range 66 = .ok (.ifCond .eq 21, 3) := by decide +kernel
theorem dX11_range_69 : decode cX11_range 69 = .ok (.aload_n 0, 1) := by decide +kernel
theorem dX11_range_70 : decode cX11_range 70 = .ok (.iload_n 2, 1) := by decide +kernel
theorem dX11_range_71 : decode cX11_range 71 = .ok (.iload_n 3, 1) := by decide +kernel
theorem dX11_range_72 : decode cX11_range 72 = .ok (.iadd, 1) := by decide +kernel
theorem dX11_range_73 : decode cX11_range 73 = .ok (.invokevirtual 329, 3) := by decide +kernel
theorem dX11_range_76 : decode cX11_range 76 = .ok (.iconst (-1), 1) := by decide +kernel
theorem dX11_range_77 : decode cX11_range 77 = .ok (.if_icmp .ne 10, 3) := by decide +kernel
theorem dX11_range_80 : decode cX11_range 80 = .ok (.iload_n 2, 1) := by decide +kernel
theorem dX11_range_81 : decode cX11_range 81 = .ok (.iload_n 3, 1) := by decide +kernel
theorem dX11_range_82 : decode cX11_range 82 = .ok (.iadd, 1) := by decide +kernel
theorem dX11_range_83 : decode cX11_range 83 = .ok (.istore_n 2, 1) := by decide +kernel
theorem dX11_range_84 : decode cX11_range 84 = .ok (.goto (-28), 3) := by decide +kernel
theorem dX11_range_55 : decode cX11_range 55 = .ok (.istore_n 3, 1) := by decide +kernel
theorem dX11_range_54 : decode cX11_range 54 = .ok (.iconst 1, 1) := by decide +kernel
theorem dX11_range_43 : decode cX11_range 43 = .ok (.bipush 20, 2) := by decide +kernel
theorem dX11_range_45 : decode cX11_range 45 = .ok (.istore_n 2, 1) := by decide +kernel
theorem dX11_range_46 : decode cX11_range 46 = .ok (.iload_n 1, 1) := by decide +kernel
theorem dX11_range_47 : decode cX11_range 47 = .ok (.ifCond .ne 7, 3) := by decide +kernel
theorem dX11_range_50 : decode cX11_range 50 = .ok (.iconst (-1), 1) := by decide +kernel
theorem dX11_range_51 : decode cX11_range 51 = .ok (.goto 4, 3) := by decide +kernel
theorem dX11_range_29 : decode cX11_range 29 = .ok (.aload_n 0, 1) := by decide +kernel
theorem dX11_range_30 : decode cX11_range 30 = .ok (.bipush 20, 2) := by decide +kernel
theorem dX11_range_32 : decode cX11_range 32 = .ok (.invokevirtual 329, 3) := by decide +kernel
theorem dX11_range_35 : decode cX11_range 35 = .ok (.iconst (-1), 1) := by decide +kernel
theorem dX11_range_36 : decode cX11_range 36 = .ok (.if_icmp .eq 7, 3) := by decide +kernel
theorem dX11_range_39 : decode cX11_range 39 = .ok (.sipush 999, 3) := by decide +kernel
theorem dX11_range_42 : decode cX11_range 42 = .ok (.ireturn, 1) := by decide +kernel
theorem dX11_range_27 : decode cX11_range 27 = .ok (.iconst 0, 1) := by decide +kernel
theorem dX11_range_28 : decode cX11_range 28 = .ok (.ireturn, 1) := by decide +kernel
theorem dX11_range_0 : decode cX11_range 0 = .ok (.aload_n 0, 1) := by decide +kernel
theorem dX11_range_1 : decode cX11_range 1 = .ok (.iconst 0, 1) := by decide +kernel
theorem dX11_range_2 : decode cX11_range 2 = .ok (.putfield 1, 3) := by decide +kernel
theorem dX11_range_5 : decode cX11_range 5 = .ok (.aload_n 0, 1) := by decide +kernel
theorem dX11_range_6 : decode cX11_range 6 = .ok (.invokevirtual 263, 3) := by decide +kernel
theorem dX11_range_9 : decode cX11_range 9 = .ok (.ifCond .eq 18, 3) := by decide +kernel
theorem dX11_range_12 : decode cX11_range 12 = .ok (.aload_n 0, 1) := by decide +kernel
theorem dX11_range_13 : decode cX11_range 13 = .ok (.iload_n 1, 1) := by decide +kernel
theorem dX11_range_14 : decode cX11_range 14 = .ok (.iconst 0, 1) := by decide +kernel
theorem dX11_range_15 : decode cX11_range 15 = .ok (.iconst 1, 1) := by decide +kernel
theorem dX11_range_16 : decode cX11_range 16 = .ok (.invokestatic 173, 3) := by decide +kernel
theorem dX11_range_19 : decode cX11_range 19 = .ok (.iconst 2, 1) := by decide +kernel
theorem dX11_range_20 : decode cX11_range 20 = .ok (.iconst 1, 1) := by decide +kernel
theorem dX11_range_21 : decode cX11_range 21 = .ok (.invokevirtual 217, 3) := by decide +kernel
theorem dX11_range_24 : decode cX11_range 24 = .ok (.ifCond .ne 5, 3) := by decide +kernel
theorem dX11_safe_143 : decode cX11_safe 143 = .ok (.iload_n 3, 1) := by decide +kernel
theorem dX11_safe_144 : decode cX11_safe 144 = .ok (.ireturn, 1) := by decide +kernel
theorem dX11_safe_135 : decode cX11_safe 135 = .ok (.iadd, 1) := by decide +kernel
theorem dX11_safe_136 : decode cX11_safe 136 = .ok (.istore_n 3, 1) := by decide +kernel
theorem dX11_safe_137 : decode cX11_safe 137 = .ok (.iinc 4 1, 3) := by decide +kernel
theorem dX11_safe_140 : decode cX11_safe 140 = .ok (.goto (-30), 3) := by decide +kernel
theorem dX11_safe_134 : decode cX11_safe 134 = .ok (.iconst 0, 1) := by decide +kernel
theorem dX11_safe_110 : decode cX11_safe 110 = .ok (.iload 4, 2) := by decide +kernel
theorem dX11_safe_112 : decode cX11_safe 112 = .ok (.aload_n 0, 1) := by decide +kernel
theorem dX11_safe_113 : decode cX11_safe 113 = .ok (.invokevirtual 323, 3) := by decide +kernel
theorem dX11_safe_116 : decode cX11_safe 116 = .ok (.if_icmp .ge 27, 3) := by decide +kernel
theorem dX11_safe_119 : decode cX11_safe 119 = .ok (.iload_n 3, 1) := by decide +kernel
theorem dX11_safe_120 : decode cX11_safe 120 = .ok (.aload_n 0, 1) := by decide +kernel
theorem dX11_safe_121 : decode cX11_safe 121 = .ok (.iload 4, 2) := by decide +kernel
theorem dX11_safe_123 : decode cX11_safe 123 = .ok (.iload_n 1, 1) := by decide +kernel
theorem dX11_safe_124 : decode cX11_safe 124 = .ok (.invokevirtual 326, 3) := by decide +kernel
theorem dX11_safe_127 : decode cX11_safe 127 = .ok (.ifCond .eq 7, 3) := by decide +kernel
theorem dX11_safe_130 : decode cX11_safe 130 = .ok (.iconst 1, 1) := by decide +kernel
theorem dX11_safe_131 : decode cX11_safe 131 = .ok (.goto 4, 3) := by decide +kernel
theorem dX11_safe_107 : decode cX11_safe 107 = .ok (.iconst 0, 1) := by decide +kernel
theorem dX11_safe_108 : decode cX11_safe 108 = .ok (.istore 4, 2) := by decide +kernel
theorem dX11_safe_104 : decode cX11_safe 104 = .ok (.goto 39, 3) := by decide +kernel
theorem dX11_safe_96 : decode cX11_safe 96 = .ok (.iadd, 1) := by decide +kernel
theorem dX11_safe_97 : decode cX11_safe 97 = .ok (.istore_n 3, 1) := by decide +kernel
theorem dX11_safe_98 : decode cX11_safe 98 = .ok (.iinc 4 1, 3) := by decide +kernel
theorem dX11_safe_101 : decode cX11_safe 101 = .ok (.goto (-33), 3) := by decide +kernel
theorem dX11_safe_95 : decode cX11_safe 95 = .ok (.iconst 0, 1) := by decide +kernel
theorem dX11_safe_68 : decode cX11_safe 68 = .ok (.iload 4, 2) := by decide +kernel
theorem dX11_safe_70 : decode cX11_safe 70 = .ok (.aload_n 0, 1) := by decide +kernel
theorem dX11_safe_71 : decode cX11_safe 71 = .ok (.getfield 17, 3) := by decide +kernel
theorem dX11_safe_74 : decode cX11_safe 74 = .ok (.bipush 45, 2) := by decide +kernel
theorem dX11_safe_76 : decode cX11_safe 76 = .ok (.iaload, 1) := by decide +kernel
theorem dX11_safe_77 : decode cX11_safe 77 = .ok (.if_icmp .ge 27, 3) := by decide +kernel
theorem dX11_safe_80 : decode cX11_safe 80 = .ok (.iload_n 3, 1) := by decide +kernel
theorem dX11_safe_81 : decode cX11_safe 81 = .ok (.aload_n 0, 1) := by decide +kernel
theorem dX11_safe_82 : decode cX11_safe 82 = .ok (.iload 4, 2) := by decide +kernel
theorem dX11_safe_84 : decode cX11_safe 84 = .ok (.iload_n 1, 1) := by decide +kernel
theorem dX11_safe_85 : decode cX11_safe 85 = .ok (.invokevirtual 320, 3) := by decide +kernel
theorem dX11_safe_88 : decode cX11_safe 88 = .ok (.ifCond .eq 7, 3) := by decide +kernel
theorem dX11_safe_91 : decode cX11_safe 91 = .ok (.iconst 1, 1) := by decide +kernel
theorem dX11_safe_92 : decode cX11_safe 92 = .ok (.goto 4, 3) := by decide +kernel
theorem dX11_safe_59 : decode cX11_safe 59 = .ok (.iconst 0, 1) := by decide +kernel
theorem dX11_safe_60 : decode cX11_safe 60 = .ok (.istore_n 3, 1) := by decide +kernel
theorem dX11_safe_61 : decode cX11_safe 61 = .ok (.iload_n 2, 1) := by decide +kernel
theorem dX11_safe_62 : decode cX11_safe 62 = .ok (.ifCond .ne 45, 3) := by decide +kernel
theorem dX11_safe_65 : decode cX11_safe 65 = .ok (.iconst 0, 1) := by decide +kernel
theorem dX11_safe_66 : decode cX11_safe 66 = .ok (.istore 4, 2) := by decide +kernel
theorem dX11_safe_48 : decode cX11_safe 48 = .ok (.iload_n 2, 1) := by decide +kernel
theorem dX11_safe_49 : decode cX11_safe 49 = .ok (.iconst 2, 1) := by decide +kernel
theorem dX11_safe_50 : decode cX11_safe 50 = .ok (.if_icmp .ne 9, 3) := by decide +kernel
theorem dX11_safe_53 : decode cX11_safe 53 = .ok (.aload_n 0, 1) := by decide +kernel
theorem dX11_safe_54 : decode cX11_safe 54 = .ok (.iload_n 1, 1) := by decide +kernel
theorem dX11_safe_55 : decode cX11_safe 55 = .ok (.invokevirtual 329, 3) := by decide +kernel
theorem dX11_safe_58 : decode cX11_safe 58 = .ok (.ireturn, 1) := by decide +kernel
theorem dX11_safe_46 : decode cX11_safe 46 = .ok (.iconst 0, 1) := by decide +kernel
theorem dX11_safe_47 : decode cX11_safe 47 = .ok (.ireturn, 1) := by decide +kernel
theorem dX11_safe_38 : decode cX11_safe 38 = .ok (.iconst 2, 1) := by decide +kernel
theorem dX11_safe_39 : decode cX11_safe 39 = .ok (.iconst 1, 1) := by decide +kernel
theorem dX11_safe_40 : decode cX11_safe 40 = .ok (.invokevirtual 217, 3) := by decide +kernel
theorem dX11_safe_43 : decode cX11_safe 43 = .ok (.ifCond .ne 5, 3) := by decide +kernel
theorem dX11_safe_37 : decode cX11_safe 37 = .ok (.iconst 0, 1) := by decide +kernel
theorem dX11_safe_0 : decode cX11_safe 0 = .ok (.aload_n 0, 1) := by decide +kernel
theorem dX11_safe_1 : decode cX11_safe 1 = .ok (.iconst 0, 1) := by decide +kernel
theorem dX11_safe_2 : decode cX11_safe 2 = .ok (.putfield 1, 3) := by decide +kernel
theorem dX11_safe_5 : decode cX11_safe 5 = .ok (.aload_n 0, 1) := by decide +kernel
theorem dX11_safe_6 : decode cX11_safe 6 = .ok (.invokevirtual 263, 3) := by decide +kernel
theorem dX11_safe_9 : decode cX11_safe 9 = .ok (.ifCond .eq 37, 3) := by decide +kernel
theorem dX11_safe_12 : decode cX11_safe 12 = .ok (.aload_n 0, 1) := by decide +kernel
theorem dX11_safe_13 : decode cX11_safe 13 = .ok (.iload_n 1, 1) := by decide +kernel
theorem dX11_safe_14 : decode cX11_safe 14 = .ok (.bipush (-40), 2) := by decide +kernel
theorem dX11_safe_16 : decode cX11_safe 16 = .ok (.bipush 125, 2) := by decide +kernel
theorem dX11_safe_18 : decode cX11_safe 18 = .ok (.invokestatic 173, 3) := by decide +kernel
theorem dX11_safe_21 : decode cX11_safe 21 = .ok (.ifCond .eq 16, 3) := by decide +kernel
theorem dX11_safe_24 : decode cX11_safe 24 = .ok (.iload_n 2, 1) := by decide +kernel
theorem dX11_safe_25 : decode cX11_safe 25 = .ok (.iconst 0, 1) := by decide +kernel
theorem dX11_safe_26 : decode cX11_safe 26 = .ok (.iconst 2, 1) := by decide +kernel
theorem dX11_safe_27 : decode cX11_safe 27 = .ok (.invokestatic 173, 3) := by decide +kernel
theorem dX11_safe_30 : decode cX11_safe 30 = .ok (.ifCond .eq 7, 3) := by decide +kernel
theorem dX11_safe_33 : decode cX11_safe 33 = .ok (.iconst 1, 1) := by decide +kernel
theorem dX11_safe_34 : decode cX11_safe 34 = .ok (.goto 4, 3) := by decide +kernel
theorem dX11_recover_152 : decode cX11_recover 152 = .ok (.aload_n 0, 1) := by decide +kernel
theorem dX11_recover_153 : decode cX11_recover 153 = .ok (.getfield 291, 3) := by decide +kernel
theorem dX11_recover_156 : decode cX11_recover 156 = .ok (.ireturn, 1) := by decide +kernel
theorem dX11_recover_151 : decode cX11_recover 151 = .ok (.ireturn, 1) := by decide +kernel
theorem dX11_recover_150 : decode cX11_recover 150 = .ok (.iconst 0, 1) := by decide +kernel
theorem dX11_recover_132 : decode cX11_recover 132 = .ok (.aload_n 0, 1) := by decide +kernel
theorem dX11_recover_133 : decode cX11_recover 133 = .ok (.getfield 301, 3) := by decide +kernel
theorem dX11_recover_136 : decode cX11_recover 136 = .ok (.aload_n 0, 1) := by decide +kernel
theorem dX11_recover_137 : decode cX11_recover 137 = .ok (.getfield 17, 3) := by decide +kernel
theorem dX11_recover_140 : decode cX11_recover 140 = .ok (.bipush 47, 2) := by decide +kernel
theorem dX11_recover_142 : decode cX11_recover 142 = .ok (.iaload, 1) := by decide +kernel
theorem dX11_recover_143 : decode cX11_recover 143 = .ok (.if_icmp .ne 7, 3) := by decide +kernel
theorem dX11_recover_146 : decode cX11_recover 146 = .ok (.iconst 1, 1) := by decide +kernel
theorem dX11_recover_147 : decode cX11_recover 147 = .ok (.goto 4, 3) := by decide +kernel
theorem dX11_recover_131 : decode cX11_recover 131 = .ok (.ireturn, 1) := by decide +kernel
theorem dX11_recover_130 : decode cX11_recover 130 = .ok (.iconst 0, 1) := by decide +kernel
theorem dX11_recover_119 : decode cX11_recover 119 = .ok (.aload_n 0, 1) := by decide +kernel
theorem dX11_recover_120 : decode cX11_recover 120 = .ok (.invokevirtual 314, 3) := by decide +kernel
theorem dX11_recover_123 : decode cX11_recover 123 = .ok (.ifCond .eq 7, 3) := by decide +kernel
theorem dX11_recover_126 : decode cX11_recover 126 = .ok (.iconst 1, 1) := by decide +kernel
theorem dX11_recover_127 : decode cX11_recover 127 = .ok (.goto 4, 3) := by decide +kernel
theorem dX11_recover_114 : decode cX11_recover 114 = .ok (.aload_n 0, 1) := by decide +kernel
theorem dX11_recover_115 : decode cX11_recover 115 = .ok (.getfield 298, 3) := by decide +kernel
theorem dX11_recover_118 : decode cX11_recover 118 = .ok (.ireturn, 1) := by decide +kernel
theorem dX11_recover_109 : decode cX11_recover 109 = .ok (.aload_n 0, 1) := by decide +kernel
theorem dX11_recover_110 : decode cX11_recover 110 = .ok (.getfield 295, 3) := by decide +kernel
theorem dX11_recover_113 : decode cX11_recover 113 = .ok (.ireturn, 1) := by decide +kernel
theorem dX11_recover_104 : decode cX11_recover 104 = .ok (.aload_n 0, 1) := by decide +kernel
theorem dX11_recover_105 : decode cX11_recover 105 = .ok (.getfield 301, 3) := by decide +kernel
theorem dX11_recover_108 : decode cX11_recover 108 = .ok (.ireturn, 1) := by decide +kernel
theorem dX11_recover_59 : decode cX11_recover 59 = .ok (.aload_n 0, 1) := by decide +kernel
theorem dX11_recover_60 : decode cX11_recover 60 = .ok (.iload_n 2, 1) := by decide +kernel
theorem dX11_recover_61 : decode cX11_recover 61 = .ok (.putfield 291, 3) := by decide +kernel
theorem dX11_recover_64 : decode cX11_recover 64 = .ok (.aload_n 0, 1) := by decide +kernel
theorem dX11_recover_65 : decode cX11_recover 65 = .ok (.iload_n 1, 1) := by decide +kernel
theorem dX11_recover_66 : decode cX11_recover 66 = .ok (.invokevirtual 311, 3) := by decide +kernel
theorem dX11_recover_69 : decode cX11_recover 69 = .ok (.iload_n 3, 1) := by decide +kernel
theorem dX11_recover_70 : decode cX11_recover 70 = .ok (.tableswitch 82 0 4 #[34, 39, 44, 49, 62], 34) := by decide +kernel
theorem dX11_recover_57 : decode cX11_recover 57 = .ok (.iconst 0, 1) := by decide +kernel
theorem dX11_recover_58 : decode cX11_recover 58 = .ok (.ireturn, 1) := by decide +kernel
theorem dX11_recover_49 : decode cX11_recover 49 = .ok (.iconst 2, 1) := by decide +kernel
theorem dX11_recover_50 : decode cX11_recover 50 = .ok (.iconst 1, 1) := by decide +kernel
theorem dX11_recover_51 : decode cX11_recover 51 = .ok (.invokevirtual 217, 3) := by decide +kernel
theorem dX11_recover_54 : decode cX11_recover 54 = .ok (.ifCond .ne 5, 3) := by decide +kernel
theorem dX11_recover_48 : decode cX11_recover 48 = .ok (.iconst 0, 1) := by decide +kernel
theorem dX11_recover_0 : decode cX11_recover 0 = .ok (.aload_n 0, 1) := by decide +kernel
theorem dX11_recover_1 : decode cX11_recover 1 = .ok (.iconst 0, 1) := by decide +kernel
theorem dX11_recover_2 : decode cX11_recover 2 = .ok (.putfield 1, 3) := by decide +kernel
theorem dX11_recover_5 : decode cX11_recover 5 = .ok (.aload_n 0, 1) := by decide +kernel
theorem dX11_recover_6 : decode cX11_recover 6 = .ok (.invokevirtual 263, 3) := by decide +kernel
theorem dX11_recover_9 : decode cX11_recover 9 = .ok (.ifCond .eq 48, 3) := by decide +kernel
theorem dX11_recover_12 : decode cX11_recover 12 = .ok (.aload_n 0, 1) := by decide +kernel
theorem dX11_recover_13 : decode cX11_recover 13 = .ok (.iload_n 1, 1) := by decide +kernel
theorem dX11_recover_14 : decode cX11_recover 14 = .ok (.bipush (-40), 2) := by decide +kernel
theorem dX11_recover_16 : decode cX11_recover 16 = .ok (.bipush 125, 2) := by decide +kernel
theorem dX11_recover_18 : decode cX11_recover 18 = .ok (.invokestatic 173, 3) := by decide +kernel
theorem dX11_recover_21 : decode cX11_recover 21 = .ok (.ifCond .eq 27, 3) := by decide +kernel
theorem dX11_recover_24 : decode cX11_recover 24 = .ok (.iload_n 2, 1) := by decide +kernel
theorem dX11_recover_25 : decode cX11_recover 25 = .ok (.iconst 0, 1) := by decide +kernel
theorem dX11_recover_26 : decode cX11_recover 26 = .ok (.ldc_w 310, 3) := by decide +kernel
theorem dX11_recover_29 : decode cX11_recover 29 = .ok (.invokestatic 173, 3) := by decide +kernel
theorem dX11_recover_32 : decode cX11_recover 32 = .ok (.ifCond .eq 16, 3) := by decide +kernel
theorem dX11_recover_35 : decode cX11_recover 35 = .ok (.iload_n 3, 1) := by decide +kernel
theorem dX11_recover_36 : decode cX11_recover 36 = .ok (.iconst 0, 1) := by decide +kernel
theorem dX11_recover_37 : decode cX11_recover 37 = .ok (.iconst 5, 1) := by decide +kernel
theorem dX11_recover_38 : decode cX11_recover 38 = .ok (.invokestatic 173, 3) := by decide +kernel
theorem dX11_recover_41 : decode cX11_recover 41 = .ok (.ifCond .eq 7, 3) := by decide +kernel
theorem dX11_recover_44 : decode cX11_recover 44 = .ok (.iconst 1, 1) := by decide +kernel
theorem dX11_recover_45 : decode cX11_recover 45 = .ok (.goto 4, 3) := by decide +kernel
/-! the reference's public questions: flips, recover, safe, range -/
theorem fle_i {S : zD} (hv : vS S) (p : Nat) : ∀ n, n ≤ nH S → (fb_ct (flp S p) n = 0 → fle S p n = 999) ∧ (0 < fb_ct (flp S p) n → (fle S p n).toInt < (dT S 1).toInt + n)
  | 0, _ => ⟨fun _ => rfl, fun z => absurd z (Nat.lt_irrefl 0)⟩
  | n + 1, h => by
    obtain ⟨i1, i2⟩ := fle_i hv p n (by omega)
    have hn := ht_i hv (i := n) (by omega)
    have h6 := nH_le hv
    obtain ⟨-, -, -, ⟨l1, l2, l3⟩, -⟩ := hv
    have hH : (dT S 1).toInt + n ≤ 125 := by unfold nH at h; omega
    rw [fb_ct_succ, fle]
    cases flp S p n with
    | false =>
      refine ⟨fun z => i1 z, fun z => ?_⟩
      have := i2 z
      show (fle S p n).toInt < _
      omega
    | true =>
      refine ⟨fun z => by simp at z, fun _ => ?_⟩
      rw [if_pos rfl]
      by_cases c : dT S 1 + nI n < fle S p n
      · rw [if_pos c, hn]; omega
      · rw [if_neg c]
        rw [fa_lt, hn] at c
        omega
theorem fle_new {S : zD} (hv : vS S) {p n : Nat} (hn : n < nH S) (hf : flp S p n = true) : fle S p (n + 1) = if fb_ct (flp S p) n = 0 then dT S 1 + nI n else fle S p n := by
  obtain ⟨i1, i2⟩ := fle_i hv p n (by omega)
  have hi := ht_i hv (i := n) (by omega)
  obtain ⟨-, -, -, ⟨l1, l2, l3⟩, -⟩ := hv
  have hH : (dT S 1).toInt + n ≤ 125 := by unfold nH at hn; omega
  rw [fle, hf, if_pos rfl]
  by_cases z : fb_ct (flp S p) n = 0
  · rw [if_pos z, i1 z, if_pos]
    rw [fa_lt, hi, show (999 : Int32).toInt = 999 by decide]; omega
  · rw [if_neg z, if_neg]
    have := i2 (by omega)
    rw [fa_lt, hi]; omega
def ca_X11_flips : (zD × Nat × Int32 × Int32) → List zV := fun (S, y, i, w) => [vR 20 0 y, vI i, vI w]
def cp_X11_flips : (zD × Nat × Int32 × Int32) → zH → Prop := fun (S, y, i, w) h => rmS S h y ∧ vS S
def cq_X11_flips : (zD × Nat × Int32 × Int32) → zH → Option zV → zH → Prop := fun (S, y, i, w) h r h' => fq y h h' ∧ ((gC i (dP S) ∧ gR w 0 1 ∧ rok y h h' ∧ r = some (vI (flv S (cN i) (cN w)))) ∨ (¬ gC i (dP S) ∧ rno y 1 0 h h' ∧ r = some (vI 0)) ∨ (gC i (dP S) ∧ ¬ gR w 0 1 ∧ rno y 2 1 h h' ∧ r = some (vI 0)))
theorem rc_X11_flips : ∀ x : (zD × Nat × Int32 × Int32), ∃ (j a : Nat) (As : List zV), ca_X11_flips x = vR (10 + 10) j a :: As := by
  rintro ⟨S, y, i, w⟩
  exact ⟨_, _, _, rfl⟩
set_option maxHeartbeats 4000000 in
set_option maxRecDepth 100000 in
theorem m_X11_flips : zM yX11_flips cX11_flips 6 (some .int) ({ frames := 3, cells := 0, slots := 0, locals := 66 } : Room) ((ca_X11_flips, cp_X11_flips, cq_X11_flips) : zC (zD × Nat × Int32 × Int32)) := by
  refine zM_of (by decide) ?_
  rintro X Y ⟨S, y, i, w⟩ h ⟨hS, hv⟩ O E hR
  have hS : rmS S h y := hS
  have hv : vS S := hv
  have hS0 := rmS_0 hS
  have hP28 := hS.2.1.2
  have hH := nH_le hv
  have t1 : (zsI h y 0 0).1 (y + 2) 1 = dT S 1 := hS0.2.2.2.2 1 (by decide)
  have t2 : (zsI h y 0 0).1 (y + 2) 2 = dT S 2 := hS0.2.2.2.2 2 (by decide)
  have B_106 := zr_ireturn (X := X) (Y := Y) (u := 0) (v := 0) O E (Nat.le_refl _) (Nat.le_refl _) dX11_flips_106
  have B_104 := zr_iload (X := X) (Y := Y) (u := 0) (v := 0) O dX11_flips_104 (B_106)
  have B_96 := zr_iload_n (X := X) (Y := Y) (u := 0) (v := 0) O dX11_flips_96 rfl (zr_ifne (tgt := 104) O dX11_flips_97 rfl B_104 (zr_iload_n O dX11_flips_100 rfl (zr_goto (tgt := 106) O dX11_flips_101 rfl B_106)))
  have L_45 : ∀ nn : Nat, zSd X Y 0 0 45 ((fun c ls st h1 => ∃ (n p : Nat) (y3 y4 y5 : Int32), c = nH S - n ∧ n ≤ nH S ∧ ls = [some (vR 20 0 y), some (vI i), some (vI w), some (vI y3), some (vI y4), some (vI y5)] ∧ y3 = nI (fb_ct (flp S p) n) ∧ y4 = fle S p n ∧ y5 = dT S 1 + nI n ∧ st = [] ∧ h1 = zsI h y 0 0 ∧ i = nI p ∧ p < dP S ∧ gR w 0 1 : Nat → zT) nn) := by
    refine zSd_loop (fun nn ih => ?_)
    have B_90 := zr_iinc (X := X) (Y := Y) (u := 0) (v := 0) (c := 1) O dX11_flips_90 rfl (zr_goto (tgt := 45) O dX11_flips_93 rfl ih)
    have B_85 := zr_istore (X := X) (Y := Y) (u := 0) (v := 0) O dX11_flips_85 (zr_iinc (c := 1) O dX11_flips_87 rfl (B_90))
    have B_83 := zr_iload (X := X) (Y := Y) (u := 0) (v := 0) O dX11_flips_83 (B_85)
    have B_74 := zr_iload_n (X := X) (Y := Y) (u := 0) (v := 0) O dX11_flips_74 rfl (zr_ifne (tgt := 83) O dX11_flips_75 rfl B_83 (zr_iload O dX11_flips_78 (zr_goto (tgt := 85) O dX11_flips_80 rfl B_85)))
    have B_45 := zr_iload (X := X) (Y := Y) (u := 0) (v := 0) O dX11_flips_45 (zr_aload_n O dX11_flips_47 rfl (zr_gS (ci := 10) (j := 2) (off := 2) (t := 1) (n := 218) O zc_10 (by decide) rfl tw_1189 dX11_flips_48 (zr_iconst (x := 2) O dX11_flips_51 rfl (zr_iald O dX11_flips_52 (zr_icgt (tgt := 96) O dX11_flips_53 rfl B_96 (zr_aload_n O dX11_flips_56 rfl (zr_iload_n O dX11_flips_57 rfl (zr_iload O dX11_flips_58 (zr_cI (zr_cV (ci := 10) (n := 2) O m_X11_bitAt (bn_X11_bitAt _ ⟨rfl, rfl⟩) vw_X11_bitAt tw_1423 rc_X11_bitAt (zrm hR rfl rfl) dX11_flips_60 (zr_aload_n O dX11_flips_63 rfl (zr_iload_n O dX11_flips_64 rfl (zr_cI (zr_cV (ci := 10) (n := 1) O m_X11_bitOf (bn_X11_bitOf _ ⟨rfl, rfl⟩) vw_X11_bitOf tw_1419 rc_X11_bitOf (zrm hR rfl rfl) dX11_flips_65 (zr_icne (tgt := 74) O dX11_flips_68 rfl B_74 (zr_goto (tgt := 90) O dX11_flips_71 rfl B_90))))))))))))))))
    refine zSd_weak B_45 (fun ls st h1 t => ?_)
    obtain ⟨n, p, y3, y4, y5, rfl, hn, rfl, rfl, rfl, rfl, rfl, rfl, ei, hp, g2⟩ := t
    have ep : cN i = p := by rw [ei]; exact nI_clamp (by omega)
    have g1 : gC i (dP S) := by rw [ei]; exact ⟨nI_pos' (by omega), nI_lt hp (by omega)⟩
    have hct := fb_ct_le (flp S p) n
    refine ⟨2, rfl, by decide, fun c => ?_, fun c => ?_⟩
    · rw [t2] at c
      have hn2 := (ht_gt hv hn).mp c
      have hn3 : n = nH S := by omega
      subst hn3
      obtain ⟨q, rfl, hq, eq⟩ := rngx (n := 1) (by decide) g2
      refine ⟨fun d => ⟨(fq_0 y h).1, Or.inl ⟨g1, g2, (fq_0 y h).2, zri ?_⟩⟩, fun d => ⟨(fq_0 y h).1, Or.inl ⟨g1, g2, (fq_0 y h).2, zri ?_⟩⟩⟩
      · have hq1 : ¬ q = 0 := fun z => d (by rw [z]; rfl)
        rw [ep, eq, flv, if_neg hq1]
      · have hq1 : q = 0 := (nI_eq (b := 0) (by omega) (by omega)).mp d
        rw [ep, eq, flv, if_pos hq1]
    · rw [t2] at c
      have hn2 : n < nH S := Nat.not_le.mp (fun z => c ((ht_gt hv hn).mpr z))
      refine ⟨(S, y, p, dT S 1 + nI n), by rw [ei]; rfl, ⟨hS0, hp⟩, (S, y, p), by rw [ei]; rfl, ⟨hS0, hp⟩, fun d => ?_, fun d => ?_⟩
      · replace d : ¬ pba S p (dT S 1 + nI n) = pb S p := d
        have hf : flp S p n = true := decide_eq_true d
        have ef := fle_new hv hn2 hf
        refine ⟨fun c2 => ⟨nH S - (n + 1), by omega, n + 1, p, _, _, _, rfl, by omega, rfl, ?_, ?_, ?_, rfl, rfl, ei, hp, g2⟩, fun c2 => ⟨nH S - (n + 1), by omega, n + 1, p, _, _, _, rfl, by omega, rfl, ?_, ?_, ?_, rfl, rfl, ei, hp, g2⟩⟩
        · rw [fb_ct_succ, hf, nI_1]; rfl
        · rw [ef, if_neg (fun z => c2 (by rw [z]; rfl))]
        · rw [Int32.add_assoc, nI_1]
        · rw [fb_ct_succ, hf, nI_1]; rfl
        · rw [ef, if_pos ((nI_eq (b := 0) (by omega) (by omega)).mp c2)]
        · rw [Int32.add_assoc, nI_1]
      · replace d : pba S p (dT S 1 + nI n) = pb S p := d
        have hf : flp S p n = false := decide_eq_false (fun z => z d)
        refine ⟨nH S - (n + 1), by omega, n + 1, p, _, _, _, rfl, by omega, rfl, ?_, ?_, ?_, rfl, rfl, ei, hp, g2⟩
        · rw [fb_ct_succ, hf]; rfl
        · rw [fle, hf]; rfl
        · rw [Int32.add_assoc, nI_1]
  have B_45 := zSd_any L_45
  have B_30 := zr_iconst (X := X) (Y := Y) (u := 0) (v := 0) (x := 0) O dX11_flips_30 rfl (zr_istore_n O dX11_flips_31 rfl (zr_sipush (x := (999)) O dX11_flips_32 (by decide) (zr_istore O dX11_flips_35 (zr_aload_n O dX11_flips_37 rfl (zr_gS (ci := 10) (j := 2) (off := 2) (t := 1) (n := 218) O zc_10 (by decide) rfl tw_1189 dX11_flips_38 (zr_iconst (x := 1) O dX11_flips_41 rfl (zr_iald O dX11_flips_42 (zr_istore O dX11_flips_43 (B_45)))))))))
  have B_28 := zr_iconst (X := X) (Y := Y) (u := 0) (v := 0) (x := 0) O dX11_flips_28 rfl (zr_ireturn O E (Nat.le_refl _) (Nat.le_refl _) dX11_flips_29)
  have B_0 := zr_aload_n (X := X) (Y := Y) (u := 0) (v := 0) O dX11_flips_0 rfl (zr_iconst (x := 0) O dX11_flips_1 rfl (zr_pI (ci := 10) (j := 0) O zc_10 (by decide) rfl rfl rfl tw_1187 dX11_flips_2 (zr_aload_n O dX11_flips_5 rfl (zr_iload_n O dX11_flips_6 rfl (zr_cH (zr_cV (ci := 10) (n := 1) O m_X11_isPair (bn_X11_isPair _ ⟨rfl, rfl⟩) vw_X11_isPair tw_1459 rc_X11_isPair (zrm hR rfl rfl) dX11_flips_7 (zr_ifeq (tgt := 28) O dX11_flips_10 rfl B_28 (zr_aload_n O dX11_flips_13 rfl (zr_iload_n O dX11_flips_14 rfl (zr_iconst (x := 0) O dX11_flips_15 rfl (zr_iconst (x := 1) O dX11_flips_16 rfl (zr_cI (zr_cS (n := 3) O m_X11_within (bn_X11_within _ ⟨rfl, rfl⟩) tw_1306 tw_1305 (zrm hR rfl rfl) dX11_flips_17 (zr_iconst (x := 2) O dX11_flips_20 rfl (zr_iconst (x := 1) O dX11_flips_21 rfl (zr_cH (zr_cV (ci := 10) (n := 3) O m_X11_isFine (bn_X11_isFine _ ⟨rfl, rfl⟩) vw_X11_isFine tw_1308 rc_X11_isFine (zrm hR rfl rfl) dX11_flips_22 (zr_ifne (tgt := 30) O dX11_flips_25 rfl B_30 (B_28)))))))))))))))))))
  refine ⟨rfl, Nat.le_of_ble_eq_true rfl, _, B_0, ?_⟩
  refine ⟨(S, y, i), rfl, ⟨hS0, t0 h y⟩, fun d => ?_, fun d => ?_⟩
  · obtain ⟨g, e⟩ := pair_no d
    rw [e]
    exact ⟨(fq_rf 1 (fq_0 y h)).1, Or.inr (Or.inl ⟨g, (fq_rf 1 (fq_0 y h)).2, rfl⟩)⟩
  · obtain ⟨g, e⟩ := pair_ok d
    rw [e]
    refine ⟨(w, 0, 1), rfl, trivial, (y, decide (0 ≤ w ∧ w ≤ 1), 2, 1), rfl, ⟨by decide, by decide⟩, fun d => ?_, fun d => ?_⟩
    · obtain ⟨g2, e⟩ := fine_ok (t0 h y) d
      rw [e]
      obtain ⟨p, rfl, hp, ep⟩ := cntx (by omega) g
      refine ⟨1, rfl, by decide, nH S - 0, 0, p, _, _, _, rfl, Nat.zero_le _, rfl, rfl, rfl, ?_, rfl, rfl, rfl, hp, g2⟩
      rw [t1, nI_0, Int32.add_zero]
    · obtain ⟨g2, e⟩ := fine_no (t0 h y) d
      rw [e]
      exact ⟨(fq_rf 2 (fq_0 y h)).1, Or.inr (Or.inr ⟨g, g2, (fq_rf 2 (fq_0 y h)).2, rfl⟩)⟩
theorem kept_no {K : zE} {y : Nat} {h : zH} (d : cf_X11_isKept (K, y) h = 0) : eN K = 0 ∧ cg_X11_isKept (K, y) h = rfz h y 1 2 := by
  have g := gno (p := 0 < eN K) d
  refine ⟨by omega, ?_⟩
  show (if 0 < eN K then h else rfz h y 1 2) = _
  rw [if_neg g]
theorem kept_ok {K : zE} {y : Nat} {h : zH} (d : ¬ cf_X11_isKept (K, y) h = 0) : 0 < eN K ∧ cg_X11_isKept (K, y) h = h := by
  have g := gok (p := 0 < eN K) d
  refine ⟨g, ?_⟩
  show (if 0 < eN K then h else rfz h y 1 2) = _
  rw [if_pos g]
theorem m_0 (h : zH) (y : Nat) {q : Nat} (hq : q ≠ y) : (zsI h y 0 0).1 q = h.1 q := zsI_ro _ _ _ hq
def ca_X11_range : (zQ × Nat × Int32) → List zV := fun (Q, y, w) => [vR 20 0 y, vI w]
def cp_X11_range : (zQ × Nat × Int32) → zH → Prop := fun (Q, y, w) h => rmS Q.1 h y ∧ rmE Q.2.1 (h.1 (y + 2)) ∧ ∀ i, i < eN Q.2.1 → eP Q.2.1 i < dP Q.1
def cq_X11_range : (zQ × Nat × Int32) → zH → Option zV → zH → Prop := fun (Q, y, w) h r h' => fq y h h' ∧ ((0 < eN Q.2.1 ∧ gR w 0 1 ∧ rok y h h' ∧ r = some (vI (rgc Q.1 Q.2.1 (cN w)))) ∨ (eN Q.2.1 = 0 ∧ rno y 1 2 h h' ∧ r = some (vI 0)) ∨ (0 < eN Q.2.1 ∧ ¬ gR w 0 1 ∧ rno y 2 1 h h' ∧ r = some (vI 0)))
theorem rc_X11_range : ∀ x : (zQ × Nat × Int32), ∃ (j a : Nat) (As : List zV), ca_X11_range x = vR (10 + 10) j a :: As := by
  rintro ⟨⟨S, K, M⟩, y, w⟩
  exact ⟨_, _, _, rfl⟩
set_option maxHeartbeats 4000000 in
set_option maxRecDepth 100000 in
theorem m_X11_range : zM yX11_range cX11_range 4 (some .int) ({ frames := 4, cells := 0, slots := 0, locals := 96 } : Room) ((ca_X11_range, cp_X11_range, cq_X11_range) : zC (zQ × Nat × Int32)) := by
  refine zM_of (by decide) ?_
  rintro X Y ⟨⟨S, K, M⟩, y, w⟩ h ⟨hS, hE, hP⟩ O E hR
  have hS : rmS S h y := hS
  have hE : rmE K (h.1 (y + 2)) := hE
  have hP : ∀ i, i < eN K → eP K i < dP S := hP
  have hS0 := rmS_0 hS
  have hE0 : rmE K ((zsI h y 0 0).1 (y + 2)) := by rw [m_0 _ _ (by omega)]; exact hE
  have key : ∀ te : Int32, 0 < eN K → (fuI K (mk (shk S K te) (eN K)) = -1 ↔ sfA S K te = true) := by
    intro te h0
    have kb16 : eK K ≤ 16 := (vE_b hE.2.1 h0).2.2.2.2.1
    unfold sfA fuI
    by_cases z : fus K (mk (shk S K te) (eN K)) < eK K
    · rw [if_pos z]
      refine ⟨fun c => absurd c (nI_nm1 (by omega)), fun c => ?_⟩
      exact absurd z (of_decide_eq_true c)
    · rw [if_neg z]
      exact ⟨fun _ => decide_eq_true z, fun _ => rfl⟩
  have B_87 := zr_iload_n (X := X) (Y := Y) (u := 0) (v := 0) O dX11_range_87 rfl (zr_ireturn O E (Nat.le_refl _) (Nat.le_refl _) dX11_range_88)
  have L_56 : ∀ nn : Nat, zSd X Y 0 0 56 ((fun c ls st h1 => ∃ (n q : Nat) (z b : Int32), c = htn q - n ∧ n ≤ htn q ∧ ls = [some (vR 20 0 y), some (vI w), some (vI z), some (vI b)] ∧ z = hts q n ∧ b = (if q = 0 then -1 else 1) ∧ st = [] ∧ h1 = zsI h y 0 0 ∧ w = nI q ∧ q ≤ 1 ∧ 0 < eN K ∧ sfA S K 20 = true ∧ ∀ j, j < n → (!sfA S K (hts q (j + 1))) = false : Nat → zT) nn) := by
    refine zSd_loop (fun nn ih => ?_)
    have B_56 := zr_iload_n (X := X) (Y := Y) (u := 0) (v := 0) O dX11_range_56 rfl (zr_iload_n O dX11_range_57 rfl (zr_iadd O dX11_range_58 (zr_bipush (x := (-40)) O dX11_range_59 (by decide) (zr_bipush (x := (125)) O dX11_range_61 (by decide) (zr_cI (zr_cS (n := 3) O m_X11_within (bn_X11_within _ ⟨rfl, rfl⟩) tw_1306 tw_1305 (zrm hR rfl rfl) dX11_range_63 (zr_ifeq (tgt := 87) O dX11_range_66 rfl B_87 (zr_aload_n O dX11_range_69 rfl (zr_iload_n O dX11_range_70 rfl (zr_iload_n O dX11_range_71 rfl (zr_iadd O dX11_range_72 (zr_cI (zr_cV (ci := 10) (n := 1) O m_X11_firstUnsafe (bn_X11_firstUnsafe _ ⟨rfl, rfl⟩) vw_X11_firstUnsafe tw_1613 rc_X11_firstUnsafe (zrm hR rfl rfl) dX11_range_73 (zr_iconst (x := (-1)) O dX11_range_76 rfl (zr_icne (tgt := 87) O dX11_range_77 rfl B_87 (zr_iload_n O dX11_range_80 rfl (zr_iload_n O dX11_range_81 rfl (zr_iadd O dX11_range_82 (zr_istore_n O dX11_range_83 rfl (zr_goto (tgt := 56) O dX11_range_84 rfl ih))))))))))))))))))))
    refine zSd_weak B_56 (fun ls st h1 t => ?_)
    obtain ⟨n, q, z, b, rfl, hn, rfl, rfl, rfl, rfl, rfl, rfl, hq, h0, hs, hb⟩ := t
    have eq : cN (nI q) = q := nI_clamp (by omega)
    have g2 : gR (nI q) 0 1 := by
      have : q = 0 ∨ q = 1 := by omega
      rcases this with z | z <;> rw [z] <;> exact ⟨by decide, by decide⟩
    have estep : hts q n + (if q = 0 then (-1 : Int32) else 1) = hts q (n + 1) := by
      have : q = 0 ∨ q = 1 := by omega
      rcases this with z | z
      · subst z; exact (hts_s n (by have : htn 0 = 60 := rfl; omega)).1
      · subst z; exact (hts_s n (by have : htn 1 = 105 := rfl; omega)).2
    have ein : (-40 ≤ hts q (n + 1) ∧ hts q (n + 1) ≤ 125) ↔ n < htn q := by
      have : q = 0 ∨ q = 1 := by omega
      rcases this with z | z
      · subst z
        have e60 : htn 0 = 60 := rfl
        obtain ⟨d1, d2⟩ := hts_d n (by omega)
        rw [← Int32.not_lt, ← Int32.not_lt, d1]
        exact ⟨fun z => by have := z.1; omega, fun z => ⟨by omega, d2⟩⟩
      · subst z
        have e60 : htn 1 = 105 := rfl
        obtain ⟨d1, d2⟩ := hts_u n (by omega)
        rw [← Int32.not_lt, ← Int32.not_lt, d2]
        exact ⟨fun z => by have := z.2; omega, fun z => ⟨d1, by omega⟩⟩
    have fin : fa_first (fun n => !sfA S K (hts q (n + 1))) (htn q) = n → fq y h (zsI h y 0 0) ∧ ((0 < eN K ∧ gR (nI q) 0 1 ∧ rok y h (zsI h y 0 0) ∧ some (vI (hts q n)) = some (vI (rgc S K (cN (nI q))))) ∨ (eN K = 0 ∧ rno y 1 2 h (zsI h y 0 0) ∧ some (vI (hts q n)) = some (vI 0)) ∨ (0 < eN K ∧ ¬ gR (nI q) 0 1 ∧ rno y 2 1 h (zsI h y 0 0) ∧ some (vI (hts q n)) = some (vI 0))) := fun e => ⟨(fq_0 y h).1, Or.inl ⟨h0, g2, (fq_0 y h).2, by rw [eq, rgc, hs, e]; rfl⟩⟩
    refine ⟨(hts q n + (if q = 0 then (-1 : Int32) else 1), -40, 125), rfl, trivial, fun d => fin ?_, fun d => ⟨(S, K, y, hts q (n + 1)), by rw [estep]; rfl, ⟨hS0, hE0, h0, hP⟩, fun e => fin ?_, fun e => ?_⟩⟩
    · have g := gno (p := -40 ≤ hts q n + (if q = 0 then (-1 : Int32) else 1) ∧ hts q n + (if q = 0 then (-1 : Int32) else 1) ≤ 125) d
      rw [estep, ein] at g
      have hn2 : n = htn q := by omega
      have := fa_first_le (fun n => !sfA S K (hts q (n + 1))) (htn q)
      have := first_none (n := htn q) (f := fun n => !sfA S K (hts q (n + 1))) (fun j hj => hb j (by omega))
      omega
    · have g := gok (p := -40 ≤ hts q n + (if q = 0 then (-1 : Int32) else 1) ∧ hts q n + (if q = 0 then (-1 : Int32) else 1) ≤ 125) d
      rw [estep, ein] at g
      replace e : ¬ fuI K (mk (shk S K (hts q (n + 1))) (eN K)) = -1 := e
      rw [key _ h0] at e
      refine first_at g ?_ hb
      show (!sfA S K (hts q (n + 1))) = true
      cases hz : sfA S K (hts q (n + 1)) with
      | true => exact absurd hz e
      | false => rfl
    · have g := gok (p := -40 ≤ hts q n + (if q = 0 then (-1 : Int32) else 1) ∧ hts q n + (if q = 0 then (-1 : Int32) else 1) ≤ 125) d
      rw [estep, ein] at g
      replace e : fuI K (mk (shk S K (hts q (n + 1))) (eN K)) = -1 := e
      rw [key _ h0] at e
      refine ⟨htn q - (n + 1), by omega, n + 1, q, _, _, rfl, by omega, rfl, estep, rfl, rfl, rfl, rfl, hq, h0, hs, fun j hj => ?_⟩
      by_cases ej : j = n
      · rw [ej, e]; rfl
      · exact hb j (by omega)
  have B_56 := zSd_any L_56
  have B_55 := zr_istore_n (X := X) (Y := Y) (u := 0) (v := 0) O dX11_range_55 rfl (B_56)
  have B_54 := zr_iconst (X := X) (Y := Y) (u := 0) (v := 0) (x := 1) O dX11_range_54 rfl (B_55)
  have B_43 := zr_bipush (X := X) (Y := Y) (u := 0) (v := 0) (x := (20)) O dX11_range_43 (by decide) (zr_istore_n O dX11_range_45 rfl (zr_iload_n O dX11_range_46 rfl (zr_ifne (tgt := 54) O dX11_range_47 rfl B_54 (zr_iconst (x := (-1)) O dX11_range_50 rfl (zr_goto (tgt := 55) O dX11_range_51 rfl B_55)))))
  have B_29 := zr_aload_n (X := X) (Y := Y) (u := 0) (v := 0) O dX11_range_29 rfl (zr_bipush (x := (20)) O dX11_range_30 (by decide) (zr_cI (zr_cV (ci := 10) (n := 1) O m_X11_firstUnsafe (bn_X11_firstUnsafe _ ⟨rfl, rfl⟩) vw_X11_firstUnsafe tw_1613 rc_X11_firstUnsafe (zrm hR rfl rfl) dX11_range_32 (zr_iconst (x := (-1)) O dX11_range_35 rfl (zr_iceq (tgt := 43) O dX11_range_36 rfl B_43 (zr_sipush (x := (999)) O dX11_range_39 (by decide) (zr_ireturn O E (Nat.le_refl _) (Nat.le_refl _) dX11_range_42)))))))
  have B_27 := zr_iconst (X := X) (Y := Y) (u := 0) (v := 0) (x := 0) O dX11_range_27 rfl (zr_ireturn O E (Nat.le_refl _) (Nat.le_refl _) dX11_range_28)
  have B_0 := zr_aload_n (X := X) (Y := Y) (u := 0) (v := 0) O dX11_range_0 rfl (zr_iconst (x := 0) O dX11_range_1 rfl (zr_pI (ci := 10) (j := 0) O zc_10 (by decide) rfl rfl rfl tw_1187 dX11_range_2 (zr_aload_n O dX11_range_5 rfl (zr_cH (zr_cV (ci := 10) (n := 0) O m_X11_isKept (bn_X11_isKept _ ⟨rfl, rfl⟩) vw_X11_isKept tw_1483 rc_X11_isKept (zrm hR rfl rfl) dX11_range_6 (zr_ifeq (tgt := 27) O dX11_range_9 rfl B_27 (zr_aload_n O dX11_range_12 rfl (zr_iload_n O dX11_range_13 rfl (zr_iconst (x := 0) O dX11_range_14 rfl (zr_iconst (x := 1) O dX11_range_15 rfl (zr_cI (zr_cS (n := 3) O m_X11_within (bn_X11_within _ ⟨rfl, rfl⟩) tw_1306 tw_1305 (zrm hR rfl rfl) dX11_range_16 (zr_iconst (x := 2) O dX11_range_19 rfl (zr_iconst (x := 1) O dX11_range_20 rfl (zr_cH (zr_cV (ci := 10) (n := 3) O m_X11_isFine (bn_X11_isFine _ ⟨rfl, rfl⟩) vw_X11_isFine tw_1308 rc_X11_isFine (zrm hR rfl rfl) dX11_range_21 (zr_ifne (tgt := 29) O dX11_range_24 rfl B_29 (B_27))))))))))))))))))
  refine ⟨rfl, Nat.le_of_ble_eq_true rfl, _, B_0, ?_⟩
  refine ⟨(K, y), rfl, ⟨hE0, t0 h y⟩, fun d => ?_, fun d => ?_⟩
  · obtain ⟨g, e⟩ := kept_no d
    rw [e]
    exact ⟨(fq_rf 1 (fq_0 y h)).1, Or.inr (Or.inl ⟨g, (fq_rf 1 (fq_0 y h)).2, rfl⟩)⟩
  · obtain ⟨h0, e⟩ := kept_ok d
    rw [e]
    refine ⟨(w, 0, 1), rfl, trivial, (y, decide (0 ≤ w ∧ w ≤ 1), 2, 1), rfl, ⟨by decide, by decide⟩, fun d => ?_, fun d => ?_⟩
    · obtain ⟨g2, e⟩ := fine_ok (t0 h y) d
      rw [e]
      obtain ⟨q, rfl, hq, eq⟩ := rngx (n := 1) (by decide) g2
      refine ⟨(S, K, y, 20), rfl, ⟨hS0, hE0, h0, hP⟩, fun e => ?_, fun e => ?_⟩
      · replace e : fuI K (mk (shk S K 20) (eN K)) = -1 := e
        rw [key _ h0] at e
        have h20 : (20 : Int32) = hts q 0 := by
          have : q = 0 ∨ q = 1 := by omega
          rcases this with z | z <;> rw [z] <;> rfl
        refine ⟨fun c => ⟨htn q - 0, 0, q, _, _, rfl, Nat.zero_le _, rfl, h20, ?_, rfl, rfl, rfl, hq, h0, e, fun j hj => absurd hj (Nat.not_lt_zero _)⟩, fun c => ⟨htn q - 0, 0, q, _, _, rfl, Nat.zero_le _, rfl, h20, ?_, rfl, rfl, rfl, hq, h0, e, fun j hj => absurd hj (Nat.not_lt_zero _)⟩⟩
        · rw [if_neg (fun z => c (by rw [z]; rfl))]
        · rw [if_pos ((nI_eq (b := 0) (by omega) (by omega)).mp c)]
      · replace e : ¬ fuI K (mk (shk S K 20) (eN K)) = -1 := e
        rw [key _ h0] at e
        refine ⟨(fq_0 y h).1, Or.inl ⟨h0, g2, (fq_0 y h).2, zri ?_⟩⟩
        show (999 : Int32) = rgc S K (cN (nI q))
        rw [rgc, if_neg e]
    · obtain ⟨g2, e⟩ := fine_no (t0 h y) d
      rw [e]
      exact ⟨(fq_rf 2 (fq_0 y h)).1, Or.inr (Or.inr ⟨h0, g2, (fq_rf 2 (fq_0 y h)).2, rfl⟩)⟩
def ca_X11_safe : (zQ × Nat × Int32 × Int32) → List zV := fun (Q, y, te, w) => [vR 20 0 y, vI te, vI w]
def cp_X11_safe : (zQ × Nat × Int32 × Int32) → zH → Prop := fun (Q, y, te, w) h => rmS Q.1 h y ∧ rmE Q.2.1 (h.1 (y + 2)) ∧ ∀ i, i < eN Q.2.1 → eP Q.2.1 i < dP Q.1
def cq_X11_safe : (zQ × Nat × Int32 × Int32) → zH → Option zV → zH → Prop := fun (Q, y, te, w) h r h' => fq y h h' ∧ ((0 < eN Q.2.1 ∧ (gR te (-40) 125 ∧ gR w 0 2) ∧ rok y h h' ∧ r = some (vI (sfv Q.1 Q.2.1 te (cN w)))) ∨ (eN Q.2.1 = 0 ∧ rno y 1 2 h h' ∧ r = some (vI 0)) ∨ (0 < eN Q.2.1 ∧ ¬ (gR te (-40) 125 ∧ gR w 0 2) ∧ rno y 2 1 h h' ∧ r = some (vI 0)))
theorem rc_X11_safe : ∀ x : (zQ × Nat × Int32 × Int32), ∃ (j a : Nat) (As : List zV), ca_X11_safe x = vR (10 + 10) j a :: As := by
  rintro ⟨⟨S, K, M⟩, y, te, w⟩
  exact ⟨_, _, _, rfl⟩
set_option maxHeartbeats 4000000 in
set_option maxRecDepth 100000 in
theorem m_X11_safe : zM yX11_safe cX11_safe 5 (some .int) ({ frames := 4, cells := 0, slots := 0, locals := 96 } : Room) ((ca_X11_safe, cp_X11_safe, cq_X11_safe) : zC (zQ × Nat × Int32 × Int32)) := by
  refine zM_of (by decide) ?_
  rintro X Y ⟨⟨S, K, M⟩, y, te, w⟩ h ⟨hS, hE, hP⟩ O E hR
  have hS : rmS S h y := hS
  have hE : rmE K (h.1 (y + 2)) := hE
  have hP : ∀ i, i < eN K → eP K i < dP S := hP
  have hS0 := rmS_0 hS
  have hE0 : rmE K ((zsI h y 0 0).1 (y + 2)) := by rw [m_0 _ _ (by omega)]; exact hE
  have h28 := hE.2.1.1
  have B_143 := zr_iload_n (X := X) (Y := Y) (u := 0) (v := 0) O dX11_safe_143 rfl (zr_ireturn O E (Nat.le_refl _) (Nat.le_refl _) dX11_safe_144)
  have C_143 : zSd X Y 0 0 143 (fun ls st h1 => ∃ (v : Int32) (y4 : Option zV), 0 < eN K ∧ (gR te (-40) 125 ∧ gR w 0 2) ∧ ls = [some (vR 20 0 y), some (vI te), some (vI w), some (vI v), y4] ∧ v = sfv S K te (cN w) ∧ st = [] ∧ h1 = zsI h y 0 0) := by
    refine zSd_weak B_143 (fun ls st h1 t => ?_)
    obtain ⟨v, y4, h0, g2, rfl, rfl, rfl, rfl⟩ := t
    exact ⟨(fq_0 y h).1, Or.inl ⟨h0, g2, (fq_0 y h).2, rfl⟩⟩
  have L_110 : ∀ nn : Nat, zSd X Y 0 0 110 ((fun c ls st h1 => ∃ (k : Nat) (u z : Int32), c = eK K - k ∧ k ≤ eK K ∧ 0 < eN K ∧ (gR te (-40) 125 ∧ gR w 0 2) ∧ ls = [some (vR 20 0 y), some (vI te), some (vI w), some (vI u), some (vI z)] ∧ u = nI (fb_ct (sfb K (mk (shk S K te) (eN K))) k) ∧ z = nI k ∧ st = [] ∧ h1 = zsI h y 0 0 ∧ cN w = 1 : Nat → zT) nn) := by
    refine zSd_loop (fun nn ih => ?_)
    have B_135 := zr_iadd (X := X) (Y := Y) (u := 0) (v := 0) O dX11_safe_135 (zr_istore_n O dX11_safe_136 rfl (zr_iinc (c := 1) O dX11_safe_137 rfl (zr_goto (tgt := 110) O dX11_safe_140 rfl ih)))
    have B_134 := zr_iconst (X := X) (Y := Y) (u := 0) (v := 0) (x := 0) O dX11_safe_134 rfl (B_135)
    have B_110 := zr_iload (X := X) (Y := Y) (u := 0) (v := 0) O dX11_safe_110 (zr_aload_n O dX11_safe_112 rfl (zr_cI (zr_cV (ci := 10) (n := 0) O m_X11_keptBlocks (bn_X11_keptBlocks _ ⟨rfl, rfl⟩) vw_X11_keptBlocks tw_1617 rc_X11_keptBlocks (zrm hR rfl rfl) dX11_safe_113 (zr_icge (tgt := 143) O dX11_safe_116 rfl C_143 (zr_iload_n O dX11_safe_119 rfl (zr_aload_n O dX11_safe_120 rfl (zr_iload O dX11_safe_121 (zr_iload_n O dX11_safe_123 rfl (zr_cI (zr_cV (ci := 10) (n := 2) O m_X11_isSafe (bn_X11_isSafe _ ⟨rfl, rfl⟩) vw_X11_isSafe tw_1621 rc_X11_isSafe (zrm hR rfl rfl) dX11_safe_124 (zr_ifeq (tgt := 134) O dX11_safe_127 rfl B_134 (zr_iconst (x := 1) O dX11_safe_130 rfl (zr_goto (tgt := 135) O dX11_safe_131 rfl B_135)))))))))))))
    refine zSd_weak B_110 (fun ls st h1 t => ?_)
    obtain ⟨k, u, z, rfl, hk, h0, g2, rfl, rfl, rfl, rfl, rfl, ew⟩ := t
    have kb16 : eK K ≤ 16 := (vE_b hE.2.1 h0).2.2.2.2.1
    refine ⟨(K, y), rfl, ⟨hE0, h0⟩, fun c => ?_, fun c => ?_⟩
    · replace c : nI (eK K) ≤ nI k := c
      have := (nI_leI (by omega) (by omega)).mp c
      have hk2 : k = eK K := by omega
      subst hk2
      refine ⟨_, _, h0, g2, rfl, ?_, rfl, rfl⟩
      rw [ew]; rfl
    · replace c : ¬ nI (eK K) ≤ nI k := c
      have hk2 : k < eK K := Nat.not_le.mp (fun z => c ((nI_leI (by omega) (by omega)).mpr z))
      refine ⟨(S, K, y, k, te), rfl, ⟨hS0, hE0, h0, hk2, hP⟩, fun d => ?_, fun d => ?_⟩
      · have hf : sfb K (mk (shk S K te) (eN K)) k = false := (bI_0 _).mp d
        refine ⟨eK K - (k + 1), by omega, k + 1, _, _, rfl, by omega, h0, g2, rfl, ?_, nI_1 k, rfl, rfl, ew⟩
        rw [fb_ct_succ, hf]; exact Int32.add_zero _
      · have hf : sfb K (mk (shk S K te) (eN K)) k = true := by
          cases hz : sfb K (mk (shk S K te) (eN K)) k with
          | true => rfl
          | false => exact absurd ((bI_0 _).mpr hz) d
        refine ⟨eK K - (k + 1), by omega, k + 1, _, _, rfl, by omega, h0, g2, rfl, ?_, nI_1 k, rfl, rfl, ew⟩
        rw [fb_ct_succ, hf]; exact nI_1 _
  have B_110 := zSd_any L_110
  have B_107 := zr_iconst (X := X) (Y := Y) (u := 0) (v := 0) (x := 0) O dX11_safe_107 rfl (zr_istore O dX11_safe_108 (B_110))
  have B_104 := zr_goto (X := X) (Y := Y) (u := 0) (v := 0) (tgt := 143) O dX11_safe_104 rfl C_143
  have L_68 : ∀ nn : Nat, zSd X Y 0 0 68 ((fun c ls st h1 => ∃ (k : Nat) (u z : Int32), c = eN K - k ∧ k ≤ eN K ∧ 0 < eN K ∧ (gR te (-40) 125 ∧ gR w 0 2) ∧ ls = [some (vR 20 0 y), some (vI te), some (vI w), some (vI u), some (vI z)] ∧ u = nI (fb_ct (shk S K te) k) ∧ z = nI k ∧ st = [] ∧ h1 = zsI h y 0 0 ∧ cN w = 0 : Nat → zT) nn) := by
    refine zSd_loop (fun nn ih => ?_)
    have B_96 := zr_iadd (X := X) (Y := Y) (u := 0) (v := 0) O dX11_safe_96 (zr_istore_n O dX11_safe_97 rfl (zr_iinc (c := 1) O dX11_safe_98 rfl (zr_goto (tgt := 68) O dX11_safe_101 rfl ih)))
    have B_95 := zr_iconst (X := X) (Y := Y) (u := 0) (v := 0) (x := 0) O dX11_safe_95 rfl (B_96)
    have B_68 := zr_iload (X := X) (Y := Y) (u := 0) (v := 0) O dX11_safe_68 (zr_aload_n O dX11_safe_70 rfl (zr_gS (ci := 10) (j := 2) (off := 2) (t := 1) (n := 218) O zc_10 (by decide) rfl tw_1189 dX11_safe_71 (zr_bipush (x := (45)) O dX11_safe_74 (by decide) (zr_iald O dX11_safe_76 (zr_icge (tgt := 104) O dX11_safe_77 rfl B_104 (zr_iload_n O dX11_safe_80 rfl (zr_aload_n O dX11_safe_81 rfl (zr_iload O dX11_safe_82 (zr_iload_n O dX11_safe_84 rfl (zr_cI (zr_cV (ci := 10) (n := 2) O m_X11_isShaky (bn_X11_isShaky _ ⟨rfl, rfl⟩) vw_X11_isShaky tw_1625 rc_X11_isShaky (zrm hR rfl rfl) dX11_safe_85 (zr_ifeq (tgt := 95) O dX11_safe_88 rfl B_95 (zr_iconst (x := 1) O dX11_safe_91 rfl (zr_goto (tgt := 96) O dX11_safe_92 rfl B_96))))))))))))))
    refine zSd_weak B_68 (fun ls st h1 t => ?_)
    obtain ⟨k, u, z, rfl, hk, h0, g2, rfl, rfl, rfl, rfl, rfl, ew⟩ := t
    refine ⟨45, rfl, by decide, fun c => ?_, fun c => ?_⟩
    · rw [hE0.1] at c
      have := (nI_leI (by omega) (by omega)).mp c
      have hk2 : k = eN K := by omega
      subst hk2
      refine ⟨_, _, h0, g2, rfl, ?_, rfl, rfl⟩
      rw [ew]; rfl
    · rw [hE0.1] at c
      have hk2 : k < eN K := Nat.not_le.mp (fun z => c ((nI_leI (by omega) (by omega)).mpr z))
      refine ⟨(S, K, y, k, te), rfl, ⟨hS0, hE0, hk2, hP k hk2⟩, fun d => ?_, fun d => ?_⟩
      · have hf : shk S K te k = false := (bI_0 _).mp d
        refine ⟨eN K - (k + 1), by omega, k + 1, _, _, rfl, by omega, h0, g2, rfl, ?_, nI_1 k, rfl, rfl, ew⟩
        rw [fb_ct_succ, hf]; exact Int32.add_zero _
      · have hf : shk S K te k = true := by
          cases hz : shk S K te k with
          | true => rfl
          | false => exact absurd ((bI_0 _).mpr hz) d
        refine ⟨eN K - (k + 1), by omega, k + 1, _, _, rfl, by omega, h0, g2, rfl, ?_, nI_1 k, rfl, rfl, ew⟩
        rw [fb_ct_succ, hf]; exact nI_1 _
  have B_68 := zSd_any L_68
  have B_59 := zr_iconst (X := X) (Y := Y) (u := 0) (v := 0) (x := 0) O dX11_safe_59 rfl (zr_istore_n O dX11_safe_60 rfl (zr_iload_n O dX11_safe_61 rfl (zr_ifne (tgt := 107) O dX11_safe_62 rfl B_107 (zr_iconst (x := 0) O dX11_safe_65 rfl (zr_istore O dX11_safe_66 (B_68))))))
  have B_48 := zr_iload_n (X := X) (Y := Y) (u := 0) (v := 0) O dX11_safe_48 rfl (zr_iconst (x := 2) O dX11_safe_49 rfl (zr_icne (tgt := 59) O dX11_safe_50 rfl B_59 (zr_aload_n O dX11_safe_53 rfl (zr_iload_n O dX11_safe_54 rfl (zr_cI (zr_cV (ci := 10) (n := 1) O m_X11_firstUnsafe (bn_X11_firstUnsafe _ ⟨rfl, rfl⟩) vw_X11_firstUnsafe tw_1613 rc_X11_firstUnsafe (zrm hR rfl rfl) dX11_safe_55 (zr_ireturn O E (Nat.le_refl _) (Nat.le_refl _) dX11_safe_58)))))))
  have B_46 := zr_iconst (X := X) (Y := Y) (u := 0) (v := 0) (x := 0) O dX11_safe_46 rfl (zr_ireturn O E (Nat.le_refl _) (Nat.le_refl _) dX11_safe_47)
  have B_38 := zr_iconst (X := X) (Y := Y) (u := 0) (v := 0) (x := 2) O dX11_safe_38 rfl (zr_iconst (x := 1) O dX11_safe_39 rfl (zr_cH (zr_cV (ci := 10) (n := 3) O m_X11_isFine (bn_X11_isFine _ ⟨rfl, rfl⟩) vw_X11_isFine tw_1308 rc_X11_isFine (zrm hR rfl rfl) dX11_safe_40 (zr_ifne (tgt := 48) O dX11_safe_43 rfl B_48 (B_46)))))
  have C_38 : zSd X Y 0 0 38 (fun ls st h1 => ∃ v : Int32, 0 < eN K ∧ ls = [some (vR 20 0 y), some (vI te), some (vI w), none, none] ∧ v = bI (decide ((-40 ≤ te ∧ te ≤ 125) ∧ 0 ≤ w ∧ w ≤ 2)) ∧ st = [vI v, vR 20 0 y] ∧ h1 = zsI h y 0 0) := by
    refine zSd_weak B_38 (fun ls st h1 t => ?_)
    obtain ⟨v, h0, rfl, rfl, rfl, rfl⟩ := t
    refine ⟨(y, decide ((-40 ≤ te ∧ te ≤ 125) ∧ 0 ≤ w ∧ w ≤ 2), 2, 1), rfl, ⟨by decide, by decide⟩, fun d => ?_, fun d => ?_⟩
    · obtain ⟨g2, e⟩ := fine_ok (t0 h y) d
      rw [e]
      have g2 : gR te (-40) 125 ∧ gR w 0 2 := g2
      obtain ⟨q, rfl, hq, eq⟩ := rngx (n := 2) (by decide) g2.2
      refine ⟨fun c => ⟨fun c2 => ?_, fun c2 => ?_⟩, fun c => ?_⟩
      · have q2 : ¬ q = 2 := fun z => c (by rw [z]; rfl)
        have q0 : ¬ q = 0 := fun z => c2 (by rw [z]; rfl)
        exact ⟨eK K - 0, 0, _, _, rfl, Nat.zero_le _, h0, g2, rfl, rfl, rfl, rfl, rfl, by rw [eq]; omega⟩
      · have q0 : q = 0 := (nI_eq (b := 0) (by omega) (by omega)).mp c2
        exact ⟨eN K - 0, 0, _, _, rfl, Nat.zero_le _, h0, g2, rfl, rfl, rfl, rfl, rfl, by rw [eq]; omega⟩
      · have q2 : q = 2 := (nI_eq (b := 2) (by omega) (by omega)).mp c
        refine ⟨(S, K, y, te), rfl, ⟨hS0, hE0, h0, hP⟩, (fq_0 y h).1, Or.inl ⟨h0, g2, (fq_0 y h).2, zri ?_⟩⟩
        rw [eq, q2]; rfl
    · obtain ⟨g2, e⟩ := fine_no (t0 h y) d
      rw [e]
      exact ⟨(fq_rf 2 (fq_0 y h)).1, Or.inr (Or.inr ⟨h0, g2, (fq_rf 2 (fq_0 y h)).2, rfl⟩)⟩
  have B_37 := zr_iconst (X := X) (Y := Y) (u := 0) (v := 0) (x := 0) O dX11_safe_37 rfl (C_38)
  have B_0 := zr_aload_n (X := X) (Y := Y) (u := 0) (v := 0) O dX11_safe_0 rfl (zr_iconst (x := 0) O dX11_safe_1 rfl (zr_pI (ci := 10) (j := 0) O zc_10 (by decide) rfl rfl rfl tw_1187 dX11_safe_2 (zr_aload_n O dX11_safe_5 rfl (zr_cH (zr_cV (ci := 10) (n := 0) O m_X11_isKept (bn_X11_isKept _ ⟨rfl, rfl⟩) vw_X11_isKept tw_1483 rc_X11_isKept (zrm hR rfl rfl) dX11_safe_6 (zr_ifeq (tgt := 46) O dX11_safe_9 rfl B_46 (zr_aload_n O dX11_safe_12 rfl (zr_iload_n O dX11_safe_13 rfl (zr_bipush (x := (-40)) O dX11_safe_14 (by decide) (zr_bipush (x := (125)) O dX11_safe_16 (by decide) (zr_cI (zr_cS (n := 3) O m_X11_within (bn_X11_within _ ⟨rfl, rfl⟩) tw_1306 tw_1305 (zrm hR rfl rfl) dX11_safe_18 (zr_ifeq (tgt := 37) O dX11_safe_21 rfl B_37 (zr_iload_n O dX11_safe_24 rfl (zr_iconst (x := 0) O dX11_safe_25 rfl (zr_iconst (x := 2) O dX11_safe_26 rfl (zr_cI (zr_cS (n := 3) O m_X11_within (bn_X11_within _ ⟨rfl, rfl⟩) tw_1306 tw_1305 (zrm hR rfl rfl) dX11_safe_27 (zr_ifeq (tgt := 37) O dX11_safe_30 rfl B_37 (zr_iconst (x := 1) O dX11_safe_33 rfl (zr_goto (tgt := 38) O dX11_safe_34 rfl C_38)))))))))))))))))))))
  refine ⟨rfl, Nat.le_of_ble_eq_true rfl, _, B_0, ?_⟩
  refine ⟨(K, y), rfl, ⟨hE0, t0 h y⟩, fun d => ?_, fun d => ?_⟩
  · obtain ⟨g, e⟩ := kept_no d
    rw [e]
    exact ⟨(fq_rf 1 (fq_0 y h)).1, Or.inr (Or.inl ⟨g, (fq_rf 1 (fq_0 y h)).2, rfl⟩)⟩
  · obtain ⟨h0, e⟩ := kept_ok d
    rw [e]
    refine ⟨(te, -40, 125), rfl, trivial, fun d => ?_, fun d => ⟨(w, 0, 2), rfl, trivial, fun f => ?_, fun f => ?_⟩⟩
    · have g := gno (p := -40 ≤ te ∧ te ≤ 125) d
      exact ⟨_, h0, rfl, by rw [decide_eq_false (fun z => g z.1)]; rfl, rfl, rfl⟩
    · have g := gno (p := 0 ≤ w ∧ w ≤ 2) f
      exact ⟨_, h0, rfl, by rw [decide_eq_false (fun z => g z.2)]; rfl, rfl, rfl⟩
    · have g1 := gok (p := -40 ≤ te ∧ te ≤ 125) d
      have g := gok (p := 0 ≤ w ∧ w ≤ 2) f
      exact ⟨_, h0, rfl, by rw [decide_eq_true ⟨g1, g⟩]; rfl, rfl, rfl⟩
def ca_X11_recover : (zQ × Nat × Int32 × Int32 × Int32) → List zV := fun (Q, y, te, s, w) => [vR 20 0 y, vI te, vI s, vI w]
def cp_X11_recover : (zQ × Nat × Int32 × Int32 × Int32) → zH → Prop := fun (Q, y, te, s, w) h => rmS Q.1 h y ∧ rmE Q.2.1 (h.1 (y + 2)) ∧ vS Q.1 ∧ ∀ i, i < eN Q.2.1 → eP Q.2.1 i < dP Q.1
def cq_X11_recover : (zQ × Nat × Int32 × Int32 × Int32) → zH → Option zV → zH → Prop := fun (Q, y, te, s, w) h r h' => fq y h h' ∧ ((0 < eN Q.2.1 ∧ (gR te (-40) 125 ∧ gR s 0 65536 ∧ gR w 0 5) ∧ rok y h h' ∧ r = some (vI (rcv Q.1 Q.2.1 te s (cN w)))) ∨ (eN Q.2.1 = 0 ∧ rno y 1 2 h h' ∧ r = some (vI 0)) ∨ (0 < eN Q.2.1 ∧ ¬ (gR te (-40) 125 ∧ gR s 0 65536 ∧ gR w 0 5) ∧ rno y 2 1 h h' ∧ r = some (vI 0)))
theorem rc_X11_recover : ∀ x : (zQ × Nat × Int32 × Int32 × Int32), ∃ (j a : Nat) (As : List zV), ca_X11_recover x = vR (10 + 10) j a :: As := by
  rintro ⟨⟨S, K, M⟩, y, te, s, w⟩
  exact ⟨_, _, _, rfl⟩
set_option maxHeartbeats 4000000 in
set_option maxRecDepth 100000 in
theorem m_X11_recover : zM yX11_recover cX11_recover 4 (some .int) ({ frames := 3, cells := 0, slots := 0, locals := 75 } : Room) ((ca_X11_recover, cp_X11_recover, cq_X11_recover) : zC (zQ × Nat × Int32 × Int32 × Int32)) := by
  refine zM_of (by decide) ?_
  rintro X Y ⟨⟨S, K, M⟩, y, te, s, w⟩ h ⟨hS, hE, hv, hP⟩ O E hR
  have hS : rmS S h y := hS
  have hE : rmE K (h.1 (y + 2)) := hE
  have hv : vS S := hv
  have hP : ∀ i, i < eN K → eP K i < dP S := hP
  have hS0 := rmS_0 hS
  have hE0 : rmE K ((zsI h y 0 0).1 (y + 2)) := by rw [m_0 _ _ (by omega)]; exact hE
  have B_152 := zr_aload_n (X := X) (Y := Y) (u := 0) (v := 0) O dX11_recover_152 rfl (zr_gI (ci := 10) (j := 27) O zc_10 (by decide) rfl tw_1214 dX11_recover_153 (zr_ireturn O E (Nat.le_refl _) (Nat.le_refl _) dX11_recover_156))
  have B_151 := zr_ireturn (X := X) (Y := Y) (u := 0) (v := 0) O E (Nat.le_refl _) (Nat.le_refl _) dX11_recover_151
  have B_150 := zr_iconst (X := X) (Y := Y) (u := 0) (v := 0) (x := 0) O dX11_recover_150 rfl (B_151)
  have B_132 := zr_aload_n (X := X) (Y := Y) (u := 0) (v := 0) O dX11_recover_132 rfl (zr_gI (ci := 10) (j := 30) O zc_10 (by decide) rfl tw_1217 dX11_recover_133 (zr_aload_n O dX11_recover_136 rfl (zr_gS (ci := 10) (j := 2) (off := 2) (t := 1) (n := 218) O zc_10 (by decide) rfl tw_1189 dX11_recover_137 (zr_bipush (x := (47)) O dX11_recover_140 (by decide) (zr_iald O dX11_recover_142 (zr_icne (tgt := 150) O dX11_recover_143 rfl B_150 (zr_iconst (x := 1) O dX11_recover_146 rfl (zr_goto (tgt := 151) O dX11_recover_147 rfl B_151))))))))
  have B_131 := zr_ireturn (X := X) (Y := Y) (u := 0) (v := 0) O E (Nat.le_refl _) (Nat.le_refl _) dX11_recover_131
  have B_130 := zr_iconst (X := X) (Y := Y) (u := 0) (v := 0) (x := 0) O dX11_recover_130 rfl (B_131)
  have B_119 := zr_aload_n (X := X) (Y := Y) (u := 0) (v := 0) O dX11_recover_119 rfl (zr_cI (zr_cV (ci := 10) (n := 0) O m_X11_isRefused (bn_X11_isRefused _ ⟨rfl, rfl⟩) vw_X11_isRefused tw_1600 rc_X11_isRefused (zrm hR rfl rfl) dX11_recover_120 (zr_ifeq (tgt := 130) O dX11_recover_123 rfl B_130 (zr_iconst (x := 1) O dX11_recover_126 rfl (zr_goto (tgt := 131) O dX11_recover_127 rfl B_131)))))
  have B_114 := zr_aload_n (X := X) (Y := Y) (u := 0) (v := 0) O dX11_recover_114 rfl (zr_gI (ci := 10) (j := 29) O zc_10 (by decide) rfl tw_1216 dX11_recover_115 (zr_ireturn O E (Nat.le_refl _) (Nat.le_refl _) dX11_recover_118))
  have B_109 := zr_aload_n (X := X) (Y := Y) (u := 0) (v := 0) O dX11_recover_109 rfl (zr_gI (ci := 10) (j := 28) O zc_10 (by decide) rfl tw_1215 dX11_recover_110 (zr_ireturn O E (Nat.le_refl _) (Nat.le_refl _) dX11_recover_113))
  have B_104 := zr_aload_n (X := X) (Y := Y) (u := 0) (v := 0) O dX11_recover_104 rfl (zr_gI (ci := 10) (j := 30) O zc_10 (by decide) rfl tw_1217 dX11_recover_105 (zr_ireturn O E (Nat.le_refl _) (Nat.le_refl _) dX11_recover_108))
  have B_59 := zr_aload_n (X := X) (Y := Y) (u := 0) (v := 0) O dX11_recover_59 rfl (zr_iload_n O dX11_recover_60 rfl (zr_pI (ci := 10) (j := 27) O zc_10 (by decide) rfl rfl rfl tw_1214 dX11_recover_61 (zr_aload_n O dX11_recover_64 rfl (zr_iload_n O dX11_recover_65 rfl (zr_cV (ci := 10) (n := 1) O m_X11_readsAll (bn_X11_readsAll _ ⟨rfl, rfl⟩) vw_X11_readsAll tw_1587 rc_X11_readsAll (zrm hR rfl rfl) dX11_recover_66 (zr_iload_n O dX11_recover_69 rfl (zr_switch2 (tgt := 152) (ks := [_, _, _, _, _]) O dX11_recover_70 rfl rfl B_152 ⟨⟨_, 104, rfl, rfl, B_104⟩, ⟨_, 109, rfl, rfl, B_109⟩, ⟨_, 114, rfl, rfl, B_114⟩, ⟨_, 119, rfl, rfl, B_119⟩, ⟨_, 132, rfl, rfl, B_132⟩, trivial⟩)))))))
  have B_57 := zr_iconst (X := X) (Y := Y) (u := 0) (v := 0) (x := 0) O dX11_recover_57 rfl (zr_ireturn O E (Nat.le_refl _) (Nat.le_refl _) dX11_recover_58)
  have B_49 := zr_iconst (X := X) (Y := Y) (u := 0) (v := 0) (x := 2) O dX11_recover_49 rfl (zr_iconst (x := 1) O dX11_recover_50 rfl (zr_cH (zr_cV (ci := 10) (n := 3) O m_X11_isFine (bn_X11_isFine _ ⟨rfl, rfl⟩) vw_X11_isFine tw_1308 rc_X11_isFine (zrm hR rfl rfl) dX11_recover_51 (zr_ifne (tgt := 59) O dX11_recover_54 rfl B_59 (B_57)))))
  have C_49 : zSd X Y 0 0 49 (fun ls st h1 => ∃ v : Int32, 0 < eN K ∧ ls = [some (vR 20 0 y), some (vI te), some (vI s), some (vI w)] ∧ v = bI (decide ((-40 ≤ te ∧ te ≤ 125) ∧ (0 ≤ s ∧ s ≤ 65536) ∧ 0 ≤ w ∧ w ≤ 5)) ∧ st = [vI v, vR 20 0 y] ∧ h1 = zsI h y 0 0) := by
    refine zSd_weak B_49 (fun ls st h1 t => ?_)
    obtain ⟨v, h0, rfl, rfl, rfl, rfl⟩ := t
    refine ⟨(y, decide ((-40 ≤ te ∧ te ≤ 125) ∧ (0 ≤ s ∧ s ≤ 65536) ∧ 0 ≤ w ∧ w ≤ 5), 2, 1), rfl, ⟨by decide, by decide⟩, fun d => ?_, fun d => ?_⟩
    · obtain ⟨g2, e⟩ := fine_ok (t0 h y) d
      rw [e]
      have g2 : gR te (-40) 125 ∧ gR s 0 65536 ∧ gR w 0 5 := g2
      obtain ⟨q, rfl, hq5, eq⟩ := rngx (n := 5) (by decide) g2.2.2
      have ewt : (nI q).toInt = q := nI_toInt (by omega)
      obtain ⟨H1, e1⟩ : ∃ H1 : zH, H1 = zsI (zsI h y 0 0) y 27 s := ⟨_, rfl⟩
      have f1 : fm y (zsI h y 0 0) H1 := by rw [e1]; exact fm_I _ _ (by omega)
      have v0 : H1.1 y 27 = s := by rw [e1]; exact zsI_me _ _ _ _
      have m1 : H1.1 (y + 2) = (zsI h y 0 0).1 (y + 2) := f1.2.2.2 2 (by omega)
      refine ⟨(S, K, y, te), rfl, ⟨by rw [← e1]; exact rmS_fm f1 hS0, by rw [← e1, m1]; exact hE0, h0, hv, hP⟩, fun r h2 hq => ?_⟩
      rw [← e1] at hq
      obtain ⟨rfl, f2, r27, r28, r29, r30⟩ := hq
      replace f2 : fm y H1 h2 := f2
      rw [v0] at r27 r28 r29 r30
      have f3 := fq_fm (fq_0 y h) (fm_t f1 f2)
      have m2 : h2.1 (y + 2) = (zsI h y 0 0).1 (y + 2) := by rw [f2.2.2.2 2 (by omega), m1]
      have hE2 : rmE K (h2.1 (y + 2)) := by rw [m2]; exact hE0
      have lx := rdX_lt (S := S) (te := te) (s := s) hE.2.1 h0
      have ls := (vE_b hE.2.1 h0).2.2.2.1
      have fin : ∀ v : Int32, v = rcv S K te s q → fq y h h2 ∧ ((0 < eN K ∧ (gR te (-40) 125 ∧ gR s 0 65536 ∧ gR (nI q) 0 5) ∧ rok y h h2 ∧ some (vI v) = some (vI (rcv S K te s (cN (nI q))))) ∨ (eN K = 0 ∧ rno y 1 2 h h2 ∧ some (vI v) = some (vI 0)) ∨ (0 < eN K ∧ ¬ (gR te (-40) 125 ∧ gR s 0 65536 ∧ gR (nI q) 0 5) ∧ rno y 2 1 h h2 ∧ some (vI v) = some (vI 0))) := fun v e => ⟨f3.1, Or.inl ⟨h0, g2, f3.2, by rw [eq, e]⟩⟩
      refine zsw_of ⟨fun e => ?_, fun e => ?_, fun e => ?_, fun e => ?_, fun e => ?_, trivial⟩ (fun e => ?_)
      · have e : q = 0 := by omega
        refine fin _ ?_
        rw [rcv, if_pos e]; exact r30
      · have e : q = 1 := by omega
        refine fin _ ?_
        rw [rcv, if_neg (by omega), if_pos e]; exact r28
      · have e : q = 2 := by omega
        refine fin _ ?_
        rw [rcv, if_neg (by omega), if_neg (by omega), if_pos e]; exact r29
      · have e : q = 3 := by omega
        have ev : rcv S K te s q = bI (decide (ckW 0 (rdX S K te s) (eK K * btR (eR K)) ≠ eC K)) := by rw [rcv, if_neg (by omega), if_neg (by omega), if_neg (by omega), if_pos e]
        refine ⟨(K, y, rdX S K te s), rfl, ⟨hE2, h0, r30, lx⟩, fun c => fin _ ?_, fun c => fin _ ?_⟩
        · rw [ev, (bI_0 _).mp c]; rfl
        · rw [ev]
          cases hb : decide (ckW 0 (rdX S K te s) (eK K * btR (eR K)) ≠ eC K) with
          | true => rfl
          | false => exact absurd ((bI_0 _).mpr hb) c
      · have e : q = 4 := by omega
        have ev : rcv S K te s q = bI (decide (rdX S K te s = eS K)) := by rw [rcv, if_neg (by omega), if_neg (by omega), if_neg (by omega), if_neg (by omega), if_pos e]
        have es : h2.1 (y + 2) 47 = nI (eS K) := (hE2.2.2 h0).1.2.1
        refine ⟨47, rfl, by decide, fun c => fin _ ?_, fun c => fin _ ?_⟩
        · rw [r30, es] at c
          rw [ev, decide_eq_false (fun z => c (by rw [← z]))]; rfl
        · rw [r30, es] at c
          rw [ev, decide_eq_true ((nI_eq (by omega) (by omega)).mp c)]; rfl
      · have e : (nI q).toInt < 0 ∨ (0 : Int) + 5 ≤ (nI q).toInt := e
        have e : q = 5 := by omega
        refine fin _ ?_
        rw [rcv, if_neg (by omega), if_neg (by omega), if_neg (by omega), if_neg (by omega), if_neg (by omega)]; exact r27
    · obtain ⟨g2, e⟩ := fine_no (t0 h y) d
      rw [e]
      exact ⟨(fq_rf 2 (fq_0 y h)).1, Or.inr (Or.inr ⟨h0, g2, (fq_rf 2 (fq_0 y h)).2, rfl⟩)⟩
  have B_48 := zr_iconst (X := X) (Y := Y) (u := 0) (v := 0) (x := 0) O dX11_recover_48 rfl (C_49)
  have B_0 := zr_aload_n (X := X) (Y := Y) (u := 0) (v := 0) O dX11_recover_0 rfl (zr_iconst (x := 0) O dX11_recover_1 rfl (zr_pI (ci := 10) (j := 0) O zc_10 (by decide) rfl rfl rfl tw_1187 dX11_recover_2 (zr_aload_n O dX11_recover_5 rfl (zr_cH (zr_cV (ci := 10) (n := 0) O m_X11_isKept (bn_X11_isKept _ ⟨rfl, rfl⟩) vw_X11_isKept tw_1483 rc_X11_isKept (zrm hR rfl rfl) dX11_recover_6 (zr_ifeq (tgt := 57) O dX11_recover_9 rfl B_57 (zr_aload_n O dX11_recover_12 rfl (zr_iload_n O dX11_recover_13 rfl (zr_bipush (x := (-40)) O dX11_recover_14 (by decide) (zr_bipush (x := (125)) O dX11_recover_16 (by decide) (zr_cI (zr_cS (n := 3) O m_X11_within (bn_X11_within _ ⟨rfl, rfl⟩) tw_1306 tw_1305 (zrm hR rfl rfl) dX11_recover_18 (zr_ifeq (tgt := 48) O dX11_recover_21 rfl B_48 (zr_iload_n O dX11_recover_24 rfl (zr_iconst (x := 0) O dX11_recover_25 rfl (zr_ldcw (x := (65536)) O dX11_recover_26 tw_1586 (zr_cI (zr_cS (n := 3) O m_X11_within (bn_X11_within _ ⟨rfl, rfl⟩) tw_1306 tw_1305 (zrm hR rfl rfl) dX11_recover_29 (zr_ifeq (tgt := 48) O dX11_recover_32 rfl B_48 (zr_iload_n O dX11_recover_35 rfl (zr_iconst (x := 0) O dX11_recover_36 rfl (zr_iconst (x := 5) O dX11_recover_37 rfl (zr_cI (zr_cS (n := 3) O m_X11_within (bn_X11_within _ ⟨rfl, rfl⟩) tw_1306 tw_1305 (zrm hR rfl rfl) dX11_recover_38 (zr_ifeq (tgt := 48) O dX11_recover_41 rfl B_48 (zr_iconst (x := 1) O dX11_recover_44 rfl (zr_goto (tgt := 49) O dX11_recover_45 rfl C_49)))))))))))))))))))))))))))
  refine ⟨rfl, Nat.le_of_ble_eq_true rfl, _, B_0, ?_⟩
  refine ⟨(K, y), rfl, ⟨hE0, t0 h y⟩, fun d => ?_, fun d => ?_⟩
  · obtain ⟨g, e⟩ := kept_no d
    rw [e]
    exact ⟨(fq_rf 1 (fq_0 y h)).1, Or.inr (Or.inl ⟨g, (fq_rf 1 (fq_0 y h)).2, rfl⟩)⟩
  · obtain ⟨h0, e⟩ := kept_ok d
    rw [e]
    refine ⟨(te, -40, 125), rfl, trivial, fun d => ?_, fun d => ⟨(s, 0, 65536), rfl, trivial, fun f => ?_, fun f => ⟨(w, 0, 5), rfl, trivial, fun k => ?_, fun k => ?_⟩⟩⟩
    · have g := gno (p := -40 ≤ te ∧ te ≤ 125) d
      exact ⟨_, h0, rfl, by rw [decide_eq_false (fun z => g z.1)]; rfl, rfl, rfl⟩
    · have g := gno (p := 0 ≤ s ∧ s ≤ 65536) f
      exact ⟨_, h0, rfl, by rw [decide_eq_false (fun z => g z.2.1)]; rfl, rfl, rfl⟩
    · have g := gno (p := 0 ≤ w ∧ w ≤ 5) k
      exact ⟨_, h0, rfl, by rw [decide_eq_false (fun z => g z.2.2)]; rfl, rfl, rfl⟩
    · have g1 := gok (p := -40 ≤ te ∧ te ≤ 125) d
      have g2 := gok (p := 0 ≤ s ∧ s ≤ 65536) f
      have g := gok (p := 0 ≤ w ∧ w ≤ 5) k
      exact ⟨_, h0, rfl, by rw [decide_eq_true ⟨g1, g2, g⟩]; rfl, rfl, rfl⟩

