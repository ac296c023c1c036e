theorem dX10_recover_153 : decode cX10_recover 153 = .ok (.aload_n 0, 1) := by decide +kernel
theorem dX10_recover_154 : decode cX10_recover 154 = .ok (.getfield 30, 3) := by decide +kernel
theorem dX10_recover_157 : decode cX10_recover 157 = .ok (.getfield 270, 3) := by decide +kernel
theorem dX10_recover_160 : decode cX10_recover 160 = .ok (.ireturn, 1) := by decide +kernel
theorem dX10_recover_152 : decode cX10_recover 152 = .ok (.ireturn, 1) := by decide +kernel
theorem dX10_recover_151 : decode cX10_recover 151 = .ok (.iconst 0, 1) := by decide +kernel
theorem dX10_recover_127 : decode cX10_recover 127 = .ok (.aload_n 0, 1) := by decide +kernel
theorem dX10_recover_128 : decode cX10_recover 128 = .ok (.getfield 30, 3) := by decide +kernel
theorem dX10_recover_131 : decode cX10_recover 131 = .ok (.getfield 277, 3) := by decide +kernel
theorem dX10_recover_134 : decode cX10_recover 134 = .ok (.aload_n 0, 1) := by decide +kernel
theorem dX10_recover_135 : decode cX10_recover 135 = .ok (.getfield 10, 3) := by decide +kernel
theorem dX10_recover_138 : decode cX10_recover 138 = .ok (.getfield 98, 3) := by decide +kernel
theorem dX10_recover_141 : decode cX10_recover 141 = .ok (.getfield 290, 3) := by decide +kernel
theorem dX10_recover_144 : decode cX10_recover 144 = .ok (.if_icmp .ne 7, 3) := by decide +kernel
theorem dX10_recover_147 : decode cX10_recover 147 = .ok (.iconst 1, 1) := by decide +kernel
theorem dX10_recover_148 : decode cX10_recover 148 = .ok (.goto 4, 3) := by decide +kernel
theorem dX10_recover_126 : decode cX10_recover 126 = .ok (.ireturn, 1) := by decide +kernel
theorem dX10_recover_125 : decode cX10_recover 125 = .ok (.iconst 0, 1) := by decide +kernel
theorem dX10_recover_104 : decode cX10_recover 104 = .ok (.aload_n 0, 1) := by decide +kernel
theorem dX10_recover_105 : decode cX10_recover 105 = .ok (.getfield 30, 3) := by decide +kernel
theorem dX10_recover_108 : decode cX10_recover 108 = .ok (.aload_n 0, 1) := by decide +kernel
theorem dX10_recover_109 : decode cX10_recover 109 = .ok (.getfield 10, 3) := by decide +kernel
theorem dX10_recover_112 : decode cX10_recover 112 = .ok (.getfield 98, 3) := by decide +kernel
theorem dX10_recover_115 : decode cX10_recover 115 = .ok (.invokevirtual 286, 3) := by decide +kernel
theorem dX10_recover_118 : decode cX10_recover 118 = .ok (.ifCond .eq 7, 3) := by decide +kernel
theorem dX10_recover_121 : decode cX10_recover 121 = .ok (.iconst 1, 1) := by decide +kernel
theorem dX10_recover_122 : decode cX10_recover 122 = .ok (.goto 4, 3) := by decide +kernel
theorem dX10_recover_96 : decode cX10_recover 96 = .ok (.aload_n 0, 1) := by decide +kernel
theorem dX10_recover_97 : decode cX10_recover 97 = .ok (.getfield 30, 3) := by decide +kernel
theorem dX10_recover_100 : decode cX10_recover 100 = .ok (.getfield 283, 3) := by decide +kernel
theorem dX10_recover_103 : decode cX10_recover 103 = .ok (.ireturn, 1) := by decide +kernel
theorem dX10_recover_88 : decode cX10_recover 88 = .ok (.aload_n 0, 1) := by decide +kernel
theorem dX10_recover_89 : decode cX10_recover 89 = .ok (.getfield 30, 3) := by decide +kernel
theorem dX10_recover_92 : decode cX10_recover 92 = .ok (.getfield 280, 3) := by decide +kernel
theorem dX10_recover_95 : decode cX10_recover 95 = .ok (.ireturn, 1) := by decide +kernel
theorem dX10_recover_80 : decode cX10_recover 80 = .ok (.aload_n 0, 1) := by decide +kernel
theorem dX10_recover_81 : decode cX10_recover 81 = .ok (.getfield 30, 3) := by decide +kernel
theorem dX10_recover_84 : decode cX10_recover 84 = .ok (.getfield 277, 3) := by decide +kernel
theorem dX10_recover_87 : decode cX10_recover 87 = .ok (.ireturn, 1) := by decide +kernel
theorem dX10_recover_0 : decode cX10_recover 0 = .ok (.aload_n 0, 1) := by decide +kernel
theorem dX10_recover_1 : decode cX10_recover 1 = .ok (.invokevirtual 171, 3) := by decide +kernel
theorem dX10_recover_4 : decode cX10_recover 4 = .ok (.aload_n 0, 1) := by decide +kernel
theorem dX10_recover_5 : decode cX10_recover 5 = .ok (.iload_n 1, 1) := by decide +kernel
theorem dX10_recover_6 : decode cX10_recover 6 = .ok (.invokevirtual 205, 3) := by decide +kernel
theorem dX10_recover_9 : decode cX10_recover 9 = .ok (.aload_n 0, 1) := by decide +kernel
theorem dX10_recover_10 : decode cX10_recover 10 = .ok (.iload_n 2, 1) := by decide +kernel
theorem dX10_recover_11 : decode cX10_recover 11 = .ok (.iconst 0, 1) := by decide +kernel
theorem dX10_recover_12 : decode cX10_recover 12 = .ok (.ldc_w 269, 3) := by decide +kernel
theorem dX10_recover_15 : decode cX10_recover 15 = .ok (.invokevirtual 77, 3) := by decide +kernel
theorem dX10_recover_18 : decode cX10_recover 18 = .ok (.aload_n 0, 1) := by decide +kernel
theorem dX10_recover_19 : decode cX10_recover 19 = .ok (.iload_n 3, 1) := by decide +kernel
theorem dX10_recover_20 : decode cX10_recover 20 = .ok (.iconst 0, 1) := by decide +kernel
theorem dX10_recover_21 : decode cX10_recover 21 = .ok (.iconst 5, 1) := by decide +kernel
theorem dX10_recover_22 : decode cX10_recover 22 = .ok (.invokevirtual 77, 3) := by decide +kernel
theorem dX10_recover_25 : decode cX10_recover 25 = .ok (.aload_n 0, 1) := by decide +kernel
theorem dX10_recover_26 : decode cX10_recover 26 = .ok (.getfield 30, 3) := by decide +kernel
theorem dX10_recover_29 : decode cX10_recover 29 = .ok (.iload_n 2, 1) := by decide +kernel
theorem dX10_recover_30 : decode cX10_recover 30 = .ok (.putfield 270, 3) := by decide +kernel
theorem dX10_recover_33 : decode cX10_recover 33 = .ok (.aload_n 0, 1) := by decide +kernel
theorem dX10_recover_34 : decode cX10_recover 34 = .ok (.getfield 30, 3) := by decide +kernel
theorem dX10_recover_37 : decode cX10_recover 37 = .ok (.aload_n 0, 1) := by decide +kernel
theorem dX10_recover_38 : decode cX10_recover 38 = .ok (.getfield 10, 3) := by decide +kernel
theorem dX10_recover_41 : decode cX10_recover 41 = .ok (.iload_n 1, 1) := by decide +kernel
theorem dX10_recover_42 : decode cX10_recover 42 = .ok (.invokevirtual 273, 3) := by decide +kernel
theorem dX10_recover_45 : decode cX10_recover 45 = .ok (.iload_n 3, 1) := by decide +kernel
theorem dX10_recover_46 : decode cX10_recover 46 = .ok (.tableswitch 107 0 4 #[34, 42, 50, 58, 81], 34) := by decide +kernel
theorem dX10_fails_165 : decode cX10_fails 165 = .ok (.ireturn, 1) := by decide +kernel
theorem dX10_fails_163 : decode cX10_fails 163 = .ok (.iload 7, 2) := by decide +kernel
theorem dX10_fails_152 : decode cX10_fails 152 = .ok (.iload 4, 2) := by decide +kernel
theorem dX10_fails_154 : decode cX10_fails 154 = .ok (.iconst 1, 1) := by decide +kernel
theorem dX10_fails_155 : decode cX10_fails 155 = .ok (.if_icmp .ne 8, 3) := by decide +kernel
theorem dX10_fails_158 : decode cX10_fails 158 = .ok (.iload 6, 2) := by decide +kernel
theorem dX10_fails_160 : decode cX10_fails 160 = .ok (.goto 5, 3) := by decide +kernel
theorem dX10_fails_142 : decode cX10_fails 142 = .ok (.iload 4, 2) := by decide +kernel
theorem dX10_fails_144 : decode cX10_fails 144 = .ok (.ifCond .ne 8, 3) := by decide +kernel
theorem dX10_fails_147 : decode cX10_fails 147 = .ok (.iload 5, 2) := by decide +kernel
theorem dX10_fails_149 : decode cX10_fails 149 = .ok (.goto 16, 3) := by decide +kernel
theorem dX10_fails_136 : decode cX10_fails 136 = .ok (.iinc 8 1, 3) := by decide +kernel
theorem dX10_fails_139 : decode cX10_fails 139 = .ok (.goto (-85), 3) := by decide +kernel
theorem dX10_fails_133 : decode cX10_fails 133 = .ok (.iadd, 1) := by decide +kernel
theorem dX10_fails_134 : decode cX10_fails 134 = .ok (.istore 6, 2) := by decide +kernel
theorem dX10_fails_132 : decode cX10_fails 132 = .ok (.iconst 1, 1) := by decide +kernel
theorem dX10_fails_54 : decode cX10_fails 54 = .ok (.iload 8, 2) := by decide +kernel
theorem dX10_fails_56 : decode cX10_fails 56 = .ok (.iload_n 3, 1) := by decide +kernel
theorem dX10_fails_57 : decode cX10_fails 57 = .ok (.if_icmp .ge 85, 3) := by decide +kernel
theorem dX10_fails_60 : decode cX10_fails 60 = .ok (.aload_n 0, 1) := by decide +kernel
theorem dX10_fails_61 : decode cX10_fails 61 = .ok (.getfield 30, 3) := by decide +kernel
theorem dX10_fails_64 : decode cX10_fails 64 = .ok (.aload_n 0, 1) := by decide +kernel
theorem dX10_fails_65 : decode cX10_fails 65 = .ok (.getfield 10, 3) := by decide +kernel
theorem dX10_fails_68 : decode cX10_fails 68 = .ok (.iload_n 1, 1) := by decide +kernel
theorem dX10_fails_69 : decode cX10_fails 69 = .ok (.invokevirtual 273, 3) := by decide +kernel
theorem dX10_fails_72 : decode cX10_fails 72 = .ok (.iload 7, 2) := by decide +kernel
theorem dX10_fails_74 : decode cX10_fails 74 = .ok (.aload_n 0, 1) := by decide +kernel
theorem dX10_fails_75 : decode cX10_fails 75 = .ok (.getfield 30, 3) := by decide +kernel
theorem dX10_fails_78 : decode cX10_fails 78 = .ok (.getfield 280, 3) := by decide +kernel
theorem dX10_fails_81 : decode cX10_fails 81 = .ok (.invokestatic 291, 3) := by decide +kernel
theorem dX10_fails_84 : decode cX10_fails 84 = .ok (.istore 7, 2) := by decide +kernel
theorem dX10_fails_86 : decode cX10_fails 86 = .ok (.aload_n 0, 1) := by decide +kernel
theorem dX10_fails_87 : decode cX10_fails 87 = .ok (.getfield 30, 3) := by decide +kernel
theorem dX10_fails_90 : decode cX10_fails 90 = .ok (.getfield 277, 3) := by decide +kernel
theorem dX10_fails_93 : decode cX10_fails 93 = .ok (.aload_n 0, 1) := by decide +kernel
theorem dX10_fails_94 : decode cX10_fails 94 = .ok (.getfield 10, 3) := by decide +kernel
theorem dX10_fails_97 : decode cX10_fails 97 = .ok (.getfield 98, 3) := by decide +kernel
theorem dX10_fails_100 : decode cX10_fails 100 = .ok (.getfield 290, 3) := by decide +kernel
theorem dX10_fails_103 : decode cX10_fails 103 = .ok (.if_icmp .eq 33, 3) := by decide +kernel
theorem dX10_fails_106 : decode cX10_fails 106 = .ok (.iinc 5 1, 3) := by decide +kernel
theorem dX10_fails_109 : decode cX10_fails 109 = .ok (.iload 6, 2) := by decide +kernel
theorem dX10_fails_111 : decode cX10_fails 111 = .ok (.aload_n 0, 1) := by decide +kernel
theorem dX10_fails_112 : decode cX10_fails 112 = .ok (.getfield 30, 3) := by decide +kernel
theorem dX10_fails_115 : decode cX10_fails 115 = .ok (.aload_n 0, 1) := by decide +kernel
theorem dX10_fails_116 : decode cX10_fails 116 = .ok (.getfield 10, 3) := by decide +kernel
theorem dX10_fails_119 : decode cX10_fails 119 = .ok (.getfield 98, 3) := by decide +kernel
theorem dX10_fails_122 : decode cX10_fails 122 = .ok (.invokevirtual 286, 3) := by decide +kernel
theorem dX10_fails_125 : decode cX10_fails 125 = .ok (.ifCond .eq 7, 3) := by decide +kernel
theorem dX10_fails_128 : decode cX10_fails 128 = .ok (.iconst 0, 1) := by decide +kernel
theorem dX10_fails_129 : decode cX10_fails 129 = .ok (.goto 4, 3) := by decide +kernel
theorem dX10_fails_0 : decode cX10_fails 0 = .ok (.aload_n 0, 1) := by decide +kernel
theorem dX10_fails_1 : decode cX10_fails 1 = .ok (.invokevirtual 171, 3) := by decide +kernel
theorem dX10_fails_4 : decode cX10_fails 4 = .ok (.aload_n 0, 1) := by decide +kernel
theorem dX10_fails_5 : decode cX10_fails 5 = .ok (.iload_n 1, 1) := by decide +kernel
theorem dX10_fails_6 : decode cX10_fails 6 = .ok (.invokevirtual 205, 3) := by decide +kernel
theorem dX10_fails_9 : decode cX10_fails 9 = .ok (.aload_n 0, 1) := by decide +kernel
theorem dX10_fails_10 : decode cX10_fails 10 = .ok (.iload_n 2, 1) := by decide +kernel
theorem dX10_fails_11 : decode cX10_fails 11 = .ok (.iconst 0, 1) := by decide +kernel
theorem dX10_fails_12 : decode cX10_fails 12 = .ok (.ldc_w 269, 3) := by decide +kernel
theorem dX10_fails_15 : decode cX10_fails 15 = .ok (.invokevirtual 77, 3) := by decide +kernel
theorem dX10_fails_18 : decode cX10_fails 18 = .ok (.aload_n 0, 1) := by decide +kernel
theorem dX10_fails_19 : decode cX10_fails 19 = .ok (.iload_n 3, 1) := by decide +kernel
theorem dX10_fails_20 : decode cX10_fails 20 = .ok (.iconst 1, 1) := by decide +kernel
theorem dX10_fails_21 : decode cX10_fails 21 = .ok (.bipush 60, 2) := by decide +kernel
theorem dX10_fails_23 : decode cX10_fails 23 = .ok (.invokevirtual 77, 3) := by decide +kernel
theorem dX10_fails_26 : decode cX10_fails 26 = .ok (.aload_n 0, 1) := by decide +kernel
theorem dX10_fails_27 : decode cX10_fails 27 = .ok (.iload 4, 2) := by decide +kernel
theorem dX10_fails_29 : decode cX10_fails 29 = .ok (.iconst 0, 1) := by decide +kernel
theorem dX10_fails_30 : decode cX10_fails 30 = .ok (.iconst 2, 1) := by decide +kernel
theorem dX10_fails_31 : decode cX10_fails 31 = .ok (.invokevirtual 77, 3) := by decide +kernel
theorem dX10_fails_34 : decode cX10_fails 34 = .ok (.iconst 0, 1) := by decide +kernel
theorem dX10_fails_35 : decode cX10_fails 35 = .ok (.istore 5, 2) := by decide +kernel
theorem dX10_fails_37 : decode cX10_fails 37 = .ok (.iconst 0, 1) := by decide +kernel
theorem dX10_fails_38 : decode cX10_fails 38 = .ok (.istore 6, 2) := by decide +kernel
theorem dX10_fails_40 : decode cX10_fails 40 = .ok (.iconst 0, 1) := by decide +kernel
theorem dX10_fails_41 : decode cX10_fails 41 = .ok (.istore 7, 2) := by decide +kernel
theorem dX10_fails_43 : decode cX10_fails 43 = .ok (.aload_n 0, 1) := by decide +kernel
theorem dX10_fails_44 : decode cX10_fails 44 = .ok (.getfield 30, 3) := by decide +kernel
theorem dX10_fails_47 : decode cX10_fails 47 = .ok (.iload_n 2, 1) := by decide +kernel
theorem dX10_fails_48 : decode cX10_fails 48 = .ok (.putfield 270, 3) := by decide +kernel
theorem dX10_fails_51 : decode cX10_fails 51 = .ok (.iconst 0, 1) := by decide +kernel
theorem dX10_fails_52 : decode cX10_fails 52 = .ok (.istore 8, 2) := by decide +kernel
theorem dX10_safe_74 : decode cX10_safe 74 = .ok (.ireturn, 1) := by decide +kernel
theorem dX10_safe_63 : decode cX10_safe 63 = .ok (.aload_n 0, 1) := by decide +kernel
theorem dX10_safe_64 : decode cX10_safe 64 = .ok (.getfield 10, 3) := by decide +kernel
theorem dX10_safe_67 : decode cX10_safe 67 = .ok (.getfield 98, 3) := by decide +kernel
theorem dX10_safe_70 : decode cX10_safe 70 = .ok (.iload_n 3, 1) := by decide +kernel
theorem dX10_safe_71 : decode cX10_safe 71 = .ok (.invokevirtual 300, 3) := by decide +kernel
theorem dX10_safe_44 : decode cX10_safe 44 = .ok (.iload_n 2, 1) := by decide +kernel
theorem dX10_safe_45 : decode cX10_safe 45 = .ok (.iconst 1, 1) := by decide +kernel
theorem dX10_safe_46 : decode cX10_safe 46 = .ok (.if_icmp .ne 17, 3) := by decide +kernel
theorem dX10_safe_49 : decode cX10_safe 49 = .ok (.aload_n 0, 1) := by decide +kernel
theorem dX10_safe_50 : decode cX10_safe 50 = .ok (.getfield 10, 3) := by decide +kernel
theorem dX10_safe_53 : decode cX10_safe 53 = .ok (.getfield 98, 3) := by decide +kernel
theorem dX10_safe_56 : decode cX10_safe 56 = .ok (.iload_n 3, 1) := by decide +kernel
theorem dX10_safe_57 : decode cX10_safe 57 = .ok (.invokevirtual 297, 3) := by decide +kernel
theorem dX10_safe_60 : decode cX10_safe 60 = .ok (.goto 14, 3) := by decide +kernel
theorem dX10_safe_0 : decode cX10_safe 0 = .ok (.aload_n 0, 1) := by decide +kernel
theorem dX10_safe_1 : decode cX10_safe 1 = .ok (.invokevirtual 171, 3) := by decide +kernel
theorem dX10_safe_4 : decode cX10_safe 4 = .ok (.aload_n 0, 1) := by decide +kernel
theorem dX10_safe_5 : decode cX10_safe 5 = .ok (.iload_n 1, 1) := by decide +kernel
theorem dX10_safe_6 : decode cX10_safe 6 = .ok (.invokevirtual 205, 3) := by decide +kernel
theorem dX10_safe_9 : decode cX10_safe 9 = .ok (.aload_n 0, 1) := by decide +kernel
theorem dX10_safe_10 : decode cX10_safe 10 = .ok (.iload_n 2, 1) := by decide +kernel
theorem dX10_safe_11 : decode cX10_safe 11 = .ok (.iconst 0, 1) := by decide +kernel
theorem dX10_safe_12 : decode cX10_safe 12 = .ok (.iconst 2, 1) := by decide +kernel
theorem dX10_safe_13 : decode cX10_safe 13 = .ok (.invokevirtual 77, 3) := by decide +kernel
theorem dX10_safe_16 : decode cX10_safe 16 = .ok (.aload_n 0, 1) := by decide +kernel
theorem dX10_safe_17 : decode cX10_safe 17 = .ok (.getfield 10, 3) := by decide +kernel
theorem dX10_safe_20 : decode cX10_safe 20 = .ok (.getfield 98, 3) := by decide +kernel
theorem dX10_safe_23 : decode cX10_safe 23 = .ok (.aload_n 0, 1) := by decide +kernel
theorem dX10_safe_24 : decode cX10_safe 24 = .ok (.getfield 10, 3) := by decide +kernel
theorem dX10_safe_27 : decode cX10_safe 27 = .ok (.getfield 85, 3) := by decide +kernel
theorem dX10_safe_30 : decode cX10_safe 30 = .ok (.iload_n 1, 1) := by decide +kernel
theorem dX10_safe_31 : decode cX10_safe 31 = .ok (.invokevirtual 294, 3) := by decide +kernel
theorem dX10_safe_34 : decode cX10_safe 34 = .ok (.istore_n 3, 1) := by decide +kernel
theorem dX10_safe_35 : decode cX10_safe 35 = .ok (.iload_n 2, 1) := by decide +kernel
theorem dX10_safe_36 : decode cX10_safe 36 = .ok (.ifCond .ne 8, 3) := by decide +kernel
theorem dX10_safe_39 : decode cX10_safe 39 = .ok (.iload_n 3, 1) := by decide +kernel
theorem dX10_safe_40 : decode cX10_safe 40 = .ok (.invokestatic 190, 3) := by decide +kernel
theorem dX10_safe_43 : decode cX10_safe 43 = .ok (.ireturn, 1) := by decide +kernel
theorem dX10_range_79 : decode cX10_range 79 = .ok (.iload_n 3, 1) := by decide +kernel
theorem dX10_range_80 : decode cX10_range 80 = .ok (.ireturn, 1) := by decide +kernel
theorem dX10_range_67 : decode cX10_range 67 = .ok (.iload 4, 2) := by decide +kernel
theorem dX10_range_69 : decode cX10_range 69 = .ok (.istore_n 3, 1) := by decide +kernel
theorem dX10_range_70 : decode cX10_range 70 = .ok (.iload 4, 2) := by decide +kernel
theorem dX10_range_72 : decode cX10_range 72 = .ok (.iload_n 2, 1) := by decide +kernel
theorem dX10_range_73 : decode cX10_range 73 = .ok (.iadd, 1) := by decide +kernel
theorem dX10_range_74 : decode cX10_range 74 = .ok (.istore 4, 2) := by decide +kernel
theorem dX10_range_76 : decode cX10_range 76 = .ok (.goto (-34), 3) := by decide +kernel
theorem dX10_range_42 : decode cX10_range 42 = .ok (.iload 4, 2) := by decide +kernel
theorem dX10_range_44 : decode cX10_range 44 = .ok (.bipush (-40), 2) := by decide +kernel
theorem dX10_range_46 : decode cX10_range 46 = .ok (.if_icmp .lt 33, 3) := by decide +kernel
theorem dX10_range_49 : decode cX10_range 49 = .ok (.iload 4, 2) := by decide +kernel
theorem dX10_range_51 : decode cX10_range 51 = .ok (.bipush 125, 2) := by decide +kernel
theorem dX10_range_53 : decode cX10_range 53 = .ok (.if_icmp .gt 26, 3) := by decide +kernel
theorem dX10_range_56 : decode cX10_range 56 = .ok (.aload_n 0, 1) := by decide +kernel
theorem dX10_range_57 : decode cX10_range 57 = .ok (.iload 4, 2) := by decide +kernel
theorem dX10_range_59 : decode cX10_range 59 = .ok (.invokevirtual 303, 3) := by decide +kernel
theorem dX10_range_62 : decode cX10_range 62 = .ok (.ifCond .ne 5, 3) := by decide +kernel
theorem dX10_range_65 : decode cX10_range 65 = .ok (.iload_n 3, 1) := by decide +kernel
theorem dX10_range_66 : decode cX10_range 66 = .ok (.ireturn, 1) := by decide +kernel
theorem dX10_range_33 : decode cX10_range 33 = .ok (.istore_n 2, 1) := by decide +kernel
theorem dX10_range_34 : decode cX10_range 34 = .ok (.bipush 20, 2) := by decide +kernel
theorem dX10_range_36 : decode cX10_range 36 = .ok (.istore_n 3, 1) := by decide +kernel
theorem dX10_range_37 : decode cX10_range 37 = .ok (.iload_n 3, 1) := by decide +kernel
theorem dX10_range_38 : decode cX10_range 38 = .ok (.iload_n 2, 1) := by decide +kernel
theorem dX10_range_39 : decode cX10_range 39 = .ok (.iadd, 1) := by decide +kernel
theorem dX10_range_40 : decode cX10_range 40 = .ok (.istore 4, 2) := by decide +kernel
theorem dX10_range_32 : decode cX10_range 32 = .ok (.iconst 1, 1) := by decide +kernel
theorem dX10_range_24 : decode cX10_range 24 = .ok (.iload_n 1, 1) := by decide +kernel
theorem dX10_range_25 : decode cX10_range 25 = .ok (.ifCond .ne 7, 3) := by decide +kernel
theorem dX10_range_28 : decode cX10_range 28 = .ok (.iconst (-1), 1) := by decide +kernel
theorem dX10_range_29 : decode cX10_range 29 = .ok (.goto 4, 3) := by decide +kernel
theorem dX10_range_0 : decode cX10_range 0 = .ok (.aload_n 0, 1) := by decide +kernel
theorem dX10_range_1 : decode cX10_range 1 = .ok (.invokevirtual 171, 3) := by decide +kernel
theorem dX10_range_4 : decode cX10_range 4 = .ok (.aload_n 0, 1) := by decide +kernel
theorem dX10_range_5 : decode cX10_range 5 = .ok (.iload_n 1, 1) := by decide +kernel
theorem dX10_range_6 : decode cX10_range 6 = .ok (.iconst 0, 1) := by decide +kernel
theorem dX10_range_7 : decode cX10_range 7 = .ok (.iconst 1, 1) := by decide +kernel
theorem dX10_range_8 : decode cX10_range 8 = .ok (.invokevirtual 77, 3) := by decide +kernel
theorem dX10_range_11 : decode cX10_range 11 = .ok (.aload_n 0, 1) := by decide +kernel
theorem dX10_range_12 : decode cX10_range 12 = .ok (.bipush 20, 2) := by decide +kernel
theorem dX10_range_14 : decode cX10_range 14 = .ok (.invokevirtual 303, 3) := by decide +kernel
theorem dX10_range_17 : decode cX10_range 17 = .ok (.ifCond .ne 7, 3) := by decide +kernel
theorem dX10_range_20 : decode cX10_range 20 = .ok (.sipush 999, 3) := by decide +kernel
theorem dX10_range_23 : decode cX10_range 23 = .ok (.ireturn, 1) := by decide +kernel
/-! what comes back -/
def vQ (Q : zQ) : Prop := vS Q.1 ∧ (∀ i, i < eN Q.2.1 → eP Q.2.1 i < dP Q.1) ∧ gInj Q.2.2 ∧ ∀ i, i < gN Q.2.2 → gP Q.2.2 i < dP Q.1
def rcv (S : zD) (K : zE) (te s : Int32) (w : Nat) : Int32 := if w = 0 then nI (rdX S K te s) else if w = 1 then nI (rdR S K te s) else if w = 2 then nI (rdC S K te s) else if w = 3 then bI (decide (ckW 0 (rdX S K te s) (eK K * btR (eR K)) ≠ eC K)) else if w = 4 then bI (decide (rdX S K te s = eS K)) else (rdN S K te s (eN K)).1
theorem rdX_lt {S : zD} {K : zE} {te s : Int32} (hv : vE K) (h0 : 0 < eN K) : rdX S K te s < 2 ^ 16 := Nat.lt_of_lt_of_le (scN_lt _) (Nat.pow_le_pow_right (by omega) (hv.2 h0).2.2.2.1)
def ca_X10_recover : (zQ × Nat × Int32 × Int32 × Int32) → List zV := fun (Q, x, te, s, w) => [vR 19 0 x, vI te, vI s, vI w]
def cp_X10_recover : (zQ × Nat × Int32 × Int32 × Int32) → zH → Prop := fun (Q, x, te, s, w) h => rpN Q h x ∧ vQ Q
def cq_X10_recover : (zQ × Nat × Int32 × Int32 × Int32) → zH → Option zV → zH → Prop := fun (Q, x, te, s, w) h r h' => 0 < eN Q.2.1 ∧ (gR te (-40) 125 ∧ gR s 0 65536 ∧ gR w 0 5) ∧ r = some (vI (rcv Q.1 Q.2.1 te s (cN w))) ∧ qf x h h'
def cx_X10_recover : (zQ × Nat × Int32 × Int32 × Int32) → zH → String → zH → Prop := fun (Q, x, te, s, w) h E h' => (eN Q.2.1 = 0 ∧ xIS x h E h') ∨ (0 < eN Q.2.1 ∧ ¬ (gR te (-40) 125 ∧ gR s 0 65536 ∧ gR w 0 5) ∧ xIA x h E h')
theorem rc_X10_recover : ∀ x : (zQ × Nat × Int32 × Int32 × Int32), ∃ (j a : Nat) (As : List zV), ca_X10_recover x = vR (10 + 9) j a :: As := by
  rintro ⟨⟨S, K, M⟩, x, te, s, w⟩
  exact ⟨_, _, _, rfl⟩
set_option maxHeartbeats 4000000 in
set_option maxRecDepth 100000 in
theorem m_X10_recover : zMx yX10_recover cX10_recover 4 (some .int) ({ frames := 9, cells := 4, slots := 24, locals := 146 } : Room) ((ca_X10_recover, cp_X10_recover, cq_X10_recover) : zC (zQ × Nat × Int32 × Int32 × Int32)) cx_X10_recover := by
  refine zMx_of (by decide) ?_
  rintro X Y ⟨⟨S, K, M⟩, x, te, s, w⟩ h ⟨hN, hv, hP, -⟩ O Ex hR
  have E := zEx_E Ex
  have B_153 := zr_aload_n (X := X) (Y := Y) (u := 4) (v := 24) O dX10_recover_153 rfl (zr_gS (ci := 9) (j := 8) (off := 180) (t := 14) (n := 0) O zc_9 (by decide) rfl tw_295 dX10_recover_154 (zr_gI (ci := 4) (j := 0) O zc_4 (by decide) rfl tw_229 dX10_recover_157 (zr_ireturn O E (Nat.le_of_ble_eq_true rfl) (Nat.le_of_ble_eq_true rfl) dX10_recover_160)))
  have B_152 := zr_ireturn (X := X) (Y := Y) (u := 4) (v := 24) O E (Nat.le_of_ble_eq_true rfl) (Nat.le_of_ble_eq_true rfl) dX10_recover_152
  have B_151 := zr_iconst (X := X) (Y := Y) (u := 4) (v := 24) (x := 0) O dX10_recover_151 rfl (B_152)
  have B_127 := zr_aload_n (X := X) (Y := Y) (u := 4) (v := 24) O dX10_recover_127 rfl (zr_gS (ci := 9) (j := 8) (off := 180) (t := 14) (n := 0) O zc_9 (by decide) rfl tw_295 dX10_recover_128 (zr_gI (ci := 4) (j := 2) O zc_4 (by decide) rfl tw_233 dX10_recover_131 (zr_aload_n O dX10_recover_134 rfl (zr_gR (ci := 9) (j := 0) (off := 0) (t := 16) (n := 0) O zc_9 (by decide) rfl tw_287 dX10_recover_135 (zr_gS (ci := 6) (j := 1) (off := 8) (t := 10) (n := 0) O zc_6 (by decide) rfl tw_175 dX10_recover_138 (zr_gI (ci := 0) (j := 7) O zc_0 (by decide) rfl tw_122 dX10_recover_141 (zr_icne (tgt := 151) O dX10_recover_144 rfl B_151 (zr_iconst (x := 1) O dX10_recover_147 rfl (zr_goto (tgt := 152) O dX10_recover_148 rfl B_152)))))))))
  have B_126 := zr_ireturn (X := X) (Y := Y) (u := 4) (v := 24) O E (Nat.le_of_ble_eq_true rfl) (Nat.le_of_ble_eq_true rfl) dX10_recover_126
  have B_125 := zr_iconst (X := X) (Y := Y) (u := 4) (v := 24) (x := 0) O dX10_recover_125 rfl (B_126)
  have B_104 := zr_aload_n (X := X) (Y := Y) (u := 4) (v := 24) O dX10_recover_104 rfl (zr_gS (ci := 9) (j := 8) (off := 180) (t := 14) (n := 0) O zc_9 (by decide) rfl tw_295 dX10_recover_105 (zr_aload_n O dX10_recover_108 rfl (zr_gR (ci := 9) (j := 0) (off := 0) (t := 16) (n := 0) O zc_9 (by decide) rfl tw_287 dX10_recover_109 (zr_gS (ci := 6) (j := 1) (off := 8) (t := 10) (n := 0) O zc_6 (by decide) rfl tw_175 dX10_recover_112 (zr_cI (zr_cV (ci := 4) (n := 1) O m_X5_isRefused (bn_X5_isRefused _ ⟨rfl, rfl⟩) vw_X5_isRefused tw_1015 rc_X5_isRefused (zrx hR rfl rfl rfl rfl) dX10_recover_115 (zr_ifeq (tgt := 125) O dX10_recover_118 rfl B_125 (zr_iconst (x := 1) O dX10_recover_121 rfl (zr_goto (tgt := 126) O dX10_recover_122 rfl B_126)))))))))
  have B_96 := zr_aload_n (X := X) (Y := Y) (u := 4) (v := 24) O dX10_recover_96 rfl (zr_gS (ci := 9) (j := 8) (off := 180) (t := 14) (n := 0) O zc_9 (by decide) rfl tw_295 dX10_recover_97 (zr_gI (ci := 4) (j := 3) O zc_4 (by decide) rfl tw_235 dX10_recover_100 (zr_ireturn O E (Nat.le_of_ble_eq_true rfl) (Nat.le_of_ble_eq_true rfl) dX10_recover_103)))
  have B_88 := zr_aload_n (X := X) (Y := Y) (u := 4) (v := 24) O dX10_recover_88 rfl (zr_gS (ci := 9) (j := 8) (off := 180) (t := 14) (n := 0) O zc_9 (by decide) rfl tw_295 dX10_recover_89 (zr_gI (ci := 4) (j := 1) O zc_4 (by decide) rfl tw_231 dX10_recover_92 (zr_ireturn O E (Nat.le_of_ble_eq_true rfl) (Nat.le_of_ble_eq_true rfl) dX10_recover_95)))
  have B_80 := zr_aload_n (X := X) (Y := Y) (u := 4) (v := 24) O dX10_recover_80 rfl (zr_gS (ci := 9) (j := 8) (off := 180) (t := 14) (n := 0) O zc_9 (by decide) rfl tw_295 dX10_recover_81 (zr_gI (ci := 4) (j := 2) O zc_4 (by decide) rfl tw_233 dX10_recover_84 (zr_ireturn O E (Nat.le_of_ble_eq_true rfl) (Nat.le_of_ble_eq_true rfl) dX10_recover_87)))
  have B_0 := zr_aload_n (X := X) (Y := Y) (u := 0) (v := 0) O dX10_recover_0 rfl (zr_xV (u' := 1) (v' := 6) (ci := 9) (n := 0) O Ex m_X10_needEnrolled (bn_X10_needEnrolled { frames := 0, cells := 0, slots := 0, locals := 0 } ⟨rfl, rfl⟩) vw_X10_needEnrolled tw_859 rc_X10_needEnrolled (zrx hR rfl rfl rfl rfl) (Nat.le_of_ble_eq_true rfl) (Nat.le_of_ble_eq_true rfl) (Nat.le_of_ble_eq_true rfl) (Nat.le_of_ble_eq_true rfl) dX10_recover_1 (zr_aload_n O dX10_recover_4 rfl (zr_iload_n O dX10_recover_5 rfl (zr_xV (u' := 2) (v' := 12) (ci := 9) (n := 1) O Ex m_X10_needHeat (bn_X10_needHeat { frames := 0, cells := 0, slots := 0, locals := 0 } ⟨rfl, rfl⟩) vw_X10_needHeat tw_900 rc_X10_needHeat (zrx hR rfl rfl rfl rfl) (Nat.le_of_ble_eq_true rfl) (Nat.le_of_ble_eq_true rfl) (Nat.le_of_ble_eq_true rfl) (Nat.le_of_ble_eq_true rfl) dX10_recover_6 (zr_aload_n O dX10_recover_9 rfl (zr_iload_n O dX10_recover_10 rfl (zr_iconst (x := 0) O dX10_recover_11 rfl (zr_ldcw (x := (65536)) O dX10_recover_12 tw_993 (zr_xV (u' := 3) (v' := 18) (ci := 9) (n := 3) O Ex m_X10_needBetween (bn_X10_needBetween { frames := 0, cells := 0, slots := 0, locals := 0 } ⟨rfl, rfl⟩) vw_X10_needBetween tw_457 rc_X10_needBetween (zrx hR rfl rfl rfl rfl) (Nat.le_of_ble_eq_true rfl) (Nat.le_of_ble_eq_true rfl) (Nat.le_of_ble_eq_true rfl) (Nat.le_of_ble_eq_true rfl) dX10_recover_15 (zr_aload_n O dX10_recover_18 rfl (zr_iload_n O dX10_recover_19 rfl (zr_iconst (x := 0) O dX10_recover_20 rfl (zr_iconst (x := 5) O dX10_recover_21 rfl (zr_xV (u' := 4) (v' := 24) (ci := 9) (n := 3) O Ex m_X10_needBetween (bn_X10_needBetween { frames := 0, cells := 0, slots := 0, locals := 0 } ⟨rfl, rfl⟩) vw_X10_needBetween tw_457 rc_X10_needBetween (zrx hR rfl rfl rfl rfl) (Nat.le_of_ble_eq_true rfl) (Nat.le_of_ble_eq_true rfl) (Nat.le_of_ble_eq_true rfl) (Nat.le_of_ble_eq_true rfl) dX10_recover_22 (zr_aload_n O dX10_recover_25 rfl (zr_gS (ci := 9) (j := 8) (off := 180) (t := 14) (n := 0) O zc_9 (by decide) rfl tw_295 dX10_recover_26 (zr_iload_n O dX10_recover_29 rfl (zr_pI (ci := 4) (j := 0) O zc_4 (by decide) rfl rfl rfl tw_229 dX10_recover_30 (zr_aload_n O dX10_recover_33 rfl (zr_gS (ci := 9) (j := 8) (off := 180) (t := 14) (n := 0) O zc_9 (by decide) rfl tw_295 dX10_recover_34 (zr_aload_n O dX10_recover_37 rfl (zr_gR (ci := 9) (j := 0) (off := 0) (t := 16) (n := 0) O zc_9 (by decide) rfl tw_287 dX10_recover_38 (zr_iload_n O dX10_recover_41 rfl (zr_cV (ci := 4) (n := 2) O m_X5_take (bn_X5_take _ ⟨rfl, rfl⟩) vw_X5_take tw_994 rc_X5_take (zrx hR rfl rfl rfl rfl) dX10_recover_42 (zr_iload_n O dX10_recover_45 rfl (zr_switch2 (tgt := 153) (ks := [_, _, _, _, _]) O dX10_recover_46 rfl rfl B_153 ⟨⟨_, 80, rfl, rfl, B_80⟩, ⟨_, 88, rfl, rfl, B_88⟩, ⟨_, 96, rfl, rfl, B_96⟩, ⟨_, 104, rfl, rfl, B_104⟩, ⟨_, 127, rfl, rfl, B_127⟩, trivial⟩))))))))))))))))))))))))))
  refine ⟨rfl, Nat.le_of_ble_eq_true rfl, _, B_0, ?_⟩
  have hN : rpN (S, K, M) h x := hN
  have hS : rpS S h (h.2.2 x 0 + 1) := hN.1.1
  have hE : rpE K h (h.2.2 x 0 + 8) := hN.1.2.1
  have hs1 : x < h.2.2 x 0 := hN.2.1
  have hs2 : h.2.2 x 0 + 13 ≤ x + 171 := hN.2.2
  have hv : vS S := hv
  have hP : ∀ i, i < eN K → eP K i < dP S := hP
  refine ⟨((S, K, M), x), rfl, hN, fun E h' hd => Or.inl hd, fun r h1 hq => ?_⟩
  obtain ⟨rfl, eh, h0⟩ := hq
  obtain rfl := eh.symm
  have h0 : 0 < eN K := h0
  refine ⟨(x, te), rfl, trivial, fun E h' hd => Or.inr ⟨h0, fun z => hd.1 z.1, hd.2⟩, fun r h1 hq => ?_⟩
  obtain ⟨rfl, eh, g1⟩ := hq
  obtain rfl := eh.symm
  refine ⟨(x, s, 0, 65536), rfl, trivial, fun E h' hd => Or.inr ⟨h0, fun z => hd.1 z.2.1, hd.2⟩, fun r h1 hq => ?_⟩
  obtain ⟨rfl, eh, g2⟩ := hq
  obtain rfl := eh.symm
  refine ⟨(x, w, 0, 5), rfl, trivial, fun E h' hd => Or.inr ⟨h0, fun z => hd.1 z.2.2, hd.2⟩, fun r h1 hq => ?_⟩
  obtain ⟨rfl, eh, g3⟩ := hq
  obtain rfl := eh.symm
  have g3 : gR w 0 5 := g3
  obtain ⟨q, rfl, hq5, eq⟩ := rngx (n := 5) (by decide) g3
  have ewt : (nI q).toInt = q := nI_toInt (by omega)
  obtain ⟨H1, e1⟩ : ∃ H1 : zH, H1 = zsI h (x + 180) 0 s := ⟨_, rfl⟩
  have r1 : H1.2.2 = h.2.2 := by rw [e1]; rfl
  have s1 : sm (x + 180) 1 h H1 := by rw [e1]; exact sm_I _ _ (by omega) (by omega)
  have hQ1 : rpQ (S, K, M) H1 (h.2.2 x 0) := rpQ_sm s1 (by omega) hN.1
  have v0 : H1.1 (x + 180) 0 = s := by rw [e1, zsI_W, zsW_s, zup_s]
  show zi_c' _ _ _ _ _ _
  rw [← e1]
  refine ⟨((S, K, M), x + 180, h.2.2 x 0, te), by rw [r1]; rfl, ⟨hQ1, hv, h0, hP, by omega⟩, fun r h2 hq => ?_⟩
  obtain ⟨rfl, f, e2, f0, f1, f2, f3⟩ := hq
  rw [v0] at f0 f1 f2 f3
  replace f0 : f 0 = (rdN S K te s (eN K)).1 := f0
  replace f1 : f 1 = nI (rdR S K te s) := f1
  replace f2 : f 2 = nI (rdX S K te s) := f2
  replace f3 : f 3 = nI (rdC S K te s) := f3
  replace e2 : h2 = zsW H1 (x + 180) f := e2
  have s2 : sm (x + 180) 1 h h2 := by rw [e2]; exact sm_tr s1 (sm_W _ _ (by omega) (by omega))
  have er : h2.2.2 = h.2.2 := by rw [e2]; exact r1
  have eb : h2.1 (x + 180) = f := by rw [e2, zsW_s]
  have hE2 : rpE K h2 (h.2.2 x 0 + 8) := (rpQ_sm s2 (by omega) hN.1).2.1
  have lx := rdX_lt (S := S) (te := te) (s := s) hE.2.1 h0
  have ls := (vE_b hE.2.1 h0).2.2.2.1
  have fin : ∀ v : Int32, v = rcv S K te s q → 0 < eN K ∧ (gR te (-40) 125 ∧ gR s 0 65536 ∧ gR (nI q) 0 5) ∧ some (vI v) = some (vI (rcv S K te s (cN (nI q)))) ∧ qf x h h2 := fun v e => ⟨h0, ⟨g1, g2, g3⟩, zri (by rw [eq]; exact e), sn_sm s2 (by omega) (by omega)⟩
  refine zsw_of ⟨fun e => ?_, fun e => ?_, fun e => ?_, fun e => ?_, fun e => ?_, trivial⟩ (fun e => ?_)
  · have e : q = 0 := by omega
    refine fin _ ?_
    rw [rcv, if_pos e, eb]; exact f2
  · have e : q = 1 := by omega
    refine fin _ ?_
    rw [rcv, if_neg (by omega), if_pos e, eb]; exact f1
  · have e : q = 2 := by omega
    refine fin _ ?_
    rw [rcv, if_neg (by omega), if_neg (by omega), if_pos e, eb]; exact f3
  · have e : q = 3 := by omega
    have ev : rcv S K te s q = bI (decide (ckW 0 (rdX S K te s) (eK K * btR (eR K)) ≠ eC K)) := by rw [rcv, if_neg (by omega), if_neg (by omega), if_neg (by omega), if_pos e]
    refine ⟨(K, x + 180, h.2.2 x 0 + 8, rdX S K te s), by rw [er]; rfl, ⟨hE2, h0, by rw [eb]; exact f2, lx⟩, fun c => fin _ ?_, fun c => fin _ ?_⟩
    · rw [ev, (bI_0 _).mp c]; rfl
    · rw [ev]
      cases hb : decide (ckW 0 (rdX S K te s) (eK K * btR (eR K)) ≠ eC K) with
      | true => rfl
      | false => exact absurd ((bI_0 _).mpr hb) c
  · have e : q = 4 := by omega
    have ev : rcv S K te s q = bI (decide (rdX S K te s = eS K)) := by rw [rcv, if_neg (by omega), if_neg (by omega), if_neg (by omega), if_neg (by omega), if_pos e]
    have es : h2.1 (h2.2.2 x 0 + 8) 7 = nI (eS K) := by rw [er]; exact (hE2.2.2 h0).2.2.2.1
    refine ⟨fun c => fin _ ?_, fun c => fin _ ?_⟩
    · rw [eb, f2, es] at c
      rw [ev, decide_eq_false (fun z => c (by rw [z]))]; rfl
    · rw [eb, f2, es] at c
      rw [ev, decide_eq_true ((nI_eq (by omega) (by omega)).mp c)]; rfl
  · have e : (nI q).toInt < 0 ∨ (0 : Int) + 5 ≤ (nI q).toInt := e
    have e : q = 5 := by omega
    refine fin _ ?_
    rw [rcv, if_neg (by omega), if_neg (by omega), if_neg (by omega), if_neg (by omega), if_neg (by omega), eb]; exact f0
/-- many readings -/
def fsd (S : zD) (K : zE) (te s : Int32) : Nat → Int32
  | 0 => s
  | j + 1 => (rdN S K te (fsd S K te s j) (eN K)).1
def fwr (S : zD) (K : zE) (te s : Int32) (j : Nat) : Bool := decide (¬ rdX S K te (fsd S K te s j) = eS K)
def ftk (S : zD) (K : zE) (te s : Int32) (j : Nat) : Bool := fwr S K te s j && decide (ckW 0 (rdX S K te (fsd S K te s j)) (eK K * btR (eR K)) = eC K)
def fmx (S : zD) (K : zE) (te s : Int32) : Nat → Int32
  | 0 => 0
  | j + 1 => mx2 (fmx S K te s j) (nI (rdR S K te (fsd S K te s j)))
def fav (S : zD) (K : zE) (te s : Int32) (n w : Nat) : Int32 := if w = 0 then nI (fb_ct (fwr S K te s) n) else if w = 1 then nI (fb_ct (ftk S K te s) n) else fmx S K te s n
def ca_X10_fails : (zQ × Nat × Int32 × Int32 × Int32 × Int32) → List zV := fun (Q, x, te, s, m, w) => [vR 19 0 x, vI te, vI s, vI m, vI w]
def cp_X10_fails : (zQ × Nat × Int32 × Int32 × Int32 × Int32) → zH → Prop := fun (Q, x, te, s, m, w) h => rpN Q h x ∧ vQ Q
def cq_X10_fails : (zQ × Nat × Int32 × Int32 × Int32 × Int32) → zH → Option zV → zH → Prop := fun (Q, x, te, s, m, w) h r h' => 0 < eN Q.2.1 ∧ (gR te (-40) 125 ∧ gR s 0 65536 ∧ gR m 1 60 ∧ gR w 0 2) ∧ r = some (vI (fav Q.1 Q.2.1 te s (cN m) (cN w))) ∧ qf x h h'
def cx_X10_fails : (zQ × Nat × Int32 × Int32 × Int32 × Int32) → zH → String → zH → Prop := fun (Q, x, te, s, m, w) h E h' => (eN Q.2.1 = 0 ∧ xIS x h E h') ∨ (0 < eN Q.2.1 ∧ ¬ (gR te (-40) 125 ∧ gR s 0 65536 ∧ gR m 1 60 ∧ gR w 0 2) ∧ xIA x h E h')
theorem rc_X10_fails : ∀ x : (zQ × Nat × Int32 × Int32 × Int32 × Int32), ∃ (j a : Nat) (As : List zV), ca_X10_fails x = vR (10 + 9) j a :: As := by
  rintro ⟨⟨S, K, M⟩, x, te, s, m, w⟩
  exact ⟨_, _, _, rfl⟩
set_option maxHeartbeats 4000000 in
set_option maxRecDepth 100000 in
theorem m_X10_fails : zMx yX10_fails cX10_fails 9 (some .int) ({ frames := 9, cells := 5, slots := 30, locals := 146 } : Room) ((ca_X10_fails, cp_X10_fails, cq_X10_fails) : zC (zQ × Nat × Int32 × Int32 × Int32 × Int32)) cx_X10_fails := by
  refine zMx_of (by decide) ?_
  rintro X Y ⟨⟨S, K, M⟩, x, te, s, m, w⟩ h ⟨hN, hv, hP, -⟩ O Ex hR
  have E := zEx_E Ex
  have hN : rpN (S, K, M) h x := hN
  have hS : rpS S h (h.2.2 x 0 + 1) := hN.1.1
  have hE : rpE K h (h.2.2 x 0 + 8) := hN.1.2.1
  have hs1 : x < h.2.2 x 0 := hN.2.1
  have hs2 : h.2.2 x 0 + 13 ≤ x + 171 := hN.2.2
  have hv : vS S := hv
  have hP : ∀ i, i < eN K → eP K i < dP S := hP
  have B_165 := zr_ireturn (X := X) (Y := Y) (u := 5) (v := 30) O E (Nat.le_of_ble_eq_true rfl) (Nat.le_of_ble_eq_true rfl) dX10_fails_165
  have C_165 : zSd X Y 5 30 165 (fun ls st h1 => ∃ v : Int32, (0 < eN K ∧ (gR te (-40) 125 ∧ gR s 0 65536 ∧ gR m 1 60 ∧ gR w 0 2)) ∧ v = fav S K te s (cN m) (cN w) ∧ st = [vI v] ∧ qf x h h1) := by
    refine zSd_weak B_165 (fun ls st h1 t => ?_)
    obtain ⟨v, g1, rfl, rfl, s1⟩ := t
    exact ⟨g1.1, g1.2, rfl, s1⟩
  have B_163 := zr_iload (X := X) (Y := Y) (u := 5) (v := 30) O dX10_fails_163 (C_165)
  have B_152 := zr_iload (X := X) (Y := Y) (u := 5) (v := 30) O dX10_fails_152 (zr_iconst (x := 1) O dX10_fails_154 rfl (zr_icne (tgt := 163) O dX10_fails_155 rfl B_163 (zr_iload O dX10_fails_158 (zr_goto (tgt := 165) O dX10_fails_160 rfl C_165))))
  have B_142 := zr_iload (X := X) (Y := Y) (u := 5) (v := 30) O dX10_fails_142 (zr_ifne (tgt := 152) O dX10_fails_144 rfl B_152 (zr_iload O dX10_fails_147 (zr_goto (tgt := 165) O dX10_fails_149 rfl C_165)))
  have L_54 : ∀ nn : Nat, zSd X Y 5 30 54 ((fun k ls st h1 => ∃ (n : Nat) (y5 y6 y7 y8 : Int32), k = cN m - n ∧ n ≤ cN m ∧ ls = [some (vR 19 0 x), some (vI te), some (vI s), some (vI m), some (vI w), some (vI y5), some (vI y6), some (vI y7), some (vI y8)] ∧ y5 = nI (fb_ct (fwr S K te s) n) ∧ y6 = nI (fb_ct (ftk S K te s) n) ∧ y7 = fmx S K te s n ∧ y8 = nI n ∧ st = [] ∧ sm (x + 180) 1 h h1 ∧ h1.1 (x + 180) 0 = fsd S K te s n ∧ (0 < eN K ∧ (gR te (-40) 125 ∧ gR s 0 65536 ∧ gR m 1 60 ∧ gR w 0 2)) : Nat → zT) nn) := by
    refine zSd_loop (fun nn ih => ?_)
    have B_136 := zr_iinc (X := X) (Y := Y) (u := 5) (v := 30) (c := 1) O dX10_fails_136 rfl (zr_goto (tgt := 54) O dX10_fails_139 rfl ih)
    have B_133 := zr_iadd (X := X) (Y := Y) (u := 5) (v := 30) O dX10_fails_133 (zr_istore O dX10_fails_134 (B_136))
    have B_132 := zr_iconst (X := X) (Y := Y) (u := 5) (v := 30) (x := 1) O dX10_fails_132 rfl (B_133)
    have B_54 := zr_iload (X := X) (Y := Y) (u := 5) (v := 30) O dX10_fails_54 (zr_iload_n O dX10_fails_56 rfl (zr_icge (tgt := 142) O dX10_fails_57 rfl B_142 (zr_aload_n O dX10_fails_60 rfl (zr_gS (ci := 9) (j := 8) (off := 180) (t := 14) (n := 0) O zc_9 (by decide) rfl tw_295 dX10_fails_61 (zr_aload_n O dX10_fails_64 rfl (zr_gR (ci := 9) (j := 0) (off := 0) (t := 16) (n := 0) O zc_9 (by decide) rfl tw_287 dX10_fails_65 (zr_iload_n O dX10_fails_68 rfl (zr_cV (ci := 4) (n := 2) O m_X5_take (bn_X5_take _ ⟨rfl, rfl⟩) vw_X5_take tw_994 rc_X5_take (zrx hR rfl rfl rfl rfl) dX10_fails_69 (zr_iload O dX10_fails_72 (zr_aload_n O dX10_fails_74 rfl (zr_gS (ci := 9) (j := 8) (off := 180) (t := 14) (n := 0) O zc_9 (by decide) rfl tw_295 dX10_fails_75 (zr_gI (ci := 4) (j := 1) O zc_4 (by decide) rfl tw_231 dX10_fails_78 (zr_max O zwm tw_973 (zrx hR rfl rfl rfl rfl) dX10_fails_81 (zr_istore O dX10_fails_84 (zr_aload_n O dX10_fails_86 rfl (zr_gS (ci := 9) (j := 8) (off := 180) (t := 14) (n := 0) O zc_9 (by decide) rfl tw_295 dX10_fails_87 (zr_gI (ci := 4) (j := 2) O zc_4 (by decide) rfl tw_233 dX10_fails_90 (zr_aload_n O dX10_fails_93 rfl (zr_gR (ci := 9) (j := 0) (off := 0) (t := 16) (n := 0) O zc_9 (by decide) rfl tw_287 dX10_fails_94 (zr_gS (ci := 6) (j := 1) (off := 8) (t := 10) (n := 0) O zc_6 (by decide) rfl tw_175 dX10_fails_97 (zr_gI (ci := 0) (j := 7) O zc_0 (by decide) rfl tw_122 dX10_fails_100 (zr_iceq (tgt := 136) O dX10_fails_103 rfl B_136 (zr_iinc (c := 1) O dX10_fails_106 rfl (zr_iload O dX10_fails_109 (zr_aload_n O dX10_fails_111 rfl (zr_gS (ci := 9) (j := 8) (off := 180) (t := 14) (n := 0) O zc_9 (by decide) rfl tw_295 dX10_fails_112 (zr_aload_n O dX10_fails_115 rfl (zr_gR (ci := 9) (j := 0) (off := 0) (t := 16) (n := 0) O zc_9 (by decide) rfl tw_287 dX10_fails_116 (zr_gS (ci := 6) (j := 1) (off := 8) (t := 10) (n := 0) O zc_6 (by decide) rfl tw_175 dX10_fails_119 (zr_cI (zr_cV (ci := 4) (n := 1) O m_X5_isRefused (bn_X5_isRefused _ ⟨rfl, rfl⟩) vw_X5_isRefused tw_1015 rc_X5_isRefused (zrx hR rfl rfl rfl rfl) dX10_fails_122 (zr_ifeq (tgt := 132) O dX10_fails_125 rfl B_132 (zr_iconst (x := 0) O dX10_fails_128 rfl (zr_goto (tgt := 133) O dX10_fails_129 rfl B_133))))))))))))))))))))))))))))))))))
    refine zSd_weak B_54 (fun ls st h1 t => ?_)
    obtain ⟨n, y5, y6, y7, y8, rfl, hn, rfl, rfl, rfl, rfl, rfl, rfl, s1, v0, g⟩ := t
    have h0 := g.1
    have gm : gR m 0 (nI 60) := ⟨Int32.le_trans (by decide) g.2.2.2.1.1, g.2.2.2.1.2⟩
    obtain ⟨em, hm⟩ := rng (n := 60) (by decide) gm
    refine ⟨fun c => ?_, fun c => ?_⟩
    · rw [em] at c
      have := (nI_leI (by omega) (by omega)).mp c
      have hn2 : n = cN m := by omega
      subst hn2
      obtain ⟨q, rfl, hq, eq⟩ := rngx (n := 2) (by decide) g.2.2.2.2
      have s1' : qf x h h1 := sn_sm s1 (by omega) (by omega)
      refine ⟨fun d => ⟨fun f => ⟨_, g, ?_, rfl, s1'⟩, fun f => ⟨_, g, ?_, rfl, s1'⟩⟩, fun d => ⟨_, g, ?_, rfl, s1'⟩⟩
      · have d1 : ¬ q = 0 := fun z => d (by rw [z]; rfl)
        have d2 : ¬ q = 1 := fun z => f (by rw [z]; rfl)
        rw [eq, fav, if_neg d1, if_neg d2]
      · have d1 : ¬ q = 0 := fun z => d (by rw [z]; rfl)
        have d2 : q = 1 := (nI_eq (b := 1) (by omega) (by omega)).mp f
        rw [eq, fav, if_neg d1, if_pos d2]
      · have d1 : q = 0 := (nI_eq (b := 0) (by omega) (by omega)).mp d
        rw [eq, fav, if_pos d1]
    · rw [em] at c
      have hn2 : n < cN m := Nat.not_le.mp (fun z => c ((nI_leI (by omega) (by omega)).mpr z))
      have r1 : h1.2.2 = h.2.2 := by rw [s1.2]
      have hQ1 : rpQ (S, K, M) h1 (h.2.2 x 0) := rpQ_sm s1 (by omega) hN.1
      refine ⟨((S, K, M), x + 180, h.2.2 x 0, te), by rw [r1]; rfl, ⟨hQ1, hv, h0, hP, by omega⟩, fun r h2 hq => ?_⟩
      obtain ⟨rfl, f, e2, f0, f1, f2, f3⟩ := hq
      rw [v0] at f0 f1 f2
      replace f0 : f 0 = fsd S K te s (n + 1) := f0
      replace f1 : f 1 = nI (rdR S K te (fsd S K te s n)) := f1
      replace f2 : f 2 = nI (rdX S K te (fsd S K te s n)) := f2
      replace e2 : h2 = zsW h1 (x + 180) f := e2
      have s2 : sm (x + 180) 1 h h2 := by rw [e2]; exact sm_tr s1 (sm_W _ _ (by omega) (by omega))
      have er : h2.2.2 = h.2.2 := by rw [e2]; exact r1
      have eb : h2.1 (x + 180) = f := by rw [e2, zsW_s]
      have hE2 : rpE K h2 (h.2.2 x 0 + 8) := (rpQ_sm s2 (by omega) hN.1).2.1
      have lx := rdX_lt (S := S) (te := te) (s := fsd S K te s n) hE.2.1 h0
      have ls := (vE_b hE.2.1 h0).2.2.2.1
      have es : h2.1 (h2.2.2 x 0 + 8) 7 = nI (eS K) := by rw [er]; exact (hE2.2.2 h0).2.2.2.1
      have emx : (if fmx S K te s n < h2.1 (x + 180) 1 then h2.1 (x + 180) 1 else fmx S K te s n) = fmx S K te s (n + 1) := by rw [eb, f1]; rfl
      refine ⟨fun d => ?_, fun d => ⟨(K, x + 180, h.2.2 x 0 + 8, rdX S K te (fsd S K te s n)), by rw [er]; rfl, ⟨hE2, h0, by rw [eb]; exact f2, lx⟩, ?_⟩⟩
      · rw [eb, f2, es] at d
        have hd := (nI_eq (by omega) (by omega)).mp d
        have w1 : fwr S K te s n = false := decide_eq_false (fun z => z hd)
        have w2 : ftk S K te s n = false := by rw [ftk, w1]; rfl
        exact ⟨cN m - (n + 1), by omega, n + 1, _, _, _, _, rfl, by omega, rfl, by rw [fb_ct_succ, w1]; rfl, by rw [fb_ct_succ, w2]; rfl, emx, nI_1 n, rfl, s2, by rw [eb]; exact f0, g⟩
      · rw [eb, f2, es] at d
        have w1 : fwr S K te s n = true := decide_eq_true (fun z => d (by rw [z]))
        refine zmg (k := _) (c := cf_X5_isRefused (K, x + 180, h.2.2 x 0 + 8, rdX S K te (fsd S K te s n)) h2 = 0) (x := 1) (y := 0) ?_
        refine ⟨cN m - (n + 1), by omega, n + 1, _, _, _, _, rfl, by omega, rfl, by rw [fb_ct_succ, w1, nI_1]; rfl, ?_, emx, nI_1 n, rfl, s2, by rw [eb]; exact f0, g⟩
        rw [fb_ct_succ, ftk, w1]
        show _ + (if bI (decide (ckW 0 (rdX S K te (fsd S K te s n)) (eK K * btR (eR K)) ≠ eC K)) = 0 then (1 : Int32) else 0) = _
        by_cases hz : ckW 0 (rdX S K te (fsd S K te s n)) (eK K * btR (eR K)) = eC K
        · rw [if_pos ((bI_0 _).mpr (decide_eq_false (fun z => z hz))), decide_eq_true hz]; exact nI_1 _
        · rw [if_neg (fun z => of_decide_eq_false ((bI_0 _).mp z) hz), decide_eq_false hz]; exact Int32.add_zero _
  have B_54 := zSd_any L_54
  have B_0 := zr_aload_n (X := X) (Y := Y) (u := 0) (v := 0) O dX10_fails_0 rfl (zr_xV (u' := 1) (v' := 6) (ci := 9) (n := 0) O Ex m_X10_needEnrolled (bn_X10_needEnrolled { frames := 0, cells := 0, slots := 0, locals := 0 } ⟨rfl, rfl⟩) vw_X10_needEnrolled tw_859 rc_X10_needEnrolled (zrx hR rfl rfl rfl rfl) (Nat.le_of_ble_eq_true rfl) (Nat.le_of_ble_eq_true rfl) (Nat.le_of_ble_eq_true rfl) (Nat.le_of_ble_eq_true rfl) dX10_fails_1 (zr_aload_n O dX10_fails_4 rfl (zr_iload_n O dX10_fails_5 rfl (zr_xV (u' := 2) (v' := 12) (ci := 9) (n := 1) O Ex m_X10_needHeat (bn_X10_needHeat { frames := 0, cells := 0, slots := 0, locals := 0 } ⟨rfl, rfl⟩) vw_X10_needHeat tw_900 rc_X10_needHeat (zrx hR rfl rfl rfl rfl) (Nat.le_of_ble_eq_true rfl) (Nat.le_of_ble_eq_true rfl) (Nat.le_of_ble_eq_true rfl) (Nat.le_of_ble_eq_true rfl) dX10_fails_6 (zr_aload_n O dX10_fails_9 rfl (zr_iload_n O dX10_fails_10 rfl (zr_iconst (x := 0) O dX10_fails_11 rfl (zr_ldcw (x := (65536)) O dX10_fails_12 tw_993 (zr_xV (u' := 3) (v' := 18) (ci := 9) (n := 3) O Ex m_X10_needBetween (bn_X10_needBetween { frames := 0, cells := 0, slots := 0, locals := 0 } ⟨rfl, rfl⟩) vw_X10_needBetween tw_457 rc_X10_needBetween (zrx hR rfl rfl rfl rfl) (Nat.le_of_ble_eq_true rfl) (Nat.le_of_ble_eq_true rfl) (Nat.le_of_ble_eq_true rfl) (Nat.le_of_ble_eq_true rfl) dX10_fails_15 (zr_aload_n O dX10_fails_18 rfl (zr_iload_n O dX10_fails_19 rfl (zr_iconst (x := 1) O dX10_fails_20 rfl (zr_bipush (x := (60)) O dX10_fails_21 (by decide) (zr_xV (u' := 4) (v' := 24) (ci := 9) (n := 3) O Ex m_X10_needBetween (bn_X10_needBetween { frames := 0, cells := 0, slots := 0, locals := 0 } ⟨rfl, rfl⟩) vw_X10_needBetween tw_457 rc_X10_needBetween (zrx hR rfl rfl rfl rfl) (Nat.le_of_ble_eq_true rfl) (Nat.le_of_ble_eq_true rfl) (Nat.le_of_ble_eq_true rfl) (Nat.le_of_ble_eq_true rfl) dX10_fails_23 (zr_aload_n O dX10_fails_26 rfl (zr_iload O dX10_fails_27 (zr_iconst (x := 0) O dX10_fails_29 rfl (zr_iconst (x := 2) O dX10_fails_30 rfl (zr_xV (u' := 5) (v' := 30) (ci := 9) (n := 3) O Ex m_X10_needBetween (bn_X10_needBetween { frames := 0, cells := 0, slots := 0, locals := 0 } ⟨rfl, rfl⟩) vw_X10_needBetween tw_457 rc_X10_needBetween (zrx hR rfl rfl rfl rfl) (Nat.le_of_ble_eq_true rfl) (Nat.le_of_ble_eq_true rfl) (Nat.le_of_ble_eq_true rfl) (Nat.le_of_ble_eq_true rfl) dX10_fails_31 (zr_iconst (x := 0) O dX10_fails_34 rfl (zr_istore O dX10_fails_35 (zr_iconst (x := 0) O dX10_fails_37 rfl (zr_istore O dX10_fails_38 (zr_iconst (x := 0) O dX10_fails_40 rfl (zr_istore O dX10_fails_41 (zr_aload_n O dX10_fails_43 rfl (zr_gS (ci := 9) (j := 8) (off := 180) (t := 14) (n := 0) O zc_9 (by decide) rfl tw_295 dX10_fails_44 (zr_iload_n O dX10_fails_47 rfl (zr_pI (ci := 4) (j := 0) O zc_4 (by decide) rfl rfl rfl tw_229 dX10_fails_48 (zr_iconst (x := 0) O dX10_fails_51 rfl (zr_istore O dX10_fails_52 (B_54))))))))))))))))))))))))))))))))
  refine ⟨rfl, Nat.le_of_ble_eq_true rfl, _, B_0, ?_⟩
  refine ⟨((S, K, M), x), rfl, hN, fun E h' hd => Or.inl hd, fun r h1 hq => ?_⟩
  obtain ⟨rfl, eh, h0⟩ := hq
  obtain rfl := eh.symm
  have h0 : 0 < eN K := h0
  refine ⟨(x, te), rfl, trivial, fun E h' hd => Or.inr ⟨h0, fun z => hd.1 z.1, hd.2⟩, fun r h1 hq => ?_⟩
  obtain ⟨rfl, eh, g1⟩ := hq
  obtain rfl := eh.symm
  refine ⟨(x, s, 0, 65536), rfl, trivial, fun E h' hd => Or.inr ⟨h0, fun z => hd.1 z.2.1, hd.2⟩, fun r h1 hq => ?_⟩
  obtain ⟨rfl, eh, g2⟩ := hq
  obtain rfl := eh.symm
  refine ⟨(x, m, 1, 60), rfl, trivial, fun E h' hd => Or.inr ⟨h0, fun z => hd.1 z.2.2.1, hd.2⟩, fun r h1 hq => ?_⟩
  obtain ⟨rfl, eh, g3⟩ := hq
  obtain rfl := eh.symm
  refine ⟨(x, w, 0, 2), rfl, trivial, fun E h' hd => Or.inr ⟨h0, fun z => hd.1 z.2.2.2, hd.2⟩, fun r h1 hq => ?_⟩
  obtain ⟨rfl, eh, g4⟩ := hq
  obtain rfl := eh.symm
  exact ⟨cN m - 0, 0, _, _, _, _, rfl, Nat.zero_le _, rfl, rfl, rfl, rfl, rfl, rfl, sm_I _ _ (by omega) (by omega), by rw [zsI_W, zsW_s, zup_s]; rfl, h0, g1, g2, g3, g4⟩
def sfv (S : zD) (K : zE) (te : Int32) (w : Nat) : Int32 := if w = 0 then nI (fb_ct (shk S K te) (eN K)) else if w = 1 then nI (fb_ct (sfb K (mk (shk S K te) (eN K))) (eK K)) else fuI K (mk (shk S K te) (eN K))
def ca_X10_safe : (zQ × Nat × Int32 × Int32) → List zV := fun (Q, x, te, w) => [vR 19 0 x, vI te, vI w]
def cp_X10_safe : (zQ × Nat × Int32 × Int32) → zH → Prop := fun (Q, x, te, w) h => rpN Q h x ∧ vQ Q
def cq_X10_safe : (zQ × Nat × Int32 × Int32) → zH → Option zV → zH → Prop := fun (Q, x, te, w) h r h' => 0 < eN Q.2.1 ∧ (gR te (-40) 125 ∧ gR w 0 2) ∧ r = some (vI (sfv Q.1 Q.2.1 te (cN w))) ∧ h = h'
def cx_X10_safe : (zQ × Nat × Int32 × Int32) → zH → String → zH → Prop := fun (Q, x, te, w) h E h' => (eN Q.2.1 = 0 ∧ xIS x h E h') ∨ (0 < eN Q.2.1 ∧ ¬ (gR te (-40) 125 ∧ gR w 0 2) ∧ xIA x h E h')
theorem rc_X10_safe : ∀ x : (zQ × Nat × Int32 × Int32), ∃ (j a : Nat) (As : List zV), ca_X10_safe x = vR (10 + 9) j a :: As := by
  rintro ⟨⟨S, K, M⟩, x, te, w⟩
  exact ⟨_, _, _, rfl⟩
set_option maxHeartbeats 4000000 in
set_option maxRecDepth 100000 in
theorem m_X10_safe : zMx yX10_safe cX10_safe 4 (some .int) ({ frames := 9, cells := 3, slots := 18, locals := 146 } : Room) ((ca_X10_safe, cp_X10_safe, cq_X10_safe) : zC (zQ × Nat × Int32 × Int32)) cx_X10_safe := by
  refine zMx_of (by decide) ?_
  rintro X Y ⟨⟨S, K, M⟩, x, te, w⟩ h ⟨hN, hv, hP, -⟩ O Ex hR
  have E := zEx_E Ex
  have B_74 := zr_ireturn (X := X) (Y := Y) (u := 3) (v := 18) O E (Nat.le_of_ble_eq_true rfl) (Nat.le_of_ble_eq_true rfl) dX10_safe_74
  have B_63 := zr_aload_n (X := X) (Y := Y) (u := 3) (v := 18) O dX10_safe_63 rfl (zr_gR (ci := 9) (j := 0) (off := 0) (t := 16) (n := 0) O zc_9 (by decide) rfl tw_287 dX10_safe_64 (zr_gS (ci := 6) (j := 1) (off := 8) (t := 10) (n := 0) O zc_6 (by decide) rfl tw_175 dX10_safe_67 (zr_iload_n O dX10_safe_70 rfl (zr_cI (zr_cV (ci := 0) (n := 1) O m_X1_firstUnsafe (bn_X1_firstUnsafe _ ⟨rfl, rfl⟩) vw_X1_firstUnsafe tw_1055 rc_X1_firstUnsafe (zrx hR rfl rfl rfl rfl) dX10_safe_71 (B_74))))))
  have B_44 := zr_iload_n (X := X) (Y := Y) (u := 3) (v := 18) O dX10_safe_44 rfl (zr_iconst (x := 1) O dX10_safe_45 rfl (zr_icne (tgt := 63) O dX10_safe_46 rfl B_63 (zr_aload_n O dX10_safe_49 rfl (zr_gR (ci := 9) (j := 0) (off := 0) (t := 16) (n := 0) O zc_9 (by decide) rfl tw_287 dX10_safe_50 (zr_gS (ci := 6) (j := 1) (off := 8) (t := 10) (n := 0) O zc_6 (by decide) rfl tw_175 dX10_safe_53 (zr_iload_n O dX10_safe_56 rfl (zr_cI (zr_cV (ci := 0) (n := 1) O m_X1_safeBlocks (bn_X1_safeBlocks _ ⟨rfl, rfl⟩) vw_X1_safeBlocks tw_1043 rc_X1_safeBlocks (zrx hR rfl rfl rfl rfl) dX10_safe_57 (zr_goto (tgt := 74) O dX10_safe_60 rfl B_74)))))))))
  have B_0 := zr_aload_n (X := X) (Y := Y) (u := 0) (v := 0) O dX10_safe_0 rfl (zr_xV (u' := 1) (v' := 6) (ci := 9) (n := 0) O Ex m_X10_needEnrolled (bn_X10_needEnrolled { frames := 0, cells := 0, slots := 0, locals := 0 } ⟨rfl, rfl⟩) vw_X10_needEnrolled tw_859 rc_X10_needEnrolled (zrx hR rfl rfl rfl rfl) (Nat.le_of_ble_eq_true rfl) (Nat.le_of_ble_eq_true rfl) (Nat.le_of_ble_eq_true rfl) (Nat.le_of_ble_eq_true rfl) dX10_safe_1 (zr_aload_n O dX10_safe_4 rfl (zr_iload_n O dX10_safe_5 rfl (zr_xV (u' := 2) (v' := 12) (ci := 9) (n := 1) O Ex m_X10_needHeat (bn_X10_needHeat { frames := 0, cells := 0, slots := 0, locals := 0 } ⟨rfl, rfl⟩) vw_X10_needHeat tw_900 rc_X10_needHeat (zrx hR rfl rfl rfl rfl) (Nat.le_of_ble_eq_true rfl) (Nat.le_of_ble_eq_true rfl) (Nat.le_of_ble_eq_true rfl) (Nat.le_of_ble_eq_true rfl) dX10_safe_6 (zr_aload_n O dX10_safe_9 rfl (zr_iload_n O dX10_safe_10 rfl (zr_iconst (x := 0) O dX10_safe_11 rfl (zr_iconst (x := 2) O dX10_safe_12 rfl (zr_xV (u' := 3) (v' := 18) (ci := 9) (n := 3) O Ex m_X10_needBetween (bn_X10_needBetween { frames := 0, cells := 0, slots := 0, locals := 0 } ⟨rfl, rfl⟩) vw_X10_needBetween tw_457 rc_X10_needBetween (zrx hR rfl rfl rfl rfl) (Nat.le_of_ble_eq_true rfl) (Nat.le_of_ble_eq_true rfl) (Nat.le_of_ble_eq_true rfl) (Nat.le_of_ble_eq_true rfl) dX10_safe_13 (zr_aload_n O dX10_safe_16 rfl (zr_gR (ci := 9) (j := 0) (off := 0) (t := 16) (n := 0) O zc_9 (by decide) rfl tw_287 dX10_safe_17 (zr_gS (ci := 6) (j := 1) (off := 8) (t := 10) (n := 0) O zc_6 (by decide) rfl tw_175 dX10_safe_20 (zr_aload_n O dX10_safe_23 rfl (zr_gR (ci := 9) (j := 0) (off := 0) (t := 16) (n := 0) O zc_9 (by decide) rfl tw_287 dX10_safe_24 (zr_gS (ci := 6) (j := 0) (off := 1) (t := 15) (n := 0) O zc_6 (by decide) rfl tw_172 dX10_safe_27 (zr_iload_n O dX10_safe_30 rfl (zr_cI (zr_cV (ci := 0) (n := 2) O m_X1_shakyAt (bn_X1_shakyAt _ ⟨rfl, rfl⟩) vw_X1_shakyAt tw_1035 rc_X1_shakyAt (zrx hR rfl rfl rfl rfl) dX10_safe_31 (zr_istore_n O dX10_safe_34 rfl (zr_iload_n O dX10_safe_35 rfl (zr_ifne (tgt := 44) O dX10_safe_36 rfl B_44 (zr_iload_n O dX10_safe_39 rfl (zr_cI (zr_cS (n := 1) O m_J6_bitCount_0f7a4 (bn_J6_bitCount_0f7a4 _ ⟨rfl, rfl⟩) tw_767 tw_876 (zrx hR rfl rfl rfl rfl) dX10_safe_40 (zr_ireturn O E (Nat.le_of_ble_eq_true rfl) (Nat.le_of_ble_eq_true rfl) dX10_safe_43)))))))))))))))))))))))))
  refine ⟨rfl, Nat.le_of_ble_eq_true rfl, _, B_0, ?_⟩
  have hN : rpN (S, K, M) h x := hN
  have hS : rpS S h (h.2.2 x 0 + 1) := hN.1.1
  have hE : rpE K h (h.2.2 x 0 + 8) := hN.1.2.1
  have hP : ∀ i, i < eN K → eP K i < dP S := hP
  have h28 : eN K ≤ 28 := hE.2.1.1
  refine ⟨((S, K, M), x), rfl, hN, fun E h' hd => Or.inl hd, fun r h1 hq => ?_⟩
  obtain ⟨rfl, eh, h0⟩ := hq
  obtain rfl := eh.symm
  have h0 : 0 < eN K := h0
  refine ⟨(x, te), rfl, trivial, fun E h' hd => Or.inr ⟨h0, fun z => hd.1 z.1, hd.2⟩, fun r h1 hq => ?_⟩
  obtain ⟨rfl, eh, g1⟩ := hq
  obtain rfl := eh.symm
  refine ⟨(x, w, 0, 2), rfl, trivial, fun E h' hd => Or.inr ⟨h0, fun z => hd.1 z.2, hd.2⟩, fun r h1 hq => ?_⟩
  obtain ⟨rfl, eh, g2⟩ := hq
  obtain rfl := eh.symm
  obtain ⟨q, rfl, hq, eq⟩ := rngx (n := 2) (by decide) g2
  have lm : mk (shk S K te) (eN K) < 2 ^ 28 := Nat.lt_of_lt_of_le (mk_lt _ _) (Nat.pow_le_pow_right (by omega) h28)
  have fin : ∀ v : Int32, v = sfv S K te q → 0 < eN K ∧ (gR te (-40) 125 ∧ gR (nI q) 0 2) ∧ some (vI v) = some (vI (sfv S K te (cN (nI q)))) ∧ h = h := fun v e => ⟨h0, ⟨g1, g2⟩, zri (by rw [eq]; exact e), rfl⟩
  refine ⟨(S, K, h.2.2 x 0 + 8, h.2.2 x 0 + 1, te), rfl, ⟨hE, hS, hP⟩, fun c => ⟨fun d => ⟨(K, h.2.2 x 0 + 8, mk (shk S K te) (eN K)), rfl, ⟨hE, h0, lm⟩, fin _ ?_⟩, fun d => ⟨(K, h.2.2 x 0 + 8, mk (shk S K te) (eN K)), rfl, ⟨hE, h0, lm⟩, fin _ ?_⟩⟩, fun c => ⟨nI (mk (shk S K te) (eN K)), rfl, trivial, fin _ ?_⟩⟩
  · have d1 : ¬ q = 0 := fun z => c (by rw [z]; rfl)
    have d2 : ¬ q = 1 := fun z => d (by rw [z]; rfl)
    rw [sfv, if_neg d1, if_neg d2]; rfl
  · have d1 : ¬ q = 0 := fun z => c (by rw [z]; rfl)
    have d2 : q = 1 := (nI_eq (b := 1) (by omega) (by omega)).mp d
    rw [sfv, if_neg d1, if_pos d2]; rfl
  · have d1 : q = 0 := (nI_eq (b := 0) (by omega) (by omega)).mp c
    show pcI (nI (mk (shk S K te) (eN K))) = _
    rw [sfv, if_pos d1, pcI_pop (by omega), pop_mk _ (by omega)]
/-- heats going down or up from the usual one -/
def hts (w n : Nat) : Int32 := if w = 0 then 20 - nI n else 20 + nI n
def htn (w : Nat) : Nat := if w = 0 then 60 else 105
def rgc (S : zD) (K : zE) (w : Nat) : Int32 := if sfA S K 20 then hts w (fa_first (fun n => !sfA S K (hts w (n + 1))) (htn w)) else 999
theorem hts_s : ∀ n, n ≤ 105 → hts 0 n + (-1) = hts 0 (n + 1) ∧ hts 1 n + 1 = hts 1 (n + 1) := by decide +kernel
theorem hts_d : ∀ n, n ≤ 60 → (hts 0 (n + 1) < -40 ↔ 60 ≤ n) ∧ ¬ 125 < hts 0 (n + 1) := by decide +kernel
theorem hts_u : ∀ n, n ≤ 105 → ¬ hts 1 (n + 1) < -40 ∧ (125 < hts 1 (n + 1) ↔ 105 ≤ n) := by decide +kernel
def ca_X10_range : (zQ × Nat × Int32) → List zV := fun (Q, x, w) => [vR 19 0 x, vI w]
def cp_X10_range : (zQ × Nat × Int32) → zH → Prop := fun (Q, x, w) h => rpN Q h x ∧ vQ Q
def cq_X10_range : (zQ × Nat × Int32) → zH → Option zV → zH → Prop := fun (Q, x, w) h r h' => 0 < eN Q.2.1 ∧ gR w 0 1 ∧ r = some (vI (rgc Q.1 Q.2.1 (cN w))) ∧ h = h'
def cx_X10_range : (zQ × Nat × Int32) → zH → String → zH → Prop := fun (Q, x, w) h E h' => (eN Q.2.1 = 0 ∧ xIS x h E h') ∨ (0 < eN Q.2.1 ∧ ¬ gR w 0 1 ∧ xIA x h E h')
theorem rc_X10_range : ∀ x : (zQ × Nat × Int32), ∃ (j a : Nat) (As : List zV), ca_X10_range x = vR (10 + 9) j a :: As := by
  rintro ⟨⟨S, K, M⟩, x, w⟩
  exact ⟨_, _, _, rfl⟩
set_option maxHeartbeats 4000000 in
set_option maxRecDepth 100000 in
theorem m_X10_range : zMx yX10_range cX10_range 5 (some .int) ({ frames := 8, cells := 2, slots := 12, locals := 125 } : Room) ((ca_X10_range, cp_X10_range, cq_X10_range) : zC (zQ × Nat × Int32)) cx_X10_range := by
  refine zMx_of (by decide) ?_
  rintro X Y ⟨⟨S, K, M⟩, x, w⟩ h ⟨hN, hv, hP, -⟩ O Ex hR
  have E := zEx_E Ex
  have hN : rpN (S, K, M) h x := hN
  have hP : ∀ i, i < eN K → eP K i < dP S := hP
  have B_79 := zr_iload_n (X := X) (Y := Y) (u := 2) (v := 12) O dX10_range_79 rfl (zr_ireturn O E (Nat.le_of_ble_eq_true rfl) (Nat.le_of_ble_eq_true rfl) dX10_range_80)
  have L_42 : ∀ nn : Nat, zSd X Y 2 12 42 ((fun k ls st h1 => ∃ (n q : Nat) (y2 y3 y4 : Int32), k = htn q - n ∧ n ≤ htn q ∧ ls = [some (vR 19 0 x), some (vI w), some (vI y2), some (vI y3), some (vI y4)] ∧ y2 = (if q = 0 then -1 else 1) ∧ y3 = hts q n ∧ y4 = hts q (n + 1) ∧ st = [] ∧ h = h1 ∧ w = nI q ∧ q ≤ 1 ∧ 0 < eN K ∧ sfA S K 20 = true ∧ ∀ j, j < n → (!sfA S K (hts q (j + 1))) = false : Nat → zT) nn) := by
    refine zSd_loop (fun nn ih => ?_)
    have B_67 := zr_iload (X := X) (Y := Y) (u := 2) (v := 12) O dX10_range_67 (zr_istore_n O dX10_range_69 rfl (zr_iload O dX10_range_70 (zr_iload_n O dX10_range_72 rfl (zr_iadd O dX10_range_73 (zr_istore O dX10_range_74 (zr_goto (tgt := 42) O dX10_range_76 rfl ih))))))
    have B_42 := zr_iload (X := X) (Y := Y) (u := 2) (v := 12) O dX10_range_42 (zr_bipush (x := (-40)) O dX10_range_44 (by decide) (zr_iclt (tgt := 79) O dX10_range_46 rfl B_79 (zr_iload O dX10_range_49 (zr_bipush (x := (125)) O dX10_range_51 (by decide) (zr_icgt (tgt := 79) O dX10_range_53 rfl B_79 (zr_aload_n O dX10_range_56 rfl (zr_iload O dX10_range_57 (zr_cI (zr_cV (ci := 9) (n := 1) O m_X10_isSafeAt (bn_X10_isSafeAt _ ⟨rfl, rfl⟩) vw_X10_isSafeAt tw_1066 rc_X10_isSafeAt (zrx hR rfl rfl rfl rfl) dX10_range_59 (zr_ifne (tgt := 67) O dX10_range_62 rfl B_67 (zr_iload_n O dX10_range_65 rfl (zr_ireturn O E (Nat.le_of_ble_eq_true rfl) (Nat.le_of_ble_eq_true rfl) dX10_range_66))))))))))))
    refine zSd_weak B_42 (fun ls st h1 t => ?_)
    obtain ⟨n, q, y2, y3, y4, rfl, hn, rfl, rfl, rfl, rfl, rfl, rfl, rfl, hq, h0, hs, hb⟩ := t
    have eq : cN (nI q) = q := nI_clamp (by omega)
    have g2 : gR (nI q) 0 1 := ⟨nI_pos' (by omega), nI_le (b := 1) hq (by decide)⟩
    have n5 : n ≤ 105 := by unfold htn at hn; split at hn <;> omega
    have lim : (hts q (n + 1) < -40 ∨ 125 < hts q (n + 1)) ↔ htn q ≤ n := by
      have hq2 : q = 0 ∨ q = 1 := by omega
      rcases hq2 with rfl | rfl
      · have hn : n ≤ 60 := hn
        have := hts_d n hn
        exact ⟨fun z => z.elim this.1.mp (fun z => absurd z this.2), fun z => Or.inl (this.1.mpr z)⟩
      · have hn : n ≤ 105 := hn
        have := hts_u n hn
        exact ⟨fun z => z.elim (fun z => absurd z this.1) this.2.mp, fun z => Or.inr (this.2.mpr z)⟩
    have fin : ∀ m : Nat, fa_first (fun n => !sfA S K (hts q (n + 1))) (htn q) = m → 0 < eN K ∧ gR (nI q) 0 1 ∧ some (vI (hts q m)) = some (vI (rgc S K (cN (nI q)))) ∧ h = h := fun m e => ⟨h0, g2, zri (by rw [eq, rgc, hs, e]; rfl), rfl⟩
    refine ⟨fun c => ?_, fun c => ⟨fun d => ?_, fun d => ⟨((S, K, M), x, hts q (n + 1)), rfl, ⟨hN, h0, hP⟩, fun f => ?_, fun f => ?_⟩⟩⟩
    · have := lim.mp (Or.inl c)
      have hn3 : n = htn q := by omega
      subst hn3
      exact fin _ (first_end hb)
    · have := lim.mp (Or.inr d)
      have hn3 : n = htn q := by omega
      subst hn3
      exact fin _ (first_end hb)
    · have hlt : n < htn q := Nat.not_le.mp (fun z => (lim.mpr z).elim c d)
      replace f : ¬ bI (sfA S K (hts q (n + 1))) = 0 := f
      have hf : sfA S K (hts q (n + 1)) = true := by
        cases hb : sfA S K (hts q (n + 1)) with
        | true => rfl
        | false => exact absurd ((bI_0 _).mpr hb) f
      refine ⟨htn q - (n + 1), by omega, n + 1, q, _, _, _, rfl, by omega, rfl, rfl, rfl, ?_, rfl, rfl, rfl, hq, h0, hs, fun j hj => ?_⟩
      · have hq2 : q = 0 ∨ q = 1 := by omega
        rcases hq2 with rfl | rfl
        · have hlt : n < 60 := hlt
          exact (hts_s (n + 1) (by omega)).1
        · have hlt : n < 105 := hlt
          exact (hts_s (n + 1) (by omega)).2
      · by_cases e : j = n
        · rw [e, hf]; rfl
        · exact hb j (by omega)
    · have hlt : n < htn q := Nat.not_le.mp (fun z => (lim.mpr z).elim c d)
      replace f : bI (sfA S K (hts q (n + 1))) = 0 := f
      exact fin _ (first_at hlt (by rw [(bI_0 _).mp f]; rfl) hb)
  have B_42 := zSd_any L_42
  have B_33 := zr_istore_n (X := X) (Y := Y) (u := 2) (v := 12) O dX10_range_33 rfl (zr_bipush (x := (20)) O dX10_range_34 (by decide) (zr_istore_n O dX10_range_36 rfl (zr_iload_n O dX10_range_37 rfl (zr_iload_n O dX10_range_38 rfl (zr_iadd O dX10_range_39 (zr_istore O dX10_range_40 (B_42)))))))
  have B_32 := zr_iconst (X := X) (Y := Y) (u := 2) (v := 12) (x := 1) O dX10_range_32 rfl (B_33)
  have B_24 := zr_iload_n (X := X) (Y := Y) (u := 2) (v := 12) O dX10_range_24 rfl (zr_ifne (tgt := 32) O dX10_range_25 rfl B_32 (zr_iconst (x := (-1)) O dX10_range_28 rfl (zr_goto (tgt := 33) O dX10_range_29 rfl B_33)))
  have B_0 := zr_aload_n (X := X) (Y := Y) (u := 0) (v := 0) O dX10_range_0 rfl (zr_xV (u' := 1) (v' := 6) (ci := 9) (n := 0) O Ex m_X10_needEnrolled (bn_X10_needEnrolled { frames := 0, cells := 0, slots := 0, locals := 0 } ⟨rfl, rfl⟩) vw_X10_needEnrolled tw_859 rc_X10_needEnrolled (zrx hR rfl rfl rfl rfl) (Nat.le_of_ble_eq_true rfl) (Nat.le_of_ble_eq_true rfl) (Nat.le_of_ble_eq_true rfl) (Nat.le_of_ble_eq_true rfl) dX10_range_1 (zr_aload_n O dX10_range_4 rfl (zr_iload_n O dX10_range_5 rfl (zr_iconst (x := 0) O dX10_range_6 rfl (zr_iconst (x := 1) O dX10_range_7 rfl (zr_xV (u' := 2) (v' := 12) (ci := 9) (n := 3) O Ex m_X10_needBetween (bn_X10_needBetween { frames := 0, cells := 0, slots := 0, locals := 0 } ⟨rfl, rfl⟩) vw_X10_needBetween tw_457 rc_X10_needBetween (zrx hR rfl rfl rfl rfl) (Nat.le_of_ble_eq_true rfl) (Nat.le_of_ble_eq_true rfl) (Nat.le_of_ble_eq_true rfl) (Nat.le_of_ble_eq_true rfl) dX10_range_8 (zr_aload_n O dX10_range_11 rfl (zr_bipush (x := (20)) O dX10_range_12 (by decide) (zr_cI (zr_cV (ci := 9) (n := 1) O m_X10_isSafeAt (bn_X10_isSafeAt _ ⟨rfl, rfl⟩) vw_X10_isSafeAt tw_1066 rc_X10_isSafeAt (zrx hR rfl rfl rfl rfl) dX10_range_14 (zr_ifne (tgt := 24) O dX10_range_17 rfl B_24 (zr_sipush (x := (999)) O dX10_range_20 (by decide) (zr_ireturn O E (Nat.le_of_ble_eq_true rfl) (Nat.le_of_ble_eq_true rfl) dX10_range_23)))))))))))))
  refine ⟨rfl, Nat.le_of_ble_eq_true rfl, _, B_0, ?_⟩
  refine ⟨((S, K, M), x), rfl, hN, fun E h' hd => Or.inl hd, fun r h1 hq => ?_⟩
  obtain ⟨rfl, eh, h0⟩ := hq
  obtain rfl := eh.symm
  have h0 : 0 < eN K := h0
  refine ⟨(x, w, 0, 1), rfl, trivial, fun E h' hd => Or.inr ⟨h0, hd.1, hd.2⟩, fun r h1 hq => ?_⟩
  obtain ⟨rfl, eh, g2⟩ := hq
  obtain rfl := eh.symm
  have g2 : gR w 0 1 := g2
  obtain ⟨q, rfl, hq, eq⟩ := rngx (n := 1) (by decide) g2
  refine ⟨((S, K, M), x, 20), rfl, ⟨hN, h0, hP⟩, fun f => ?_, fun f => ⟨h0, g2, zri ?_, rfl⟩⟩
  · replace f : ¬ bI (sfA S K 20) = 0 := f
    have hf : sfA S K 20 = true := by
      cases hb : sfA S K 20 with
      | true => rfl
      | false => exact absurd ((bI_0 _).mpr hb) f
    have hq2 : q = 0 ∨ q = 1 := by omega
    have hb : ∀ j, j < 0 → (!sfA S K (hts q (j + 1))) = false := fun j hj => absurd hj (by omega)
    rcases hq2 with rfl | rfl
    · exact ⟨fun c => absurd rfl c, fun c => ⟨htn 0 - 0, 0, 0, _, _, _, rfl, Nat.zero_le _, rfl, rfl, by decide, by decide, rfl, rfl, rfl, by omega, h0, hf, hb⟩⟩
    · exact ⟨fun c => ⟨htn 1 - 0, 0, 1, _, _, _, rfl, Nat.zero_le _, rfl, rfl, by decide, by decide, rfl, rfl, rfl, by omega, h0, hf, hb⟩, fun c => absurd c (by decide)⟩
  · replace f : bI (sfA S K 20) = 0 := f
    rw [eq, rgc, (bI_0 _).mp f]; rfl

