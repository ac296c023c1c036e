theorem dX10_needSetting_113 : decode cX10_needSetting 113 = .ok (.return_, 1) := by decide +kernel
theorem dX10_needSetting_98 : decode cX10_needSetting 98 = .ok (.iload_n 2, 1) := by decide +kernel
theorem dX10_needSetting_99 : decode cX10_needSetting 99 = .ok (.ifCond .eq 14, 3) := by decide +kernel
theorem dX10_needSetting_102 : decode cX10_needSetting 102 = .ok (.iload_n 2, 1) := by decide +kernel
theorem dX10_needSetting_103 : decode cX10_needSetting 103 = .ok (.invokestatic 383, 3) := by decide +kernel
theorem dX10_needSetting_106 : decode cX10_needSetting 106 = .ok (.ifCond .ne 7, 3) := by decide +kernel
theorem dX10_needSetting_109 : decode cX10_needSetting 109 = .ok (.aload_n 0, 1) := by decide +kernel
theorem dX10_needSetting_110 : decode cX10_needSetting 110 = .ok (.invokevirtual 380, 3) := by decide +kernel
theorem dX10_needSetting_88 : decode cX10_needSetting 88 = .ok (.aload_n 0, 1) := by decide +kernel
theorem dX10_needSetting_89 : decode cX10_needSetting 89 = .ok (.iload_n 2, 1) := by decide +kernel
theorem dX10_needSetting_90 : decode cX10_needSetting 90 = .ok (.iconst 0, 1) := by decide +kernel
theorem dX10_needSetting_91 : decode cX10_needSetting 91 = .ok (.iconst 1, 1) := by decide +kernel
theorem dX10_needSetting_92 : decode cX10_needSetting 92 = .ok (.invokevirtual 77, 3) := by decide +kernel
theorem dX10_needSetting_95 : decode cX10_needSetting 95 = .ok (.goto 18, 3) := by decide +kernel
theorem dX10_needSetting_66 : decode cX10_needSetting 66 = .ok (.aload_n 0, 1) := by decide +kernel
theorem dX10_needSetting_67 : decode cX10_needSetting 67 = .ok (.iload_n 2, 1) := by decide +kernel
theorem dX10_needSetting_68 : decode cX10_needSetting 68 = .ok (.aload_n 0, 1) := by decide +kernel
theorem dX10_needSetting_69 : decode cX10_needSetting 69 = .ok (.getfield 10, 3) := by decide +kernel
theorem dX10_needSetting_72 : decode cX10_needSetting 72 = .ok (.getfield 85, 3) := by decide +kernel
theorem dX10_needSetting_75 : decode cX10_needSetting 75 = .ok (.getfield 127, 3) := by decide +kernel
theorem dX10_needSetting_78 : decode cX10_needSetting 78 = .ok (.iconst 1, 1) := by decide +kernel
theorem dX10_needSetting_79 : decode cX10_needSetting 79 = .ok (.iaload, 1) := by decide +kernel
theorem dX10_needSetting_80 : decode cX10_needSetting 80 = .ok (.bipush 125, 2) := by decide +kernel
theorem dX10_needSetting_82 : decode cX10_needSetting 82 = .ok (.invokevirtual 77, 3) := by decide +kernel
theorem dX10_needSetting_85 : decode cX10_needSetting 85 = .ok (.goto 28, 3) := by decide +kernel
theorem dX10_needSetting_44 : decode cX10_needSetting 44 = .ok (.aload_n 0, 1) := by decide +kernel
theorem dX10_needSetting_45 : decode cX10_needSetting 45 = .ok (.iload_n 2, 1) := by decide +kernel
theorem dX10_needSetting_46 : decode cX10_needSetting 46 = .ok (.bipush (-40), 2) := by decide +kernel
theorem dX10_needSetting_48 : decode cX10_needSetting 48 = .ok (.aload_n 0, 1) := by decide +kernel
theorem dX10_needSetting_49 : decode cX10_needSetting 49 = .ok (.getfield 10, 3) := by decide +kernel
theorem dX10_needSetting_52 : decode cX10_needSetting 52 = .ok (.getfield 85, 3) := by decide +kernel
theorem dX10_needSetting_55 : decode cX10_needSetting 55 = .ok (.getfield 127, 3) := by decide +kernel
theorem dX10_needSetting_58 : decode cX10_needSetting 58 = .ok (.iconst 2, 1) := by decide +kernel
theorem dX10_needSetting_59 : decode cX10_needSetting 59 = .ok (.iaload, 1) := by decide +kernel
theorem dX10_needSetting_60 : decode cX10_needSetting 60 = .ok (.invokevirtual 77, 3) := by decide +kernel
theorem dX10_needSetting_63 : decode cX10_needSetting 63 = .ok (.goto 50, 3) := by decide +kernel
theorem dX10_needSetting_32 : decode cX10_needSetting 32 = .ok (.aload_n 0, 1) := by decide +kernel
theorem dX10_needSetting_33 : decode cX10_needSetting 33 = .ok (.iload_n 2, 1) := by decide +kernel
theorem dX10_needSetting_34 : decode cX10_needSetting 34 = .ok (.iconst 0, 1) := by decide +kernel
theorem dX10_needSetting_35 : decode cX10_needSetting 35 = .ok (.sipush 999, 3) := by decide +kernel
theorem dX10_needSetting_38 : decode cX10_needSetting 38 = .ok (.invokevirtual 77, 3) := by decide +kernel
theorem dX10_needSetting_41 : decode cX10_needSetting 41 = .ok (.goto 72, 3) := by decide +kernel
theorem dX10_needSetting_0 : decode cX10_needSetting 0 = .ok (.iload_n 1, 1) := by decide +kernel
theorem dX10_needSetting_1 : decode cX10_needSetting 1 = .ok (.tableswitch 97 0 3 #[31, 43, 65, 87], 31) := by decide +kernel
theorem dX10_speed_0 : decode cX10_speed 0 = .ok (.aload_n 0, 1) := by decide +kernel
theorem dX10_speed_1 : decode cX10_speed 1 = .ok (.iload_n 1, 1) := by decide +kernel
theorem dX10_speed_2 : decode cX10_speed 2 = .ok (.aload_n 0, 1) := by decide +kernel
theorem dX10_speed_3 : decode cX10_speed 3 = .ok (.getfield 10, 3) := by decide +kernel
theorem dX10_speed_6 : decode cX10_speed 6 = .ok (.getfield 85, 3) := by decide +kernel
theorem dX10_speed_9 : decode cX10_speed 9 = .ok (.getfield 130, 3) := by decide +kernel
theorem dX10_speed_12 : decode cX10_speed 12 = .ok (.invokevirtual 133, 3) := by decide +kernel
theorem dX10_speed_15 : decode cX10_speed 15 = .ok (.aload_n 0, 1) := by decide +kernel
theorem dX10_speed_16 : decode cX10_speed 16 = .ok (.iload_n 2, 1) := by decide +kernel
theorem dX10_speed_17 : decode cX10_speed 17 = .ok (.invokevirtual 205, 3) := by decide +kernel
theorem dX10_speed_20 : decode cX10_speed 20 = .ok (.aload_n 0, 1) := by decide +kernel
theorem dX10_speed_21 : decode cX10_speed 21 = .ok (.getfield 10, 3) := by decide +kernel
theorem dX10_speed_24 : decode cX10_speed 24 = .ok (.getfield 85, 3) := by decide +kernel
theorem dX10_speed_27 : decode cX10_speed 27 = .ok (.iload_n 1, 1) := by decide +kernel
theorem dX10_speed_28 : decode cX10_speed 28 = .ok (.iload_n 2, 1) := by decide +kernel
theorem dX10_speed_29 : decode cX10_speed 29 = .ok (.invokevirtual 208, 3) := by decide +kernel
theorem dX10_speed_32 : decode cX10_speed 32 = .ok (.ireturn, 1) := by decide +kernel
theorem dX10_bit_0 : decode cX10_bit 0 = .ok (.aload_n 0, 1) := by decide +kernel
theorem dX10_bit_1 : decode cX10_bit 1 = .ok (.iload_n 1, 1) := by decide +kernel
theorem dX10_bit_2 : decode cX10_bit 2 = .ok (.aload_n 0, 1) := by decide +kernel
theorem dX10_bit_3 : decode cX10_bit 3 = .ok (.getfield 10, 3) := by decide +kernel
theorem dX10_bit_6 : decode cX10_bit 6 = .ok (.getfield 85, 3) := by decide +kernel
theorem dX10_bit_9 : decode cX10_bit 9 = .ok (.getfield 114, 3) := by decide +kernel
theorem dX10_bit_12 : decode cX10_bit 12 = .ok (.invokevirtual 133, 3) := by decide +kernel
theorem dX10_bit_15 : decode cX10_bit 15 = .ok (.aload_n 0, 1) := by decide +kernel
theorem dX10_bit_16 : decode cX10_bit 16 = .ok (.iload_n 2, 1) := by decide +kernel
theorem dX10_bit_17 : decode cX10_bit 17 = .ok (.invokevirtual 205, 3) := by decide +kernel
theorem dX10_bit_20 : decode cX10_bit 20 = .ok (.aload_n 0, 1) := by decide +kernel
theorem dX10_bit_21 : decode cX10_bit 21 = .ok (.getfield 10, 3) := by decide +kernel
theorem dX10_bit_24 : decode cX10_bit 24 = .ok (.getfield 85, 3) := by decide +kernel
theorem dX10_bit_27 : decode cX10_bit 27 = .ok (.iload_n 1, 1) := by decide +kernel
theorem dX10_bit_28 : decode cX10_bit 28 = .ok (.iload_n 2, 1) := by decide +kernel
theorem dX10_bit_29 : decode cX10_bit 29 = .ok (.invokevirtual 246, 3) := by decide +kernel
theorem dX10_bit_32 : decode cX10_bit 32 = .ok (.ireturn, 1) := by decide +kernel
theorem dX10_rank_60 : decode cX10_rank 60 = .ok (.iconst (-1), 1) := by decide +kernel
theorem dX10_rank_61 : decode cX10_rank 61 = .ok (.ireturn, 1) := by decide +kernel
theorem dX10_rank_54 : decode cX10_rank 54 = .ok (.iinc 3 1, 3) := by decide +kernel
theorem dX10_rank_57 : decode cX10_rank 57 = .ok (.goto (-35), 3) := by decide +kernel
theorem dX10_rank_22 : decode cX10_rank 22 = .ok (.iload_n 3, 1) := by decide +kernel
theorem dX10_rank_23 : decode cX10_rank 23 = .ok (.aload_n 0, 1) := by decide +kernel
theorem dX10_rank_24 : decode cX10_rank 24 = .ok (.getfield 10, 3) := by decide +kernel
theorem dX10_rank_27 : decode cX10_rank 27 = .ok (.getfield 85, 3) := by decide +kernel
theorem dX10_rank_30 : decode cX10_rank 30 = .ok (.getfield 130, 3) := by decide +kernel
theorem dX10_rank_33 : decode cX10_rank 33 = .ok (.if_icmp .ge 27, 3) := by decide +kernel
theorem dX10_rank_36 : decode cX10_rank 36 = .ok (.aload_n 0, 1) := by decide +kernel
theorem dX10_rank_37 : decode cX10_rank 37 = .ok (.getfield 10, 3) := by decide +kernel
theorem dX10_rank_40 : decode cX10_rank 40 = .ok (.getfield 85, 3) := by decide +kernel
theorem dX10_rank_43 : decode cX10_rank 43 = .ok (.iload_n 3, 1) := by decide +kernel
theorem dX10_rank_44 : decode cX10_rank 44 = .ok (.iload_n 2, 1) := by decide +kernel
theorem dX10_rank_45 : decode cX10_rank 45 = .ok (.invokevirtual 211, 3) := by decide +kernel
theorem dX10_rank_48 : decode cX10_rank 48 = .ok (.iload_n 1, 1) := by decide +kernel
theorem dX10_rank_49 : decode cX10_rank 49 = .ok (.if_icmp .ne 5, 3) := by decide +kernel
theorem dX10_rank_52 : decode cX10_rank 52 = .ok (.iload_n 3, 1) := by decide +kernel
theorem dX10_rank_53 : decode cX10_rank 53 = .ok (.ireturn, 1) := by decide +kernel
theorem dX10_rank_0 : decode cX10_rank 0 = .ok (.aload_n 0, 1) := by decide +kernel
theorem dX10_rank_1 : decode cX10_rank 1 = .ok (.iload_n 1, 1) := by decide +kernel
theorem dX10_rank_2 : decode cX10_rank 2 = .ok (.aload_n 0, 1) := by decide +kernel
theorem dX10_rank_3 : decode cX10_rank 3 = .ok (.getfield 10, 3) := by decide +kernel
theorem dX10_rank_6 : decode cX10_rank 6 = .ok (.getfield 85, 3) := by decide +kernel
theorem dX10_rank_9 : decode cX10_rank 9 = .ok (.getfield 130, 3) := by decide +kernel
theorem dX10_rank_12 : decode cX10_rank 12 = .ok (.invokevirtual 133, 3) := by decide +kernel
theorem dX10_rank_15 : decode cX10_rank 15 = .ok (.aload_n 0, 1) := by decide +kernel
theorem dX10_rank_16 : decode cX10_rank 16 = .ok (.iload_n 2, 1) := by decide +kernel
theorem dX10_rank_17 : decode cX10_rank 17 = .ok (.invokevirtual 205, 3) := by decide +kernel
theorem dX10_rank_20 : decode cX10_rank 20 = .ok (.iconst 0, 1) := by decide +kernel
theorem dX10_rank_21 : decode cX10_rank 21 = .ok (.istore_n 3, 1) := by decide +kernel
theorem dX10_ring_72 : decode cX10_ring 72 = .ok (.ireturn, 1) := by decide +kernel
theorem dX10_ring_61 : decode cX10_ring 61 = .ok (.aload_n 0, 1) := by decide +kernel
theorem dX10_ring_62 : decode cX10_ring 62 = .ok (.getfield 10, 3) := by decide +kernel
theorem dX10_ring_65 : decode cX10_ring 65 = .ok (.getfield 85, 3) := by decide +kernel
theorem dX10_ring_68 : decode cX10_ring 68 = .ok (.iload_n 1, 1) := by decide +kernel
theorem dX10_ring_69 : decode cX10_ring 69 = .ok (.invokevirtual 202, 3) := by decide +kernel
theorem dX10_ring_41 : decode cX10_ring 41 = .ok (.iload_n 2, 1) := by decide +kernel
theorem dX10_ring_42 : decode cX10_ring 42 = .ok (.iconst 3, 1) := by decide +kernel
theorem dX10_ring_43 : decode cX10_ring 43 = .ok (.if_icmp .ne 18, 3) := by decide +kernel
theorem dX10_ring_46 : decode cX10_ring 46 = .ok (.aload_n 0, 1) := by decide +kernel
theorem dX10_ring_47 : decode cX10_ring 47 = .ok (.getfield 10, 3) := by decide +kernel
theorem dX10_ring_50 : decode cX10_ring 50 = .ok (.getfield 107, 3) := by decide +kernel
theorem dX10_ring_53 : decode cX10_ring 53 = .ok (.getfield 199, 3) := by decide +kernel
theorem dX10_ring_56 : decode cX10_ring 56 = .ok (.iload_n 1, 1) := by decide +kernel
theorem dX10_ring_57 : decode cX10_ring 57 = .ok (.iaload, 1) := by decide +kernel
theorem dX10_ring_58 : decode cX10_ring 58 = .ok (.goto 14, 3) := by decide +kernel
theorem dX10_ring_0 : decode cX10_ring 0 = .ok (.aload_n 0, 1) := by decide +kernel
theorem dX10_ring_1 : decode cX10_ring 1 = .ok (.iload_n 1, 1) := by decide +kernel
theorem dX10_ring_2 : decode cX10_ring 2 = .ok (.aload_n 0, 1) := by decide +kernel
theorem dX10_ring_3 : decode cX10_ring 3 = .ok (.getfield 10, 3) := by decide +kernel
theorem dX10_ring_6 : decode cX10_ring 6 = .ok (.getfield 85, 3) := by decide +kernel
theorem dX10_ring_9 : decode cX10_ring 9 = .ok (.getfield 130, 3) := by decide +kernel
theorem dX10_ring_12 : decode cX10_ring 12 = .ok (.invokevirtual 133, 3) := by decide +kernel
theorem dX10_ring_15 : decode cX10_ring 15 = .ok (.aload_n 0, 1) := by decide +kernel
theorem dX10_ring_16 : decode cX10_ring 16 = .ok (.iload_n 2, 1) := by decide +kernel
theorem dX10_ring_17 : decode cX10_ring 17 = .ok (.iconst 0, 1) := by decide +kernel
theorem dX10_ring_18 : decode cX10_ring 18 = .ok (.iconst 4, 1) := by decide +kernel
theorem dX10_ring_19 : decode cX10_ring 19 = .ok (.invokevirtual 77, 3) := by decide +kernel
theorem dX10_ring_22 : decode cX10_ring 22 = .ok (.iload_n 2, 1) := by decide +kernel
theorem dX10_ring_23 : decode cX10_ring 23 = .ok (.iconst 2, 1) := by decide +kernel
theorem dX10_ring_24 : decode cX10_ring 24 = .ok (.if_icmp .gt 17, 3) := by decide +kernel
theorem dX10_ring_27 : decode cX10_ring 27 = .ok (.aload_n 0, 1) := by decide +kernel
theorem dX10_ring_28 : decode cX10_ring 28 = .ok (.getfield 10, 3) := by decide +kernel
theorem dX10_ring_31 : decode cX10_ring 31 = .ok (.getfield 85, 3) := by decide +kernel
theorem dX10_ring_34 : decode cX10_ring 34 = .ok (.iload_n 2, 1) := by decide +kernel
theorem dX10_ring_35 : decode cX10_ring 35 = .ok (.invokevirtual 139, 3) := by decide +kernel
theorem dX10_ring_38 : decode cX10_ring 38 = .ok (.iload_n 1, 1) := by decide +kernel
theorem dX10_ring_39 : decode cX10_ring 39 = .ok (.iaload, 1) := by decide +kernel
theorem dX10_ring_40 : decode cX10_ring 40 = .ok (.ireturn, 1) := by decide +kernel
theorem dX10_told_188 : decode cX10_told 188 = .ok (.aload_n 2, 1) := by decide +kernel
theorem dX10_told_189 : decode cX10_told 189 = .ok (.getfield 127, 3) := by decide +kernel
theorem dX10_told_192 : decode cX10_told 192 = .ok (.iload_n 1, 1) := by decide +kernel
theorem dX10_told_193 : decode cX10_told 193 = .ok (.bipush 6, 2) := by decide +kernel
theorem dX10_told_195 : decode cX10_told 195 = .ok (.isub, 1) := by decide +kernel
theorem dX10_told_196 : decode cX10_told 196 = .ok (.iaload, 1) := by decide +kernel
theorem dX10_told_197 : decode cX10_told 197 = .ok (.ireturn, 1) := by decide +kernel
theorem dX10_told_182 : decode cX10_told 182 = .ok (.aload_n 0, 1) := by decide +kernel
theorem dX10_told_183 : decode cX10_told 183 = .ok (.iload_n 1, 1) := by decide +kernel
theorem dX10_told_184 : decode cX10_told 184 = .ok (.invokevirtual 196, 3) := by decide +kernel
theorem dX10_told_187 : decode cX10_told 187 = .ok (.ireturn, 1) := by decide +kernel
theorem dX10_told_171 : decode cX10_told 171 = .ok (.aload_n 0, 1) := by decide +kernel
theorem dX10_told_172 : decode cX10_told 172 = .ok (.getfield 10, 3) := by decide +kernel
theorem dX10_told_175 : decode cX10_told 175 = .ok (.getfield 107, 3) := by decide +kernel
theorem dX10_told_178 : decode cX10_told 178 = .ok (.getfield 195, 3) := by decide +kernel
theorem dX10_told_181 : decode cX10_told 181 = .ok (.ireturn, 1) := by decide +kernel
theorem dX10_told_163 : decode cX10_told 163 = .ok (.aload_n 0, 1) := by decide +kernel
theorem dX10_told_164 : decode cX10_told 164 = .ok (.getfield 23, 3) := by decide +kernel
theorem dX10_told_167 : decode cX10_told 167 = .ok (.getfield 69, 3) := by decide +kernel
theorem dX10_told_170 : decode cX10_told 170 = .ok (.ireturn, 1) := by decide +kernel
theorem dX10_told_158 : decode cX10_told 158 = .ok (.aload_n 0, 1) := by decide +kernel
theorem dX10_told_159 : decode cX10_told 159 = .ok (.getfield 111, 3) := by decide +kernel
theorem dX10_told_162 : decode cX10_told 162 = .ok (.ireturn, 1) := by decide +kernel
theorem dX10_told_139 : decode cX10_told 139 = .ok (.aload_n 2, 1) := by decide +kernel
theorem dX10_told_140 : decode cX10_told 140 = .ok (.aload_n 2, 1) := by decide +kernel
theorem dX10_told_141 : decode cX10_told 141 = .ok (.invokevirtual 143, 3) := by decide +kernel
theorem dX10_told_144 : decode cX10_told 144 = .ok (.invokevirtual 147, 3) := by decide +kernel
theorem dX10_told_147 : decode cX10_told 147 = .ok (.aload_n 2, 1) := by decide +kernel
theorem dX10_told_148 : decode cX10_told 148 = .ok (.getfield 127, 3) := by decide +kernel
theorem dX10_told_151 : decode cX10_told 151 = .ok (.iconst 4, 1) := by decide +kernel
theorem dX10_told_152 : decode cX10_told 152 = .ok (.iaload, 1) := by decide +kernel
theorem dX10_told_153 : decode cX10_told 153 = .ok (.invokestatic 153, 3) := by decide +kernel
theorem dX10_told_156 : decode cX10_told 156 = .ok (.imul, 1) := by decide +kernel
theorem dX10_told_157 : decode cX10_told 157 = .ok (.ireturn, 1) := by decide +kernel
theorem dX10_told_130 : decode cX10_told 130 = .ok (.aload_n 2, 1) := by decide +kernel
theorem dX10_told_131 : decode cX10_told 131 = .ok (.aload_n 2, 1) := by decide +kernel
theorem dX10_told_132 : decode cX10_told 132 = .ok (.invokevirtual 143, 3) := by decide +kernel
theorem dX10_told_135 : decode cX10_told 135 = .ok (.invokevirtual 147, 3) := by decide +kernel
theorem dX10_told_138 : decode cX10_told 138 = .ok (.ireturn, 1) := by decide +kernel
theorem dX10_told_122 : decode cX10_told 122 = .ok (.aload_n 2, 1) := by decide +kernel
theorem dX10_told_123 : decode cX10_told 123 = .ok (.invokevirtual 143, 3) := by decide +kernel
theorem dX10_told_126 : decode cX10_told 126 = .ok (.invokestatic 190, 3) := by decide +kernel
theorem dX10_told_129 : decode cX10_told 129 = .ok (.ireturn, 1) := by decide +kernel
theorem dX10_told_114 : decode cX10_told 114 = .ok (.aload_n 2, 1) := by decide +kernel
theorem dX10_told_115 : decode cX10_told 115 = .ok (.invokevirtual 187, 3) := by decide +kernel
theorem dX10_told_118 : decode cX10_told 118 = .ok (.invokestatic 190, 3) := by decide +kernel
theorem dX10_told_121 : decode cX10_told 121 = .ok (.ireturn, 1) := by decide +kernel
theorem dX10_told_109 : decode cX10_told 109 = .ok (.aload_n 2, 1) := by decide +kernel
theorem dX10_told_110 : decode cX10_told 110 = .ok (.getfield 114, 3) := by decide +kernel
theorem dX10_told_113 : decode cX10_told 113 = .ok (.ireturn, 1) := by decide +kernel
theorem dX10_told_104 : decode cX10_told 104 = .ok (.aload_n 2, 1) := by decide +kernel
theorem dX10_told_105 : decode cX10_told 105 = .ok (.getfield 130, 3) := by decide +kernel
theorem dX10_told_108 : decode cX10_told 108 = .ok (.ireturn, 1) := by decide +kernel
theorem dX10_told_0 : decode cX10_told 0 = .ok (.aload_n 0, 1) := by decide +kernel
theorem dX10_told_1 : decode cX10_told 1 = .ok (.iload_n 1, 1) := by decide +kernel
theorem dX10_told_2 : decode cX10_told 2 = .ok (.iconst 0, 1) := by decide +kernel
theorem dX10_told_3 : decode cX10_told 3 = .ok (.bipush 17, 2) := by decide +kernel
theorem dX10_told_5 : decode cX10_told 5 = .ok (.invokevirtual 77, 3) := by decide +kernel
theorem dX10_told_8 : decode cX10_told 8 = .ok (.aload_n 0, 1) := by decide +kernel
theorem dX10_told_9 : decode cX10_told 9 = .ok (.getfield 10, 3) := by decide +kernel
theorem dX10_told_12 : decode cX10_told 12 = .ok (.getfield 85, 3) := by decide +kernel
theorem dX10_told_15 : decode cX10_told 15 = .ok (.astore_n 2, 1) := by decide +kernel
theorem dX10_told_16 : decode cX10_told 16 = .ok (.iload_n 1, 1) := by decide +kernel
theorem dX10_told_17 : decode cX10_told 17 = .ok (.tableswitch 171 0 17 #[87, 92, 97, 105, 113, 122, 171, 171, 171, 171, 171, 141, 146, 154, 165, 165, 165, 165], 87) := by decide +kernel
/-! calls that tell, first part -/
abbrev cN (i : Int32) : Nat := i.toNatClampNeg
def gC (i : Int32) (n : Nat) : Prop := 0 ≤ i ∧ i < nI n
def gR (i lo up : Int32) : Prop := lo ≤ i ∧ i ≤ up
theorem cnt {i : Int32} {n : Nat} (hn : n < 2 ^ 31) (h : gC i n) : i = nI (cN i) ∧ cN i < n := by
  obtain ⟨j, hj, rfl⟩ := nI_of (Int32.not_lt.mpr h.1)
  rw [cN, nI_clamp hj]
  exact ⟨rfl, (nI_ltI hj hn).mp h.2⟩
theorem rng {i : Int32} {n : Nat} (hn : n < 2 ^ 31) (h : gR i 0 (nI n)) : i = nI (cN i) ∧ cN i ≤ n := nI_out hn h.1 h.2
theorem okH_of {te : Int32} (h : gR te (-40) 125) : okH te := by
  obtain ⟨h1, h2⟩ := h
  rw [fa_le] at h1 h2
  have e1 : (-40 : Int32).toInt = -40 := by decide
  have e2 : (125 : Int32).toInt = 125 := by decide
  exact ⟨by omega, by omega⟩
def okS (S : zD) (w v : Int32) : Prop := if w = 0 then gR v 0 999 else if w = 1 then gR v (-40) (dT S 2) else if w = 2 then gR v (dT S 1) 125 else if w = 3 then gR v 0 1 else v = 0 ∨ (v = 1 ∨ v = 3 ∨ v = 5 ∨ v = 7)
def ca_X10_needSetting : (zQ × Nat × Int32 × Int32) → List zV := fun (Q, x, w, v) => [vR 19 0 x, vI w, vI v]
def cp_X10_needSetting : (zQ × Nat × Int32 × Int32) → zH → Prop := fun (Q, x, w, v) h => rpN Q h x
def cq_X10_needSetting : (zQ × Nat × Int32 × Int32) → zH → Option zV → zH → Prop := fun (Q, x, w, v) h r h' => r = none ∧ h' = h ∧ okS Q.1 w v
def cx_X10_needSetting : (zQ × Nat × Int32 × Int32) → zH → String → zH → Prop := fun (Q, x, w, v) h E h' => ¬ okS Q.1 w v ∧ xIA x h E h'
theorem rc_X10_needSetting : ∀ x : (zQ × Nat × Int32 × Int32), ∃ (j a : Nat) (As : List zV), ca_X10_needSetting x = vR (10 + 9) j a :: As := by
  rintro ⟨⟨S, K, M⟩, x, w, v⟩
  exact ⟨_, _, _, rfl⟩
set_option maxHeartbeats 4000000 in
set_option maxRecDepth 100000 in
theorem m_X10_needSetting : zMx yX10_needSetting cX10_needSetting 3 none ({ frames := 8, cells := 1, slots := 6, locals := 125 } : Room) ((ca_X10_needSetting, cp_X10_needSetting, cq_X10_needSetting) : zC (zQ × Nat × Int32 × Int32)) cx_X10_needSetting := by
  refine zMx_of (by decide) ?_
  rintro X Y ⟨⟨S, K, M⟩, x, w, v⟩ h hN O Ex hR
  have E := zEx_E Ex
  have B_113 := zr_return (X := X) (Y := Y) (u := 1) (v := 6) O E (Nat.le_of_ble_eq_true rfl) (Nat.le_of_ble_eq_true rfl) dX10_needSetting_113
  have B_98 := zr_iload_n (X := X) (Y := Y) (u := 0) (v := 0) O dX10_needSetting_98 rfl (zr_ifeq (tgt := 113) O dX10_needSetting_99 rfl (zSd_more B_113 (Nat.le_of_ble_eq_true rfl) (Nat.le_of_ble_eq_true rfl)) (zr_iload_n O dX10_needSetting_102 rfl (zr_cI (zr_cS (n := 1) O m_X0_isRepeat (bn_X0_isRepeat _ ⟨rfl, rfl⟩) tw_654 tw_685 (zrx hR rfl rfl rfl rfl) dX10_needSetting_103 (zr_ifne (tgt := 113) O dX10_needSetting_106 rfl (zSd_more B_113 (Nat.le_of_ble_eq_true rfl) (Nat.le_of_ble_eq_true rfl)) (zr_aload_n O dX10_needSetting_109 rfl (zr_xV (u' := 1) (v' := 6) (ci := 9) (n := 0) O Ex m_X10_refuseArgument (bn_X10_refuseArgument { frames := 0, cells := 0, slots := 0, locals := 0 } ⟨rfl, rfl⟩) vw_X10_refuseArgument tw_461 rc_X10_refuseArgument (zrx hR rfl rfl rfl rfl) (Nat.le_of_ble_eq_true rfl) (Nat.le_of_ble_eq_true rfl) (Nat.le_of_ble_eq_true rfl) (Nat.le_of_ble_eq_true rfl) dX10_needSetting_110 (B_113))))))))
  have B_88 := zr_aload_n (X := X) (Y := Y) (u := 0) (v := 0) O dX10_needSetting_88 rfl (zr_iload_n O dX10_needSetting_89 rfl (zr_iconst (x := 0) O dX10_needSetting_90 rfl (zr_iconst (x := 1) O dX10_needSetting_91 rfl (zr_xV (u' := 1) (v' := 6) (ci := 9) (n := 3) O Ex m_X10_needBetween (bn_X10_needBetween { frames := 0, cells := 0, slots := 0, locals := 0 } ⟨rfl, rfl⟩) vw_X10_needBetween tw_457 rc_X10_needBetween (zrx hR rfl rfl rfl rfl) (Nat.le_of_ble_eq_true rfl) (Nat.le_of_ble_eq_true rfl) (Nat.le_of_ble_eq_true rfl) (Nat.le_of_ble_eq_true rfl) dX10_needSetting_92 (zr_goto (tgt := 113) O dX10_needSetting_95 rfl B_113)))))
  have B_66 := zr_aload_n (X := X) (Y := Y) (u := 0) (v := 0) O dX10_needSetting_66 rfl (zr_iload_n O dX10_needSetting_67 rfl (zr_aload_n O dX10_needSetting_68 rfl (zr_gR (ci := 9) (j := 0) (off := 0) (t := 16) (n := 0) O zc_9 (by decide) rfl tw_287 dX10_needSetting_69 (zr_gS (ci := 6) (j := 0) (off := 1) (t := 15) (n := 0) O zc_6 (by decide) rfl tw_172 dX10_needSetting_72 (zr_gS (ci := 5) (j := 7) (off := 6) (t := 1) (n := 5) O zc_5 (by decide) rfl tw_75 dX10_needSetting_75 (zr_iconst (x := 1) O dX10_needSetting_78 rfl (zr_iald O dX10_needSetting_79 (zr_bipush (x := (125)) O dX10_needSetting_80 (by decide) (zr_xV (u' := 1) (v' := 6) (ci := 9) (n := 3) O Ex m_X10_needBetween (bn_X10_needBetween { frames := 0, cells := 0, slots := 0, locals := 0 } ⟨rfl, rfl⟩) vw_X10_needBetween tw_457 rc_X10_needBetween (zrx hR rfl rfl rfl rfl) (Nat.le_of_ble_eq_true rfl) (Nat.le_of_ble_eq_true rfl) (Nat.le_of_ble_eq_true rfl) (Nat.le_of_ble_eq_true rfl) dX10_needSetting_82 (zr_goto (tgt := 113) O dX10_needSetting_85 rfl B_113))))))))))
  have B_44 := zr_aload_n (X := X) (Y := Y) (u := 0) (v := 0) O dX10_needSetting_44 rfl (zr_iload_n O dX10_needSetting_45 rfl (zr_bipush (x := (-40)) O dX10_needSetting_46 (by decide) (zr_aload_n O dX10_needSetting_48 rfl (zr_gR (ci := 9) (j := 0) (off := 0) (t := 16) (n := 0) O zc_9 (by decide) rfl tw_287 dX10_needSetting_49 (zr_gS (ci := 6) (j := 0) (off := 1) (t := 15) (n := 0) O zc_6 (by decide) rfl tw_172 dX10_needSetting_52 (zr_gS (ci := 5) (j := 7) (off := 6) (t := 1) (n := 5) O zc_5 (by decide) rfl tw_75 dX10_needSetting_55 (zr_iconst (x := 2) O dX10_needSetting_58 rfl (zr_iald O dX10_needSetting_59 (zr_xV (u' := 1) (v' := 6) (ci := 9) (n := 3) O Ex m_X10_needBetween (bn_X10_needBetween { frames := 0, cells := 0, slots := 0, locals := 0 } ⟨rfl, rfl⟩) vw_X10_needBetween tw_457 rc_X10_needBetween (zrx hR rfl rfl rfl rfl) (Nat.le_of_ble_eq_true rfl) (Nat.le_of_ble_eq_true rfl) (Nat.le_of_ble_eq_true rfl) (Nat.le_of_ble_eq_true rfl) dX10_needSetting_60 (zr_goto (tgt := 113) O dX10_needSetting_63 rfl B_113))))))))))
  have B_32 := zr_aload_n (X := X) (Y := Y) (u := 0) (v := 0) O dX10_needSetting_32 rfl (zr_iload_n O dX10_needSetting_33 rfl (zr_iconst (x := 0) O dX10_needSetting_34 rfl (zr_sipush (x := (999)) O dX10_needSetting_35 (by decide) (zr_xV (u' := 1) (v' := 6) (ci := 9) (n := 3) O Ex m_X10_needBetween (bn_X10_needBetween { frames := 0, cells := 0, slots := 0, locals := 0 } ⟨rfl, rfl⟩) vw_X10_needBetween tw_457 rc_X10_needBetween (zrx hR rfl rfl rfl rfl) (Nat.le_of_ble_eq_true rfl) (Nat.le_of_ble_eq_true rfl) (Nat.le_of_ble_eq_true rfl) (Nat.le_of_ble_eq_true rfl) dX10_needSetting_38 (zr_goto (tgt := 113) O dX10_needSetting_41 rfl B_113)))))
  have B_0 := zr_iload_n (X := X) (Y := Y) (u := 0) (v := 0) O dX10_needSetting_0 rfl (zr_switch2 (tgt := 98) (ks := [_, _, _, _]) O dX10_needSetting_1 rfl rfl B_98 ⟨⟨_, 32, rfl, rfl, B_32⟩, ⟨_, 44, rfl, rfl, B_44⟩, ⟨_, 66, rfl, rfl, B_66⟩, ⟨_, 88, rfl, rfl, B_88⟩, trivial⟩)
  refine ⟨rfl, Nat.le_of_ble_eq_true rfl, _, B_0, ?_⟩
  have hS : rpS S h (h.2.2 x 0 + 1) := hN.1.1
  have t1 : h.1 (h.2.2 x 0 + 1 + 6) 1 = dT S 1 := hS.2.2.2.2 1 (by decide)
  have t2 : h.1 (h.2.2 x 0 + 1 + 6) 2 = dT S 2 := hS.2.2.2.2 2 (by decide)
  refine zsw_of ⟨fun e => ?_, fun e => ?_, fun e => ?_, fun e => ?_, trivial⟩ (fun e => ?_)
  · have hw : w = 0 := (fa_eq _ _).mpr e
    have eo : okS S w v = gR v 0 999 := by rw [okS, if_pos hw]
    refine ⟨(x, v, 0, 999), rfl, trivial, fun E h' hd => ⟨by show ¬ okS S w v; rw [eo]; exact hd.1, hd.2⟩, fun r h1 hq => ?_⟩
    obtain ⟨rfl, eh, g1⟩ := hq
    exact ⟨rfl, eh, by show okS S w v; rw [eo]; exact g1⟩
  · have hw : w = 1 := (fa_eq _ _).mpr e
    have eo : okS S w v = gR v (-40) (dT S 2) := by rw [okS, hw, if_neg (by decide), if_pos rfl]
    refine ⟨2, rfl, by decide, (x, v, -40, dT S 2), by rw [t2]; rfl, trivial, fun E h' hd => ⟨by show ¬ okS S w v; rw [eo]; exact hd.1, hd.2⟩, fun r h1 hq => ?_⟩
    obtain ⟨rfl, eh, g1⟩ := hq
    exact ⟨rfl, eh, by show okS S w v; rw [eo]; exact g1⟩
  · have hw : w = 2 := (fa_eq _ _).mpr e
    have eo : okS S w v = gR v (dT S 1) 125 := by rw [okS, hw, if_neg (by decide), if_neg (by decide), if_pos rfl]
    refine ⟨1, rfl, by decide, (x, v, dT S 1, 125), by rw [t1]; rfl, trivial, fun E h' hd => ⟨by show ¬ okS S w v; rw [eo]; exact hd.1, hd.2⟩, fun r h1 hq => ?_⟩
    obtain ⟨rfl, eh, g1⟩ := hq
    exact ⟨rfl, eh, by show okS S w v; rw [eo]; exact g1⟩
  · have hw : w = 3 := (fa_eq _ _).mpr e
    have eo : okS S w v = gR v 0 1 := by rw [okS, hw, if_neg (by decide), if_neg (by decide), if_neg (by decide), if_pos rfl]
    refine ⟨(x, v, 0, 1), rfl, trivial, fun E h' hd => ⟨by show ¬ okS S w v; rw [eo]; exact hd.1, hd.2⟩, fun r h1 hq => ?_⟩
    obtain ⟨rfl, eh, g1⟩ := hq
    exact ⟨rfl, eh, by show okS S w v; rw [eo]; exact g1⟩
  · have e : w.toInt < 0 ∨ (0 : Int) + 4 ≤ w.toInt := e
    have h0 : ¬ w = 0 := fun z => by rw [z] at e; revert e; decide
    have h1 : ¬ w = 1 := fun z => by rw [z] at e; revert e; decide
    have h2 : ¬ w = 2 := fun z => by rw [z] at e; revert e; decide
    have h3 : ¬ w = 3 := fun z => by rw [z] at e; revert e; decide
    have eo : okS S w v = (v = 0 ∨ (v = 1 ∨ v = 3 ∨ v = 5 ∨ v = 7)) := by rw [okS, if_neg h0, if_neg h1, if_neg h2, if_neg h3]
    refine ⟨fun c => ⟨rfl, rfl, by show okS S w v; rw [eo]; exact Or.inl c⟩, fun c => ⟨v, rfl, trivial, fun d => ⟨rfl, rfl, ?_⟩, fun d => ⟨x, rfl, trivial, fun E h' hd => ⟨?_, hd⟩, fun r h1 hq => hq.elim⟩⟩⟩
    · show okS S w v
      rw [eo]
      by_cases hz : v = 1 ∨ v = 3 ∨ v = 5 ∨ v = 7
      · exact Or.inr hz
      · exact absurd (if_neg hz) d
    · show ¬ okS S w v
      rw [eo]
      rintro (z | z)
      · exact c z
      · replace d : (if v = 1 ∨ v = 3 ∨ v = 5 ∨ v = 7 then (1 : Int32) else 0) = 0 := d
        rw [if_pos z] at d
        exact absurd d (by decide)
def ca_X10_speed : (zQ × Nat × Int32 × Int32) → List zV := fun (Q, x, i, te) => [vR 19 0 x, vI i, vI te]
def cp_X10_speed : (zQ × Nat × Int32 × Int32) → zH → Prop := fun (Q, x, i, te) h => rpN Q h x
def cq_X10_speed : (zQ × Nat × Int32 × Int32) → zH → Option zV → zH → Prop := fun (Q, x, i, te) h r h' => gC i (dN Q.1) ∧ gR te (-40) 125 ∧ r = some (vI (spd Q.1 (cN i) te)) ∧ h = h'
def cx_X10_speed : (zQ × Nat × Int32 × Int32) → zH → String → zH → Prop := fun (Q, x, i, te) h E h' => (¬ gC i (dN Q.1) ∧ xNS x h E h') ∨ (gC i (dN Q.1) ∧ ¬ gR te (-40) 125 ∧ xIA x h E h')
theorem rc_X10_speed : ∀ x : (zQ × Nat × Int32 × Int32), ∃ (j a : Nat) (As : List zV), ca_X10_speed x = vR (10 + 9) j a :: As := by
  rintro ⟨⟨S, K, M⟩, x, i, te⟩
  exact ⟨_, _, _, rfl⟩
set_option maxHeartbeats 4000000 in
set_option maxRecDepth 100000 in
theorem m_X10_speed : zMx yX10_speed cX10_speed 3 (some .int) ({ frames := 9, cells := 2, slots := 12, locals := 146 } : Room) ((ca_X10_speed, cp_X10_speed, cq_X10_speed) : zC (zQ × Nat × Int32 × Int32)) cx_X10_speed := by
  refine zMx_of (by decide) ?_
  rintro X Y ⟨⟨S, K, M⟩, x, i, te⟩ h hN O Ex hR
  have E := zEx_E Ex
  have B_0 := zr_aload_n (X := X) (Y := Y) (u := 0) (v := 0) O dX10_speed_0 rfl (zr_iload_n O dX10_speed_1 rfl (zr_aload_n O dX10_speed_2 rfl (zr_gR (ci := 9) (j := 0) (off := 0) (t := 16) (n := 0) O zc_9 (by decide) rfl tw_287 dX10_speed_3 (zr_gS (ci := 6) (j := 0) (off := 1) (t := 15) (n := 0) O zc_6 (by decide) rfl tw_172 dX10_speed_6 (zr_gI (ci := 5) (j := 0) O zc_5 (by decide) rfl tw_48 dX10_speed_9 (zr_xV (u' := 1) (v' := 6) (ci := 9) (n := 2) O Ex m_X10_needCounted (bn_X10_needCounted { frames := 0, cells := 0, slots := 0, locals := 0 } ⟨rfl, rfl⟩) vw_X10_needCounted tw_709 rc_X10_needCounted (zrx hR rfl rfl rfl rfl) (Nat.le_of_ble_eq_true rfl) (Nat.le_of_ble_eq_true rfl) (Nat.le_of_ble_eq_true rfl) (Nat.le_of_ble_eq_true rfl) dX10_speed_12 (zr_aload_n O dX10_speed_15 rfl (zr_iload_n O dX10_speed_16 rfl (zr_xV (u' := 2) (v' := 12) (ci := 9) (n := 1) O Ex m_X10_needHeat (bn_X10_needHeat { frames := 0, cells := 0, slots := 0, locals := 0 } ⟨rfl, rfl⟩) vw_X10_needHeat tw_900 rc_X10_needHeat (zrx hR rfl rfl rfl rfl) (Nat.le_of_ble_eq_true rfl) (Nat.le_of_ble_eq_true rfl) (Nat.le_of_ble_eq_true rfl) (Nat.le_of_ble_eq_true rfl) dX10_speed_17 (zr_aload_n O dX10_speed_20 rfl (zr_gR (ci := 9) (j := 0) (off := 0) (t := 16) (n := 0) O zc_9 (by decide) rfl tw_287 dX10_speed_21 (zr_gS (ci := 6) (j := 0) (off := 1) (t := 15) (n := 0) O zc_6 (by decide) rfl tw_172 dX10_speed_24 (zr_iload_n O dX10_speed_27 rfl (zr_iload_n O dX10_speed_28 rfl (zr_cI (zr_cV (ci := 5) (n := 2) O m_X6_speedOf (bn_X6_speedOf _ ⟨rfl, rfl⟩) vw_X6_speedOf tw_904 rc_X6_speedOf (zrx hR rfl rfl rfl rfl) dX10_speed_29 (zr_ireturn O E (Nat.le_of_ble_eq_true rfl) (Nat.le_of_ble_eq_true rfl) dX10_speed_32)))))))))))))))))
  refine ⟨rfl, Nat.le_of_ble_eq_true rfl, _, B_0, ?_⟩
  have hS : rpS S h (h.2.2 x 0 + 1) := hN.1.1
  have hN10 := hS.1.2
  refine ⟨(x, i, nI (dN S)), by rw [hS.1.1]; rfl, trivial, fun E h' hd => Or.inl hd, fun r h1 hq => ?_⟩
  obtain ⟨rfl, eh, g1⟩ := hq
  obtain rfl := eh.symm
  have g1 : gC i (dN S) := g1
  refine ⟨(x, te), rfl, trivial, fun E h' hd => Or.inr ⟨g1, hd.1, hd.2⟩, fun r h2 hq => ?_⟩
  obtain ⟨rfl, eh, g2⟩ := hq
  obtain rfl := eh.symm
  obtain ⟨ei, hi⟩ := cnt (by omega) g1
  exact ⟨(S, h.2.2 x 0 + 1, cN i, te), congrArg (fun z => [vR 15 0 (h.2.2 x 0 + 1), vI z, vI te]) ei, ⟨hS, hi⟩, g1, g2, rfl, rfl⟩
def ca_X10_bit : (zQ × Nat × Int32 × Int32) → List zV := fun (Q, x, i, te) => [vR 19 0 x, vI i, vI te]
def cp_X10_bit : (zQ × Nat × Int32 × Int32) → zH → Prop := fun (Q, x, i, te) h => rpN Q h x
def cq_X10_bit : (zQ × Nat × Int32 × Int32) → zH → Option zV → zH → Prop := fun (Q, x, i, te) h r h' => gC i (dP Q.1) ∧ gR te (-40) 125 ∧ r = some (vI (pba Q.1 (cN i) te)) ∧ h = h'
def cx_X10_bit : (zQ × Nat × Int32 × Int32) → zH → String → zH → Prop := fun (Q, x, i, te) h E h' => (¬ gC i (dP Q.1) ∧ xNS x h E h') ∨ (gC i (dP Q.1) ∧ ¬ gR te (-40) 125 ∧ xIA x h E h')
theorem rc_X10_bit : ∀ x : (zQ × Nat × Int32 × Int32), ∃ (j a : Nat) (As : List zV), ca_X10_bit x = vR (10 + 9) j a :: As := by
  rintro ⟨⟨S, K, M⟩, x, i, te⟩
  exact ⟨_, _, _, rfl⟩
set_option maxHeartbeats 4000000 in
set_option maxRecDepth 100000 in
theorem m_X10_bit : zMx yX10_bit cX10_bit 3 (some .int) ({ frames := 9, cells := 2, slots := 12, locals := 146 } : Room) ((ca_X10_bit, cp_X10_bit, cq_X10_bit) : zC (zQ × Nat × Int32 × Int32)) cx_X10_bit := by
  refine zMx_of (by decide) ?_
  rintro X Y ⟨⟨S, K, M⟩, x, i, te⟩ h hN O Ex hR
  have E := zEx_E Ex
  have B_0 := zr_aload_n (X := X) (Y := Y) (u := 0) (v := 0) O dX10_bit_0 rfl (zr_iload_n O dX10_bit_1 rfl (zr_aload_n O dX10_bit_2 rfl (zr_gR (ci := 9) (j := 0) (off := 0) (t := 16) (n := 0) O zc_9 (by decide) rfl tw_287 dX10_bit_3 (zr_gS (ci := 6) (j := 0) (off := 1) (t := 15) (n := 0) O zc_6 (by decide) rfl tw_172 dX10_bit_6 (zr_gI (ci := 5) (j := 4) O zc_5 (by decide) rfl tw_55 dX10_bit_9 (zr_xV (u' := 1) (v' := 6) (ci := 9) (n := 2) O Ex m_X10_needCounted (bn_X10_needCounted { frames := 0, cells := 0, slots := 0, locals := 0 } ⟨rfl, rfl⟩) vw_X10_needCounted tw_709 rc_X10_needCounted (zrx hR rfl rfl rfl rfl) (Nat.le_of_ble_eq_true rfl) (Nat.le_of_ble_eq_true rfl) (Nat.le_of_ble_eq_true rfl) (Nat.le_of_ble_eq_true rfl) dX10_bit_12 (zr_aload_n O dX10_bit_15 rfl (zr_iload_n O dX10_bit_16 rfl (zr_xV (u' := 2) (v' := 12) (ci := 9) (n := 1) O Ex m_X10_needHeat (bn_X10_needHeat { frames := 0, cells := 0, slots := 0, locals := 0 } ⟨rfl, rfl⟩) vw_X10_needHeat tw_900 rc_X10_needHeat (zrx hR rfl rfl rfl rfl) (Nat.le_of_ble_eq_true rfl) (Nat.le_of_ble_eq_true rfl) (Nat.le_of_ble_eq_true rfl) (Nat.le_of_ble_eq_true rfl) dX10_bit_17 (zr_aload_n O dX10_bit_20 rfl (zr_gR (ci := 9) (j := 0) (off := 0) (t := 16) (n := 0) O zc_9 (by decide) rfl tw_287 dX10_bit_21 (zr_gS (ci := 6) (j := 0) (off := 1) (t := 15) (n := 0) O zc_6 (by decide) rfl tw_172 dX10_bit_24 (zr_iload_n O dX10_bit_27 rfl (zr_iload_n O dX10_bit_28 rfl (zr_cI (zr_cV (ci := 5) (n := 2) O m_X6_bitAt (bn_X6_bitAt _ ⟨rfl, rfl⟩) vw_X6_bitAt tw_943 rc_X6_bitAt (zrx hR rfl rfl rfl rfl) dX10_bit_29 (zr_ireturn O E (Nat.le_of_ble_eq_true rfl) (Nat.le_of_ble_eq_true rfl) dX10_bit_32)))))))))))))))))
  refine ⟨rfl, Nat.le_of_ble_eq_true rfl, _, B_0, ?_⟩
  have hS : rpS S h (h.2.2 x 0 + 1) := hN.1.1
  have hP28 := hS.2.1.2
  refine ⟨(x, i, nI (dP S)), by rw [hS.2.1.1]; rfl, trivial, fun E h' hd => Or.inl hd, fun r h1 hq => ?_⟩
  obtain ⟨rfl, eh, g1⟩ := hq
  obtain rfl := eh.symm
  have g1 : gC i (dP S) := g1
  refine ⟨(x, te), rfl, trivial, fun E h' hd => Or.inr ⟨g1, hd.1, hd.2⟩, fun r h2 hq => ?_⟩
  obtain ⟨rfl, eh, g2⟩ := hq
  obtain rfl := eh.symm
  obtain ⟨ei, hi⟩ := cnt (by omega) g1
  exact ⟨(S, h.2.2 x 0 + 1, cN i, te), congrArg (fun z => [vR 15 0 (h.2.2 x 0 + 1), vI z, vI te]) ei, ⟨hS, hi⟩, g1, g2, rfl, rfl⟩
/-- the ring of a rank -/
def rnk (S : zD) (k : Nat) (te : Int32) : Int32 := if fa_first (fun i => decide (rah S i te (dN S) = k)) (dN S) < dN S then nI (fa_first (fun i => decide (rah S i te (dN S) = k)) (dN S)) else -1
def ca_X10_rank : (zQ × Nat × Int32 × Int32) → List zV := fun (Q, x, i, te) => [vR 19 0 x, vI i, vI te]
def cp_X10_rank : (zQ × Nat × Int32 × Int32) → zH → Prop := fun (Q, x, i, te) h => rpN Q h x
def cq_X10_rank : (zQ × Nat × Int32 × Int32) → zH → Option zV → zH → Prop := fun (Q, x, i, te) h r h' => gC i (dN Q.1) ∧ gR te (-40) 125 ∧ r = some (vI (rnk Q.1 (cN i) te)) ∧ h = h'
def cx_X10_rank : (zQ × Nat × Int32 × Int32) → zH → String → zH → Prop := fun (Q, x, i, te) h E h' => (¬ gC i (dN Q.1) ∧ xNS x h E h') ∨ (gC i (dN Q.1) ∧ ¬ gR te (-40) 125 ∧ xIA x h E h')
theorem rc_X10_rank : ∀ x : (zQ × Nat × Int32 × Int32), ∃ (j a : Nat) (As : List zV), ca_X10_rank x = vR (10 + 9) j a :: As := by
  rintro ⟨⟨S, K, M⟩, x, i, te⟩
  exact ⟨_, _, _, rfl⟩
set_option maxHeartbeats 4000000 in
set_option maxRecDepth 100000 in
theorem m_X10_rank : zMx yX10_rank cX10_rank 4 (some .int) ({ frames := 9, cells := 2, slots := 12, locals := 146 } : Room) ((ca_X10_rank, cp_X10_rank, cq_X10_rank) : zC (zQ × Nat × Int32 × Int32)) cx_X10_rank := by
  refine zMx_of (by decide) ?_
  rintro X Y ⟨⟨S, K, M⟩, x, i, te⟩ h hN O Ex hR
  have E := zEx_E Ex
  have hS : rpS S h (h.2.2 x 0 + 1) := hN.1.1
  have hN10 := hS.1.2
  have B_60 := zr_iconst (X := X) (Y := Y) (u := 2) (v := 12) (x := (-1)) O dX10_rank_60 rfl (zr_ireturn O E (Nat.le_of_ble_eq_true rfl) (Nat.le_of_ble_eq_true rfl) dX10_rank_61)
  have L_22 : ∀ nn : Nat, zSd X Y 2 12 22 ((fun k ls st h1 => ∃ (n : Nat) (z : Int32), k = dN S - n ∧ n ≤ dN S ∧ ls = [some (vR 19 0 x), some (vI i), some (vI te), some (vI z)] ∧ z = nI n ∧ st = [] ∧ h = h1 ∧ gC i (dN S) ∧ gR te (-40) 125 ∧ ∀ j, j < n → decide (rah S j te (dN S) = cN i) = false : Nat → zT) nn) := by
    refine zSd_loop (fun nn ih => ?_)
    have B_54 := zr_iinc (X := X) (Y := Y) (u := 2) (v := 12) (c := 1) O dX10_rank_54 rfl (zr_goto (tgt := 22) O dX10_rank_57 rfl ih)
    have B_22 := zr_iload_n (X := X) (Y := Y) (u := 2) (v := 12) O dX10_rank_22 rfl (zr_aload_n O dX10_rank_23 rfl (zr_gR (ci := 9) (j := 0) (off := 0) (t := 16) (n := 0) O zc_9 (by decide) rfl tw_287 dX10_rank_24 (zr_gS (ci := 6) (j := 0) (off := 1) (t := 15) (n := 0) O zc_6 (by decide) rfl tw_172 dX10_rank_27 (zr_gI (ci := 5) (j := 0) O zc_5 (by decide) rfl tw_48 dX10_rank_30 (zr_icge (tgt := 60) O dX10_rank_33 rfl B_60 (zr_aload_n O dX10_rank_36 rfl (zr_gR (ci := 9) (j := 0) (off := 0) (t := 16) (n := 0) O zc_9 (by decide) rfl tw_287 dX10_rank_37 (zr_gS (ci := 6) (j := 0) (off := 1) (t := 15) (n := 0) O zc_6 (by decide) rfl tw_172 dX10_rank_40 (zr_iload_n O dX10_rank_43 rfl (zr_iload_n O dX10_rank_44 rfl (zr_cI (zr_cV (ci := 5) (n := 2) O m_X6_ringsAheadOf (bn_X6_ringsAheadOf _ ⟨rfl, rfl⟩) vw_X6_ringsAheadOf tw_912 rc_X6_ringsAheadOf (zrx hR rfl rfl rfl rfl) dX10_rank_45 (zr_iload_n O dX10_rank_48 rfl (zr_icne (tgt := 54) O dX10_rank_49 rfl B_54 (zr_iload_n O dX10_rank_52 rfl (zr_ireturn O E (Nat.le_of_ble_eq_true rfl) (Nat.le_of_ble_eq_true rfl) dX10_rank_53))))))))))))))))
    refine zSd_weak B_22 (fun ls st h1 t => ?_)
    obtain ⟨n, z, rfl, hn, rfl, rfl, rfl, rfl, g1, g2, hb⟩ := t
    obtain ⟨ei, hi⟩ := cnt (by omega) g1
    refine ⟨fun cq => ⟨g1, g2, zri ?_, rfl⟩, fun cq => ?_⟩
    · rw [hS.1.1] at cq
      have := (nI_leI (by omega) (by omega)).mp cq
      have hn2 : n = dN S := by omega
      subst hn2
      show (-1 : Int32) = rnk S (cN i) te
      rw [rnk, if_neg (first_none hb)]
    · rw [hS.1.1] at cq
      have hn2 : n < dN S := Nat.not_le.mp (fun z => cq ((nI_leI (by omega) (by omega)).mpr z))
      have hr : rah S n te (dN S) ≤ dN S := fb_ct_le _ _
      refine ⟨(S, h.2.2 x 0 + 1, n, te), rfl, ⟨hS, hn2⟩, fun dq => ?_, fun dq => ⟨g1, g2, zri ?_, rfl⟩⟩
      · replace dq : ¬ nI (rah S n te (dN S)) = i := dq
        refine ⟨dN S - (n + 1), by omega, n + 1, _, rfl, by omega, rfl, nI_1 n, rfl, rfl, g1, g2, fun j hj => ?_⟩
        by_cases e : j = n
        · rw [e]; exact decide_eq_false (fun z => dq (by rw [z]; exact ei.symm))
        · exact hb j (by omega)
      · replace dq : nI (rah S n te (dN S)) = i := dq
        rw [ei] at dq
        have hz := (nI_eq (by omega) (by omega)).mp dq
        have ef : fa_first (fun i_1 => decide (rah S i_1 te (dN S) = cN i)) (dN S) = n := first_at hn2 (decide_eq_true hz) hb
        show nI n = rnk S (cN i) te
        rw [rnk, ef, if_pos hn2]
  have B_22 := zSd_any L_22
  have B_0 := zr_aload_n (X := X) (Y := Y) (u := 0) (v := 0) O dX10_rank_0 rfl (zr_iload_n O dX10_rank_1 rfl (zr_aload_n O dX10_rank_2 rfl (zr_gR (ci := 9) (j := 0) (off := 0) (t := 16) (n := 0) O zc_9 (by decide) rfl tw_287 dX10_rank_3 (zr_gS (ci := 6) (j := 0) (off := 1) (t := 15) (n := 0) O zc_6 (by decide) rfl tw_172 dX10_rank_6 (zr_gI (ci := 5) (j := 0) O zc_5 (by decide) rfl tw_48 dX10_rank_9 (zr_xV (u' := 1) (v' := 6) (ci := 9) (n := 2) O Ex m_X10_needCounted (bn_X10_needCounted { frames := 0, cells := 0, slots := 0, locals := 0 } ⟨rfl, rfl⟩) vw_X10_needCounted tw_709 rc_X10_needCounted (zrx hR rfl rfl rfl rfl) (Nat.le_of_ble_eq_true rfl) (Nat.le_of_ble_eq_true rfl) (Nat.le_of_ble_eq_true rfl) (Nat.le_of_ble_eq_true rfl) dX10_rank_12 (zr_aload_n O dX10_rank_15 rfl (zr_iload_n O dX10_rank_16 rfl (zr_xV (u' := 2) (v' := 12) (ci := 9) (n := 1) O Ex m_X10_needHeat (bn_X10_needHeat { frames := 0, cells := 0, slots := 0, locals := 0 } ⟨rfl, rfl⟩) vw_X10_needHeat tw_900 rc_X10_needHeat (zrx hR rfl rfl rfl rfl) (Nat.le_of_ble_eq_true rfl) (Nat.le_of_ble_eq_true rfl) (Nat.le_of_ble_eq_true rfl) (Nat.le_of_ble_eq_true rfl) dX10_rank_17 (zr_iconst (x := 0) O dX10_rank_20 rfl (zr_istore_n O dX10_rank_21 rfl (B_22))))))))))))
  refine ⟨rfl, Nat.le_of_ble_eq_true rfl, _, B_0, ?_⟩
  refine ⟨(x, i, nI (dN S)), by rw [hS.1.1]; rfl, trivial, fun E h' hd => Or.inl hd, fun r h1 hq => ?_⟩
  obtain ⟨rfl, eh, g1⟩ := hq
  obtain rfl := eh.symm
  have g1 : gC i (dN S) := g1
  refine ⟨(x, te), rfl, trivial, fun E h' hd => Or.inr ⟨g1, hd.1, hd.2⟩, fun r h2 hq => ?_⟩
  obtain ⟨rfl, eh, g2⟩ := hq
  obtain rfl := eh.symm
  exact ⟨dN S - 0, 0, _, rfl, Nat.zero_le _, rfl, rfl, rfl, rfl, g1, g2, fun j hj => absurd hj (by omega)⟩
/-- what is told of a ring -/
def rgv (Q : zQ) (r w : Nat) : Int32 := if w = 0 then dB Q.1 r else if w = 1 then dD Q.1 r else if w = 2 then dZ Q.1 r else if w = 3 then gW Q.2.2 r else nI (pwr Q.1 r)
def ca_X10_ring : (zQ × Nat × Int32 × Int32) → List zV := fun (Q, x, i, w) => [vR 19 0 x, vI i, vI w]
def cp_X10_ring : (zQ × Nat × Int32 × Int32) → zH → Prop := fun (Q, x, i, w) h => rpN Q h x
def cq_X10_ring : (zQ × Nat × Int32 × Int32) → zH → Option zV → zH → Prop := fun (Q, x, i, w) h r h' => gC i (dN Q.1) ∧ gR w 0 4 ∧ r = some (vI (rgv Q (cN i) (cN w))) ∧ h = h'
def cx_X10_ring : (zQ × Nat × Int32 × Int32) → zH → String → zH → Prop := fun (Q, x, i, w) h E h' => (¬ gC i (dN Q.1) ∧ xNS x h E h') ∨ (gC i (dN Q.1) ∧ ¬ gR w 0 4 ∧ xIA x h E h')
theorem rc_X10_ring : ∀ x : (zQ × Nat × Int32 × Int32), ∃ (j a : Nat) (As : List zV), ca_X10_ring x = vR (10 + 9) j a :: As := by
  rintro ⟨⟨S, K, M⟩, x, i, w⟩
  exact ⟨_, _, _, rfl⟩
set_option maxHeartbeats 4000000 in
set_option maxRecDepth 100000 in
theorem m_X10_ring : zMx yX10_ring cX10_ring 3 (some .int) ({ frames := 8, cells := 2, slots := 12, locals := 125 } : Room) ((ca_X10_ring, cp_X10_ring, cq_X10_ring) : zC (zQ × Nat × Int32 × Int32)) cx_X10_ring := by
  refine zMx_of (by decide) ?_
  rintro X Y ⟨⟨S, K, M⟩, x, i, w⟩ h hN O Ex hR
  have E := zEx_E Ex
  have B_72 := zr_ireturn (X := X) (Y := Y) (u := 2) (v := 12) O E (Nat.le_of_ble_eq_true rfl) (Nat.le_of_ble_eq_true rfl) dX10_ring_72
  have B_61 := zr_aload_n (X := X) (Y := Y) (u := 2) (v := 12) O dX10_ring_61 rfl (zr_gR (ci := 9) (j := 0) (off := 0) (t := 16) (n := 0) O zc_9 (by decide) rfl tw_287 dX10_ring_62 (zr_gS (ci := 6) (j := 0) (off := 1) (t := 15) (n := 0) O zc_6 (by decide) rfl tw_172 dX10_ring_65 (zr_iload_n O dX10_ring_68 rfl (zr_cI (zr_cV (ci := 5) (n := 1) O m_X6_pairsWith (bn_X6_pairsWith _ ⟨rfl, rfl⟩) vw_X6_pairsWith tw_889 rc_X6_pairsWith (zrx hR rfl rfl rfl rfl) dX10_ring_69 (B_72))))))
  have B_41 := zr_iload_n (X := X) (Y := Y) (u := 2) (v := 12) O dX10_ring_41 rfl (zr_iconst (x := 3) O dX10_ring_42 rfl (zr_icne (tgt := 61) O dX10_ring_43 rfl B_61 (zr_aload_n O dX10_ring_46 rfl (zr_gR (ci := 9) (j := 0) (off := 0) (t := 16) (n := 0) O zc_9 (by decide) rfl tw_287 dX10_ring_47 (zr_gS (ci := 6) (j := 2) (off := 10) (t := 12) (n := 0) O zc_6 (by decide) rfl tw_177 dX10_ring_50 (zr_gS (ci := 2) (j := 4) (off := 2) (t := 1) (n := 10) O zc_2 (by decide) rfl tw_158 dX10_ring_53 (zr_iload_n O dX10_ring_56 rfl (zr_iald O dX10_ring_57 (zr_goto (tgt := 72) O dX10_ring_58 rfl B_72)))))))))
  have B_0 := zr_aload_n (X := X) (Y := Y) (u := 0) (v := 0) O dX10_ring_0 rfl (zr_iload_n O dX10_ring_1 rfl (zr_aload_n O dX10_ring_2 rfl (zr_gR (ci := 9) (j := 0) (off := 0) (t := 16) (n := 0) O zc_9 (by decide) rfl tw_287 dX10_ring_3 (zr_gS (ci := 6) (j := 0) (off := 1) (t := 15) (n := 0) O zc_6 (by decide) rfl tw_172 dX10_ring_6 (zr_gI (ci := 5) (j := 0) O zc_5 (by decide) rfl tw_48 dX10_ring_9 (zr_xV (u' := 1) (v' := 6) (ci := 9) (n := 2) O Ex m_X10_needCounted (bn_X10_needCounted { frames := 0, cells := 0, slots := 0, locals := 0 } ⟨rfl, rfl⟩) vw_X10_needCounted tw_709 rc_X10_needCounted (zrx hR rfl rfl rfl rfl) (Nat.le_of_ble_eq_true rfl) (Nat.le_of_ble_eq_true rfl) (Nat.le_of_ble_eq_true rfl) (Nat.le_of_ble_eq_true rfl) dX10_ring_12 (zr_aload_n O dX10_ring_15 rfl (zr_iload_n O dX10_ring_16 rfl (zr_iconst (x := 0) O dX10_ring_17 rfl (zr_iconst (x := 4) O dX10_ring_18 rfl (zr_xV (u' := 2) (v' := 12) (ci := 9) (n := 3) O Ex m_X10_needBetween (bn_X10_needBetween { frames := 0, cells := 0, slots := 0, locals := 0 } ⟨rfl, rfl⟩) vw_X10_needBetween tw_457 rc_X10_needBetween (zrx hR rfl rfl rfl rfl) (Nat.le_of_ble_eq_true rfl) (Nat.le_of_ble_eq_true rfl) (Nat.le_of_ble_eq_true rfl) (Nat.le_of_ble_eq_true rfl) dX10_ring_19 (zr_iload_n O dX10_ring_22 rfl (zr_iconst (x := 2) O dX10_ring_23 rfl (zr_icgt (tgt := 41) O dX10_ring_24 rfl B_41 (zr_aload_n O dX10_ring_27 rfl (zr_gR (ci := 9) (j := 0) (off := 0) (t := 16) (n := 0) O zc_9 (by decide) rfl tw_287 dX10_ring_28 (zr_gS (ci := 6) (j := 0) (off := 1) (t := 15) (n := 0) O zc_6 (by decide) rfl tw_172 dX10_ring_31 (zr_iload_n O dX10_ring_34 rfl (zr_cV (ci := 5) (n := 1) O m_X6_traitRow (bn_X6_traitRow _ ⟨rfl, rfl⟩) vw_X6_traitRow tw_737 rc_X6_traitRow (zrx hR rfl rfl rfl rfl) dX10_ring_35 (zr_iload_n O dX10_ring_38 rfl (zr_iald O dX10_ring_39 (zr_ireturn O E (Nat.le_of_ble_eq_true rfl) (Nat.le_of_ble_eq_true rfl) dX10_ring_40))))))))))))))))))))))
  refine ⟨rfl, Nat.le_of_ble_eq_true rfl, _, B_0, ?_⟩
  have hS : rpS S h (h.2.2 x 0 + 1) := hN.1.1
  have hL : rpL M h (h.2.2 x 0 + 10) := hN.1.2.2
  have hN10 := hS.1.2
  refine ⟨(x, i, nI (dN S)), by rw [hS.1.1]; rfl, trivial, fun E h' hd => Or.inl hd, fun r h1 hq => ?_⟩
  obtain ⟨rfl, eh, g1⟩ := hq
  obtain rfl := eh.symm
  have g1 : gC i (dN S) := g1
  refine ⟨(x, w, 0, 4), rfl, trivial, fun E h' hd => Or.inr ⟨g1, hd.1, hd.2⟩, fun r h2 hq => ?_⟩
  obtain ⟨rfl, eh, g2⟩ := hq
  obtain rfl := eh.symm
  have g2 : gR w 0 4 := g2
  obtain ⟨ei, hi⟩ := cnt (by omega) g1
  obtain ⟨ew, hw⟩ := rng (n := 4) (by decide) g2
  refine ⟨fun c => ⟨fun d => ⟨(S, h.2.2 x 0 + 1, cN i), congrArg (fun z => [vR 15 0 (h.2.2 x 0 + 1), vI z]) ei, ⟨hS, by omega⟩, g1, g2, zri ?_, rfl⟩, fun d => ⟨cN i, ei, by omega, g1, g2, zri ?_, rfl⟩⟩, fun c => ⟨(h.2.2 x 0 + 1, cN w), congrArg (fun z => [vR 15 0 (h.2.2 x 0 + 1), vI z]) ew, ?_, fun r h3 hq => ?_⟩⟩
  · rw [ew] at c d
    have c2 := (nI_ltI (a := 2) (by omega) (by omega)).mp c
    have d2 : ¬ cN w = 3 := fun z => d (by rw [z]; rfl)
    show nI (pwr S (cN i)) = rgv (S, K, M) (cN i) (cN w)
    rw [rgv, if_neg (by omega), if_neg (by omega), if_neg (by omega), if_neg d2]
  · rw [ew] at c d
    have d2 := (nI_eq (b := 3) (by omega) (by omega)).mp d
    show h.1 (h.2.2 x 0 + 10 + 2) (cN i) = rgv (S, K, M) (cN i) (cN w)
    rw [rgv, if_neg (by omega), if_neg (by omega), if_neg (by omega), if_pos d2]
    exact hL.2.2.2 _ (by omega)
  · rw [ew] at c
    have : ¬ 2 < cN w := fun z => c ((nI_ltI (a := 2) (by omega) (by omega)).mpr z)
    show cN w < 3
    omega
  · obtain ⟨rfl, eh⟩ := hq
    obtain rfl := eh.symm
    rw [ew] at c
    have hw3 : ¬ 2 < cN w := fun z => c ((nI_ltI (a := 2) (by omega) (by omega)).mpr z)
    obtain ⟨b1, b2, b3⟩ := hS.2.2.1 _ hi
    refine ⟨cN i, ei, by omega, g1, g2, zri ?_, rfl⟩
    show h.1 (h.2.2 x 0 + 1 + (cN w + 1)) (cN i) = rgv (S, K, M) (cN i) (cN w)
    have hz : cN w = 0 ∨ cN w = 1 ∨ cN w = 2 := by omega
    rcases hz with e | e | e
    · rw [rgv, if_pos e, e]; exact b1
    · rw [rgv, if_neg (by omega), if_pos e, e]; exact b2
    · rw [rgv, if_neg (by omega), if_neg (by omega), if_pos e, e]; exact b3
/-- what is told of all: the count of the past and the tape's length beside the state -/
def tld (Q : zQ) (c tl w : Nat) : Int32 := if w = 0 then nI (dN Q.1) else if w = 1 then nI (dP Q.1) else if w = 2 then nI (fb_ct (std Q.1) (dP Q.1)) else if w = 3 then nI (fb_ct (us Q.1) (dP Q.1)) else if w = 4 then nI (nbk Q.1) else if w = 5 then nI (nbk Q.1 * btR (dR Q.1)) else if w < 11 then dT Q.1 (w - 6) else if w = 11 then nI c else if w = 12 then nI tl else if w = 13 then nI (gN Q.2.2) else tle Q.2.1 w
theorem nI_mul (a b : Nat) : nI a * nI b = nI (a * b) := (Int32.ofNat_mul a b).symm
def ca_X10_told : (zQ × Nat × Int32 × Nat × Nat) → List zV := fun (Q, x, w, c, tl) => [vR 19 0 x, vI w]
def cp_X10_told : (zQ × Nat × Int32 × Nat × Nat) → zH → Prop := fun (Q, x, w, c, tl) h => rpN Q h x ∧ vS Q.1 ∧ h.1 x 2 = nI c ∧ h.1 (x + 171) 4 = nI tl
def cq_X10_told : (zQ × Nat × Int32 × Nat × Nat) → zH → Option zV → zH → Prop := fun (Q, x, w, c, tl) h r h' => gR w 0 17 ∧ r = some (vI (tld Q c tl (cN w))) ∧ h = h'
def cx_X10_told : (zQ × Nat × Int32 × Nat × Nat) → zH → String → zH → Prop := fun (Q, x, w, c, tl) h E h' => ¬ gR w 0 17 ∧ xIA x h E h'
theorem rc_X10_told : ∀ x : (zQ × Nat × Int32 × Nat × Nat), ∃ (j a : Nat) (As : List zV), ca_X10_told x = vR (10 + 9) j a :: As := by
  rintro ⟨⟨S, K, M⟩, x, w, c, tl⟩
  exact ⟨_, _, _, rfl⟩
set_option maxHeartbeats 4000000 in
set_option maxRecDepth 100000 in
theorem m_X10_told : zMx yX10_told cX10_told 3 (some .int) ({ frames := 8, cells := 1, slots := 6, locals := 125 } : Room) ((ca_X10_told, cp_X10_told, cq_X10_told) : zC (zQ × Nat × Int32 × Nat × Nat)) cx_X10_told := by
  refine zMx_of (by decide) ?_
  rintro X Y ⟨⟨S, K, M⟩, x, w, c, tl⟩ h ⟨hN, hv, hc, ht⟩ O Ex hR
  have E := zEx_E Ex
  have B_188 := zr_aload_n (X := X) (Y := Y) (u := 1) (v := 6) O dX10_told_188 rfl (zr_gS (ci := 5) (j := 7) (off := 6) (t := 1) (n := 5) O zc_5 (by decide) rfl tw_75 dX10_told_189 (zr_iload_n O dX10_told_192 rfl (zr_bipush (x := (6)) O dX10_told_193 (by decide) (zr_isub O dX10_told_195 (zr_iald O dX10_told_196 (zr_ireturn O E (Nat.le_of_ble_eq_true rfl) (Nat.le_of_ble_eq_true rfl) dX10_told_197))))))
  have B_182 := zr_aload_n (X := X) (Y := Y) (u := 1) (v := 6) O dX10_told_182 rfl (zr_iload_n O dX10_told_183 rfl (zr_cI (zr_cV (ci := 9) (n := 1) O m_X10_toldOfEnrolled (bn_X10_toldOfEnrolled _ ⟨rfl, rfl⟩) vw_X10_toldOfEnrolled tw_877 rc_X10_toldOfEnrolled (zrx hR rfl rfl rfl rfl) dX10_told_184 (zr_ireturn O E (Nat.le_of_ble_eq_true rfl) (Nat.le_of_ble_eq_true rfl) dX10_told_187))))
  have B_171 := zr_aload_n (X := X) (Y := Y) (u := 1) (v := 6) O dX10_told_171 rfl (zr_gR (ci := 9) (j := 0) (off := 0) (t := 16) (n := 0) O zc_9 (by decide) rfl tw_287 dX10_told_172 (zr_gS (ci := 6) (j := 2) (off := 10) (t := 12) (n := 0) O zc_6 (by decide) rfl tw_177 dX10_told_175 (zr_gI (ci := 2) (j := 0) O zc_2 (by decide) rfl tw_153 dX10_told_178 (zr_ireturn O E (Nat.le_of_ble_eq_true rfl) (Nat.le_of_ble_eq_true rfl) dX10_told_181))))
  have B_163 := zr_aload_n (X := X) (Y := Y) (u := 1) (v := 6) O dX10_told_163 rfl (zr_gS (ci := 9) (j := 4) (off := 171) (t := 17) (n := 0) O zc_9 (by decide) rfl tw_291 dX10_told_164 (zr_gI (ci := 7) (j := 4) O zc_7 (by decide) rfl tw_200 dX10_told_167 (zr_ireturn O E (Nat.le_of_ble_eq_true rfl) (Nat.le_of_ble_eq_true rfl) dX10_told_170)))
  have B_158 := zr_aload_n (X := X) (Y := Y) (u := 1) (v := 6) O dX10_told_158 rfl (zr_gI (ci := 9) (j := 2) O zc_9 (by decide) rfl tw_289 dX10_told_159 (zr_ireturn O E (Nat.le_of_ble_eq_true rfl) (Nat.le_of_ble_eq_true rfl) dX10_told_162))
  have B_139 := zr_aload_n (X := X) (Y := Y) (u := 1) (v := 6) O dX10_told_139 rfl (zr_aload_n O dX10_told_140 rfl (zr_cI (zr_cV (ci := 5) (n := 0) O m_X6_usedPairs (bn_X6_usedPairs _ ⟨rfl, rfl⟩) vw_X6_usedPairs tw_749 rc_X6_usedPairs (zrx hR rfl rfl rfl rfl) dX10_told_141 (zr_cI (zr_cV (ci := 5) (n := 1) O m_X6_blockCount (bn_X6_blockCount _ ⟨rfl, rfl⟩) vw_X6_blockCount tw_762 rc_X6_blockCount (zrx hR rfl rfl rfl rfl) dX10_told_144 (zr_aload_n O dX10_told_147 rfl (zr_gS (ci := 5) (j := 7) (off := 6) (t := 1) (n := 5) O zc_5 (by decide) rfl tw_75 dX10_told_148 (zr_iconst (x := 4) O dX10_told_151 rfl (zr_iald O dX10_told_152 (zr_cI (zr_cS (n := 1) O m_X0_bitsOf (bn_X0_bitsOf _ ⟨rfl, rfl⟩) tw_779 tw_801 (zrx hR rfl rfl rfl rfl) dX10_told_153 (zr_imul O dX10_told_156 (zr_ireturn O E (Nat.le_of_ble_eq_true rfl) (Nat.le_of_ble_eq_true rfl) dX10_told_157)))))))))))))
  have B_130 := zr_aload_n (X := X) (Y := Y) (u := 1) (v := 6) O dX10_told_130 rfl (zr_aload_n O dX10_told_131 rfl (zr_cI (zr_cV (ci := 5) (n := 0) O m_X6_usedPairs (bn_X6_usedPairs _ ⟨rfl, rfl⟩) vw_X6_usedPairs tw_749 rc_X6_usedPairs (zrx hR rfl rfl rfl rfl) dX10_told_132 (zr_cI (zr_cV (ci := 5) (n := 1) O m_X6_blockCount (bn_X6_blockCount _ ⟨rfl, rfl⟩) vw_X6_blockCount tw_762 rc_X6_blockCount (zrx hR rfl rfl rfl rfl) dX10_told_135 (zr_ireturn O E (Nat.le_of_ble_eq_true rfl) (Nat.le_of_ble_eq_true rfl) dX10_told_138))))))
  have B_122 := zr_aload_n (X := X) (Y := Y) (u := 1) (v := 6) O dX10_told_122 rfl (zr_cI (zr_cV (ci := 5) (n := 0) O m_X6_usedPairs (bn_X6_usedPairs _ ⟨rfl, rfl⟩) vw_X6_usedPairs tw_749 rc_X6_usedPairs (zrx hR rfl rfl rfl rfl) dX10_told_123 (zr_cI (zr_cS (n := 1) O m_J6_bitCount_0f7a4 (bn_J6_bitCount_0f7a4 _ ⟨rfl, rfl⟩) tw_767 tw_876 (zrx hR rfl rfl rfl rfl) dX10_told_126 (zr_ireturn O E (Nat.le_of_ble_eq_true rfl) (Nat.le_of_ble_eq_true rfl) dX10_told_129)))))
  have B_114 := zr_aload_n (X := X) (Y := Y) (u := 1) (v := 6) O dX10_told_114 rfl (zr_cI (zr_cV (ci := 5) (n := 0) O m_X6_steadyPairs (bn_X6_steadyPairs _ ⟨rfl, rfl⟩) vw_X6_steadyPairs tw_875 rc_X6_steadyPairs (zrx hR rfl rfl rfl rfl) dX10_told_115 (zr_cI (zr_cS (n := 1) O m_J6_bitCount_0f7a4 (bn_J6_bitCount_0f7a4 _ ⟨rfl, rfl⟩) tw_767 tw_876 (zrx hR rfl rfl rfl rfl) dX10_told_118 (zr_ireturn O E (Nat.le_of_ble_eq_true rfl) (Nat.le_of_ble_eq_true rfl) dX10_told_121)))))
  have B_109 := zr_aload_n (X := X) (Y := Y) (u := 1) (v := 6) O dX10_told_109 rfl (zr_gI (ci := 5) (j := 4) O zc_5 (by decide) rfl tw_55 dX10_told_110 (zr_ireturn O E (Nat.le_of_ble_eq_true rfl) (Nat.le_of_ble_eq_true rfl) dX10_told_113))
  have B_104 := zr_aload_n (X := X) (Y := Y) (u := 1) (v := 6) O dX10_told_104 rfl (zr_gI (ci := 5) (j := 0) O zc_5 (by decide) rfl tw_48 dX10_told_105 (zr_ireturn O E (Nat.le_of_ble_eq_true rfl) (Nat.le_of_ble_eq_true rfl) dX10_told_108))
  have B_0 := zr_aload_n (X := X) (Y := Y) (u := 0) (v := 0) O dX10_told_0 rfl (zr_iload_n O dX10_told_1 rfl (zr_iconst (x := 0) O dX10_told_2 rfl (zr_bipush (x := (17)) O dX10_told_3 (by decide) (zr_xV (u' := 1) (v' := 6) (ci := 9) (n := 3) O Ex m_X10_needBetween (bn_X10_needBetween { frames := 0, cells := 0, slots := 0, locals := 0 } ⟨rfl, rfl⟩) vw_X10_needBetween tw_457 rc_X10_needBetween (zrx hR rfl rfl rfl rfl) (Nat.le_of_ble_eq_true rfl) (Nat.le_of_ble_eq_true rfl) (Nat.le_of_ble_eq_true rfl) (Nat.le_of_ble_eq_true rfl) dX10_told_5 (zr_aload_n O dX10_told_8 rfl (zr_gR (ci := 9) (j := 0) (off := 0) (t := 16) (n := 0) O zc_9 (by decide) rfl tw_287 dX10_told_9 (zr_gS (ci := 6) (j := 0) (off := 1) (t := 15) (n := 0) O zc_6 (by decide) rfl tw_172 dX10_told_12 (zr_astore_n O dX10_told_15 rfl (zr_iload_n O dX10_told_16 rfl (zr_switch2 (tgt := 188) (ks := [_, _, _, _, _, _, _, _, _, _, _, _, _, _, _, _, _, _]) O dX10_told_17 rfl rfl B_188 ⟨⟨_, 104, rfl, rfl, B_104⟩, ⟨_, 109, rfl, rfl, B_109⟩, ⟨_, 114, rfl, rfl, B_114⟩, ⟨_, 122, rfl, rfl, B_122⟩, ⟨_, 130, rfl, rfl, B_130⟩, ⟨_, 139, rfl, rfl, B_139⟩, ⟨_, 188, rfl, rfl, B_188⟩, ⟨_, 188, rfl, rfl, B_188⟩, ⟨_, 188, rfl, rfl, B_188⟩, ⟨_, 188, rfl, rfl, B_188⟩, ⟨_, 188, rfl, rfl, B_188⟩, ⟨_, 158, rfl, rfl, B_158⟩, ⟨_, 163, rfl, rfl, B_163⟩, ⟨_, 171, rfl, rfl, B_171⟩, ⟨_, 182, rfl, rfl, B_182⟩, ⟨_, 182, rfl, rfl, B_182⟩, ⟨_, 182, rfl, rfl, B_182⟩, ⟨_, 182, rfl, rfl, B_182⟩, trivial⟩))))))))))
  refine ⟨rfl, Nat.le_of_ble_eq_true rfl, _, B_0, ?_⟩
  have hS : rpS S h (h.2.2 x 0 + 1) := hN.1.1
  have hL : rpL M h (h.2.2 x 0 + 10) := hN.1.2.2
  have hc : h.1 x 2 = nI c := hc
  have ht : h.1 (x + 171) 4 = nI tl := ht
  have hv : vS S := hv
  have hP28 := hS.2.1.2
  have hu := usd_lt hS.2.1.2
  refine ⟨(x, w, 0, 17), rfl, trivial, fun E h' hd => hd, fun r h1 hq => ?_⟩
  obtain ⟨rfl, eh, g1⟩ := hq
  obtain rfl := eh.symm
  have g1 : gR w 0 17 := g1
  obtain ⟨ew, hw⟩ := rng (n := 17) (by decide) g1
  have ewt : w.toInt = cN w := by
    have := congrArg Int32.toInt ew
    rw [nI_toInt (by omega)] at this
    exact this
  have epop : pop (usd S) = fb_ct (us S) (dP S) := pop_mk _ (by omega)
  have enb : bkc (dR S) (pop (usd S)) = nbk S := by rw [epop]; rfl
  have dflt : 6 ≤ cN w → cN w ≤ 10 → ∃ j : Nat, w - 6 = nI j ∧ j < 5 ∧ (gR w 0 17 ∧ some (vI (h.1 (h.2.2 x 0 + 1 + 6) j)) = some (vI (tld (S, K, M) c tl (cN w))) ∧ h = h) := by
    intro q1 q2
    refine ⟨cN w - 6, ?_, by omega, g1, zri ?_, rfl⟩
    · rw [ew]
      have := nI_sub (a := cN w) (b := 6) q1
      rw [← ew] at this ⊢
      exact this
    · rw [tld, if_neg (by omega), if_neg (by omega), if_neg (by omega), if_neg (by omega), if_neg (by omega), if_neg (by omega), if_pos (by omega)]
      exact hS.2.2.2.2 _ (by omega)
  have enr : 14 ≤ cN w → ∃ y : zQ × Nat × Nat, ([vR 19 0 x, vI w] : List zV) = ca_X10_toldOfEnrolled y ∧ cp_X10_toldOfEnrolled y h ∧ (gR w 0 17 ∧ some (vI (cf_X10_toldOfEnrolled y h)) = some (vI (tld (S, K, M) c tl (cN w))) ∧ h = h) := by
    intro q1
    refine ⟨((S, K, M), x, cN w), by rw [ca_X10_toldOfEnrolled, ← ew], ⟨hN, q1, hw⟩, g1, zri ?_, rfl⟩
    show tle K (cN w) = _
    rw [tld, if_neg (by omega), if_neg (by omega), if_neg (by omega), if_neg (by omega), if_neg (by omega), if_neg (by omega), if_neg (by omega), if_neg (by omega), if_neg (by omega), if_neg (by omega)]
  refine zsw_of ⟨fun e => ?_, fun e => ?_, fun e => ?_, fun e => ?_, fun e => ?_, fun e => ?_, fun e => ?_, fun e => ?_, fun e => ?_, fun e => ?_, fun e => ?_, fun e => ?_, fun e => ?_, fun e => ?_, fun e => ?_, fun e => ?_, fun e => ?_, fun e => ?_, trivial⟩ (fun e => ?_)
  · have e : cN w = 0 := by omega
    refine ⟨g1, zri ?_, rfl⟩
    rw [tld, if_pos e]; exact hS.1.1
  · have e : cN w = 1 := by omega
    refine ⟨g1, zri ?_, rfl⟩
    rw [tld, if_neg (by omega), if_pos e]; exact hS.2.1.1
  · have e : cN w = 2 := by omega
    refine ⟨(S, h.2.2 x 0 + 1), rfl, ⟨hS, hv⟩, _, rfl, trivial, g1, zri ?_, rfl⟩
    show pcI (nI (mk (std S) (dP S))) = _
    rw [tld, if_neg (by omega), if_neg (by omega), if_pos e, pcI_pop (Nat.lt_of_lt_of_le (mk_lt _ _) (Nat.pow_le_pow_right (by omega) (by omega))), pop_mk _ (by omega)]
  · have e : cN w = 3 := by omega
    refine ⟨(S, h.2.2 x 0 + 1), rfl, ⟨hS, hv⟩, _, rfl, trivial, g1, zri ?_, rfl⟩
    show pcI (nI (usd S)) = _
    rw [tld, if_neg (by omega), if_neg (by omega), if_neg (by omega), if_pos e, pcI_pop (by omega), epop]
  · have e : cN w = 4 := by omega
    refine ⟨(S, h.2.2 x 0 + 1), rfl, ⟨hS, hv⟩, (S, h.2.2 x 0 + 1, usd S), rfl, ⟨hS, hv, by omega⟩, g1, zri ?_, rfl⟩
    show nI (bkc (dR S) (pop (usd S))) = _
    rw [tld, if_neg (by omega), if_neg (by omega), if_neg (by omega), if_neg (by omega), if_pos e, enb]
  · have e : cN w = 5 := by omega
    have t4 : h.1 (h.2.2 x 0 + 1 + 6) 4 = nI (dR S) := by rw [hS.2.2.2.2 4 (by decide)]; exact hv.2.2.2.2.2.1
    refine ⟨(S, h.2.2 x 0 + 1), rfl, ⟨hS, hv⟩, (S, h.2.2 x 0 + 1, usd S), rfl, ⟨hS, hv, by omega⟩, 4, rfl, by decide, dR S, by rw [t4]; rfl, hv.2.2.2.2.2.2, g1, zri ?_, rfl⟩
    show nI (bkc (dR S) (pop (usd S))) * nI (btR (dR S)) = _
    rw [tld, if_neg (by omega), if_neg (by omega), if_neg (by omega), if_neg (by omega), if_neg (by omega), if_pos e, enb, nI_mul]
  · exact dflt (by omega) (by omega)
  · exact dflt (by omega) (by omega)
  · exact dflt (by omega) (by omega)
  · exact dflt (by omega) (by omega)
  · exact dflt (by omega) (by omega)
  · have e : cN w = 11 := by omega
    refine ⟨g1, zri ?_, rfl⟩
    rw [tld, if_neg (by omega), if_neg (by omega), if_neg (by omega), if_neg (by omega), if_neg (by omega), if_neg (by omega), if_neg (by omega), if_pos e]; exact hc
  · have e : cN w = 12 := by omega
    refine ⟨g1, zri ?_, rfl⟩
    rw [tld, if_neg (by omega), if_neg (by omega), if_neg (by omega), if_neg (by omega), if_neg (by omega), if_neg (by omega), if_neg (by omega), if_neg (by omega), if_pos e]; exact ht
  · have e : cN w = 13 := by omega
    refine ⟨g1, zri ?_, rfl⟩
    rw [tld, if_neg (by omega), if_neg (by omega), if_neg (by omega), if_neg (by omega), if_neg (by omega), if_neg (by omega), if_neg (by omega), if_neg (by omega), if_neg (by omega), if_pos e]; exact hL.1.1
  · exact enr (by omega)
  · exact enr (by omega)
  · exact enr (by omega)
  · exact enr (by omega)
  · have e : w.toInt < 0 ∨ (0 : Int) + 18 ≤ w.toInt := e
    omega

