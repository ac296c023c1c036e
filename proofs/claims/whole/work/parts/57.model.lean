theorem dX11_decoded_234 : decode cX11_decoded 234 = .ok (.ireturn, 1) := by decide +kernel
theorem dX11_decoded_232 : decode cX11_decoded 232 = .ok (.iload 6, 2) := by decide +kernel
theorem dX11_decoded_217 : decode cX11_decoded 217 = .ok (.iload 5, 2) := by decide +kernel
theorem dX11_decoded_219 : decode cX11_decoded 219 = .ok (.bipush 7, 2) := by decide +kernel
theorem dX11_decoded_221 : decode cX11_decoded 221 = .ok (.if_icmp .ne 11, 3) := by decide +kernel
theorem dX11_decoded_224 : decode cX11_decoded 224 = .ok (.iload 6, 2) := by decide +kernel
theorem dX11_decoded_226 : decode cX11_decoded 226 = .ok (.bipush 8, 2) := by decide +kernel
theorem dX11_decoded_228 : decode cX11_decoded 228 = .ok (.ixor, 1) := by decide +kernel
theorem dX11_decoded_229 : decode cX11_decoded 229 = .ok (.goto 5, 3) := by decide +kernel
theorem dX11_decoded_203 : decode cX11_decoded 203 = .ok (.iload 5, 2) := by decide +kernel
theorem dX11_decoded_205 : decode cX11_decoded 205 = .ok (.bipush 6, 2) := by decide +kernel
theorem dX11_decoded_207 : decode cX11_decoded 207 = .ok (.if_icmp .ne 10, 3) := by decide +kernel
theorem dX11_decoded_210 : decode cX11_decoded 210 = .ok (.iload 6, 2) := by decide +kernel
theorem dX11_decoded_212 : decode cX11_decoded 212 = .ok (.iconst 4, 1) := by decide +kernel
theorem dX11_decoded_213 : decode cX11_decoded 213 = .ok (.ixor, 1) := by decide +kernel
theorem dX11_decoded_214 : decode cX11_decoded 214 = .ok (.goto 20, 3) := by decide +kernel
theorem dX11_decoded_190 : decode cX11_decoded 190 = .ok (.iload 5, 2) := by decide +kernel
theorem dX11_decoded_192 : decode cX11_decoded 192 = .ok (.iconst 5, 1) := by decide +kernel
theorem dX11_decoded_193 : decode cX11_decoded 193 = .ok (.if_icmp .ne 10, 3) := by decide +kernel
theorem dX11_decoded_196 : decode cX11_decoded 196 = .ok (.iload 6, 2) := by decide +kernel
theorem dX11_decoded_198 : decode cX11_decoded 198 = .ok (.iconst 2, 1) := by decide +kernel
theorem dX11_decoded_199 : decode cX11_decoded 199 = .ok (.ixor, 1) := by decide +kernel
theorem dX11_decoded_200 : decode cX11_decoded 200 = .ok (.goto 34, 3) := by decide +kernel
theorem dX11_decoded_177 : decode cX11_decoded 177 = .ok (.iload 5, 2) := by decide +kernel
theorem dX11_decoded_179 : decode cX11_decoded 179 = .ok (.iconst 3, 1) := by decide +kernel
theorem dX11_decoded_180 : decode cX11_decoded 180 = .ok (.if_icmp .ne 10, 3) := by decide +kernel
theorem dX11_decoded_183 : decode cX11_decoded 183 = .ok (.iload 6, 2) := by decide +kernel
theorem dX11_decoded_185 : decode cX11_decoded 185 = .ok (.iconst 1, 1) := by decide +kernel
theorem dX11_decoded_186 : decode cX11_decoded 186 = .ok (.ixor, 1) := by decide +kernel
theorem dX11_decoded_187 : decode cX11_decoded 187 = .ok (.goto 47, 3) := by decide +kernel
theorem dX11_decoded_41 : decode cX11_decoded 41 = .ok (.aload_n 0, 1) := by decide +kernel
theorem dX11_decoded_42 : decode cX11_decoded 42 = .ok (.getfield 41, 3) := by decide +kernel
theorem dX11_decoded_45 : decode cX11_decoded 45 = .ok (.iconst 0, 1) := by decide +kernel
theorem dX11_decoded_46 : decode cX11_decoded 46 = .ok (.iaload, 1) := by decide +kernel
theorem dX11_decoded_47 : decode cX11_decoded 47 = .ok (.aload_n 0, 1) := by decide +kernel
theorem dX11_decoded_48 : decode cX11_decoded 48 = .ok (.getfield 41, 3) := by decide +kernel
theorem dX11_decoded_51 : decode cX11_decoded 51 = .ok (.iconst 2, 1) := by decide +kernel
theorem dX11_decoded_52 : decode cX11_decoded 52 = .ok (.iaload, 1) := by decide +kernel
theorem dX11_decoded_53 : decode cX11_decoded 53 = .ok (.ixor, 1) := by decide +kernel
theorem dX11_decoded_54 : decode cX11_decoded 54 = .ok (.aload_n 0, 1) := by decide +kernel
theorem dX11_decoded_55 : decode cX11_decoded 55 = .ok (.getfield 41, 3) := by decide +kernel
theorem dX11_decoded_58 : decode cX11_decoded 58 = .ok (.iconst 4, 1) := by decide +kernel
theorem dX11_decoded_59 : decode cX11_decoded 59 = .ok (.iaload, 1) := by decide +kernel
theorem dX11_decoded_60 : decode cX11_decoded 60 = .ok (.ixor, 1) := by decide +kernel
theorem dX11_decoded_61 : decode cX11_decoded 61 = .ok (.aload_n 0, 1) := by decide +kernel
theorem dX11_decoded_62 : decode cX11_decoded 62 = .ok (.getfield 41, 3) := by decide +kernel
theorem dX11_decoded_65 : decode cX11_decoded 65 = .ok (.bipush 6, 2) := by decide +kernel
theorem dX11_decoded_67 : decode cX11_decoded 67 = .ok (.iaload, 1) := by decide +kernel
theorem dX11_decoded_68 : decode cX11_decoded 68 = .ok (.ixor, 1) := by decide +kernel
theorem dX11_decoded_69 : decode cX11_decoded 69 = .ok (.istore_n 2, 1) := by decide +kernel
theorem dX11_decoded_70 : decode cX11_decoded 70 = .ok (.aload_n 0, 1) := by decide +kernel
theorem dX11_decoded_71 : decode cX11_decoded 71 = .ok (.getfield 41, 3) := by decide +kernel
theorem dX11_decoded_74 : decode cX11_decoded 74 = .ok (.iconst 1, 1) := by decide +kernel
theorem dX11_decoded_75 : decode cX11_decoded 75 = .ok (.iaload, 1) := by decide +kernel
theorem dX11_decoded_76 : decode cX11_decoded 76 = .ok (.aload_n 0, 1) := by decide +kernel
theorem dX11_decoded_77 : decode cX11_decoded 77 = .ok (.getfield 41, 3) := by decide +kernel
theorem dX11_decoded_80 : decode cX11_decoded 80 = .ok (.iconst 2, 1) := by decide +kernel
theorem dX11_decoded_81 : decode cX11_decoded 81 = .ok (.iaload, 1) := by decide +kernel
theorem dX11_decoded_82 : decode cX11_decoded 82 = .ok (.ixor, 1) := by decide +kernel
theorem dX11_decoded_83 : decode cX11_decoded 83 = .ok (.aload_n 0, 1) := by decide +kernel
theorem dX11_decoded_84 : decode cX11_decoded 84 = .ok (.getfield 41, 3) := by decide +kernel
theorem dX11_decoded_87 : decode cX11_decoded 87 = .ok (.iconst 5, 1) := by decide +kernel
theorem dX11_decoded_88 : decode cX11_decoded 88 = .ok (.iaload, 1) := by decide +kernel
theorem dX11_decoded_89 : decode cX11_decoded 89 = .ok (.ixor, 1) := by decide +kernel
theorem dX11_decoded_90 : decode cX11_decoded 90 = .ok (.aload_n 0, 1) := by decide +kernel
theorem dX11_decoded_91 : decode cX11_decoded 91 = .ok (.getfield 41, 3) := by decide +kernel
theorem dX11_decoded_94 : decode cX11_decoded 94 = .ok (.bipush 6, 2) := by decide +kernel
theorem dX11_decoded_96 : decode cX11_decoded 96 = .ok (.iaload, 1) := by decide +kernel
theorem dX11_decoded_97 : decode cX11_decoded 97 = .ok (.ixor, 1) := by decide +kernel
theorem dX11_decoded_98 : decode cX11_decoded 98 = .ok (.istore_n 3, 1) := by decide +kernel
theorem dX11_decoded_99 : decode cX11_decoded 99 = .ok (.aload_n 0, 1) := by decide +kernel
theorem dX11_decoded_100 : decode cX11_decoded 100 = .ok (.getfield 41, 3) := by decide +kernel
theorem dX11_decoded_103 : decode cX11_decoded 103 = .ok (.iconst 3, 1) := by decide +kernel
theorem dX11_decoded_104 : decode cX11_decoded 104 = .ok (.iaload, 1) := by decide +kernel
theorem dX11_decoded_105 : decode cX11_decoded 105 = .ok (.aload_n 0, 1) := by decide +kernel
theorem dX11_decoded_106 : decode cX11_decoded 106 = .ok (.getfield 41, 3) := by decide +kernel
theorem dX11_decoded_109 : decode cX11_decoded 109 = .ok (.iconst 4, 1) := by decide +kernel
theorem dX11_decoded_110 : decode cX11_decoded 110 = .ok (.iaload, 1) := by decide +kernel
theorem dX11_decoded_111 : decode cX11_decoded 111 = .ok (.ixor, 1) := by decide +kernel
theorem dX11_decoded_112 : decode cX11_decoded 112 = .ok (.aload_n 0, 1) := by decide +kernel
theorem dX11_decoded_113 : decode cX11_decoded 113 = .ok (.getfield 41, 3) := by decide +kernel
theorem dX11_decoded_116 : decode cX11_decoded 116 = .ok (.iconst 5, 1) := by decide +kernel
theorem dX11_decoded_117 : decode cX11_decoded 117 = .ok (.iaload, 1) := by decide +kernel
theorem dX11_decoded_118 : decode cX11_decoded 118 = .ok (.ixor, 1) := by decide +kernel
theorem dX11_decoded_119 : decode cX11_decoded 119 = .ok (.aload_n 0, 1) := by decide +kernel
theorem dX11_decoded_120 : decode cX11_decoded 120 = .ok (.getfield 41, 3) := by decide +kernel
theorem dX11_decoded_123 : decode cX11_decoded 123 = .ok (.bipush 6, 2) := by decide +kernel
theorem dX11_decoded_125 : decode cX11_decoded 125 = .ok (.iaload, 1) := by decide +kernel
theorem dX11_decoded_126 : decode cX11_decoded 126 = .ok (.ixor, 1) := by decide +kernel
theorem dX11_decoded_127 : decode cX11_decoded 127 = .ok (.istore 4, 2) := by decide +kernel
theorem dX11_decoded_129 : decode cX11_decoded 129 = .ok (.iload_n 2, 1) := by decide +kernel
theorem dX11_decoded_130 : decode cX11_decoded 130 = .ok (.iconst 2, 1) := by decide +kernel
theorem dX11_decoded_131 : decode cX11_decoded 131 = .ok (.iload_n 3, 1) := by decide +kernel
theorem dX11_decoded_132 : decode cX11_decoded 132 = .ok (.imul, 1) := by decide +kernel
theorem dX11_decoded_133 : decode cX11_decoded 133 = .ok (.iadd, 1) := by decide +kernel
theorem dX11_decoded_134 : decode cX11_decoded 134 = .ok (.iconst 4, 1) := by decide +kernel
theorem dX11_decoded_135 : decode cX11_decoded 135 = .ok (.iload 4, 2) := by decide +kernel
theorem dX11_decoded_137 : decode cX11_decoded 137 = .ok (.imul, 1) := by decide +kernel
theorem dX11_decoded_138 : decode cX11_decoded 138 = .ok (.iadd, 1) := by decide +kernel
theorem dX11_decoded_139 : decode cX11_decoded 139 = .ok (.istore 5, 2) := by decide +kernel
theorem dX11_decoded_141 : decode cX11_decoded 141 = .ok (.aload_n 0, 1) := by decide +kernel
theorem dX11_decoded_142 : decode cX11_decoded 142 = .ok (.getfield 41, 3) := by decide +kernel
theorem dX11_decoded_145 : decode cX11_decoded 145 = .ok (.iconst 2, 1) := by decide +kernel
theorem dX11_decoded_146 : decode cX11_decoded 146 = .ok (.iaload, 1) := by decide +kernel
theorem dX11_decoded_147 : decode cX11_decoded 147 = .ok (.aload_n 0, 1) := by decide +kernel
theorem dX11_decoded_148 : decode cX11_decoded 148 = .ok (.getfield 41, 3) := by decide +kernel
theorem dX11_decoded_151 : decode cX11_decoded 151 = .ok (.iconst 4, 1) := by decide +kernel
theorem dX11_decoded_152 : decode cX11_decoded 152 = .ok (.iaload, 1) := by decide +kernel
theorem dX11_decoded_153 : decode cX11_decoded 153 = .ok (.iconst 1, 1) := by decide +kernel
theorem dX11_decoded_154 : decode cX11_decoded 154 = .ok (.ishl, 1) := by decide +kernel
theorem dX11_decoded_155 : decode cX11_decoded 155 = .ok (.ior, 1) := by decide +kernel
theorem dX11_decoded_156 : decode cX11_decoded 156 = .ok (.aload_n 0, 1) := by decide +kernel
theorem dX11_decoded_157 : decode cX11_decoded 157 = .ok (.getfield 41, 3) := by decide +kernel
theorem dX11_decoded_160 : decode cX11_decoded 160 = .ok (.iconst 5, 1) := by decide +kernel
theorem dX11_decoded_161 : decode cX11_decoded 161 = .ok (.iaload, 1) := by decide +kernel
theorem dX11_decoded_162 : decode cX11_decoded 162 = .ok (.iconst 2, 1) := by decide +kernel
theorem dX11_decoded_163 : decode cX11_decoded 163 = .ok (.ishl, 1) := by decide +kernel
theorem dX11_decoded_164 : decode cX11_decoded 164 = .ok (.ior, 1) := by decide +kernel
theorem dX11_decoded_165 : decode cX11_decoded 165 = .ok (.aload_n 0, 1) := by decide +kernel
theorem dX11_decoded_166 : decode cX11_decoded 166 = .ok (.getfield 41, 3) := by decide +kernel
theorem dX11_decoded_169 : decode cX11_decoded 169 = .ok (.bipush 6, 2) := by decide +kernel
theorem dX11_decoded_171 : decode cX11_decoded 171 = .ok (.iaload, 1) := by decide +kernel
theorem dX11_decoded_172 : decode cX11_decoded 172 = .ok (.iconst 3, 1) := by decide +kernel
theorem dX11_decoded_173 : decode cX11_decoded 173 = .ok (.ishl, 1) := by decide +kernel
theorem dX11_decoded_174 : decode cX11_decoded 174 = .ok (.ior, 1) := by decide +kernel
theorem dX11_decoded_175 : decode cX11_decoded 175 = .ok (.istore 6, 2) := by decide +kernel
theorem dX11_decoded_40 : decode cX11_decoded 40 = .ok (.ireturn, 1) := by decide +kernel
theorem dX11_decoded_39 : decode cX11_decoded 39 = .ok (.iconst 0, 1) := by decide +kernel
theorem dX11_decoded_28 : decode cX11_decoded 28 = .ok (.iconst 2, 1) := by decide +kernel
theorem dX11_decoded_29 : decode cX11_decoded 29 = .ok (.iload_n 2, 1) := by decide +kernel
theorem dX11_decoded_30 : decode cX11_decoded 30 = .ok (.imul, 1) := by decide +kernel
theorem dX11_decoded_31 : decode cX11_decoded 31 = .ok (.iload_n 1, 1) := by decide +kernel
theorem dX11_decoded_32 : decode cX11_decoded 32 = .ok (.if_icmp .le 7, 3) := by decide +kernel
theorem dX11_decoded_35 : decode cX11_decoded 35 = .ok (.iconst 1, 1) := by decide +kernel
theorem dX11_decoded_36 : decode cX11_decoded 36 = .ok (.goto 4, 3) := by decide +kernel
theorem dX11_decoded_8 : decode cX11_decoded 8 = .ok (.iload_n 3, 1) := by decide +kernel
theorem dX11_decoded_9 : decode cX11_decoded 9 = .ok (.iload_n 1, 1) := by decide +kernel
theorem dX11_decoded_10 : decode cX11_decoded 10 = .ok (.if_icmp .ge 18, 3) := by decide +kernel
theorem dX11_decoded_13 : decode cX11_decoded 13 = .ok (.iload_n 2, 1) := by decide +kernel
theorem dX11_decoded_14 : decode cX11_decoded 14 = .ok (.aload_n 0, 1) := by decide +kernel
theorem dX11_decoded_15 : decode cX11_decoded 15 = .ok (.getfield 41, 3) := by decide +kernel
theorem dX11_decoded_18 : decode cX11_decoded 18 = .ok (.iload_n 3, 1) := by decide +kernel
theorem dX11_decoded_19 : decode cX11_decoded 19 = .ok (.iaload, 1) := by decide +kernel
theorem dX11_decoded_20 : decode cX11_decoded 20 = .ok (.iadd, 1) := by decide +kernel
theorem dX11_decoded_21 : decode cX11_decoded 21 = .ok (.istore_n 2, 1) := by decide +kernel
theorem dX11_decoded_22 : decode cX11_decoded 22 = .ok (.iinc 3 1, 3) := by decide +kernel
theorem dX11_decoded_25 : decode cX11_decoded 25 = .ok (.goto (-17), 3) := by decide +kernel
theorem dX11_decoded_0 : decode cX11_decoded 0 = .ok (.iload_n 1, 1) := by decide +kernel
theorem dX11_decoded_1 : decode cX11_decoded 1 = .ok (.ifCond .le 40, 3) := by decide +kernel
theorem dX11_decoded_4 : decode cX11_decoded 4 = .ok (.iconst 0, 1) := by decide +kernel
theorem dX11_decoded_5 : decode cX11_decoded 5 = .ok (.istore_n 2, 1) := by decide +kernel
theorem dX11_decoded_6 : decode cX11_decoded 6 = .ok (.iconst 0, 1) := by decide +kernel
theorem dX11_decoded_7 : decode cX11_decoded 7 = .ok (.istore_n 3, 1) := by decide +kernel
theorem dX11_blockOf_58 : decode cX11_blockOf 58 = .ok (.iconst (-1), 1) := by decide +kernel
theorem dX11_blockOf_59 : decode cX11_blockOf 59 = .ok (.ireturn, 1) := by decide +kernel
theorem dX11_blockOf_52 : decode cX11_blockOf 52 = .ok (.iinc 3 1, 3) := by decide +kernel
theorem dX11_blockOf_55 : decode cX11_blockOf 55 = .ok (.goto (-48), 3) := by decide +kernel
theorem dX11_blockOf_7 : decode cX11_blockOf 7 = .ok (.iload_n 3, 1) := by decide +kernel
theorem dX11_blockOf_8 : decode cX11_blockOf 8 = .ok (.iload_n 2, 1) := by decide +kernel
theorem dX11_blockOf_9 : decode cX11_blockOf 9 = .ok (.if_icmp .ge 49, 3) := by decide +kernel
theorem dX11_blockOf_12 : decode cX11_blockOf 12 = .ok (.aload_n 0, 1) := by decide +kernel
theorem dX11_blockOf_13 : decode cX11_blockOf 13 = .ok (.getfield 38, 3) := by decide +kernel
theorem dX11_blockOf_16 : decode cX11_blockOf 16 = .ok (.iload_n 3, 1) := by decide +kernel
theorem dX11_blockOf_17 : decode cX11_blockOf 17 = .ok (.iaload, 1) := by decide +kernel
theorem dX11_blockOf_18 : decode cX11_blockOf 18 = .ok (.iload_n 1, 1) := by decide +kernel
theorem dX11_blockOf_19 : decode cX11_blockOf 19 = .ok (.if_icmp .ne 33, 3) := by decide +kernel
theorem dX11_blockOf_22 : decode cX11_blockOf 22 = .ok (.iload_n 3, 1) := by decide +kernel
theorem dX11_blockOf_23 : decode cX11_blockOf 23 = .ok (.aload_n 0, 1) := by decide +kernel
theorem dX11_blockOf_24 : decode cX11_blockOf 24 = .ok (.getfield 17, 3) := by decide +kernel
theorem dX11_blockOf_27 : decode cX11_blockOf 27 = .ok (.iconst 4, 1) := by decide +kernel
theorem dX11_blockOf_28 : decode cX11_blockOf 28 = .ok (.iaload, 1) := by decide +kernel
theorem dX11_blockOf_29 : decode cX11_blockOf 29 = .ok (.invokestatic 114, 3) := by decide +kernel
theorem dX11_blockOf_32 : decode cX11_blockOf 32 = .ok (.idiv, 1) := by decide +kernel
theorem dX11_blockOf_33 : decode cX11_blockOf 33 = .ok (.aload_n 0, 1) := by decide +kernel
theorem dX11_blockOf_34 : decode cX11_blockOf 34 = .ok (.invokevirtual 239, 3) := by decide +kernel
theorem dX11_blockOf_37 : decode cX11_blockOf 37 = .ok (.if_icmp .ge 15, 3) := by decide +kernel
theorem dX11_blockOf_40 : decode cX11_blockOf 40 = .ok (.iload_n 3, 1) := by decide +kernel
theorem dX11_blockOf_41 : decode cX11_blockOf 41 = .ok (.aload_n 0, 1) := by decide +kernel
theorem dX11_blockOf_42 : decode cX11_blockOf 42 = .ok (.getfield 17, 3) := by decide +kernel
theorem dX11_blockOf_45 : decode cX11_blockOf 45 = .ok (.iconst 4, 1) := by decide +kernel
theorem dX11_blockOf_46 : decode cX11_blockOf 46 = .ok (.iaload, 1) := by decide +kernel
theorem dX11_blockOf_47 : decode cX11_blockOf 47 = .ok (.invokestatic 114, 3) := by decide +kernel
theorem dX11_blockOf_50 : decode cX11_blockOf 50 = .ok (.idiv, 1) := by decide +kernel
theorem dX11_blockOf_51 : decode cX11_blockOf 51 = .ok (.ireturn, 1) := by decide +kernel
theorem dX11_blockOf_0 : decode cX11_blockOf 0 = .ok (.aload_n 0, 1) := by decide +kernel
theorem dX11_blockOf_1 : decode cX11_blockOf 1 = .ok (.invokevirtual 120, 3) := by decide +kernel
theorem dX11_blockOf_4 : decode cX11_blockOf 4 = .ok (.istore_n 2, 1) := by decide +kernel
theorem dX11_blockOf_5 : decode cX11_blockOf 5 = .ok (.iconst 0, 1) := by decide +kernel
theorem dX11_blockOf_6 : decode cX11_blockOf 6 = .ok (.istore_n 3, 1) := by decide +kernel
theorem dX11_heardAt_36 : decode cX11_heardAt 36 = .ok (.iconst (-1), 1) := by decide +kernel
theorem dX11_heardAt_37 : decode cX11_heardAt 37 = .ok (.ireturn, 1) := by decide +kernel
theorem dX11_heardAt_30 : decode cX11_heardAt 30 = .ok (.iinc 2 1, 3) := by decide +kernel
theorem dX11_heardAt_33 : decode cX11_heardAt 33 = .ok (.goto (-31), 3) := by decide +kernel
theorem dX11_heardAt_2 : decode cX11_heardAt 2 = .ok (.iload_n 2, 1) := by decide +kernel
theorem dX11_heardAt_3 : decode cX11_heardAt 3 = .ok (.aload_n 0, 1) := by decide +kernel
theorem dX11_heardAt_4 : decode cX11_heardAt 4 = .ok (.getfield 17, 3) := by decide +kernel
theorem dX11_heardAt_7 : decode cX11_heardAt 7 = .ok (.sipush 161, 3) := by decide +kernel
theorem dX11_heardAt_10 : decode cX11_heardAt 10 = .ok (.iaload, 1) := by decide +kernel
theorem dX11_heardAt_11 : decode cX11_heardAt 11 = .ok (.if_icmp .ge 25, 3) := by decide +kernel
theorem dX11_heardAt_14 : decode cX11_heardAt 14 = .ok (.aload_n 0, 1) := by decide +kernel
theorem dX11_heardAt_15 : decode cX11_heardAt 15 = .ok (.getfield 17, 3) := by decide +kernel
theorem dX11_heardAt_18 : decode cX11_heardAt 18 = .ok (.sipush 162, 3) := by decide +kernel
theorem dX11_heardAt_21 : decode cX11_heardAt 21 = .ok (.iload_n 2, 1) := by decide +kernel
theorem dX11_heardAt_22 : decode cX11_heardAt 22 = .ok (.iadd, 1) := by decide +kernel
theorem dX11_heardAt_23 : decode cX11_heardAt 23 = .ok (.iaload, 1) := by decide +kernel
theorem dX11_heardAt_24 : decode cX11_heardAt 24 = .ok (.iload_n 1, 1) := by decide +kernel
theorem dX11_heardAt_25 : decode cX11_heardAt 25 = .ok (.if_icmp .ne 5, 3) := by decide +kernel
theorem dX11_heardAt_28 : decode cX11_heardAt 28 = .ok (.iload_n 2, 1) := by decide +kernel
theorem dX11_heardAt_29 : decode cX11_heardAt 29 = .ok (.ireturn, 1) := by decide +kernel
theorem dX11_heardAt_0 : decode cX11_heardAt 0 = .ok (.iconst 0, 1) := by decide +kernel
theorem dX11_heardAt_1 : decode cX11_heardAt 1 = .ok (.istore_n 2, 1) := by decide +kernel
theorem dX11_keptAt_34 : decode cX11_keptAt 34 = .ok (.iconst (-1), 1) := by decide +kernel
theorem dX11_keptAt_35 : decode cX11_keptAt 35 = .ok (.ireturn, 1) := by decide +kernel
theorem dX11_keptAt_28 : decode cX11_keptAt 28 = .ok (.iinc 2 1, 3) := by decide +kernel
theorem dX11_keptAt_31 : decode cX11_keptAt 31 = .ok (.goto (-29), 3) := by decide +kernel
theorem dX11_keptAt_2 : decode cX11_keptAt 2 = .ok (.iload_n 2, 1) := by decide +kernel
theorem dX11_keptAt_3 : decode cX11_keptAt 3 = .ok (.aload_n 0, 1) := by decide +kernel
theorem dX11_keptAt_4 : decode cX11_keptAt 4 = .ok (.getfield 17, 3) := by decide +kernel
theorem dX11_keptAt_7 : decode cX11_keptAt 7 = .ok (.bipush 45, 2) := by decide +kernel
theorem dX11_keptAt_9 : decode cX11_keptAt 9 = .ok (.iaload, 1) := by decide +kernel
theorem dX11_keptAt_10 : decode cX11_keptAt 10 = .ok (.if_icmp .ge 24, 3) := by decide +kernel
theorem dX11_keptAt_13 : decode cX11_keptAt 13 = .ok (.aload_n 0, 1) := by decide +kernel
theorem dX11_keptAt_14 : decode cX11_keptAt 14 = .ok (.getfield 17, 3) := by decide +kernel
theorem dX11_keptAt_17 : decode cX11_keptAt 17 = .ok (.bipush 49, 2) := by decide +kernel
theorem dX11_keptAt_19 : decode cX11_keptAt 19 = .ok (.iload_n 2, 1) := by decide +kernel
theorem dX11_keptAt_20 : decode cX11_keptAt 20 = .ok (.iadd, 1) := by decide +kernel
theorem dX11_keptAt_21 : decode cX11_keptAt 21 = .ok (.iaload, 1) := by decide +kernel
theorem dX11_keptAt_22 : decode cX11_keptAt 22 = .ok (.iload_n 1, 1) := by decide +kernel
theorem dX11_keptAt_23 : decode cX11_keptAt 23 = .ok (.if_icmp .ne 5, 3) := by decide +kernel
theorem dX11_keptAt_26 : decode cX11_keptAt 26 = .ok (.iload_n 2, 1) := by decide +kernel
theorem dX11_keptAt_27 : decode cX11_keptAt 27 = .ok (.ireturn, 1) := by decide +kernel
theorem dX11_keptAt_0 : decode cX11_keptAt 0 = .ok (.iconst 0, 1) := by decide +kernel
theorem dX11_keptAt_1 : decode cX11_keptAt 1 = .ok (.istore_n 2, 1) := by decide +kernel
theorem dX11_guessOf_0 : decode cX11_guessOf 0 = .ok (.aload_n 0, 1) := by decide +kernel
theorem dX11_guessOf_1 : decode cX11_guessOf 1 = .ok (.getfield 17, 3) := by decide +kernel
theorem dX11_guessOf_4 : decode cX11_guessOf 4 = .ok (.bipush 35, 2) := by decide +kernel
theorem dX11_guessOf_6 : decode cX11_guessOf 6 = .ok (.aload_n 0, 1) := by decide +kernel
theorem dX11_guessOf_7 : decode cX11_guessOf 7 = .ok (.getfield 26, 3) := by decide +kernel
theorem dX11_guessOf_10 : decode cX11_guessOf 10 = .ok (.iload_n 1, 1) := by decide +kernel
theorem dX11_guessOf_11 : decode cX11_guessOf 11 = .ok (.iaload, 1) := by decide +kernel
theorem dX11_guessOf_12 : decode cX11_guessOf 12 = .ok (.iadd, 1) := by decide +kernel
theorem dX11_guessOf_13 : decode cX11_guessOf 13 = .ok (.iaload, 1) := by decide +kernel
theorem dX11_guessOf_14 : decode cX11_guessOf 14 = .ok (.aload_n 0, 1) := by decide +kernel
theorem dX11_guessOf_15 : decode cX11_guessOf 15 = .ok (.getfield 17, 3) := by decide +kernel
theorem dX11_guessOf_18 : decode cX11_guessOf 18 = .ok (.bipush 35, 2) := by decide +kernel
theorem dX11_guessOf_20 : decode cX11_guessOf 20 = .ok (.aload_n 0, 1) := by decide +kernel
theorem dX11_guessOf_21 : decode cX11_guessOf 21 = .ok (.getfield 29, 3) := by decide +kernel
theorem dX11_guessOf_24 : decode cX11_guessOf 24 = .ok (.iload_n 1, 1) := by decide +kernel
theorem dX11_guessOf_25 : decode cX11_guessOf 25 = .ok (.iaload, 1) := by decide +kernel
theorem dX11_guessOf_26 : decode cX11_guessOf 26 = .ok (.iadd, 1) := by decide +kernel
theorem dX11_guessOf_27 : decode cX11_guessOf 27 = .ok (.iaload, 1) := by decide +kernel
theorem dX11_guessOf_28 : decode cX11_guessOf 28 = .ok (.aload_n 0, 1) := by decide +kernel
theorem dX11_guessOf_29 : decode cX11_guessOf 29 = .ok (.getfield 26, 3) := by decide +kernel
theorem dX11_guessOf_32 : decode cX11_guessOf 32 = .ok (.iload_n 1, 1) := by decide +kernel
theorem dX11_guessOf_33 : decode cX11_guessOf 33 = .ok (.iaload, 1) := by decide +kernel
theorem dX11_guessOf_34 : decode cX11_guessOf 34 = .ok (.aload_n 0, 1) := by decide +kernel
theorem dX11_guessOf_35 : decode cX11_guessOf 35 = .ok (.getfield 29, 3) := by decide +kernel
theorem dX11_guessOf_38 : decode cX11_guessOf 38 = .ok (.iload_n 1, 1) := by decide +kernel
theorem dX11_guessOf_39 : decode cX11_guessOf 39 = .ok (.iaload, 1) := by decide +kernel
theorem dX11_guessOf_40 : decode cX11_guessOf 40 = .ok (.invokestatic 78, 3) := by decide +kernel
theorem dX11_guessOf_43 : decode cX11_guessOf 43 = .ok (.ireturn, 1) := by decide +kernel
theorem dX11_keptBlocks_0 : decode cX11_keptBlocks 0 = .ok (.aload_n 0, 1) := by decide +kernel
theorem dX11_keptBlocks_1 : decode cX11_keptBlocks 1 = .ok (.getfield 17, 3) := by decide +kernel
theorem dX11_keptBlocks_4 : decode cX11_keptBlocks 4 = .ok (.bipush 45, 2) := by decide +kernel
theorem dX11_keptBlocks_6 : decode cX11_keptBlocks 6 = .ok (.iaload, 1) := by decide +kernel
theorem dX11_keptBlocks_7 : decode cX11_keptBlocks 7 = .ok (.aload_n 0, 1) := by decide +kernel
theorem dX11_keptBlocks_8 : decode cX11_keptBlocks 8 = .ok (.getfield 17, 3) := by decide +kernel
theorem dX11_keptBlocks_11 : decode cX11_keptBlocks 11 = .ok (.bipush 46, 2) := by decide +kernel
theorem dX11_keptBlocks_13 : decode cX11_keptBlocks 13 = .ok (.iaload, 1) := by decide +kernel
theorem dX11_keptBlocks_14 : decode cX11_keptBlocks 14 = .ok (.invokestatic 114, 3) := by decide +kernel
theorem dX11_keptBlocks_17 : decode cX11_keptBlocks 17 = .ok (.idiv, 1) := by decide +kernel
theorem dX11_keptBlocks_18 : decode cX11_keptBlocks 18 = .ok (.ireturn, 1) := by decide +kernel
theorem dX11_keptBits_0 : decode cX11_keptBits 0 = .ok (.aload_n 0, 1) := by decide +kernel
theorem dX11_keptBits_1 : decode cX11_keptBits 1 = .ok (.getfield 17, 3) := by decide +kernel
theorem dX11_keptBits_4 : decode cX11_keptBits 4 = .ok (.bipush 45, 2) := by decide +kernel
theorem dX11_keptBits_6 : decode cX11_keptBits 6 = .ok (.iaload, 1) := by decide +kernel
theorem dX11_keptBits_7 : decode cX11_keptBits 7 = .ok (.aload_n 0, 1) := by decide +kernel
theorem dX11_keptBits_8 : decode cX11_keptBits 8 = .ok (.getfield 17, 3) := by decide +kernel
theorem dX11_keptBits_11 : decode cX11_keptBits 11 = .ok (.bipush 46, 2) := by decide +kernel
theorem dX11_keptBits_13 : decode cX11_keptBits 13 = .ok (.iaload, 1) := by decide +kernel
theorem dX11_keptBits_14 : decode cX11_keptBits 14 = .ok (.invokestatic 114, 3) := by decide +kernel
theorem dX11_keptBits_17 : decode cX11_keptBits 17 = .ok (.idiv, 1) := by decide +kernel
theorem dX11_keptBits_18 : decode cX11_keptBits 18 = .ok (.aload_n 0, 1) := by decide +kernel
theorem dX11_keptBits_19 : decode cX11_keptBits 19 = .ok (.getfield 17, 3) := by decide +kernel
theorem dX11_keptBits_22 : decode cX11_keptBits 22 = .ok (.bipush 46, 2) := by decide +kernel
theorem dX11_keptBits_24 : decode cX11_keptBits 24 = .ok (.iaload, 1) := by decide +kernel
theorem dX11_keptBits_25 : decode cX11_keptBits 25 = .ok (.invokestatic 117, 3) := by decide +kernel
theorem dX11_keptBits_28 : decode cX11_keptBits 28 = .ok (.imul, 1) := by decide +kernel
theorem dX11_keptBits_29 : decode cX11_keptBits 29 = .ok (.ireturn, 1) := by decide +kernel
theorem dX11_leaks_0 : decode cX11_leaks 0 = .ok (.aload_n 0, 1) := by decide +kernel
theorem dX11_leaks_1 : decode cX11_leaks 1 = .ok (.getfield 17, 3) := by decide +kernel
theorem dX11_leaks_4 : decode cX11_leaks 4 = .ok (.bipush 45, 2) := by decide +kernel
theorem dX11_leaks_6 : decode cX11_leaks 6 = .ok (.iaload, 1) := by decide +kernel
theorem dX11_leaks_7 : decode cX11_leaks 7 = .ok (.aload_n 0, 1) := by decide +kernel
theorem dX11_leaks_8 : decode cX11_leaks 8 = .ok (.invokevirtual 270, 3) := by decide +kernel
theorem dX11_leaks_11 : decode cX11_leaks 11 = .ok (.isub, 1) := by decide +kernel
theorem dX11_leaks_12 : decode cX11_leaks 12 = .ok (.iconst 4, 1) := by decide +kernel
theorem dX11_leaks_13 : decode cX11_leaks 13 = .ok (.iadd, 1) := by decide +kernel
theorem dX11_leaks_14 : decode cX11_leaks 14 = .ok (.ireturn, 1) := by decide +kernel
theorem dX11_isKept_16 : decode cX11_isKept 16 = .ok (.iconst 1, 1) := by decide +kernel
theorem dX11_isKept_17 : decode cX11_isKept 17 = .ok (.iconst 2, 1) := by decide +kernel
theorem dX11_isKept_18 : decode cX11_isKept 18 = .ok (.invokevirtual 217, 3) := by decide +kernel
theorem dX11_isKept_21 : decode cX11_isKept 21 = .ok (.ireturn, 1) := by decide +kernel
theorem dX11_isKept_15 : decode cX11_isKept 15 = .ok (.iconst 0, 1) := by decide +kernel
theorem dX11_isKept_0 : decode cX11_isKept 0 = .ok (.aload_n 0, 1) := by decide +kernel
theorem dX11_isKept_1 : decode cX11_isKept 1 = .ok (.aload_n 0, 1) := by decide +kernel
theorem dX11_isKept_2 : decode cX11_isKept 2 = .ok (.getfield 17, 3) := by decide +kernel
theorem dX11_isKept_5 : decode cX11_isKept 5 = .ok (.bipush 45, 2) := by decide +kernel
theorem dX11_isKept_7 : decode cX11_isKept 7 = .ok (.iaload, 1) := by decide +kernel
theorem dX11_isKept_8 : decode cX11_isKept 8 = .ok (.ifCond .le 7, 3) := by decide +kernel
theorem dX11_isKept_11 : decode cX11_isKept 11 = .ok (.iconst 1, 1) := by decide +kernel
theorem dX11_isKept_12 : decode cX11_isKept 12 = .ok (.goto 4, 3) := by decide +kernel
theorem dX11_isRing_0 : decode cX11_isRing 0 = .ok (.aload_n 0, 1) := by decide +kernel
theorem dX11_isRing_1 : decode cX11_isRing 1 = .ok (.iload_n 1, 1) := by decide +kernel
theorem dX11_isRing_2 : decode cX11_isRing 2 = .ok (.iconst 0, 1) := by decide +kernel
theorem dX11_isRing_3 : decode cX11_isRing 3 = .ok (.aload_n 0, 1) := by decide +kernel
theorem dX11_isRing_4 : decode cX11_isRing 4 = .ok (.getfield 224, 3) := by decide +kernel
theorem dX11_isRing_7 : decode cX11_isRing 7 = .ok (.iconst 1, 1) := by decide +kernel
theorem dX11_isRing_8 : decode cX11_isRing 8 = .ok (.isub, 1) := by decide +kernel
theorem dX11_isRing_9 : decode cX11_isRing 9 = .ok (.invokestatic 173, 3) := by decide +kernel
theorem dX11_isRing_12 : decode cX11_isRing 12 = .ok (.iconst 1, 1) := by decide +kernel
theorem dX11_isRing_13 : decode cX11_isRing 13 = .ok (.iconst 0, 1) := by decide +kernel
theorem dX11_isRing_14 : decode cX11_isRing 14 = .ok (.invokevirtual 217, 3) := by decide +kernel
theorem dX11_isRing_17 : decode cX11_isRing 17 = .ok (.ireturn, 1) := by decide +kernel
theorem dX11_isPair_0 : decode cX11_isPair 0 = .ok (.aload_n 0, 1) := by decide +kernel
theorem dX11_isPair_1 : decode cX11_isPair 1 = .ok (.iload_n 1, 1) := by decide +kernel
theorem dX11_isPair_2 : decode cX11_isPair 2 = .ok (.iconst 0, 1) := by decide +kernel
theorem dX11_isPair_3 : decode cX11_isPair 3 = .ok (.aload_n 0, 1) := by decide +kernel
theorem dX11_isPair_4 : decode cX11_isPair 4 = .ok (.getfield 103, 3) := by decide +kernel
theorem dX11_isPair_7 : decode cX11_isPair 7 = .ok (.iconst 1, 1) := by decide +kernel
theorem dX11_isPair_8 : decode cX11_isPair 8 = .ok (.isub, 1) := by decide +kernel
theorem dX11_isPair_9 : decode cX11_isPair 9 = .ok (.invokestatic 173, 3) := by decide +kernel
theorem dX11_isPair_12 : decode cX11_isPair 12 = .ok (.iconst 1, 1) := by decide +kernel
theorem dX11_isPair_13 : decode cX11_isPair 13 = .ok (.iconst 0, 1) := by decide +kernel
theorem dX11_isPair_14 : decode cX11_isPair 14 = .ok (.invokevirtual 217, 3) := by decide +kernel
theorem dX11_isPair_17 : decode cX11_isPair 17 = .ok (.ireturn, 1) := by decide +kernel
theorem dX11_isHeat_0 : decode cX11_isHeat 0 = .ok (.aload_n 0, 1) := by decide +kernel
theorem dX11_isHeat_1 : decode cX11_isHeat 1 = .ok (.iload_n 1, 1) := by decide +kernel
theorem dX11_isHeat_2 : decode cX11_isHeat 2 = .ok (.bipush (-40), 2) := by decide +kernel
theorem dX11_isHeat_4 : decode cX11_isHeat 4 = .ok (.bipush 125, 2) := by decide +kernel
theorem dX11_isHeat_6 : decode cX11_isHeat 6 = .ok (.invokestatic 173, 3) := by decide +kernel
theorem dX11_isHeat_9 : decode cX11_isHeat 9 = .ok (.iconst 2, 1) := by decide +kernel
theorem dX11_isHeat_10 : decode cX11_isHeat 10 = .ok (.iconst 1, 1) := by decide +kernel
theorem dX11_isHeat_11 : decode cX11_isHeat 11 = .ok (.invokevirtual 217, 3) := by decide +kernel
theorem dX11_isHeat_14 : decode cX11_isHeat 14 = .ok (.ireturn, 1) := by decide +kernel
/-! the reference: decoding, what is kept, what is heard -/
def pxI (w k : Nat) : Int32 := bI (w.testBit k)
def atI (w : Nat) : Int32 := (pxI w 0 ^^^ pxI w 2 ^^^ pxI w 4 ^^^ pxI w 6) + 2 * (pxI w 1 ^^^ pxI w 2 ^^^ pxI w 5 ^^^ pxI w 6) + 4 * (pxI w 3 ^^^ pxI w 4 ^^^ pxI w 5 ^^^ pxI w 6)
def dtI (w : Nat) : Int32 := pxI w 2 ||| pxI w 4 <<< ((1 : Int32) &&& 31) ||| pxI w 5 <<< ((2 : Int32) &&& 31) ||| pxI w 6 <<< ((3 : Int32) &&& 31)
def hdf (w : Nat) : Int32 := if atI w = 3 then dtI w ^^^ 1 else if atI w = 5 then dtI w ^^^ 2 else if atI w = 6 then dtI w ^^^ 4 else if atI w = 7 then dtI w ^^^ 8 else dtI w
theorem dc_ham : ∀ w, w < 128 → hdf w = nI (dcN 0 w) := by decide +kernel
theorem pop_low {w r : Nat} (hw : w < 2 ^ r) (hr : r ≤ 32) : pop w = fb_ct (fun i => w.testBit i) r := by
  unfold pop
  rw [show (32 : Nat) = r + (32 - r) by omega, fb_ct_split]
  have : fb_ct (fun k => w.testBit (r + k)) (32 - r) = 0 := fb_ct_zero.mpr (fun k _ => Nat.testBit_lt_two_pow (Nat.lt_of_lt_of_le hw (Nat.pow_le_pow_right (by omega) (by omega))))
  rw [this]
  rfl
def ca_X11_decoded : (Nat × Nat × Nat) → List zV := fun (y, r, w) => [vR 20 0 y, vI (nI r)]
def cp_X11_decoded : (Nat × Nat × Nat) → zH → Prop := fun (y, r, w) h => vRp r ∧ w < 2 ^ lnR r ∧ btw (lnR r) w (h.1 (y + 10))
def cf_X11_decoded : (Nat × Nat × Nat) → zH → Int32 := fun (y, r, w) _ => nI (dcN r w)
theorem rc_X11_decoded : ∀ x : (Nat × Nat × Nat), ∃ (j a : Nat) (As : List zV), ca_X11_decoded x = vR (10 + 10) j a :: As := by
  rintro ⟨y, r, w⟩
  exact ⟨_, _, _, rfl⟩
set_option maxHeartbeats 4000000 in
set_option maxRecDepth 100000 in
theorem m_X11_decoded : zM yX11_decoded cX11_decoded 7 (some .int) ({ frames := 0, cells := 0, slots := 0, locals := 0 } : Room) (zcI ca_X11_decoded cp_X11_decoded cf_X11_decoded) := by
  refine zM_of (by decide) ?_
  rintro X Y ⟨y, r, w⟩ h ⟨hr, hw, hb⟩ O E hR
  have hr8 := vRp_8 hr
  have hw : w < 2 ^ lnR r := hw
  have hb : btw (lnR r) w (h.1 (y + 10)) := hb
  have B_234 := zr_ireturn (X := X) (Y := Y) (u := 0) (v := 0) O E (Nat.le_refl _) (Nat.le_refl _) dX11_decoded_234
  have B_232 := zr_iload (X := X) (Y := Y) (u := 0) (v := 0) O dX11_decoded_232 (B_234)
  have B_217 := zr_iload (X := X) (Y := Y) (u := 0) (v := 0) O dX11_decoded_217 (zr_bipush (x := (7)) O dX11_decoded_219 (by decide) (zr_icne (tgt := 232) O dX11_decoded_221 rfl B_232 (zr_iload O dX11_decoded_224 (zr_bipush (x := (8)) O dX11_decoded_226 (by decide) (zr_ixor O dX11_decoded_228 (zr_goto (tgt := 234) O dX11_decoded_229 rfl B_234))))))
  have B_203 := zr_iload (X := X) (Y := Y) (u := 0) (v := 0) O dX11_decoded_203 (zr_bipush (x := (6)) O dX11_decoded_205 (by decide) (zr_icne (tgt := 217) O dX11_decoded_207 rfl B_217 (zr_iload O dX11_decoded_210 (zr_iconst (x := 4) O dX11_decoded_212 rfl (zr_ixor O dX11_decoded_213 (zr_goto (tgt := 234) O dX11_decoded_214 rfl B_234))))))
  have B_190 := zr_iload (X := X) (Y := Y) (u := 0) (v := 0) O dX11_decoded_190 (zr_iconst (x := 5) O dX11_decoded_192 rfl (zr_icne (tgt := 203) O dX11_decoded_193 rfl B_203 (zr_iload O dX11_decoded_196 (zr_iconst (x := 2) O dX11_decoded_198 rfl (zr_ixor O dX11_decoded_199 (zr_goto (tgt := 234) O dX11_decoded_200 rfl B_234))))))
  have B_177 := zr_iload (X := X) (Y := Y) (u := 0) (v := 0) O dX11_decoded_177 (zr_iconst (x := 3) O dX11_decoded_179 rfl (zr_icne (tgt := 190) O dX11_decoded_180 rfl B_190 (zr_iload O dX11_decoded_183 (zr_iconst (x := 1) O dX11_decoded_185 rfl (zr_ixor O dX11_decoded_186 (zr_goto (tgt := 234) O dX11_decoded_187 rfl B_234))))))
  have C_177 : zSd X Y 0 0 177 (fun ls st h1 => ∃ y2 y3 y4 : Option zV, ls = [some (vR 20 0 y), some (vI (nI r)), y2, y3, y4, some (vI (atI w)), some (vI (dtI w))] ∧ st = [] ∧ h = h1 ∧ r = 0) := by
    refine zSd_weak B_177 (fun ls st h1 t => ?_)
    obtain ⟨y2, y3, y4, rfl, rfl, rfl, hz⟩ := t
    have hw7 : w < 128 := by rw [hz] at hw; exact hw
    have d := dc_ham w hw7
    rw [hz]
    refine ⟨fun c => ⟨fun e => ⟨fun f => ⟨fun g => ⟨zri ?_, rfl⟩, fun g => ⟨zri ?_, rfl⟩⟩, fun f => ⟨zri ?_, rfl⟩⟩, fun e => ⟨zri ?_, rfl⟩⟩, fun c => ⟨zri ?_, rfl⟩⟩
    · show dtI w = nI (dcN 0 w)
      rw [← d, hdf, if_neg c, if_neg e, if_neg f, if_neg g]
    · show dtI w ^^^ 8 = nI (dcN 0 w)
      rw [← d, hdf, if_neg c, if_neg e, if_neg f, if_pos g]
    · show dtI w ^^^ 4 = nI (dcN 0 w)
      rw [← d, hdf, if_neg c, if_neg e, if_pos f]
    · show dtI w ^^^ 2 = nI (dcN 0 w)
      rw [← d, hdf, if_neg c, if_pos e]
    · show dtI w ^^^ 1 = nI (dcN 0 w)
      rw [← d, hdf, if_pos c]
  have B_41 := zr_aload_n (X := X) (Y := Y) (u := 0) (v := 0) O dX11_decoded_41 rfl (zr_gS (ci := 10) (j := 13) (off := 10) (t := 1) (n := 7) O zc_10 (by decide) rfl tw_1200 dX11_decoded_42 (zr_iconst (x := 0) O dX11_decoded_45 rfl (zr_iald O dX11_decoded_46 (zr_aload_n O dX11_decoded_47 rfl (zr_gS (ci := 10) (j := 13) (off := 10) (t := 1) (n := 7) O zc_10 (by decide) rfl tw_1200 dX11_decoded_48 (zr_iconst (x := 2) O dX11_decoded_51 rfl (zr_iald O dX11_decoded_52 (zr_ixor O dX11_decoded_53 (zr_aload_n O dX11_decoded_54 rfl (zr_gS (ci := 10) (j := 13) (off := 10) (t := 1) (n := 7) O zc_10 (by decide) rfl tw_1200 dX11_decoded_55 (zr_iconst (x := 4) O dX11_decoded_58 rfl (zr_iald O dX11_decoded_59 (zr_ixor O dX11_decoded_60 (zr_aload_n O dX11_decoded_61 rfl (zr_gS (ci := 10) (j := 13) (off := 10) (t := 1) (n := 7) O zc_10 (by decide) rfl tw_1200 dX11_decoded_62 (zr_bipush (x := (6)) O dX11_decoded_65 (by decide) (zr_iald O dX11_decoded_67 (zr_ixor O dX11_decoded_68 (zr_istore_n O dX11_decoded_69 rfl (zr_aload_n O dX11_decoded_70 rfl (zr_gS (ci := 10) (j := 13) (off := 10) (t := 1) (n := 7) O zc_10 (by decide) rfl tw_1200 dX11_decoded_71 (zr_iconst (x := 1) O dX11_decoded_74 rfl (zr_iald O dX11_decoded_75 (zr_aload_n O dX11_decoded_76 rfl (zr_gS (ci := 10) (j := 13) (off := 10) (t := 1) (n := 7) O zc_10 (by decide) rfl tw_1200 dX11_decoded_77 (zr_iconst (x := 2) O dX11_decoded_80 rfl (zr_iald O dX11_decoded_81 (zr_ixor O dX11_decoded_82 (zr_aload_n O dX11_decoded_83 rfl (zr_gS (ci := 10) (j := 13) (off := 10) (t := 1) (n := 7) O zc_10 (by decide) rfl tw_1200 dX11_decoded_84 (zr_iconst (x := 5) O dX11_decoded_87 rfl (zr_iald O dX11_decoded_88 (zr_ixor O dX11_decoded_89 (zr_aload_n O dX11_decoded_90 rfl (zr_gS (ci := 10) (j := 13) (off := 10) (t := 1) (n := 7) O zc_10 (by decide) rfl tw_1200 dX11_decoded_91 (zr_bipush (x := (6)) O dX11_decoded_94 (by decide) (zr_iald O dX11_decoded_96 (zr_ixor O dX11_decoded_97 (zr_istore_n O dX11_decoded_98 rfl (zr_aload_n O dX11_decoded_99 rfl (zr_gS (ci := 10) (j := 13) (off := 10) (t := 1) (n := 7) O zc_10 (by decide) rfl tw_1200 dX11_decoded_100 (zr_iconst (x := 3) O dX11_decoded_103 rfl (zr_iald O dX11_decoded_104 (zr_aload_n O dX11_decoded_105 rfl (zr_gS (ci := 10) (j := 13) (off := 10) (t := 1) (n := 7) O zc_10 (by decide) rfl tw_1200 dX11_decoded_106 (zr_iconst (x := 4) O dX11_decoded_109 rfl (zr_iald O dX11_decoded_110 (zr_ixor O dX11_decoded_111 (zr_aload_n O dX11_decoded_112 rfl (zr_gS (ci := 10) (j := 13) (off := 10) (t := 1) (n := 7) O zc_10 (by decide) rfl tw_1200 dX11_decoded_113 (zr_iconst (x := 5) O dX11_decoded_116 rfl (zr_iald O dX11_decoded_117 (zr_ixor O dX11_decoded_118 (zr_aload_n O dX11_decoded_119 rfl (zr_gS (ci := 10) (j := 13) (off := 10) (t := 1) (n := 7) O zc_10 (by decide) rfl tw_1200 dX11_decoded_120 (zr_bipush (x := (6)) O dX11_decoded_123 (by decide) (zr_iald O dX11_decoded_125 (zr_ixor O dX11_decoded_126 (zr_istore O dX11_decoded_127 (zr_iload_n O dX11_decoded_129 rfl (zr_iconst (x := 2) O dX11_decoded_130 rfl (zr_iload_n O dX11_decoded_131 rfl (zr_imul O dX11_decoded_132 (zr_iadd O dX11_decoded_133 (zr_iconst (x := 4) O dX11_decoded_134 rfl (zr_iload O dX11_decoded_135 (zr_imul O dX11_decoded_137 (zr_iadd O dX11_decoded_138 (zr_istore O dX11_decoded_139 (zr_aload_n O dX11_decoded_141 rfl (zr_gS (ci := 10) (j := 13) (off := 10) (t := 1) (n := 7) O zc_10 (by decide) rfl tw_1200 dX11_decoded_142 (zr_iconst (x := 2) O dX11_decoded_145 rfl (zr_iald O dX11_decoded_146 (zr_aload_n O dX11_decoded_147 rfl (zr_gS (ci := 10) (j := 13) (off := 10) (t := 1) (n := 7) O zc_10 (by decide) rfl tw_1200 dX11_decoded_148 (zr_iconst (x := 4) O dX11_decoded_151 rfl (zr_iald O dX11_decoded_152 (zr_iconst (x := 1) O dX11_decoded_153 rfl (zr_ishl O dX11_decoded_154 (zr_ior O dX11_decoded_155 (zr_aload_n O dX11_decoded_156 rfl (zr_gS (ci := 10) (j := 13) (off := 10) (t := 1) (n := 7) O zc_10 (by decide) rfl tw_1200 dX11_decoded_157 (zr_iconst (x := 5) O dX11_decoded_160 rfl (zr_iald O dX11_decoded_161 (zr_iconst (x := 2) O dX11_decoded_162 rfl (zr_ishl O dX11_decoded_163 (zr_ior O dX11_decoded_164 (zr_aload_n O dX11_decoded_165 rfl (zr_gS (ci := 10) (j := 13) (off := 10) (t := 1) (n := 7) O zc_10 (by decide) rfl tw_1200 dX11_decoded_166 (zr_bipush (x := (6)) O dX11_decoded_169 (by decide) (zr_iald O dX11_decoded_171 (zr_iconst (x := 3) O dX11_decoded_172 rfl (zr_ishl O dX11_decoded_173 (zr_ior O dX11_decoded_174 (zr_istore O dX11_decoded_175 (C_177))))))))))))))))))))))))))))))))))))))))))))))))))))))))))))))))))))))))))))))))))))))))))))))))
  have B_40 := zr_ireturn (X := X) (Y := Y) (u := 0) (v := 0) O E (Nat.le_refl _) (Nat.le_refl _) dX11_decoded_40
  have B_39 := zr_iconst (X := X) (Y := Y) (u := 0) (v := 0) (x := 0) O dX11_decoded_39 rfl (B_40)
  have B_28 := zr_iconst (X := X) (Y := Y) (u := 0) (v := 0) (x := 2) O dX11_decoded_28 rfl (zr_iload_n O dX11_decoded_29 rfl (zr_imul O dX11_decoded_30 (zr_iload_n O dX11_decoded_31 rfl (zr_icle (tgt := 39) O dX11_decoded_32 rfl B_39 (zr_iconst (x := 1) O dX11_decoded_35 rfl (zr_goto (tgt := 40) O dX11_decoded_36 rfl B_40))))))
  have L_8 : ∀ nn : Nat, zSd X Y 0 0 8 ((fun k ls st h1 => ∃ (i : Nat) (u z : Int32), k = r - i ∧ i ≤ r ∧ ls = [some (vR 20 0 y), some (vI (nI r)), some (vI u), some (vI z), none, none, none] ∧ u = nI (fb_ct (fun i => w.testBit i) i) ∧ z = nI i ∧ st = [] ∧ h = h1 ∧ 0 < r : Nat → zT) nn) := by
    refine zSd_loop (fun nn ih => ?_)
    have B_8 := zr_iload_n (X := X) (Y := Y) (u := 0) (v := 0) O dX11_decoded_8 rfl (zr_iload_n O dX11_decoded_9 rfl (zr_icge (tgt := 28) O dX11_decoded_10 rfl B_28 (zr_iload_n O dX11_decoded_13 rfl (zr_aload_n O dX11_decoded_14 rfl (zr_gS (ci := 10) (j := 13) (off := 10) (t := 1) (n := 7) O zc_10 (by decide) rfl tw_1200 dX11_decoded_15 (zr_iload_n O dX11_decoded_18 rfl (zr_iald O dX11_decoded_19 (zr_iadd O dX11_decoded_20 (zr_istore_n O dX11_decoded_21 rfl (zr_iinc (c := 1) O dX11_decoded_22 rfl (zr_goto (tgt := 8) O dX11_decoded_25 rfl ih)))))))))))
    refine zSd_weak B_8 (fun ls st h1 t => ?_)
    obtain ⟨i, u, z, rfl, hi, rfl, rfl, rfl, rfl, rfl, hr0⟩ := t
    have el : lnR r = r := by rw [lnR, if_neg (by omega)]
    have hct := fb_ct_le (fun i => w.testBit i) i
    refine ⟨fun c => ?_, fun c => ?_⟩
    · have := (nI_leI (by omega) (by omega)).mp c
      have hi2 : i = r := by omega
      subst hi2
      have e2 : (2 : Int32) * nI (fb_ct (fun i => w.testBit i) i) = nI (2 * fb_ct (fun i => w.testBit i) i) := by rw [show (2 : Int32) = nI 2 from rfl, nI_mul]
      have ep : pop w = fb_ct (fun i => w.testBit i) i := pop_low (by rw [el] at hw; exact hw) (by omega)
      refine ⟨fun d => ⟨zri ?_, rfl⟩, fun d => ⟨zri ?_, rfl⟩⟩
      · rw [e2] at d
        have := (nI_leI (by omega) (by omega)).mp d
        show (0 : Int32) = nI (dcN i w)
        rw [dcN, if_neg (by omega), ep, if_neg (by omega)]; rfl
      · rw [e2] at d
        have : ¬ 2 * fb_ct (fun i => w.testBit i) i ≤ i := fun z => d ((nI_leI (by omega) (by omega)).mpr z)
        show (1 : Int32) = nI (dcN i w)
        rw [dcN, if_neg (by omega), ep, if_pos (by omega)]; rfl
    · have hi2 : i < r := Nat.not_le.mp (fun z => c ((nI_leI (by omega) (by omega)).mpr z))
      refine ⟨i, rfl, by omega, r - (i + 1), by omega, i + 1, _, _, rfl, by omega, rfl, ?_, nI_1 i, rfl, rfl, hr0⟩
      rw [hb i (by omega), fb_ct_succ]
      cases w.testBit i with
      | true => exact nI_1 _
      | false => exact Int32.add_zero _
  have B_8 := zSd_any L_8
  have B_0 := zr_iload_n (X := X) (Y := Y) (u := 0) (v := 0) O dX11_decoded_0 rfl (zr_ifle (tgt := 41) O dX11_decoded_1 rfl B_41 (zr_iconst (x := 0) O dX11_decoded_4 rfl (zr_istore_n O dX11_decoded_5 rfl (zr_iconst (x := 0) O dX11_decoded_6 rfl (zr_istore_n O dX11_decoded_7 rfl (B_8))))))
  refine ⟨rfl, Nat.le_of_ble_eq_true rfl, _, B_0, ?_⟩
  refine ⟨fun c => ?_, fun c => ?_⟩
  · have hz : r = 0 := by
      rcases Nat.eq_zero_or_pos r with z | z
      · exact z
      · exact absurd c (nI_nle z (by omega))
    have hb7 : ∀ k, k < 7 → h.1 (y + 10) k = pxI w k := fun k hk => hb k (by rw [hz]; exact hk)
    refine ⟨0, rfl, by decide, 2, rfl, by decide, 4, rfl, by decide, 6, rfl, by decide, 1, rfl, by decide, 2, rfl, by decide, 5, rfl, by decide, 6, rfl, by decide, 3, rfl, by decide, 4, rfl, by decide, 5, rfl, by decide, 6, rfl, by decide, 2, rfl, by decide, 4, rfl, by decide, 5, rfl, by decide, 6, rfl, by decide, some (vI (pxI w 0 ^^^ pxI w 2 ^^^ pxI w 4 ^^^ pxI w 6)), some (vI (pxI w 1 ^^^ pxI w 2 ^^^ pxI w 5 ^^^ pxI w 6)), some (vI (pxI w 3 ^^^ pxI w 4 ^^^ pxI w 5 ^^^ pxI w 6)), ?_, rfl, rfl, hz⟩
    rw [hb7 0 (by decide), hb7 1 (by decide), hb7 2 (by decide), hb7 3 (by decide), hb7 4 (by decide), hb7 5 (by decide), hb7 6 (by decide)]
    rfl
  · have hz : 0 < r := Nat.pos_of_ne_zero (fun z => c (by rw [z]; decide))
    exact ⟨r - 0, 0, _, _, rfl, Nat.zero_le _, rfl, rfl, rfl, rfl, rfl, hz⟩
def ca_X11_blockOf : (zD × Nat × Nat) → List zV := fun (S, y, p) => [vR 20 0 y, vI (nI p)]
def cp_X11_blockOf : (zD × Nat × Nat) → zH → Prop := fun (S, y, p) h => rmS S h y ∧ vS S ∧ p < dP S
def cq_X11_blockOf : (zD × Nat × Nat) → zH → Option zV → zH → Prop := fun (S, y, p) h r h' => r = some (vI (blk S p)) ∧ ∃ u : Nat → Int32, h' = zsW h (y + 9) u
theorem rc_X11_blockOf : ∀ x : (zD × Nat × Nat), ∃ (j a : Nat) (As : List zV), ca_X11_blockOf x = vR (10 + 10) j a :: As := by
  rintro ⟨S, y, p⟩
  exact ⟨_, _, _, rfl⟩
set_option maxHeartbeats 4000000 in
set_option maxRecDepth 100000 in
theorem m_X11_blockOf : zM yX11_blockOf cX11_blockOf 4 (some .int) ({ frames := 9, cells := 0, slots := 0, locals := 198 } : Room) ((ca_X11_blockOf, cp_X11_blockOf, cq_X11_blockOf) : zC (zD × Nat × Nat)) := by
  refine zM_of (by decide) ?_
  rintro X Y ⟨S, y, p⟩ h ⟨hS, hv, hp⟩ O E hR
  have hS : rmS S h y := hS
  have hv : vS S := hv
  have hp : p < dP S := hp
  have hP28 := hS.2.1.2
  have hct := fb_ct_le (us S) (dP S)
  have hln := lnR_pos hv.2.2.2.2.2.2
  have hnb := nbk_le hv
  have t4 : ∀ u, (zsW h (y + 9) u).1 (y + 2) 4 = nI (dR S) := fun u => by rw [zsW_n _ _ (by omega), hS.2.2.2.2 4 (by decide)]; exact hv.2.2.2.2.2.1
  have B_58 := zr_iconst (X := X) (Y := Y) (u := 0) (v := 0) (x := (-1)) O dX11_blockOf_58 rfl (zr_ireturn O E (Nat.le_refl _) (Nat.le_refl _) dX11_blockOf_59)
  have L_7 : ∀ nn : Nat, zSd X Y 0 0 7 ((fun k ls st h1 => ∃ (i : Nat) (z : Int32) (u : Nat → Int32), k = fb_ct (us S) (dP S) - i ∧ i ≤ fb_ct (us S) (dP S) ∧ ls = [some (vR 20 0 y), some (vI (nI p)), some (vI (nI (fb_ct (us S) (dP S)))), some (vI z)] ∧ z = nI i ∧ st = [] ∧ h1 = zsW h (y + 9) u ∧ usR (us S) (dP S) u ∧ ∀ j, j < i → ¬ (sel (us S) j (dP S) = p ∧ j / lnR (dR S) < nbk S) : Nat → zT) nn) := by
    refine zSd_loop (fun nn ih => ?_)
    have B_52 := zr_iinc (X := X) (Y := Y) (u := 0) (v := 0) (c := 1) O dX11_blockOf_52 rfl (zr_goto (tgt := 7) O dX11_blockOf_55 rfl ih)
    have B_7 := zr_iload_n (X := X) (Y := Y) (u := 0) (v := 0) O dX11_blockOf_7 rfl (zr_iload_n O dX11_blockOf_8 rfl (zr_icge (tgt := 58) O dX11_blockOf_9 rfl B_58 (zr_aload_n O dX11_blockOf_12 rfl (zr_gS (ci := 10) (j := 12) (off := 9) (t := 1) (n := 28) O zc_10 (by decide) rfl tw_1199 dX11_blockOf_13 (zr_iload_n O dX11_blockOf_16 rfl (zr_iald O dX11_blockOf_17 (zr_iload_n O dX11_blockOf_18 rfl (zr_icne (tgt := 52) O dX11_blockOf_19 rfl B_52 (zr_iload_n O dX11_blockOf_22 rfl (zr_aload_n O dX11_blockOf_23 rfl (zr_gS (ci := 10) (j := 2) (off := 2) (t := 1) (n := 218) O zc_10 (by decide) rfl tw_1189 dX11_blockOf_24 (zr_iconst (x := 4) O dX11_blockOf_27 rfl (zr_iald O dX11_blockOf_28 (zr_cI (zr_cS (n := 1) O m_X11_wideBy (bn_X11_wideBy _ ⟨rfl, rfl⟩) tw_1439 tw_1438 (zrm hR rfl rfl) dX11_blockOf_29 (zr_idiv O dX11_blockOf_32 (zr_aload_n O dX11_blockOf_33 rfl (zr_cV (ci := 10) (n := 0) O m_X11_blocks (bn_X11_blocks _ ⟨rfl, rfl⟩) vw_X11_blocks tw_1391 rc_X11_blocks (zrm hR rfl rfl) dX11_blockOf_34 (zr_icge (tgt := 52) O dX11_blockOf_37 rfl B_52 (zr_iload_n O dX11_blockOf_40 rfl (zr_aload_n O dX11_blockOf_41 rfl (zr_gS (ci := 10) (j := 2) (off := 2) (t := 1) (n := 218) O zc_10 (by decide) rfl tw_1189 dX11_blockOf_42 (zr_iconst (x := 4) O dX11_blockOf_45 rfl (zr_iald O dX11_blockOf_46 (zr_cI (zr_cS (n := 1) O m_X11_wideBy (bn_X11_wideBy _ ⟨rfl, rfl⟩) tw_1439 tw_1438 (zrm hR rfl rfl) dX11_blockOf_47 (zr_idiv O dX11_blockOf_50 (zr_ireturn O E (Nat.le_refl _) (Nat.le_refl _) dX11_blockOf_51))))))))))))))))))))))))))))
    refine zSd_weak B_7 (fun ls st h1 t => ?_)
    obtain ⟨i, z, u, rfl, hi, rfl, rfl, rfl, rfl, hu, hb⟩ := t
    have hS1 : ∀ u, rmS S (zsW h (y + 9) u) y := fun u => rmS_fr (by omega) (by omega) (by omega) (by omega) hS
    refine ⟨fun c => ⟨zri ?_, u, rfl⟩, fun c => ?_⟩
    · have := (nI_leI (by omega) (by omega)).mp c
      have hi2 : i = fb_ct (us S) (dP S) := by omega
      subst hi2
      show (-1 : Int32) = blk S p
      rw [blk, if_neg]
      rintro ⟨z1, z2⟩
      obtain ⟨k1, k2⟩ := sel_at z1 rfl (dP S) hp
      exact hb _ k1 ⟨k2, z2⟩
    · have hi2 : i < fb_ct (us S) (dP S) := Nat.not_le.mp (fun z => c ((nI_leI (by omega) (by omega)).mpr z))
      obtain ⟨l1, l2, l3⟩ := sel_spec (dP S) hi2
      have d1 := Nat.div_le_self i (lnR (dR S))
      have ei : (zsW h (y + 9) u).1 (y + 9) i = nI (sel (us S) i (dP S)) := by rw [zsW_s]; exact hu i hi2
      have next : ∀ u2 : Nat → Int32, usR (us S) (dP S) u2 → ¬ (sel (us S) i (dP S) = p ∧ i / lnR (dR S) < nbk S) → ∃ k_1, k_1 < fb_ct (us S) (dP S) - i ∧ ∃ (i_1 : Nat) (z : Int32) (u : Nat → Int32), k_1 = fb_ct (us S) (dP S) - i_1 ∧ i_1 ≤ fb_ct (us S) (dP S) ∧ ([some (vR 20 0 y), some (vI (nI p)), some (vI (nI (fb_ct (us S) (dP S)))), some (vI (nI i + 1))] : zL) = [some (vR 20 0 y), some (vI (nI p)), some (vI (nI (fb_ct (us S) (dP S)))), some (vI z)] ∧ z = nI i_1 ∧ ([] : List zV) = [] ∧ zsW h (y + 9) u2 = zsW h (y + 9) u ∧ usR (us S) (dP S) u ∧ ∀ j, j < i_1 → ¬ (sel (us S) j (dP S) = p ∧ j / lnR (dR S) < nbk S) := fun u2 hu2 hn => ⟨fb_ct (us S) (dP S) - (i + 1), by omega, i + 1, _, u2, rfl, by omega, rfl, nI_1 i, rfl, rfl, hu2, fun j hj => by
        by_cases e : j = i
        · rw [e]; exact hn
        · exact hb j (by omega)⟩
      refine ⟨i, rfl, by omega, fun d => ?_, fun d => ⟨4, rfl, by decide, dR S, by rw [t4]; rfl, vRp_8 hv.2.2.2.2.2.2, nI_ne0 (by omega) (by omega), (S, y), rfl, ⟨hS1 u, hv⟩, fun r h2 hq => ?_⟩⟩
      · rw [ei] at d
        exact next u hu (fun z => d (by rw [z.1]))
      · rw [ei] at d
        have hd := (nI_eq (by omega) (by omega)).mp d
        obtain ⟨rfl, u2, e2, hu2⟩ := hq
        rw [zsW_W] at e2
        subst e2
        have ed : nI i / nI (lnR (dR S)) = nI (i / lnR (dR S)) := pk_div (by omega) (by omega) (by omega)
        refine ⟨fun e => next u2 hu2 (fun z => ?_), fun e => ⟨4, rfl, by decide, dR S, by rw [t4]; rfl, vRp_8 hv.2.2.2.2.2.2, nI_ne0 (by omega) (by omega), zri ?_, u2, rfl⟩⟩
        · replace e : nI (nbk S) ≤ nI i / nI (lnR (dR S)) := e
          rw [ed] at e
          have := (nI_leI (by omega) (by omega)).mp e
          omega
        · replace e : ¬ nI (nbk S) ≤ nI i / nI (lnR (dR S)) := e
          rw [ed] at e
          have he : ¬ nbk S ≤ i / lnR (dR S) := fun z => e ((nI_leI (by omega) (by omega)).mpr z)
          show nI i / nI (lnR (dR S)) = blk S p
          rw [hd] at l2 l3
          rw [ed, blk, l3, if_pos ⟨l2, by omega⟩]
  have B_7 := zSd_any L_7
  have B_0 := zr_aload_n (X := X) (Y := Y) (u := 0) (v := 0) O dX11_blockOf_0 rfl (zr_cV (ci := 10) (n := 0) O m_X11_usedNow (bn_X11_usedNow _ ⟨rfl, rfl⟩) vw_X11_usedNow tw_1395 rc_X11_usedNow (zrm hR rfl rfl) dX11_blockOf_1 (zr_istore_n O dX11_blockOf_4 rfl (zr_iconst (x := 0) O dX11_blockOf_5 rfl (zr_istore_n O dX11_blockOf_6 rfl (B_7)))))
  refine ⟨rfl, Nat.le_of_ble_eq_true rfl, _, B_0, ?_⟩
  refine ⟨(S, y), rfl, ⟨hS, hv⟩, fun r h2 hq => ?_⟩
  obtain ⟨rfl, u, rfl, hu⟩ := hq
  exact ⟨fb_ct (us S) (dP S) - 0, 0, _, u, rfl, Nat.zero_le _, rfl, rfl, rfl, rfl, hu, fun j hj => absurd hj (Nat.not_lt_zero _)⟩
/-- what is kept and what is heard, in the reference's row -/
def rmE (K : zE) (f : Nat → Int32) : Prop := f 45 = nI (eN K) ∧ vE K ∧ (0 < eN K → (f 46 = nI (eR K) ∧ f 47 = nI (eS K) ∧ f 48 = nI (eC K)) ∧ ∀ i, i < eN K → f (49 + i) = nI (eP K i) ∧ f (77 + i) = bI ((eB K).testBit i) ∧ f (105 + i) = bI ((eH K).testBit i) ∧ f (133 + i) = bI ((eG K).testBit i))
def rmL (M : zG) (f : Nat → Int32) : Prop := (f 161 = nI (gN M) ∧ gN M ≤ 28) ∧ (∀ i, i < gN M → (f (162 + i) = nI (gP M i) ∧ gP M i < 28) ∧ f (190 + i) = bI (gB M i)) ∧ ∀ r, r < 10 → f (35 + r) = gW M r
def hxI (M : zG) (p : Nat) : Int32 := if gH M p then nI (gIx M p) else -1
theorem lI (a b : Nat) : nI a + nI b = nI (a + b) := nI_add a b
def ca_X11_heardAt : (zG × Nat × Nat) → List zV := fun (M, y, p) => [vR 20 0 y, vI (nI p)]
def cp_X11_heardAt : (zG × Nat × Nat) → zH → Prop := fun (M, y, p) h => rmL M (h.1 (y + 2)) ∧ p < 28
def cf_X11_heardAt : (zG × Nat × Nat) → zH → Int32 := fun (M, y, p) _ => hxI M p
theorem rc_X11_heardAt : ∀ x : (zG × Nat × Nat), ∃ (j a : Nat) (As : List zV), ca_X11_heardAt x = vR (10 + 10) j a :: As := by
  rintro ⟨M, y, p⟩
  exact ⟨_, _, _, rfl⟩
set_option maxHeartbeats 4000000 in
set_option maxRecDepth 100000 in
theorem m_X11_heardAt : zM yX11_heardAt cX11_heardAt 3 (some .int) ({ frames := 0, cells := 0, slots := 0, locals := 0 } : Room) (zcI ca_X11_heardAt cp_X11_heardAt cf_X11_heardAt) := by
  refine zM_of (by decide) ?_
  rintro X Y ⟨M, y, p⟩ h ⟨hL, hp⟩ O E hR
  have hL : rmL M (h.1 (y + 2)) := hL
  have hp : p < 28 := hp
  have h28 := hL.1.2
  have B_36 := zr_iconst (X := X) (Y := Y) (u := 0) (v := 0) (x := (-1)) O dX11_heardAt_36 rfl (zr_ireturn O E (Nat.le_refl _) (Nat.le_refl _) dX11_heardAt_37)
  have L_2 : ∀ nn : Nat, zSd X Y 0 0 2 ((fun k ls st h1 => ∃ (i : Nat) (z : Int32), k = gN M - i ∧ i ≤ gN M ∧ ls = [some (vR 20 0 y), some (vI (nI p)), some (vI z)] ∧ z = nI i ∧ st = [] ∧ h = h1 ∧ ∀ j, j < i → decide (gP M j = p) = false : Nat → zT) nn) := by
    refine zSd_loop (fun nn ih => ?_)
    have B_30 := zr_iinc (X := X) (Y := Y) (u := 0) (v := 0) (c := 1) O dX11_heardAt_30 rfl (zr_goto (tgt := 2) O dX11_heardAt_33 rfl ih)
    have B_2 := zr_iload_n (X := X) (Y := Y) (u := 0) (v := 0) O dX11_heardAt_2 rfl (zr_aload_n O dX11_heardAt_3 rfl (zr_gS (ci := 10) (j := 2) (off := 2) (t := 1) (n := 218) O zc_10 (by decide) rfl tw_1189 dX11_heardAt_4 (zr_sipush (x := (161)) O dX11_heardAt_7 (by decide) (zr_iald O dX11_heardAt_10 (zr_icge (tgt := 36) O dX11_heardAt_11 rfl B_36 (zr_aload_n O dX11_heardAt_14 rfl (zr_gS (ci := 10) (j := 2) (off := 2) (t := 1) (n := 218) O zc_10 (by decide) rfl tw_1189 dX11_heardAt_15 (zr_sipush (x := (162)) O dX11_heardAt_18 (by decide) (zr_iload_n O dX11_heardAt_21 rfl (zr_iadd O dX11_heardAt_22 (zr_iald O dX11_heardAt_23 (zr_iload_n O dX11_heardAt_24 rfl (zr_icne (tgt := 30) O dX11_heardAt_25 rfl B_30 (zr_iload_n O dX11_heardAt_28 rfl (zr_ireturn O E (Nat.le_refl _) (Nat.le_refl _) dX11_heardAt_29)))))))))))))))
    refine zSd_weak B_2 (fun ls st h1 t => ?_)
    obtain ⟨i, z, rfl, hi, rfl, rfl, rfl, rfl, hb⟩ := t
    refine ⟨161, rfl, by decide, fun c => ⟨zri ?_, rfl⟩, fun c => ?_⟩
    · rw [hL.1.1] at c
      have := (nI_leI (by omega) (by omega)).mp c
      have hi2 : i = gN M := by omega
      subst hi2
      have hz : gH M p = false := decide_eq_false (first_none hb)
      show (-1 : Int32) = hxI M p
      rw [hxI, hz]; rfl
    · rw [hL.1.1] at c
      have hi2 : i < gN M := Nat.not_le.mp (fun z => c ((nI_leI (by omega) (by omega)).mpr z))
      obtain ⟨⟨p1, p2⟩, -⟩ := hL.2.1 i hi2
      refine ⟨162 + i, lI 162 i, by omega, fun d => ?_, fun d => ⟨zri ?_, rfl⟩⟩
      · rw [p1] at d
        refine ⟨gN M - (i + 1), by omega, i + 1, _, rfl, by omega, rfl, nI_1 i, rfl, rfl, fun j hj => ?_⟩
        by_cases e : j = i
        · rw [e]; exact decide_eq_false (fun z => d (by rw [z]))
        · exact hb j (by omega)
      · rw [p1] at d
        have hd := (nI_eq (by omega) (by omega)).mp d
        have e : gIx M p = i := first_at hi2 (decide_eq_true hd) hb
        show nI i = hxI M p
        rw [hxI, gH, e, decide_eq_true hi2]; rfl
  have B_2 := zSd_any L_2
  have B_0 := zr_iconst (X := X) (Y := Y) (u := 0) (v := 0) (x := 0) O dX11_heardAt_0 rfl (zr_istore_n O dX11_heardAt_1 rfl (B_2))
  refine ⟨rfl, Nat.le_of_ble_eq_true rfl, _, B_0, ?_⟩
  exact ⟨gN M - 0, 0, _, rfl, Nat.zero_le _, rfl, rfl, rfl, rfl, fun j hj => absurd hj (Nat.not_lt_zero _)⟩
def ca_X11_keptAt : (zE × Nat × Nat) → List zV := fun (K, y, p) => [vR 20 0 y, vI (nI p)]
def cp_X11_keptAt : (zE × Nat × Nat) → zH → Prop := fun (K, y, p) h => rmE K (h.1 (y + 2)) ∧ p < 28
def cf_X11_keptAt : (zE × Nat × Nat) → zH → Int32 := fun (K, y, p) _ => plI K p
theorem rc_X11_keptAt : ∀ x : (zE × Nat × Nat), ∃ (j a : Nat) (As : List zV), ca_X11_keptAt x = vR (10 + 10) j a :: As := by
  rintro ⟨K, y, p⟩
  exact ⟨_, _, _, rfl⟩
set_option maxHeartbeats 4000000 in
set_option maxRecDepth 100000 in
theorem m_X11_keptAt : zM yX11_keptAt cX11_keptAt 3 (some .int) ({ frames := 0, cells := 0, slots := 0, locals := 0 } : Room) (zcI ca_X11_keptAt cp_X11_keptAt cf_X11_keptAt) := by
  refine zM_of (by decide) ?_
  rintro X Y ⟨K, y, p⟩ h ⟨hE, hp⟩ O E hR
  have hE : rmE K (h.1 (y + 2)) := hE
  have hp : p < 28 := hp
  have h28 := hE.2.1.1
  have B_34 := zr_iconst (X := X) (Y := Y) (u := 0) (v := 0) (x := (-1)) O dX11_keptAt_34 rfl (zr_ireturn O E (Nat.le_refl _) (Nat.le_refl _) dX11_keptAt_35)
  have L_2 : ∀ nn : Nat, zSd X Y 0 0 2 ((fun k ls st h1 => ∃ (i : Nat) (z : Int32), k = eN K - i ∧ i ≤ eN K ∧ ls = [some (vR 20 0 y), some (vI (nI p)), some (vI z)] ∧ z = nI i ∧ st = [] ∧ h = h1 ∧ ∀ j, j < i → decide (eP K j = p) = false : Nat → zT) nn) := by
    refine zSd_loop (fun nn ih => ?_)
    have B_28 := zr_iinc (X := X) (Y := Y) (u := 0) (v := 0) (c := 1) O dX11_keptAt_28 rfl (zr_goto (tgt := 2) O dX11_keptAt_31 rfl ih)
    have B_2 := zr_iload_n (X := X) (Y := Y) (u := 0) (v := 0) O dX11_keptAt_2 rfl (zr_aload_n O dX11_keptAt_3 rfl (zr_gS (ci := 10) (j := 2) (off := 2) (t := 1) (n := 218) O zc_10 (by decide) rfl tw_1189 dX11_keptAt_4 (zr_bipush (x := (45)) O dX11_keptAt_7 (by decide) (zr_iald O dX11_keptAt_9 (zr_icge (tgt := 34) O dX11_keptAt_10 rfl B_34 (zr_aload_n O dX11_keptAt_13 rfl (zr_gS (ci := 10) (j := 2) (off := 2) (t := 1) (n := 218) O zc_10 (by decide) rfl tw_1189 dX11_keptAt_14 (zr_bipush (x := (49)) O dX11_keptAt_17 (by decide) (zr_iload_n O dX11_keptAt_19 rfl (zr_iadd O dX11_keptAt_20 (zr_iald O dX11_keptAt_21 (zr_iload_n O dX11_keptAt_22 rfl (zr_icne (tgt := 28) O dX11_keptAt_23 rfl B_28 (zr_iload_n O dX11_keptAt_26 rfl (zr_ireturn O E (Nat.le_refl _) (Nat.le_refl _) dX11_keptAt_27)))))))))))))))
    refine zSd_weak B_2 (fun ls st h1 t => ?_)
    obtain ⟨i, z, rfl, hi, rfl, rfl, rfl, rfl, hb⟩ := t
    refine ⟨45, rfl, by decide, fun c => ⟨zri ?_, rfl⟩, fun c => ?_⟩
    · rw [hE.1] at c
      have := (nI_leI (by omega) (by omega)).mp c
      have hi2 : i = eN K := by omega
      subst hi2
      show (-1 : Int32) = plI K p
      rw [plI, if_neg (show ¬ plc K p < eN K from first_none hb)]
    · rw [hE.1] at c
      have hi2 : i < eN K := Nat.not_le.mp (fun z => c ((nI_leI (by omega) (by omega)).mpr z))
      obtain ⟨p1, -⟩ := (hE.2.2 (by omega)).2 i hi2
      have p2 := (hE.2.1.2 (by omega)).1 i hi2
      refine ⟨49 + i, lI 49 i, by omega, fun d => ?_, fun d => ⟨zri ?_, rfl⟩⟩
      · rw [p1] at d
        refine ⟨eN K - (i + 1), by omega, i + 1, _, rfl, by omega, rfl, nI_1 i, rfl, rfl, fun j hj => ?_⟩
        by_cases e : j = i
        · rw [e]; exact decide_eq_false (fun z => d (by rw [z]))
        · exact hb j (by omega)
      · rw [p1] at d
        have hd := (nI_eq (by omega) (by omega)).mp d
        have e : plc K p = i := first_at hi2 (decide_eq_true hd) hb
        show nI i = plI K p
        rw [plI, e, if_pos hi2]
  have B_2 := zSd_any L_2
  have B_0 := zr_iconst (X := X) (Y := Y) (u := 0) (v := 0) (x := 0) O dX11_keptAt_0 rfl (zr_istore_n O dX11_keptAt_1 rfl (B_2))
  refine ⟨rfl, Nat.le_of_ble_eq_true rfl, _, B_0, ?_⟩
  exact ⟨eN K - 0, 0, _, rfl, Nat.zero_le _, rfl, rfl, rfl, rfl, fun j hj => absurd hj (Nat.not_lt_zero _)⟩
def ca_X11_guessOf : (zD × zG × Nat × Nat) → List zV := fun (S, M, y, p) => [vR 20 0 y, vI (nI p)]
def cp_X11_guessOf : (zD × zG × Nat × Nat) → zH → Prop := fun (S, M, y, p) h => rmS S h y ∧ (∀ r, r < 10 → h.1 (y + 2) (35 + r) = gW M r) ∧ p < dP S
def cf_X11_guessOf : (zD × zG × Nat × Nat) → zH → Int32 := fun (S, M, y, p) _ => gss S (gW M) p
theorem rc_X11_guessOf : ∀ x : (zD × zG × Nat × Nat), ∃ (j a : Nat) (As : List zV), ca_X11_guessOf x = vR (10 + 10) j a :: As := by
  rintro ⟨S, M, y, p⟩
  exact ⟨_, _, _, rfl⟩
set_option maxHeartbeats 4000000 in
set_option maxRecDepth 100000 in
theorem m_X11_guessOf : zM yX11_guessOf cX11_guessOf 2 (some .int) ({ frames := 1, cells := 0, slots := 0, locals := 23 } : Room) (zcI ca_X11_guessOf cp_X11_guessOf cf_X11_guessOf) := by
  refine zM_of (by decide) ?_
  rintro X Y ⟨S, M, y, p⟩ h ⟨hS, hW, hp⟩ O E hR
  have B_0 := zr_aload_n (X := X) (Y := Y) (u := 0) (v := 0) O dX11_guessOf_0 rfl (zr_gS (ci := 10) (j := 2) (off := 2) (t := 1) (n := 218) O zc_10 (by decide) rfl tw_1189 dX11_guessOf_1 (zr_bipush (x := (35)) O dX11_guessOf_4 (by decide) (zr_aload_n O dX11_guessOf_6 rfl (zr_gS (ci := 10) (j := 5) (off := 5) (t := 1) (n := 28) O zc_10 (by decide) rfl tw_1192 dX11_guessOf_7 (zr_iload_n O dX11_guessOf_10 rfl (zr_iald O dX11_guessOf_11 (zr_iadd O dX11_guessOf_12 (zr_iald O dX11_guessOf_13 (zr_aload_n O dX11_guessOf_14 rfl (zr_gS (ci := 10) (j := 2) (off := 2) (t := 1) (n := 218) O zc_10 (by decide) rfl tw_1189 dX11_guessOf_15 (zr_bipush (x := (35)) O dX11_guessOf_18 (by decide) (zr_aload_n O dX11_guessOf_20 rfl (zr_gS (ci := 10) (j := 6) (off := 6) (t := 1) (n := 28) O zc_10 (by decide) rfl tw_1193 dX11_guessOf_21 (zr_iload_n O dX11_guessOf_24 rfl (zr_iald O dX11_guessOf_25 (zr_iadd O dX11_guessOf_26 (zr_iald O dX11_guessOf_27 (zr_aload_n O dX11_guessOf_28 rfl (zr_gS (ci := 10) (j := 5) (off := 5) (t := 1) (n := 28) O zc_10 (by decide) rfl tw_1192 dX11_guessOf_29 (zr_iload_n O dX11_guessOf_32 rfl (zr_iald O dX11_guessOf_33 (zr_aload_n O dX11_guessOf_34 rfl (zr_gS (ci := 10) (j := 6) (off := 6) (t := 1) (n := 28) O zc_10 (by decide) rfl tw_1193 dX11_guessOf_35 (zr_iload_n O dX11_guessOf_38 rfl (zr_iald O dX11_guessOf_39 (zr_cI (zr_cS (n := 4) O m_X11_bitBy (bn_X11_bitBy _ ⟨rfl, rfl⟩) tw_1428 tw_1427 (zrm hR rfl rfl) dX11_guessOf_40 (zr_ireturn O E (Nat.le_refl _) (Nat.le_refl _) dX11_guessOf_43))))))))))))))))))))))))))))
  refine ⟨rfl, Nat.le_of_ble_eq_true rfl, _, B_0, ?_⟩
  obtain ⟨⟨f1, f2⟩, s1, s2⟩ := hS.2.2.2.1 p hp
  have hN := hS.1.2
  have hp28 : p < 28 := Nat.lt_of_lt_of_le hp hS.2.1.2
  refine ⟨p, rfl, hp28, 35 + dF S p, by rw [f1]; exact lI 35 _, by omega, p, rfl, hp28, 35 + dS S p, by rw [s1]; exact lI 35 _, by omega, p, rfl, hp28, p, rfl, hp28, (gW M (dF S p), gW M (dS S p), dF S p, dS S p), ?_, ⟨by omega, by omega⟩, rfl, rfl⟩
  rw [f1, s1, hW _ (by omega), hW _ (by omega)]; rfl
theorem eN_div {K : zE} (hv : vE K) (h0 : 0 < eN K) : eN K / lnR (eR K) = eK K := by
  obtain ⟨-, hr, hn, -⟩ := hv.2 h0
  have hln := lnR_pos hr
  rw [hn, Nat.mul_div_cancel _ (by omega)]
def ca_X11_keptBlocks : (zE × Nat) → List zV := fun (K, y) => [vR 20 0 y]
def cp_X11_keptBlocks : (zE × Nat) → zH → Prop := fun (K, y) h => rmE K (h.1 (y + 2)) ∧ 0 < eN K
def cf_X11_keptBlocks : (zE × Nat) → zH → Int32 := fun (K, y) _ => nI (eK K)
theorem rc_X11_keptBlocks : ∀ x : (zE × Nat), ∃ (j a : Nat) (As : List zV), ca_X11_keptBlocks x = vR (10 + 10) j a :: As := by
  rintro ⟨K, y⟩
  exact ⟨_, _, _, rfl⟩
set_option maxHeartbeats 4000000 in
set_option maxRecDepth 100000 in
theorem m_X11_keptBlocks : zM yX11_keptBlocks cX11_keptBlocks 1 (some .int) ({ frames := 1, cells := 0, slots := 0, locals := 20 } : Room) (zcI ca_X11_keptBlocks cp_X11_keptBlocks cf_X11_keptBlocks) := by
  refine zM_of (by decide) ?_
  rintro X Y ⟨K, y⟩ h ⟨hE, h0⟩ O E hR
  have B_0 := zr_aload_n (X := X) (Y := Y) (u := 0) (v := 0) O dX11_keptBlocks_0 rfl (zr_gS (ci := 10) (j := 2) (off := 2) (t := 1) (n := 218) O zc_10 (by decide) rfl tw_1189 dX11_keptBlocks_1 (zr_bipush (x := (45)) O dX11_keptBlocks_4 (by decide) (zr_iald O dX11_keptBlocks_6 (zr_aload_n O dX11_keptBlocks_7 rfl (zr_gS (ci := 10) (j := 2) (off := 2) (t := 1) (n := 218) O zc_10 (by decide) rfl tw_1189 dX11_keptBlocks_8 (zr_bipush (x := (46)) O dX11_keptBlocks_11 (by decide) (zr_iald O dX11_keptBlocks_13 (zr_cI (zr_cS (n := 1) O m_X11_wideBy (bn_X11_wideBy _ ⟨rfl, rfl⟩) tw_1439 tw_1438 (zrm hR rfl rfl) dX11_keptBlocks_14 (zr_idiv O dX11_keptBlocks_17 (zr_ireturn O E (Nat.le_refl _) (Nat.le_refl _) dX11_keptBlocks_18)))))))))))
  refine ⟨rfl, Nat.le_of_ble_eq_true rfl, _, B_0, ?_⟩
  have hE : rmE K (h.1 (y + 2)) := hE
  have h0 : 0 < eN K := h0
  have h28 := hE.2.1.1
  obtain ⟨⟨a1, -⟩, -⟩ := hE.2.2 h0
  obtain ⟨-, hr, -⟩ := hE.2.1.2 h0
  have hln := lnR_pos hr
  refine ⟨45, rfl, by decide, 46, rfl, by decide, eR K, by rw [a1]; rfl, vRp_8 hr, nI_ne0 (by omega) (by omega), zri ?_, rfl⟩
  show h.1 (y + 2) 45 / nI (lnR (eR K)) = nI (eK K)
  rw [hE.1, pk_div (by omega) (by omega) (by omega), eN_div hE.2.1 h0]
def ca_X11_keptBits : (zE × Nat) → List zV := fun (K, y) => [vR 20 0 y]
def cp_X11_keptBits : (zE × Nat) → zH → Prop := fun (K, y) h => rmE K (h.1 (y + 2)) ∧ 0 < eN K
def cf_X11_keptBits : (zE × Nat) → zH → Int32 := fun (K, y) _ => nI (eK K * btR (eR K))
theorem rc_X11_keptBits : ∀ x : (zE × Nat), ∃ (j a : Nat) (As : List zV), ca_X11_keptBits x = vR (10 + 10) j a :: As := by
  rintro ⟨K, y⟩
  exact ⟨_, _, _, rfl⟩
set_option maxHeartbeats 4000000 in
set_option maxRecDepth 100000 in
theorem m_X11_keptBits : zM yX11_keptBits cX11_keptBits 1 (some .int) ({ frames := 1, cells := 0, slots := 0, locals := 20 } : Room) (zcI ca_X11_keptBits cp_X11_keptBits cf_X11_keptBits) := by
  refine zM_of (by decide) ?_
  rintro X Y ⟨K, y⟩ h ⟨hE, h0⟩ O E hR
  have B_0 := zr_aload_n (X := X) (Y := Y) (u := 0) (v := 0) O dX11_keptBits_0 rfl (zr_gS (ci := 10) (j := 2) (off := 2) (t := 1) (n := 218) O zc_10 (by decide) rfl tw_1189 dX11_keptBits_1 (zr_bipush (x := (45)) O dX11_keptBits_4 (by decide) (zr_iald O dX11_keptBits_6 (zr_aload_n O dX11_keptBits_7 rfl (zr_gS (ci := 10) (j := 2) (off := 2) (t := 1) (n := 218) O zc_10 (by decide) rfl tw_1189 dX11_keptBits_8 (zr_bipush (x := (46)) O dX11_keptBits_11 (by decide) (zr_iald O dX11_keptBits_13 (zr_cI (zr_cS (n := 1) O m_X11_wideBy (bn_X11_wideBy _ ⟨rfl, rfl⟩) tw_1439 tw_1438 (zrm hR rfl rfl) dX11_keptBits_14 (zr_idiv O dX11_keptBits_17 (zr_aload_n O dX11_keptBits_18 rfl (zr_gS (ci := 10) (j := 2) (off := 2) (t := 1) (n := 218) O zc_10 (by decide) rfl tw_1189 dX11_keptBits_19 (zr_bipush (x := (46)) O dX11_keptBits_22 (by decide) (zr_iald O dX11_keptBits_24 (zr_cI (zr_cS (n := 1) O m_X11_givesBy (bn_X11_givesBy _ ⟨rfl, rfl⟩) tw_1442 tw_1441 (zrm hR rfl rfl) dX11_keptBits_25 (zr_imul O dX11_keptBits_28 (zr_ireturn O E (Nat.le_refl _) (Nat.le_refl _) dX11_keptBits_29))))))))))))))))))
  refine ⟨rfl, Nat.le_of_ble_eq_true rfl, _, B_0, ?_⟩
  have hE : rmE K (h.1 (y + 2)) := hE
  have h0 : 0 < eN K := h0
  have h28 := hE.2.1.1
  obtain ⟨⟨a1, -⟩, -⟩ := hE.2.2 h0
  obtain ⟨-, hr, -⟩ := hE.2.1.2 h0
  have hln := lnR_pos hr
  refine ⟨45, rfl, by decide, 46, rfl, by decide, eR K, by rw [a1]; rfl, vRp_8 hr, nI_ne0 (by omega) (by omega), 46, rfl, by decide, eR K, by rw [a1]; rfl, vRp_8 hr, zri ?_, rfl⟩
  show h.1 (y + 2) 45 / nI (lnR (eR K)) * nI (btR (eR K)) = nI (eK K * btR (eR K))
  rw [hE.1, pk_div (by omega) (by omega) (by omega), eN_div hE.2.1 h0, nI_mul]
def ca_X11_leaks : (zE × Nat) → List zV := fun (K, y) => [vR 20 0 y]
def cp_X11_leaks : (zE × Nat) → zH → Prop := fun (K, y) h => rmE K (h.1 (y + 2)) ∧ 0 < eN K
def cf_X11_leaks : (zE × Nat) → zH → Int32 := fun (K, y) _ => nI (lkN K)
theorem rc_X11_leaks : ∀ x : (zE × Nat), ∃ (j a : Nat) (As : List zV), ca_X11_leaks x = vR (10 + 10) j a :: As := by
  rintro ⟨K, y⟩
  exact ⟨_, _, _, rfl⟩
set_option maxHeartbeats 4000000 in
set_option maxRecDepth 100000 in
theorem m_X11_leaks : zM yX11_leaks cX11_leaks 1 (some .int) ({ frames := 2, cells := 0, slots := 0, locals := 40 } : Room) (zcI ca_X11_leaks cp_X11_leaks cf_X11_leaks) := by
  refine zM_of (by decide) ?_
  rintro X Y ⟨K, y⟩ h ⟨hE, h0⟩ O E hR
  have B_0 := zr_aload_n (X := X) (Y := Y) (u := 0) (v := 0) O dX11_leaks_0 rfl (zr_gS (ci := 10) (j := 2) (off := 2) (t := 1) (n := 218) O zc_10 (by decide) rfl tw_1189 dX11_leaks_1 (zr_bipush (x := (45)) O dX11_leaks_4 (by decide) (zr_iald O dX11_leaks_6 (zr_aload_n O dX11_leaks_7 rfl (zr_cI (zr_cV (ci := 10) (n := 0) O m_X11_keptBits (bn_X11_keptBits _ ⟨rfl, rfl⟩) vw_X11_keptBits tw_1499 rc_X11_keptBits (zrm hR rfl rfl) dX11_leaks_8 (zr_isub O dX11_leaks_11 (zr_iconst (x := 4) O dX11_leaks_12 rfl (zr_iadd O dX11_leaks_13 (zr_ireturn O E (Nat.le_refl _) (Nat.le_refl _) dX11_leaks_14))))))))))
  refine ⟨rfl, Nat.le_of_ble_eq_true rfl, _, B_0, ?_⟩
  have hE : rmE K (h.1 (y + 2)) := hE
  have h0 : 0 < eN K := h0
  obtain ⟨-, hr, hn, -⟩ := hE.2.1.2 h0
  have hle : btR (eR K) ≤ lnR (eR K) := by unfold btR lnR; split <;> unfold vRp at hr <;> omega
  have hm : eK K * btR (eR K) ≤ eK K * lnR (eR K) := Nat.mul_le_mul_left _ hle
  refine ⟨45, rfl, by decide, (K, y), rfl, ⟨hE, h0⟩, zri ?_, rfl⟩
  show h.1 (y + 2) 45 - nI (eK K * btR (eR K)) + 4 = nI (lkN K)
  rw [hE.1, hn, nI_sub hm, lkN, Nat.mul_sub]
  exact nI_add _ 4
def ca_X11_isKept : (zE × Nat) → List zV := fun (K, y) => [vR 20 0 y]
def cp_X11_isKept : (zE × Nat) → zH → Prop := fun (K, y) h => rmE K (h.1 (y + 2)) ∧ h.1 y 0 = 0
def cf_X11_isKept : (zE × Nat) → zH → Int32 := fun (K, y) _ => bI (decide (0 < eN K))
def cg_X11_isKept : (zE × Nat) → zH → zH := fun (K, y) h => if 0 < eN K then h else rfz h y 1 2
theorem rc_X11_isKept : ∀ x : (zE × Nat), ∃ (j a : Nat) (As : List zV), ca_X11_isKept x = vR (10 + 10) j a :: As := by
  rintro ⟨K, y⟩
  exact ⟨_, _, _, rfl⟩
set_option maxHeartbeats 4000000 in
set_option maxRecDepth 100000 in
theorem m_X11_isKept : zM yX11_isKept cX11_isKept 1 (some .boolean) ({ frames := 1, cells := 0, slots := 0, locals := 23 } : Room) (zcH ca_X11_isKept cp_X11_isKept cf_X11_isKept cg_X11_isKept) := by
  refine zM_of (by decide) ?_
  rintro X Y ⟨K, y⟩ h ⟨hE, ht⟩ O E hR
  have B_16 := zr_iconst (X := X) (Y := Y) (u := 0) (v := 0) (x := 1) O dX11_isKept_16 rfl (zr_iconst (x := 2) O dX11_isKept_17 rfl (zr_cH (zr_cV (ci := 10) (n := 3) O m_X11_isFine (bn_X11_isFine _ ⟨rfl, rfl⟩) vw_X11_isFine tw_1308 rc_X11_isFine (zrm hR rfl rfl) dX11_isKept_18 (zr_zreturn O E (Nat.le_refl _) (Nat.le_refl _) dX11_isKept_21))))
  have B_15 := zr_iconst (X := X) (Y := Y) (u := 0) (v := 0) (x := 0) O dX11_isKept_15 rfl (B_16)
  have B_0 := zr_aload_n (X := X) (Y := Y) (u := 0) (v := 0) O dX11_isKept_0 rfl (zr_aload_n O dX11_isKept_1 rfl (zr_gS (ci := 10) (j := 2) (off := 2) (t := 1) (n := 218) O zc_10 (by decide) rfl tw_1189 dX11_isKept_2 (zr_bipush (x := (45)) O dX11_isKept_5 (by decide) (zr_iald O dX11_isKept_7 (zr_ifle (tgt := 15) O dX11_isKept_8 rfl B_15 (zr_iconst (x := 1) O dX11_isKept_11 rfl (zr_goto (tgt := 16) O dX11_isKept_12 rfl B_16)))))))
  refine ⟨rfl, Nat.le_of_ble_eq_true rfl, _, B_0, ?_⟩
  have hE : rmE K (h.1 (y + 2)) := hE
  have ht : h.1 y 0 = 0 := ht
  have h28 := hE.2.1.1
  refine ⟨45, rfl, by decide, fun c => ⟨(y, false, 1, 2), rfl, ⟨by decide, by decide⟩, ?_, zri ?_, ?_⟩, fun c => ⟨(y, true, 1, 2), rfl, ⟨by decide, by decide⟩, ?_, zri ?_, ?_⟩⟩
  · show bI (decide (false = true ∧ h.1 y 0 = 0)) = 0 ∨ _
    rw [decide_eq_false (fun z => by cases z.1)]; exact Or.inl rfl
  · rw [hE.1] at c
    have hz : ¬ 0 < eN K := fun z => nI_nle z (by omega) c
    show bI (decide (false = true ∧ h.1 y 0 = 0)) = bI (decide (0 < eN K))
    rw [decide_eq_false hz, decide_eq_false (fun z => by cases z.1)]
  · rw [hE.1] at c
    have hz : ¬ 0 < eN K := fun z => nI_nle z (by omega) c
    show (if false = false ∧ h.1 y 0 = 0 then rfz h y 1 2 else h) = if 0 < eN K then h else rfz h y 1 2
    rw [if_pos ⟨rfl, ht⟩, if_neg hz]
  · show bI (decide (true = true ∧ h.1 y 0 = 0)) = 0 ∨ bI (decide (true = true ∧ h.1 y 0 = 0)) = 1
    rw [decide_eq_true ⟨rfl, ht⟩]; exact Or.inr rfl
  · rw [hE.1] at c
    have hz : 0 < eN K := Nat.pos_of_ne_zero (fun z => c (by rw [z]; decide))
    show bI (decide (true = true ∧ h.1 y 0 = 0)) = bI (decide (0 < eN K))
    rw [decide_eq_true hz, decide_eq_true ⟨rfl, ht⟩]
  · rw [hE.1] at c
    have hz : 0 < eN K := Nat.pos_of_ne_zero (fun z => c (by rw [z]; decide))
    show (if true = false ∧ h.1 y 0 = 0 then rfz h y 1 2 else h) = if 0 < eN K then h else rfz h y 1 2
    rw [if_neg (fun z => by cases z.1), if_pos hz]
theorem gC_w {i : Int32} {n : Nat} (hn : n ≤ 28) : (0 ≤ i ∧ i ≤ nI n - 1) ↔ (0 ≤ i ∧ i < nI n) := by
  have e : (nI n - 1).toInt = (n : Int) - 1 := by
    rw [fb_subI (by rw [nI_toInt (by omega)]; show _ ≤ (n : Int) - 1; omega) (by rw [nI_toInt (by omega)]; show (n : Int) - 1 < _; omega), nI_toInt (by omega)]; rfl
  have z0 : (0 : Int32).toInt = 0 := by decide
  rw [fa_le, fa_le, fa_lt, e, nI_toInt (by omega), z0]
  omega
/-- a test of the reference that refuses -/
theorem fineB {y : Nat} {h : zH} {b : Bool} {c : Int32} {k : Nat} (ht : h.1 y 0 = 0) : cf_X11_isFine (y, b, c, k) h = bI b ∧ cg_X11_isFine (y, b, c, k) h = if b then h else rfz h y c k := by
  constructor
  · show bI (decide (b = true ∧ h.1 y 0 = 0)) = bI b
    cases b with
    | true => rw [decide_eq_true ⟨rfl, ht⟩]
    | false => rw [decide_eq_false (fun z => by cases z.1)]
  · show (if b = false ∧ h.1 y 0 = 0 then rfz h y c k else h) = _
    cases b with
    | true => rw [if_neg (fun z => by cases z.1)]; rfl
    | false => rw [if_pos ⟨rfl, ht⟩]; rfl
theorem bI_or (b : Bool) : bI b = 0 ∨ bI b = 1 := by cases b <;> simp [bI]
def ca_X11_isRing : (zD × Nat × Int32) → List zV := fun (S, y, i) => [vR 20 0 y, vI i]
def cp_X11_isRing : (zD × Nat × Int32) → zH → Prop := fun (S, y, i) h => rmS S h y ∧ h.1 y 0 = 0
def cf_X11_isRing : (zD × Nat × Int32) → zH → Int32 := fun (S, y, i) _ => bI (decide (0 ≤ i ∧ i < nI (dN S)))
def cg_X11_isRing : (zD × Nat × Int32) → zH → zH := fun (S, y, i) h => if decide (0 ≤ i ∧ i < nI (dN S)) then h else rfz h y 1 0
theorem rc_X11_isRing : ∀ x : (zD × Nat × Int32), ∃ (j a : Nat) (As : List zV), ca_X11_isRing x = vR (10 + 10) j a :: As := by
  rintro ⟨S, y, i⟩
  exact ⟨_, _, _, rfl⟩
set_option maxHeartbeats 4000000 in
set_option maxRecDepth 100000 in
theorem m_X11_isRing : zM yX11_isRing cX11_isRing 2 (some .boolean) ({ frames := 1, cells := 0, slots := 0, locals := 23 } : Room) (zcH ca_X11_isRing cp_X11_isRing cf_X11_isRing cg_X11_isRing) := by
  refine zM_of (by decide) ?_
  rintro X Y ⟨S, y, i⟩ h ⟨hS, ht⟩ O E hR
  have B_0 := zr_aload_n (X := X) (Y := Y) (u := 0) (v := 0) O dX11_isRing_0 rfl (zr_iload_n O dX11_isRing_1 rfl (zr_iconst (x := 0) O dX11_isRing_2 rfl (zr_aload_n O dX11_isRing_3 rfl (zr_gI (ci := 10) (j := 10) O zc_10 (by decide) rfl tw_1197 dX11_isRing_4 (zr_iconst (x := 1) O dX11_isRing_7 rfl (zr_isub O dX11_isRing_8 (zr_cI (zr_cS (n := 3) O m_X11_within (bn_X11_within _ ⟨rfl, rfl⟩) tw_1306 tw_1305 (zrm hR rfl rfl) dX11_isRing_9 (zr_iconst (x := 1) O dX11_isRing_12 rfl (zr_iconst (x := 0) O dX11_isRing_13 rfl (zr_cH (zr_cV (ci := 10) (n := 3) O m_X11_isFine (bn_X11_isFine _ ⟨rfl, rfl⟩) vw_X11_isFine tw_1308 rc_X11_isFine (zrm hR rfl rfl) dX11_isRing_14 (zr_zreturn O E (Nat.le_refl _) (Nat.le_refl _) dX11_isRing_17)))))))))))))
  refine ⟨rfl, Nat.le_of_ble_eq_true rfl, _, B_0, ?_⟩
  have hS : rmS S h y := hS
  have ht : h.1 y 0 = 0 := ht
  have hN10 := hS.1.2
  have eb : decide (0 ≤ i ∧ i ≤ nI (dN S) - 1) = decide (0 ≤ i ∧ i < nI (dN S)) := decide_eq_decide.mpr (gC_w (by omega))
  obtain ⟨e1, e2⟩ := fineB (b := decide (0 ≤ i ∧ i < nI (dN S))) (c := 1) (k := 0) ht
  refine ⟨(i, 0, nI (dN S) - 1), by rw [hS.1.1]; rfl, trivial, (y, decide (0 ≤ i ∧ i < nI (dN S)), 1, 0), ?_, ⟨by decide, by decide⟩, ?_, zri ?_, ?_⟩
  · show [vR 20 0 y, vI (bI (decide (0 ≤ i ∧ i ≤ nI (dN S) - 1))), vI 1, vI 0] = _
    rw [eb]; rfl
  · rw [e1]; exact bI_or _
  · rw [e1]; rfl
  · rw [e2]; rfl
def ca_X11_isPair : (zD × Nat × Int32) → List zV := fun (S, y, i) => [vR 20 0 y, vI i]
def cp_X11_isPair : (zD × Nat × Int32) → zH → Prop := fun (S, y, i) h => rmS S h y ∧ h.1 y 0 = 0
def cf_X11_isPair : (zD × Nat × Int32) → zH → Int32 := fun (S, y, i) _ => bI (decide (0 ≤ i ∧ i < nI (dP S)))
def cg_X11_isPair : (zD × Nat × Int32) → zH → zH := fun (S, y, i) h => if decide (0 ≤ i ∧ i < nI (dP S)) then h else rfz h y 1 0
theorem rc_X11_isPair : ∀ x : (zD × Nat × Int32), ∃ (j a : Nat) (As : List zV), ca_X11_isPair x = vR (10 + 10) j a :: As := by
  rintro ⟨S, y, i⟩
  exact ⟨_, _, _, rfl⟩
set_option maxHeartbeats 4000000 in
set_option maxRecDepth 100000 in
theorem m_X11_isPair : zM yX11_isPair cX11_isPair 2 (some .boolean) ({ frames := 1, cells := 0, slots := 0, locals := 23 } : Room) (zcH ca_X11_isPair cp_X11_isPair cf_X11_isPair cg_X11_isPair) := by
  refine zM_of (by decide) ?_
  rintro X Y ⟨S, y, i⟩ h ⟨hS, ht⟩ O E hR
  have B_0 := zr_aload_n (X := X) (Y := Y) (u := 0) (v := 0) O dX11_isPair_0 rfl (zr_iload_n O dX11_isPair_1 rfl (zr_iconst (x := 0) O dX11_isPair_2 rfl (zr_aload_n O dX11_isPair_3 rfl (zr_gI (ci := 10) (j := 11) O zc_10 (by decide) rfl tw_1198 dX11_isPair_4 (zr_iconst (x := 1) O dX11_isPair_7 rfl (zr_isub O dX11_isPair_8 (zr_cI (zr_cS (n := 3) O m_X11_within (bn_X11_within _ ⟨rfl, rfl⟩) tw_1306 tw_1305 (zrm hR rfl rfl) dX11_isPair_9 (zr_iconst (x := 1) O dX11_isPair_12 rfl (zr_iconst (x := 0) O dX11_isPair_13 rfl (zr_cH (zr_cV (ci := 10) (n := 3) O m_X11_isFine (bn_X11_isFine _ ⟨rfl, rfl⟩) vw_X11_isFine tw_1308 rc_X11_isFine (zrm hR rfl rfl) dX11_isPair_14 (zr_zreturn O E (Nat.le_refl _) (Nat.le_refl _) dX11_isPair_17)))))))))))))
  refine ⟨rfl, Nat.le_of_ble_eq_true rfl, _, B_0, ?_⟩
  have hS : rmS S h y := hS
  have ht : h.1 y 0 = 0 := ht
  have hP28 := hS.2.1.2
  have eb : decide (0 ≤ i ∧ i ≤ nI (dP S) - 1) = decide (0 ≤ i ∧ i < nI (dP S)) := decide_eq_decide.mpr (gC_w (by omega))
  obtain ⟨e1, e2⟩ := fineB (b := decide (0 ≤ i ∧ i < nI (dP S))) (c := 1) (k := 0) ht
  refine ⟨(i, 0, nI (dP S) - 1), by rw [hS.2.1.1]; rfl, trivial, (y, decide (0 ≤ i ∧ i < nI (dP S)), 1, 0), ?_, ⟨by decide, by decide⟩, ?_, zri ?_, ?_⟩
  · show [vR 20 0 y, vI (bI (decide (0 ≤ i ∧ i ≤ nI (dP S) - 1))), vI 1, vI 0] = _
    rw [eb]; rfl
  · rw [e1]; exact bI_or _
  · rw [e1]; rfl
  · rw [e2]; rfl
def ca_X11_isHeat : (Nat × Int32) → List zV := fun (y, te) => [vR 20 0 y, vI te]
def cp_X11_isHeat : (Nat × Int32) → zH → Prop := fun (y, te) h => h.1 y 0 = 0
def cf_X11_isHeat : (Nat × Int32) → zH → Int32 := fun (y, te) _ => bI (decide (-40 ≤ te ∧ te ≤ 125))
def cg_X11_isHeat : (Nat × Int32) → zH → zH := fun (y, te) h => if decide (-40 ≤ te ∧ te ≤ 125) then h else rfz h y 2 1
theorem rc_X11_isHeat : ∀ x : (Nat × Int32), ∃ (j a : Nat) (As : List zV), ca_X11_isHeat x = vR (10 + 10) j a :: As := by
  rintro ⟨y, te⟩
  exact ⟨_, _, _, rfl⟩
set_option maxHeartbeats 4000000 in
set_option maxRecDepth 100000 in
theorem m_X11_isHeat : zM yX11_isHeat cX11_isHeat 2 (some .boolean) ({ frames := 1, cells := 0, slots := 0, locals := 23 } : Room) (zcH ca_X11_isHeat cp_X11_isHeat cf_X11_isHeat cg_X11_isHeat) := by
  refine zM_of (by decide) ?_
  rintro X Y ⟨y, te⟩ h hy O E hR
  have B_0 := zr_aload_n (X := X) (Y := Y) (u := 0) (v := 0) O dX11_isHeat_0 rfl (zr_iload_n O dX11_isHeat_1 rfl (zr_bipush (x := (-40)) O dX11_isHeat_2 (by decide) (zr_bipush (x := (125)) O dX11_isHeat_4 (by decide) (zr_cI (zr_cS (n := 3) O m_X11_within (bn_X11_within _ ⟨rfl, rfl⟩) tw_1306 tw_1305 (zrm hR rfl rfl) dX11_isHeat_6 (zr_iconst (x := 2) O dX11_isHeat_9 rfl (zr_iconst (x := 1) O dX11_isHeat_10 rfl (zr_cH (zr_cV (ci := 10) (n := 3) O m_X11_isFine (bn_X11_isFine _ ⟨rfl, rfl⟩) vw_X11_isFine tw_1308 rc_X11_isFine (zrm hR rfl rfl) dX11_isHeat_11 (zr_zreturn O E (Nat.le_refl _) (Nat.le_refl _) dX11_isHeat_14))))))))))
  refine ⟨rfl, Nat.le_of_ble_eq_true rfl, _, B_0, ?_⟩
  have ht : h.1 y 0 = 0 := hy
  obtain ⟨e1, e2⟩ := fineB (b := decide (-40 ≤ te ∧ te ≤ 125)) (c := 2) (k := 1) ht
  refine ⟨(te, -40, 125), rfl, trivial, (y, decide (-40 ≤ te ∧ te ≤ 125), 2, 1), rfl, ⟨by decide, by decide⟩, ?_, zri ?_, ?_⟩
  · rw [e1]; exact bI_or _
  · rw [e1]; rfl
  · rw [e2]; rfl

