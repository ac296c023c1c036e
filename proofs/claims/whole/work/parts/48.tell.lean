theorem dX10_pair_263 : decode cX10_pair 263 = .ok (.ireturn, 1) := by decide +kernel
theorem dX10_pair_248 : decode cX10_pair 248 = .ok (.aload_n 0, 1) := by decide +kernel
theorem dX10_pair_249 : decode cX10_pair 249 = .ok (.getfield 10, 3) := by decide +kernel
theorem dX10_pair_252 : decode cX10_pair 252 = .ok (.getfield 98, 3) := by decide +kernel
theorem dX10_pair_255 : decode cX10_pair 255 = .ok (.getfield 243, 3) := by decide +kernel
theorem dX10_pair_258 : decode cX10_pair 258 = .ok (.iload 4, 2) := by decide +kernel
theorem dX10_pair_260 : decode cX10_pair 260 = .ok (.invokestatic 180, 3) := by decide +kernel
theorem dX10_pair_238 : decode cX10_pair 238 = .ok (.iload 4, 2) := by decide +kernel
theorem dX10_pair_240 : decode cX10_pair 240 = .ok (.iconst (-1), 1) := by decide +kernel
theorem dX10_pair_241 : decode cX10_pair 241 = .ok (.if_icmp .ne 7, 3) := by decide +kernel
theorem dX10_pair_244 : decode cX10_pair 244 = .ok (.iconst (-1), 1) := by decide +kernel
theorem dX10_pair_245 : decode cX10_pair 245 = .ok (.goto 18, 3) := by decide +kernel
theorem dX10_pair_237 : decode cX10_pair 237 = .ok (.ireturn, 1) := by decide +kernel
theorem dX10_pair_222 : decode cX10_pair 222 = .ok (.aload_n 0, 1) := by decide +kernel
theorem dX10_pair_223 : decode cX10_pair 223 = .ok (.getfield 10, 3) := by decide +kernel
theorem dX10_pair_226 : decode cX10_pair 226 = .ok (.getfield 98, 3) := by decide +kernel
theorem dX10_pair_229 : decode cX10_pair 229 = .ok (.getfield 177, 3) := by decide +kernel
theorem dX10_pair_232 : decode cX10_pair 232 = .ok (.iload 4, 2) := by decide +kernel
theorem dX10_pair_234 : decode cX10_pair 234 = .ok (.invokestatic 180, 3) := by decide +kernel
theorem dX10_pair_212 : decode cX10_pair 212 = .ok (.iload 4, 2) := by decide +kernel
theorem dX10_pair_214 : decode cX10_pair 214 = .ok (.iconst (-1), 1) := by decide +kernel
theorem dX10_pair_215 : decode cX10_pair 215 = .ok (.if_icmp .ne 7, 3) := by decide +kernel
theorem dX10_pair_218 : decode cX10_pair 218 = .ok (.iconst (-1), 1) := by decide +kernel
theorem dX10_pair_219 : decode cX10_pair 219 = .ok (.goto 18, 3) := by decide +kernel
theorem dX10_pair_199 : decode cX10_pair 199 = .ok (.aload_n 0, 1) := by decide +kernel
theorem dX10_pair_200 : decode cX10_pair 200 = .ok (.getfield 10, 3) := by decide +kernel
theorem dX10_pair_203 : decode cX10_pair 203 = .ok (.getfield 107, 3) := by decide +kernel
theorem dX10_pair_206 : decode cX10_pair 206 = .ok (.aload_n 3, 1) := by decide +kernel
theorem dX10_pair_207 : decode cX10_pair 207 = .ok (.iload_n 1, 1) := by decide +kernel
theorem dX10_pair_208 : decode cX10_pair 208 = .ok (.invokevirtual 239, 3) := by decide +kernel
theorem dX10_pair_211 : decode cX10_pair 211 = .ok (.ireturn, 1) := by decide +kernel
theorem dX10_pair_164 : decode cX10_pair 164 = .ok (.aload_n 0, 1) := by decide +kernel
theorem dX10_pair_165 : decode cX10_pair 165 = .ok (.getfield 10, 3) := by decide +kernel
theorem dX10_pair_168 : decode cX10_pair 168 = .ok (.getfield 107, 3) := by decide +kernel
theorem dX10_pair_171 : decode cX10_pair 171 = .ok (.aload_n 0, 1) := by decide +kernel
theorem dX10_pair_172 : decode cX10_pair 172 = .ok (.getfield 37, 3) := by decide +kernel
theorem dX10_pair_175 : decode cX10_pair 175 = .ok (.aload_n 3, 1) := by decide +kernel
theorem dX10_pair_176 : decode cX10_pair 176 = .ok (.invokevirtual 232, 3) := by decide +kernel
theorem dX10_pair_179 : decode cX10_pair 179 = .ok (.aload_n 0, 1) := by decide +kernel
theorem dX10_pair_180 : decode cX10_pair 180 = .ok (.getfield 37, 3) := by decide +kernel
theorem dX10_pair_183 : decode cX10_pair 183 = .ok (.aload_n 3, 1) := by decide +kernel
theorem dX10_pair_184 : decode cX10_pair 184 = .ok (.getfield 217, 3) := by decide +kernel
theorem dX10_pair_187 : decode cX10_pair 187 = .ok (.iload_n 1, 1) := by decide +kernel
theorem dX10_pair_188 : decode cX10_pair 188 = .ok (.iaload, 1) := by decide +kernel
theorem dX10_pair_189 : decode cX10_pair 189 = .ok (.aload_n 3, 1) := by decide +kernel
theorem dX10_pair_190 : decode cX10_pair 190 = .ok (.getfield 220, 3) := by decide +kernel
theorem dX10_pair_193 : decode cX10_pair 193 = .ok (.iload_n 1, 1) := by decide +kernel
theorem dX10_pair_194 : decode cX10_pair 194 = .ok (.iaload, 1) := by decide +kernel
theorem dX10_pair_195 : decode cX10_pair 195 = .ok (.invokevirtual 236, 3) := by decide +kernel
theorem dX10_pair_198 : decode cX10_pair 198 = .ok (.ireturn, 1) := by decide +kernel
theorem dX10_pair_152 : decode cX10_pair 152 = .ok (.aload_n 0, 1) := by decide +kernel
theorem dX10_pair_153 : decode cX10_pair 153 = .ok (.getfield 10, 3) := by decide +kernel
theorem dX10_pair_156 : decode cX10_pair 156 = .ok (.getfield 107, 3) := by decide +kernel
theorem dX10_pair_159 : decode cX10_pair 159 = .ok (.iload_n 1, 1) := by decide +kernel
theorem dX10_pair_160 : decode cX10_pair 160 = .ok (.invokevirtual 229, 3) := by decide +kernel
theorem dX10_pair_163 : decode cX10_pair 163 = .ok (.ireturn, 1) := by decide +kernel
theorem dX10_pair_146 : decode cX10_pair 146 = .ok (.aload_n 3, 1) := by decide +kernel
theorem dX10_pair_147 : decode cX10_pair 147 = .ok (.iload_n 1, 1) := by decide +kernel
theorem dX10_pair_148 : decode cX10_pair 148 = .ok (.invokevirtual 226, 3) := by decide +kernel
theorem dX10_pair_151 : decode cX10_pair 151 = .ok (.ireturn, 1) := by decide +kernel
theorem dX10_pair_145 : decode cX10_pair 145 = .ok (.ireturn, 1) := by decide +kernel
theorem dX10_pair_144 : decode cX10_pair 144 = .ok (.iconst 0, 1) := by decide +kernel
theorem dX10_pair_126 : decode cX10_pair 126 = .ok (.aload_n 3, 1) := by decide +kernel
theorem dX10_pair_127 : decode cX10_pair 127 = .ok (.iload_n 1, 1) := by decide +kernel
theorem dX10_pair_128 : decode cX10_pair 128 = .ok (.invokevirtual 223, 3) := by decide +kernel
theorem dX10_pair_131 : decode cX10_pair 131 = .ok (.aload_n 3, 1) := by decide +kernel
theorem dX10_pair_132 : decode cX10_pair 132 = .ok (.getfield 127, 3) := by decide +kernel
theorem dX10_pair_135 : decode cX10_pair 135 = .ok (.iconst 0, 1) := by decide +kernel
theorem dX10_pair_136 : decode cX10_pair 136 = .ok (.iaload, 1) := by decide +kernel
theorem dX10_pair_137 : decode cX10_pair 137 = .ok (.if_icmp .le 7, 3) := by decide +kernel
theorem dX10_pair_140 : decode cX10_pair 140 = .ok (.iconst 1, 1) := by decide +kernel
theorem dX10_pair_141 : decode cX10_pair 141 = .ok (.goto 4, 3) := by decide +kernel
theorem dX10_pair_120 : decode cX10_pair 120 = .ok (.aload_n 3, 1) := by decide +kernel
theorem dX10_pair_121 : decode cX10_pair 121 = .ok (.iload_n 1, 1) := by decide +kernel
theorem dX10_pair_122 : decode cX10_pair 122 = .ok (.invokevirtual 223, 3) := by decide +kernel
theorem dX10_pair_125 : decode cX10_pair 125 = .ok (.ireturn, 1) := by decide +kernel
theorem dX10_pair_114 : decode cX10_pair 114 = .ok (.aload_n 3, 1) := by decide +kernel
theorem dX10_pair_115 : decode cX10_pair 115 = .ok (.iload_n 1, 1) := by decide +kernel
theorem dX10_pair_116 : decode cX10_pair 116 = .ok (.invokevirtual 162, 3) := by decide +kernel
theorem dX10_pair_119 : decode cX10_pair 119 = .ok (.ireturn, 1) := by decide +kernel
theorem dX10_pair_107 : decode cX10_pair 107 = .ok (.aload_n 3, 1) := by decide +kernel
theorem dX10_pair_108 : decode cX10_pair 108 = .ok (.getfield 220, 3) := by decide +kernel
theorem dX10_pair_111 : decode cX10_pair 111 = .ok (.iload_n 1, 1) := by decide +kernel
theorem dX10_pair_112 : decode cX10_pair 112 = .ok (.iaload, 1) := by decide +kernel
theorem dX10_pair_113 : decode cX10_pair 113 = .ok (.ireturn, 1) := by decide +kernel
theorem dX10_pair_100 : decode cX10_pair 100 = .ok (.aload_n 3, 1) := by decide +kernel
theorem dX10_pair_101 : decode cX10_pair 101 = .ok (.getfield 217, 3) := by decide +kernel
theorem dX10_pair_104 : decode cX10_pair 104 = .ok (.iload_n 1, 1) := by decide +kernel
theorem dX10_pair_105 : decode cX10_pair 105 = .ok (.iaload, 1) := by decide +kernel
theorem dX10_pair_106 : decode cX10_pair 106 = .ok (.ireturn, 1) := by decide +kernel
theorem dX10_pair_0 : decode cX10_pair 0 = .ok (.aload_n 0, 1) := by decide +kernel
theorem dX10_pair_1 : decode cX10_pair 1 = .ok (.iload_n 1, 1) := by decide +kernel
theorem dX10_pair_2 : decode cX10_pair 2 = .ok (.aload_n 0, 1) := by decide +kernel
theorem dX10_pair_3 : decode cX10_pair 3 = .ok (.getfield 10, 3) := by decide +kernel
theorem dX10_pair_6 : decode cX10_pair 6 = .ok (.getfield 85, 3) := by decide +kernel
theorem dX10_pair_9 : decode cX10_pair 9 = .ok (.getfield 114, 3) := by decide +kernel
theorem dX10_pair_12 : decode cX10_pair 12 = .ok (.invokevirtual 133, 3) := by decide +kernel
theorem dX10_pair_15 : decode cX10_pair 15 = .ok (.aload_n 0, 1) := by decide +kernel
theorem dX10_pair_16 : decode cX10_pair 16 = .ok (.iload_n 2, 1) := by decide +kernel
theorem dX10_pair_17 : decode cX10_pair 17 = .ok (.iconst 0, 1) := by decide +kernel
theorem dX10_pair_18 : decode cX10_pair 18 = .ok (.bipush 10, 2) := by decide +kernel
theorem dX10_pair_20 : decode cX10_pair 20 = .ok (.invokevirtual 77, 3) := by decide +kernel
theorem dX10_pair_23 : decode cX10_pair 23 = .ok (.aload_n 0, 1) := by decide +kernel
theorem dX10_pair_24 : decode cX10_pair 24 = .ok (.getfield 10, 3) := by decide +kernel
theorem dX10_pair_27 : decode cX10_pair 27 = .ok (.getfield 85, 3) := by decide +kernel
theorem dX10_pair_30 : decode cX10_pair 30 = .ok (.astore_n 3, 1) := by decide +kernel
theorem dX10_pair_31 : decode cX10_pair 31 = .ok (.aload_n 0, 1) := by decide +kernel
theorem dX10_pair_32 : decode cX10_pair 32 = .ok (.getfield 10, 3) := by decide +kernel
theorem dX10_pair_35 : decode cX10_pair 35 = .ok (.getfield 98, 3) := by decide +kernel
theorem dX10_pair_38 : decode cX10_pair 38 = .ok (.iload_n 1, 1) := by decide +kernel
theorem dX10_pair_39 : decode cX10_pair 39 = .ok (.invokevirtual 214, 3) := by decide +kernel
theorem dX10_pair_42 : decode cX10_pair 42 = .ok (.istore 4, 2) := by decide +kernel
theorem dX10_pair_44 : decode cX10_pair 44 = .ok (.iload_n 2, 1) := by decide +kernel
theorem dX10_pair_45 : decode cX10_pair 45 = .ok (.tableswitch 193 0 9 #[55, 62, 69, 75, 81, 101, 107, 119, 154, 167], 55) := by decide +kernel
theorem dX10_flips_119 : decode cX10_flips 119 = .ok (.ireturn, 1) := by decide +kernel
theorem dX10_flips_117 : decode cX10_flips 117 = .ok (.iload 5, 2) := by decide +kernel
theorem dX10_flips_108 : decode cX10_flips 108 = .ok (.iload_n 2, 1) := by decide +kernel
theorem dX10_flips_109 : decode cX10_flips 109 = .ok (.ifCond .ne 8, 3) := by decide +kernel
theorem dX10_flips_112 : decode cX10_flips 112 = .ok (.iload 4, 2) := by decide +kernel
theorem dX10_flips_114 : decode cX10_flips 114 = .ok (.goto 5, 3) := by decide +kernel
theorem dX10_flips_102 : decode cX10_flips 102 = .ok (.iinc 6 1, 3) := by decide +kernel
theorem dX10_flips_105 : decode cX10_flips 105 = .ok (.goto (-49), 3) := by decide +kernel
theorem dX10_flips_56 : decode cX10_flips 56 = .ok (.iload 6, 2) := by decide +kernel
theorem dX10_flips_58 : decode cX10_flips 58 = .ok (.aload_n 0, 1) := by decide +kernel
theorem dX10_flips_59 : decode cX10_flips 59 = .ok (.getfield 10, 3) := by decide +kernel
theorem dX10_flips_62 : decode cX10_flips 62 = .ok (.getfield 85, 3) := by decide +kernel
theorem dX10_flips_65 : decode cX10_flips 65 = .ok (.getfield 127, 3) := by decide +kernel
theorem dX10_flips_68 : decode cX10_flips 68 = .ok (.iconst 2, 1) := by decide +kernel
theorem dX10_flips_69 : decode cX10_flips 69 = .ok (.iaload, 1) := by decide +kernel
theorem dX10_flips_70 : decode cX10_flips 70 = .ok (.if_icmp .gt 38, 3) := by decide +kernel
theorem dX10_flips_73 : decode cX10_flips 73 = .ok (.aload_n 0, 1) := by decide +kernel
theorem dX10_flips_74 : decode cX10_flips 74 = .ok (.getfield 10, 3) := by decide +kernel
theorem dX10_flips_77 : decode cX10_flips 77 = .ok (.getfield 85, 3) := by decide +kernel
theorem dX10_flips_80 : decode cX10_flips 80 = .ok (.iload_n 1, 1) := by decide +kernel
theorem dX10_flips_81 : decode cX10_flips 81 = .ok (.iload 6, 2) := by decide +kernel
theorem dX10_flips_83 : decode cX10_flips 83 = .ok (.invokevirtual 246, 3) := by decide +kernel
theorem dX10_flips_86 : decode cX10_flips 86 = .ok (.iload_n 3, 1) := by decide +kernel
theorem dX10_flips_87 : decode cX10_flips 87 = .ok (.if_icmp .eq 15, 3) := by decide +kernel
theorem dX10_flips_90 : decode cX10_flips 90 = .ok (.iinc 4 1, 3) := by decide +kernel
theorem dX10_flips_93 : decode cX10_flips 93 = .ok (.iload 5, 2) := by decide +kernel
theorem dX10_flips_95 : decode cX10_flips 95 = .ok (.iload 6, 2) := by decide +kernel
theorem dX10_flips_97 : decode cX10_flips 97 = .ok (.invokestatic 249, 3) := by decide +kernel
theorem dX10_flips_100 : decode cX10_flips 100 = .ok (.istore 5, 2) := by decide +kernel
theorem dX10_flips_0 : decode cX10_flips 0 = .ok (.aload_n 0, 1) := by decide +kernel
theorem dX10_flips_1 : decode cX10_flips 1 = .ok (.iload_n 1, 1) := by decide +kernel
theorem dX10_flips_2 : decode cX10_flips 2 = .ok (.aload_n 0, 1) := by decide +kernel
theorem dX10_flips_3 : decode cX10_flips 3 = .ok (.getfield 10, 3) := by decide +kernel
theorem dX10_flips_6 : decode cX10_flips 6 = .ok (.getfield 85, 3) := by decide +kernel
theorem dX10_flips_9 : decode cX10_flips 9 = .ok (.getfield 114, 3) := by decide +kernel
theorem dX10_flips_12 : decode cX10_flips 12 = .ok (.invokevirtual 133, 3) := by decide +kernel
theorem dX10_flips_15 : decode cX10_flips 15 = .ok (.aload_n 0, 1) := by decide +kernel
theorem dX10_flips_16 : decode cX10_flips 16 = .ok (.iload_n 2, 1) := by decide +kernel
theorem dX10_flips_17 : decode cX10_flips 17 = .ok (.iconst 0, 1) := by decide +kernel
theorem dX10_flips_18 : decode cX10_flips 18 = .ok (.iconst 1, 1) := by decide +kernel
theorem dX10_flips_19 : decode cX10_flips 19 = .ok (.invokevirtual 77, 3) := by decide +kernel
theorem dX10_flips_22 : decode cX10_flips 22 = .ok (.aload_n 0, 1) := by decide +kernel
theorem dX10_flips_23 : decode cX10_flips 23 = .ok (.getfield 10, 3) := by decide +kernel
theorem dX10_flips_26 : decode cX10_flips 26 = .ok (.getfield 85, 3) := by decide +kernel
theorem dX10_flips_29 : decode cX10_flips 29 = .ok (.iload_n 1, 1) := by decide +kernel
theorem dX10_flips_30 : decode cX10_flips 30 = .ok (.invokevirtual 162, 3) := by decide +kernel
theorem dX10_flips_33 : decode cX10_flips 33 = .ok (.istore_n 3, 1) := by decide +kernel
theorem dX10_flips_34 : decode cX10_flips 34 = .ok (.iconst 0, 1) := by decide +kernel
theorem dX10_flips_35 : decode cX10_flips 35 = .ok (.istore 4, 2) := by decide +kernel
theorem dX10_flips_37 : decode cX10_flips 37 = .ok (.sipush 999, 3) := by decide +kernel
theorem dX10_flips_40 : decode cX10_flips 40 = .ok (.istore 5, 2) := by decide +kernel
theorem dX10_flips_42 : decode cX10_flips 42 = .ok (.aload_n 0, 1) := by decide +kernel
theorem dX10_flips_43 : decode cX10_flips 43 = .ok (.getfield 10, 3) := by decide +kernel
theorem dX10_flips_46 : decode cX10_flips 46 = .ok (.getfield 85, 3) := by decide +kernel
theorem dX10_flips_49 : decode cX10_flips 49 = .ok (.getfield 127, 3) := by decide +kernel
theorem dX10_flips_52 : decode cX10_flips 52 = .ok (.iconst 1, 1) := by decide +kernel
theorem dX10_flips_53 : decode cX10_flips 53 = .ok (.iaload, 1) := by decide +kernel
theorem dX10_flips_54 : decode cX10_flips 54 = .ok (.istore 6, 2) := by decide +kernel
theorem dX10_block_56 : decode cX10_block 56 = .ok (.aload_n 0, 1) := by decide +kernel
theorem dX10_block_57 : decode cX10_block 57 = .ok (.getfield 10, 3) := by decide +kernel
theorem dX10_block_60 : decode cX10_block 60 = .ok (.getfield 85, 3) := by decide +kernel
theorem dX10_block_63 : decode cX10_block 63 = .ok (.iload_n 3, 1) := by decide +kernel
theorem dX10_block_64 : decode cX10_block 64 = .ok (.iload_n 1, 1) := by decide +kernel
theorem dX10_block_65 : decode cX10_block 65 = .ok (.iload 4, 2) := by decide +kernel
theorem dX10_block_67 : decode cX10_block 67 = .ok (.imul, 1) := by decide +kernel
theorem dX10_block_68 : decode cX10_block 68 = .ok (.iload_n 2, 1) := by decide +kernel
theorem dX10_block_69 : decode cX10_block 69 = .ok (.iadd, 1) := by decide +kernel
theorem dX10_block_70 : decode cX10_block 70 = .ok (.invokevirtual 266, 3) := by decide +kernel
theorem dX10_block_73 : decode cX10_block 73 = .ok (.ireturn, 1) := by decide +kernel
theorem dX10_block_54 : decode cX10_block 54 = .ok (.iconst (-1), 1) := by decide +kernel
theorem dX10_block_55 : decode cX10_block 55 = .ok (.ireturn, 1) := by decide +kernel
theorem dX10_block_0 : decode cX10_block 0 = .ok (.aload_n 0, 1) := by decide +kernel
theorem dX10_block_1 : decode cX10_block 1 = .ok (.getfield 10, 3) := by decide +kernel
theorem dX10_block_4 : decode cX10_block 4 = .ok (.getfield 85, 3) := by decide +kernel
theorem dX10_block_7 : decode cX10_block 7 = .ok (.invokevirtual 143, 3) := by decide +kernel
theorem dX10_block_10 : decode cX10_block 10 = .ok (.istore_n 3, 1) := by decide +kernel
theorem dX10_block_11 : decode cX10_block 11 = .ok (.aload_n 0, 1) := by decide +kernel
theorem dX10_block_12 : decode cX10_block 12 = .ok (.iload_n 1, 1) := by decide +kernel
theorem dX10_block_13 : decode cX10_block 13 = .ok (.aload_n 0, 1) := by decide +kernel
theorem dX10_block_14 : decode cX10_block 14 = .ok (.getfield 10, 3) := by decide +kernel
theorem dX10_block_17 : decode cX10_block 17 = .ok (.getfield 85, 3) := by decide +kernel
theorem dX10_block_20 : decode cX10_block 20 = .ok (.iload_n 3, 1) := by decide +kernel
theorem dX10_block_21 : decode cX10_block 21 = .ok (.invokevirtual 147, 3) := by decide +kernel
theorem dX10_block_24 : decode cX10_block 24 = .ok (.invokevirtual 133, 3) := by decide +kernel
theorem dX10_block_27 : decode cX10_block 27 = .ok (.aload_n 0, 1) := by decide +kernel
theorem dX10_block_28 : decode cX10_block 28 = .ok (.getfield 10, 3) := by decide +kernel
theorem dX10_block_31 : decode cX10_block 31 = .ok (.getfield 85, 3) := by decide +kernel
theorem dX10_block_34 : decode cX10_block 34 = .ok (.getfield 127, 3) := by decide +kernel
theorem dX10_block_37 : decode cX10_block 37 = .ok (.iconst 4, 1) := by decide +kernel
theorem dX10_block_38 : decode cX10_block 38 = .ok (.iaload, 1) := by decide +kernel
theorem dX10_block_39 : decode cX10_block 39 = .ok (.invokestatic 263, 3) := by decide +kernel
theorem dX10_block_42 : decode cX10_block 42 = .ok (.istore 4, 2) := by decide +kernel
theorem dX10_block_44 : decode cX10_block 44 = .ok (.iload_n 2, 1) := by decide +kernel
theorem dX10_block_45 : decode cX10_block 45 = .ok (.ifCond .lt 9, 3) := by decide +kernel
theorem dX10_block_48 : decode cX10_block 48 = .ok (.iload_n 2, 1) := by decide +kernel
theorem dX10_block_49 : decode cX10_block 49 = .ok (.iload 4, 2) := by decide +kernel
theorem dX10_block_51 : decode cX10_block 51 = .ok (.if_icmp .lt 5, 3) := by decide +kernel
/-! calls that tell, second part -/
theorem sn_sm {a n b m : Nat} {h h' : zH} (s : sm b m h h') (h1 : a ≤ b) (h2 : b + m ≤ a + n) : sn a n h h' := ⟨fun q hq => ⟨s.1 q (by omega), by rw [s.2]⟩, by rw [s.2]⟩
theorem sn_mo {a n a' n' : Nat} {h h1 : zH} (s : sn a n h h1) (h1' : a' ≤ a) (h2 : a + n ≤ a' + n') : sn a' n' h h1 := ⟨fun q hq => s.1 q (by omega), s.2⟩
/-- only scratch rows have changed -/
def qf (x : Nat) (h h' : zH) : Prop := sn (x + 180) 49 h h'
theorem qf_r (x : Nat) (h : zH) : qf x h h := sn_refl _ _ _
theorem cntx {i : Int32} {n : Nat} (hn : n < 2 ^ 31) (h : gC i n) : ∃ p, i = nI p ∧ p < n ∧ cN (nI p) = p := by
  obtain ⟨j, hj, rfl⟩ := nI_of (Int32.not_lt.mpr h.1)
  exact ⟨j, rfl, (nI_ltI hj hn).mp h.2, nI_clamp hj⟩
theorem rngx {i : Int32} {n : Nat} (hn : n < 2 ^ 31) (h : gR i 0 (nI n)) : ∃ p, i = nI p ∧ p ≤ n ∧ cN (nI p) = p := by
  obtain ⟨j, hj, rfl⟩ := nI_of (Int32.not_lt.mpr h.1)
  exact ⟨j, rfl, (nI_leI hj hn).mp h.2, nI_clamp hj⟩
theorem nI_nm1 {j : Nat} (h : j < 2 ^ 31) : ¬ nI j = -1 := fun z => by
  have h3 := congrArg Int32.toInt z
  rw [nI_toInt h] at h3
  have : (-1 : Int32).toInt = -1 := by decide
  omega
/-- a bit of an enrolled pair -/
def kpb (K : zE) (m p : Nat) : Int32 := if plc K p < eN K then bI (m.testBit (plc K p)) else -1
/-- what is told of a pair -/
def prv (Q : zQ) (p w : Nat) : Int32 := if w = 0 then nI (dF Q.1 p) else if w = 1 then nI (dS Q.1 p) else if w = 2 then pb Q.1 p else if w = 3 then mrg Q.1 p else if w = 4 then bI (std Q.1 p) else if w = 5 then blk Q.1 p else if w = 6 then ghb Q.2.2 p else if w = 7 then otl (lod Q.1 Q.2.2 (gN Q.2.2)) (dF Q.1 p) (dS Q.1 p) else if w = 8 then gss Q.1 (gW Q.2.2) p else if w = 9 then kpb Q.2.1 (eH Q.2.1) p else kpb Q.2.1 (eB Q.2.1) p
def ca_X10_pair : (zQ × Nat × Int32 × Int32) → List zV := fun (Q, x, i, w) => [vR 19 0 x, vI i, vI w]
def cp_X10_pair : (zQ × Nat × Int32 × Int32) → zH → Prop := fun (Q, x, i, w) h => rpN Q h x ∧ vS Q.1 ∧ gInj Q.2.2 ∧ ∀ i, i < gN Q.2.2 → gP Q.2.2 i < dP Q.1
def cq_X10_pair : (zQ × Nat × Int32 × Int32) → zH → Option zV → zH → Prop := fun (Q, x, i, w) h r h' => gC i (dP Q.1) ∧ gR w 0 10 ∧ r = some (vI (prv Q (cN i) (cN w))) ∧ qf x h h'
def cx_X10_pair : (zQ × Nat × Int32 × Int32) → zH → String → zH → Prop := fun (Q, x, i, w) h E h' => (¬ gC i (dP Q.1) ∧ xNS x h E h') ∨ (gC i (dP Q.1) ∧ ¬ gR w 0 10 ∧ xIA x h E h')
theorem rc_X10_pair : ∀ x : (zQ × Nat × Int32 × Int32), ∃ (j a : Nat) (As : List zV), ca_X10_pair x = vR (10 + 9) j a :: As := by
  rintro ⟨⟨S, K, M⟩, x, i, w⟩
  exact ⟨_, _, _, rfl⟩
set_option maxHeartbeats 4000000 in
set_option maxRecDepth 100000 in
theorem m_X10_pair : zMx yX10_pair cX10_pair 5 (some .int) ({ frames := 8, cells := 2, slots := 12, locals := 136 } : Room) ((ca_X10_pair, cp_X10_pair, cq_X10_pair) : zC (zQ × Nat × Int32 × Int32)) cx_X10_pair := by
  refine zMx_of (by decide) ?_
  rintro X Y ⟨⟨S, K, M⟩, x, i, w⟩ h ⟨hN, hv, hj, hG⟩ O Ex hR
  have E := zEx_E Ex
  have B_263 := zr_ireturn (X := X) (Y := Y) (u := 2) (v := 12) O E (Nat.le_of_ble_eq_true rfl) (Nat.le_of_ble_eq_true rfl) dX10_pair_263
  have B_248 := zr_aload_n (X := X) (Y := Y) (u := 2) (v := 12) O dX10_pair_248 rfl (zr_gR (ci := 9) (j := 0) (off := 0) (t := 16) (n := 0) O zc_9 (by decide) rfl tw_287 dX10_pair_249 (zr_gS (ci := 6) (j := 1) (off := 8) (t := 10) (n := 0) O zc_6 (by decide) rfl tw_175 dX10_pair_252 (zr_gI (ci := 0) (j := 4) O zc_0 (by decide) rfl tw_115 dX10_pair_255 (zr_iload O dX10_pair_258 (zr_cI (zr_cS (n := 2) O m_X10_bitIn (bn_X10_bitIn _ ⟨rfl, rfl⟩) tw_374 tw_867 (zrx hR rfl rfl rfl rfl) dX10_pair_260 (B_263)))))))
  have B_238 := zr_iload (X := X) (Y := Y) (u := 2) (v := 12) O dX10_pair_238 (zr_iconst (x := (-1)) O dX10_pair_240 rfl (zr_icne (tgt := 248) O dX10_pair_241 rfl B_248 (zr_iconst (x := (-1)) O dX10_pair_244 rfl (zr_goto (tgt := 263) O dX10_pair_245 rfl B_263))))
  have B_237 := zr_ireturn (X := X) (Y := Y) (u := 2) (v := 12) O E (Nat.le_of_ble_eq_true rfl) (Nat.le_of_ble_eq_true rfl) dX10_pair_237
  have B_222 := zr_aload_n (X := X) (Y := Y) (u := 2) (v := 12) O dX10_pair_222 rfl (zr_gR (ci := 9) (j := 0) (off := 0) (t := 16) (n := 0) O zc_9 (by decide) rfl tw_287 dX10_pair_223 (zr_gS (ci := 6) (j := 1) (off := 8) (t := 10) (n := 0) O zc_6 (by decide) rfl tw_175 dX10_pair_226 (zr_gI (ci := 0) (j := 5) O zc_0 (by decide) rfl tw_119 dX10_pair_229 (zr_iload O dX10_pair_232 (zr_cI (zr_cS (n := 2) O m_X10_bitIn (bn_X10_bitIn _ ⟨rfl, rfl⟩) tw_374 tw_867 (zrx hR rfl rfl rfl rfl) dX10_pair_234 (B_237)))))))
  have B_212 := zr_iload (X := X) (Y := Y) (u := 2) (v := 12) O dX10_pair_212 (zr_iconst (x := (-1)) O dX10_pair_214 rfl (zr_icne (tgt := 222) O dX10_pair_215 rfl B_222 (zr_iconst (x := (-1)) O dX10_pair_218 rfl (zr_goto (tgt := 237) O dX10_pair_219 rfl B_237))))
  have B_199 := zr_aload_n (X := X) (Y := Y) (u := 2) (v := 12) O dX10_pair_199 rfl (zr_gR (ci := 9) (j := 0) (off := 0) (t := 16) (n := 0) O zc_9 (by decide) rfl tw_287 dX10_pair_200 (zr_gS (ci := 6) (j := 2) (off := 10) (t := 12) (n := 0) O zc_6 (by decide) rfl tw_177 dX10_pair_203 (zr_aload_n O dX10_pair_206 rfl (zr_iload_n O dX10_pair_207 rfl (zr_cI (zr_cV (ci := 2) (n := 2) O m_X3_guessOf (bn_X3_guessOf _ ⟨rfl, rfl⟩) vw_X3_guessOf tw_935 rc_X3_guessOf (zrx hR rfl rfl rfl rfl) dX10_pair_208 (zr_ireturn O E (Nat.le_of_ble_eq_true rfl) (Nat.le_of_ble_eq_true rfl) dX10_pair_211)))))))
  have B_164 := zr_aload_n (X := X) (Y := Y) (u := 2) (v := 12) O dX10_pair_164 rfl (zr_gR (ci := 9) (j := 0) (off := 0) (t := 16) (n := 0) O zc_9 (by decide) rfl tw_287 dX10_pair_165 (zr_gS (ci := 6) (j := 2) (off := 10) (t := 12) (n := 0) O zc_6 (by decide) rfl tw_177 dX10_pair_168 (zr_aload_n O dX10_pair_171 rfl (zr_gS (ci := 9) (j := 9) (off := 181) (t := 13) (n := 0) O zc_9 (by decide) rfl tw_296 dX10_pair_172 (zr_aload_n O dX10_pair_175 rfl (zr_cV (ci := 2) (n := 2) O m_X3_putInto (bn_X3_putInto _ ⟨rfl, rfl⟩) vw_X3_putInto tw_357 rc_X3_putInto (zrx hR rfl rfl rfl rfl) dX10_pair_176 (zr_aload_n O dX10_pair_179 rfl (zr_gS (ci := 9) (j := 9) (off := 181) (t := 13) (n := 0) O zc_9 (by decide) rfl tw_296 dX10_pair_180 (zr_aload_n O dX10_pair_183 rfl (zr_gS (ci := 5) (j := 5) (off := 4) (t := 1) (n := 28) O zc_5 (by decide) rfl tw_65 dX10_pair_184 (zr_iload_n O dX10_pair_187 rfl (zr_iald O dX10_pair_188 (zr_aload_n O dX10_pair_189 rfl (zr_gS (ci := 5) (j := 6) (off := 5) (t := 1) (n := 28) O zc_5 (by decide) rfl tw_72 dX10_pair_190 (zr_iload_n O dX10_pair_193 rfl (zr_iald O dX10_pair_194 (zr_cI (zr_cV (ci := 3) (n := 2) O m_X4_bitTold (bn_X4_bitTold _ ⟨rfl, rfl⟩) vw_X4_bitTold tw_386 rc_X4_bitTold (zrx hR rfl rfl rfl rfl) dX10_pair_195 (zr_ireturn O E (Nat.le_of_ble_eq_true rfl) (Nat.le_of_ble_eq_true rfl) dX10_pair_198)))))))))))))))))))
  have B_152 := zr_aload_n (X := X) (Y := Y) (u := 2) (v := 12) O dX10_pair_152 rfl (zr_gR (ci := 9) (j := 0) (off := 0) (t := 16) (n := 0) O zc_9 (by decide) rfl tw_287 dX10_pair_153 (zr_gS (ci := 6) (j := 2) (off := 10) (t := 12) (n := 0) O zc_6 (by decide) rfl tw_177 dX10_pair_156 (zr_iload_n O dX10_pair_159 rfl (zr_cI (zr_cV (ci := 2) (n := 1) O m_X3_heardBitOf (bn_X3_heardBitOf _ ⟨rfl, rfl⟩) vw_X3_heardBitOf tw_934 rc_X3_heardBitOf (zrx hR rfl rfl rfl rfl) dX10_pair_160 (zr_ireturn O E (Nat.le_of_ble_eq_true rfl) (Nat.le_of_ble_eq_true rfl) dX10_pair_163))))))
  have B_146 := zr_aload_n (X := X) (Y := Y) (u := 2) (v := 12) O dX10_pair_146 rfl (zr_iload_n O dX10_pair_147 rfl (zr_cI (zr_cV (ci := 5) (n := 1) O m_X6_blockOf (bn_X6_blockOf _ ⟨rfl, rfl⟩) vw_X6_blockOf tw_927 rc_X6_blockOf (zrx hR rfl rfl rfl rfl) dX10_pair_148 (zr_ireturn O E (Nat.le_of_ble_eq_true rfl) (Nat.le_of_ble_eq_true rfl) dX10_pair_151))))
  have B_145 := zr_ireturn (X := X) (Y := Y) (u := 2) (v := 12) O E (Nat.le_of_ble_eq_true rfl) (Nat.le_of_ble_eq_true rfl) dX10_pair_145
  have B_144 := zr_iconst (X := X) (Y := Y) (u := 2) (v := 12) (x := 0) O dX10_pair_144 rfl (B_145)
  have B_126 := zr_aload_n (X := X) (Y := Y) (u := 2) (v := 12) O dX10_pair_126 rfl (zr_iload_n O dX10_pair_127 rfl (zr_cI (zr_cV (ci := 5) (n := 1) O m_X6_marginOf (bn_X6_marginOf _ ⟨rfl, rfl⟩) vw_X6_marginOf tw_435 rc_X6_marginOf (zrx hR rfl rfl rfl rfl) dX10_pair_128 (zr_aload_n O dX10_pair_131 rfl (zr_gS (ci := 5) (j := 7) (off := 6) (t := 1) (n := 5) O zc_5 (by decide) rfl tw_75 dX10_pair_132 (zr_iconst (x := 0) O dX10_pair_135 rfl (zr_iald O dX10_pair_136 (zr_icle (tgt := 144) O dX10_pair_137 rfl B_144 (zr_iconst (x := 1) O dX10_pair_140 rfl (zr_goto (tgt := 145) O dX10_pair_141 rfl B_145))))))))))
  have B_120 := zr_aload_n (X := X) (Y := Y) (u := 2) (v := 12) O dX10_pair_120 rfl (zr_iload_n O dX10_pair_121 rfl (zr_cI (zr_cV (ci := 5) (n := 1) O m_X6_marginOf (bn_X6_marginOf _ ⟨rfl, rfl⟩) vw_X6_marginOf tw_435 rc_X6_marginOf (zrx hR rfl rfl rfl rfl) dX10_pair_122 (zr_ireturn O E (Nat.le_of_ble_eq_true rfl) (Nat.le_of_ble_eq_true rfl) dX10_pair_125))))
  have B_114 := zr_aload_n (X := X) (Y := Y) (u := 2) (v := 12) O dX10_pair_114 rfl (zr_iload_n O dX10_pair_115 rfl (zr_cI (zr_cV (ci := 5) (n := 1) O m_X6_bitOf (bn_X6_bitOf _ ⟨rfl, rfl⟩) vw_X6_bitOf tw_418 rc_X6_bitOf (zrx hR rfl rfl rfl rfl) dX10_pair_116 (zr_ireturn O E (Nat.le_of_ble_eq_true rfl) (Nat.le_of_ble_eq_true rfl) dX10_pair_119))))
  have B_107 := zr_aload_n (X := X) (Y := Y) (u := 2) (v := 12) O dX10_pair_107 rfl (zr_gS (ci := 5) (j := 6) (off := 5) (t := 1) (n := 28) O zc_5 (by decide) rfl tw_72 dX10_pair_108 (zr_iload_n O dX10_pair_111 rfl (zr_iald O dX10_pair_112 (zr_ireturn O E (Nat.le_of_ble_eq_true rfl) (Nat.le_of_ble_eq_true rfl) dX10_pair_113))))
  have B_100 := zr_aload_n (X := X) (Y := Y) (u := 2) (v := 12) O dX10_pair_100 rfl (zr_gS (ci := 5) (j := 5) (off := 4) (t := 1) (n := 28) O zc_5 (by decide) rfl tw_65 dX10_pair_101 (zr_iload_n O dX10_pair_104 rfl (zr_iald O dX10_pair_105 (zr_ireturn O E (Nat.le_of_ble_eq_true rfl) (Nat.le_of_ble_eq_true rfl) dX10_pair_106))))
  have B_0 := zr_aload_n (X := X) (Y := Y) (u := 0) (v := 0) O dX10_pair_0 rfl (zr_iload_n O dX10_pair_1 rfl (zr_aload_n O dX10_pair_2 rfl (zr_gR (ci := 9) (j := 0) (off := 0) (t := 16) (n := 0) O zc_9 (by decide) rfl tw_287 dX10_pair_3 (zr_gS (ci := 6) (j := 0) (off := 1) (t := 15) (n := 0) O zc_6 (by decide) rfl tw_172 dX10_pair_6 (zr_gI (ci := 5) (j := 4) O zc_5 (by decide) rfl tw_55 dX10_pair_9 (zr_xV (u' := 1) (v' := 6) (ci := 9) (n := 2) O Ex m_X10_needCounted (bn_X10_needCounted { frames := 0, cells := 0, slots := 0, locals := 0 } ⟨rfl, rfl⟩) vw_X10_needCounted tw_709 rc_X10_needCounted (zrx hR rfl rfl rfl rfl) (Nat.le_of_ble_eq_true rfl) (Nat.le_of_ble_eq_true rfl) (Nat.le_of_ble_eq_true rfl) (Nat.le_of_ble_eq_true rfl) dX10_pair_12 (zr_aload_n O dX10_pair_15 rfl (zr_iload_n O dX10_pair_16 rfl (zr_iconst (x := 0) O dX10_pair_17 rfl (zr_bipush (x := (10)) O dX10_pair_18 (by decide) (zr_xV (u' := 2) (v' := 12) (ci := 9) (n := 3) O Ex m_X10_needBetween (bn_X10_needBetween { frames := 0, cells := 0, slots := 0, locals := 0 } ⟨rfl, rfl⟩) vw_X10_needBetween tw_457 rc_X10_needBetween (zrx hR rfl rfl rfl rfl) (Nat.le_of_ble_eq_true rfl) (Nat.le_of_ble_eq_true rfl) (Nat.le_of_ble_eq_true rfl) (Nat.le_of_ble_eq_true rfl) dX10_pair_20 (zr_aload_n O dX10_pair_23 rfl (zr_gR (ci := 9) (j := 0) (off := 0) (t := 16) (n := 0) O zc_9 (by decide) rfl tw_287 dX10_pair_24 (zr_gS (ci := 6) (j := 0) (off := 1) (t := 15) (n := 0) O zc_6 (by decide) rfl tw_172 dX10_pair_27 (zr_astore_n O dX10_pair_30 rfl (zr_aload_n O dX10_pair_31 rfl (zr_gR (ci := 9) (j := 0) (off := 0) (t := 16) (n := 0) O zc_9 (by decide) rfl tw_287 dX10_pair_32 (zr_gS (ci := 6) (j := 1) (off := 8) (t := 10) (n := 0) O zc_6 (by decide) rfl tw_175 dX10_pair_35 (zr_iload_n O dX10_pair_38 rfl (zr_cI (zr_cV (ci := 0) (n := 1) O m_X1_placeOf (bn_X1_placeOf _ ⟨rfl, rfl⟩) vw_X1_placeOf tw_923 rc_X1_placeOf (zrx hR rfl rfl rfl rfl) dX10_pair_39 (zr_istore O dX10_pair_42 (zr_iload_n O dX10_pair_44 rfl (zr_switch2 (tgt := 238) (ks := [_, _, _, _, _, _, _, _, _, _]) O dX10_pair_45 rfl rfl B_238 ⟨⟨_, 100, rfl, rfl, B_100⟩, ⟨_, 107, rfl, rfl, B_107⟩, ⟨_, 114, rfl, rfl, B_114⟩, ⟨_, 120, rfl, rfl, B_120⟩, ⟨_, 126, rfl, rfl, B_126⟩, ⟨_, 146, rfl, rfl, B_146⟩, ⟨_, 152, rfl, rfl, B_152⟩, ⟨_, 164, rfl, rfl, B_164⟩, ⟨_, 199, rfl, rfl, B_199⟩, ⟨_, 212, rfl, rfl, B_212⟩, trivial⟩))))))))))))))))))))))))
  refine ⟨rfl, Nat.le_of_ble_eq_true rfl, _, B_0, ?_⟩
  have hS : rpS S h (h.2.2 x 0 + 1) := hN.1.1
  have hE : rpE K h (h.2.2 x 0 + 8) := hN.1.2.1
  have hL : rpL M h (h.2.2 x 0 + 10) := hN.1.2.2
  have hs1 : x < h.2.2 x 0 := hN.2.1
  have hs2 : h.2.2 x 0 + 13 ≤ x + 171 := hN.2.2
  have hv : vS S := hv
  have hP28 := hS.2.1.2
  have hN10 := hS.1.2
  refine ⟨(x, i, nI (dP S)), by rw [hS.2.1.1]; rfl, trivial, fun E h' hd => Or.inl hd, fun r h1 hq => ?_⟩
  obtain ⟨rfl, eh, g1⟩ := hq
  obtain rfl := eh.symm
  have g1 : gC i (dP S) := g1
  refine ⟨(x, w, 0, 10), rfl, trivial, fun E h' hd => Or.inr ⟨g1, hd.1, hd.2⟩, fun r h2 hq => ?_⟩
  obtain ⟨rfl, eh, g2⟩ := hq
  obtain rfl := eh.symm
  have g2 : gR w 0 10 := g2
  obtain ⟨p, rfl, hp, ep⟩ := cntx (by omega) g1
  obtain ⟨q, rfl, hq, eq⟩ := rngx (n := 10) (by decide) g2
  have ewt : (nI q).toInt = q := nI_toInt (by omega)
  obtain ⟨⟨f1, f2⟩, f3, f4⟩ := hS.2.2.2.1 p hp
  have fin : ∀ (v : Int32) (h2 : zH), v = prv (S, K, M) p q → qf x h h2 → gC (nI p) (dP S) ∧ gR (nI q) 0 10 ∧ some (vI v) = some (vI (prv (S, K, M) (cN (nI p)) (cN (nI q)))) ∧ qf x h h2 := fun v h2 e s => ⟨g1, g2, zri (by rw [ep, eq]; exact e), s⟩
  have hkp : plc K p ≤ eN K := fa_first_le _ _
  have e28 := hE.2.1.1
  refine ⟨(K, h.2.2 x 0 + 8, p), rfl, ⟨hE, by omega⟩, ?_⟩
  refine zsw_of ⟨fun e => ?_, fun e => ?_, fun e => ?_, fun e => ?_, fun e => ?_, fun e => ?_, fun e => ?_, fun e => ?_, fun e => ?_, fun e => ?_, trivial⟩ (fun e => ?_)
  · have e : q = 0 := by omega
    refine ⟨p, rfl, by omega, fin _ _ ?_ (qf_r _ _)⟩
    rw [prv, if_pos e]; exact f1
  · have e : q = 1 := by omega
    refine ⟨p, rfl, by omega, fin _ _ ?_ (qf_r _ _)⟩
    rw [prv, if_neg (by omega), if_pos e]; exact f3
  · have e : q = 2 := by omega
    refine ⟨(S, h.2.2 x 0 + 1, p), rfl, ⟨hS, hp⟩, fin _ _ ?_ (qf_r _ _)⟩
    rw [prv, if_neg (by omega), if_neg (by omega), if_pos e]; rfl
  · have e : q = 3 := by omega
    refine ⟨(S, h.2.2 x 0 + 1, p), rfl, ⟨hS, hp, hv⟩, fin _ _ ?_ (qf_r _ _)⟩
    rw [prv, if_neg (by omega), if_neg (by omega), if_neg (by omega), if_pos e]; rfl
  · have e : q = 4 := by omega
    have t0 : h.1 (h.2.2 x 0 + 1 + 6) 0 = dT S 0 := hS.2.2.2.2 0 (by decide)
    have ev : prv (S, K, M) p q = bI (std S p) := by rw [prv, if_neg (by omega), if_neg (by omega), if_neg (by omega), if_neg (by omega), if_pos e]
    refine ⟨(S, h.2.2 x 0 + 1, p), rfl, ⟨hS, hp, hv⟩, 0, rfl, by decide, fun c => fin _ _ ?_ (qf_r _ _), fun c => fin _ _ ?_ (qf_r _ _)⟩
    · replace c : mrg S p ≤ h.1 (h.2.2 x 0 + 1 + 6) 0 := c
      rw [t0] at c
      rw [ev, std, decide_eq_false (Int32.not_lt.mpr c)]; rfl
    · replace c : ¬ mrg S p ≤ h.1 (h.2.2 x 0 + 1 + 6) 0 := c
      rw [t0] at c
      rw [ev, std, decide_eq_true (Int32.not_le.mp c)]; rfl
  · have e : q = 5 := by omega
    refine ⟨(S, h.2.2 x 0 + 1, p), rfl, ⟨hS, hp, hv⟩, fin _ _ ?_ (qf_r _ _)⟩
    rw [prv, if_neg (by omega), if_neg (by omega), if_neg (by omega), if_neg (by omega), if_neg (by omega), if_pos e]; rfl
  · have e : q = 6 := by omega
    refine ⟨(M, h.2.2 x 0 + 10, p), rfl, ⟨hL, by omega⟩, fin _ _ ?_ (qf_r _ _)⟩
    rw [prv, if_neg (by omega), if_neg (by omega), if_neg (by omega), if_neg (by omega), if_neg (by omega), if_neg (by omega), if_pos e]; rfl
  · have e : q = 7 := by omega
    refine ⟨(S, M, h.2.2 x 0 + 10, x + 181, h.2.2 x 0 + 1), rfl, ⟨hL, hj, hS, hG, by omega, by omega⟩, fun r h2 hq => ?_⟩
    obtain ⟨rfl, hw⟩ := hq
    have hw : oW (lod S M (gN M)) h (x + 181) h2 := hw
    have s2 := oW_sm hw
    have hS2 : rpS S h2 (h.2.2 x 0 + 1) := rpS_sm s2 (by omega) hS
    obtain ⟨⟨b1, b2⟩, b3, b4⟩ := hS2.2.2.2.1 p hp
    have hr : ∀ i, i < gN M → dF S (gP M i) < dN S ∧ dS S (gP M i) < dN S := fun i hi => ⟨(hS.2.2.2.1 _ (hG i hi)).1.2, (hS.2.2.2.1 _ (hG i hi)).2.2⟩
    refine ⟨p, rfl, by omega, p, rfl, by omega, (lod S M (gN M), x + 181, dF S p, dS S p), by rw [b1, b3]; rfl, ⟨oW_rp hw (lod_lt hN10 _ hr), by omega, by omega⟩, fin _ _ ?_ (sn_sm s2 (by omega) (by omega))⟩
    rw [prv, if_neg (by omega), if_neg (by omega), if_neg (by omega), if_neg (by omega), if_neg (by omega), if_neg (by omega), if_neg (by omega), if_pos e]; rfl
  · have e : q = 8 := by omega
    refine ⟨(S, M, h.2.2 x 0 + 10, h.2.2 x 0 + 1, p), rfl, ⟨hS, hL.2.2.2, hp⟩, fin _ _ ?_ (qf_r _ _)⟩
    rw [prv, if_neg (by omega), if_neg (by omega), if_neg (by omega), if_neg (by omega), if_neg (by omega), if_neg (by omega), if_neg (by omega), if_neg (by omega), if_pos e]; rfl
  · have e : q = 9 := by omega
    have ev : prv (S, K, M) p q = kpb K (eH K) p := by rw [prv, if_neg (by omega), if_neg (by omega), if_neg (by omega), if_neg (by omega), if_neg (by omega), if_neg (by omega), if_neg (by omega), if_neg (by omega), if_neg (by omega), if_pos e]
    refine ⟨fun c => ?_, fun c => fin _ _ ?_ (qf_r _ _)⟩
    · replace c : ¬ plI K p = -1 := c
      have hlt : plc K p < eN K := by
        rcases Nat.lt_or_ge (plc K p) (eN K) with z | z
        · exact z
        · rw [plI, if_neg (by omega)] at c; exact absurd rfl c
      have h0 : 0 < eN K := by omega
      refine ⟨(h.1 (h.2.2 x 0 + 8) 5, plI K p), rfl, trivial, fin _ _ ?_ (qf_r _ _)⟩
      show (h.1 (h.2.2 x 0 + 8) 5 >>> (plI K p &&& 31)) &&& 1 = _
      rw [(hE.2.2 h0).2.2.1.2.1, plI, if_pos hlt, bI_in (Nat.lt_trans (vE_b hE.2.1 h0).2.1 (by decide)) (by omega), ev, kpb, if_pos hlt]
    · replace c : plI K p = -1 := c
      have hlt : ¬ plc K p < eN K := fun z => by rw [plI, if_pos z] at c; exact nI_nm1 (by omega) c
      rw [ev, kpb, if_neg hlt]
  · have e : (nI q).toInt < 0 ∨ (0 : Int) + 10 ≤ (nI q).toInt := e
    have e : q = 10 := by omega
    have ev : prv (S, K, M) p q = kpb K (eB K) p := by rw [prv, if_neg (by omega), if_neg (by omega), if_neg (by omega), if_neg (by omega), if_neg (by omega), if_neg (by omega), if_neg (by omega), if_neg (by omega), if_neg (by omega), if_neg (by omega)]
    refine ⟨fun c => ?_, fun c => fin _ _ ?_ (qf_r _ _)⟩
    · replace c : ¬ plI K p = -1 := c
      have hlt : plc K p < eN K := by
        rcases Nat.lt_or_ge (plc K p) (eN K) with z | z
        · exact z
        · rw [plI, if_neg (by omega)] at c; exact absurd rfl c
      have h0 : 0 < eN K := by omega
      refine ⟨(h.1 (h.2.2 x 0 + 8) 4, plI K p), rfl, trivial, fin _ _ ?_ (qf_r _ _)⟩
      show (h.1 (h.2.2 x 0 + 8) 4 >>> (plI K p &&& 31)) &&& 1 = _
      rw [(hE.2.2 h0).2.2.1.1, plI, if_pos hlt, bI_in (Nat.lt_trans (vE_b hE.2.1 h0).1 (by decide)) (by omega), ev, kpb, if_pos hlt]
    · replace c : plI K p = -1 := c
      have hlt : ¬ plc K p < eN K := fun z => by rw [plI, if_pos z] at c; exact nI_nm1 (by omega) c
      rw [ev, kpb, if_neg hlt]
/-- heats at which a pair's bit flips: how many, and the earliest -/
def flp (S : zD) (p i : Nat) : Bool := decide (¬ pba S p (dT S 1 + nI i) = pb S p)
def fle (S : zD) (p : Nat) : Nat → Int32
  | 0 => 999
  | i + 1 => if flp S p i then (if dT S 1 + nI i < fle S p i then dT S 1 + nI i else fle S p i) else fle S p i
def flv (S : zD) (p w : Nat) : Int32 := if w = 0 then nI (fb_ct (flp S p) (nH S)) else fle S p (nH S)
def ca_X10_flips : (zQ × Nat × Int32 × Int32) → List zV := fun (Q, x, i, w) => [vR 19 0 x, vI i, vI w]
def cp_X10_flips : (zQ × Nat × Int32 × Int32) → zH → Prop := fun (Q, x, i, w) h => rpN Q h x ∧ vS Q.1
def cq_X10_flips : (zQ × Nat × Int32 × Int32) → zH → Option zV → zH → Prop := fun (Q, x, i, w) h r h' => gC i (dP Q.1) ∧ gR w 0 1 ∧ r = some (vI (flv Q.1 (cN i) (cN w))) ∧ h = h'
def cx_X10_flips : (zQ × Nat × Int32 × Int32) → zH → String → zH → Prop := fun (Q, x, i, w) h E h' => (¬ gC i (dP Q.1) ∧ xNS x h E h') ∨ (gC i (dP Q.1) ∧ ¬ gR w 0 1 ∧ xIA x h E h')
theorem rc_X10_flips : ∀ x : (zQ × Nat × Int32 × Int32), ∃ (j a : Nat) (As : List zV), ca_X10_flips x = vR (10 + 9) j a :: As := by
  rintro ⟨⟨S, K, M⟩, x, i, w⟩
  exact ⟨_, _, _, rfl⟩
set_option maxHeartbeats 4000000 in
set_option maxRecDepth 100000 in
theorem m_X10_flips : zMx yX10_flips cX10_flips 7 (some .int) ({ frames := 8, cells := 2, slots := 12, locals := 125 } : Room) ((ca_X10_flips, cp_X10_flips, cq_X10_flips) : zC (zQ × Nat × Int32 × Int32)) cx_X10_flips := by
  refine zMx_of (by decide) ?_
  rintro X Y ⟨⟨S, K, M⟩, x, i, w⟩ h ⟨hN, hv⟩ O Ex hR
  have E := zEx_E Ex
  have hS : rpS S h (h.2.2 x 0 + 1) := hN.1.1
  have hv : vS S := hv
  have hP28 := hS.2.1.2
  have t1 : h.1 (h.2.2 x 0 + 1 + 6) 1 = dT S 1 := hS.2.2.2.2 1 (by decide)
  have t2 : h.1 (h.2.2 x 0 + 1 + 6) 2 = dT S 2 := hS.2.2.2.2 2 (by decide)
  have hH := nH_le hv
  have B_119 := zr_ireturn (X := X) (Y := Y) (u := 2) (v := 12) O E (Nat.le_of_ble_eq_true rfl) (Nat.le_of_ble_eq_true rfl) dX10_flips_119
  have C_119 : zSd X Y 2 12 119 (fun ls st h1 => ∃ v : Int32, gC i (dP S) ∧ gR w 0 1 ∧ v = flv S (cN i) (cN w) ∧ st = [vI v] ∧ h = h1) := by
    refine zSd_weak B_119 (fun ls st h1 t => ?_)
    obtain ⟨v, g1, g2, rfl, rfl, rfl⟩ := t
    exact ⟨g1, g2, rfl, rfl⟩
  have B_117 := zr_iload (X := X) (Y := Y) (u := 2) (v := 12) O dX10_flips_117 (C_119)
  have B_108 := zr_iload_n (X := X) (Y := Y) (u := 2) (v := 12) O dX10_flips_108 rfl (zr_ifne (tgt := 117) O dX10_flips_109 rfl B_117 (zr_iload O dX10_flips_112 (zr_goto (tgt := 119) O dX10_flips_114 rfl C_119)))
  have L_56 : ∀ nn : Nat, zSd X Y 2 12 56 ((fun k ls st h1 => ∃ (n p : Nat) (y1 y2 y3 : Int32), k = nH S - n ∧ n ≤ nH S ∧ ls = [some (vR 19 0 x), some (vI i), some (vI w), some (vI (pb S p)), some (vI y1), some (vI y2), some (vI y3)] ∧ y1 = nI (fb_ct (flp S p) n) ∧ y2 = fle S p n ∧ y3 = dT S 1 + nI n ∧ st = [] ∧ h = h1 ∧ i = nI p ∧ p < dP S ∧ gR w 0 1 : Nat → zT) nn) := by
    refine zSd_loop (fun nn ih => ?_)
    have B_102 := zr_iinc (X := X) (Y := Y) (u := 2) (v := 12) (c := 1) O dX10_flips_102 rfl (zr_goto (tgt := 56) O dX10_flips_105 rfl ih)
    have B_56 := zr_iload (X := X) (Y := Y) (u := 2) (v := 12) O dX10_flips_56 (zr_aload_n O dX10_flips_58 rfl (zr_gR (ci := 9) (j := 0) (off := 0) (t := 16) (n := 0) O zc_9 (by decide) rfl tw_287 dX10_flips_59 (zr_gS (ci := 6) (j := 0) (off := 1) (t := 15) (n := 0) O zc_6 (by decide) rfl tw_172 dX10_flips_62 (zr_gS (ci := 5) (j := 7) (off := 6) (t := 1) (n := 5) O zc_5 (by decide) rfl tw_75 dX10_flips_65 (zr_iconst (x := 2) O dX10_flips_68 rfl (zr_iald O dX10_flips_69 (zr_icgt (tgt := 108) O dX10_flips_70 rfl B_108 (zr_aload_n O dX10_flips_73 rfl (zr_gR (ci := 9) (j := 0) (off := 0) (t := 16) (n := 0) O zc_9 (by decide) rfl tw_287 dX10_flips_74 (zr_gS (ci := 6) (j := 0) (off := 1) (t := 15) (n := 0) O zc_6 (by decide) rfl tw_172 dX10_flips_77 (zr_iload_n O dX10_flips_80 rfl (zr_iload O dX10_flips_81 (zr_cI (zr_cV (ci := 5) (n := 2) O m_X6_bitAt (bn_X6_bitAt _ ⟨rfl, rfl⟩) vw_X6_bitAt tw_943 rc_X6_bitAt (zrx hR rfl rfl rfl rfl) dX10_flips_83 (zr_iload_n O dX10_flips_86 rfl (zr_iceq (tgt := 102) O dX10_flips_87 rfl B_102 (zr_iinc (c := 1) O dX10_flips_90 rfl (zr_iload O dX10_flips_93 (zr_iload O dX10_flips_95 (zr_min O zwm tw_406 (zrx hR rfl rfl rfl rfl) dX10_flips_97 (zr_istore O dX10_flips_100 (B_102))))))))))))))))))))))
    refine zSd_weak B_56 (fun ls st h1 t => ?_)
    obtain ⟨n, p, y1, y2, y3, rfl, hn, rfl, rfl, rfl, rfl, rfl, rfl, ei, hp, g2⟩ := t
    have ep : cN i = p := by rw [ei]; exact nI_clamp (by omega)
    have g1 : gC i (dP S) := by rw [ei]; exact ⟨nI_pos' (by omega), nI_lt hp (by omega)⟩
    refine ⟨2, rfl, by decide, fun c => ?_, fun c => ?_⟩
    · rw [t2] at c
      have hn2 := (ht_gt hv hn).mp c
      have hn3 : n = nH S := by omega
      subst hn3
      obtain ⟨q, rfl, hq, eq⟩ := rngx (n := 1) (by decide) g2
      refine ⟨fun d => ⟨_, g1, g2, ?_, rfl, rfl⟩, fun d => ⟨_, g1, g2, ?_, rfl, rfl⟩⟩
      · have hq1 : ¬ q = 0 := fun z => d (by rw [z]; rfl)
        rw [ep, eq, flv, if_neg hq1]
      · have hq1 : q = 0 := (nI_eq (b := 0) (by omega) (by omega)).mp d
        rw [ep, eq, flv, if_pos hq1]
    · rw [t2] at c
      have hn2 : n < nH S := Nat.not_le.mp (fun z => c ((ht_gt hv hn).mpr z))
      refine ⟨(S, h.2.2 x 0 + 1, p, dT S 1 + nI n), by rw [ei]; rfl, ⟨hS, hp⟩, fun d => ?_, fun d => ?_⟩
      · replace d : pba S p (dT S 1 + nI n) = pb S p := d
        have hf : flp S p n = false := decide_eq_false (fun z => z d)
        refine ⟨nH S - (n + 1), by omega, n + 1, p, _, _, _, rfl, by omega, rfl, ?_, ?_, ?_, rfl, rfl, ei, hp, g2⟩
        · rw [fb_ct_succ, hf]; rfl
        · rw [fle, hf]; rfl
        · rw [Int32.add_assoc, nI_1]
      · replace d : ¬ pba S p (dT S 1 + nI n) = pb S p := d
        have hf : flp S p n = true := decide_eq_true d
        refine ⟨nH S - (n + 1), by omega, n + 1, p, _, _, _, rfl, by omega, rfl, ?_, ?_, ?_, rfl, rfl, ei, hp, g2⟩
        · rw [fb_ct_succ, hf, nI_1]; rfl
        · rw [fle, hf, if_pos rfl]
        · rw [Int32.add_assoc, nI_1]
  have B_56 := zSd_any L_56
  have B_0 := zr_aload_n (X := X) (Y := Y) (u := 0) (v := 0) O dX10_flips_0 rfl (zr_iload_n O dX10_flips_1 rfl (zr_aload_n O dX10_flips_2 rfl (zr_gR (ci := 9) (j := 0) (off := 0) (t := 16) (n := 0) O zc_9 (by decide) rfl tw_287 dX10_flips_3 (zr_gS (ci := 6) (j := 0) (off := 1) (t := 15) (n := 0) O zc_6 (by decide) rfl tw_172 dX10_flips_6 (zr_gI (ci := 5) (j := 4) O zc_5 (by decide) rfl tw_55 dX10_flips_9 (zr_xV (u' := 1) (v' := 6) (ci := 9) (n := 2) O Ex m_X10_needCounted (bn_X10_needCounted { frames := 0, cells := 0, slots := 0, locals := 0 } ⟨rfl, rfl⟩) vw_X10_needCounted tw_709 rc_X10_needCounted (zrx hR rfl rfl rfl rfl) (Nat.le_of_ble_eq_true rfl) (Nat.le_of_ble_eq_true rfl) (Nat.le_of_ble_eq_true rfl) (Nat.le_of_ble_eq_true rfl) dX10_flips_12 (zr_aload_n O dX10_flips_15 rfl (zr_iload_n O dX10_flips_16 rfl (zr_iconst (x := 0) O dX10_flips_17 rfl (zr_iconst (x := 1) O dX10_flips_18 rfl (zr_xV (u' := 2) (v' := 12) (ci := 9) (n := 3) O Ex m_X10_needBetween (bn_X10_needBetween { frames := 0, cells := 0, slots := 0, locals := 0 } ⟨rfl, rfl⟩) vw_X10_needBetween tw_457 rc_X10_needBetween (zrx hR rfl rfl rfl rfl) (Nat.le_of_ble_eq_true rfl) (Nat.le_of_ble_eq_true rfl) (Nat.le_of_ble_eq_true rfl) (Nat.le_of_ble_eq_true rfl) dX10_flips_19 (zr_aload_n O dX10_flips_22 rfl (zr_gR (ci := 9) (j := 0) (off := 0) (t := 16) (n := 0) O zc_9 (by decide) rfl tw_287 dX10_flips_23 (zr_gS (ci := 6) (j := 0) (off := 1) (t := 15) (n := 0) O zc_6 (by decide) rfl tw_172 dX10_flips_26 (zr_iload_n O dX10_flips_29 rfl (zr_cI (zr_cV (ci := 5) (n := 1) O m_X6_bitOf (bn_X6_bitOf _ ⟨rfl, rfl⟩) vw_X6_bitOf tw_418 rc_X6_bitOf (zrx hR rfl rfl rfl rfl) dX10_flips_30 (zr_istore_n O dX10_flips_33 rfl (zr_iconst (x := 0) O dX10_flips_34 rfl (zr_istore O dX10_flips_35 (zr_sipush (x := (999)) O dX10_flips_37 (by decide) (zr_istore O dX10_flips_40 (zr_aload_n O dX10_flips_42 rfl (zr_gR (ci := 9) (j := 0) (off := 0) (t := 16) (n := 0) O zc_9 (by decide) rfl tw_287 dX10_flips_43 (zr_gS (ci := 6) (j := 0) (off := 1) (t := 15) (n := 0) O zc_6 (by decide) rfl tw_172 dX10_flips_46 (zr_gS (ci := 5) (j := 7) (off := 6) (t := 1) (n := 5) O zc_5 (by decide) rfl tw_75 dX10_flips_49 (zr_iconst (x := 1) O dX10_flips_52 rfl (zr_iald O dX10_flips_53 (zr_istore O dX10_flips_54 (B_56))))))))))))))))))))))))))))))
  refine ⟨rfl, Nat.le_of_ble_eq_true rfl, _, B_0, ?_⟩
  refine ⟨(x, i, nI (dP S)), by rw [hS.2.1.1]; rfl, trivial, fun E h' hd => Or.inl hd, fun r h1 hq => ?_⟩
  obtain ⟨rfl, eh, g1⟩ := hq
  obtain rfl := eh.symm
  have g1 : gC i (dP S) := g1
  refine ⟨(x, w, 0, 1), rfl, trivial, fun E h' hd => Or.inr ⟨g1, hd.1, hd.2⟩, fun r h2 hq => ?_⟩
  obtain ⟨rfl, eh, g2⟩ := hq
  obtain rfl := eh.symm
  obtain ⟨p, rfl, hp, ep⟩ := cntx (by omega) g1
  refine ⟨(S, h.2.2 x 0 + 1, p), rfl, ⟨hS, hp⟩, 1, rfl, by decide, nH S - 0, 0, p, _, _, _, rfl, Nat.zero_le _, rfl, rfl, rfl, ?_, rfl, rfl, rfl, hp, g2⟩
  rw [t1, nI_0, Int32.add_zero]
/-- the pair at a place of a block -/
def bkv (S : zD) (b : Nat) (k : Int32) : Int32 := if 0 ≤ k ∧ k < nI (lnR (dR S)) then kAt (us S) (b * lnR (dR S) + cN k) (dP S) else -1
theorem kAt_cg {f g : Nat → Bool} {k n : Nat} (h : ∀ i, i < n → f i = g i) : kAt f k n = kAt g k n := by
  have hs : ∀ m, m ≤ n → sel f k m = sel g k m := by
    intro m
    induction m with
    | zero => intro _; rfl
    | succ m ih =>
      intro hm
      rw [sel, sel, fb_ct_cong (q := g) (fun i hi => h i (by omega)), ih (by omega)]
  unfold kAt
  rw [fb_ct_cong h, hs n (Nat.le_refl _)]
def ca_X10_block : (zQ × Nat × Int32 × Int32) → List zV := fun (Q, x, i, k) => [vR 19 0 x, vI i, vI k]
def cp_X10_block : (zQ × Nat × Int32 × Int32) → zH → Prop := fun (Q, x, i, k) h => rpN Q h x ∧ vS Q.1
def cq_X10_block : (zQ × Nat × Int32 × Int32) → zH → Option zV → zH → Prop := fun (Q, x, i, k) h r h' => gC i (nbk Q.1) ∧ r = some (vI (bkv Q.1 (cN i) k)) ∧ h = h'
def cx_X10_block : (zQ × Nat × Int32 × Int32) → zH → String → zH → Prop := fun (Q, x, i, k) h E h' => ¬ gC i (nbk Q.1) ∧ xNS x h E h'
theorem rc_X10_block : ∀ x : (zQ × Nat × Int32 × Int32), ∃ (j a : Nat) (As : List zV), ca_X10_block x = vR (10 + 9) j a :: As := by
  rintro ⟨⟨S, K, M⟩, x, i, k⟩
  exact ⟨_, _, _, rfl⟩
set_option maxHeartbeats 4000000 in
set_option maxRecDepth 100000 in
theorem m_X10_block : zMx yX10_block cX10_block 5 (some .int) ({ frames := 8, cells := 1, slots := 6, locals := 124 } : Room) ((ca_X10_block, cp_X10_block, cq_X10_block) : zC (zQ × Nat × Int32 × Int32)) cx_X10_block := by
  refine zMx_of (by decide) ?_
  rintro X Y ⟨⟨S, K, M⟩, x, i, k⟩ h ⟨hN, hv⟩ O Ex hR
  have E := zEx_E Ex
  have B_56 := zr_aload_n (X := X) (Y := Y) (u := 1) (v := 6) O dX10_block_56 rfl (zr_gR (ci := 9) (j := 0) (off := 0) (t := 16) (n := 0) O zc_9 (by decide) rfl tw_287 dX10_block_57 (zr_gS (ci := 6) (j := 0) (off := 1) (t := 15) (n := 0) O zc_6 (by decide) rfl tw_172 dX10_block_60 (zr_iload_n O dX10_block_63 rfl (zr_iload_n O dX10_block_64 rfl (zr_iload O dX10_block_65 (zr_imul O dX10_block_67 (zr_iload_n O dX10_block_68 rfl (zr_iadd O dX10_block_69 (zr_cI (zr_cV (ci := 5) (n := 2) O m_X6_pairAt (bn_X6_pairAt _ ⟨rfl, rfl⟩) vw_X6_pairAt tw_982 rc_X6_pairAt (zrx hR rfl rfl rfl rfl) dX10_block_70 (zr_ireturn O E (Nat.le_of_ble_eq_true rfl) (Nat.le_of_ble_eq_true rfl) dX10_block_73)))))))))))
  have B_54 := zr_iconst (X := X) (Y := Y) (u := 1) (v := 6) (x := (-1)) O dX10_block_54 rfl (zr_ireturn O E (Nat.le_of_ble_eq_true rfl) (Nat.le_of_ble_eq_true rfl) dX10_block_55)
  have B_0 := zr_aload_n (X := X) (Y := Y) (u := 0) (v := 0) O dX10_block_0 rfl (zr_gR (ci := 9) (j := 0) (off := 0) (t := 16) (n := 0) O zc_9 (by decide) rfl tw_287 dX10_block_1 (zr_gS (ci := 6) (j := 0) (off := 1) (t := 15) (n := 0) O zc_6 (by decide) rfl tw_172 dX10_block_4 (zr_cI (zr_cV (ci := 5) (n := 0) O m_X6_usedPairs (bn_X6_usedPairs _ ⟨rfl, rfl⟩) vw_X6_usedPairs tw_749 rc_X6_usedPairs (zrx hR rfl rfl rfl rfl) dX10_block_7 (zr_istore_n O dX10_block_10 rfl (zr_aload_n O dX10_block_11 rfl (zr_iload_n O dX10_block_12 rfl (zr_aload_n O dX10_block_13 rfl (zr_gR (ci := 9) (j := 0) (off := 0) (t := 16) (n := 0) O zc_9 (by decide) rfl tw_287 dX10_block_14 (zr_gS (ci := 6) (j := 0) (off := 1) (t := 15) (n := 0) O zc_6 (by decide) rfl tw_172 dX10_block_17 (zr_iload_n O dX10_block_20 rfl (zr_cI (zr_cV (ci := 5) (n := 1) O m_X6_blockCount (bn_X6_blockCount _ ⟨rfl, rfl⟩) vw_X6_blockCount tw_762 rc_X6_blockCount (zrx hR rfl rfl rfl rfl) dX10_block_21 (zr_xV (u' := 1) (v' := 6) (ci := 9) (n := 2) O Ex m_X10_needCounted (bn_X10_needCounted { frames := 0, cells := 0, slots := 0, locals := 0 } ⟨rfl, rfl⟩) vw_X10_needCounted tw_709 rc_X10_needCounted (zrx hR rfl rfl rfl rfl) (Nat.le_of_ble_eq_true rfl) (Nat.le_of_ble_eq_true rfl) (Nat.le_of_ble_eq_true rfl) (Nat.le_of_ble_eq_true rfl) dX10_block_24 (zr_aload_n O dX10_block_27 rfl (zr_gR (ci := 9) (j := 0) (off := 0) (t := 16) (n := 0) O zc_9 (by decide) rfl tw_287 dX10_block_28 (zr_gS (ci := 6) (j := 0) (off := 1) (t := 15) (n := 0) O zc_6 (by decide) rfl tw_172 dX10_block_31 (zr_gS (ci := 5) (j := 7) (off := 6) (t := 1) (n := 5) O zc_5 (by decide) rfl tw_75 dX10_block_34 (zr_iconst (x := 4) O dX10_block_37 rfl (zr_iald O dX10_block_38 (zr_cI (zr_cS (n := 1) O m_X0_lengthOf (bn_X0_lengthOf _ ⟨rfl, rfl⟩) tw_773 tw_981 (zrx hR rfl rfl rfl rfl) dX10_block_39 (zr_istore O dX10_block_42 (zr_iload_n O dX10_block_44 rfl (zr_iflt (tgt := 54) O dX10_block_45 rfl B_54 (zr_iload_n O dX10_block_48 rfl (zr_iload O dX10_block_49 (zr_iclt (tgt := 56) O dX10_block_51 rfl B_56 (B_54)))))))))))))))))))))))))))))
  refine ⟨rfl, Nat.le_of_ble_eq_true rfl, _, B_0, ?_⟩
  have hS : rpS S h (h.2.2 x 0 + 1) := hN.1.1
  have hv : vS S := hv
  have hP28 := hS.2.1.2
  have hu := usd_lt hS.2.1.2
  have hb := nbk_le hv
  have hln := lnR_pos hv.2.2.2.2.2.2
  have t4 : h.1 (h.2.2 x 0 + 1 + 6) 4 = nI (dR S) := by rw [hS.2.2.2.2 4 (by decide)]; exact hv.2.2.2.2.2.1
  have epop : pop (usd S) = fb_ct (us S) (dP S) := pop_mk _ (by omega)
  have enb : bkc (dR S) (pop (usd S)) = nbk S := by rw [epop]; rfl
  refine ⟨(S, h.2.2 x 0 + 1), rfl, ⟨hS, hv⟩, (S, h.2.2 x 0 + 1, usd S), rfl, ⟨hS, hv, by omega⟩, (x, i, nI (nbk S)), ?_, trivial, fun E h' hd => hd, fun r h1 hq => ?_⟩
  · show [vR 19 0 x, vI i, vI (nI (bkc (dR S) (pop (usd S))))] = _
    rw [enb]; rfl
  obtain ⟨rfl, eh, g1⟩ := hq
  obtain rfl := eh.symm
  have g1 : gC i (nbk S) := g1
  obtain ⟨p, rfl, hp, ep⟩ := cntx (by omega) g1
  refine ⟨4, rfl, by decide, dR S, by rw [t4]; rfl, hv.2.2.2.2.2.2, fun c => ⟨g1, zri ?_, rfl⟩, fun c => ⟨fun d => ?_, fun d => ⟨g1, zri ?_, rfl⟩⟩⟩
  · rw [bkv, if_neg (fun z => Int32.not_le.mpr c z.1)]
  · replace d : k < nI (lnR (dR S)) := d
    have gk : gC k (lnR (dR S)) := ⟨Int32.not_lt.mp c, d⟩
    obtain ⟨q, rfl, hq, eq⟩ := cntx (by omega) gk
    have hm : p * lnR (dR S) ≤ 16 * 7 := Nat.mul_le_mul (by omega) (by omega)
    refine ⟨(S, h.2.2 x 0 + 1, usd S, p * lnR (dR S) + q), ?_, ⟨hS, by omega, by omega⟩, g1, zri ?_, rfl⟩
    · show [vR 15 0 _, vI (nI (usd S)), vI (nI p * nI (lnR (dR S)) + nI q)] = _
      rw [nI_mul, nI_add]; rfl
    · show kAt (fun i => (usd S).testBit i) (p * lnR (dR S) + q) (dP S) = bkv S (cN (nI p)) (nI q)
      rw [bkv, if_pos (show 0 ≤ nI q ∧ nI q < nI (lnR (dR S)) from gk), ep, eq]
      exact kAt_cg (fun i hi => by show (mk (us S) (dP S)).testBit i = us S i; rw [mk_bit, decide_eq_true hi]; rfl)
  · replace d : ¬ k < nI (lnR (dR S)) := d
    rw [bkv, if_neg (fun z => d z.2)]

