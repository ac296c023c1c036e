theorem dX11_fails_175 : decode cX11_fails 175 = .ok (.ireturn, 1) := by decide +kernel
theorem dX11_fails_173 : decode cX11_fails 173 = .ok (.iload 7, 2) := by decide +kernel
theorem dX11_fails_162 : decode cX11_fails 162 = .ok (.iload 4, 2) := by decide +kernel
theorem dX11_fails_164 : decode cX11_fails 164 = .ok (.iconst 1, 1) := by decide +kernel
theorem dX11_fails_165 : decode cX11_fails 165 = .ok (.if_icmp .ne 8, 3) := by decide +kernel
theorem dX11_fails_168 : decode cX11_fails 168 = .ok (.iload 6, 2) := by decide +kernel
theorem dX11_fails_170 : decode cX11_fails 170 = .ok (.goto 5, 3) := by decide +kernel
theorem dX11_fails_152 : decode cX11_fails 152 = .ok (.iload 4, 2) := by decide +kernel
theorem dX11_fails_154 : decode cX11_fails 154 = .ok (.ifCond .ne 8, 3) := by decide +kernel
theorem dX11_fails_157 : decode cX11_fails 157 = .ok (.iload 5, 2) := by decide +kernel
theorem dX11_fails_159 : decode cX11_fails 159 = .ok (.goto 16, 3) := by decide +kernel
theorem dX11_fails_146 : decode cX11_fails 146 = .ok (.iinc 8 1, 3) := by decide +kernel
theorem dX11_fails_149 : decode cX11_fails 149 = .ok (.goto (-62), 3) := by decide +kernel
theorem dX11_fails_143 : decode cX11_fails 143 = .ok (.iadd, 1) := by decide +kernel
theorem dX11_fails_144 : decode cX11_fails 144 = .ok (.istore 6, 2) := by decide +kernel
theorem dX11_fails_142 : decode cX11_fails 142 = .ok (.iconst 1, 1) := by decide +kernel
theorem dX11_fails_126 : decode cX11_fails 126 = .ok (.iinc 5 1, 3) := by decide +kernel
theorem dX11_fails_129 : decode cX11_fails 129 = .ok (.iload 6, 2) := by decide +kernel
theorem dX11_fails_131 : decode cX11_fails 131 = .ok (.aload_n 0, 1) := by decide +kernel
theorem dX11_fails_132 : decode cX11_fails 132 = .ok (.invokevirtual 314, 3) := by decide +kernel
theorem dX11_fails_135 : decode cX11_fails 135 = .ok (.ifCond .eq 7, 3) := by decide +kernel
theorem dX11_fails_138 : decode cX11_fails 138 = .ok (.iconst 0, 1) := by decide +kernel
theorem dX11_fails_139 : decode cX11_fails 139 = .ok (.goto 4, 3) := by decide +kernel
theorem dX11_fails_87 : decode cX11_fails 87 = .ok (.iload 8, 2) := by decide +kernel
theorem dX11_fails_89 : decode cX11_fails 89 = .ok (.iload_n 3, 1) := by decide +kernel
theorem dX11_fails_90 : decode cX11_fails 90 = .ok (.if_icmp .ge 62, 3) := by decide +kernel
theorem dX11_fails_93 : decode cX11_fails 93 = .ok (.aload_n 0, 1) := by decide +kernel
theorem dX11_fails_94 : decode cX11_fails 94 = .ok (.iload_n 1, 1) := by decide +kernel
theorem dX11_fails_95 : decode cX11_fails 95 = .ok (.invokevirtual 311, 3) := by decide +kernel
theorem dX11_fails_98 : decode cX11_fails 98 = .ok (.iload 7, 2) := by decide +kernel
theorem dX11_fails_100 : decode cX11_fails 100 = .ok (.aload_n 0, 1) := by decide +kernel
theorem dX11_fails_101 : decode cX11_fails 101 = .ok (.getfield 295, 3) := by decide +kernel
theorem dX11_fails_104 : decode cX11_fails 104 = .ok (.invokestatic 317, 3) := by decide +kernel
theorem dX11_fails_107 : decode cX11_fails 107 = .ok (.istore 7, 2) := by decide +kernel
theorem dX11_fails_109 : decode cX11_fails 109 = .ok (.aload_n 0, 1) := by decide +kernel
theorem dX11_fails_110 : decode cX11_fails 110 = .ok (.getfield 301, 3) := by decide +kernel
theorem dX11_fails_113 : decode cX11_fails 113 = .ok (.aload_n 0, 1) := by decide +kernel
theorem dX11_fails_114 : decode cX11_fails 114 = .ok (.getfield 17, 3) := by decide +kernel
theorem dX11_fails_117 : decode cX11_fails 117 = .ok (.bipush 47, 2) := by decide +kernel
theorem dX11_fails_119 : decode cX11_fails 119 = .ok (.iaload, 1) := by decide +kernel
theorem dX11_fails_120 : decode cX11_fails 120 = .ok (.if_icmp .ne 6, 3) := by decide +kernel
theorem dX11_fails_123 : decode cX11_fails 123 = .ok (.goto 23, 3) := by decide +kernel
theorem dX11_fails_70 : decode cX11_fails 70 = .ok (.aload_n 0, 1) := by decide +kernel
theorem dX11_fails_71 : decode cX11_fails 71 = .ok (.iload_n 2, 1) := by decide +kernel
theorem dX11_fails_72 : decode cX11_fails 72 = .ok (.putfield 291, 3) := by decide +kernel
theorem dX11_fails_75 : decode cX11_fails 75 = .ok (.iconst 0, 1) := by decide +kernel
theorem dX11_fails_76 : decode cX11_fails 76 = .ok (.istore 5, 2) := by decide +kernel
theorem dX11_fails_78 : decode cX11_fails 78 = .ok (.iconst 0, 1) := by decide +kernel
theorem dX11_fails_79 : decode cX11_fails 79 = .ok (.istore 6, 2) := by decide +kernel
theorem dX11_fails_81 : decode cX11_fails 81 = .ok (.iconst 0, 1) := by decide +kernel
theorem dX11_fails_82 : decode cX11_fails 82 = .ok (.istore 7, 2) := by decide +kernel
theorem dX11_fails_84 : decode cX11_fails 84 = .ok (.iconst 0, 1) := by decide +kernel
theorem dX11_fails_85 : decode cX11_fails 85 = .ok (.istore 8, 2) := by decide +kernel
theorem dX11_fails_68 : decode cX11_fails 68 = .ok (.iconst 0, 1) := by decide +kernel
theorem dX11_fails_69 : decode cX11_fails 69 = .ok (.ireturn, 1) := by decide +kernel
theorem dX11_fails_60 : decode cX11_fails 60 = .ok (.iconst 2, 1) := by decide +kernel
theorem dX11_fails_61 : decode cX11_fails 61 = .ok (.iconst 1, 1) := by decide +kernel
theorem dX11_fails_62 : decode cX11_fails 62 = .ok (.invokevirtual 217, 3) := by decide +kernel
theorem dX11_fails_65 : decode cX11_fails 65 = .ok (.ifCond .ne 5, 3) := by decide +kernel
theorem dX11_fails_59 : decode cX11_fails 59 = .ok (.iconst 0, 1) := by decide +kernel
theorem dX11_fails_0 : decode cX11_fails 0 = .ok (.aload_n 0, 1) := by decide +kernel
theorem dX11_fails_1 : decode cX11_fails 1 = .ok (.iconst 0, 1) := by decide +kernel
theorem dX11_fails_2 : decode cX11_fails 2 = .ok (.putfield 1, 3) := by decide +kernel
theorem dX11_fails_5 : decode cX11_fails 5 = .ok (.aload_n 0, 1) := by decide +kernel
theorem dX11_fails_6 : decode cX11_fails 6 = .ok (.invokevirtual 263, 3) := by decide +kernel
theorem dX11_fails_9 : decode cX11_fails 9 = .ok (.ifCond .eq 59, 3) := by decide +kernel
theorem dX11_fails_12 : decode cX11_fails 12 = .ok (.aload_n 0, 1) := by decide +kernel
theorem dX11_fails_13 : decode cX11_fails 13 = .ok (.iload_n 1, 1) := by decide +kernel
theorem dX11_fails_14 : decode cX11_fails 14 = .ok (.bipush (-40), 2) := by decide +kernel
theorem dX11_fails_16 : decode cX11_fails 16 = .ok (.bipush 125, 2) := by decide +kernel
theorem dX11_fails_18 : decode cX11_fails 18 = .ok (.invokestatic 173, 3) := by decide +kernel
theorem dX11_fails_21 : decode cX11_fails 21 = .ok (.ifCond .eq 38, 3) := by decide +kernel
theorem dX11_fails_24 : decode cX11_fails 24 = .ok (.iload_n 2, 1) := by decide +kernel
theorem dX11_fails_25 : decode cX11_fails 25 = .ok (.iconst 0, 1) := by decide +kernel
theorem dX11_fails_26 : decode cX11_fails 26 = .ok (.ldc_w 310, 3) := by decide +kernel
theorem dX11_fails_29 : decode cX11_fails 29 = .ok (.invokestatic 173, 3) := by decide +kernel
theorem dX11_fails_32 : decode cX11_fails 32 = .ok (.ifCond .eq 27, 3) := by decide +kernel
theorem dX11_fails_35 : decode cX11_fails 35 = .ok (.iload_n 3, 1) := by decide +kernel
theorem dX11_fails_36 : decode cX11_fails 36 = .ok (.iconst 1, 1) := by decide +kernel
theorem dX11_fails_37 : decode cX11_fails 37 = .ok (.bipush 60, 2) := by decide +kernel
theorem dX11_fails_39 : decode cX11_fails 39 = .ok (.invokestatic 173, 3) := by decide +kernel
theorem dX11_fails_42 : decode cX11_fails 42 = .ok (.ifCond .eq 17, 3) := by decide +kernel
theorem dX11_fails_45 : decode cX11_fails 45 = .ok (.iload 4, 2) := by decide +kernel
theorem dX11_fails_47 : decode cX11_fails 47 = .ok (.iconst 0, 1) := by decide +kernel
theorem dX11_fails_48 : decode cX11_fails 48 = .ok (.iconst 2, 1) := by decide +kernel
theorem dX11_fails_49 : decode cX11_fails 49 = .ok (.invokestatic 173, 3) := by decide +kernel
theorem dX11_fails_52 : decode cX11_fails 52 = .ok (.ifCond .eq 7, 3) := by decide +kernel
theorem dX11_fails_55 : decode cX11_fails 55 = .ok (.iconst 1, 1) := by decide +kernel
theorem dX11_fails_56 : decode cX11_fails 56 = .ok (.goto 4, 3) := by decide +kernel
theorem dX11_told_238 : decode cX11_told 238 = .ok (.aload_n 0, 1) := by decide +kernel
theorem dX11_told_239 : decode cX11_told 239 = .ok (.getfield 17, 3) := by decide +kernel
theorem dX11_told_242 : decode cX11_told 242 = .ok (.iload_n 1, 1) := by decide +kernel
theorem dX11_told_243 : decode cX11_told 243 = .ok (.bipush 6, 2) := by decide +kernel
theorem dX11_told_245 : decode cX11_told 245 = .ok (.isub, 1) := by decide +kernel
theorem dX11_told_246 : decode cX11_told 246 = .ok (.iaload, 1) := by decide +kernel
theorem dX11_told_247 : decode cX11_told 247 = .ok (.ireturn, 1) := by decide +kernel
theorem dX11_told_237 : decode cX11_told 237 = .ok (.ireturn, 1) := by decide +kernel
theorem dX11_told_230 : decode cX11_told 230 = .ok (.aload_n 0, 1) := by decide +kernel
theorem dX11_told_231 : decode cX11_told 231 = .ok (.getfield 17, 3) := by decide +kernel
theorem dX11_told_234 : decode cX11_told 234 = .ok (.bipush 48, 2) := by decide +kernel
theorem dX11_told_236 : decode cX11_told 236 = .ok (.iaload, 1) := by decide +kernel
theorem dX11_told_222 : decode cX11_told 222 = .ok (.iload_n 2, 1) := by decide +kernel
theorem dX11_told_223 : decode cX11_told 223 = .ok (.ifCond .eq 7, 3) := by decide +kernel
theorem dX11_told_226 : decode cX11_told 226 = .ok (.iconst (-1), 1) := by decide +kernel
theorem dX11_told_227 : decode cX11_told 227 = .ok (.goto 10, 3) := by decide +kernel
theorem dX11_told_221 : decode cX11_told 221 = .ok (.ireturn, 1) := by decide +kernel
theorem dX11_told_214 : decode cX11_told 214 = .ok (.aload_n 0, 1) := by decide +kernel
theorem dX11_told_215 : decode cX11_told 215 = .ok (.getfield 17, 3) := by decide +kernel
theorem dX11_told_218 : decode cX11_told 218 = .ok (.bipush 47, 2) := by decide +kernel
theorem dX11_told_220 : decode cX11_told 220 = .ok (.iaload, 1) := by decide +kernel
theorem dX11_told_206 : decode cX11_told 206 = .ok (.iload_n 2, 1) := by decide +kernel
theorem dX11_told_207 : decode cX11_told 207 = .ok (.ifCond .eq 7, 3) := by decide +kernel
theorem dX11_told_210 : decode cX11_told 210 = .ok (.iconst (-1), 1) := by decide +kernel
theorem dX11_told_211 : decode cX11_told 211 = .ok (.goto 10, 3) := by decide +kernel
theorem dX11_told_205 : decode cX11_told 205 = .ok (.ireturn, 1) := by decide +kernel
theorem dX11_told_201 : decode cX11_told 201 = .ok (.aload_n 0, 1) := by decide +kernel
theorem dX11_told_202 : decode cX11_told 202 = .ok (.invokevirtual 270, 3) := by decide +kernel
theorem dX11_told_193 : decode cX11_told 193 = .ok (.iload_n 2, 1) := by decide +kernel
theorem dX11_told_194 : decode cX11_told 194 = .ok (.ifCond .eq 7, 3) := by decide +kernel
theorem dX11_told_197 : decode cX11_told 197 = .ok (.iconst (-1), 1) := by decide +kernel
theorem dX11_told_198 : decode cX11_told 198 = .ok (.goto 7, 3) := by decide +kernel
theorem dX11_told_192 : decode cX11_told 192 = .ok (.ireturn, 1) := by decide +kernel
theorem dX11_told_185 : decode cX11_told 185 = .ok (.aload_n 0, 1) := by decide +kernel
theorem dX11_told_186 : decode cX11_told 186 = .ok (.getfield 17, 3) := by decide +kernel
theorem dX11_told_189 : decode cX11_told 189 = .ok (.bipush 45, 2) := by decide +kernel
theorem dX11_told_191 : decode cX11_told 191 = .ok (.iaload, 1) := by decide +kernel
theorem dX11_told_177 : decode cX11_told 177 = .ok (.iload_n 2, 1) := by decide +kernel
theorem dX11_told_178 : decode cX11_told 178 = .ok (.ifCond .eq 7, 3) := by decide +kernel
theorem dX11_told_181 : decode cX11_told 181 = .ok (.iconst (-1), 1) := by decide +kernel
theorem dX11_told_182 : decode cX11_told 182 = .ok (.goto 10, 3) := by decide +kernel
theorem dX11_told_168 : decode cX11_told 168 = .ok (.aload_n 0, 1) := by decide +kernel
theorem dX11_told_169 : decode cX11_told 169 = .ok (.getfield 17, 3) := by decide +kernel
theorem dX11_told_172 : decode cX11_told 172 = .ok (.sipush 161, 3) := by decide +kernel
theorem dX11_told_175 : decode cX11_told 175 = .ok (.iaload, 1) := by decide +kernel
theorem dX11_told_176 : decode cX11_told 176 = .ok (.ireturn, 1) := by decide +kernel
theorem dX11_told_163 : decode cX11_told 163 = .ok (.aload_n 0, 1) := by decide +kernel
theorem dX11_told_164 : decode cX11_told 164 = .ok (.getfield 127, 3) := by decide +kernel
theorem dX11_told_167 : decode cX11_told 167 = .ok (.ireturn, 1) := by decide +kernel
theorem dX11_told_158 : decode cX11_told 158 = .ok (.aload_n 0, 1) := by decide +kernel
theorem dX11_told_159 : decode cX11_told 159 = .ok (.getfield 227, 3) := by decide +kernel
theorem dX11_told_162 : decode cX11_told 162 = .ok (.ireturn, 1) := by decide +kernel
theorem dX11_told_153 : decode cX11_told 153 = .ok (.aload_n 0, 1) := by decide +kernel
theorem dX11_told_154 : decode cX11_told 154 = .ok (.invokevirtual 242, 3) := by decide +kernel
theorem dX11_told_157 : decode cX11_told 157 = .ok (.ireturn, 1) := by decide +kernel
theorem dX11_told_148 : decode cX11_told 148 = .ok (.aload_n 0, 1) := by decide +kernel
theorem dX11_told_149 : decode cX11_told 149 = .ok (.invokevirtual 239, 3) := by decide +kernel
theorem dX11_told_152 : decode cX11_told 152 = .ok (.ireturn, 1) := by decide +kernel
theorem dX11_told_143 : decode cX11_told 143 = .ok (.aload_n 0, 1) := by decide +kernel
theorem dX11_told_144 : decode cX11_told 144 = .ok (.invokevirtual 120, 3) := by decide +kernel
theorem dX11_told_147 : decode cX11_told 147 = .ok (.ireturn, 1) := by decide +kernel
theorem dX11_told_138 : decode cX11_told 138 = .ok (.aload_n 0, 1) := by decide +kernel
theorem dX11_told_139 : decode cX11_told 139 = .ok (.invokevirtual 267, 3) := by decide +kernel
theorem dX11_told_142 : decode cX11_told 142 = .ok (.ireturn, 1) := by decide +kernel
theorem dX11_told_133 : decode cX11_told 133 = .ok (.aload_n 0, 1) := by decide +kernel
theorem dX11_told_134 : decode cX11_told 134 = .ok (.getfield 103, 3) := by decide +kernel
theorem dX11_told_137 : decode cX11_told 137 = .ok (.ireturn, 1) := by decide +kernel
theorem dX11_told_128 : decode cX11_told 128 = .ok (.aload_n 0, 1) := by decide +kernel
theorem dX11_told_129 : decode cX11_told 129 = .ok (.getfield 224, 3) := by decide +kernel
theorem dX11_told_132 : decode cX11_told 132 = .ok (.ireturn, 1) := by decide +kernel
theorem dX11_told_38 : decode cX11_told 38 = .ok (.istore_n 2, 1) := by decide +kernel
theorem dX11_told_39 : decode cX11_told 39 = .ok (.iload_n 1, 1) := by decide +kernel
theorem dX11_told_40 : decode cX11_told 40 = .ok (.tableswitch 198 0 17 #[88, 93, 98, 103, 108, 113, 198, 198, 198, 198, 198, 118, 123, 128, 137, 153, 166, 182], 88) := by decide +kernel
theorem dX11_told_37 : decode cX11_told 37 = .ok (.iconst 0, 1) := by decide +kernel
theorem dX11_told_23 : decode cX11_told 23 = .ok (.aload_n 0, 1) := by decide +kernel
theorem dX11_told_24 : decode cX11_told 24 = .ok (.getfield 17, 3) := by decide +kernel
theorem dX11_told_27 : decode cX11_told 27 = .ok (.bipush 45, 2) := by decide +kernel
theorem dX11_told_29 : decode cX11_told 29 = .ok (.iaload, 1) := by decide +kernel
theorem dX11_told_30 : decode cX11_told 30 = .ok (.ifCond .ne 7, 3) := by decide +kernel
theorem dX11_told_33 : decode cX11_told 33 = .ok (.iconst 1, 1) := by decide +kernel
theorem dX11_told_34 : decode cX11_told 34 = .ok (.goto 4, 3) := by decide +kernel
theorem dX11_told_0 : decode cX11_told 0 = .ok (.aload_n 0, 1) := by decide +kernel
theorem dX11_told_1 : decode cX11_told 1 = .ok (.iconst 0, 1) := by decide +kernel
theorem dX11_told_2 : decode cX11_told 2 = .ok (.putfield 1, 3) := by decide +kernel
theorem dX11_told_5 : decode cX11_told 5 = .ok (.aload_n 0, 1) := by decide +kernel
theorem dX11_told_6 : decode cX11_told 6 = .ok (.iload_n 1, 1) := by decide +kernel
theorem dX11_told_7 : decode cX11_told 7 = .ok (.iconst 0, 1) := by decide +kernel
theorem dX11_told_8 : decode cX11_told 8 = .ok (.bipush 17, 2) := by decide +kernel
theorem dX11_told_10 : decode cX11_told 10 = .ok (.invokestatic 173, 3) := by decide +kernel
theorem dX11_told_13 : decode cX11_told 13 = .ok (.iconst 1, 1) := by decide +kernel
theorem dX11_told_14 : decode cX11_told 14 = .ok (.iconst 1, 1) := by decide +kernel
theorem dX11_told_15 : decode cX11_told 15 = .ok (.invokevirtual 217, 3) := by decide +kernel
theorem dX11_told_18 : decode cX11_told 18 = .ok (.ifCond .ne 5, 3) := by decide +kernel
theorem dX11_told_21 : decode cX11_told 21 = .ok (.iconst 0, 1) := by decide +kernel
theorem dX11_told_22 : decode cX11_told 22 = .ok (.ireturn, 1) := by decide +kernel
/-! the reference's public questions: fails, told, block, guardFor -/
def ca_X11_fails : (zQ × Nat × Int32 × Int32 × Int32 × Int32) → List zV := fun (Q, y, te, s, m, w) => [vR 20 0 y, vI te, vI s, vI m, vI w]
def cp_X11_fails : (zQ × Nat × Int32 × Int32 × Int32 × Int32) → zH → Prop := fun (Q, y, te, s, m, w) h => rmS Q.1 h y ∧ rmE Q.2.1 (h.1 (y + 2)) ∧ vS Q.1 ∧ ∀ i, i < eN Q.2.1 → eP Q.2.1 i < dP Q.1
def cq_X11_fails : (zQ × Nat × Int32 × Int32 × Int32 × Int32) → zH → Option zV → zH → Prop := fun (Q, y, te, s, m, w) h r h' => fq y h h' ∧ ((0 < eN Q.2.1 ∧ (gR te (-40) 125 ∧ gR s 0 65536 ∧ gR m 1 60 ∧ gR w 0 2) ∧ rok y h h' ∧ r = some (vI (fav Q.1 Q.2.1 te s (cN m) (cN w)))) ∨ (eN Q.2.1 = 0 ∧ rno y 1 2 h h' ∧ r = some (vI 0)) ∨ (0 < eN Q.2.1 ∧ ¬ (gR te (-40) 125 ∧ gR s 0 65536 ∧ gR m 1 60 ∧ gR w 0 2) ∧ rno y 2 1 h h' ∧ r = some (vI 0)))
theorem rc_X11_fails : ∀ x : (zQ × Nat × Int32 × Int32 × Int32 × Int32), ∃ (j a : Nat) (As : List zV), ca_X11_fails x = vR (10 + 10) j a :: As := by
  rintro ⟨⟨S, K, M⟩, y, te, s, m, w⟩
  exact ⟨_, _, _, rfl⟩
set_option maxHeartbeats 4000000 in
set_option maxRecDepth 100000 in
theorem m_X11_fails : zM yX11_fails cX11_fails 9 (some .int) ({ frames := 3, cells := 0, slots := 0, locals := 75 } : Room) ((ca_X11_fails, cp_X11_fails, cq_X11_fails) : zC (zQ × Nat × Int32 × Int32 × Int32 × Int32)) := by
  refine zM_of (by decide) ?_
  rintro X Y ⟨⟨S, K, M⟩, y, te, s, m, w⟩ h ⟨hS, hE, hv, hP⟩ O E hR
  have hS : rmS S h y := hS
  have hE : rmE K (h.1 (y + 2)) := hE
  have hv : vS S := hv
  have hP : ∀ i, i < eN K → eP K i < dP S := hP
  have hS0 := rmS_0 hS
  have hE0 : rmE K ((zsI h y 0 0).1 (y + 2)) := by rw [m_0 _ _ (by omega)]; exact hE
  have B_175 := zr_ireturn (X := X) (Y := Y) (u := 0) (v := 0) O E (Nat.le_refl _) (Nat.le_refl _) dX11_fails_175
  have C_175 : zSd X Y 0 0 175 (fun ls st h1 => ∃ v : Int32, (0 < eN K ∧ (gR te (-40) 125 ∧ gR s 0 65536 ∧ gR m 1 60 ∧ gR w 0 2)) ∧ v = fav S K te s (cN m) (cN w) ∧ st = [vI v] ∧ fm y (zsI h y 0 0) h1) := by
    refine zSd_weak B_175 (fun ls st h1 t => ?_)
    obtain ⟨v, g1, rfl, rfl, f1⟩ := t
    have f3 := fq_fm (fq_0 y h) f1
    exact ⟨f3.1, Or.inl ⟨g1.1, g1.2, f3.2, rfl⟩⟩
  have B_173 := zr_iload (X := X) (Y := Y) (u := 0) (v := 0) O dX11_fails_173 (C_175)
  have B_162 := zr_iload (X := X) (Y := Y) (u := 0) (v := 0) O dX11_fails_162 (zr_iconst (x := 1) O dX11_fails_164 rfl (zr_icne (tgt := 173) O dX11_fails_165 rfl B_173 (zr_iload O dX11_fails_168 (zr_goto (tgt := 175) O dX11_fails_170 rfl C_175))))
  have B_152 := zr_iload (X := X) (Y := Y) (u := 0) (v := 0) O dX11_fails_152 (zr_ifne (tgt := 162) O dX11_fails_154 rfl B_162 (zr_iload O dX11_fails_157 (zr_goto (tgt := 175) O dX11_fails_159 rfl C_175)))
  have L_87 : ∀ nn : Nat, zSd X Y 0 0 87 ((fun c ls st h1 => ∃ (n : Nat) (y5 y6 y7 y8 : Int32), c = cN m - n ∧ n ≤ cN m ∧ ls = [some (vR 20 0 y), some (vI te), some (vI s), some (vI m), some (vI w), some (vI y5), some (vI y6), some (vI y7), some (vI y8)] ∧ y5 = nI (fb_ct (fwr S K te s) n) ∧ y6 = nI (fb_ct (ftk S K te s) n) ∧ y7 = fmx S K te s n ∧ y8 = nI n ∧ st = [] ∧ fm y (zsI h y 0 0) h1 ∧ h1.1 y 27 = fsd S K te s n ∧ (0 < eN K ∧ (gR te (-40) 125 ∧ gR s 0 65536 ∧ gR m 1 60 ∧ gR w 0 2)) : Nat → zT) nn) := by
    refine zSd_loop (fun nn ih => ?_)
    have B_146 := zr_iinc (X := X) (Y := Y) (u := 0) (v := 0) (c := 1) O dX11_fails_146 rfl (zr_goto (tgt := 87) O dX11_fails_149 rfl ih)
    have B_143 := zr_iadd (X := X) (Y := Y) (u := 0) (v := 0) O dX11_fails_143 (zr_istore O dX11_fails_144 (B_146))
    have B_142 := zr_iconst (X := X) (Y := Y) (u := 0) (v := 0) (x := 1) O dX11_fails_142 rfl (B_143)
    have B_126 := zr_iinc (X := X) (Y := Y) (u := 0) (v := 0) (c := 1) O dX11_fails_126 rfl (zr_iload O dX11_fails_129 (zr_aload_n O dX11_fails_131 rfl (zr_cI (zr_cV (ci := 10) (n := 0) O m_X11_isRefused (bn_X11_isRefused _ ⟨rfl, rfl⟩) vw_X11_isRefused tw_1600 rc_X11_isRefused (zrm hR rfl rfl) dX11_fails_132 (zr_ifeq (tgt := 142) O dX11_fails_135 rfl B_142 (zr_iconst (x := 0) O dX11_fails_138 rfl (zr_goto (tgt := 143) O dX11_fails_139 rfl B_143)))))))
    have B_87 := zr_iload (X := X) (Y := Y) (u := 0) (v := 0) O dX11_fails_87 (zr_iload_n O dX11_fails_89 rfl (zr_icge (tgt := 152) O dX11_fails_90 rfl B_152 (zr_aload_n O dX11_fails_93 rfl (zr_iload_n O dX11_fails_94 rfl (zr_cV (ci := 10) (n := 1) O m_X11_readsAll (bn_X11_readsAll _ ⟨rfl, rfl⟩) vw_X11_readsAll tw_1587 rc_X11_readsAll (zrm hR rfl rfl) dX11_fails_95 (zr_iload O dX11_fails_98 (zr_aload_n O dX11_fails_100 rfl (zr_gI (ci := 10) (j := 28) O zc_10 (by decide) rfl tw_1215 dX11_fails_101 (zr_max O zwm tw_1608 (zrm hR rfl rfl) dX11_fails_104 (zr_istore O dX11_fails_107 (zr_aload_n O dX11_fails_109 rfl (zr_gI (ci := 10) (j := 30) O zc_10 (by decide) rfl tw_1217 dX11_fails_110 (zr_aload_n O dX11_fails_113 rfl (zr_gS (ci := 10) (j := 2) (off := 2) (t := 1) (n := 218) O zc_10 (by decide) rfl tw_1189 dX11_fails_114 (zr_bipush (x := (47)) O dX11_fails_117 (by decide) (zr_iald O dX11_fails_119 (zr_icne (tgt := 126) O dX11_fails_120 rfl B_126 (zr_goto (tgt := 146) O dX11_fails_123 rfl B_146))))))))))))))))))
    refine zSd_weak B_87 (fun ls st h1 t => ?_)
    obtain ⟨n, y5, y6, y7, y8, rfl, hn, rfl, rfl, rfl, rfl, rfl, rfl, f1, v0, g⟩ := t
    have h0 := g.1
    have gm : gR m 0 (nI 60) := ⟨Int32.le_trans (by decide) g.2.2.2.1.1, g.2.2.2.1.2⟩
    obtain ⟨em, hm⟩ := rng (n := 60) (by decide) gm
    refine ⟨fun c => ?_, fun c => ?_⟩
    · rw [em] at c
      have := (nI_leI (by omega) (by omega)).mp c
      have hn2 : n = cN m := by omega
      subst hn2
      obtain ⟨q, rfl, hq, eq⟩ := rngx (n := 2) (by decide) g.2.2.2.2
      refine ⟨fun d => ⟨fun f => ⟨_, g, ?_, rfl, f1⟩, fun f => ⟨_, g, ?_, rfl, f1⟩⟩, fun d => ⟨_, g, ?_, rfl, f1⟩⟩
      · have d1 : ¬ q = 0 := fun z => d (by rw [z]; rfl)
        have d2 : ¬ q = 1 := fun z => f (by rw [z]; rfl)
        rw [eq, fav, if_neg d1, if_neg d2]
      · have d1 : ¬ q = 0 := fun z => d (by rw [z]; rfl)
        have d2 : q = 1 := (nI_eq (b := 1) (by omega) (by omega)).mp f
        rw [eq, fav, if_neg d1, if_pos d2]
      · have d1 : q = 0 := (nI_eq (b := 0) (by omega) (by omega)).mp d
        rw [eq, fav, if_pos d1]
    · rw [em] at c
      have hn2 : n < cN m := Nat.not_le.mp (fun z => c ((nI_leI (by omega) (by omega)).mpr z))
      have m1 : h1.1 (y + 2) = (zsI h y 0 0).1 (y + 2) := f1.2.2.2 2 (by omega)
      refine ⟨(S, K, y, te), rfl, ⟨rmS_fm f1 hS0, by rw [m1]; exact hE0, h0, hv, hP⟩, fun r h2 hq => ?_⟩
      obtain ⟨rfl, f2, r27, r28, r29, r30⟩ := hq
      replace f2 : fm y h1 h2 := f2
      rw [v0] at r27 r28 r29 r30
      replace r27 : h2.1 y 27 = fsd S K te s (n + 1) := r27
      have f3 := fm_t f1 f2
      have hE2 : rmE K (h2.1 (y + 2)) := by rw [f2.2.2.2 2 (by omega), m1]; exact hE0
      have lx := rdX_lt (S := S) (te := te) (s := fsd S K te s n) hE.2.1 h0
      have ls := (vE_b hE.2.1 h0).2.2.2.1
      have es : h2.1 (y + 2) 47 = nI (eS K) := (hE2.2.2 h0).1.2.1
      have emx : (if fmx S K te s n < h2.1 y 28 then h2.1 y 28 else fmx S K te s n) = fmx S K te s (n + 1) := by rw [r28]; rfl
      refine ⟨47, rfl, by decide, fun d => ⟨(K, y, rdX S K te (fsd S K te s n)), rfl, ⟨hE2, h0, r30, lx⟩, ?_⟩, fun d => ?_⟩
      · rw [r30, es] at d
        have w1 : fwr S K te s n = true := decide_eq_true (fun z => d (by rw [z]))
        refine zmg (k := _) (c := cf_X11_isRefused (K, y, rdX S K te (fsd S K te s n)) h2 = 0) (x := 1) (y := 0) ?_
        refine ⟨cN m - (n + 1), by omega, n + 1, _, _, _, _, rfl, by omega, rfl, by rw [fb_ct_succ, w1, nI_1]; rfl, ?_, emx, nI_1 n, rfl, f3, r27, g⟩
        rw [fb_ct_succ, ftk, w1]
        show _ + (if bI (decide (ckW 0 (rdX S K te (fsd S K te s n)) (eK K * btR (eR K)) ≠ eC K)) = 0 then (1 : Int32) else 0) = _
        by_cases hz : ckW 0 (rdX S K te (fsd S K te s n)) (eK K * btR (eR K)) = eC K
        · rw [if_pos ((bI_0 _).mpr (decide_eq_false (fun z => z hz))), decide_eq_true hz]; exact nI_1 _
        · rw [if_neg (fun z => of_decide_eq_false ((bI_0 _).mp z) hz), decide_eq_false hz]; exact Int32.add_zero _
      · rw [r30, es] at d
        have hd := (nI_eq (by omega) (by omega)).mp d
        have w1 : fwr S K te s n = false := decide_eq_false (fun z => z hd)
        have w2 : ftk S K te s n = false := by rw [ftk, w1]; rfl
        exact ⟨cN m - (n + 1), by omega, n + 1, _, _, _, _, rfl, by omega, rfl, by rw [fb_ct_succ, w1]; rfl, by rw [fb_ct_succ, w2]; rfl, emx, nI_1 n, rfl, f3, r27, g⟩
  have B_87 := zSd_any L_87
  have B_70 := zr_aload_n (X := X) (Y := Y) (u := 0) (v := 0) O dX11_fails_70 rfl (zr_iload_n O dX11_fails_71 rfl (zr_pI (ci := 10) (j := 27) O zc_10 (by decide) rfl rfl rfl tw_1214 dX11_fails_72 (zr_iconst (x := 0) O dX11_fails_75 rfl (zr_istore O dX11_fails_76 (zr_iconst (x := 0) O dX11_fails_78 rfl (zr_istore O dX11_fails_79 (zr_iconst (x := 0) O dX11_fails_81 rfl (zr_istore O dX11_fails_82 (zr_iconst (x := 0) O dX11_fails_84 rfl (zr_istore O dX11_fails_85 (B_87)))))))))))
  have B_68 := zr_iconst (X := X) (Y := Y) (u := 0) (v := 0) (x := 0) O dX11_fails_68 rfl (zr_ireturn O E (Nat.le_refl _) (Nat.le_refl _) dX11_fails_69)
  have B_60 := zr_iconst (X := X) (Y := Y) (u := 0) (v := 0) (x := 2) O dX11_fails_60 rfl (zr_iconst (x := 1) O dX11_fails_61 rfl (zr_cH (zr_cV (ci := 10) (n := 3) O m_X11_isFine (bn_X11_isFine _ ⟨rfl, rfl⟩) vw_X11_isFine tw_1308 rc_X11_isFine (zrm hR rfl rfl) dX11_fails_62 (zr_ifne (tgt := 70) O dX11_fails_65 rfl B_70 (B_68)))))
  have C_60 : zSd X Y 0 0 60 (fun ls st h1 => ∃ v : Int32, 0 < eN K ∧ ls = [some (vR 20 0 y), some (vI te), some (vI s), some (vI m), some (vI w), none, none, none, none] ∧ v = bI (decide ((-40 ≤ te ∧ te ≤ 125) ∧ (0 ≤ s ∧ s ≤ 65536) ∧ (1 ≤ m ∧ m ≤ 60) ∧ 0 ≤ w ∧ w ≤ 2)) ∧ st = [vI v, vR 20 0 y] ∧ h1 = zsI h y 0 0) := by
    refine zSd_weak B_60 (fun ls st h1 t => ?_)
    obtain ⟨v, h0, rfl, rfl, rfl, rfl⟩ := t
    refine ⟨(y, decide ((-40 ≤ te ∧ te ≤ 125) ∧ (0 ≤ s ∧ s ≤ 65536) ∧ (1 ≤ m ∧ m ≤ 60) ∧ 0 ≤ w ∧ w ≤ 2), 2, 1), rfl, ⟨by decide, by decide⟩, fun d => ?_, fun d => ?_⟩
    · obtain ⟨g2, e⟩ := fine_ok (t0 h y) d
      rw [e]
      have g2 : gR te (-40) 125 ∧ gR s 0 65536 ∧ gR m 1 60 ∧ gR w 0 2 := g2
      exact ⟨cN m - 0, 0, _, _, _, _, rfl, Nat.zero_le _, rfl, rfl, rfl, rfl, rfl, rfl, fm_I (k := 27) _ _ (by decide), zsI_me _ _ _ _, h0, g2⟩
    · obtain ⟨g2, e⟩ := fine_no (t0 h y) d
      rw [e]
      exact ⟨(fq_rf 2 (fq_0 y h)).1, Or.inr (Or.inr ⟨h0, g2, (fq_rf 2 (fq_0 y h)).2, rfl⟩)⟩
  have B_59 := zr_iconst (X := X) (Y := Y) (u := 0) (v := 0) (x := 0) O dX11_fails_59 rfl (C_60)
  have B_0 := zr_aload_n (X := X) (Y := Y) (u := 0) (v := 0) O dX11_fails_0 rfl (zr_iconst (x := 0) O dX11_fails_1 rfl (zr_pI (ci := 10) (j := 0) O zc_10 (by decide) rfl rfl rfl tw_1187 dX11_fails_2 (zr_aload_n O dX11_fails_5 rfl (zr_cH (zr_cV (ci := 10) (n := 0) O m_X11_isKept (bn_X11_isKept _ ⟨rfl, rfl⟩) vw_X11_isKept tw_1483 rc_X11_isKept (zrm hR rfl rfl) dX11_fails_6 (zr_ifeq (tgt := 68) O dX11_fails_9 rfl B_68 (zr_aload_n O dX11_fails_12 rfl (zr_iload_n O dX11_fails_13 rfl (zr_bipush (x := (-40)) O dX11_fails_14 (by decide) (zr_bipush (x := (125)) O dX11_fails_16 (by decide) (zr_cI (zr_cS (n := 3) O m_X11_within (bn_X11_within _ ⟨rfl, rfl⟩) tw_1306 tw_1305 (zrm hR rfl rfl) dX11_fails_18 (zr_ifeq (tgt := 59) O dX11_fails_21 rfl B_59 (zr_iload_n O dX11_fails_24 rfl (zr_iconst (x := 0) O dX11_fails_25 rfl (zr_ldcw (x := (65536)) O dX11_fails_26 tw_1586 (zr_cI (zr_cS (n := 3) O m_X11_within (bn_X11_within _ ⟨rfl, rfl⟩) tw_1306 tw_1305 (zrm hR rfl rfl) dX11_fails_29 (zr_ifeq (tgt := 59) O dX11_fails_32 rfl B_59 (zr_iload_n O dX11_fails_35 rfl (zr_iconst (x := 1) O dX11_fails_36 rfl (zr_bipush (x := (60)) O dX11_fails_37 (by decide) (zr_cI (zr_cS (n := 3) O m_X11_within (bn_X11_within _ ⟨rfl, rfl⟩) tw_1306 tw_1305 (zrm hR rfl rfl) dX11_fails_39 (zr_ifeq (tgt := 59) O dX11_fails_42 rfl B_59 (zr_iload O dX11_fails_45 (zr_iconst (x := 0) O dX11_fails_47 rfl (zr_iconst (x := 2) O dX11_fails_48 rfl (zr_cI (zr_cS (n := 3) O m_X11_within (bn_X11_within _ ⟨rfl, rfl⟩) tw_1306 tw_1305 (zrm hR rfl rfl) dX11_fails_49 (zr_ifeq (tgt := 59) O dX11_fails_52 rfl B_59 (zr_iconst (x := 1) O dX11_fails_55 rfl (zr_goto (tgt := 60) O dX11_fails_56 rfl C_60)))))))))))))))))))))))))))))))))
  refine ⟨rfl, Nat.le_of_ble_eq_true rfl, _, B_0, ?_⟩
  refine ⟨(K, y), rfl, ⟨hE0, t0 h y⟩, fun d => ?_, fun d => ?_⟩
  · obtain ⟨g, e⟩ := kept_no d
    rw [e]
    exact ⟨(fq_rf 1 (fq_0 y h)).1, Or.inr (Or.inl ⟨g, (fq_rf 1 (fq_0 y h)).2, rfl⟩)⟩
  · obtain ⟨h0, e⟩ := kept_ok d
    rw [e]
    refine ⟨(te, -40, 125), rfl, trivial, fun d => ?_, fun d => ⟨(s, 0, 65536), rfl, trivial, fun f => ?_, fun f => ⟨(m, 1, 60), rfl, trivial, fun j => ?_, fun j => ⟨(w, 0, 2), rfl, trivial, fun k => ?_, fun k => ?_⟩⟩⟩⟩
    · have g := gno (p := -40 ≤ te ∧ te ≤ 125) d
      exact ⟨_, h0, rfl, by rw [decide_eq_false (fun z => g z.1)]; rfl, rfl, rfl⟩
    · have g := gno (p := 0 ≤ s ∧ s ≤ 65536) f
      exact ⟨_, h0, rfl, by rw [decide_eq_false (fun z => g z.2.1)]; rfl, rfl, rfl⟩
    · have g := gno (p := 1 ≤ m ∧ m ≤ 60) j
      exact ⟨_, h0, rfl, by rw [decide_eq_false (fun z => g z.2.2.1)]; rfl, rfl, rfl⟩
    · have g := gno (p := 0 ≤ w ∧ w ≤ 2) k
      exact ⟨_, h0, rfl, by rw [decide_eq_false (fun z => g z.2.2.2)]; rfl, rfl, rfl⟩
    · have g1 := gok (p := -40 ≤ te ∧ te ≤ 125) d
      have g2 := gok (p := 0 ≤ s ∧ s ≤ 65536) f
      have g3 := gok (p := 1 ≤ m ∧ m ≤ 60) j
      have g := gok (p := 0 ≤ w ∧ w ≤ 2) k
      exact ⟨_, h0, rfl, by rw [decide_eq_true ⟨g1, g2, g3, g⟩]; rfl, rfl, rfl⟩
def ca_X11_told : (zQ × Nat × Int32 × Nat × Nat) → List zV := fun (Q, y, w, c, tl) => [vR 20 0 y, vI w]
def cp_X11_told : (zQ × Nat × Int32 × Nat × Nat) → zH → Prop := fun (Q, y, w, c, tl) h => rmS Q.1 h y ∧ rmE Q.2.1 (h.1 (y + 2)) ∧ rmL Q.2.2 (h.1 (y + 2)) ∧ vS Q.1 ∧ h.1 y 9 = nI c ∧ h.1 y 17 = nI tl
def cq_X11_told : (zQ × Nat × Int32 × Nat × Nat) → zH → Option zV → zH → Prop := fun (Q, y, w, c, tl) h r h' => fq y h h' ∧ ((gR w 0 17 ∧ rok y h h' ∧ r = some (vI (tld Q c tl (cN w)))) ∨ (¬ gR w 0 17 ∧ rno y 1 1 h h' ∧ r = some (vI 0)))
theorem rc_X11_told : ∀ x : (zQ × Nat × Int32 × Nat × Nat), ∃ (j a : Nat) (As : List zV), ca_X11_told x = vR (10 + 10) j a :: As := by
  rintro ⟨⟨S, K, M⟩, y, w, c, tl⟩
  exact ⟨_, _, _, rfl⟩
set_option maxHeartbeats 4000000 in
set_option maxRecDepth 100000 in
theorem m_X11_told : zM yX11_told cX11_told 3 (some .int) ({ frames := 10, cells := 0, slots := 0, locals := 218 } : Room) ((ca_X11_told, cp_X11_told, cq_X11_told) : zC (zQ × Nat × Int32 × Nat × Nat)) := by
  refine zM_of (by decide) ?_
  rintro X Y ⟨⟨S, K, M⟩, y, w, c, tl⟩ h ⟨hS, hE, hL, hv, hc, ht⟩ O E hR
  have hS : rmS S h y := hS
  have hE : rmE K (h.1 (y + 2)) := hE
  have hL : rmL M (h.1 (y + 2)) := hL
  have hv : vS S := hv
  have hS0 := rmS_0 hS
  have hE0 : rmE K ((zsI h y 0 0).1 (y + 2)) := by rw [m_0 _ _ (by omega)]; exact hE
  have hL0 : rmL M ((zsI h y 0 0).1 (y + 2)) := by rw [m_0 _ _ (by omega)]; exact hL
  have hc : (zsI h y 0 0).1 y 9 = nI c := (zsI_at _ _ _ _ _ (by decide)).trans hc
  have ht : (zsI h y 0 0).1 y 17 = nI tl := (zsI_at _ _ _ _ _ (by decide)).trans ht
  have h28 := hE.2.1.1
  have B_238 := zr_aload_n (X := X) (Y := Y) (u := 0) (v := 0) O dX11_told_238 rfl (zr_gS (ci := 10) (j := 2) (off := 2) (t := 1) (n := 218) O zc_10 (by decide) rfl tw_1189 dX11_told_239 (zr_iload_n O dX11_told_242 rfl (zr_bipush (x := (6)) O dX11_told_243 (by decide) (zr_isub O dX11_told_245 (zr_iald O dX11_told_246 (zr_ireturn O E (Nat.le_refl _) (Nat.le_refl _) dX11_told_247))))))
  have B_237 := zr_ireturn (X := X) (Y := Y) (u := 0) (v := 0) O E (Nat.le_refl _) (Nat.le_refl _) dX11_told_237
  have B_230 := zr_aload_n (X := X) (Y := Y) (u := 0) (v := 0) O dX11_told_230 rfl (zr_gS (ci := 10) (j := 2) (off := 2) (t := 1) (n := 218) O zc_10 (by decide) rfl tw_1189 dX11_told_231 (zr_bipush (x := (48)) O dX11_told_234 (by decide) (zr_iald O dX11_told_236 (B_237))))
  have B_222 := zr_iload_n (X := X) (Y := Y) (u := 0) (v := 0) O dX11_told_222 rfl (zr_ifeq (tgt := 230) O dX11_told_223 rfl B_230 (zr_iconst (x := (-1)) O dX11_told_226 rfl (zr_goto (tgt := 237) O dX11_told_227 rfl B_237)))
  have B_221 := zr_ireturn (X := X) (Y := Y) (u := 0) (v := 0) O E (Nat.le_refl _) (Nat.le_refl _) dX11_told_221
  have B_214 := zr_aload_n (X := X) (Y := Y) (u := 0) (v := 0) O dX11_told_214 rfl (zr_gS (ci := 10) (j := 2) (off := 2) (t := 1) (n := 218) O zc_10 (by decide) rfl tw_1189 dX11_told_215 (zr_bipush (x := (47)) O dX11_told_218 (by decide) (zr_iald O dX11_told_220 (B_221))))
  have B_206 := zr_iload_n (X := X) (Y := Y) (u := 0) (v := 0) O dX11_told_206 rfl (zr_ifeq (tgt := 214) O dX11_told_207 rfl B_214 (zr_iconst (x := (-1)) O dX11_told_210 rfl (zr_goto (tgt := 221) O dX11_told_211 rfl B_221)))
  have B_205 := zr_ireturn (X := X) (Y := Y) (u := 0) (v := 0) O E (Nat.le_refl _) (Nat.le_refl _) dX11_told_205
  have B_201 := zr_aload_n (X := X) (Y := Y) (u := 0) (v := 0) O dX11_told_201 rfl (zr_cI (zr_cV (ci := 10) (n := 0) O m_X11_keptBits (bn_X11_keptBits _ ⟨rfl, rfl⟩) vw_X11_keptBits tw_1499 rc_X11_keptBits (zrm hR rfl rfl) dX11_told_202 (B_205)))
  have B_193 := zr_iload_n (X := X) (Y := Y) (u := 0) (v := 0) O dX11_told_193 rfl (zr_ifeq (tgt := 201) O dX11_told_194 rfl B_201 (zr_iconst (x := (-1)) O dX11_told_197 rfl (zr_goto (tgt := 205) O dX11_told_198 rfl B_205)))
  have B_192 := zr_ireturn (X := X) (Y := Y) (u := 0) (v := 0) O E (Nat.le_refl _) (Nat.le_refl _) dX11_told_192
  have B_185 := zr_aload_n (X := X) (Y := Y) (u := 0) (v := 0) O dX11_told_185 rfl (zr_gS (ci := 10) (j := 2) (off := 2) (t := 1) (n := 218) O zc_10 (by decide) rfl tw_1189 dX11_told_186 (zr_bipush (x := (45)) O dX11_told_189 (by decide) (zr_iald O dX11_told_191 (B_192))))
  have B_177 := zr_iload_n (X := X) (Y := Y) (u := 0) (v := 0) O dX11_told_177 rfl (zr_ifeq (tgt := 185) O dX11_told_178 rfl B_185 (zr_iconst (x := (-1)) O dX11_told_181 rfl (zr_goto (tgt := 192) O dX11_told_182 rfl B_192)))
  have B_168 := zr_aload_n (X := X) (Y := Y) (u := 0) (v := 0) O dX11_told_168 rfl (zr_gS (ci := 10) (j := 2) (off := 2) (t := 1) (n := 218) O zc_10 (by decide) rfl tw_1189 dX11_told_169 (zr_sipush (x := (161)) O dX11_told_172 (by decide) (zr_iald O dX11_told_175 (zr_ireturn O E (Nat.le_refl _) (Nat.le_refl _) dX11_told_176))))
  have B_163 := zr_aload_n (X := X) (Y := Y) (u := 0) (v := 0) O dX11_told_163 rfl (zr_gI (ci := 10) (j := 17) O zc_10 (by decide) rfl tw_1204 dX11_told_164 (zr_ireturn O E (Nat.le_refl _) (Nat.le_refl _) dX11_told_167))
  have B_158 := zr_aload_n (X := X) (Y := Y) (u := 0) (v := 0) O dX11_told_158 rfl (zr_gI (ci := 10) (j := 9) O zc_10 (by decide) rfl tw_1196 dX11_told_159 (zr_ireturn O E (Nat.le_refl _) (Nat.le_refl _) dX11_told_162))
  have B_153 := zr_aload_n (X := X) (Y := Y) (u := 0) (v := 0) O dX11_told_153 rfl (zr_cV (ci := 10) (n := 0) O m_X11_secretBits (bn_X11_secretBits _ ⟨rfl, rfl⟩) vw_X11_secretBits tw_1444 rc_X11_secretBits (zrm hR rfl rfl) dX11_told_154 (zr_ireturn O E (Nat.le_refl _) (Nat.le_refl _) dX11_told_157))
  have B_148 := zr_aload_n (X := X) (Y := Y) (u := 0) (v := 0) O dX11_told_148 rfl (zr_cV (ci := 10) (n := 0) O m_X11_blocks (bn_X11_blocks _ ⟨rfl, rfl⟩) vw_X11_blocks tw_1391 rc_X11_blocks (zrm hR rfl rfl) dX11_told_149 (zr_ireturn O E (Nat.le_refl _) (Nat.le_refl _) dX11_told_152))
  have B_143 := zr_aload_n (X := X) (Y := Y) (u := 0) (v := 0) O dX11_told_143 rfl (zr_cV (ci := 10) (n := 0) O m_X11_usedNow (bn_X11_usedNow _ ⟨rfl, rfl⟩) vw_X11_usedNow tw_1395 rc_X11_usedNow (zrm hR rfl rfl) dX11_told_144 (zr_ireturn O E (Nat.le_refl _) (Nat.le_refl _) dX11_told_147))
  have B_138 := zr_aload_n (X := X) (Y := Y) (u := 0) (v := 0) O dX11_told_138 rfl (zr_cI (zr_cV (ci := 10) (n := 0) O m_X11_steadyMany (bn_X11_steadyMany _ ⟨rfl, rfl⟩) vw_X11_steadyMany tw_1495 rc_X11_steadyMany (zrm hR rfl rfl) dX11_told_139 (zr_ireturn O E (Nat.le_refl _) (Nat.le_refl _) dX11_told_142)))
  have B_133 := zr_aload_n (X := X) (Y := Y) (u := 0) (v := 0) O dX11_told_133 rfl (zr_gI (ci := 10) (j := 11) O zc_10 (by decide) rfl tw_1198 dX11_told_134 (zr_ireturn O E (Nat.le_refl _) (Nat.le_refl _) dX11_told_137))
  have B_128 := zr_aload_n (X := X) (Y := Y) (u := 0) (v := 0) O dX11_told_128 rfl (zr_gI (ci := 10) (j := 10) O zc_10 (by decide) rfl tw_1197 dX11_told_129 (zr_ireturn O E (Nat.le_refl _) (Nat.le_refl _) dX11_told_132))
  have B_38 := zr_istore_n (X := X) (Y := Y) (u := 0) (v := 0) O dX11_told_38 rfl (zr_iload_n O dX11_told_39 rfl (zr_switch2 (tgt := 238) (ks := [_, _, _, _, _, _, _, _, _, _, _, _, _, _, _, _, _, _]) O dX11_told_40 rfl rfl B_238 ⟨⟨_, 128, rfl, rfl, B_128⟩, ⟨_, 133, rfl, rfl, B_133⟩, ⟨_, 138, rfl, rfl, B_138⟩, ⟨_, 143, rfl, rfl, B_143⟩, ⟨_, 148, rfl, rfl, B_148⟩, ⟨_, 153, rfl, rfl, B_153⟩, ⟨_, 238, rfl, rfl, B_238⟩, ⟨_, 238, rfl, rfl, B_238⟩, ⟨_, 238, rfl, rfl, B_238⟩, ⟨_, 238, rfl, rfl, B_238⟩, ⟨_, 238, rfl, rfl, B_238⟩, ⟨_, 158, rfl, rfl, B_158⟩, ⟨_, 163, rfl, rfl, B_163⟩, ⟨_, 168, rfl, rfl, B_168⟩, ⟨_, 177, rfl, rfl, B_177⟩, ⟨_, 193, rfl, rfl, B_193⟩, ⟨_, 206, rfl, rfl, B_206⟩, ⟨_, 222, rfl, rfl, B_222⟩, trivial⟩))
  have C_38 : zSd X Y 0 0 38 (fun ls st h1 => ∃ v : Int32, gR w 0 17 ∧ ls = [some (vR 20 0 y), some (vI w), none] ∧ v = bI (decide (eN K = 0)) ∧ st = [vI v] ∧ h1 = zsI h y 0 0) := by
    refine zSd_weak B_38 (fun ls st h1 t => ?_)
    obtain ⟨v, g1, rfl, rfl, rfl, rfl⟩ := t
    obtain ⟨q, rfl, hq, eq⟩ := rngx (n := 17) (by decide) g1
    have ewt : (nI q).toInt = q := nI_toInt (by omega)
    have fin : ∀ (v : Int32) (h2 : zH), v = tld (S, K, M) c tl q → fm y (zsI h y 0 0) h2 → fq y h h2 ∧ ((gR (nI q) 0 17 ∧ rok y h h2 ∧ some (vI v) = some (vI (tld (S, K, M) c tl (cN (nI q))))) ∨ (¬ gR (nI q) 0 17 ∧ rno y 1 1 h h2 ∧ some (vI v) = some (vI 0))) := fun v h2 e f => ⟨(fq_fm (fq_0 y h) f).1, Or.inl ⟨g1, (fq_fm (fq_0 y h) f).2, by rw [eq, e]⟩⟩
    have f0 := fm_r y (zsI h y 0 0)
    have dflt : 6 ≤ q → q ≤ 10 → ∃ j : Nat, nI q - 6 = nI j ∧ j < 218 ∧ (fq y h (zsI h y 0 0) ∧ ((gR (nI q) 0 17 ∧ rok y h (zsI h y 0 0) ∧ some (vI ((zsI h y 0 0).1 (y + 2) j)) = some (vI (tld (S, K, M) c tl (cN (nI q))))) ∨ (¬ gR (nI q) 0 17 ∧ rno y 1 1 h (zsI h y 0 0) ∧ some (vI ((zsI h y 0 0).1 (y + 2) j)) = some (vI 0)))) := by
      intro q1 q2
      refine ⟨q - 6, nI_sub q1, by omega, fin _ _ ?_ f0⟩
      rw [tld, if_neg (by omega), if_neg (by omega), if_neg (by omega), if_neg (by omega), if_neg (by omega), if_neg (by omega), if_pos (by omega)]
      exact hS0.2.2.2.2 _ (by omega)
    have et : 14 ≤ q → tld (S, K, M) c tl q = tle K q := by
      intro z
      rw [tld, if_neg (by omega), if_neg (by omega), if_neg (by omega), if_neg (by omega), if_neg (by omega), if_neg (by omega), if_neg (by omega), if_neg (by omega), if_neg (by omega), if_neg (by omega)]
    have e0 : ∀ d : ¬ bI (decide (eN K = 0)) = 0, 14 ≤ q → (-1 : Int32) = tld (S, K, M) c tl q := by
      intro d z
      rw [et z]
      have := gok d
      rw [tle, if_pos (by omega)]
    refine zsw_of ⟨fun e => ?_, fun e => ?_, fun e => ?_, fun e => ?_, fun e => ?_, fun e => ?_, fun e => ?_, fun e => ?_, fun e => ?_, fun e => ?_, fun e => ?_, fun e => ?_, fun e => ?_, fun e => ?_, fun e => ?_, fun e => ?_, fun e => ?_, fun e => ?_, trivial⟩ (fun e => ?_)
    · have e : q = 0 := by omega
      refine fin _ _ ?_ f0
      rw [tld, if_pos e]; exact hS0.1.1
    · have e : q = 1 := by omega
      refine fin _ _ ?_ f0
      rw [tld, if_neg (by omega), if_pos e]; exact hS0.2.1.1
    · have e : q = 2 := by omega
      refine ⟨(S, y), rfl, ⟨hS0, hv⟩, fin _ _ ?_ f0⟩
      rw [tld, if_neg (by omega), if_neg (by omega), if_pos e]; rfl
    · have e : q = 3 := by omega
      refine ⟨(S, y), rfl, ⟨hS0, hv⟩, fun r h2 hq => ?_⟩
      obtain ⟨rfl, u, e2, -⟩ := hq
      replace e2 : h2 = zsW (zsI h y 0 0) (y + 9) u := e2
      refine fin _ _ ?_ (by rw [e2]; exact fm_W (j := 9) _ _ (by decide))
      rw [tld, if_neg (by omega), if_neg (by omega), if_neg (by omega), if_pos e]
    · have e : q = 4 := by omega
      refine ⟨(S, y), rfl, ⟨hS0, hv⟩, fun r h2 hq => ?_⟩
      obtain ⟨rfl, u, e2, -⟩ := hq
      replace e2 : h2 = zsW (zsI h y 0 0) (y + 9) u := e2
      refine fin _ _ ?_ (by rw [e2]; exact fm_W (j := 9) _ _ (by decide))
      rw [tld, if_neg (by omega), if_neg (by omega), if_neg (by omega), if_neg (by omega), if_pos e]
    · have e : q = 5 := by omega
      refine ⟨(S, y), rfl, ⟨hS0, hv⟩, fun r h2 hq => ?_⟩
      obtain ⟨rfl, u, e2, -⟩ := hq
      replace e2 : h2 = zsW (zsI h y 0 0) (y + 9) u := e2
      refine fin _ _ ?_ (by rw [e2]; exact fm_W (j := 9) _ _ (by decide))
      rw [tld, if_neg (by omega), if_neg (by omega), if_neg (by omega), if_neg (by omega), if_neg (by omega), if_pos e]
    · exact dflt (by omega) (by omega)
    · exact dflt (by omega) (by omega)
    · exact dflt (by omega) (by omega)
    · exact dflt (by omega) (by omega)
    · exact dflt (by omega) (by omega)
    · have e : q = 11 := by omega
      refine fin _ _ ?_ f0
      rw [tld, if_neg (by omega), if_neg (by omega), if_neg (by omega), if_neg (by omega), if_neg (by omega), if_neg (by omega), if_neg (by omega), if_pos e]; exact hc
    · have e : q = 12 := by omega
      refine fin _ _ ?_ f0
      rw [tld, if_neg (by omega), if_neg (by omega), if_neg (by omega), if_neg (by omega), if_neg (by omega), if_neg (by omega), if_neg (by omega), if_neg (by omega), if_pos e]; exact ht
    · have e : q = 13 := by omega
      refine ⟨161, rfl, by decide, fin _ _ ?_ f0⟩
      rw [tld, if_neg (by omega), if_neg (by omega), if_neg (by omega), if_neg (by omega), if_neg (by omega), if_neg (by omega), if_neg (by omega), if_neg (by omega), if_neg (by omega), if_pos e]; exact hL0.1.1
    · have e : q = 14 := by omega
      refine ⟨fun d => ⟨45, rfl, by decide, fin _ _ ?_ f0⟩, fun d => fin _ _ (e0 d (by omega)) f0⟩
      have := gno d
      rw [et (by omega), tle, if_neg this, if_pos e]; exact hE0.1
    · have e : q = 15 := by omega
      refine ⟨fun d => ?_, fun d => fin _ _ (e0 d (by omega)) f0⟩
      have := gno d
      refine ⟨(K, y), rfl, ⟨hE0, by show 0 < eN K; omega⟩, fin _ _ ?_ f0⟩
      rw [et (by omega), tle, if_neg this, if_neg (by omega), if_pos e]; rfl
    · have e : q = 16 := by omega
      refine ⟨fun d => ⟨47, rfl, by decide, fin _ _ ?_ f0⟩, fun d => fin _ _ (e0 d (by omega)) f0⟩
      have := gno d
      rw [et (by omega), tle, if_neg this, if_neg (by omega), if_neg (by omega), if_pos e]; exact (hE0.2.2 (by omega)).1.2.1
    · have e : q = 17 := by omega
      refine ⟨fun d => ⟨48, rfl, by decide, fin _ _ ?_ f0⟩, fun d => fin _ _ (e0 d (by omega)) f0⟩
      have := gno d
      rw [et (by omega), tle, if_neg this, if_neg (by omega), if_neg (by omega), if_neg (by omega)]; exact (hE0.2.2 (by omega)).1.2.2
    · have e : (nI q).toInt < 0 ∨ (0 : Int) + 18 ≤ (nI q).toInt := e
      omega
  have B_37 := zr_iconst (X := X) (Y := Y) (u := 0) (v := 0) (x := 0) O dX11_told_37 rfl (C_38)
  have B_23 := zr_aload_n (X := X) (Y := Y) (u := 0) (v := 0) O dX11_told_23 rfl (zr_gS (ci := 10) (j := 2) (off := 2) (t := 1) (n := 218) O zc_10 (by decide) rfl tw_1189 dX11_told_24 (zr_bipush (x := (45)) O dX11_told_27 (by decide) (zr_iald O dX11_told_29 (zr_ifne (tgt := 37) O dX11_told_30 rfl B_37 (zr_iconst (x := 1) O dX11_told_33 rfl (zr_goto (tgt := 38) O dX11_told_34 rfl C_38))))))
  have B_0 := zr_aload_n (X := X) (Y := Y) (u := 0) (v := 0) O dX11_told_0 rfl (zr_iconst (x := 0) O dX11_told_1 rfl (zr_pI (ci := 10) (j := 0) O zc_10 (by decide) rfl rfl rfl tw_1187 dX11_told_2 (zr_aload_n O dX11_told_5 rfl (zr_iload_n O dX11_told_6 rfl (zr_iconst (x := 0) O dX11_told_7 rfl (zr_bipush (x := (17)) O dX11_told_8 (by decide) (zr_cI (zr_cS (n := 3) O m_X11_within (bn_X11_within _ ⟨rfl, rfl⟩) tw_1306 tw_1305 (zrm hR rfl rfl) dX11_told_10 (zr_iconst (x := 1) O dX11_told_13 rfl (zr_iconst (x := 1) O dX11_told_14 rfl (zr_cH (zr_cV (ci := 10) (n := 3) O m_X11_isFine (bn_X11_isFine _ ⟨rfl, rfl⟩) vw_X11_isFine tw_1308 rc_X11_isFine (zrm hR rfl rfl) dX11_told_15 (zr_ifne (tgt := 23) O dX11_told_18 rfl B_23 (zr_iconst (x := 0) O dX11_told_21 rfl (zr_ireturn O E (Nat.le_refl _) (Nat.le_refl _) dX11_told_22)))))))))))))))
  refine ⟨rfl, Nat.le_of_ble_eq_true rfl, _, B_0, ?_⟩
  refine ⟨(w, 0, 17), rfl, trivial, (y, decide (0 ≤ w ∧ w ≤ 17), 1, 1), rfl, ⟨by decide, by decide⟩, fun d => ?_, fun d => ?_⟩
  · obtain ⟨g2, e⟩ := fine_ok (t0 h y) d
    rw [e]
    refine ⟨45, rfl, by decide, fun c => ⟨_, g2, rfl, ?_, rfl, rfl⟩, fun c => ⟨_, g2, rfl, ?_, rfl, rfl⟩⟩
    · rw [hE0.1] at c
      rw [decide_eq_false (fun z => c (by rw [z]; rfl))]; rfl
    · rw [hE0.1] at c
      rw [decide_eq_true ((nI_eq (b := 0) (by omega) (by omega)).mp c)]; rfl
  · obtain ⟨g2, e⟩ := fine_no (t0 h y) d
    rw [e]
    exact ⟨(fq_rf 1 (fq_0 y h)).1, Or.inr ⟨g2, (fq_rf 1 (fq_0 y h)).2, rfl⟩⟩

