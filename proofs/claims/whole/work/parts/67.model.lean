theorem dX11_enrol_227 : decode cX11_enrol 227 = .ok (.aload_n 0, 1) := by decide +kernel
theorem dX11_enrol_228 : decode cX11_enrol 228 = .ok (.getfield 17, 3) := by decide +kernel
theorem dX11_enrol_231 : decode cX11_enrol 231 = .ok (.bipush 45, 2) := by decide +kernel
theorem dX11_enrol_233 : decode cX11_enrol 233 = .ok (.iload_n 2, 1) := by decide +kernel
theorem dX11_enrol_234 : decode cX11_enrol 234 = .ok (.iload 4, 2) := by decide +kernel
theorem dX11_enrol_236 : decode cX11_enrol 236 = .ok (.imul, 1) := by decide +kernel
theorem dX11_enrol_237 : decode cX11_enrol 237 = .ok (.iastore, 1) := by decide +kernel
theorem dX11_enrol_238 : decode cX11_enrol 238 = .ok (.aload_n 0, 1) := by decide +kernel
theorem dX11_enrol_239 : decode cX11_enrol 239 = .ok (.getfield 17, 3) := by decide +kernel
theorem dX11_enrol_242 : decode cX11_enrol 242 = .ok (.bipush 46, 2) := by decide +kernel
theorem dX11_enrol_244 : decode cX11_enrol 244 = .ok (.iload_n 3, 1) := by decide +kernel
theorem dX11_enrol_245 : decode cX11_enrol 245 = .ok (.iastore, 1) := by decide +kernel
theorem dX11_enrol_246 : decode cX11_enrol 246 = .ok (.aload_n 0, 1) := by decide +kernel
theorem dX11_enrol_247 : decode cX11_enrol 247 = .ok (.getfield 17, 3) := by decide +kernel
theorem dX11_enrol_250 : decode cX11_enrol 250 = .ok (.bipush 47, 2) := by decide +kernel
theorem dX11_enrol_252 : decode cX11_enrol 252 = .ok (.iload_n 1, 1) := by decide +kernel
theorem dX11_enrol_253 : decode cX11_enrol 253 = .ok (.iastore, 1) := by decide +kernel
theorem dX11_enrol_254 : decode cX11_enrol 254 = .ok (.aload_n 0, 1) := by decide +kernel
theorem dX11_enrol_255 : decode cX11_enrol 255 = .ok (.getfield 17, 3) := by decide +kernel
theorem dX11_enrol_258 : decode cX11_enrol 258 = .ok (.bipush 48, 2) := by decide +kernel
theorem dX11_enrol_260 : decode cX11_enrol 260 = .ok (.iload_n 1, 1) := by decide +kernel
theorem dX11_enrol_261 : decode cX11_enrol 261 = .ok (.iload_n 2, 1) := by decide +kernel
theorem dX11_enrol_262 : decode cX11_enrol 262 = .ok (.iload 5, 2) := by decide +kernel
theorem dX11_enrol_264 : decode cX11_enrol 264 = .ok (.imul, 1) := by decide +kernel
theorem dX11_enrol_265 : decode cX11_enrol 265 = .ok (.invokestatic 248, 3) := by decide +kernel
theorem dX11_enrol_268 : decode cX11_enrol 268 = .ok (.iastore, 1) := by decide +kernel
theorem dX11_enrol_269 : decode cX11_enrol 269 = .ok (.iload_n 2, 1) := by decide +kernel
theorem dX11_enrol_270 : decode cX11_enrol 270 = .ok (.ireturn, 1) := by decide +kernel
theorem dX11_enrol_221 : decode cX11_enrol 221 = .ok (.iinc 6 1, 3) := by decide +kernel
theorem dX11_enrol_224 : decode cX11_enrol 224 = .ok (.goto (-141), 3) := by decide +kernel
theorem dX11_enrol_111 : decode cX11_enrol 111 = .ok (.iload 7, 2) := by decide +kernel
theorem dX11_enrol_113 : decode cX11_enrol 113 = .ok (.iload 4, 2) := by decide +kernel
theorem dX11_enrol_115 : decode cX11_enrol 115 = .ok (.if_icmp .ge 106, 3) := by decide +kernel
theorem dX11_enrol_118 : decode cX11_enrol 118 = .ok (.iload 4, 2) := by decide +kernel
theorem dX11_enrol_120 : decode cX11_enrol 120 = .ok (.iload 6, 2) := by decide +kernel
theorem dX11_enrol_122 : decode cX11_enrol 122 = .ok (.imul, 1) := by decide +kernel
theorem dX11_enrol_123 : decode cX11_enrol 123 = .ok (.iload 7, 2) := by decide +kernel
theorem dX11_enrol_125 : decode cX11_enrol 125 = .ok (.iadd, 1) := by decide +kernel
theorem dX11_enrol_126 : decode cX11_enrol 126 = .ok (.istore 8, 2) := by decide +kernel
theorem dX11_enrol_128 : decode cX11_enrol 128 = .ok (.aload_n 0, 1) := by decide +kernel
theorem dX11_enrol_129 : decode cX11_enrol 129 = .ok (.getfield 17, 3) := by decide +kernel
theorem dX11_enrol_132 : decode cX11_enrol 132 = .ok (.bipush 49, 2) := by decide +kernel
theorem dX11_enrol_134 : decode cX11_enrol 134 = .ok (.iload 8, 2) := by decide +kernel
theorem dX11_enrol_136 : decode cX11_enrol 136 = .ok (.iadd, 1) := by decide +kernel
theorem dX11_enrol_137 : decode cX11_enrol 137 = .ok (.aload_n 0, 1) := by decide +kernel
theorem dX11_enrol_138 : decode cX11_enrol 138 = .ok (.getfield 38, 3) := by decide +kernel
theorem dX11_enrol_141 : decode cX11_enrol 141 = .ok (.iload 8, 2) := by decide +kernel
theorem dX11_enrol_143 : decode cX11_enrol 143 = .ok (.iaload, 1) := by decide +kernel
theorem dX11_enrol_144 : decode cX11_enrol 144 = .ok (.iastore, 1) := by decide +kernel
theorem dX11_enrol_145 : decode cX11_enrol 145 = .ok (.aload_n 0, 1) := by decide +kernel
theorem dX11_enrol_146 : decode cX11_enrol 146 = .ok (.getfield 17, 3) := by decide +kernel
theorem dX11_enrol_149 : decode cX11_enrol 149 = .ok (.bipush 77, 2) := by decide +kernel
theorem dX11_enrol_151 : decode cX11_enrol 151 = .ok (.iload 8, 2) := by decide +kernel
theorem dX11_enrol_153 : decode cX11_enrol 153 = .ok (.iadd, 1) := by decide +kernel
theorem dX11_enrol_154 : decode cX11_enrol 154 = .ok (.aload_n 0, 1) := by decide +kernel
theorem dX11_enrol_155 : decode cX11_enrol 155 = .ok (.aload_n 0, 1) := by decide +kernel
theorem dX11_enrol_156 : decode cX11_enrol 156 = .ok (.getfield 38, 3) := by decide +kernel
theorem dX11_enrol_159 : decode cX11_enrol 159 = .ok (.iload 8, 2) := by decide +kernel
theorem dX11_enrol_161 : decode cX11_enrol 161 = .ok (.iaload, 1) := by decide +kernel
theorem dX11_enrol_162 : decode cX11_enrol 162 = .ok (.invokevirtual 85, 3) := by decide +kernel
theorem dX11_enrol_165 : decode cX11_enrol 165 = .ok (.iastore, 1) := by decide +kernel
theorem dX11_enrol_166 : decode cX11_enrol 166 = .ok (.aload_n 0, 1) := by decide +kernel
theorem dX11_enrol_167 : decode cX11_enrol 167 = .ok (.getfield 17, 3) := by decide +kernel
theorem dX11_enrol_170 : decode cX11_enrol 170 = .ok (.bipush 105, 2) := by decide +kernel
theorem dX11_enrol_172 : decode cX11_enrol 172 = .ok (.iload 8, 2) := by decide +kernel
theorem dX11_enrol_174 : decode cX11_enrol 174 = .ok (.iadd, 1) := by decide +kernel
theorem dX11_enrol_175 : decode cX11_enrol 175 = .ok (.aload_n 0, 1) := by decide +kernel
theorem dX11_enrol_176 : decode cX11_enrol 176 = .ok (.getfield 17, 3) := by decide +kernel
theorem dX11_enrol_179 : decode cX11_enrol 179 = .ok (.bipush 77, 2) := by decide +kernel
theorem dX11_enrol_181 : decode cX11_enrol 181 = .ok (.iload 8, 2) := by decide +kernel
theorem dX11_enrol_183 : decode cX11_enrol 183 = .ok (.iadd, 1) := by decide +kernel
theorem dX11_enrol_184 : decode cX11_enrol 184 = .ok (.iaload, 1) := by decide +kernel
theorem dX11_enrol_185 : decode cX11_enrol 185 = .ok (.aload_n 0, 1) := by decide +kernel
theorem dX11_enrol_186 : decode cX11_enrol 186 = .ok (.getfield 44, 3) := by decide +kernel
theorem dX11_enrol_189 : decode cX11_enrol 189 = .ok (.iload 7, 2) := by decide +kernel
theorem dX11_enrol_191 : decode cX11_enrol 191 = .ok (.iaload, 1) := by decide +kernel
theorem dX11_enrol_192 : decode cX11_enrol 192 = .ok (.ixor, 1) := by decide +kernel
theorem dX11_enrol_193 : decode cX11_enrol 193 = .ok (.iastore, 1) := by decide +kernel
theorem dX11_enrol_194 : decode cX11_enrol 194 = .ok (.aload_n 0, 1) := by decide +kernel
theorem dX11_enrol_195 : decode cX11_enrol 195 = .ok (.getfield 17, 3) := by decide +kernel
theorem dX11_enrol_198 : decode cX11_enrol 198 = .ok (.sipush 133, 3) := by decide +kernel
theorem dX11_enrol_201 : decode cX11_enrol 201 = .ok (.iload 8, 2) := by decide +kernel
theorem dX11_enrol_203 : decode cX11_enrol 203 = .ok (.iadd, 1) := by decide +kernel
theorem dX11_enrol_204 : decode cX11_enrol 204 = .ok (.aload_n 0, 1) := by decide +kernel
theorem dX11_enrol_205 : decode cX11_enrol 205 = .ok (.getfield 17, 3) := by decide +kernel
theorem dX11_enrol_208 : decode cX11_enrol 208 = .ok (.bipush 105, 2) := by decide +kernel
theorem dX11_enrol_210 : decode cX11_enrol 210 = .ok (.iload 8, 2) := by decide +kernel
theorem dX11_enrol_212 : decode cX11_enrol 212 = .ok (.iadd, 1) := by decide +kernel
theorem dX11_enrol_213 : decode cX11_enrol 213 = .ok (.iaload, 1) := by decide +kernel
theorem dX11_enrol_214 : decode cX11_enrol 214 = .ok (.iastore, 1) := by decide +kernel
theorem dX11_enrol_215 : decode cX11_enrol 215 = .ok (.iinc 7 1, 3) := by decide +kernel
theorem dX11_enrol_218 : decode cX11_enrol 218 = .ok (.goto (-107), 3) := by decide +kernel
theorem dX11_enrol_83 : decode cX11_enrol 83 = .ok (.iload 6, 2) := by decide +kernel
theorem dX11_enrol_85 : decode cX11_enrol 85 = .ok (.iload_n 2, 1) := by decide +kernel
theorem dX11_enrol_86 : decode cX11_enrol 86 = .ok (.if_icmp .ge 141, 3) := by decide +kernel
theorem dX11_enrol_89 : decode cX11_enrol 89 = .ok (.aload_n 0, 1) := by decide +kernel
theorem dX11_enrol_90 : decode cX11_enrol 90 = .ok (.iload_n 3, 1) := by decide +kernel
theorem dX11_enrol_91 : decode cX11_enrol 91 = .ok (.iload_n 1, 1) := by decide +kernel
theorem dX11_enrol_92 : decode cX11_enrol 92 = .ok (.iload 5, 2) := by decide +kernel
theorem dX11_enrol_94 : decode cX11_enrol 94 = .ok (.iload 6, 2) := by decide +kernel
theorem dX11_enrol_96 : decode cX11_enrol 96 = .ok (.imul, 1) := by decide +kernel
theorem dX11_enrol_97 : decode cX11_enrol 97 = .ok (.ishr, 1) := by decide +kernel
theorem dX11_enrol_98 : decode cX11_enrol 98 = .ok (.iconst 1, 1) := by decide +kernel
theorem dX11_enrol_99 : decode cX11_enrol 99 = .ok (.iload 5, 2) := by decide +kernel
theorem dX11_enrol_101 : decode cX11_enrol 101 = .ok (.ishl, 1) := by decide +kernel
theorem dX11_enrol_102 : decode cX11_enrol 102 = .ok (.iconst 1, 1) := by decide +kernel
theorem dX11_enrol_103 : decode cX11_enrol 103 = .ok (.isub, 1) := by decide +kernel
theorem dX11_enrol_104 : decode cX11_enrol 104 = .ok (.iand, 1) := by decide +kernel
theorem dX11_enrol_105 : decode cX11_enrol 105 = .ok (.invokevirtual 245, 3) := by decide +kernel
theorem dX11_enrol_108 : decode cX11_enrol 108 = .ok (.iconst 0, 1) := by decide +kernel
theorem dX11_enrol_109 : decode cX11_enrol 109 = .ok (.istore 7, 2) := by decide +kernel
theorem dX11_enrol_52 : decode cX11_enrol 52 = .ok (.aload_n 0, 1) := by decide +kernel
theorem dX11_enrol_53 : decode cX11_enrol 53 = .ok (.invokevirtual 233, 3) := by decide +kernel
theorem dX11_enrol_56 : decode cX11_enrol 56 = .ok (.aload_n 0, 1) := by decide +kernel
theorem dX11_enrol_57 : decode cX11_enrol 57 = .ok (.getfield 17, 3) := by decide +kernel
theorem dX11_enrol_60 : decode cX11_enrol 60 = .ok (.iconst 4, 1) := by decide +kernel
theorem dX11_enrol_61 : decode cX11_enrol 61 = .ok (.iaload, 1) := by decide +kernel
theorem dX11_enrol_62 : decode cX11_enrol 62 = .ok (.istore_n 3, 1) := by decide +kernel
theorem dX11_enrol_63 : decode cX11_enrol 63 = .ok (.iload_n 3, 1) := by decide +kernel
theorem dX11_enrol_64 : decode cX11_enrol 64 = .ok (.invokestatic 114, 3) := by decide +kernel
theorem dX11_enrol_67 : decode cX11_enrol 67 = .ok (.istore 4, 2) := by decide +kernel
theorem dX11_enrol_69 : decode cX11_enrol 69 = .ok (.iload_n 3, 1) := by decide +kernel
theorem dX11_enrol_70 : decode cX11_enrol 70 = .ok (.invokestatic 117, 3) := by decide +kernel
theorem dX11_enrol_73 : decode cX11_enrol 73 = .ok (.istore 5, 2) := by decide +kernel
theorem dX11_enrol_75 : decode cX11_enrol 75 = .ok (.aload_n 0, 1) := by decide +kernel
theorem dX11_enrol_76 : decode cX11_enrol 76 = .ok (.invokevirtual 120, 3) := by decide +kernel
theorem dX11_enrol_79 : decode cX11_enrol 79 = .ok (.pop, 1) := by decide +kernel
theorem dX11_enrol_80 : decode cX11_enrol 80 = .ok (.iconst 0, 1) := by decide +kernel
theorem dX11_enrol_81 : decode cX11_enrol 81 = .ok (.istore 6, 2) := by decide +kernel
theorem dX11_enrol_50 : decode cX11_enrol 50 = .ok (.iconst 0, 1) := by decide +kernel
theorem dX11_enrol_51 : decode cX11_enrol 51 = .ok (.ireturn, 1) := by decide +kernel
theorem dX11_enrol_20 : decode cX11_enrol 20 = .ok (.iconst 2, 1) := by decide +kernel
theorem dX11_enrol_21 : decode cX11_enrol 21 = .ok (.iconst 2, 1) := by decide +kernel
theorem dX11_enrol_22 : decode cX11_enrol 22 = .ok (.invokevirtual 217, 3) := by decide +kernel
theorem dX11_enrol_25 : decode cX11_enrol 25 = .ok (.ifCond .eq 25, 3) := by decide +kernel
theorem dX11_enrol_28 : decode cX11_enrol 28 = .ok (.aload_n 0, 1) := by decide +kernel
theorem dX11_enrol_29 : decode cX11_enrol 29 = .ok (.iload_n 1, 1) := by decide +kernel
theorem dX11_enrol_30 : decode cX11_enrol 30 = .ok (.iconst 0, 1) := by decide +kernel
theorem dX11_enrol_31 : decode cX11_enrol 31 = .ok (.iconst 1, 1) := by decide +kernel
theorem dX11_enrol_32 : decode cX11_enrol 32 = .ok (.aload_n 0, 1) := by decide +kernel
theorem dX11_enrol_33 : decode cX11_enrol 33 = .ok (.invokevirtual 242, 3) := by decide +kernel
theorem dX11_enrol_36 : decode cX11_enrol 36 = .ok (.ishl, 1) := by decide +kernel
theorem dX11_enrol_37 : decode cX11_enrol 37 = .ok (.iconst 1, 1) := by decide +kernel
theorem dX11_enrol_38 : decode cX11_enrol 38 = .ok (.isub, 1) := by decide +kernel
theorem dX11_enrol_39 : decode cX11_enrol 39 = .ok (.invokestatic 173, 3) := by decide +kernel
theorem dX11_enrol_42 : decode cX11_enrol 42 = .ok (.iconst 1, 1) := by decide +kernel
theorem dX11_enrol_43 : decode cX11_enrol 43 = .ok (.iconst 1, 1) := by decide +kernel
theorem dX11_enrol_44 : decode cX11_enrol 44 = .ok (.invokevirtual 217, 3) := by decide +kernel
theorem dX11_enrol_47 : decode cX11_enrol 47 = .ok (.ifCond .ne 5, 3) := by decide +kernel
theorem dX11_enrol_19 : decode cX11_enrol 19 = .ok (.iconst 0, 1) := by decide +kernel
theorem dX11_enrol_0 : decode cX11_enrol 0 = .ok (.aload_n 0, 1) := by decide +kernel
theorem dX11_enrol_1 : decode cX11_enrol 1 = .ok (.iconst 0, 1) := by decide +kernel
theorem dX11_enrol_2 : decode cX11_enrol 2 = .ok (.putfield 1, 3) := by decide +kernel
theorem dX11_enrol_5 : decode cX11_enrol 5 = .ok (.aload_n 0, 1) := by decide +kernel
theorem dX11_enrol_6 : decode cX11_enrol 6 = .ok (.invokevirtual 239, 3) := by decide +kernel
theorem dX11_enrol_9 : decode cX11_enrol 9 = .ok (.istore_n 2, 1) := by decide +kernel
theorem dX11_enrol_10 : decode cX11_enrol 10 = .ok (.aload_n 0, 1) := by decide +kernel
theorem dX11_enrol_11 : decode cX11_enrol 11 = .ok (.iload_n 2, 1) := by decide +kernel
theorem dX11_enrol_12 : decode cX11_enrol 12 = .ok (.ifCond .le 7, 3) := by decide +kernel
theorem dX11_enrol_15 : decode cX11_enrol 15 = .ok (.iconst 1, 1) := by decide +kernel
theorem dX11_enrol_16 : decode cX11_enrol 16 = .ok (.goto 4, 3) := by decide +kernel
/-! the reference's changes: enrol -/
theorem kpe {y : Nat} {h h0 h1 : zH} (a : fq y h h0 ∧ rok y h h0) (k : kpd y h0 h1) : fs y h h1 ∧ rok y h h1 := by
  obtain ⟨k1, k2, k3⟩ := kpd_f k
  exact ⟨fs_t (fs_q a.1) k1, k2.trans a.2.1, (k3 1 (by decide) (by decide)).trans a.2.2⟩
theorem fsW {y j : Nat} {h h1 : zH} (f : Nat → Int32) (hj : j = 2 ∨ j = 3 ∨ j = 4 ∨ (7 ≤ j ∧ j ≤ 11) ∨ (13 ≤ j ∧ j < 18)) (a : fs y h h1 ∧ rok y h h1) : fs y h (zsW h1 (y + j) f) ∧ rok y h (zsW h1 (y + j) f) := ⟨fs_t a.1 (fs_W _ _ hj), by rw [rok, zsW_n _ _ (by omega), zsW_n _ _ (by omega)]; exact a.2⟩
theorem rmZ_W {Z : zQ × (Nat → zQ) × Nat} {y j : Nat} {h : zH} (f : Nat → Int32) (hj : j = 3 ∨ (7 ≤ j ∧ j ≤ 11) ∨ (13 ≤ j ∧ j < 18)) (hZ : rmZ Z y h) : rmZ Z y (zsW h (y + j) f) := by
  obtain ⟨Q, Hs, c⟩ := Z
  obtain ⟨a1, a2, a3, a4, a5⟩ := hZ
  refine ⟨rmS_fr (by omega) (by omega) (by omega) (by omega) a1, by rw [zsW_n _ _ (by omega)]; exact a2, by rw [zsW_n _ _ (by omega)]; exact a3, by rw [zsW_n _ _ (by omega)]; exact a4, ?_⟩
  rw [zsW_n _ _ (by omega)]; exact a5
/-- what enrolling has laid down after some places -/
def ero (S : zD) (w : Nat) (r0 f : Nat → Int32) (n : Nat) : Prop := (∀ j, j < 45 ∨ 161 ≤ j → f j = r0 j) ∧ ∀ i, i < n → f (49 + i) = nI (enP S i) ∧ f (77 + i) = bI (enB S i) ∧ f (105 + i) = bI (enB S i ^^ w.testBit i) ∧ f (133 + i) = bI (enB S i ^^ w.testBit i)
theorem ero_s {S : zD} {w n : Nat} {r0 f : Nat → Int32} (hn : n < 28) (h : ero S w r0 f n) : ero S w r0 (va_up (va_up (va_up (va_up f (49 + n) (nI (enP S n))) (77 + n) (bI (enB S n))) (105 + n) (bI (enB S n ^^ w.testBit n))) (133 + n) (bI (enB S n ^^ w.testBit n))) (n + 1) := by
  refine ⟨fun j hj => ?_, fun i hi => ?_⟩
  · rw [zup_n _ _ (by omega), zup_n _ _ (by omega), zup_n _ _ (by omega), zup_n _ _ (by omega)]; exact h.1 j hj
  · by_cases e : i = n
    · subst e
      refine ⟨?_, ?_, ?_, zup_s _ _ _⟩
      · rw [zup_n _ _ (by omega), zup_n _ _ (by omega), zup_n _ _ (by omega), zup_s]
      · rw [zup_n _ _ (by omega), zup_n _ _ (by omega), zup_s]
      · rw [zup_n _ _ (by omega), zup_s]
    · obtain ⟨q1, q2, q3, q4⟩ := h.2 i (by omega)
      refine ⟨?_, ?_, ?_, ?_⟩
      · rw [zup_n _ _ (by omega), zup_n _ _ (by omega), zup_n _ _ (by omega), zup_n _ _ (by omega)]; exact q1
      · rw [zup_n _ _ (by omega), zup_n _ _ (by omega), zup_n _ _ (by omega), zup_n _ _ (by omega)]; exact q2
      · rw [zup_n _ _ (by omega), zup_n _ _ (by omega), zup_n _ _ (by omega), zup_n _ _ (by omega)]; exact q3
      · rw [zup_n _ _ (by omega), zup_n _ _ (by omega), zup_n _ _ (by omega), zup_n _ _ (by omega)]; exact q4
def ca_X11_enrol : (zQ × (Nat → zQ) × Nat × Nat × Int32) → List zV := fun (Q, Hs, c, y, s) => [vR 20 0 y, vI s]
def cp_X11_enrol : (zQ × (Nat → zQ) × Nat × Nat × Int32) → zH → Prop := fun (Q, Hs, c, y, s) h => rmZ (Q, Hs, c) y h ∧ vS Q.1
def cq_X11_enrol : (zQ × (Nat → zQ) × Nat × Nat × Int32) → zH → Option zV → zH → Prop := fun (Q, Hs, c, y, s) h r h' => (0 < nbk Q.1 ∧ gR s 0 (nI (2 ^ (nbk Q.1 * btR (dR Q.1)) - 1)) ∧ fs y h h' ∧ rok y h h' ∧ r = some (vI (nI (nbk Q.1))) ∧ rmZ ((Q.1, enr Q.1 (cN s), Q.2.2), hcn Q Hs, min (c + 1) 12) y h') ∨ (nbk Q.1 = 0 ∧ fq y h h' ∧ rno y 2 2 h h' ∧ r = some (vI 0)) ∨ (0 < nbk Q.1 ∧ ¬ gR s 0 (nI (2 ^ (nbk Q.1 * btR (dR Q.1)) - 1)) ∧ fq y h h' ∧ rno y 1 1 h h' ∧ r = some (vI 0))
theorem rc_X11_enrol : ∀ x : (zQ × (Nat → zQ) × Nat × Nat × Int32), ∃ (j a : Nat) (As : List zV), ca_X11_enrol x = vR (10 + 10) j a :: As := by
  rintro ⟨⟨S, K, M⟩, Hs, c, y, s⟩
  exact ⟨_, _, _, rfl⟩
set_option maxHeartbeats 4000000 in
set_option maxRecDepth 100000 in
theorem m_X11_enrol : zM yX11_enrol cX11_enrol 9 (some .int) ({ frames := 10, cells := 0, slots := 0, locals := 218 } : Room) ((ca_X11_enrol, cp_X11_enrol, cq_X11_enrol) : zC (zQ × (Nat → zQ) × Nat × Nat × Int32)) := by
  refine zM_of (by decide) ?_
  rintro X Y ⟨⟨S, K, M⟩, Hs, c, y, s⟩ h ⟨hZ, hv⟩ O E hR
  have hZ : rmZ ((S, K, M), Hs, c) y h := hZ
  have hv : vS S := hv
  have hZ0 := rmZ_fq (fq_0 y h).1 hZ
  have hP28 : dP S ≤ 28 := hZ.1.2.1.2
  obtain ⟨nb1, nb2, nb3⟩ := nbk_le hv
  have hct := fb_ct_le (us S) (dP S)
  have hln := lnR_pos hv.2.2.2.2.2.2
  have hr8 := vRp_8 hv.2.2.2.2.2.2
  have hpw : 2 ^ (nbk S * btR (dR S)) ≤ 2 ^ 16 := Nat.pow_le_pow_right (by omega) nb2
  have hp0 := Nat.two_pow_pos (nbk S * btR (dR S))
  obtain ⟨l, el⟩ : ∃ l : Nat, l = lnR (dR S) := ⟨_, rfl⟩
  obtain ⟨b, eb⟩ : ∃ b : Nat, b = nbk S := ⟨_, rfl⟩
  have t4 : ∀ h1 : zH, rmS S h1 y → h1.1 (y + 2) 4 = nI (dR S) := fun h1 hS => by rw [hS.2.2.2.2 4 (by decide)]; exact hv.2.2.2.2.2.1
  have B_227 := zr_aload_n (X := X) (Y := Y) (u := 0) (v := 0) O dX11_enrol_227 rfl (zr_gS (ci := 10) (j := 2) (off := 2) (t := 1) (n := 218) O zc_10 (by decide) rfl tw_1189 dX11_enrol_228 (zr_bipush (x := (45)) O dX11_enrol_231 (by decide) (zr_iload_n O dX11_enrol_233 rfl (zr_iload O dX11_enrol_234 (zr_imul O dX11_enrol_236 (zr_iast O dX11_enrol_237 (zr_aload_n O dX11_enrol_238 rfl (zr_gS (ci := 10) (j := 2) (off := 2) (t := 1) (n := 218) O zc_10 (by decide) rfl tw_1189 dX11_enrol_239 (zr_bipush (x := (46)) O dX11_enrol_242 (by decide) (zr_iload_n O dX11_enrol_244 rfl (zr_iast O dX11_enrol_245 (zr_aload_n O dX11_enrol_246 rfl (zr_gS (ci := 10) (j := 2) (off := 2) (t := 1) (n := 218) O zc_10 (by decide) rfl tw_1189 dX11_enrol_247 (zr_bipush (x := (47)) O dX11_enrol_250 (by decide) (zr_iload_n O dX11_enrol_252 rfl (zr_iast O dX11_enrol_253 (zr_aload_n O dX11_enrol_254 rfl (zr_gS (ci := 10) (j := 2) (off := 2) (t := 1) (n := 218) O zc_10 (by decide) rfl tw_1189 dX11_enrol_255 (zr_bipush (x := (48)) O dX11_enrol_258 (by decide) (zr_iload_n O dX11_enrol_260 rfl (zr_iload_n O dX11_enrol_261 rfl (zr_iload O dX11_enrol_262 (zr_imul O dX11_enrol_264 (zr_cI (zr_cS (n := 2) O m_X11_checkOf (bn_X11_checkOf _ ⟨rfl, rfl⟩) tw_1453 tw_1452 (zrm hR rfl rfl) dX11_enrol_265 (zr_iast O dX11_enrol_268 (zr_iload_n O dX11_enrol_269 rfl (zr_ireturn O E (Nat.le_refl _) (Nat.le_refl _) dX11_enrol_270))))))))))))))))))))))))))))
  have L_83 : ∀ nn : Nat, zSd X Y 0 0 83 ((fun d ls st h1 => ∃ (n q : Nat) (z : Int32) (h2 : zH) (u g f : Nat → Int32) (y7 y8 : Option zV), d = nbk S - n ∧ n ≤ nbk S ∧ 0 < nbk S ∧ s = nI q ∧ q < 2 ^ (nbk S * btR (dR S)) ∧ ls = [some (vR 20 0 y), some (vI s), some (vI (nI (nbk S))), some (vI (nI (dR S))), some (vI (nI (lnR (dR S)))), some (vI (nI (btR (dR S)))), some (vI z), y7, y8] ∧ z = nI n ∧ st = [] ∧ h1 = zsW (zsW (zsW h2 (y + 9) u) (y + 11) g) (y + 2) f ∧ usR (us S) (dP S) u ∧ ero S (wsN (dR S) q (nbk S)) (h2.1 (y + 2)) f (n * lnR (dR S)) ∧ rmZ ((S, K, M), hcn (S, K, M) Hs, min (c + 1) 12) y h2 ∧ (fs y h h2 ∧ rok y h h2) : Nat → zT) nn) := by
    refine zSd_loop (fun nn ih => ?_)
    have B_221 := zr_iinc (X := X) (Y := Y) (u := 0) (v := 0) (c := 1) O dX11_enrol_221 rfl (zr_goto (tgt := 83) O dX11_enrol_224 rfl ih)
    have L_111 : ∀ nn111 : Nat, zSd X Y 0 0 111 ((fun d ls st h1 => ∃ (n k q : Nat) (z zk : Int32) (h2 : zH) (u g f : Nat → Int32) (y8 : Option zV), d = lnR (dR S) - k ∧ k ≤ lnR (dR S) ∧ nn = nbk S - n ∧ n < nbk S ∧ s = nI q ∧ q < 2 ^ (nbk S * btR (dR S)) ∧ ls = [some (vR 20 0 y), some (vI s), some (vI (nI (nbk S))), some (vI (nI (dR S))), some (vI (nI (lnR (dR S)))), some (vI (nI (btR (dR S)))), some (vI z), some (vI zk), y8] ∧ z = nI n ∧ zk = nI k ∧ st = [] ∧ h1 = zsW (zsW (zsW h2 (y + 9) u) (y + 11) g) (y + 2) f ∧ usR (us S) (dP S) u ∧ btw (lnR (dR S)) (wdN (dR S) (sbk (dR S) q n)) g ∧ ero S (wsN (dR S) q (nbk S)) (h2.1 (y + 2)) f (n * lnR (dR S) + k) ∧ rmZ ((S, K, M), hcn (S, K, M) Hs, min (c + 1) 12) y h2 ∧ (fs y h h2 ∧ rok y h h2) : Nat → zT) nn111) := by
      refine zSd_loop (fun nn111 ih111 => ?_)
      have B_111 := zr_iload (X := X) (Y := Y) (u := 0) (v := 0) O dX11_enrol_111 (zr_iload O dX11_enrol_113 (zr_icge (tgt := 221) O dX11_enrol_115 rfl B_221 (zr_iload O dX11_enrol_118 (zr_iload O dX11_enrol_120 (zr_imul O dX11_enrol_122 (zr_iload O dX11_enrol_123 (zr_iadd O dX11_enrol_125 (zr_istore O dX11_enrol_126 (zr_aload_n O dX11_enrol_128 rfl (zr_gS (ci := 10) (j := 2) (off := 2) (t := 1) (n := 218) O zc_10 (by decide) rfl tw_1189 dX11_enrol_129 (zr_bipush (x := (49)) O dX11_enrol_132 (by decide) (zr_iload O dX11_enrol_134 (zr_iadd O dX11_enrol_136 (zr_aload_n O dX11_enrol_137 rfl (zr_gS (ci := 10) (j := 12) (off := 9) (t := 1) (n := 28) O zc_10 (by decide) rfl tw_1199 dX11_enrol_138 (zr_iload O dX11_enrol_141 (zr_iald O dX11_enrol_143 (zr_iast O dX11_enrol_144 (zr_aload_n O dX11_enrol_145 rfl (zr_gS (ci := 10) (j := 2) (off := 2) (t := 1) (n := 218) O zc_10 (by decide) rfl tw_1189 dX11_enrol_146 (zr_bipush (x := (77)) O dX11_enrol_149 (by decide) (zr_iload O dX11_enrol_151 (zr_iadd O dX11_enrol_153 (zr_aload_n O dX11_enrol_154 rfl (zr_aload_n O dX11_enrol_155 rfl (zr_gS (ci := 10) (j := 12) (off := 9) (t := 1) (n := 28) O zc_10 (by decide) rfl tw_1199 dX11_enrol_156 (zr_iload O dX11_enrol_159 (zr_iald O dX11_enrol_161 (zr_cI (zr_cV (ci := 10) (n := 1) O m_X11_bitOf (bn_X11_bitOf _ ⟨rfl, rfl⟩) vw_X11_bitOf tw_1419 rc_X11_bitOf (zrm hR rfl rfl) dX11_enrol_162 (zr_iast O dX11_enrol_165 (zr_aload_n O dX11_enrol_166 rfl (zr_gS (ci := 10) (j := 2) (off := 2) (t := 1) (n := 218) O zc_10 (by decide) rfl tw_1189 dX11_enrol_167 (zr_bipush (x := (105)) O dX11_enrol_170 (by decide) (zr_iload O dX11_enrol_172 (zr_iadd O dX11_enrol_174 (zr_aload_n O dX11_enrol_175 rfl (zr_gS (ci := 10) (j := 2) (off := 2) (t := 1) (n := 218) O zc_10 (by decide) rfl tw_1189 dX11_enrol_176 (zr_bipush (x := (77)) O dX11_enrol_179 (by decide) (zr_iload O dX11_enrol_181 (zr_iadd O dX11_enrol_183 (zr_iald O dX11_enrol_184 (zr_aload_n O dX11_enrol_185 rfl (zr_gS (ci := 10) (j := 14) (off := 11) (t := 1) (n := 7) O zc_10 (by decide) rfl tw_1201 dX11_enrol_186 (zr_iload O dX11_enrol_189 (zr_iald O dX11_enrol_191 (zr_ixor O dX11_enrol_192 (zr_iast O dX11_enrol_193 (zr_aload_n O dX11_enrol_194 rfl (zr_gS (ci := 10) (j := 2) (off := 2) (t := 1) (n := 218) O zc_10 (by decide) rfl tw_1189 dX11_enrol_195 (zr_sipush (x := (133)) O dX11_enrol_198 (by decide) (zr_iload O dX11_enrol_201 (zr_iadd O dX11_enrol_203 (zr_aload_n O dX11_enrol_204 rfl (zr_gS (ci := 10) (j := 2) (off := 2) (t := 1) (n := 218) O zc_10 (by decide) rfl tw_1189 dX11_enrol_205 (zr_bipush (x := (105)) O dX11_enrol_208 (by decide) (zr_iload O dX11_enrol_210 (zr_iadd O dX11_enrol_212 (zr_iald O dX11_enrol_213 (zr_iast O dX11_enrol_214 (zr_iinc (c := 1) O dX11_enrol_215 rfl (zr_goto (tgt := 111) O dX11_enrol_218 rfl ih111))))))))))))))))))))))))))))))))))))))))))))))))))))))))))))))
      refine zSd_weak B_111 (fun ls st h1 t => ?_)
      obtain ⟨n, k, q, z, zk, h2, u, g, f, y8, rfl, hk, en, hn, rfl, hq, rfl, rfl, rfl, rfl, rfl, hu, hg, hf, hZ2, fr⟩ := t
      have hnl : n * lnR (dR S) + lnR (dR S) ≤ nbk S * lnR (dR S) := by rw [← Nat.succ_mul]; exact Nat.mul_le_mul_right _ hn
      refine ⟨fun cq => ?_, fun cq => ?_⟩
      · have := (nI_leI (by omega) (by omega)).mp cq
        have hk2 : k = lnR (dR S) := by omega
        subst hk2
        refine ⟨nbk S - (n + 1), by omega, n + 1, q, _, h2, u, g, f, _, _, rfl, by omega, by omega, rfl, hq, rfl, nI_1 n, rfl, rfl, hu, ?_, hZ2, fr⟩
        rw [Nat.succ_mul]; exact hf
      · have hk2 : k < lnR (dR S) := Nat.not_le.mp (fun z => cq ((nI_leI (by omega) (by omega)).mpr z))
        have hat : n * lnR (dR S) + k < nbk S * lnR (dR S) := by omega
        obtain ⟨a, ea⟩ : ∃ a : Nat, a = n * lnR (dR S) + k := ⟨_, rfl⟩
        have ha28 : a < 28 := by omega
        have eat : nI (lnR (dR S)) * nI n + nI k = nI a := by rw [nI_mul, nI_add, Nat.mul_comm, ea]
        obtain ⟨eP1, eP2⟩ := enP_lt hv (k := a) (by omega)
        have eu : u a = nI (enP S a) := hu a (by omega)
        have ewd : (wsN (dR S) q (nbk S)).testBit a = (wdN (dR S) (sbk (dR S) q n)).testBit k := by
          rw [wsN_bk, ea]; exact bkN_bit (fun i => wdN_lt hv.2.2.2.2.2.2) _ _ _ hn hk2
        have epb : pb S (enP S a) = bI (enB S a) := pb_bb S (enP S a)
        have eg : g k = bI ((wsN (dR S) q (nbk S)).testBit a) := by rw [ewd]; exact hg k hk2
        obtain ⟨W, eW⟩ : ∃ W : Nat, W = wsN (dR S) q (nbk S) := ⟨_, rfl⟩
        rw [← eW] at eg hf
        rw [← ea] at hf
        obtain ⟨A, eA⟩ : ∃ A : zH, A = zsW (zsW h2 (y + 9) u) (y + 11) g := ⟨_, rfl⟩
        rw [← eA]
        have hZA : rmZ ((S, K, M), hcn (S, K, M) Hs, min (c + 1) 12) y A := by rw [eA]; exact rmZ_W (j := 11) _ (by decide) (rmZ_W (j := 9) _ (by decide) hZ2)
        have A2 : A.1 (y + 2) = h2.1 (y + 2) := by rw [eA, zsW_n _ _ (by omega), zsW_n _ _ (by omega)]
        have A9 : A.1 (y + 9) = u := by rw [eA, zsW_n _ _ (by omega), zsW_s]
        have A11 : A.1 (y + 11) = g := by rw [eA, zsW_s]
        have hSf : ∀ g : Nat → Int32, (∀ k, k < 35 → g k = h2.1 (y + 2) k) → rmS S (zsW A (y + 2) g) y := fun g hg => rmS_m (by rw [A2]; exact hg) hZA.1
        have u9 : ∀ g : Nat → Int32, (zsW A (y + 2) g).1 (y + 9) a = nI (enP S a) := fun g => by rw [zsW_n _ _ (by omega), A9]; exact eu
        have i49 : (49 : Int32) + nI a = nI (49 + a) := lI 49 a
        have i77 : (77 : Int32) + nI a = nI (77 + a) := lI 77 a
        have i105 : (105 : Int32) + nI a = nI (105 + a) := lI 105 a
        have i133 : (133 : Int32) + nI a = nI (133 + a) := lI 133 a
        refine ⟨a, eat, by omega, 49 + a, by rw [eat]; exact i49, by omega, ?_⟩
        rw [zsI_W, zsW_W, zsW_s, u9]
        refine ⟨a, eat, by omega, (S, y, enP S a), by rw [u9]; rfl, ⟨hSf _ (fun k hk => by rw [zup_n _ _ (by omega)]; exact hf.1 k (by omega)), eP1⟩, 77 + a, by rw [eat]; exact i77, by omega, ?_⟩
        show zi_ald _ _ _ _ (zsI (zsW A (y + 2) _) (y + 2) (77 + a) (pb S (enP S a)))
        rw [epb, zsI_W, zsW_W, zsW_s]
        refine ⟨77 + a, by rw [eat]; exact i77, by omega, k, rfl, by omega, 105 + a, by rw [eat]; exact i105, by omega, ?_⟩
        rw [zsI_W, zsW_W, zsW_s, zup_s, zsW_n _ _ (by omega : y + 11 ≠ y + 2), A11, eg, bI_xor]
        refine ⟨105 + a, by rw [eat]; exact i105, by omega, 133 + a, by rw [eat]; exact i133, by omega, lnR (dR S) - (k + 1), by omega, n, k + 1, q, _, _, h2, u, g, va_up (va_up (va_up (va_up f (49 + a) (nI (enP S a))) (77 + a) (bI (enB S a))) (105 + a) (bI (enB S a ^^ W.testBit a))) (133 + a) (bI (enB S a ^^ W.testBit a)), _, rfl, by omega, en, hn, rfl, hq, rfl, rfl, nI_1 k, rfl, ?_, hu, hg, ?_, hZ2, fr⟩
        · rw [zsI_W, zsW_W, zsW_s, zup_s, ← eA]
        · rw [← eW, show n * lnR (dR S) + (k + 1) = a + 1 by omega]
          exact ero_s ha28 hf
    have B_111 := zSd_any L_111
    have B_83 := zr_iload (X := X) (Y := Y) (u := 0) (v := 0) O dX11_enrol_83 (zr_iload_n O dX11_enrol_85 rfl (zr_icge (tgt := 227) O dX11_enrol_86 rfl B_227 (zr_aload_n O dX11_enrol_89 rfl (zr_iload_n O dX11_enrol_90 rfl (zr_iload_n O dX11_enrol_91 rfl (zr_iload O dX11_enrol_92 (zr_iload O dX11_enrol_94 (zr_imul O dX11_enrol_96 (zr_ishr O dX11_enrol_97 (zr_iconst (x := 1) O dX11_enrol_98 rfl (zr_iload O dX11_enrol_99 (zr_ishl O dX11_enrol_101 (zr_iconst (x := 1) O dX11_enrol_102 rfl (zr_isub O dX11_enrol_103 (zr_iand O dX11_enrol_104 (zr_cV (ci := 10) (n := 2) O m_X11_words (bn_X11_words _ ⟨rfl, rfl⟩) vw_X11_words tw_1448 rc_X11_words (zrm hR rfl rfl) dX11_enrol_105 (zr_iconst (x := 0) O dX11_enrol_108 rfl (zr_istore O dX11_enrol_109 (B_111)))))))))))))))))))
    refine zSd_weak B_83 (fun ls st h1 t => ?_)
    obtain ⟨n, q, z, h2, u, g, f, y7, y8, rfl, hn, h0, rfl, hq, rfl, rfl, rfl, rfl, hu, hf, hZ2, fr⟩ := t
    have eq : cN (nI q) = q := nI_clamp (by omega)
    have gs : gR (nI q) 0 (nI (2 ^ (nbk S * btR (dR S)) - 1)) := ⟨nI_pos' (by omega), nI_le (by omega) (by omega)⟩
    refine ⟨fun cq => ?_, fun cq => ?_⟩
    · have := (nI_leI (by omega) (by omega)).mp cq
      have hn2 : n = nbk S := by omega
      subst hn2
      obtain ⟨A, eA⟩ : ∃ A : zH, A = zsW (zsW h2 (y + 9) u) (y + 11) g := ⟨_, rfl⟩
      have hZA : rmZ ((S, K, M), hcn (S, K, M) Hs, min (c + 1) 12) y A := by rw [eA]; exact rmZ_W (j := 11) _ (by decide) (rmZ_W (j := 9) _ (by decide) hZ2)
      have fA : fs y h A ∧ rok y h A := by rw [eA]; exact fsW (j := 11) _ (by decide) (fsW (j := 9) _ (by decide) fr)
      have A2 : A.1 (y + 2) = h2.1 (y + 2) := by rw [eA, zsW_n _ _ (by omega), zsW_n _ _ (by omega)]
      rw [← eA]
      refine ⟨45, rfl, by decide, ?_⟩
      rw [zsI_W, zsW_W, zsW_s]
      refine ⟨46, rfl, by decide, ?_⟩
      rw [zsI_W, zsW_W, zsW_s]
      refine ⟨47, rfl, by decide, ?_⟩
      rw [zsI_W, zsW_W, zsW_s]
      refine ⟨(q, nbk S * btR (dR S)), by rw [nI_mul]; rfl, ⟨by show q < _; omega, nb2⟩, 48, rfl, by decide, ?_⟩
      rw [zsI_W, zsW_W, zsW_s]
      refine Or.inl ⟨h0, gs, (fsW (j := 2) _ (by decide) fA).1, (fsW (j := 2) _ (by decide) fA).2, rfl, ?_⟩
      rw [eq]
      have vE1 := vE_enr hv hP28 hq
      refine rmZ_m (Q := (S, K, M)) (R := (S, enr S q, M)) ⟨rfl, rfl, rfl, rfl⟩ (rmr_cg hZA.1.1.2 (fun k hk => ?_) ⟨hZA.1.2.2.1, hZA.1.2.2.2.2⟩) ⟨?_, vE1, fun _ => ⟨⟨?_, ?_, ?_⟩, fun i hi => ?_⟩⟩ (rmL_cg (fun k hk hk2 _ => ?_) hZA.2.2.1) hZA
      · rw [zup_n _ _ (by omega), zup_n _ _ (by omega), zup_n _ _ (by omega), zup_n _ _ (by omega), A2]; exact hf.1 k (by omega)
      · rw [zup_n _ _ (by decide), zup_n _ _ (by decide), zup_n _ _ (by decide), zup_s, nI_mul]; rfl
      · rw [zup_n _ _ (by decide), zup_n _ _ (by decide), zup_s]; rfl
      · rw [zup_n _ _ (by decide), zup_s]; rfl
      · rw [zup_s]; rfl
      · replace hi : i < nbk S * lnR (dR S) := hi
        obtain ⟨q1, q2, q3, q4⟩ := hf.2 i hi
        have emk : (mk (enB S) (nbk S * lnR (dR S))).testBit i = enB S i := by rw [mk_bit, decide_eq_true hi]; rfl
        refine ⟨?_, ?_, ?_, ?_⟩
        · rw [zup_n _ _ (by omega), zup_n _ _ (by omega), zup_n _ _ (by omega), zup_n _ _ (by omega)]; exact q1
        · rw [zup_n _ _ (by omega), zup_n _ _ (by omega), zup_n _ _ (by omega), zup_n _ _ (by omega)]
          show _ = bI ((mk (enB S) (nbk S * lnR (dR S))).testBit i)
          rw [emk]; exact q2
        · rw [zup_n _ _ (by omega), zup_n _ _ (by omega), zup_n _ _ (by omega), zup_n _ _ (by omega)]
          show _ = bI ((mk (enB S) (nbk S * lnR (dR S)) ^^^ wsN (dR S) q (nbk S)).testBit i)
          rw [Nat.testBit_xor, emk]; exact q3
        · rw [zup_n _ _ (by omega), zup_n _ _ (by omega), zup_n _ _ (by omega), zup_n _ _ (by omega)]
          show _ = bI ((mk (enB S) (nbk S * lnR (dR S)) ^^^ wsN (dR S) q (nbk S)).testBit i)
          rw [Nat.testBit_xor, emk]; exact q4
      · rw [zup_n _ _ (by omega), zup_n _ _ (by omega), zup_n _ _ (by omega), zup_n _ _ (by omega), A2]; exact hf.1 k (by omega)
    · have hn2 : n < nbk S := Nat.not_le.mp (fun z => cq ((nI_leI (by omega) (by omega)).mpr z))
      have hnb : n * btR (dR S) + btR (dR S) ≤ nbk S * btR (dR S) := by rw [← Nat.succ_mul]; exact Nat.mul_le_mul_right _ hn2
      have e1 : (nI q >>> ((nI (btR (dR S)) * nI n) &&& 31)) &&& ((1 : Int32) <<< (nI (btR (dR S)) &&& 31) - 1) = nI (sbk (dR S) q n) := by
        rw [nI_mul, Nat.mul_comm, shrI (by omega) (by omega), mskI (by omega)]
        rfl
      have hlt : sbk (dR S) q n < 2 ^ btR (dR S) := Nat.mod_lt _ (Nat.two_pow_pos _)
      refine ⟨(y, dR S, sbk (dR S) q n), ?_, ⟨hv.2.2.2.2.2.2, hlt⟩, fun r h3 hq3 => ?_⟩
      · show [vR 20 0 y, vI (nI (dR S)), vI ((nI q >>> ((nI (btR (dR S)) * nI n) &&& 31)) &&& ((1 : Int32) <<< (nI (btR (dR S)) &&& 31) - 1))] = _
        rw [e1]; rfl
      · obtain ⟨rfl, g2, e3, hg2⟩ := hq3
        replace e3 : h3 = zsW (zsW (zsW (zsW h2 (y + 9) u) (y + 11) g) (y + 2) f) (y + 11) g2 := e3
        rw [zsW_c _ _ _ (by omega : y + 11 ≠ y + 2), zsW_W] at e3
        exact ⟨lnR (dR S) - 0, n, 0, q, _, _, h2, u, g2, f, _, rfl, Nat.zero_le _, rfl, hn2, rfl, hq, rfl, rfl, rfl, rfl, e3, hu, hg2, hf, hZ2, fr⟩
  have B_83 := zSd_any L_83
  have B_52 := zr_aload_n (X := X) (Y := Y) (u := 0) (v := 0) O dX11_enrol_52 rfl (zr_cV (ci := 10) (n := 0) O m_X11_keeps (bn_X11_keeps _ ⟨rfl, rfl⟩) vw_X11_keeps tw_1375 rc_X11_keeps (zrm hR rfl rfl) dX11_enrol_53 (zr_aload_n O dX11_enrol_56 rfl (zr_gS (ci := 10) (j := 2) (off := 2) (t := 1) (n := 218) O zc_10 (by decide) rfl tw_1189 dX11_enrol_57 (zr_iconst (x := 4) O dX11_enrol_60 rfl (zr_iald O dX11_enrol_61 (zr_istore_n O dX11_enrol_62 rfl (zr_iload_n O dX11_enrol_63 rfl (zr_cI (zr_cS (n := 1) O m_X11_wideBy (bn_X11_wideBy _ ⟨rfl, rfl⟩) tw_1439 tw_1438 (zrm hR rfl rfl) dX11_enrol_64 (zr_istore O dX11_enrol_67 (zr_iload_n O dX11_enrol_69 rfl (zr_cI (zr_cS (n := 1) O m_X11_givesBy (bn_X11_givesBy _ ⟨rfl, rfl⟩) tw_1442 tw_1441 (zrm hR rfl rfl) dX11_enrol_70 (zr_istore O dX11_enrol_73 (zr_aload_n O dX11_enrol_75 rfl (zr_cV (ci := 10) (n := 0) O m_X11_usedNow (bn_X11_usedNow _ ⟨rfl, rfl⟩) vw_X11_usedNow tw_1395 rc_X11_usedNow (zrm hR rfl rfl) dX11_enrol_76 (zr_pop O dX11_enrol_79 (zr_iconst (x := 0) O dX11_enrol_80 rfl (zr_istore O dX11_enrol_81 (B_83))))))))))))))))))))
  have B_50 := zr_iconst (X := X) (Y := Y) (u := 0) (v := 0) (x := 0) O dX11_enrol_50 rfl (zr_ireturn O E (Nat.le_refl _) (Nat.le_refl _) dX11_enrol_51)
  have B_20 := zr_iconst (X := X) (Y := Y) (u := 0) (v := 0) (x := 2) O dX11_enrol_20 rfl (zr_iconst (x := 2) O dX11_enrol_21 rfl (zr_cH (zr_cV (ci := 10) (n := 3) O m_X11_isFine (bn_X11_isFine _ ⟨rfl, rfl⟩) vw_X11_isFine tw_1308 rc_X11_isFine (zrm hR rfl rfl) dX11_enrol_22 (zr_ifeq (tgt := 50) O dX11_enrol_25 rfl B_50 (zr_aload_n O dX11_enrol_28 rfl (zr_iload_n O dX11_enrol_29 rfl (zr_iconst (x := 0) O dX11_enrol_30 rfl (zr_iconst (x := 1) O dX11_enrol_31 rfl (zr_aload_n O dX11_enrol_32 rfl (zr_cV (ci := 10) (n := 0) O m_X11_secretBits (bn_X11_secretBits _ ⟨rfl, rfl⟩) vw_X11_secretBits tw_1444 rc_X11_secretBits (zrm hR rfl rfl) dX11_enrol_33 (zr_ishl O dX11_enrol_36 (zr_iconst (x := 1) O dX11_enrol_37 rfl (zr_isub O dX11_enrol_38 (zr_cI (zr_cS (n := 3) O m_X11_within (bn_X11_within _ ⟨rfl, rfl⟩) tw_1306 tw_1305 (zrm hR rfl rfl) dX11_enrol_39 (zr_iconst (x := 1) O dX11_enrol_42 rfl (zr_iconst (x := 1) O dX11_enrol_43 rfl (zr_cH (zr_cV (ci := 10) (n := 3) O m_X11_isFine (bn_X11_isFine _ ⟨rfl, rfl⟩) vw_X11_isFine tw_1308 rc_X11_isFine (zrm hR rfl rfl) dX11_enrol_44 (zr_ifne (tgt := 52) O dX11_enrol_47 rfl B_52 (B_50)))))))))))))))))))))
  have C_20 : zSd X Y 0 0 20 (fun ls st h1 => ∃ (v : Int32) (u : Nat → Int32), ls = [some (vR 20 0 y), some (vI s), some (vI (nI (nbk S))), none, none, none, none, none, none] ∧ v = bI (decide (0 < nbk S)) ∧ st = [vI v, vR 20 0 y] ∧ h1 = zsW (zsI h y 0 0) (y + 9) u) := by
    refine zSd_weak B_20 (fun ls st h1 t => ?_)
    obtain ⟨v, u, rfl, rfl, rfl, rfl⟩ := t
    have f1 := fq_fm (fq_0 y h) (fm_W (j := 9) (zsI h y 0 0) u (by decide))
    have hZ1 := rmZ_fq f1.1 hZ
    refine ⟨(y, decide (0 < nbk S), 2, 2), rfl, ⟨by decide, by decide⟩, fun d => ?_, fun d => ?_⟩
    · obtain ⟨g, e⟩ := fine_no f1.2.1 d
      rw [e]
      exact Or.inr (Or.inl ⟨Nat.eq_zero_of_not_pos g, (fq_rf 2 f1).1, (fq_rf 2 f1).2, rfl⟩)
    · obtain ⟨h0, e⟩ := fine_ok f1.2.1 d
      rw [e]
      refine ⟨(S, y), rfl, ⟨hZ1.1, hv⟩, fun r h2 hq => ?_⟩
      obtain ⟨rfl, u2, e2, -⟩ := hq
      replace e2 : h2 = zsW (zsW (zsI h y 0 0) (y + 9) u) (y + 9) u2 := e2
      rw [zsW_W] at e2
      have f2 : fq y h h2 ∧ rok y h h2 := by rw [e2]; exact fq_fm (fq_0 y h) (fm_W (j := 9) (zsI h y 0 0) u2 (by decide))
      have hZ2 := rmZ_fq f2.1 hZ
      have ebt : (1 : Int32) <<< (nI (nbk S * btR (dR S)) &&& 31) - 1 = nI (2 ^ (nbk S * btR (dR S)) - 1) := nI_lo (by omega)
      refine ⟨(s, 0, nI (2 ^ (nbk S * btR (dR S)) - 1)), ?_, trivial, (y, decide (0 ≤ s ∧ s ≤ nI (2 ^ (nbk S * btR (dR S)) - 1)), 1, 1), rfl, ⟨by decide, by decide⟩, fun d => ?_, fun d => ?_⟩
      · show [vI s, vI 0, vI ((1 : Int32) <<< (nI (nbk S * btR (dR S)) &&& 31) - 1)] = _
        rw [ebt]; rfl
      · obtain ⟨g1, e⟩ := fine_ok f2.2.1 d
        rw [e]
        obtain ⟨q, rfl, hq, eq⟩ := rngx (by omega) g1
        refine ⟨((S, K, M), Hs, c, y), rfl, hZ2, fun r h3 hq3 => ?_⟩
        obtain ⟨rfl, hZ3, kp⟩ := hq3
        replace hZ3 : rmZ ((S, K, M), hcn (S, K, M) Hs, min (c + 1) 12) y h3 := hZ3
        have fr := kpe f2 kp
        have t43 := t4 h3 hZ3.1
        refine ⟨4, rfl, by decide, dR S, by rw [t43]; rfl, hr8, dR S, by rw [t43]; rfl, hr8, (S, y), rfl, ⟨hZ3.1, hv⟩, fun r h4 hq4 => ?_⟩
        obtain ⟨rfl, u3, e4, hu3⟩ := hq4
        replace e4 : h4 = zsW h3 (y + 9) u3 := e4
        refine ⟨nbk S - 0, 0, q, _, h3, u3, h3.1 (y + 11), h3.1 (y + 2), _, _, rfl, Nat.zero_le _, h0, rfl, by omega, by rw [t43]; rfl, rfl, rfl, ?_, hu3, ⟨fun _ _ => rfl, fun i hi => by omega⟩, hZ3, fr⟩
        have x11 : (zsW h3 (y + 9) u3).1 (y + 11) = h3.1 (y + 11) := zsW_n _ _ (by omega)
        have x2 : (zsW h3 (y + 9) u3).1 (y + 2) = h3.1 (y + 2) := zsW_n _ _ (by omega)
        rw [e4, ← x11, zsW_self, ← x2, zsW_self]
      · obtain ⟨g1, e⟩ := fine_no f2.2.1 d
        rw [e]
        exact Or.inr (Or.inr ⟨h0, g1, (fq_rf 1 f2).1, (fq_rf 1 f2).2, rfl⟩)
  have B_19 := zr_iconst (X := X) (Y := Y) (u := 0) (v := 0) (x := 0) O dX11_enrol_19 rfl (C_20)
  have B_0 := zr_aload_n (X := X) (Y := Y) (u := 0) (v := 0) O dX11_enrol_0 rfl (zr_iconst (x := 0) O dX11_enrol_1 rfl (zr_pI (ci := 10) (j := 0) O zc_10 (by decide) rfl rfl rfl tw_1187 dX11_enrol_2 (zr_aload_n O dX11_enrol_5 rfl (zr_cV (ci := 10) (n := 0) O m_X11_blocks (bn_X11_blocks _ ⟨rfl, rfl⟩) vw_X11_blocks tw_1391 rc_X11_blocks (zrm hR rfl rfl) dX11_enrol_6 (zr_istore_n O dX11_enrol_9 rfl (zr_aload_n O dX11_enrol_10 rfl (zr_iload_n O dX11_enrol_11 rfl (zr_ifle (tgt := 19) O dX11_enrol_12 rfl B_19 (zr_iconst (x := 1) O dX11_enrol_15 rfl (zr_goto (tgt := 20) O dX11_enrol_16 rfl C_20))))))))))
  refine ⟨rfl, Nat.le_of_ble_eq_true rfl, _, B_0, ?_⟩
  refine ⟨(S, y), rfl, ⟨hZ0.1, hv⟩, fun r h2 hq => ?_⟩
  obtain ⟨rfl, u, e2, -⟩ := hq
  replace e2 : h2 = zsW (zsI h y 0 0) (y + 9) u := e2
  refine ⟨fun c => ⟨_, u, rfl, ?_, rfl, e2⟩, fun c => ⟨_, u, rfl, ?_, rfl, e2⟩⟩
  · rw [decide_eq_false (fun z => nI_nle z (by omega) c)]; rfl
  · rw [decide_eq_true (Nat.pos_of_ne_zero (fun z => c (by rw [z]; decide)))]; rfl

