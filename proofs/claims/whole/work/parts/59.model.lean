theorem dX11_readsAll_266 : decode cX11_readsAll 266 = .ok (.return_, 1) := by decide +kernel
theorem dX11_readsAll_244 : decode cX11_readsAll 244 = .ok (.aload_n 0, 1) := by decide +kernel
theorem dX11_readsAll_245 : decode cX11_readsAll 245 = .ok (.dup, 1) := by decide +kernel
theorem dX11_readsAll_246 : decode cX11_readsAll 246 = .ok (.getfield 301, 3) := by decide +kernel
theorem dX11_readsAll_249 : decode cX11_readsAll 249 = .ok (.iload 5, 2) := by decide +kernel
theorem dX11_readsAll_251 : decode cX11_readsAll 251 = .ok (.iload_n 3, 1) := by decide +kernel
theorem dX11_readsAll_252 : decode cX11_readsAll 252 = .ok (.iload 4, 2) := by decide +kernel
theorem dX11_readsAll_254 : decode cX11_readsAll 254 = .ok (.imul, 1) := by decide +kernel
theorem dX11_readsAll_255 : decode cX11_readsAll 255 = .ok (.ishl, 1) := by decide +kernel
theorem dX11_readsAll_256 : decode cX11_readsAll 256 = .ok (.ior, 1) := by decide +kernel
theorem dX11_readsAll_257 : decode cX11_readsAll 257 = .ok (.putfield 301, 3) := by decide +kernel
theorem dX11_readsAll_260 : decode cX11_readsAll 260 = .ok (.iinc 4 1, 3) := by decide +kernel
theorem dX11_readsAll_263 : decode cX11_readsAll 263 = .ok (.goto (-223), 3) := by decide +kernel
theorem dX11_readsAll_208 : decode cX11_readsAll 208 = .ok (.iload 6, 2) := by decide +kernel
theorem dX11_readsAll_210 : decode cX11_readsAll 210 = .ok (.iload_n 2, 1) := by decide +kernel
theorem dX11_readsAll_211 : decode cX11_readsAll 211 = .ok (.if_icmp .ge 33, 3) := by decide +kernel
theorem dX11_readsAll_214 : decode cX11_readsAll 214 = .ok (.aload_n 0, 1) := by decide +kernel
theorem dX11_readsAll_215 : decode cX11_readsAll 215 = .ok (.dup, 1) := by decide +kernel
theorem dX11_readsAll_216 : decode cX11_readsAll 216 = .ok (.getfield 298, 3) := by decide +kernel
theorem dX11_readsAll_219 : decode cX11_readsAll 219 = .ok (.aload_n 0, 1) := by decide +kernel
theorem dX11_readsAll_220 : decode cX11_readsAll 220 = .ok (.getfield 44, 3) := by decide +kernel
theorem dX11_readsAll_223 : decode cX11_readsAll 223 = .ok (.iload 6, 2) := by decide +kernel
theorem dX11_readsAll_225 : decode cX11_readsAll 225 = .ok (.iaload, 1) := by decide +kernel
theorem dX11_readsAll_226 : decode cX11_readsAll 226 = .ok (.aload_n 0, 1) := by decide +kernel
theorem dX11_readsAll_227 : decode cX11_readsAll 227 = .ok (.getfield 41, 3) := by decide +kernel
theorem dX11_readsAll_230 : decode cX11_readsAll 230 = .ok (.iload 6, 2) := by decide +kernel
theorem dX11_readsAll_232 : decode cX11_readsAll 232 = .ok (.iaload, 1) := by decide +kernel
theorem dX11_readsAll_233 : decode cX11_readsAll 233 = .ok (.ixor, 1) := by decide +kernel
theorem dX11_readsAll_234 : decode cX11_readsAll 234 = .ok (.iadd, 1) := by decide +kernel
theorem dX11_readsAll_235 : decode cX11_readsAll 235 = .ok (.putfield 298, 3) := by decide +kernel
theorem dX11_readsAll_238 : decode cX11_readsAll 238 = .ok (.iinc 6 1, 3) := by decide +kernel
theorem dX11_readsAll_241 : decode cX11_readsAll 241 = .ok (.goto (-33), 3) := by decide +kernel
theorem dX11_readsAll_179 : decode cX11_readsAll 179 = .ok (.aload_n 0, 1) := by decide +kernel
theorem dX11_readsAll_180 : decode cX11_readsAll 180 = .ok (.aload_n 0, 1) := by decide +kernel
theorem dX11_readsAll_181 : decode cX11_readsAll 181 = .ok (.getfield 17, 3) := by decide +kernel
theorem dX11_readsAll_184 : decode cX11_readsAll 184 = .ok (.bipush 46, 2) := by decide +kernel
theorem dX11_readsAll_186 : decode cX11_readsAll 186 = .ok (.iaload, 1) := by decide +kernel
theorem dX11_readsAll_187 : decode cX11_readsAll 187 = .ok (.invokevirtual 307, 3) := by decide +kernel
theorem dX11_readsAll_190 : decode cX11_readsAll 190 = .ok (.istore 5, 2) := by decide +kernel
theorem dX11_readsAll_192 : decode cX11_readsAll 192 = .ok (.aload_n 0, 1) := by decide +kernel
theorem dX11_readsAll_193 : decode cX11_readsAll 193 = .ok (.aload_n 0, 1) := by decide +kernel
theorem dX11_readsAll_194 : decode cX11_readsAll 194 = .ok (.getfield 17, 3) := by decide +kernel
theorem dX11_readsAll_197 : decode cX11_readsAll 197 = .ok (.bipush 46, 2) := by decide +kernel
theorem dX11_readsAll_199 : decode cX11_readsAll 199 = .ok (.iaload, 1) := by decide +kernel
theorem dX11_readsAll_200 : decode cX11_readsAll 200 = .ok (.iload 5, 2) := by decide +kernel
theorem dX11_readsAll_202 : decode cX11_readsAll 202 = .ok (.invokevirtual 245, 3) := by decide +kernel
theorem dX11_readsAll_205 : decode cX11_readsAll 205 = .ok (.iconst 0, 1) := by decide +kernel
theorem dX11_readsAll_206 : decode cX11_readsAll 206 = .ok (.istore 6, 2) := by decide +kernel
theorem dX11_readsAll_57 : decode cX11_readsAll 57 = .ok (.iload 5, 2) := by decide +kernel
theorem dX11_readsAll_59 : decode cX11_readsAll 59 = .ok (.iload_n 2, 1) := by decide +kernel
theorem dX11_readsAll_60 : decode cX11_readsAll 60 = .ok (.if_icmp .ge 119, 3) := by decide +kernel
theorem dX11_readsAll_63 : decode cX11_readsAll 63 = .ok (.iload_n 2, 1) := by decide +kernel
theorem dX11_readsAll_64 : decode cX11_readsAll 64 = .ok (.iload 4, 2) := by decide +kernel
theorem dX11_readsAll_66 : decode cX11_readsAll 66 = .ok (.imul, 1) := by decide +kernel
theorem dX11_readsAll_67 : decode cX11_readsAll 67 = .ok (.iload 5, 2) := by decide +kernel
theorem dX11_readsAll_69 : decode cX11_readsAll 69 = .ok (.iadd, 1) := by decide +kernel
theorem dX11_readsAll_70 : decode cX11_readsAll 70 = .ok (.istore 6, 2) := by decide +kernel
theorem dX11_readsAll_72 : decode cX11_readsAll 72 = .ok (.aload_n 0, 1) := by decide +kernel
theorem dX11_readsAll_73 : decode cX11_readsAll 73 = .ok (.getfield 17, 3) := by decide +kernel
theorem dX11_readsAll_76 : decode cX11_readsAll 76 = .ok (.bipush 49, 2) := by decide +kernel
theorem dX11_readsAll_78 : decode cX11_readsAll 78 = .ok (.iload 6, 2) := by decide +kernel
theorem dX11_readsAll_80 : decode cX11_readsAll 80 = .ok (.iadd, 1) := by decide +kernel
theorem dX11_readsAll_81 : decode cX11_readsAll 81 = .ok (.iaload, 1) := by decide +kernel
theorem dX11_readsAll_82 : decode cX11_readsAll 82 = .ok (.istore 7, 2) := by decide +kernel
theorem dX11_readsAll_84 : decode cX11_readsAll 84 = .ok (.aload_n 0, 1) := by decide +kernel
theorem dX11_readsAll_85 : decode cX11_readsAll 85 = .ok (.aload_n 0, 1) := by decide +kernel
theorem dX11_readsAll_86 : decode cX11_readsAll 86 = .ok (.getfield 26, 3) := by decide +kernel
theorem dX11_readsAll_89 : decode cX11_readsAll 89 = .ok (.iload 7, 2) := by decide +kernel
theorem dX11_readsAll_91 : decode cX11_readsAll 91 = .ok (.iaload, 1) := by decide +kernel
theorem dX11_readsAll_92 : decode cX11_readsAll 92 = .ok (.iload_n 1, 1) := by decide +kernel
theorem dX11_readsAll_93 : decode cX11_readsAll 93 = .ok (.invokevirtual 304, 3) := by decide +kernel
theorem dX11_readsAll_96 : decode cX11_readsAll 96 = .ok (.istore 8, 2) := by decide +kernel
theorem dX11_readsAll_98 : decode cX11_readsAll 98 = .ok (.iload 8, 2) := by decide +kernel
theorem dX11_readsAll_100 : decode cX11_readsAll 100 = .ok (.aload_n 0, 1) := by decide +kernel
theorem dX11_readsAll_101 : decode cX11_readsAll 101 = .ok (.aload_n 0, 1) := by decide +kernel
theorem dX11_readsAll_102 : decode cX11_readsAll 102 = .ok (.getfield 29, 3) := by decide +kernel
theorem dX11_readsAll_105 : decode cX11_readsAll 105 = .ok (.iload 7, 2) := by decide +kernel
theorem dX11_readsAll_107 : decode cX11_readsAll 107 = .ok (.iaload, 1) := by decide +kernel
theorem dX11_readsAll_108 : decode cX11_readsAll 108 = .ok (.iload_n 1, 1) := by decide +kernel
theorem dX11_readsAll_109 : decode cX11_readsAll 109 = .ok (.invokevirtual 304, 3) := by decide +kernel
theorem dX11_readsAll_112 : decode cX11_readsAll 112 = .ok (.aload_n 0, 1) := by decide +kernel
theorem dX11_readsAll_113 : decode cX11_readsAll 113 = .ok (.getfield 26, 3) := by decide +kernel
theorem dX11_readsAll_116 : decode cX11_readsAll 116 = .ok (.iload 7, 2) := by decide +kernel
theorem dX11_readsAll_118 : decode cX11_readsAll 118 = .ok (.iaload, 1) := by decide +kernel
theorem dX11_readsAll_119 : decode cX11_readsAll 119 = .ok (.aload_n 0, 1) := by decide +kernel
theorem dX11_readsAll_120 : decode cX11_readsAll 120 = .ok (.getfield 29, 3) := by decide +kernel
theorem dX11_readsAll_123 : decode cX11_readsAll 123 = .ok (.iload 7, 2) := by decide +kernel
theorem dX11_readsAll_125 : decode cX11_readsAll 125 = .ok (.iaload, 1) := by decide +kernel
theorem dX11_readsAll_126 : decode cX11_readsAll 126 = .ok (.invokestatic 78, 3) := by decide +kernel
theorem dX11_readsAll_129 : decode cX11_readsAll 129 = .ok (.istore 9, 2) := by decide +kernel
theorem dX11_readsAll_131 : decode cX11_readsAll 131 = .ok (.aload_n 0, 1) := by decide +kernel
theorem dX11_readsAll_132 : decode cX11_readsAll 132 = .ok (.dup, 1) := by decide +kernel
theorem dX11_readsAll_133 : decode cX11_readsAll 133 = .ok (.getfield 295, 3) := by decide +kernel
theorem dX11_readsAll_136 : decode cX11_readsAll 136 = .ok (.iload 9, 2) := by decide +kernel
theorem dX11_readsAll_138 : decode cX11_readsAll 138 = .ok (.aload_n 0, 1) := by decide +kernel
theorem dX11_readsAll_139 : decode cX11_readsAll 139 = .ok (.getfield 17, 3) := by decide +kernel
theorem dX11_readsAll_142 : decode cX11_readsAll 142 = .ok (.bipush 77, 2) := by decide +kernel
theorem dX11_readsAll_144 : decode cX11_readsAll 144 = .ok (.iload 6, 2) := by decide +kernel
theorem dX11_readsAll_146 : decode cX11_readsAll 146 = .ok (.iadd, 1) := by decide +kernel
theorem dX11_readsAll_147 : decode cX11_readsAll 147 = .ok (.iaload, 1) := by decide +kernel
theorem dX11_readsAll_148 : decode cX11_readsAll 148 = .ok (.ixor, 1) := by decide +kernel
theorem dX11_readsAll_149 : decode cX11_readsAll 149 = .ok (.iadd, 1) := by decide +kernel
theorem dX11_readsAll_150 : decode cX11_readsAll 150 = .ok (.putfield 295, 3) := by decide +kernel
theorem dX11_readsAll_153 : decode cX11_readsAll 153 = .ok (.aload_n 0, 1) := by decide +kernel
theorem dX11_readsAll_154 : decode cX11_readsAll 154 = .ok (.getfield 41, 3) := by decide +kernel
theorem dX11_readsAll_157 : decode cX11_readsAll 157 = .ok (.iload 5, 2) := by decide +kernel
theorem dX11_readsAll_159 : decode cX11_readsAll 159 = .ok (.iload 9, 2) := by decide +kernel
theorem dX11_readsAll_161 : decode cX11_readsAll 161 = .ok (.aload_n 0, 1) := by decide +kernel
theorem dX11_readsAll_162 : decode cX11_readsAll 162 = .ok (.getfield 17, 3) := by decide +kernel
theorem dX11_readsAll_165 : decode cX11_readsAll 165 = .ok (.bipush 105, 2) := by decide +kernel
theorem dX11_readsAll_167 : decode cX11_readsAll 167 = .ok (.iload 6, 2) := by decide +kernel
theorem dX11_readsAll_169 : decode cX11_readsAll 169 = .ok (.iadd, 1) := by decide +kernel
theorem dX11_readsAll_170 : decode cX11_readsAll 170 = .ok (.iaload, 1) := by decide +kernel
theorem dX11_readsAll_171 : decode cX11_readsAll 171 = .ok (.ixor, 1) := by decide +kernel
theorem dX11_readsAll_172 : decode cX11_readsAll 172 = .ok (.iastore, 1) := by decide +kernel
theorem dX11_readsAll_173 : decode cX11_readsAll 173 = .ok (.iinc 5 1, 3) := by decide +kernel
theorem dX11_readsAll_176 : decode cX11_readsAll 176 = .ok (.goto (-119), 3) := by decide +kernel
theorem dX11_readsAll_40 : decode cX11_readsAll 40 = .ok (.iload 4, 2) := by decide +kernel
theorem dX11_readsAll_42 : decode cX11_readsAll 42 = .ok (.aload_n 0, 1) := by decide +kernel
theorem dX11_readsAll_43 : decode cX11_readsAll 43 = .ok (.getfield 17, 3) := by decide +kernel
theorem dX11_readsAll_46 : decode cX11_readsAll 46 = .ok (.bipush 45, 2) := by decide +kernel
theorem dX11_readsAll_48 : decode cX11_readsAll 48 = .ok (.iaload, 1) := by decide +kernel
theorem dX11_readsAll_49 : decode cX11_readsAll 49 = .ok (.iload_n 2, 1) := by decide +kernel
theorem dX11_readsAll_50 : decode cX11_readsAll 50 = .ok (.idiv, 1) := by decide +kernel
theorem dX11_readsAll_51 : decode cX11_readsAll 51 = .ok (.if_icmp .ge 215, 3) := by decide +kernel
theorem dX11_readsAll_54 : decode cX11_readsAll 54 = .ok (.iconst 0, 1) := by decide +kernel
theorem dX11_readsAll_55 : decode cX11_readsAll 55 = .ok (.istore 5, 2) := by decide +kernel
theorem dX11_readsAll_0 : decode cX11_readsAll 0 = .ok (.aload_n 0, 1) := by decide +kernel
theorem dX11_readsAll_1 : decode cX11_readsAll 1 = .ok (.iconst 0, 1) := by decide +kernel
theorem dX11_readsAll_2 : decode cX11_readsAll 2 = .ok (.putfield 295, 3) := by decide +kernel
theorem dX11_readsAll_5 : decode cX11_readsAll 5 = .ok (.aload_n 0, 1) := by decide +kernel
theorem dX11_readsAll_6 : decode cX11_readsAll 6 = .ok (.iconst 0, 1) := by decide +kernel
theorem dX11_readsAll_7 : decode cX11_readsAll 7 = .ok (.putfield 298, 3) := by decide +kernel
theorem dX11_readsAll_10 : decode cX11_readsAll 10 = .ok (.aload_n 0, 1) := by decide +kernel
theorem dX11_readsAll_11 : decode cX11_readsAll 11 = .ok (.iconst 0, 1) := by decide +kernel
theorem dX11_readsAll_12 : decode cX11_readsAll 12 = .ok (.putfield 301, 3) := by decide +kernel
theorem dX11_readsAll_15 : decode cX11_readsAll 15 = .ok (.aload_n 0, 1) := by decide +kernel
theorem dX11_readsAll_16 : decode cX11_readsAll 16 = .ok (.getfield 17, 3) := by decide +kernel
theorem dX11_readsAll_19 : decode cX11_readsAll 19 = .ok (.bipush 46, 2) := by decide +kernel
theorem dX11_readsAll_21 : decode cX11_readsAll 21 = .ok (.iaload, 1) := by decide +kernel
theorem dX11_readsAll_22 : decode cX11_readsAll 22 = .ok (.invokestatic 114, 3) := by decide +kernel
theorem dX11_readsAll_25 : decode cX11_readsAll 25 = .ok (.istore_n 2, 1) := by decide +kernel
theorem dX11_readsAll_26 : decode cX11_readsAll 26 = .ok (.aload_n 0, 1) := by decide +kernel
theorem dX11_readsAll_27 : decode cX11_readsAll 27 = .ok (.getfield 17, 3) := by decide +kernel
theorem dX11_readsAll_30 : decode cX11_readsAll 30 = .ok (.bipush 46, 2) := by decide +kernel
theorem dX11_readsAll_32 : decode cX11_readsAll 32 = .ok (.iaload, 1) := by decide +kernel
theorem dX11_readsAll_33 : decode cX11_readsAll 33 = .ok (.invokestatic 117, 3) := by decide +kernel
theorem dX11_readsAll_36 : decode cX11_readsAll 36 = .ok (.istore_n 3, 1) := by decide +kernel
theorem dX11_readsAll_37 : decode cX11_readsAll 37 = .ok (.iconst 0, 1) := by decide +kernel
theorem dX11_readsAll_38 : decode cX11_readsAll 38 = .ok (.istore 4, 2) := by decide +kernel
theorem dX11_isRefused_26 : decode cX11_isRefused 26 = .ok (.ireturn, 1) := by decide +kernel
theorem dX11_isRefused_25 : decode cX11_isRefused 25 = .ok (.iconst 0, 1) := by decide +kernel
theorem dX11_isRefused_0 : decode cX11_isRefused 0 = .ok (.aload_n 0, 1) := by decide +kernel
theorem dX11_isRefused_1 : decode cX11_isRefused 1 = .ok (.getfield 301, 3) := by decide +kernel
theorem dX11_isRefused_4 : decode cX11_isRefused 4 = .ok (.aload_n 0, 1) := by decide +kernel
theorem dX11_isRefused_5 : decode cX11_isRefused 5 = .ok (.invokevirtual 270, 3) := by decide +kernel
theorem dX11_isRefused_8 : decode cX11_isRefused 8 = .ok (.invokestatic 248, 3) := by decide +kernel
theorem dX11_isRefused_11 : decode cX11_isRefused 11 = .ok (.aload_n 0, 1) := by decide +kernel
theorem dX11_isRefused_12 : decode cX11_isRefused 12 = .ok (.getfield 17, 3) := by decide +kernel
theorem dX11_isRefused_15 : decode cX11_isRefused 15 = .ok (.bipush 48, 2) := by decide +kernel
theorem dX11_isRefused_17 : decode cX11_isRefused 17 = .ok (.iaload, 1) := by decide +kernel
theorem dX11_isRefused_18 : decode cX11_isRefused 18 = .ok (.if_icmp .eq 7, 3) := by decide +kernel
theorem dX11_isRefused_21 : decode cX11_isRefused 21 = .ok (.iconst 1, 1) := by decide +kernel
theorem dX11_isRefused_22 : decode cX11_isRefused 22 = .ok (.goto 4, 3) := by decide +kernel
theorem zsI_at (h : zH) (a k j : Nat) (v : Int32) (hj : j ≠ k) : (zsI h a k v).1 a j = h.1 a j := by rw [zsI_W, zsW_s, zup_n _ _ hj]
theorem zsI_me (h : zH) (a k : Nat) (v : Int32) : (zsI h a k v).1 a k = v := by rw [zsI_W, zsW_s, zup_s]
theorem zsI_ro (h : zH) {a b : Nat} (k : Nat) (v : Int32) (hb : b ≠ a) : (zsI h a k v).1 b = h.1 b := by rw [zsI_W]; exact zsW_n _ _ hb
/-- the reading's numbers in the object -/
def rqF (S : zD) (K : zE) (te s : Int32) (y b i m : Nat) (h1 : zH) : Prop := h1.1 y 27 = (rdN S K te s i).1 ∧ h1.1 y 28 = nI (fb_ct (fun i => rbt S K te s i ^^ (eB K).testBit i) i) ∧ h1.1 y 29 = nI m ∧ h1.1 y 30 = nI (scN (eR K) (rwd S K te s) b)
def ca_X11_readsAll : (zD × zE × Nat × Int32) → List zV := fun (S, K, y, te) => [vR 20 0 y, vI te]
def cp_X11_readsAll : (zD × zE × Nat × Int32) → zH → Prop := fun (S, K, y, te) h => rmS S h y ∧ rmE K (h.1 (y + 2)) ∧ 0 < eN K ∧ vS S ∧ ∀ i, i < eN K → eP K i < dP S
def cq_X11_readsAll : (zD × zE × Nat × Int32) → zH → Option zV → zH → Prop := fun (S, K, y, te) h o h' => o = none ∧ fm y h h' ∧ h'.1 y 27 = (rdN S K te (h.1 y 27) (eN K)).1 ∧ h'.1 y 28 = nI (rdR S K te (h.1 y 27)) ∧ h'.1 y 29 = nI (rdC S K te (h.1 y 27)) ∧ h'.1 y 30 = nI (rdX S K te (h.1 y 27))
theorem rc_X11_readsAll : ∀ x : (zD × zE × Nat × Int32), ∃ (j a : Nat) (As : List zV), ca_X11_readsAll x = vR (10 + 10) j a :: As := by
  rintro ⟨S, K, y, te⟩
  exact ⟨_, _, _, rfl⟩
set_option maxHeartbeats 4000000 in
set_option maxRecDepth 100000 in
theorem m_X11_readsAll : zM yX11_readsAll cX11_readsAll 10 none ({ frames := 2, cells := 0, slots := 0, locals := 46 } : Room) ((ca_X11_readsAll, cp_X11_readsAll, cq_X11_readsAll) : zC (zD × zE × Nat × Int32)) := by
  refine zM_of (by decide) ?_
  rintro X Y ⟨S, K, y, te⟩ h ⟨hS, hE, h0, hv, hP⟩ O E hR
  have hS : rmS S h y := hS
  have hE : rmE K (h.1 (y + 2)) := hE
  have h0 : 0 < eN K := h0
  have hv : vS S := hv
  have hP : ∀ i, i < eN K → eP K i < dP S := hP
  obtain ⟨s, es⟩ : ∃ s : Int32, s = h.1 y 27 := ⟨_, rfl⟩
  obtain ⟨w, ew⟩ : ∃ w : Nat, w = rwd S K te s := ⟨_, rfl⟩
  obtain ⟨l, el⟩ : ∃ l : Nat, l = lnR (eR K) := ⟨_, rfl⟩
  have h28 := hE.2.1.1
  obtain ⟨⟨a1, a2, a3⟩, a4⟩ := hE.2.2 h0
  obtain ⟨-, hr, hn, hbt, ⟨u5, u6, u7⟩, -⟩ := hE.2.1.2 h0
  have hln := lnR_pos hr
  rw [← el] at hn hln
  have hP28 := hS.2.1.2
  have hN10 := hS.1.2
  have wbit : ∀ i, i < eN K → w.testBit i = (rbt S K te s i ^^ (eH K).testBit i) := fun i hi => by
    rw [ew, rwd, Nat.testBit_xor, rdW, rdN_bit, decide_eq_true hi, Bool.true_and]
  have kb16 : eK K ≤ 16 := (vE_b hE.2.1 h0).2.2.2.2.1
  have B_266 := zr_return (X := X) (Y := Y) (u := 0) (v := 0) O E (Nat.le_refl _) (Nat.le_refl _) dX11_readsAll_266
  have L_40 : ∀ nn : Nat, zSd X Y 0 0 40 ((fun c ls st h1 => ∃ (b : Nat) (z : Int32) (y5 y6 y7 y8 y9 : Option zV), c = eK K - b ∧ b ≤ eK K ∧ ls = [some (vR 20 0 y), some (vI te), some (vI (nI l)), some (vI (nI (btR (eR K)))), some (vI z), y5, y6, y7, y8, y9] ∧ z = nI b ∧ st = [] ∧ fm y h h1 ∧ rqF S K te s y b (b * l) (cbS (eR K) w b) h1 : Nat → zT) nn) := by
    refine zSd_loop (fun nn ih => ?_)
    have B_244 := zr_aload_n (X := X) (Y := Y) (u := 0) (v := 0) O dX11_readsAll_244 rfl (zr_dup O dX11_readsAll_245 (zr_gI (ci := 10) (j := 30) O zc_10 (by decide) rfl tw_1217 dX11_readsAll_246 (zr_iload O dX11_readsAll_249 (zr_iload_n O dX11_readsAll_251 rfl (zr_iload O dX11_readsAll_252 (zr_imul O dX11_readsAll_254 (zr_ishl O dX11_readsAll_255 (zr_ior O dX11_readsAll_256 (zr_pI (ci := 10) (j := 30) O zc_10 (by decide) rfl rfl rfl tw_1217 dX11_readsAll_257 (zr_iinc (c := 1) O dX11_readsAll_260 rfl (zr_goto (tgt := 40) O dX11_readsAll_263 rfl ih)))))))))))
    have L_208 : ∀ nn208 : Nat, zSd X Y 0 0 208 ((fun c ls st h1 => ∃ (b k : Nat) (z zk : Int32) (y7 y8 y9 : Option zV), c = l - k ∧ k ≤ l ∧ nn = eK K - b ∧ b < eK K ∧ ls = [some (vR 20 0 y), some (vI te), some (vI (nI l)), some (vI (nI (btR (eR K)))), some (vI z), some (vI (nI (dcN (eR K) (wbk (eR K) w b)))), some (vI zk), y7, y8, y9] ∧ z = nI b ∧ zk = nI k ∧ st = [] ∧ fm y h h1 ∧ rqF S K te s y b ((b + 1) * l) (cbS (eR K) w b + fb_ct (cbf (eR K) w b) k) h1 ∧ btw (lnR (eR K)) (wbk (eR K) w b) (h1.1 (y + 10)) ∧ btw (lnR (eR K)) (wdN (eR K) (dcN (eR K) (wbk (eR K) w b))) (h1.1 (y + 11)) : Nat → zT) nn208) := by
      refine zSd_loop (fun nn208 ih208 => ?_)
      have B_208 := zr_iload (X := X) (Y := Y) (u := 0) (v := 0) O dX11_readsAll_208 (zr_iload_n O dX11_readsAll_210 rfl (zr_icge (tgt := 244) O dX11_readsAll_211 rfl B_244 (zr_aload_n O dX11_readsAll_214 rfl (zr_dup O dX11_readsAll_215 (zr_gI (ci := 10) (j := 29) O zc_10 (by decide) rfl tw_1216 dX11_readsAll_216 (zr_aload_n O dX11_readsAll_219 rfl (zr_gS (ci := 10) (j := 14) (off := 11) (t := 1) (n := 7) O zc_10 (by decide) rfl tw_1201 dX11_readsAll_220 (zr_iload O dX11_readsAll_223 (zr_iald O dX11_readsAll_225 (zr_aload_n O dX11_readsAll_226 rfl (zr_gS (ci := 10) (j := 13) (off := 10) (t := 1) (n := 7) O zc_10 (by decide) rfl tw_1200 dX11_readsAll_227 (zr_iload O dX11_readsAll_230 (zr_iald O dX11_readsAll_232 (zr_ixor O dX11_readsAll_233 (zr_iadd O dX11_readsAll_234 (zr_pI (ci := 10) (j := 29) O zc_10 (by decide) rfl rfl rfl tw_1216 dX11_readsAll_235 (zr_iinc (c := 1) O dX11_readsAll_238 rfl (zr_goto (tgt := 208) O dX11_readsAll_241 rfl ih208))))))))))))))))))
      refine zSd_weak B_208 (fun ls st h1 t => ?_)
      obtain ⟨b, k, z, zk, y7, y8, y9, rfl, hk, en, hb, rfl, rfl, rfl, rfl, f1, ⟨q1, q2, q3, q4⟩, b1, b2⟩ := t
      refine ⟨fun c => ?_, fun c => ?_⟩
      · have := (nI_leI (by omega) (by omega)).mp c
        have hk2 : k = l := by omega
        subst hk2
        have hb1 : b * btR (eR K) + btR (eR K) ≤ eK K * btR (eR K) := by rw [← Nat.succ_mul]; exact Nat.mul_le_mul_right _ hb
        have hw2 := shl_lt (x := dcN (eR K) (wbk (eR K) w b)) (n := b) (k := 16) dcN_lt (by omega)
        refine ⟨eK K - (b + 1), by omega, b + 1, _, _, _, _, _, _, rfl, by omega, rfl, nI_1 b, rfl, fm_t f1 (fm_I _ _ (by omega)), ?_, ?_, ?_, ?_⟩
        · rw [zsI_at _ _ _ _ _ (by decide)]; exact q1
        · rw [zsI_at _ _ _ _ _ (by decide)]; exact q2
        · rw [zsI_at _ _ _ _ _ (by decide), q3, cbS, cbS, fb_sm_succ, ← el]
        · rw [zsI_me, q4, scN, ← ew]
          show nI (scN (eR K) w b) ||| (nI (dcN (eR K) (wbk (eR K) w b)) <<< ((nI (btR (eR K)) * nI b) &&& 31)) = _
          rw [pk_mul, Nat.mul_comm (btR (eR K)), shlI (by omega) (by omega), fa_or]
      · have hk2 : k < l := Nat.not_le.mp (fun z => c ((nI_leI (by omega) (by omega)).mpr z))
        refine ⟨k, rfl, by omega, k, rfl, by omega, l - (k + 1), by omega, b, k + 1, _, _, _, _, _, rfl, by omega, en, hb, rfl, rfl, nI_1 k, rfl, fm_t f1 (fm_I _ _ (by omega)), ⟨?_, ?_, ?_, ?_⟩, ?_, ?_⟩
        · rw [zsI_at _ _ _ _ _ (by decide)]; exact q1
        · rw [zsI_at _ _ _ _ _ (by decide)]; exact q2
        · rw [zsI_me, q3, b1 k (by omega), b2 k (by omega), bI_xor, fb_ct_succ]
          show nI _ + bI (cbf (eR K) w b k) = _
          cases cbf (eR K) w b k with
          | true => rw [← Nat.add_assoc]; exact nI_1 _
          | false => exact Int32.add_zero _
        · rw [zsI_at _ _ _ _ _ (by decide)]; exact q4
        · rw [zsI_ro _ _ _ (by omega : y + 10 ≠ y)]; exact b1
        · rw [zsI_ro _ _ _ (by omega : y + 11 ≠ y)]; exact b2
    have B_208 := zSd_any L_208
    have B_179 := zr_aload_n (X := X) (Y := Y) (u := 0) (v := 0) O dX11_readsAll_179 rfl (zr_aload_n O dX11_readsAll_180 rfl (zr_gS (ci := 10) (j := 2) (off := 2) (t := 1) (n := 218) O zc_10 (by decide) rfl tw_1189 dX11_readsAll_181 (zr_bipush (x := (46)) O dX11_readsAll_184 (by decide) (zr_iald O dX11_readsAll_186 (zr_cI (zr_cV (ci := 10) (n := 1) O m_X11_decoded (bn_X11_decoded _ ⟨rfl, rfl⟩) vw_X11_decoded tw_1596 rc_X11_decoded (zrm hR rfl rfl) dX11_readsAll_187 (zr_istore O dX11_readsAll_190 (zr_aload_n O dX11_readsAll_192 rfl (zr_aload_n O dX11_readsAll_193 rfl (zr_gS (ci := 10) (j := 2) (off := 2) (t := 1) (n := 218) O zc_10 (by decide) rfl tw_1189 dX11_readsAll_194 (zr_bipush (x := (46)) O dX11_readsAll_197 (by decide) (zr_iald O dX11_readsAll_199 (zr_iload O dX11_readsAll_200 (zr_cV (ci := 10) (n := 2) O m_X11_words (bn_X11_words _ ⟨rfl, rfl⟩) vw_X11_words tw_1448 rc_X11_words (zrm hR rfl rfl) dX11_readsAll_202 (zr_iconst (x := 0) O dX11_readsAll_205 rfl (zr_istore O dX11_readsAll_206 (B_208)))))))))))))))))
    have L_57 : ∀ nn57 : Nat, zSd X Y 0 0 57 ((fun c ls st h1 => ∃ (b k : Nat) (z zk : Int32) (y6 y7 y8 y9 : Option zV), c = l - k ∧ k ≤ l ∧ nn = eK K - b ∧ b < eK K ∧ ls = [some (vR 20 0 y), some (vI te), some (vI (nI l)), some (vI (nI (btR (eR K)))), some (vI z), some (vI zk), y6, y7, y8, y9] ∧ z = nI b ∧ zk = nI k ∧ st = [] ∧ fm y h h1 ∧ rqF S K te s y b (b * l + k) (cbS (eR K) w b) h1 ∧ ∀ j, j < k → h1.1 (y + 10) j = bI (w.testBit (b * l + j)) : Nat → zT) nn57) := by
      refine zSd_loop (fun nn57 ih57 => ?_)
      have B_57 := zr_iload (X := X) (Y := Y) (u := 0) (v := 0) O dX11_readsAll_57 (zr_iload_n O dX11_readsAll_59 rfl (zr_icge (tgt := 179) O dX11_readsAll_60 rfl B_179 (zr_iload_n O dX11_readsAll_63 rfl (zr_iload O dX11_readsAll_64 (zr_imul O dX11_readsAll_66 (zr_iload O dX11_readsAll_67 (zr_iadd O dX11_readsAll_69 (zr_istore O dX11_readsAll_70 (zr_aload_n O dX11_readsAll_72 rfl (zr_gS (ci := 10) (j := 2) (off := 2) (t := 1) (n := 218) O zc_10 (by decide) rfl tw_1189 dX11_readsAll_73 (zr_bipush (x := (49)) O dX11_readsAll_76 (by decide) (zr_iload O dX11_readsAll_78 (zr_iadd O dX11_readsAll_80 (zr_iald O dX11_readsAll_81 (zr_istore O dX11_readsAll_82 (zr_aload_n O dX11_readsAll_84 rfl (zr_aload_n O dX11_readsAll_85 rfl (zr_gS (ci := 10) (j := 5) (off := 5) (t := 1) (n := 28) O zc_10 (by decide) rfl tw_1192 dX11_readsAll_86 (zr_iload O dX11_readsAll_89 (zr_iald O dX11_readsAll_91 (zr_iload_n O dX11_readsAll_92 rfl (zr_cV (ci := 10) (n := 2) O m_X11_drawn (bn_X11_drawn _ ⟨rfl, rfl⟩) vw_X11_drawn tw_1591 rc_X11_drawn (zrm hR rfl rfl) dX11_readsAll_93 (zr_istore O dX11_readsAll_96 (zr_iload O dX11_readsAll_98 (zr_aload_n O dX11_readsAll_100 rfl (zr_aload_n O dX11_readsAll_101 rfl (zr_gS (ci := 10) (j := 6) (off := 6) (t := 1) (n := 28) O zc_10 (by decide) rfl tw_1193 dX11_readsAll_102 (zr_iload O dX11_readsAll_105 (zr_iald O dX11_readsAll_107 (zr_iload_n O dX11_readsAll_108 rfl (zr_cV (ci := 10) (n := 2) O m_X11_drawn (bn_X11_drawn _ ⟨rfl, rfl⟩) vw_X11_drawn tw_1591 rc_X11_drawn (zrm hR rfl rfl) dX11_readsAll_109 (zr_aload_n O dX11_readsAll_112 rfl (zr_gS (ci := 10) (j := 5) (off := 5) (t := 1) (n := 28) O zc_10 (by decide) rfl tw_1192 dX11_readsAll_113 (zr_iload O dX11_readsAll_116 (zr_iald O dX11_readsAll_118 (zr_aload_n O dX11_readsAll_119 rfl (zr_gS (ci := 10) (j := 6) (off := 6) (t := 1) (n := 28) O zc_10 (by decide) rfl tw_1193 dX11_readsAll_120 (zr_iload O dX11_readsAll_123 (zr_iald O dX11_readsAll_125 (zr_cI (zr_cS (n := 4) O m_X11_bitBy (bn_X11_bitBy _ ⟨rfl, rfl⟩) tw_1428 tw_1427 (zrm hR rfl rfl) dX11_readsAll_126 (zr_istore O dX11_readsAll_129 (zr_aload_n O dX11_readsAll_131 rfl (zr_dup O dX11_readsAll_132 (zr_gI (ci := 10) (j := 28) O zc_10 (by decide) rfl tw_1215 dX11_readsAll_133 (zr_iload O dX11_readsAll_136 (zr_aload_n O dX11_readsAll_138 rfl (zr_gS (ci := 10) (j := 2) (off := 2) (t := 1) (n := 218) O zc_10 (by decide) rfl tw_1189 dX11_readsAll_139 (zr_bipush (x := (77)) O dX11_readsAll_142 (by decide) (zr_iload O dX11_readsAll_144 (zr_iadd O dX11_readsAll_146 (zr_iald O dX11_readsAll_147 (zr_ixor O dX11_readsAll_148 (zr_iadd O dX11_readsAll_149 (zr_pI (ci := 10) (j := 28) O zc_10 (by decide) rfl rfl rfl tw_1215 dX11_readsAll_150 (zr_aload_n O dX11_readsAll_153 rfl (zr_gS (ci := 10) (j := 13) (off := 10) (t := 1) (n := 7) O zc_10 (by decide) rfl tw_1200 dX11_readsAll_154 (zr_iload O dX11_readsAll_157 (zr_iload O dX11_readsAll_159 (zr_aload_n O dX11_readsAll_161 rfl (zr_gS (ci := 10) (j := 2) (off := 2) (t := 1) (n := 218) O zc_10 (by decide) rfl tw_1189 dX11_readsAll_162 (zr_bipush (x := (105)) O dX11_readsAll_165 (by decide) (zr_iload O dX11_readsAll_167 (zr_iadd O dX11_readsAll_169 (zr_iald O dX11_readsAll_170 (zr_ixor O dX11_readsAll_171 (zr_iast O dX11_readsAll_172 (zr_iinc (c := 1) O dX11_readsAll_173 rfl (zr_goto (tgt := 57) O dX11_readsAll_176 rfl ih57)))))))))))))))))))))))))))))))))))))))))))))))))))))))))))))))))))))
      refine zSd_weak B_57 (fun ls st h1 t => ?_)
      obtain ⟨b, k, z, zk, y6, y7, y8, y9, rfl, hk, en, hb, rfl, rfl, rfl, rfl, f1, ⟨q1, q2, q3, q4⟩, hpl⟩ := t
      have hS1 := rmS_fm f1 hS
      have m1 : h1.1 (y + 2) = h.1 (y + 2) := f1.2.2.2 2 (by omega)
      have hbl : b * l + l ≤ eN K := by rw [hn, ← Nat.succ_mul]; exact Nat.mul_le_mul_right _ hb
      refine ⟨fun c => ?_, fun c => ?_⟩
      · have := (nI_leI (by omega) (by omega)).mp c
        have hk2 : k = l := by omega
        subst hk2
        have wbt : btw (lnR (eR K)) (wbk (eR K) w b) (h1.1 (y + 10)) := fun j hj => by
          rw [wbk_bit, decide_eq_true hj, Bool.true_and, ← el]; exact hpl j (by rw [el]; exact hj)
        have wlt : wbk (eR K) w b < 2 ^ lnR (eR K) := Nat.mod_lt _ (Nat.two_pow_pos _)
        refine ⟨46, rfl, by decide, (y, eR K, wbk (eR K) w b), by rw [m1, a1]; rfl, ⟨hr, wlt, wbt⟩, 46, rfl, by decide, (y, eR K, dcN (eR K) (wbk (eR K) w b)), by rw [m1, a1]; rfl, ⟨hr, dcN_lt⟩, fun o h2 hq => ?_⟩
        obtain ⟨rfl, u, e2, hu⟩ := hq
        replace e2 : h2 = zsW h1 (y + 11) u := e2
        have f2 : fm y h h2 := by rw [e2]; exact fm_t f1 (fm_W _ _ (by omega))
        have r2 : h2.1 y = h1.1 y := by rw [e2]; exact zsW_n _ _ (by omega)
        refine ⟨k - 0, b, 0, _, _, _, _, _, rfl, Nat.zero_le _, en, hb, rfl, rfl, rfl, rfl, f2, ⟨by rw [r2, Nat.succ_mul]; exact q1, by rw [r2, Nat.succ_mul]; exact q2, by rw [r2]; exact q3, by rw [r2]; exact q4⟩, ?_, ?_⟩
        · rw [e2, zsW_n _ _ (by omega)]; exact wbt
        · rw [e2, zsW_s]; exact hu
      · have hk2 : k < l := Nat.not_le.mp (fun z => c ((nI_leI (by omega) (by omega)).mpr z))
        have hat : b * l + k < eN K := by omega
        have eat : nI l * nI b + nI k = nI (b * l + k) := by rw [nI_mul, nI_add, Nat.mul_comm]
        obtain ⟨c1, c2, c3, -⟩ := a4 _ hat
        have hp := hP _ hat
        obtain ⟨⟨p1, p2⟩, p3, p4⟩ := hS1.2.2.2.1 _ hp
        have ep : h1.1 (y + 2) (49 + (b * l + k)) = nI (eP K (b * l + k)) := by rw [m1]; exact c1
        have i49 : (49 : Int32) + (nI l * nI b + nI k) = nI (49 + (b * l + k)) := by rw [eat]; exact lI 49 _
        have i77 : (77 : Int32) + (nI l * nI b + nI k) = nI (77 + (b * l + k)) := by rw [eat]; exact lI 77 _
        have i105 : (105 : Int32) + (nI l * nI b + nI k) = nI (105 + (b * l + k)) := by rw [eat]; exact lI 105 _
        refine ⟨49 + (b * l + k), i49, by omega, eP K (b * l + k), ep, by omega, (S, y, dF S (eP K (b * l + k)), te), by rw [p1]; rfl, ⟨hS1, p2, hv⟩, fun o h2 hq => ?_⟩
        obtain ⟨rfl, e2⟩ := hq
        replace e2 : h2 = zsI h1 y 27 (rdS S (dF S (eP K (b * l + k))) (h1.1 y 27)) := e2
        have f2 : fm y h h2 := by rw [e2]; exact fm_t f1 (fm_I _ _ (by omega))
        have hS2 := rmS_fm f2 hS
        have r6 : h2.1 (y + 6) = h1.1 (y + 6) := by rw [e2]; exact zsI_ro _ _ _ (by omega)
        have s2 : h2.1 y 27 = rdS S (dF S (eP K (b * l + k))) (h1.1 y 27) := by rw [e2]; exact zsI_me _ _ _ _
        refine ⟨eP K (b * l + k), ep, by omega, (S, y, dS S (eP K (b * l + k)), te), by rw [r6, p3]; rfl, ⟨hS2, p4, hv⟩, fun o h3 hq => ?_⟩
        obtain ⟨rfl, e3⟩ := hq
        replace e3 : h3 = zsI h2 y 27 (rdS S (dS S (eP K (b * l + k))) (h2.1 y 27)) := e3
        have f3 : fm y h h3 := by rw [e3]; exact fm_t f2 (fm_I _ _ (by omega))
        have m3 : h3.1 (y + 2) = h.1 (y + 2) := f3.2.2.2 2 (by omega)
        have r5 : h3.1 (y + 5) = h1.1 (y + 5) := by rw [f3.2.2.2 5 (by omega), f1.2.2.2 5 (by omega)]
        have r63 : h3.1 (y + 6) = h1.1 (y + 6) := by rw [f3.2.2.2 6 (by omega), f1.2.2.2 6 (by omega)]
        have o3 : ∀ j, j ≠ 27 → h3.1 y j = h1.1 y j := fun j hj => by rw [e3, zsI_at _ _ _ _ _ hj, e2, zsI_at _ _ _ _ _ hj]
        have s3 : h3.1 y 27 = (rdN S K te s (b * l + (k + 1))).1 := by
          rw [e3, zsI_me, s2, q1]; rfl
        have r103 : h3.1 (y + 10) = h1.1 (y + 10) := by rw [e3, zsI_ro _ _ _ (by omega : y + 10 ≠ y), e2, zsI_ro _ _ _ (by omega : y + 10 ≠ y)]
        obtain ⟨u, eu⟩ : ∃ u : Int32, u = bI (rbt S K te s (b * l + k)) := ⟨_, rfl⟩
        have ebit : bby (rdV S (dF S (eP K (b * l + k))) te (h1.1 y 27)) (rdV S (dS S (eP K (b * l + k))) te (h2.1 y 27)) (dF S (eP K (b * l + k))) (dS S (eP K (b * l + k))) = u := by
          rw [s2, q1, eu]
          exact bby_b _ _ _ _
        refine ⟨eP K (b * l + k), ep, by omega, eP K (b * l + k), ep, by omega, (rdV S (dF S (eP K (b * l + k))) te (h1.1 y 27), rdV S (dS S (eP K (b * l + k))) te (h2.1 y 27), dF S (eP K (b * l + k)), dS S (eP K (b * l + k))), by rw [r5, r63, p1, p3]; rfl, ⟨by omega, by omega⟩, ?_⟩
        show zi_ist _ _ _ (.inl (bby (rdV S (dF S (eP K (b * l + k))) te (h1.1 y 27)) (rdV S (dS S (eP K (b * l + k))) te (h2.1 y 27)) (dF S (eP K (b * l + k))) (dS S (eP K (b * l + k)))) :: _) _
        rw [ebit]
        refine ⟨77 + (b * l + k), i77, by omega, 105 + (b * l + k), i105, by omega, k, rfl, by omega, l - (k + 1), by omega, b, k + 1, _, _, _, _, _, _, rfl, by omega, en, hb, rfl, rfl, nI_1 k, rfl, ?_, ⟨?_, ?_, ?_, ?_⟩, fun j hj => ?_⟩
        · exact fm_t (fm_t f3 (fm_I (k := 28) h3 (h3.1 y 28 + (u ^^^ h3.1 (y + 2) (77 + (b * l + k)))) (by decide))) (fm_W (j := 10) _ _ (by decide))
        · rw [zsI_ro _ _ _ (by omega : y ≠ y + 10), zsI_at _ _ _ _ _ (by decide)]; exact s3
        · rw [zsI_ro _ _ _ (by omega : y ≠ y + 10), zsI_me, o3 28 (by decide), q2, m3, c2, eu, bI_xor, ← Nat.add_assoc, fb_ct_succ]
          cases rbt S K te s (b * l + k) ^^ (eB K).testBit (b * l + k) with
          | true => exact nI_1 _
          | false => exact Int32.add_zero _
        · rw [zsI_ro _ _ _ (by omega : y ≠ y + 10), zsI_at _ _ _ _ _ (by decide), o3 29 (by decide)]; exact q3
        · rw [zsI_ro _ _ _ (by omega : y ≠ y + 10), zsI_at _ _ _ _ _ (by decide), o3 30 (by decide)]; exact q4
        · by_cases e : j = k
          · rw [e, zsI_me, zsI_ro _ _ _ (by omega : y + 2 ≠ y), m3, c3, eu, bI_xor, wbit _ hat]
          · rw [zsI_at _ _ _ _ _ e, zsI_ro _ _ _ (by omega : y + 10 ≠ y), r103]; exact hpl j (by omega)
    have B_57 := zSd_any L_57
    have B_40 := zr_iload (X := X) (Y := Y) (u := 0) (v := 0) O dX11_readsAll_40 (zr_aload_n O dX11_readsAll_42 rfl (zr_gS (ci := 10) (j := 2) (off := 2) (t := 1) (n := 218) O zc_10 (by decide) rfl tw_1189 dX11_readsAll_43 (zr_bipush (x := (45)) O dX11_readsAll_46 (by decide) (zr_iald O dX11_readsAll_48 (zr_iload_n O dX11_readsAll_49 rfl (zr_idiv O dX11_readsAll_50 (zr_icge (tgt := 266) O dX11_readsAll_51 rfl B_266 (zr_iconst (x := 0) O dX11_readsAll_54 rfl (zr_istore O dX11_readsAll_55 (B_57))))))))))
    refine zSd_weak B_40 (fun ls st h1 t => ?_)
    obtain ⟨b, z, y5, y6, y7, y8, y9, rfl, hb, rfl, rfl, rfl, f1, q1, q2, q3, q4⟩ := t
    have m1 : h1.1 (y + 2) = h.1 (y + 2) := f1.2.2.2 2 (by omega)
    have ed : h1.1 (y + 2) 45 / nI l = nI (eK K) := by
      rw [m1, hE.1, pk_div (by omega) (by omega) (by omega), el, eN_div hE.2.1 h0]
    refine ⟨45, rfl, by decide, nI_ne0 (by omega) (by omega), fun c => ?_, fun c => ?_⟩
    · rw [ed] at c
      have := (nI_leI (by omega) (by omega)).mp c
      have hb2 : b = eK K := by omega
      subst hb2
      rw [← hn] at q1 q2
      exact ⟨rfl, f1, by rw [← es]; exact q1, by rw [← es, q2, rdR_e hE.2.1 h0], by rw [← es, q3, rdC_e hE.2.1 h0, ew], by rw [← es, q4]; rfl⟩
    · rw [ed] at c
      have hb2 : b < eK K := Nat.not_le.mp (fun z => c ((nI_leI (by omega) (by omega)).mpr z))
      exact ⟨l - 0, b, 0, _, _, _, _, _, _, rfl, Nat.zero_le _, rfl, hb2, rfl, rfl, rfl, rfl, f1, ⟨q1, q2, q3, q4⟩, fun j hj => absurd hj (Nat.not_lt_zero _)⟩
  have B_40 := zSd_any L_40
  have B_0 := zr_aload_n (X := X) (Y := Y) (u := 0) (v := 0) O dX11_readsAll_0 rfl (zr_iconst (x := 0) O dX11_readsAll_1 rfl (zr_pI (ci := 10) (j := 28) O zc_10 (by decide) rfl rfl rfl tw_1215 dX11_readsAll_2 (zr_aload_n O dX11_readsAll_5 rfl (zr_iconst (x := 0) O dX11_readsAll_6 rfl (zr_pI (ci := 10) (j := 29) O zc_10 (by decide) rfl rfl rfl tw_1216 dX11_readsAll_7 (zr_aload_n O dX11_readsAll_10 rfl (zr_iconst (x := 0) O dX11_readsAll_11 rfl (zr_pI (ci := 10) (j := 30) O zc_10 (by decide) rfl rfl rfl tw_1217 dX11_readsAll_12 (zr_aload_n O dX11_readsAll_15 rfl (zr_gS (ci := 10) (j := 2) (off := 2) (t := 1) (n := 218) O zc_10 (by decide) rfl tw_1189 dX11_readsAll_16 (zr_bipush (x := (46)) O dX11_readsAll_19 (by decide) (zr_iald O dX11_readsAll_21 (zr_cI (zr_cS (n := 1) O m_X11_wideBy (bn_X11_wideBy _ ⟨rfl, rfl⟩) tw_1439 tw_1438 (zrm hR rfl rfl) dX11_readsAll_22 (zr_istore_n O dX11_readsAll_25 rfl (zr_aload_n O dX11_readsAll_26 rfl (zr_gS (ci := 10) (j := 2) (off := 2) (t := 1) (n := 218) O zc_10 (by decide) rfl tw_1189 dX11_readsAll_27 (zr_bipush (x := (46)) O dX11_readsAll_30 (by decide) (zr_iald O dX11_readsAll_32 (zr_cI (zr_cS (n := 1) O m_X11_givesBy (bn_X11_givesBy _ ⟨rfl, rfl⟩) tw_1442 tw_1441 (zrm hR rfl rfl) dX11_readsAll_33 (zr_istore_n O dX11_readsAll_36 rfl (zr_iconst (x := 0) O dX11_readsAll_37 rfl (zr_istore O dX11_readsAll_38 (B_40)))))))))))))))))))))))))
  refine ⟨rfl, Nat.le_of_ble_eq_true rfl, _, B_0, ?_⟩
  obtain ⟨H0, e0⟩ : ∃ H0 : zH, H0 = zsI (zsI (zsI h y 28 0) y 29 0) y 30 0 := ⟨_, rfl⟩
  have f0 : fm y h H0 := by rw [e0]; exact fm_t (fm_t (fm_I _ _ (by omega)) (fm_I _ _ (by omega))) (fm_I _ _ (by omega))
  have m0 : H0.1 (y + 2) = h.1 (y + 2) := f0.2.2.2 2 (by omega)
  have g27 : H0.1 y 27 = s := by rw [e0, zsI_at _ _ _ _ _ (by decide), zsI_at _ _ _ _ _ (by decide), zsI_at _ _ _ _ _ (by decide), es]
  have g28 : H0.1 y 28 = 0 := by rw [e0, zsI_at _ _ _ _ _ (by decide), zsI_at _ _ _ _ _ (by decide), zsI_me]
  have g29 : H0.1 y 29 = 0 := by rw [e0, zsI_at _ _ _ _ _ (by decide), zsI_me]
  have g30 : H0.1 y 30 = 0 := by rw [e0, zsI_me]
  refine ⟨46, rfl, by decide, eR K, ?_, vRp_8 hr, 46, rfl, by decide, eR K, ?_, vRp_8 hr, ?_⟩
  · rw [← e0, m0, a1]; rfl
  · rw [← e0, m0, a1]; rfl
  · rw [← e0]
    refine ⟨eK K - 0, 0, _, none, none, none, none, none, rfl, Nat.zero_le _, ?_, rfl, rfl, f0, ?_⟩
    · show [_, _, some (vI (nI (lnR (eR K)))), _, _, _, _, _, _, _] = _
      rw [← el]; rfl
    · rw [Nat.zero_mul]
      exact ⟨g27, g28, g29, g30⟩
def ca_X11_isRefused : (zE × Nat × Nat) → List zV := fun (K, y, x) => [vR 20 0 y]
def cp_X11_isRefused : (zE × Nat × Nat) → zH → Prop := fun (K, y, x) h => rmE K (h.1 (y + 2)) ∧ 0 < eN K ∧ h.1 y 30 = nI x ∧ x < 2 ^ 16
def cf_X11_isRefused : (zE × Nat × Nat) → zH → Int32 := fun (K, y, x) _ => bI (decide (ckW 0 x (eK K * btR (eR K)) ≠ eC K))
theorem rc_X11_isRefused : ∀ x : (zE × Nat × Nat), ∃ (j a : Nat) (As : List zV), ca_X11_isRefused x = vR (10 + 10) j a :: As := by
  rintro ⟨K, y, x⟩
  exact ⟨_, _, _, rfl⟩
set_option maxHeartbeats 4000000 in
set_option maxRecDepth 100000 in
theorem m_X11_isRefused : zM yX11_isRefused cX11_isRefused 1 (some .boolean) ({ frames := 2, cells := 0, slots := 0, locals := 40 } : Room) (zcI ca_X11_isRefused cp_X11_isRefused cf_X11_isRefused) := by
  refine zM_of (by decide) ?_
  rintro X Y ⟨K, y, x⟩ h ⟨hE, h0, hx, hx2⟩ O E hR
  have B_26 := zr_zreturn (X := X) (Y := Y) (u := 0) (v := 0) O E (Nat.le_refl _) (Nat.le_refl _) dX11_isRefused_26
  have B_25 := zr_iconst (X := X) (Y := Y) (u := 0) (v := 0) (x := 0) O dX11_isRefused_25 rfl (B_26)
  have B_0 := zr_aload_n (X := X) (Y := Y) (u := 0) (v := 0) O dX11_isRefused_0 rfl (zr_gI (ci := 10) (j := 30) O zc_10 (by decide) rfl tw_1217 dX11_isRefused_1 (zr_aload_n O dX11_isRefused_4 rfl (zr_cI (zr_cV (ci := 10) (n := 0) O m_X11_keptBits (bn_X11_keptBits _ ⟨rfl, rfl⟩) vw_X11_keptBits tw_1499 rc_X11_keptBits (zrm hR rfl rfl) dX11_isRefused_5 (zr_cI (zr_cS (n := 2) O m_X11_checkOf (bn_X11_checkOf _ ⟨rfl, rfl⟩) tw_1453 tw_1452 (zrm hR rfl rfl) dX11_isRefused_8 (zr_aload_n O dX11_isRefused_11 rfl (zr_gS (ci := 10) (j := 2) (off := 2) (t := 1) (n := 218) O zc_10 (by decide) rfl tw_1189 dX11_isRefused_12 (zr_bipush (x := (48)) O dX11_isRefused_15 (by decide) (zr_iald O dX11_isRefused_17 (zr_iceq (tgt := 25) O dX11_isRefused_18 rfl B_25 (zr_iconst (x := 1) O dX11_isRefused_21 rfl (zr_goto (tgt := 26) O dX11_isRefused_22 rfl B_26)))))))))))))
  refine ⟨rfl, Nat.le_of_ble_eq_true rfl, _, B_0, ?_⟩
  have hE : rmE K (h.1 (y + 2)) := hE
  have h0 : 0 < eN K := h0
  have hx : h.1 y 30 = nI x := hx
  have hx2 : x < 2 ^ 16 := hx2
  obtain ⟨⟨-, -, a3⟩, -⟩ := hE.2.2 h0
  obtain ⟨-, hr, hn, hbt, -, -, hc⟩ := hE.2.1.2 h0
  have hk := ckW_lt (c := 0) (by decide) x (eK K * btR (eR K))
  refine ⟨(K, y), rfl, ⟨hE, h0⟩, (x, eK K * btR (eR K)), by rw [hx]; rfl, ⟨by show x < _; omega, hbt⟩, 48, rfl, by decide, fun c => ⟨Or.inl rfl, zri ?_, rfl⟩, fun c => ⟨Or.inr rfl, zri ?_, rfl⟩⟩
  · replace c : nI (ckW 0 x (eK K * btR (eR K))) = h.1 (y + 2) 48 := c
    rw [a3] at c
    have := (nI_eq (by omega) (by omega)).mp c
    show (0 : Int32) = bI (decide (ckW 0 x (eK K * btR (eR K)) ≠ eC K))
    rw [decide_eq_false (fun z => z this)]; rfl
  · replace c : ¬ nI (ckW 0 x (eK K * btR (eR K))) = h.1 (y + 2) 48 := c
    rw [a3] at c
    show (1 : Int32) = bI (decide (ckW 0 x (eK K * btR (eR K)) ≠ eC K))
    rw [decide_eq_true (show ckW 0 x (eK K * btR (eR K)) ≠ eC K from fun z => c (by rw [z]))]; rfl

