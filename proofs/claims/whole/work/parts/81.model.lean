theorem dX11_curve_287 : decode cX11_curve 287 = .ok (.ireturn, 1) := by decide +kernel
theorem dX11_curve_285 : decode cX11_curve 285 = .ok (.iload 5, 2) := by decide +kernel
theorem dX11_curve_275 : decode cX11_curve 275 = .ok (.iload_n 2, 1) := by decide +kernel
theorem dX11_curve_276 : decode cX11_curve 276 = .ok (.iconst 1, 1) := by decide +kernel
theorem dX11_curve_277 : decode cX11_curve 277 = .ok (.if_icmp .ne 8, 3) := by decide +kernel
theorem dX11_curve_280 : decode cX11_curve 280 = .ok (.iload 4, 2) := by decide +kernel
theorem dX11_curve_282 : decode cX11_curve 282 = .ok (.goto 5, 3) := by decide +kernel
theorem dX11_curve_267 : decode cX11_curve 267 = .ok (.iload_n 2, 1) := by decide +kernel
theorem dX11_curve_268 : decode cX11_curve 268 = .ok (.ifCond .ne 7, 3) := by decide +kernel
theorem dX11_curve_271 : decode cX11_curve 271 = .ok (.iload_n 3, 1) := by decide +kernel
theorem dX11_curve_272 : decode cX11_curve 272 = .ok (.goto 15, 3) := by decide +kernel
theorem dX11_curve_239 : decode cX11_curve 239 = .ok (.iload 6, 2) := by decide +kernel
theorem dX11_curve_241 : decode cX11_curve 241 = .ok (.sipush 218, 3) := by decide +kernel
theorem dX11_curve_244 : decode cX11_curve 244 = .ok (.if_icmp .ge 23, 3) := by decide +kernel
theorem dX11_curve_247 : decode cX11_curve 247 = .ok (.aload_n 0, 1) := by decide +kernel
theorem dX11_curve_248 : decode cX11_curve 248 = .ok (.getfield 17, 3) := by decide +kernel
theorem dX11_curve_251 : decode cX11_curve 251 = .ok (.iload 6, 2) := by decide +kernel
theorem dX11_curve_253 : decode cX11_curve 253 = .ok (.aload_n 0, 1) := by decide +kernel
theorem dX11_curve_254 : decode cX11_curve 254 = .ok (.getfield 67, 3) := by decide +kernel
theorem dX11_curve_257 : decode cX11_curve 257 = .ok (.iload 6, 2) := by decide +kernel
theorem dX11_curve_259 : decode cX11_curve 259 = .ok (.iaload, 1) := by decide +kernel
theorem dX11_curve_260 : decode cX11_curve 260 = .ok (.iastore, 1) := by decide +kernel
theorem dX11_curve_261 : decode cX11_curve 261 = .ok (.iinc 6 1, 3) := by decide +kernel
theorem dX11_curve_264 : decode cX11_curve 264 = .ok (.goto (-25), 3) := by decide +kernel
theorem dX11_curve_236 : decode cX11_curve 236 = .ok (.iconst 0, 1) := by decide +kernel
theorem dX11_curve_237 : decode cX11_curve 237 = .ok (.istore 6, 2) := by decide +kernel
theorem dX11_curve_230 : decode cX11_curve 230 = .ok (.iinc 6 1, 3) := by decide +kernel
theorem dX11_curve_233 : decode cX11_curve 233 = .ok (.goto (-62), 3) := by decide +kernel
theorem dX11_curve_227 : decode cX11_curve 227 = .ok (.iadd, 1) := by decide +kernel
theorem dX11_curve_228 : decode cX11_curve 228 = .ok (.istore 5, 2) := by decide +kernel
theorem dX11_curve_226 : decode cX11_curve 226 = .ok (.iconst 0, 1) := by decide +kernel
theorem dX11_curve_211 : decode cX11_curve 211 = .ok (.iadd, 1) := by decide +kernel
theorem dX11_curve_212 : decode cX11_curve 212 = .ok (.istore 4, 2) := by decide +kernel
theorem dX11_curve_214 : decode cX11_curve 214 = .ok (.iload 5, 2) := by decide +kernel
theorem dX11_curve_216 : decode cX11_curve 216 = .ok (.iload 6, 2) := by decide +kernel
theorem dX11_curve_218 : decode cX11_curve 218 = .ok (.iload_n 1, 1) := by decide +kernel
theorem dX11_curve_219 : decode cX11_curve 219 = .ok (.if_icmp .ge 7, 3) := by decide +kernel
theorem dX11_curve_222 : decode cX11_curve 222 = .ok (.iconst 1, 1) := by decide +kernel
theorem dX11_curve_223 : decode cX11_curve 223 = .ok (.goto 4, 3) := by decide +kernel
theorem dX11_curve_210 : decode cX11_curve 210 = .ok (.iconst 1, 1) := by decide +kernel
theorem dX11_curve_198 : decode cX11_curve 198 = .ok (.iload 4, 2) := by decide +kernel
theorem dX11_curve_200 : decode cX11_curve 200 = .ok (.iload 6, 2) := by decide +kernel
theorem dX11_curve_202 : decode cX11_curve 202 = .ok (.iload_n 1, 1) := by decide +kernel
theorem dX11_curve_203 : decode cX11_curve 203 = .ok (.if_icmp .ge 7, 3) := by decide +kernel
theorem dX11_curve_206 : decode cX11_curve 206 = .ok (.iconst 0, 1) := by decide +kernel
theorem dX11_curve_207 : decode cX11_curve 207 = .ok (.goto 4, 3) := by decide +kernel
theorem dX11_curve_171 : decode cX11_curve 171 = .ok (.iload 6, 2) := by decide +kernel
theorem dX11_curve_173 : decode cX11_curve 173 = .ok (.aload_n 0, 1) := by decide +kernel
theorem dX11_curve_174 : decode cX11_curve 174 = .ok (.getfield 103, 3) := by decide +kernel
theorem dX11_curve_177 : decode cX11_curve 177 = .ok (.if_icmp .ge 59, 3) := by decide +kernel
theorem dX11_curve_180 : decode cX11_curve 180 = .ok (.aload_n 0, 1) := by decide +kernel
theorem dX11_curve_181 : decode cX11_curve 181 = .ok (.iload 6, 2) := by decide +kernel
theorem dX11_curve_183 : decode cX11_curve 183 = .ok (.invokevirtual 257, 3) := by decide +kernel
theorem dX11_curve_186 : decode cX11_curve 186 = .ok (.aload_n 0, 1) := by decide +kernel
theorem dX11_curve_187 : decode cX11_curve 187 = .ok (.iload 6, 2) := by decide +kernel
theorem dX11_curve_189 : decode cX11_curve 189 = .ok (.invokevirtual 85, 3) := by decide +kernel
theorem dX11_curve_192 : decode cX11_curve 192 = .ok (.if_icmp .eq 6, 3) := by decide +kernel
theorem dX11_curve_195 : decode cX11_curve 195 = .ok (.goto 35, 3) := by decide +kernel
theorem dX11_curve_162 : decode cX11_curve 162 = .ok (.iconst 0, 1) := by decide +kernel
theorem dX11_curve_163 : decode cX11_curve 163 = .ok (.istore 4, 2) := by decide +kernel
theorem dX11_curve_165 : decode cX11_curve 165 = .ok (.iconst 0, 1) := by decide +kernel
theorem dX11_curve_166 : decode cX11_curve 166 = .ok (.istore 5, 2) := by decide +kernel
theorem dX11_curve_168 : decode cX11_curve 168 = .ok (.iconst 0, 1) := by decide +kernel
theorem dX11_curve_169 : decode cX11_curve 169 = .ok (.istore 6, 2) := by decide +kernel
theorem dX11_curve_143 : decode cX11_curve 143 = .ok (.aload_n 0, 1) := by decide +kernel
theorem dX11_curve_144 : decode cX11_curve 144 = .ok (.invokevirtual 260, 3) := by decide +kernel
theorem dX11_curve_147 : decode cX11_curve 147 = .ok (.ifCond .le 15, 3) := by decide +kernel
theorem dX11_curve_150 : decode cX11_curve 150 = .ok (.iload_n 3, 1) := by decide +kernel
theorem dX11_curve_151 : decode cX11_curve 151 = .ok (.bipush 50, 2) := by decide +kernel
theorem dX11_curve_153 : decode cX11_curve 153 = .ok (.if_icmp .ge 9, 3) := by decide +kernel
theorem dX11_curve_156 : decode cX11_curve 156 = .ok (.iinc 3 1, 3) := by decide +kernel
theorem dX11_curve_159 : decode cX11_curve 159 = .ok (.goto (-16), 3) := by decide +kernel
theorem dX11_curve_141 : decode cX11_curve 141 = .ok (.iconst 1, 1) := by decide +kernel
theorem dX11_curve_142 : decode cX11_curve 142 = .ok (.istore_n 3, 1) := by decide +kernel
theorem dX11_curve_104 : decode cX11_curve 104 = .ok (.iload_n 3, 1) := by decide +kernel
theorem dX11_curve_105 : decode cX11_curve 105 = .ok (.iload_n 1, 1) := by decide +kernel
theorem dX11_curve_106 : decode cX11_curve 106 = .ok (.if_icmp .ge 35, 3) := by decide +kernel
theorem dX11_curve_109 : decode cX11_curve 109 = .ok (.aload_n 0, 1) := by decide +kernel
theorem dX11_curve_110 : decode cX11_curve 110 = .ok (.getfield 17, 3) := by decide +kernel
theorem dX11_curve_113 : decode cX11_curve 113 = .ok (.sipush 162, 3) := by decide +kernel
theorem dX11_curve_116 : decode cX11_curve 116 = .ok (.iload_n 3, 1) := by decide +kernel
theorem dX11_curve_117 : decode cX11_curve 117 = .ok (.iadd, 1) := by decide +kernel
theorem dX11_curve_118 : decode cX11_curve 118 = .ok (.iload_n 3, 1) := by decide +kernel
theorem dX11_curve_119 : decode cX11_curve 119 = .ok (.iastore, 1) := by decide +kernel
theorem dX11_curve_120 : decode cX11_curve 120 = .ok (.aload_n 0, 1) := by decide +kernel
theorem dX11_curve_121 : decode cX11_curve 121 = .ok (.getfield 17, 3) := by decide +kernel
theorem dX11_curve_124 : decode cX11_curve 124 = .ok (.sipush 190, 3) := by decide +kernel
theorem dX11_curve_127 : decode cX11_curve 127 = .ok (.iload_n 3, 1) := by decide +kernel
theorem dX11_curve_128 : decode cX11_curve 128 = .ok (.iadd, 1) := by decide +kernel
theorem dX11_curve_129 : decode cX11_curve 129 = .ok (.aload_n 0, 1) := by decide +kernel
theorem dX11_curve_130 : decode cX11_curve 130 = .ok (.iload_n 3, 1) := by decide +kernel
theorem dX11_curve_131 : decode cX11_curve 131 = .ok (.invokevirtual 85, 3) := by decide +kernel
theorem dX11_curve_134 : decode cX11_curve 134 = .ok (.iastore, 1) := by decide +kernel
theorem dX11_curve_135 : decode cX11_curve 135 = .ok (.iinc 3 1, 3) := by decide +kernel
theorem dX11_curve_138 : decode cX11_curve 138 = .ok (.goto (-34), 3) := by decide +kernel
theorem dX11_curve_93 : decode cX11_curve 93 = .ok (.aload_n 0, 1) := by decide +kernel
theorem dX11_curve_94 : decode cX11_curve 94 = .ok (.getfield 17, 3) := by decide +kernel
theorem dX11_curve_97 : decode cX11_curve 97 = .ok (.sipush 161, 3) := by decide +kernel
theorem dX11_curve_100 : decode cX11_curve 100 = .ok (.iload_n 1, 1) := by decide +kernel
theorem dX11_curve_101 : decode cX11_curve 101 = .ok (.iastore, 1) := by decide +kernel
theorem dX11_curve_102 : decode cX11_curve 102 = .ok (.iconst 0, 1) := by decide +kernel
theorem dX11_curve_103 : decode cX11_curve 103 = .ok (.istore_n 3, 1) := by decide +kernel
theorem dX11_curve_71 : decode cX11_curve 71 = .ok (.iload_n 3, 1) := by decide +kernel
theorem dX11_curve_72 : decode cX11_curve 72 = .ok (.bipush 10, 2) := by decide +kernel
theorem dX11_curve_74 : decode cX11_curve 74 = .ok (.if_icmp .ge 19, 3) := by decide +kernel
theorem dX11_curve_77 : decode cX11_curve 77 = .ok (.aload_n 0, 1) := by decide +kernel
theorem dX11_curve_78 : decode cX11_curve 78 = .ok (.getfield 17, 3) := by decide +kernel
theorem dX11_curve_81 : decode cX11_curve 81 = .ok (.bipush 35, 2) := by decide +kernel
theorem dX11_curve_83 : decode cX11_curve 83 = .ok (.iload_n 3, 1) := by decide +kernel
theorem dX11_curve_84 : decode cX11_curve 84 = .ok (.iadd, 1) := by decide +kernel
theorem dX11_curve_85 : decode cX11_curve 85 = .ok (.iconst 0, 1) := by decide +kernel
theorem dX11_curve_86 : decode cX11_curve 86 = .ok (.iastore, 1) := by decide +kernel
theorem dX11_curve_87 : decode cX11_curve 87 = .ok (.iinc 3 1, 3) := by decide +kernel
theorem dX11_curve_90 : decode cX11_curve 90 = .ok (.goto (-19), 3) := by decide +kernel
theorem dX11_curve_69 : decode cX11_curve 69 = .ok (.iconst 0, 1) := by decide +kernel
theorem dX11_curve_70 : decode cX11_curve 70 = .ok (.istore_n 3, 1) := by decide +kernel
theorem dX11_curve_44 : decode cX11_curve 44 = .ok (.iload_n 3, 1) := by decide +kernel
theorem dX11_curve_45 : decode cX11_curve 45 = .ok (.sipush 218, 3) := by decide +kernel
theorem dX11_curve_48 : decode cX11_curve 48 = .ok (.if_icmp .ge 21, 3) := by decide +kernel
theorem dX11_curve_51 : decode cX11_curve 51 = .ok (.aload_n 0, 1) := by decide +kernel
theorem dX11_curve_52 : decode cX11_curve 52 = .ok (.getfield 67, 3) := by decide +kernel
theorem dX11_curve_55 : decode cX11_curve 55 = .ok (.iload_n 3, 1) := by decide +kernel
theorem dX11_curve_56 : decode cX11_curve 56 = .ok (.aload_n 0, 1) := by decide +kernel
theorem dX11_curve_57 : decode cX11_curve 57 = .ok (.getfield 17, 3) := by decide +kernel
theorem dX11_curve_60 : decode cX11_curve 60 = .ok (.iload_n 3, 1) := by decide +kernel
theorem dX11_curve_61 : decode cX11_curve 61 = .ok (.iaload, 1) := by decide +kernel
theorem dX11_curve_62 : decode cX11_curve 62 = .ok (.iastore, 1) := by decide +kernel
theorem dX11_curve_63 : decode cX11_curve 63 = .ok (.iinc 3 1, 3) := by decide +kernel
theorem dX11_curve_66 : decode cX11_curve 66 = .ok (.goto (-22), 3) := by decide +kernel
theorem dX11_curve_42 : decode cX11_curve 42 = .ok (.iconst 0, 1) := by decide +kernel
theorem dX11_curve_43 : decode cX11_curve 43 = .ok (.istore_n 3, 1) := by decide +kernel
theorem dX11_curve_32 : decode cX11_curve 32 = .ok (.iconst 1, 1) := by decide +kernel
theorem dX11_curve_33 : decode cX11_curve 33 = .ok (.iconst 1, 1) := by decide +kernel
theorem dX11_curve_34 : decode cX11_curve 34 = .ok (.invokevirtual 217, 3) := by decide +kernel
theorem dX11_curve_37 : decode cX11_curve 37 = .ok (.ifCond .ne 5, 3) := by decide +kernel
theorem dX11_curve_40 : decode cX11_curve 40 = .ok (.iconst 0, 1) := by decide +kernel
theorem dX11_curve_41 : decode cX11_curve 41 = .ok (.ireturn, 1) := by decide +kernel
theorem dX11_curve_31 : decode cX11_curve 31 = .ok (.iconst 0, 1) := by decide +kernel
theorem dX11_curve_0 : decode cX11_curve 0 = .ok (.aload_n 0, 1) := by decide +kernel
theorem dX11_curve_1 : decode cX11_curve 1 = .ok (.iconst 0, 1) := by decide +kernel
theorem dX11_curve_2 : decode cX11_curve 2 = .ok (.putfield 1, 3) := by decide +kernel
theorem dX11_curve_5 : decode cX11_curve 5 = .ok (.aload_n 0, 1) := by decide +kernel
theorem dX11_curve_6 : decode cX11_curve 6 = .ok (.iload_n 1, 1) := by decide +kernel
theorem dX11_curve_7 : decode cX11_curve 7 = .ok (.iconst 0, 1) := by decide +kernel
theorem dX11_curve_8 : decode cX11_curve 8 = .ok (.aload_n 0, 1) := by decide +kernel
theorem dX11_curve_9 : decode cX11_curve 9 = .ok (.getfield 103, 3) := by decide +kernel
theorem dX11_curve_12 : decode cX11_curve 12 = .ok (.invokestatic 173, 3) := by decide +kernel
theorem dX11_curve_15 : decode cX11_curve 15 = .ok (.ifCond .eq 16, 3) := by decide +kernel
theorem dX11_curve_18 : decode cX11_curve 18 = .ok (.iload_n 2, 1) := by decide +kernel
theorem dX11_curve_19 : decode cX11_curve 19 = .ok (.iconst 0, 1) := by decide +kernel
theorem dX11_curve_20 : decode cX11_curve 20 = .ok (.iconst 2, 1) := by decide +kernel
theorem dX11_curve_21 : decode cX11_curve 21 = .ok (.invokestatic 173, 3) := by decide +kernel
theorem dX11_curve_24 : decode cX11_curve 24 = .ok (.ifCond .eq 7, 3) := by decide +kernel
theorem dX11_curve_27 : decode cX11_curve 27 = .ok (.iconst 1, 1) := by decide +kernel
theorem dX11_curve_28 : decode cX11_curve 28 = .ok (.goto 4, 3) := by decide +kernel
/-! the reference: the learning curve -/
theorem cvL_g (S : zD) : ∀ n, gW (cvL S n) = (fun _ => 0) ∧ ∀ i, i < n → gB (cvL S n) i = decide (pb S i = 1)
  | 0 => ⟨rfl, fun i hi => absurd hi (Nat.not_lt_zero _)⟩
  | n + 1 => by
    obtain ⟨h1, h2⟩ := cvL_n S n
    obtain ⟨h3, h4⟩ := cvL_g S n
    have hH : gH (cvL S n) n = false := by
      unfold gH gIx
      rw [h1]
      exact decide_eq_false (first_none (fun j hj => decide_eq_false (by rw [h2 j hj]; omega)))
    have e : cvL S (n + 1) = (gN (cvL S n) + 1, va_up (gP (cvL S n)) (gN (cvL S n)) n, va_up (gB (cvL S n)) (gN (cvL S n)) (decide (pb S n = 1)), gW (cvL S n)) := by
      rw [cvL, gkp, if_neg (by rw [hH]; exact Bool.false_ne_true)]
    rw [e]
    refine ⟨h3, fun i hi => ?_⟩
    show va_up (gB (cvL S n)) (gN (cvL S n)) (decide (pb S n = 1)) i = _
    rw [h1]
    by_cases c : i = n
    · rw [c, zup_s]
    · rw [zup_n _ _ c]; exact h4 i (by omega)
def cvP (S : zD) (n q : Nat) (m w : Int32) : Prop := m = nI n ∧ n ≤ dP S ∧ w = nI q ∧ q ≤ 2
def gfs (S : zD) (W : Nat → Int32) (n i : Nat) : Bool := decide (i < n) && decide (gss S W i = pb S i)
theorem gfs_e (S : zD) (W : Nat → Int32) {n k : Nat} (h : n ≤ k) : fb_ct (gfs S W n) k = fb_ct (grt S W 0) n := by
  rw [show k = n + (k - n) by omega, fb_ct_split]
  have h0 : fb_ct (fun i => gfs S W n (n + i)) (k - n) = 0 := fb_ct_zero.mpr (fun i _ => by unfold gfs; rw [decide_eq_false (by omega)]; rfl)
  rw [h0, Nat.add_zero]
  refine fb_ct_cong (fun i hi => ?_)
  unfold gfs grt
  rw [decide_eq_true hi, decide_eq_true (Nat.zero_le i)]
def cvA (A g : Nat → Int32) : Prop := ∀ j, j < 218 → A j = g j
def cvf (f g : Nat → Int32) : Prop := ∀ j, j < 35 ∨ 218 ≤ j → f j = g j
def crw (S : zD) (L : zG) (n : Nat) : Int32 × Int32 × Int32 := (nI (epN S L), nI (fb_ct (grt S (gW (lrW S L (epN S L))) n) (dP S)), nI (fb_ct (grt S (gW (lrW S L (epN S L))) 0) n))
theorem crv_w (S : zD) (n q : Nat) : crv S n q = if q = 0 then (crw S (cvL S n) n).1 else if q = 1 then (crw S (cvL S n) n).2.1 else (crw S (cvL S n) n).2.2 := rfl
theorem fm_A {y : Nat} {h : zH} (A f : Nat → Int32) (hf : f = h.1 (y + 2)) : fm y h (zsW (zsW h (y + 17) A) (y + 2) f) := by
  have e : zsW (zsW h (y + 17) A) (y + 2) f = zsW h (y + 17) A := by
    have := zsW_self (zsW h (y + 17) A) (y + 2)
    rw [zsW_n _ _ (by omega), ← hf] at this
    exact this
  rw [e]
  exact fm_W (j := 17) _ _ (by decide)
def ca_X11_curve : (zD × Nat × Int32 × Int32) → List zV := fun (S, y, m, w) => [vR 20 0 y, vI m, vI w]
def cp_X11_curve : (zD × Nat × Int32 × Int32) → zH → Prop := fun (S, y, m, w) h => rmS S h y
def cq_X11_curve : (zD × Nat × Int32 × Int32) → zH → Option zV → zH → Prop := fun (S, y, m, w) h r h' => fq y h h' ∧ (((gR m 0 (nI (dP S)) ∧ gR w 0 2) ∧ rok y h h' ∧ r = some (vI (crv S (cN m) (cN w)))) ∨ (¬ (gR m 0 (nI (dP S)) ∧ gR w 0 2) ∧ rno y 1 1 h h' ∧ r = some (vI 0)))
theorem rc_X11_curve : ∀ x : (zD × Nat × Int32 × Int32), ∃ (j a : Nat) (As : List zV), ca_X11_curve x = vR (10 + 10) j a :: As := by
  rintro ⟨S, y, m, w⟩
  exact ⟨_, _, _, rfl⟩
set_option maxHeartbeats 4000000 in
set_option maxRecDepth 100000 in
theorem m_X11_curve : zM yX11_curve cX11_curve 7 (some .int) ({ frames := 3, cells := 0, slots := 0, locals := 68 } : Room) ((ca_X11_curve, cp_X11_curve, cq_X11_curve) : zC (zD × Nat × Int32 × Int32)) := by
  refine zM_of (by decide) ?_
  rintro X Y ⟨S, y, m, w⟩ h hS O E hR
  have hS : rmS S h y := hS
  have hS0 := rmS_0 hS
  have hP28 := hS.2.1.2
  obtain ⟨h0, eh0⟩ : ∃ h0 : zH, h0 = zsI h y 0 0 := ⟨_, rfl⟩
  obtain ⟨g, eg⟩ : ∃ g : Nat → Int32, g = h0.1 (y + 2) := ⟨_, rfl⟩
  rw [← eh0] at hS0
  have f00 : fq y h h0 ∧ rok y h h0 := by rw [eh0]; exact fq_0 y h
  have hSf : ∀ A f : Nat → Int32, cvf f g → rmS S (zsW (zsW h0 (y + 17) A) (y + 2) f) y := fun A f hf => rmS_m (fun k hk => by rw [zsW_n _ _ (by omega), ← eg]; exact hf k (by omega)) (rmS_fm (fm_W (j := 17) _ _ (by decide)) hS0)
  have B_287 := zr_ireturn (X := X) (Y := Y) (u := 0) (v := 0) O E (Nat.le_refl _) (Nat.le_refl _) dX11_curve_287
  have B_285 := zr_iload (X := X) (Y := Y) (u := 0) (v := 0) O dX11_curve_285 (B_287)
  have B_275 := zr_iload_n (X := X) (Y := Y) (u := 0) (v := 0) O dX11_curve_275 rfl (zr_iconst (x := 1) O dX11_curve_276 rfl (zr_icne (tgt := 285) O dX11_curve_277 rfl B_285 (zr_iload O dX11_curve_280 (zr_goto (tgt := 287) O dX11_curve_282 rfl B_287))))
  have B_267 := zr_iload_n (X := X) (Y := Y) (u := 0) (v := 0) O dX11_curve_267 rfl (zr_ifne (tgt := 275) O dX11_curve_268 rfl B_275 (zr_iload_n O dX11_curve_271 rfl (zr_goto (tgt := 287) O dX11_curve_272 rfl B_287)))
  have L_239 : ∀ nn : Nat, zSd X Y 0 0 239 ((fun d ls st h1 => ∃ (n q k : Nat) (z e3 e4 e5 : Int32) (A f : Nat → Int32), d = 218 - k ∧ k ≤ 218 ∧ cvP S n q m w ∧ ls = [some (vR 20 0 y), some (vI m), some (vI w), some (vI e3), some (vI e4), some (vI e5), some (vI z)] ∧ crv S n q = (if q = 0 then e3 else if q = 1 then e4 else e5) ∧ z = nI k ∧ st = [] ∧ h1 = zsW (zsW h0 (y + 17) A) (y + 2) f ∧ cvA A g ∧ cvf f g ∧ ∀ j, j < k → f j = g j : Nat → zT) nn) := by
    refine zSd_loop (fun nn ih => ?_)
    have B_239 := zr_iload (X := X) (Y := Y) (u := 0) (v := 0) O dX11_curve_239 (zr_sipush (x := (218)) O dX11_curve_241 (by decide) (zr_icge (tgt := 267) O dX11_curve_244 rfl B_267 (zr_aload_n O dX11_curve_247 rfl (zr_gS (ci := 10) (j := 2) (off := 2) (t := 1) (n := 218) O zc_10 (by decide) rfl tw_1189 dX11_curve_248 (zr_iload O dX11_curve_251 (zr_aload_n O dX11_curve_253 rfl (zr_gS (ci := 10) (j := 34) (off := 17) (t := 1) (n := 218) O zc_10 (by decide) rfl tw_1221 dX11_curve_254 (zr_iload O dX11_curve_257 (zr_iald O dX11_curve_259 (zr_iast O dX11_curve_260 (zr_iinc (c := 1) O dX11_curve_261 rfl (zr_goto (tgt := 239) O dX11_curve_264 rfl ih))))))))))))
    refine zSd_weak B_239 (fun ls st h1 t => ?_)
    obtain ⟨n, q, k, z, e3, e4, e5, A, f, rfl, hk, ⟨em, hn, ew, hq⟩, rfl, ev, rfl, rfl, rfl, hA, hf, hg⟩ := t
    have eA : ∀ A f : Nat → Int32, (zsW (zsW h0 (y + 17) A) (y + 2) f).1 (y + 17) = A := fun A f => by rw [zsW_n _ _ (by omega), zsW_s]
    have cm : cN m = n := by rw [em]; exact nI_clamp (by omega)
    have cw : cN w = q := by rw [ew]; exact nI_clamp (by omega)
    have g1 : gR m 0 (nI (dP S)) := by rw [em]; exact ⟨nI_pos' (by omega), nI_le hn (by omega)⟩
    have g2 : gR w 0 2 := by rw [ew]; exact ⟨nI_pos' (by omega), nI_le (b := 2) hq (by decide)⟩
    refine ⟨fun c => ?_, fun c => ?_⟩
    · have := (nI_leI (a := 218) (by omega) (by omega)).mp c
      have hk2 : k = 218 := by omega
      have hfg : f = g := funext (fun j => by
        rcases Nat.lt_or_ge j 218 with z | z
        · exact hg j (by omega)
        · exact hf j (Or.inr z))
      have fin := fq_fm f00 (fm_A A f (by rw [hfg, eg]))
      rw [ew]
      refine ⟨fun c2 => ⟨fun c3 => ⟨fin.1, Or.inl ⟨⟨g1, ew ▸ g2⟩, fin.2, zri ?_⟩⟩, fun c3 => ⟨fin.1, Or.inl ⟨⟨g1, ew ▸ g2⟩, fin.2, zri ?_⟩⟩⟩, fun c2 => ⟨fin.1, Or.inl ⟨⟨g1, ew ▸ g2⟩, fin.2, zri ?_⟩⟩⟩
      · rw [cm, ← ew, cw, ev, if_neg (fun z => c2 (by rw [z]; rfl)), if_neg (fun z => c3 (by rw [z]; rfl))]
      · have q1 : q = 1 := (nI_eq (b := 1) (by omega) (by decide)).mp c3
        rw [cm, ← ew, cw, ev, if_neg (by omega), if_pos q1]
      · have q0 : q = 0 := (nI_eq (b := 0) (by omega) (by decide)).mp c2
        rw [cm, ← ew, cw, ev, if_pos q0]
    · have hk2 : k < 218 := Nat.not_le.mp (fun z => c ((nI_leI (a := 218) (by omega) (by omega)).mpr z))
      refine ⟨k, rfl, hk2, k, rfl, hk2, 218 - (k + 1), by omega, n, q, k + 1, _, e3, e4, e5, A, va_up f k (g k), rfl, by omega, ⟨em, hn, ew, hq⟩, rfl, ev, nI_1 k, rfl, ?_, hA, fun j hj => ?_, fun j hj => ?_⟩
      · rw [zsI_W, zsW_W, zsW_s, eA, hA k hk2]
      · by_cases e : j = k
        · rw [e, zup_s]
        · rw [zup_n _ _ e]; exact hf j hj
      · by_cases e : j = k
        · rw [e, zup_s]
        · rw [zup_n _ _ e]; exact hg j (by omega)
  have B_239 := zSd_any L_239
  have B_236 := zr_iconst (X := X) (Y := Y) (u := 0) (v := 0) (x := 0) O dX11_curve_236 rfl (zr_istore O dX11_curve_237 (B_239))
  have L_171 : ∀ nn : Nat, zSd X Y 0 0 171 ((fun d ls st h1 => ∃ (n q k : Nat) (z u v e3 : Int32) (A f W : Nat → Int32), d = dP S - k ∧ k ≤ dP S ∧ cvP S n q m w ∧ ls = [some (vR 20 0 y), some (vI m), some (vI w), some (vI e3), some (vI u), some (vI v), some (vI z)] ∧ e3 = nI (epN S (cvL S n)) ∧ W = gW (lrW S (cvL S n) (epN S (cvL S n))) ∧ u = nI (fb_ct (grt S W n) k) ∧ v = nI (fb_ct (gfs S W n) k) ∧ z = nI k ∧ st = [] ∧ h1 = zsW (zsW h0 (y + 17) A) (y + 2) f ∧ cvA A g ∧ cvf f g ∧ ∀ r, r < 10 → f (35 + r) = W r : Nat → zT) nn) := by
    refine zSd_loop (fun nn ih => ?_)
    have B_230 := zr_iinc (X := X) (Y := Y) (u := 0) (v := 0) (c := 1) O dX11_curve_230 rfl (zr_goto (tgt := 171) O dX11_curve_233 rfl ih)
    have B_227 := zr_iadd (X := X) (Y := Y) (u := 0) (v := 0) O dX11_curve_227 (zr_istore O dX11_curve_228 (B_230))
    have B_226 := zr_iconst (X := X) (Y := Y) (u := 0) (v := 0) (x := 0) O dX11_curve_226 rfl (B_227)
    have B_211 := zr_iadd (X := X) (Y := Y) (u := 0) (v := 0) O dX11_curve_211 (zr_istore O dX11_curve_212 (zr_iload O dX11_curve_214 (zr_iload O dX11_curve_216 (zr_iload_n O dX11_curve_218 rfl (zr_icge (tgt := 226) O dX11_curve_219 rfl B_226 (zr_iconst (x := 1) O dX11_curve_222 rfl (zr_goto (tgt := 227) O dX11_curve_223 rfl B_227)))))))
    have B_210 := zr_iconst (X := X) (Y := Y) (u := 0) (v := 0) (x := 1) O dX11_curve_210 rfl (B_211)
    have B_198 := zr_iload (X := X) (Y := Y) (u := 0) (v := 0) O dX11_curve_198 (zr_iload O dX11_curve_200 (zr_iload_n O dX11_curve_202 rfl (zr_icge (tgt := 210) O dX11_curve_203 rfl B_210 (zr_iconst (x := 0) O dX11_curve_206 rfl (zr_goto (tgt := 211) O dX11_curve_207 rfl B_211)))))
    have B_171 := zr_iload (X := X) (Y := Y) (u := 0) (v := 0) O dX11_curve_171 (zr_aload_n O dX11_curve_173 rfl (zr_gI (ci := 10) (j := 11) O zc_10 (by decide) rfl tw_1198 dX11_curve_174 (zr_icge (tgt := 236) O dX11_curve_177 rfl B_236 (zr_aload_n O dX11_curve_180 rfl (zr_iload O dX11_curve_181 (zr_cI (zr_cV (ci := 10) (n := 1) O m_X11_guessOf (bn_X11_guessOf _ ⟨rfl, rfl⟩) vw_X11_guessOf tw_1475 rc_X11_guessOf (zrm hR rfl rfl) dX11_curve_183 (zr_aload_n O dX11_curve_186 rfl (zr_iload O dX11_curve_187 (zr_cI (zr_cV (ci := 10) (n := 1) O m_X11_bitOf (bn_X11_bitOf _ ⟨rfl, rfl⟩) vw_X11_bitOf tw_1419 rc_X11_bitOf (zrm hR rfl rfl) dX11_curve_189 (zr_iceq (tgt := 198) O dX11_curve_192 rfl B_198 (zr_goto (tgt := 230) O dX11_curve_195 rfl B_230)))))))))))))
    refine zSd_weak B_171 (fun ls st h1 t => ?_)
    obtain ⟨n, q, k, z, u, v, e3, A, f, W, rfl, hk, hc, rfl, ee, eW, rfl, rfl, rfl, rfl, rfl, hA, hf, hW⟩ := t
    have hS1 := hSf A f hf
    obtain ⟨em, hn, ew, hq⟩ := hc
    refine ⟨fun c => ?_, fun c => ?_⟩
    · rw [hS1.2.1.1] at c
      have := (nI_leI (by omega) (by omega)).mp c
      have hk2 : k = dP S := by omega
      refine ⟨218 - 0, n, q, 0, _, e3, _, _, A, f, rfl, Nat.zero_le _, ⟨em, hn, ew, hq⟩, rfl, ?_, rfl, rfl, rfl, hA, hf, fun j hj => absurd hj (Nat.not_lt_zero _)⟩
      rw [crv_w, crw, ← eW, ee, hk2, gfs_e S W hn]
    · rw [hS1.2.1.1] at c
      have hk2 : k < dP S := Nat.not_le.mp (fun z => c ((nI_leI (by omega) (by omega)).mpr z))
      rw [em]
      have nx : ∀ (u v : Int32), u = nI (fb_ct (grt S W n) (k + 1)) → v = nI (fb_ct (gfs S W n) (k + 1)) → ∃ d, d < dP S - k ∧ ∃ (n_1 q_1 k_1 : Nat) (z u_1 v_1 e3_1 : Int32) (A_1 f_1 W_1 : Nat → Int32), d = dP S - k_1 ∧ k_1 ≤ dP S ∧ cvP S n_1 q_1 (nI n) w ∧ ([some (vR 20 0 y), some (vI (nI n)), some (vI w), some (vI e3), some (vI u), some (vI v), some (vI (nI k + 1))] : zL) = [some (vR 20 0 y), some (vI (nI n)), some (vI w), some (vI e3_1), some (vI u_1), some (vI v_1), some (vI z)] ∧ e3_1 = nI (epN S (cvL S n_1)) ∧ W_1 = gW (lrW S (cvL S n_1) (epN S (cvL S n_1))) ∧ u_1 = nI (fb_ct (grt S W_1 n_1) k_1) ∧ v_1 = nI (fb_ct (gfs S W_1 n_1) k_1) ∧ z = nI k_1 ∧ ([] : List zV) = [] ∧ zsW (zsW h0 (y + 17) A) (y + 2) f = zsW (zsW h0 (y + 17) A_1) (y + 2) f_1 ∧ cvA A_1 g ∧ cvf f_1 g ∧ ∀ r, r < 10 → f_1 (35 + r) = W_1 r := fun u v e1 e2 => ⟨dP S - (k + 1), by omega, n, q, k + 1, _, u, v, e3, A, f, W, rfl, by omega, ⟨rfl, hn, ew, hq⟩, rfl, ee, eW, e1, e2, nI_1 k, rfl, rfl, hA, hf, hW⟩
      refine ⟨(S, (0, fun _ => 0, fun _ => false, W), y, k), rfl, ⟨hS1, fun r hr => by rw [zsW_s]; exact hW r hr, hk2⟩, (S, y, k), rfl, ⟨hS1, hk2⟩, fun c2 => ?_, fun c2 => ?_⟩
      · replace c2 : gss S W k = pb S k := c2
        refine ⟨fun c3 => ⟨fun c4 => nx _ _ ?_ ?_, fun c4 => absurd c3 c4⟩, fun c3 => ⟨fun c4 => absurd c4 c3, fun c4 => nx _ _ ?_ ?_⟩⟩
        · have hnk := (nI_leI (by omega) (by omega)).mp c3
          have e : grt S W n k = true := by unfold grt; rw [decide_eq_true hnk, decide_eq_true c2]; rfl
          rw [fb_ct_succ, e]; exact nI_1 _
        · have hnk := (nI_leI (by omega) (by omega)).mp c3
          have e : gfs S W n k = false := by unfold gfs; rw [decide_eq_false (by omega)]; rfl
          rw [fb_ct_succ, e]; exact Int32.add_zero _
        · have hnk : ¬ n ≤ k := fun z => c3 ((nI_leI (by omega) (by omega)).mpr z)
          have e : grt S W n k = false := by unfold grt; rw [decide_eq_false hnk]; rfl
          rw [fb_ct_succ, e]; exact Int32.add_zero _
        · have hnk : ¬ n ≤ k := fun z => c3 ((nI_leI (by omega) (by omega)).mpr z)
          have e : gfs S W n k = true := by unfold gfs; rw [decide_eq_true (by omega), decide_eq_true c2]; rfl
          rw [fb_ct_succ, e]; exact nI_1 _
      · replace c2 : ¬ gss S W k = pb S k := c2
        refine nx _ _ ?_ ?_
        · have e : grt S W n k = false := by unfold grt; rw [decide_eq_false c2, Bool.and_false]
          rw [fb_ct_succ, e]; rfl
        · have e : gfs S W n k = false := by unfold gfs; rw [decide_eq_false c2, Bool.and_false]
          rw [fb_ct_succ, e]; rfl
  have B_171 := zSd_any L_171
  have B_162 := zr_iconst (X := X) (Y := Y) (u := 0) (v := 0) (x := 0) O dX11_curve_162 rfl (zr_istore O dX11_curve_163 (zr_iconst (x := 0) O dX11_curve_165 rfl (zr_istore O dX11_curve_166 (zr_iconst (x := 0) O dX11_curve_168 rfl (zr_istore O dX11_curve_169 (B_171))))))
  have C_162 : zSd X Y 0 0 162 (fun ls st h1 => ∃ (n q : Nat) (e3 : Int32) (A f W : Nat → Int32), cvP S n q m w ∧ ls = [some (vR 20 0 y), some (vI m), some (vI w), some (vI e3), none, none, none] ∧ e3 = nI (epN S (cvL S n)) ∧ W = gW (lrW S (cvL S n) (epN S (cvL S n))) ∧ st = [] ∧ h1 = zsW (zsW h0 (y + 17) A) (y + 2) f ∧ cvA A g ∧ cvf f g ∧ ∀ r, r < 10 → f (35 + r) = W r) := by
    refine zSd_weak B_162 (fun ls st h1 t => ?_)
    obtain ⟨n, q, e3, A, f, W, hc, rfl, ee, eW, rfl, rfl, hA, hf, hW⟩ := t
    exact ⟨dP S - 0, n, q, 0, _, _, _, e3, A, f, W, rfl, Nat.zero_le _, hc, rfl, ee, eW, rfl, rfl, rfl, rfl, rfl, hA, hf, hW⟩
  have L_143 : ∀ nn : Nat, zSd X Y 0 0 143 ((fun d ls st h1 => ∃ (n q j : Nat) (z : Int32) (A f : Nat → Int32) (L0 L : zG), d = 50 - j ∧ j < 50 ∧ cvP S n q m w ∧ ls = [some (vR 20 0 y), some (vI m), some (vI w), some (vI z), none, none, none] ∧ z = nI (j + 1) ∧ st = [] ∧ L0 = cvL S n ∧ L = lrW S L0 j ∧ h1 = zsW (zsW h0 (y + 17) A) (y + 2) f ∧ cvA A g ∧ cvf f g ∧ rmL L f ∧ ∀ i, i < j → decide (lrw S L0 i = 0) = false : Nat → zT) nn) := by
    refine zSd_loop (fun nn ih => ?_)
    have B_143 := zr_aload_n (X := X) (Y := Y) (u := 0) (v := 0) O dX11_curve_143 rfl (zr_cV (ci := 10) (n := 0) O m_X11_epoch (bn_X11_epoch _ ⟨rfl, rfl⟩) vw_X11_epoch tw_1471 rc_X11_epoch (zrm hR rfl rfl) dX11_curve_144 (zr_ifle (tgt := 162) O dX11_curve_147 rfl C_162 (zr_iload_n O dX11_curve_150 rfl (zr_bipush (x := (50)) O dX11_curve_151 (by decide) (zr_icge (tgt := 162) O dX11_curve_153 rfl C_162 (zr_iinc (c := 1) O dX11_curve_156 rfl (zr_goto (tgt := 143) O dX11_curve_159 rfl ih)))))))
    refine zSd_weak B_143 (fun ls st h1 t => ?_)
    obtain ⟨n, q, j, z, A, f, L0, L, rfl, hj, hc, rfl, rfl, rfl, eL0, eL, rfl, hA, hf, hL, hb⟩ := t
    have hS1 := hSf A f hf
    obtain ⟨l1, l2, l3⟩ := lrW_3 S L0 j
    rw [← eL] at l1 l2 l3
    obtain ⟨c1, c2⟩ := cvL_n S n
    rw [← eL0] at c1 c2
    have hn := hc.2.1
    refine ⟨(S, L, y), rfl, ⟨hS1, by rw [zsW_s]; exact hL, fun i hi => ?_⟩, fun r h3 hq => ?_⟩
    · replace hi : i < gN L := hi
      rw [l1, c1] at hi
      show gP L i < dP S
      rw [l2, c2 i hi]; omega
    · obtain ⟨rfl, f2, e3, hw3⟩ := hq
      replace e3 : h3 = zsW (zsW (zsW h0 (y + 17) A) (y + 2) f) (y + 2) f2 := e3
      rw [zsW_W] at e3
      replace hw3 : wrw ((zsW (zsW h0 (y + 17) A) (y + 2) f).1 (y + 2)) f2 (lrn S L (gN L)).1 := hw3
      rw [zsW_s] at hw3
      have hcnt : (lrn S L (gN L)).2 = lrw S L0 j := by rw [lrw, ← eL, l1]
      have hle : lrw S L0 j ≤ 28 := by
        rw [← hcnt]
        exact Nat.le_trans (lrn_le S L _) (by rw [l1, c1]; omega)
      have eL2 : lrW S L0 (j + 1) = (gN L0, gP L0, gB L0, (lrn S L (gN L)).1) := by rw [lrW, ← eL, l1]
      have hf2 : cvf f2 g := fun i hi => by rw [hw3.1 i (by omega)]; exact hf i hi
      have hL2 : rmL (lrW S L0 (j + 1)) f2 := by
        rw [eL2]
        exact rmL_w (L := L) (M := (gN L0, gP L0, gB L0, (lrn S L (gN L)).1)) l1.symm l2.symm l3.symm hw3 hL
      have out : epN S L0 = j + 1 → ∃ (n q : Nat) (e3 : Int32) (A f W : Nat → Int32), cvP S n q m w ∧ ([some (vR 20 0 y), some (vI m), some (vI w), some (vI (nI (j + 1))), none, none, none] : zL) = [some (vR 20 0 y), some (vI m), some (vI w), some (vI e3), none, none, none] ∧ e3 = nI (epN S (cvL S n)) ∧ W = gW (lrW S (cvL S n) (epN S (cvL S n))) ∧ ([] : List zV) = [] ∧ h3 = zsW (zsW h0 (y + 17) A) (y + 2) f ∧ cvA A g ∧ cvf f g ∧ ∀ r, r < 10 → f (35 + r) = W r := by
        intro ep
        refine ⟨n, q, _, A, f2, gW (lrW S L0 (j + 1)), hc, rfl, ?_, ?_, rfl, e3, hA, hf2, hL2.2.2⟩
        · rw [← eL0, ep]
        · rw [← eL0, ep]
      refine ⟨fun c => ?_, fun c => ⟨fun c3 => ?_, fun c3 => ?_⟩⟩
      · replace c : nI (lrn S L (gN L)).2 ≤ 0 := c
        rw [hcnt] at c
        have h0 : lrw S L0 j = 0 := by
          have := (nI_leI (b := 0) (by omega) (by decide)).mp c
          omega
        apply out
        rw [epN, first_at (f := fun n => decide (lrw S L0 n = 0)) hj (decide_eq_true h0) hb, if_pos hj]
      · replace c : ¬ nI (lrn S L (gN L)).2 ≤ 0 := c
        rw [hcnt] at c
        have h0 : ¬ lrw S L0 j = 0 := fun z => c (by rw [z]; exact Int32.le_refl _)
        have := (nI_leI (a := 50) (by decide) (by omega)).mp c3
        have hj2 : j = 49 := by omega
        apply out
        rw [epN, if_neg (first_none (f := fun n => decide (lrw S L0 n = 0)) (fun i hi => by
          by_cases e : i = j
          · rw [e]; exact decide_eq_false h0
          · exact hb i (by omega))), hj2]
      · replace c : ¬ nI (lrn S L (gN L)).2 ≤ 0 := c
        rw [hcnt] at c
        have h0 : ¬ lrw S L0 j = 0 := fun z => c (by rw [z]; exact Int32.le_refl _)
        have hj2 : j + 1 < 50 := Nat.not_le.mp (fun z => c3 ((nI_leI (a := 50) (by decide) (by omega)).mpr z))
        refine ⟨50 - (j + 1), by omega, n, q, j + 1, _, A, f2, L0, lrW S L0 (j + 1), rfl, hj2, hc, rfl, nI_1 _, rfl, eL0, rfl, e3, hA, hf2, hL2, fun i hi => ?_⟩
        by_cases e : i = j
        · rw [e]; exact decide_eq_false h0
        · exact hb i (by omega)
  have B_143 := zSd_any L_143
  have B_141 := zr_iconst (X := X) (Y := Y) (u := 0) (v := 0) (x := 1) O dX11_curve_141 rfl (zr_istore_n O dX11_curve_142 rfl (B_143))
  have L_104 : ∀ nn : Nat, zSd X Y 0 0 104 ((fun d ls st h1 => ∃ (n q k : Nat) (z : Int32) (A f : Nat → Int32), d = n - k ∧ k ≤ n ∧ cvP S n q m w ∧ ls = [some (vR 20 0 y), some (vI m), some (vI w), some (vI z), none, none, none] ∧ z = nI k ∧ st = [] ∧ h1 = zsW (zsW h0 (y + 17) A) (y + 2) f ∧ cvA A g ∧ cvf f g ∧ f 161 = nI n ∧ (∀ r, r < 10 → f (35 + r) = 0) ∧ ∀ i, i < k → f (162 + i) = nI i ∧ f (190 + i) = pb S i : Nat → zT) nn) := by
    refine zSd_loop (fun nn ih => ?_)
    have B_104 := zr_iload_n (X := X) (Y := Y) (u := 0) (v := 0) O dX11_curve_104 rfl (zr_iload_n O dX11_curve_105 rfl (zr_icge (tgt := 141) O dX11_curve_106 rfl B_141 (zr_aload_n O dX11_curve_109 rfl (zr_gS (ci := 10) (j := 2) (off := 2) (t := 1) (n := 218) O zc_10 (by decide) rfl tw_1189 dX11_curve_110 (zr_sipush (x := (162)) O dX11_curve_113 (by decide) (zr_iload_n O dX11_curve_116 rfl (zr_iadd O dX11_curve_117 (zr_iload_n O dX11_curve_118 rfl (zr_iast O dX11_curve_119 (zr_aload_n O dX11_curve_120 rfl (zr_gS (ci := 10) (j := 2) (off := 2) (t := 1) (n := 218) O zc_10 (by decide) rfl tw_1189 dX11_curve_121 (zr_sipush (x := (190)) O dX11_curve_124 (by decide) (zr_iload_n O dX11_curve_127 rfl (zr_iadd O dX11_curve_128 (zr_aload_n O dX11_curve_129 rfl (zr_iload_n O dX11_curve_130 rfl (zr_cI (zr_cV (ci := 10) (n := 1) O m_X11_bitOf (bn_X11_bitOf _ ⟨rfl, rfl⟩) vw_X11_bitOf tw_1419 rc_X11_bitOf (zrm hR rfl rfl) dX11_curve_131 (zr_iast O dX11_curve_134 (zr_iinc (c := 1) O dX11_curve_135 rfl (zr_goto (tgt := 104) O dX11_curve_138 rfl ih)))))))))))))))))))))
    refine zSd_weak B_104 (fun ls st h1 t => ?_)
    obtain ⟨n, q, k, z, A, f, rfl, hk, ⟨em, hn, ew, hq⟩, rfl, rfl, rfl, rfl, hA, hf, f161, hw, hi⟩ := t
    rw [em]
    refine ⟨fun c => ?_, fun c => ?_⟩
    · have := (nI_leI (by omega) (by omega)).mp c
      have hk2 : k = n := by omega
      obtain ⟨c1, c2⟩ := cvL_n S n
      obtain ⟨c3, c4⟩ := cvL_g S n
      refine ⟨50 - 0, n, q, 0, _, A, f, cvL S n, _, rfl, by decide, ⟨rfl, hn, ew, hq⟩, rfl, rfl, rfl, rfl, rfl, rfl, hA, hf, ⟨⟨by rw [f161]; show nI n = nI (gN (cvL S n)); rw [c1], by show gN (cvL S n) ≤ 28; rw [c1]; omega⟩, fun i hi2 => ?_, fun r hr => ?_⟩, fun i hi2 => absurd hi2 (Nat.not_lt_zero _)⟩
      · replace hi2 : i < gN (cvL S n) := hi2
        rw [c1] at hi2
        obtain ⟨i1, i2⟩ := hi i (by omega)
        show (f (162 + i) = nI (gP (cvL S n) i) ∧ gP (cvL S n) i < 28) ∧ f (190 + i) = bI (gB (cvL S n) i)
        rw [c2 i hi2, c4 i hi2, ← pb_bb]
        exact ⟨⟨i1, by omega⟩, i2⟩
      · show f (35 + r) = gW (cvL S n) r
        rw [c3]; exact hw r hr
    · have hk2 : k < n := Nat.not_le.mp (fun z => c ((nI_leI (by omega) (by omega)).mpr z))
      refine ⟨162 + k, lI 162 k, by omega, (S, y, k), rfl, ⟨?_, by show k < dP S; omega⟩, 190 + k, lI 190 k, by omega, n - (k + 1), by omega, n, q, k + 1, _, A, va_up (va_up f (162 + k) (nI k)) (190 + k) (pb S k), rfl, by omega, ⟨rfl, hn, ew, hq⟩, rfl, nI_1 k, rfl, ?_, hA, fun j hj => ?_, ?_, fun r hr => ?_, fun i hi2 => ?_⟩
      · rw [zsI_W, zsW_W, zsW_s]
        exact hSf A _ (fun j hj => by rw [zup_n _ _ (by omega)]; exact hf j hj)
      · rw [zsI_W (zsW (zsW h0 (y + 17) A) (y + 2) f), zsW_W, zsW_s, zsI_W, zsW_W, zsW_s]; rfl
      · rw [zup_n _ _ (by omega), zup_n _ _ (by omega)]; exact hf j hj
      · rw [zup_n _ _ (by omega), zup_n _ _ (by omega)]; exact f161
      · rw [zup_n _ _ (by omega), zup_n _ _ (by omega)]; exact hw r hr
      · by_cases e : i = k
        · rw [e, zup_n _ _ (by omega : 162 + k ≠ 190 + k), zup_s, zup_s]; exact ⟨rfl, rfl⟩
        · rw [zup_n _ _ (by omega), zup_n _ _ (by omega), zup_n _ _ (by omega), zup_n _ _ (by omega)]; exact hi i (by omega)
  have B_104 := zSd_any L_104
  have B_93 := zr_aload_n (X := X) (Y := Y) (u := 0) (v := 0) O dX11_curve_93 rfl (zr_gS (ci := 10) (j := 2) (off := 2) (t := 1) (n := 218) O zc_10 (by decide) rfl tw_1189 dX11_curve_94 (zr_sipush (x := (161)) O dX11_curve_97 (by decide) (zr_iload_n O dX11_curve_100 rfl (zr_iast O dX11_curve_101 (zr_iconst (x := 0) O dX11_curve_102 rfl (zr_istore_n O dX11_curve_103 rfl (B_104)))))))
  have L_71 : ∀ nn : Nat, zSd X Y 0 0 71 ((fun d ls st h1 => ∃ (n q k : Nat) (z : Int32) (A f : Nat → Int32), d = 10 - k ∧ k ≤ 10 ∧ cvP S n q m w ∧ ls = [some (vR 20 0 y), some (vI m), some (vI w), some (vI z), none, none, none] ∧ z = nI k ∧ st = [] ∧ h1 = zsW (zsW h0 (y + 17) A) (y + 2) f ∧ cvA A g ∧ cvf f g ∧ ∀ r, r < k → f (35 + r) = 0 : Nat → zT) nn) := by
    refine zSd_loop (fun nn ih => ?_)
    have B_71 := zr_iload_n (X := X) (Y := Y) (u := 0) (v := 0) O dX11_curve_71 rfl (zr_bipush (x := (10)) O dX11_curve_72 (by decide) (zr_icge (tgt := 93) O dX11_curve_74 rfl B_93 (zr_aload_n O dX11_curve_77 rfl (zr_gS (ci := 10) (j := 2) (off := 2) (t := 1) (n := 218) O zc_10 (by decide) rfl tw_1189 dX11_curve_78 (zr_bipush (x := (35)) O dX11_curve_81 (by decide) (zr_iload_n O dX11_curve_83 rfl (zr_iadd O dX11_curve_84 (zr_iconst (x := 0) O dX11_curve_85 rfl (zr_iast O dX11_curve_86 (zr_iinc (c := 1) O dX11_curve_87 rfl (zr_goto (tgt := 71) O dX11_curve_90 rfl ih)))))))))))
    refine zSd_weak B_71 (fun ls st h1 t => ?_)
    obtain ⟨n, q, k, z, A, f, rfl, hk, hc, rfl, rfl, rfl, rfl, hA, hf, hw⟩ := t
    refine ⟨fun c => ?_, fun c => ?_⟩
    · have := (nI_leI (a := 10) (by omega) (by omega)).mp c
      refine ⟨161, rfl, by decide, n - 0, n, q, 0, _, A, va_up f 161 m, rfl, Nat.zero_le _, hc, rfl, rfl, rfl, ?_, hA, fun j hj => ?_, ?_, fun r hr => ?_, fun i hi => absurd hi (Nat.not_lt_zero _)⟩
      · rw [zsI_W, zsW_W, zsW_s]
      · rw [zup_n _ _ (by omega)]; exact hf j hj
      · rw [zup_s]; exact hc.1
      · rw [zup_n _ _ (by omega)]; exact hw r (by omega)
    · have hk2 : k < 10 := Nat.not_le.mp (fun z => c ((nI_leI (a := 10) (by omega) (by omega)).mpr z))
      refine ⟨35 + k, lI 35 k, by omega, 10 - (k + 1), by omega, n, q, k + 1, _, A, va_up f (35 + k) 0, rfl, by omega, hc, rfl, nI_1 k, rfl, ?_, hA, fun j hj => ?_, fun r hr => ?_⟩
      · rw [zsI_W, zsW_W, zsW_s]
      · rw [zup_n _ _ (by omega)]; exact hf j hj
      · by_cases e : r = k
        · rw [e, zup_s]
        · rw [zup_n _ _ (by omega)]; exact hw r (by omega)
  have B_71 := zSd_any L_71
  have B_69 := zr_iconst (X := X) (Y := Y) (u := 0) (v := 0) (x := 0) O dX11_curve_69 rfl (zr_istore_n O dX11_curve_70 rfl (B_71))
  have L_44 : ∀ nn : Nat, zSd X Y 0 0 44 ((fun d ls st h1 => ∃ (n q k : Nat) (z : Int32) (A : Nat → Int32), d = 218 - k ∧ k ≤ 218 ∧ cvP S n q m w ∧ ls = [some (vR 20 0 y), some (vI m), some (vI w), some (vI z), none, none, none] ∧ z = nI k ∧ st = [] ∧ h1 = zsW h0 (y + 17) A ∧ ∀ j, j < k → A j = g j : Nat → zT) nn) := by
    refine zSd_loop (fun nn ih => ?_)
    have B_44 := zr_iload_n (X := X) (Y := Y) (u := 0) (v := 0) O dX11_curve_44 rfl (zr_sipush (x := (218)) O dX11_curve_45 (by decide) (zr_icge (tgt := 69) O dX11_curve_48 rfl B_69 (zr_aload_n O dX11_curve_51 rfl (zr_gS (ci := 10) (j := 34) (off := 17) (t := 1) (n := 218) O zc_10 (by decide) rfl tw_1221 dX11_curve_52 (zr_iload_n O dX11_curve_55 rfl (zr_aload_n O dX11_curve_56 rfl (zr_gS (ci := 10) (j := 2) (off := 2) (t := 1) (n := 218) O zc_10 (by decide) rfl tw_1189 dX11_curve_57 (zr_iload_n O dX11_curve_60 rfl (zr_iald O dX11_curve_61 (zr_iast O dX11_curve_62 (zr_iinc (c := 1) O dX11_curve_63 rfl (zr_goto (tgt := 44) O dX11_curve_66 rfl ih))))))))))))
    refine zSd_weak B_44 (fun ls st h1 t => ?_)
    obtain ⟨n, q, k, z, A, rfl, hk, hc, rfl, rfl, rfl, rfl, hA⟩ := t
    have e2 : (zsW h0 (y + 17) A).1 (y + 2) = g := by rw [zsW_n _ _ (by omega), eg]
    refine ⟨fun c => ?_, fun c => ?_⟩
    · have := (nI_leI (a := 218) (by omega) (by omega)).mp c
      refine ⟨10 - 0, n, q, 0, _, A, g, rfl, Nat.zero_le _, hc, rfl, rfl, rfl, ?_, fun j hj => hA j (by omega), fun _ _ => rfl, fun r hr => absurd hr (Nat.not_lt_zero _)⟩
      have := zsW_self (zsW h0 (y + 17) A) (y + 2)
      rw [e2] at this
      exact this.symm
    · have hk2 : k < 218 := Nat.not_le.mp (fun z => c ((nI_leI (a := 218) (by omega) (by omega)).mpr z))
      refine ⟨k, rfl, hk2, k, rfl, hk2, 218 - (k + 1), by omega, n, q, k + 1, _, va_up A k (g k), rfl, by omega, hc, rfl, nI_1 k, rfl, ?_, fun j hj => ?_⟩
      · rw [zsI_W, zsW_W, zsW_s, e2]
      · by_cases e : j = k
        · rw [e, zup_s]
        · rw [zup_n _ _ e]; exact hA j (by omega)
  have B_44 := zSd_any L_44
  have B_42 := zr_iconst (X := X) (Y := Y) (u := 0) (v := 0) (x := 0) O dX11_curve_42 rfl (zr_istore_n O dX11_curve_43 rfl (B_44))
  have B_32 := zr_iconst (X := X) (Y := Y) (u := 0) (v := 0) (x := 1) O dX11_curve_32 rfl (zr_iconst (x := 1) O dX11_curve_33 rfl (zr_cH (zr_cV (ci := 10) (n := 3) O m_X11_isFine (bn_X11_isFine _ ⟨rfl, rfl⟩) vw_X11_isFine tw_1308 rc_X11_isFine (zrm hR rfl rfl) dX11_curve_34 (zr_ifne (tgt := 42) O dX11_curve_37 rfl B_42 (zr_iconst (x := 0) O dX11_curve_40 rfl (zr_ireturn O E (Nat.le_refl _) (Nat.le_refl _) dX11_curve_41))))))
  have C_32 : zSd X Y 0 0 32 (fun ls st h1 => ls = [some (vR 20 0 y), some (vI m), some (vI w), none, none, none, none] ∧ st = [vI (bI (decide ((0 ≤ m ∧ m ≤ nI (dP S)) ∧ 0 ≤ w ∧ w ≤ 2))), vR 20 0 y] ∧ h1 = h0) := by
    refine zSd_weak B_32 (fun ls st h1 t => ?_)
    obtain ⟨rfl, rfl, rfl⟩ := t
    have ht : h1.1 y 0 = 0 := f00.2.1
    refine ⟨(y, decide ((0 ≤ m ∧ m ≤ nI (dP S)) ∧ 0 ≤ w ∧ w ≤ 2), 1, 1), rfl, ⟨by decide, by decide⟩, fun d => ?_, fun d => ?_⟩
    · obtain ⟨gg, e⟩ := fine_ok ht d
      rw [e]
      obtain ⟨n, em, hn, en⟩ := rngx (by omega) gg.1
      obtain ⟨q, ew, hq, eq⟩ := rngx (n := 2) (by decide) gg.2
      exact ⟨218 - 0, n, q, 0, _, h1.1 (y + 17), rfl, Nat.zero_le _, ⟨em, hn, ew, hq⟩, rfl, rfl, rfl, (zsW_self _ _).symm, fun j hj => absurd hj (Nat.not_lt_zero _)⟩
    · obtain ⟨gg, e⟩ := fine_no ht d
      rw [e]
      exact ⟨(fq_rf 1 f00).1, Or.inr ⟨gg, (fq_rf 1 f00).2, rfl⟩⟩
  have B_31 := zr_iconst (X := X) (Y := Y) (u := 0) (v := 0) (x := 0) O dX11_curve_31 rfl (C_32)
  have B_0 := zr_aload_n (X := X) (Y := Y) (u := 0) (v := 0) O dX11_curve_0 rfl (zr_iconst (x := 0) O dX11_curve_1 rfl (zr_pI (ci := 10) (j := 0) O zc_10 (by decide) rfl rfl rfl tw_1187 dX11_curve_2 (zr_aload_n O dX11_curve_5 rfl (zr_iload_n O dX11_curve_6 rfl (zr_iconst (x := 0) O dX11_curve_7 rfl (zr_aload_n O dX11_curve_8 rfl (zr_gI (ci := 10) (j := 11) O zc_10 (by decide) rfl tw_1198 dX11_curve_9 (zr_cI (zr_cS (n := 3) O m_X11_within (bn_X11_within _ ⟨rfl, rfl⟩) tw_1306 tw_1305 (zrm hR rfl rfl) dX11_curve_12 (zr_ifeq (tgt := 31) O dX11_curve_15 rfl B_31 (zr_iload_n O dX11_curve_18 rfl (zr_iconst (x := 0) O dX11_curve_19 rfl (zr_iconst (x := 2) O dX11_curve_20 rfl (zr_cI (zr_cS (n := 3) O m_X11_within (bn_X11_within _ ⟨rfl, rfl⟩) tw_1306 tw_1305 (zrm hR rfl rfl) dX11_curve_21 (zr_ifeq (tgt := 31) O dX11_curve_24 rfl B_31 (zr_iconst (x := 1) O dX11_curve_27 rfl (zr_goto (tgt := 32) O dX11_curve_28 rfl C_32))))))))))))))))))
  refine ⟨rfl, Nat.le_of_ble_eq_true rfl, _, B_0, ?_⟩
  have hS00 := hS0
  rw [eh0] at hS00
  have fl : ∀ b : Bool, b = decide ((0 ≤ m ∧ m ≤ nI (dP S)) ∧ 0 ≤ w ∧ w ≤ 2) → ([vI (bI b), vR 20 0 y] : List zV) = [vI (bI (decide ((0 ≤ m ∧ m ≤ nI (dP S)) ∧ 0 ≤ w ∧ w ≤ 2))), vR 20 0 y] := fun b e => by rw [e]
  refine ⟨(m, 0, nI (dP S)), by rw [hS00.2.1.1]; rfl, trivial, fun c => ⟨rfl, fl false ?_, eh0.symm⟩, fun c => ⟨(w, 0, 2), rfl, trivial, fun c2 => ⟨rfl, fl false ?_, eh0.symm⟩, fun c2 => ⟨rfl, fl true ?_, eh0.symm⟩⟩⟩
  · have := gno (p := 0 ≤ m ∧ m ≤ nI (dP S)) c
    exact (decide_eq_false (fun z => this z.1)).symm
  · have := gno (p := 0 ≤ w ∧ w ≤ 2) c2
    exact (decide_eq_false (fun z => this z.2)).symm
  · have h1 := gok (p := 0 ≤ m ∧ m ≤ nI (dP S)) c
    have h2 := gok (p := 0 ≤ w ∧ w ≤ 2) c2
    exact (decide_eq_true ⟨h1, h2⟩).symm

