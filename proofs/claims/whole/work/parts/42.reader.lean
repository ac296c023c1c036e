theorem dX8_readLine_246 : decode cX8_readLine 246 = .ok (.return_, 1) := by decide +kernel
theorem dX8_readLine_240 : decode cX8_readLine 240 = .ok (.aload_n 0, 1) := by decide +kernel
theorem dX8_readLine_241 : decode cX8_readLine 241 = .ok (.iconst 1, 1) := by decide +kernel
theorem dX8_readLine_242 : decode cX8_readLine 242 = .ok (.iload_n 1, 1) := by decide +kernel
theorem dX8_readLine_243 : decode cX8_readLine 243 = .ok (.invokevirtual 93, 3) := by decide +kernel
theorem dX8_readLine_217 : decode cX8_readLine 217 = .ok (.aload_n 0, 1) := by decide +kernel
theorem dX8_readLine_218 : decode cX8_readLine 218 = .ok (.iload_n 1, 1) := by decide +kernel
theorem dX8_readLine_219 : decode cX8_readLine 219 = .ok (.ldc 91, 2) := by decide +kernel
theorem dX8_readLine_221 : decode cX8_readLine 221 = .ok (.invokevirtual 58, 3) := by decide +kernel
theorem dX8_readLine_224 : decode cX8_readLine 224 = .ok (.ifCond .eq 16, 3) := by decide +kernel
theorem dX8_readLine_227 : decode cX8_readLine 227 = .ok (.aload_n 0, 1) := by decide +kernel
theorem dX8_readLine_228 : decode cX8_readLine 228 = .ok (.getfield 12, 3) := by decide +kernel
theorem dX8_readLine_231 : decode cX8_readLine 231 = .ok (.getfield 73, 3) := by decide +kernel
theorem dX8_readLine_234 : decode cX8_readLine 234 = .ok (.iconst 4, 1) := by decide +kernel
theorem dX8_readLine_235 : decode cX8_readLine 235 = .ok (.iconst 0, 1) := by decide +kernel
theorem dX8_readLine_236 : decode cX8_readLine 236 = .ok (.iastore, 1) := by decide +kernel
theorem dX8_readLine_237 : decode cX8_readLine 237 = .ok (.goto 9, 3) := by decide +kernel
theorem dX8_readLine_200 : decode cX8_readLine 200 = .ok (.aload_n 0, 1) := by decide +kernel
theorem dX8_readLine_201 : decode cX8_readLine 201 = .ok (.iload_n 1, 1) := by decide +kernel
theorem dX8_readLine_202 : decode cX8_readLine 202 = .ok (.ldc 86, 2) := by decide +kernel
theorem dX8_readLine_204 : decode cX8_readLine 204 = .ok (.invokevirtual 58, 3) := by decide +kernel
theorem dX8_readLine_207 : decode cX8_readLine 207 = .ok (.ifCond .eq 10, 3) := by decide +kernel
theorem dX8_readLine_210 : decode cX8_readLine 210 = .ok (.aload_n 0, 1) := by decide +kernel
theorem dX8_readLine_211 : decode cX8_readLine 211 = .ok (.invokevirtual 88, 3) := by decide +kernel
theorem dX8_readLine_214 : decode cX8_readLine 214 = .ok (.goto 32, 3) := by decide +kernel
theorem dX8_readLine_177 : decode cX8_readLine 177 = .ok (.aload_n 0, 1) := by decide +kernel
theorem dX8_readLine_178 : decode cX8_readLine 178 = .ok (.iload_n 1, 1) := by decide +kernel
theorem dX8_readLine_179 : decode cX8_readLine 179 = .ok (.ldc 84, 2) := by decide +kernel
theorem dX8_readLine_181 : decode cX8_readLine 181 = .ok (.invokevirtual 58, 3) := by decide +kernel
theorem dX8_readLine_184 : decode cX8_readLine 184 = .ok (.ifCond .eq 16, 3) := by decide +kernel
theorem dX8_readLine_187 : decode cX8_readLine 187 = .ok (.aload_n 0, 1) := by decide +kernel
theorem dX8_readLine_188 : decode cX8_readLine 188 = .ok (.getfield 12, 3) := by decide +kernel
theorem dX8_readLine_191 : decode cX8_readLine 191 = .ok (.getfield 73, 3) := by decide +kernel
theorem dX8_readLine_194 : decode cX8_readLine 194 = .ok (.iconst 3, 1) := by decide +kernel
theorem dX8_readLine_195 : decode cX8_readLine 195 = .ok (.iconst 1, 1) := by decide +kernel
theorem dX8_readLine_196 : decode cX8_readLine 196 = .ok (.iastore, 1) := by decide +kernel
theorem dX8_readLine_197 : decode cX8_readLine 197 = .ok (.goto 49, 3) := by decide +kernel
theorem dX8_readLine_123 : decode cX8_readLine 123 = .ok (.aload_n 0, 1) := by decide +kernel
theorem dX8_readLine_124 : decode cX8_readLine 124 = .ok (.iload_n 1, 1) := by decide +kernel
theorem dX8_readLine_125 : decode cX8_readLine 125 = .ok (.ldc 79, 2) := by decide +kernel
theorem dX8_readLine_127 : decode cX8_readLine 127 = .ok (.invokevirtual 58, 3) := by decide +kernel
theorem dX8_readLine_130 : decode cX8_readLine 130 = .ok (.ifCond .eq 47, 3) := by decide +kernel
theorem dX8_readLine_133 : decode cX8_readLine 133 = .ok (.aload_n 0, 1) := by decide +kernel
theorem dX8_readLine_134 : decode cX8_readLine 134 = .ok (.getfield 12, 3) := by decide +kernel
theorem dX8_readLine_137 : decode cX8_readLine 137 = .ok (.getfield 73, 3) := by decide +kernel
theorem dX8_readLine_140 : decode cX8_readLine 140 = .ok (.iconst 1, 1) := by decide +kernel
theorem dX8_readLine_141 : decode cX8_readLine 141 = .ok (.aload_n 0, 1) := by decide +kernel
theorem dX8_readLine_142 : decode cX8_readLine 142 = .ok (.bipush (-40), 2) := by decide +kernel
theorem dX8_readLine_144 : decode cX8_readLine 144 = .ok (.bipush 125, 2) := by decide +kernel
theorem dX8_readLine_146 : decode cX8_readLine 146 = .ok (.invokevirtual 81, 3) := by decide +kernel
theorem dX8_readLine_149 : decode cX8_readLine 149 = .ok (.iastore, 1) := by decide +kernel
theorem dX8_readLine_150 : decode cX8_readLine 150 = .ok (.aload_n 0, 1) := by decide +kernel
theorem dX8_readLine_151 : decode cX8_readLine 151 = .ok (.getfield 12, 3) := by decide +kernel
theorem dX8_readLine_154 : decode cX8_readLine 154 = .ok (.getfield 73, 3) := by decide +kernel
theorem dX8_readLine_157 : decode cX8_readLine 157 = .ok (.iconst 2, 1) := by decide +kernel
theorem dX8_readLine_158 : decode cX8_readLine 158 = .ok (.aload_n 0, 1) := by decide +kernel
theorem dX8_readLine_159 : decode cX8_readLine 159 = .ok (.aload_n 0, 1) := by decide +kernel
theorem dX8_readLine_160 : decode cX8_readLine 160 = .ok (.getfield 12, 3) := by decide +kernel
theorem dX8_readLine_163 : decode cX8_readLine 163 = .ok (.getfield 73, 3) := by decide +kernel
theorem dX8_readLine_166 : decode cX8_readLine 166 = .ok (.iconst 1, 1) := by decide +kernel
theorem dX8_readLine_167 : decode cX8_readLine 167 = .ok (.iaload, 1) := by decide +kernel
theorem dX8_readLine_168 : decode cX8_readLine 168 = .ok (.bipush 125, 2) := by decide +kernel
theorem dX8_readLine_170 : decode cX8_readLine 170 = .ok (.invokevirtual 81, 3) := by decide +kernel
theorem dX8_readLine_173 : decode cX8_readLine 173 = .ok (.iastore, 1) := by decide +kernel
theorem dX8_readLine_174 : decode cX8_readLine 174 = .ok (.goto 72, 3) := by decide +kernel
theorem dX8_readLine_93 : decode cX8_readLine 93 = .ok (.aload_n 0, 1) := by decide +kernel
theorem dX8_readLine_94 : decode cX8_readLine 94 = .ok (.iload_n 1, 1) := by decide +kernel
theorem dX8_readLine_95 : decode cX8_readLine 95 = .ok (.ldc 71, 2) := by decide +kernel
theorem dX8_readLine_97 : decode cX8_readLine 97 = .ok (.invokevirtual 58, 3) := by decide +kernel
theorem dX8_readLine_100 : decode cX8_readLine 100 = .ok (.ifCond .eq 23, 3) := by decide +kernel
theorem dX8_readLine_103 : decode cX8_readLine 103 = .ok (.aload_n 0, 1) := by decide +kernel
theorem dX8_readLine_104 : decode cX8_readLine 104 = .ok (.getfield 12, 3) := by decide +kernel
theorem dX8_readLine_107 : decode cX8_readLine 107 = .ok (.getfield 73, 3) := by decide +kernel
theorem dX8_readLine_110 : decode cX8_readLine 110 = .ok (.iconst 0, 1) := by decide +kernel
theorem dX8_readLine_111 : decode cX8_readLine 111 = .ok (.aload_n 0, 1) := by decide +kernel
theorem dX8_readLine_112 : decode cX8_readLine 112 = .ok (.iconst 0, 1) := by decide +kernel
theorem dX8_readLine_113 : decode cX8_readLine 113 = .ok (.sipush 999, 3) := by decide +kernel
theorem dX8_readLine_116 : decode cX8_readLine 116 = .ok (.invokevirtual 76, 3) := by decide +kernel
theorem dX8_readLine_119 : decode cX8_readLine 119 = .ok (.iastore, 1) := by decide +kernel
theorem dX8_readLine_120 : decode cX8_readLine 120 = .ok (.goto 126, 3) := by decide +kernel
theorem dX8_readLine_75 : decode cX8_readLine 75 = .ok (.aload_n 0, 1) := by decide +kernel
theorem dX8_readLine_76 : decode cX8_readLine 76 = .ok (.iload_n 1, 1) := by decide +kernel
theorem dX8_readLine_77 : decode cX8_readLine 77 = .ok (.ldc 66, 2) := by decide +kernel
theorem dX8_readLine_79 : decode cX8_readLine 79 = .ok (.invokevirtual 58, 3) := by decide +kernel
theorem dX8_readLine_82 : decode cX8_readLine 82 = .ok (.ifCond .eq 11, 3) := by decide +kernel
theorem dX8_readLine_85 : decode cX8_readLine 85 = .ok (.aload_n 0, 1) := by decide +kernel
theorem dX8_readLine_86 : decode cX8_readLine 86 = .ok (.iload_n 1, 1) := by decide +kernel
theorem dX8_readLine_87 : decode cX8_readLine 87 = .ok (.invokevirtual 68, 3) := by decide +kernel
theorem dX8_readLine_90 : decode cX8_readLine 90 = .ok (.goto 156, 3) := by decide +kernel
theorem dX8_readLine_57 : decode cX8_readLine 57 = .ok (.aload_n 0, 1) := by decide +kernel
theorem dX8_readLine_58 : decode cX8_readLine 58 = .ok (.iload_n 1, 1) := by decide +kernel
theorem dX8_readLine_59 : decode cX8_readLine 59 = .ok (.ldc 56, 2) := by decide +kernel
theorem dX8_readLine_61 : decode cX8_readLine 61 = .ok (.invokevirtual 58, 3) := by decide +kernel
theorem dX8_readLine_64 : decode cX8_readLine 64 = .ok (.ifCond .eq 11, 3) := by decide +kernel
theorem dX8_readLine_67 : decode cX8_readLine 67 = .ok (.aload_n 0, 1) := by decide +kernel
theorem dX8_readLine_68 : decode cX8_readLine 68 = .ok (.iload_n 1, 1) := by decide +kernel
theorem dX8_readLine_69 : decode cX8_readLine 69 = .ok (.invokevirtual 62, 3) := by decide +kernel
theorem dX8_readLine_72 : decode cX8_readLine 72 = .ok (.goto 174, 3) := by decide +kernel
theorem dX8_readLine_5 : decode cX8_readLine 5 = .ok (.aload_n 0, 1) := by decide +kernel
theorem dX8_readLine_6 : decode cX8_readLine 6 = .ok (.getfield 38, 3) := by decide +kernel
theorem dX8_readLine_9 : decode cX8_readLine 9 = .ok (.aload_n 0, 1) := by decide +kernel
theorem dX8_readLine_10 : decode cX8_readLine 10 = .ok (.getfield 35, 3) := by decide +kernel
theorem dX8_readLine_13 : decode cX8_readLine 13 = .ok (.if_icmp .ge 44, 3) := by decide +kernel
theorem dX8_readLine_16 : decode cX8_readLine 16 = .ok (.aload_n 0, 1) := by decide +kernel
theorem dX8_readLine_17 : decode cX8_readLine 17 = .ok (.getfield 22, 3) := by decide +kernel
theorem dX8_readLine_20 : decode cX8_readLine 20 = .ok (.aload_n 0, 1) := by decide +kernel
theorem dX8_readLine_21 : decode cX8_readLine 21 = .ok (.getfield 38, 3) := by decide +kernel
theorem dX8_readLine_24 : decode cX8_readLine 24 = .ok (.iaload, 1) := by decide +kernel
theorem dX8_readLine_25 : decode cX8_readLine 25 = .ok (.bipush 97, 2) := by decide +kernel
theorem dX8_readLine_27 : decode cX8_readLine 27 = .ok (.if_icmp .lt 30, 3) := by decide +kernel
theorem dX8_readLine_30 : decode cX8_readLine 30 = .ok (.aload_n 0, 1) := by decide +kernel
theorem dX8_readLine_31 : decode cX8_readLine 31 = .ok (.getfield 22, 3) := by decide +kernel
theorem dX8_readLine_34 : decode cX8_readLine 34 = .ok (.aload_n 0, 1) := by decide +kernel
theorem dX8_readLine_35 : decode cX8_readLine 35 = .ok (.getfield 38, 3) := by decide +kernel
theorem dX8_readLine_38 : decode cX8_readLine 38 = .ok (.iaload, 1) := by decide +kernel
theorem dX8_readLine_39 : decode cX8_readLine 39 = .ok (.bipush 122, 2) := by decide +kernel
theorem dX8_readLine_41 : decode cX8_readLine 41 = .ok (.if_icmp .gt 16, 3) := by decide +kernel
theorem dX8_readLine_44 : decode cX8_readLine 44 = .ok (.aload_n 0, 1) := by decide +kernel
theorem dX8_readLine_45 : decode cX8_readLine 45 = .ok (.dup, 1) := by decide +kernel
theorem dX8_readLine_46 : decode cX8_readLine 46 = .ok (.getfield 38, 3) := by decide +kernel
theorem dX8_readLine_49 : decode cX8_readLine 49 = .ok (.iconst 1, 1) := by decide +kernel
theorem dX8_readLine_50 : decode cX8_readLine 50 = .ok (.iadd, 1) := by decide +kernel
theorem dX8_readLine_51 : decode cX8_readLine 51 = .ok (.putfield 38, 3) := by decide +kernel
theorem dX8_readLine_54 : decode cX8_readLine 54 = .ok (.goto (-49), 3) := by decide +kernel
theorem dX8_readLine_0 : decode cX8_readLine 0 = .ok (.aload_n 0, 1) := by decide +kernel
theorem dX8_readLine_1 : decode cX8_readLine 1 = .ok (.getfield 38, 3) := by decide +kernel
theorem dX8_readLine_4 : decode cX8_readLine 4 = .ok (.istore_n 1, 1) := by decide +kernel
theorem addR_sm (a n : Nat) (x y z : Int32) (h : zH) : sm a 4 h (cg_X6_addRing (a, n, x, y, z) h) := by
  show sm a 4 h (if n < 10 then zsI (zsI (zsI (zsI h (a + 1) n x) (a + 2) n y) (a + 3) n z) a 0 (nI (n + 1)) else h)
  split
  · exact sm_tr (sm_I _ _ (by omega) (by omega)) (sm_tr (sm_I _ _ (by omega) (by omega)) (sm_tr (sm_I _ _ (by omega) (by omega)) (sm_I _ _ (by omega) (by omega))))
  · exact sm_refl _ _ _
theorem addP_sm (a n : Nat) (x y : Int32) (h : zH) : sm a 6 h (cg_X6_addPair (a, n, x, y) h) := by
  show sm a 6 h (if n < 28 then zsI (zsI (zsI h (a + 4) n x) (a + 5) n y) a 4 (nI (n + 1)) else h)
  split
  · exact sm_tr (sm_I _ _ (by omega) (by omega)) (sm_tr (sm_I _ _ (by omega) (by omega)) (sm_I _ _ (by omega) (by omega)))
  · exact sm_refl _ _ _
def ca_X8_readLine : ((Nat → Int32) × Nat × zU × zD × Nat) → List zV := fun (T, n, U, S, r) => [vR 17 0 r]
def cp_X8_readLine : ((Nat → Int32) × Nat × zU × zD × Nat) → zH → Prop := fun (T, n, U, S, r) h => rpR T n U h r ∧ rpS S h (r + 1)
def cq_X8_readLine : ((Nat → Int32) × Nat × zU × zD × Nat) → zH → Option zV → zH → Prop := fun (T, n, U, S, r) h o h' => o = none ∧ rpR T n (uLn T n U S) h' r ∧ sm r 8 h h' ∧ ((uLn T n U S).2.1 = 0 → rpS (sLn T n U S) h' (r + 1))
theorem rc_X8_readLine : ∀ x : ((Nat → Int32) × Nat × zU × zD × Nat), ∃ (j a : Nat) (As : List zV), ca_X8_readLine x = vR (10 + 7) j a :: As := by
  rintro ⟨T, n, U, S, r⟩
  exact ⟨_, _, _, rfl⟩
set_option maxHeartbeats 4000000 in
set_option maxRecDepth 100000 in
theorem m_X8_readLine : zM yX8_readLine cX8_readLine 2 none ({ frames := 5, cells := 0, slots := 0, locals := 108 } : Room) ((ca_X8_readLine, cp_X8_readLine, cq_X8_readLine) : zC ((Nat → Int32) × Nat × zU × zD × Nat)) := by
  refine zM_of (by decide) ?_
  rintro X Y ⟨T, n, U, S, r⟩ h ⟨hU, hS⟩ O E hR
  have hU : rpR T n U h r := hU
  have hS : rpS S h (r + 1) := hS
  have hp := hU.2.1
  have hn4 : n ≤ 400 := hU.1.2
  have hw := wnd_le T hp.2
  obtain ⟨H1, eH⟩ : ∃ H1 : zH, H1 = zsI h r 6 (nI (wnd T n U.1)) := ⟨_, rfl⟩
  have w0 := rpR_6 hw.2 hU
  rw [← eH] at w0
  have w1 : rpR T n (uW T n U) H1 r := w0.1
  have s1 : sm r 1 h H1 := w0.2
  have hS1 : rpS S H1 (r + 1) := rpS_sm s1 (by omega) hS
  have t8 : H1.1 (r + 8) = T := w1.2.2.2.2.2
  have e6 : H1.1 r 6 = nI (wnd T n U.1) := w1.2.1.1
  have nw : ∀ k a : Nat, cf_X8_isWord (r, U.1, wnd T n U.1, k, a) H1 = 0 → isW T n U k = false := by
    intro k a hq
    replace hq : bI (isw (H1.1 (r + 8)) U.1 (wnd T n U.1) k) = 0 := hq
    rw [t8] at hq
    exact (bI_0 _).mp hq
  have yw : ∀ k a : Nat, ¬ cf_X8_isWord (r, U.1, wnd T n U.1, k, a) H1 = 0 → isW T n U k = true := by
    intro k a hq
    replace hq : ¬ bI (isw (H1.1 (r + 8)) U.1 (wnd T n U.1) k) = 0 := hq
    rw [t8] at hq
    cases hb : isW T n U k with
    | true => rfl
    | false => exact absurd ((bI_0 _).mpr hb) hq
  have B_246 := zr_return (X := X) (Y := Y) (u := 0) (v := 0) O E (Nat.le_refl _) (Nat.le_refl _) dX8_readLine_246
  have C_246 : zSd X Y 0 0 246 (fun ls st h1 => ls = [some (vR 17 0 r), some (vI (nI U.1))] ∧ st = [] ∧ rpR T n (uLn T n U S) h1 r ∧ sm r 8 h h1 ∧ ((uLn T n U S).2.1 = 0 → rpS (sLn T n U S) h1 (r + 1))) := by
    refine zSd_weak B_246 (fun ls st h1 t => ?_)
    obtain ⟨rfl, rfl, hh⟩ := t
    exact ⟨rfl, hh⟩
  have B_240 := zr_aload_n (X := X) (Y := Y) (u := 0) (v := 0) O dX8_readLine_240 rfl (zr_iconst (x := 1) O dX8_readLine_241 rfl (zr_iload_n O dX8_readLine_242 rfl (zr_cVv (zr_cV (ci := 7) (n := 2) O m_X8_fail (bn_X8_fail _ ⟨rfl, rfl⟩) vw_X8_fail tw_607 rc_X8_fail (zrm hR rfl rfl) dX8_readLine_243 (C_246)))))
  have C_240 : zSd X Y 0 0 240 (fun ls st h1 => ls = [some (vR 17 0 r), some (vI (nI U.1))] ∧ st = [] ∧ h1 = H1 ∧ isW T n U 1 = false ∧ isW T n U 2 = false ∧ isW T n U 3 = false ∧ isW T n U 4 = false ∧ isW T n U 5 = false ∧ isW T n U 6 = false ∧ isW T n U 7 = false) := by
    refine zSd_weak B_240 (fun ls st h1 t => ?_)
    obtain ⟨rfl, rfl, eh, n1, n2, n3, n4, n5, n6, n7⟩ := t
    subst eh
    have eL : uLn T n U S = uF (uW T n U) 1 (nI U.1) := by unfold uLn; rw [if_neg (by rw [n1]; exact Bool.false_ne_true), if_neg (by rw [n2]; exact Bool.false_ne_true), if_neg (by rw [n3]; exact Bool.false_ne_true), if_neg (by rw [n4]; exact Bool.false_ne_true), if_neg (by rw [n5]; exact Bool.false_ne_true), if_neg (by rw [n6]; exact Bool.false_ne_true), if_neg (by rw [n7]; exact Bool.false_ne_true)]
    have eS : sLn T n U S = S := by unfold sLn; rw [if_neg (by rw [n1]; exact Bool.false_ne_true), if_neg (by rw [n2]; exact Bool.false_ne_true), if_neg (by rw [n3]; exact Bool.false_ne_true), if_neg (by rw [n4]; exact Bool.false_ne_true), if_neg (by rw [n5]; exact Bool.false_ne_true), if_neg (by rw [n6]; exact Bool.false_ne_true), if_neg (by rw [n7]; exact Bool.false_ne_true)]
    have f1 := rpR_F 1 (nI U.1) w1
    exact ⟨(r, 1, nI U.1), rfl, trivial, rfl, rfl, by rw [eL]; exact f1.1, sm_mo (sm_tr s1 f1.2) (by omega) (by omega), fun hz => absurd (by rw [eL] at hz; exact hz) (uF_ne (by decide))⟩
  have B_217 := zr_aload_n (X := X) (Y := Y) (u := 0) (v := 0) O dX8_readLine_217 rfl (zr_iload_n O dX8_readLine_218 rfl (zr_str O ws_RX8_91 dX8_readLine_219 (zr_cI (zr_cV (ci := 7) (n := 2) O m_X8_isWord (bn_X8_isWord _ ⟨rfl, rfl⟩) vw_X8_isWord tw_551 rc_X8_isWord (zrm hR rfl rfl) dX8_readLine_221 (zr_ifeq (tgt := 240) O dX8_readLine_224 rfl C_240 (zr_aload_n O dX8_readLine_227 rfl (zr_gS (ci := 7) (j := 0) (off := 1) (t := 15) (n := 0) O zc_7 (by decide) rfl tw_194 dX8_readLine_228 (zr_gS (ci := 5) (j := 7) (off := 6) (t := 1) (n := 5) O zc_5 (by decide) rfl tw_76 dX8_readLine_231 (zr_iconst (x := 4) O dX8_readLine_234 rfl (zr_iconst (x := 0) O dX8_readLine_235 rfl (zr_iast O dX8_readLine_236 (zr_goto (tgt := 246) O dX8_readLine_237 rfl C_246))))))))))))
  have C_217 : zSd X Y 0 0 217 (fun ls st h1 => ls = [some (vR 17 0 r), some (vI (nI U.1))] ∧ st = [] ∧ h1 = H1 ∧ isW T n U 1 = false ∧ isW T n U 2 = false ∧ isW T n U 3 = false ∧ isW T n U 4 = false ∧ isW T n U 5 = false ∧ isW T n U 6 = false) := by
    refine zSd_weak B_217 (fun ls st h1 t => ?_)
    obtain ⟨rfl, rfl, eh, n1, n2, n3, n4, n5, n6⟩ := t
    subst eh
    refine fun a => ⟨(r, U.1, wnd T n U.1, 7, a), rfl, ⟨e6, ⟨hw.1, by omega⟩, by decide⟩, fun cq => ⟨rfl, rfl, rfl, n1, n2, n3, n4, n5, n6, nw _ _ cq⟩, fun cq => ?_⟩
    have y7 := yw _ _ cq
    have eL : uLn T n U S = uW T n U := by unfold uLn; rw [if_neg (by rw [n1]; exact Bool.false_ne_true), if_neg (by rw [n2]; exact Bool.false_ne_true), if_neg (by rw [n3]; exact Bool.false_ne_true), if_neg (by rw [n4]; exact Bool.false_ne_true), if_neg (by rw [n5]; exact Bool.false_ne_true), if_neg (by rw [n6]; exact Bool.false_ne_true), if_pos y7]
    have eS : sLn T n U S = aSt S 4 0 := by unfold sLn; rw [if_neg (by rw [n1]; exact Bool.false_ne_true), if_neg (by rw [n2]; exact Bool.false_ne_true), if_neg (by rw [n3]; exact Bool.false_ne_true), if_neg (by rw [n4]; exact Bool.false_ne_true), if_neg (by rw [n5]; exact Bool.false_ne_true), if_neg (by rw [n6]; exact Bool.false_ne_true), if_pos y7]
    refine ⟨4, rfl, by decide, rfl, rfl, ?_, ?_, fun hz => ?_⟩
    · rw [eL, zsI_W]; exact rpR_fr (by omega) (by omega) w1
    · exact sm_tr (sm_mo s1 (by omega) (by omega)) (sm_I _ _ (by omega) (by omega))
    · rw [eS]; exact rpS_set 4 0 (fun j hj => by rw [zsI_W]; exact zsW_n _ _ (by omega)) (by rw [zsI_W]; exact zsW_s _ _ _) hS1
  have B_200 := zr_aload_n (X := X) (Y := Y) (u := 0) (v := 0) O dX8_readLine_200 rfl (zr_iload_n O dX8_readLine_201 rfl (zr_str O ws_RX8_86 dX8_readLine_202 (zr_cI (zr_cV (ci := 7) (n := 2) O m_X8_isWord (bn_X8_isWord _ ⟨rfl, rfl⟩) vw_X8_isWord tw_551 rc_X8_isWord (zrm hR rfl rfl) dX8_readLine_204 (zr_ifeq (tgt := 217) O dX8_readLine_207 rfl C_217 (zr_aload_n O dX8_readLine_210 rfl (zr_cV (ci := 7) (n := 0) O m_X8_readRepeat (bn_X8_readRepeat _ ⟨rfl, rfl⟩) vw_X8_readRepeat tw_649 rc_X8_readRepeat (zrm hR rfl rfl) dX8_readLine_211 (zr_goto (tgt := 246) O dX8_readLine_214 rfl C_246))))))))
  have C_200 : zSd X Y 0 0 200 (fun ls st h1 => ls = [some (vR 17 0 r), some (vI (nI U.1))] ∧ st = [] ∧ h1 = H1 ∧ isW T n U 1 = false ∧ isW T n U 2 = false ∧ isW T n U 3 = false ∧ isW T n U 4 = false ∧ isW T n U 5 = false) := by
    refine zSd_weak B_200 (fun ls st h1 t => ?_)
    obtain ⟨rfl, rfl, eh, n1, n2, n3, n4, n5⟩ := t
    subst eh
    refine fun a => ⟨(r, U.1, wnd T n U.1, 6, a), rfl, ⟨e6, ⟨hw.1, by omega⟩, by decide⟩, fun cq => ⟨rfl, rfl, rfl, n1, n2, n3, n4, n5, nw _ _ cq⟩, fun cq => ?_⟩
    have y6 := yw _ _ cq
    have eL : uLn T n U S = uRp T n (uW T n U) := by unfold uLn; rw [if_neg (by rw [n1]; exact Bool.false_ne_true), if_neg (by rw [n2]; exact Bool.false_ne_true), if_neg (by rw [n3]; exact Bool.false_ne_true), if_neg (by rw [n4]; exact Bool.false_ne_true), if_neg (by rw [n5]; exact Bool.false_ne_true), if_pos y6]
    have eS : sLn T n U S = aSt S 4 (uNv T n (uW T n U)) := by unfold sLn; rw [if_neg (by rw [n1]; exact Bool.false_ne_true), if_neg (by rw [n2]; exact Bool.false_ne_true), if_neg (by rw [n3]; exact Bool.false_ne_true), if_neg (by rw [n4]; exact Bool.false_ne_true), if_neg (by rw [n5]; exact Bool.false_ne_true), if_pos y6]
    refine ⟨(T, n, uW T n U, r), rfl, w1, fun o h2 hq => ?_⟩
    obtain ⟨rfl, w2, g7, go, g2⟩ := hq
    replace w2 : rpR T n (uRp T n (uW T n U)) h2 r := w2
    replace g7 : h2.1 (r + 7) = va_up (h1.1 (r + 7)) 4 (uNv T n (uW T n U)) := g7
    replace go : ∀ q, q ≠ r → q ≠ r + 7 → h2.1 q = h1.1 q := go
    have s2 : sm r 8 h1 h2 := ⟨fun q hq => go q (by omega) (by omega), g2⟩
    refine ⟨rfl, rfl, by rw [eL]; exact w2, sm_tr (sm_mo s1 (by omega) (by omega)) s2, fun hz => ?_⟩
    rw [eS]; exact rpS_set 4 _ (fun j hj => go _ (by omega) (by omega)) g7 hS1
  have B_177 := zr_aload_n (X := X) (Y := Y) (u := 0) (v := 0) O dX8_readLine_177 rfl (zr_iload_n O dX8_readLine_178 rfl (zr_str O ws_RX8_84 dX8_readLine_179 (zr_cI (zr_cV (ci := 7) (n := 2) O m_X8_isWord (bn_X8_isWord _ ⟨rfl, rfl⟩) vw_X8_isWord tw_551 rc_X8_isWord (zrm hR rfl rfl) dX8_readLine_181 (zr_ifeq (tgt := 200) O dX8_readLine_184 rfl C_200 (zr_aload_n O dX8_readLine_187 rfl (zr_gS (ci := 7) (j := 0) (off := 1) (t := 15) (n := 0) O zc_7 (by decide) rfl tw_194 dX8_readLine_188 (zr_gS (ci := 5) (j := 7) (off := 6) (t := 1) (n := 5) O zc_5 (by decide) rfl tw_76 dX8_readLine_191 (zr_iconst (x := 3) O dX8_readLine_194 rfl (zr_iconst (x := 1) O dX8_readLine_195 rfl (zr_iast O dX8_readLine_196 (zr_goto (tgt := 246) O dX8_readLine_197 rfl C_246))))))))))))
  have C_177 : zSd X Y 0 0 177 (fun ls st h1 => ls = [some (vR 17 0 r), some (vI (nI U.1))] ∧ st = [] ∧ h1 = H1 ∧ isW T n U 1 = false ∧ isW T n U 2 = false ∧ isW T n U 3 = false ∧ isW T n U 4 = false) := by
    refine zSd_weak B_177 (fun ls st h1 t => ?_)
    obtain ⟨rfl, rfl, eh, n1, n2, n3, n4⟩ := t
    subst eh
    refine fun a => ⟨(r, U.1, wnd T n U.1, 5, a), rfl, ⟨e6, ⟨hw.1, by omega⟩, by decide⟩, fun cq => ⟨rfl, rfl, rfl, n1, n2, n3, n4, nw _ _ cq⟩, fun cq => ?_⟩
    have y5 := yw _ _ cq
    have eL : uLn T n U S = uW T n U := by unfold uLn; rw [if_neg (by rw [n1]; exact Bool.false_ne_true), if_neg (by rw [n2]; exact Bool.false_ne_true), if_neg (by rw [n3]; exact Bool.false_ne_true), if_neg (by rw [n4]; exact Bool.false_ne_true), if_pos y5]
    have eS : sLn T n U S = aSt S 3 1 := by unfold sLn; rw [if_neg (by rw [n1]; exact Bool.false_ne_true), if_neg (by rw [n2]; exact Bool.false_ne_true), if_neg (by rw [n3]; exact Bool.false_ne_true), if_neg (by rw [n4]; exact Bool.false_ne_true), if_pos y5]
    refine ⟨3, rfl, by decide, rfl, rfl, ?_, ?_, fun hz => ?_⟩
    · rw [eL, zsI_W]; exact rpR_fr (by omega) (by omega) w1
    · exact sm_tr (sm_mo s1 (by omega) (by omega)) (sm_I _ _ (by omega) (by omega))
    · rw [eS]; exact rpS_set 3 1 (fun j hj => by rw [zsI_W]; exact zsW_n _ _ (by omega)) (by rw [zsI_W]; exact zsW_s _ _ _) hS1
  have B_123 := zr_aload_n (X := X) (Y := Y) (u := 0) (v := 0) O dX8_readLine_123 rfl (zr_iload_n O dX8_readLine_124 rfl (zr_str O ws_RX8_79 dX8_readLine_125 (zr_cI (zr_cV (ci := 7) (n := 2) O m_X8_isWord (bn_X8_isWord _ ⟨rfl, rfl⟩) vw_X8_isWord tw_551 rc_X8_isWord (zrm hR rfl rfl) dX8_readLine_127 (zr_ifeq (tgt := 177) O dX8_readLine_130 rfl C_177 (zr_aload_n O dX8_readLine_133 rfl (zr_gS (ci := 7) (j := 0) (off := 1) (t := 15) (n := 0) O zc_7 (by decide) rfl tw_194 dX8_readLine_134 (zr_gS (ci := 5) (j := 7) (off := 6) (t := 1) (n := 5) O zc_5 (by decide) rfl tw_76 dX8_readLine_137 (zr_iconst (x := 1) O dX8_readLine_140 rfl (zr_aload_n O dX8_readLine_141 rfl (zr_bipush (x := (-40)) O dX8_readLine_142 (by decide) (zr_bipush (x := (125)) O dX8_readLine_144 (by decide) (zr_cV (ci := 7) (n := 2) O m_X8_readSigned (bn_X8_readSigned _ ⟨rfl, rfl⟩) vw_X8_readSigned tw_624 rc_X8_readSigned (zrm hR rfl rfl) dX8_readLine_146 (zr_iast O dX8_readLine_149 (zr_aload_n O dX8_readLine_150 rfl (zr_gS (ci := 7) (j := 0) (off := 1) (t := 15) (n := 0) O zc_7 (by decide) rfl tw_194 dX8_readLine_151 (zr_gS (ci := 5) (j := 7) (off := 6) (t := 1) (n := 5) O zc_5 (by decide) rfl tw_76 dX8_readLine_154 (zr_iconst (x := 2) O dX8_readLine_157 rfl (zr_aload_n O dX8_readLine_158 rfl (zr_aload_n O dX8_readLine_159 rfl (zr_gS (ci := 7) (j := 0) (off := 1) (t := 15) (n := 0) O zc_7 (by decide) rfl tw_194 dX8_readLine_160 (zr_gS (ci := 5) (j := 7) (off := 6) (t := 1) (n := 5) O zc_5 (by decide) rfl tw_76 dX8_readLine_163 (zr_iconst (x := 1) O dX8_readLine_166 rfl (zr_iald O dX8_readLine_167 (zr_bipush (x := (125)) O dX8_readLine_168 (by decide) (zr_cV (ci := 7) (n := 2) O m_X8_readSigned (bn_X8_readSigned _ ⟨rfl, rfl⟩) vw_X8_readSigned tw_624 rc_X8_readSigned (zrm hR rfl rfl) dX8_readLine_170 (zr_iast O dX8_readLine_173 (zr_goto (tgt := 246) O dX8_readLine_174 rfl C_246))))))))))))))))))))))))))))
  have C_123 : zSd X Y 0 0 123 (fun ls st h1 => ls = [some (vR 17 0 r), some (vI (nI U.1))] ∧ st = [] ∧ h1 = H1 ∧ isW T n U 1 = false ∧ isW T n U 2 = false ∧ isW T n U 3 = false) := by
    refine zSd_weak B_123 (fun ls st h1 t => ?_)
    obtain ⟨rfl, rfl, eh, n1, n2, n3⟩ := t
    subst eh
    refine fun a => ⟨(r, U.1, wnd T n U.1, 4, a), rfl, ⟨e6, ⟨hw.1, by omega⟩, by decide⟩, fun cq => ⟨rfl, rfl, rfl, n1, n2, n3, nw _ _ cq⟩, fun cq => ?_⟩
    have y4 := yw _ _ cq
    have eL : uLn T n U S = uL4 T n U := by unfold uLn; rw [if_neg (by rw [n1]; exact Bool.false_ne_true), if_neg (by rw [n2]; exact Bool.false_ne_true), if_neg (by rw [n3]; exact Bool.false_ne_true), if_pos y4]
    have eS : sLn T n U S = sL4 T n U S := by unfold sLn; rw [if_neg (by rw [n1]; exact Bool.false_ne_true), if_neg (by rw [n2]; exact Bool.false_ne_true), if_neg (by rw [n3]; exact Bool.false_ne_true), if_pos y4]
    refine ⟨(T, n, uW T n U, r, -40, 125), rfl, w1, fun o h2 hq => ?_⟩
    obtain ⟨rfl, s2, w2⟩ := hq
    replace s2 : sm r 1 h1 h2 := s2
    replace w2 : rpR T n (uSg T n (uW T n U) (-40) 125) h2 r := w2
    obtain ⟨h3, e3⟩ : ∃ h3 : zH, h3 = zsI h2 (r + 1 + 6) 1 (uSv T n (uW T n U)) := ⟨_, rfl⟩
    have w3 : rpR T n (uSg T n (uW T n U) (-40) 125) h3 r := by rw [e3, zsI_W]; exact rpR_fr (by omega) (by omega) w2
    have hS3 : rpS (aSt S 1 (uSv T n (uW T n U))) h3 (r + 1) := by rw [e3]; exact rpS_set 1 _ (fun j hj => by rw [zsI_W]; exact zsW_n _ _ (by omega)) (by rw [zsI_W]; exact zsW_s _ _ _) (rpS_sm s2 (by omega) hS1)
    have s3 : sm r 8 h2 h3 := by rw [e3]; exact sm_I _ _ (by omega) (by omega)
    have v1 : h3.1 (r + 1 + 6) 1 = uSv T n (uW T n U) := by rw [e3, zsI_W, zsW_s, zup_s]
    refine ⟨1, rfl, by decide, 1, rfl, by decide, ?_⟩
    show zi_c' _ _ _ _ _ _
    rw [← e3]
    refine ⟨(T, n, uSg T n (uW T n U) (-40) 125, r, uSv T n (uW T n U), 125), by rw [v1]; rfl, w3, fun o2 h4 hq2 => ?_⟩
    obtain ⟨rfl, s4, w4⟩ := hq2
    replace s4 : sm r 1 h3 h4 := s4
    replace w4 : rpR T n (uL4 T n U) h4 r := w4
    refine ⟨2, rfl, by decide, rfl, rfl, ?_, ?_, fun hz => ?_⟩
    · rw [eL, zsI_W]; exact rpR_fr (by omega) (by omega) w4
    · exact sm_tr (sm_mo s1 (by omega) (by omega)) (sm_tr (sm_mo s2 (by omega) (by omega)) (sm_tr s3 (sm_tr (sm_mo s4 (by omega) (by omega)) (sm_I _ _ (by omega) (by omega)))))
    · rw [eS]; exact rpS_set 2 _ (fun j hj => by rw [zsI_W]; exact zsW_n _ _ (by omega)) (by rw [zsI_W]; exact zsW_s _ _ _) (rpS_sm s4 (by omega) hS3)
  have B_93 := zr_aload_n (X := X) (Y := Y) (u := 0) (v := 0) O dX8_readLine_93 rfl (zr_iload_n O dX8_readLine_94 rfl (zr_str O ws_RX8_71 dX8_readLine_95 (zr_cI (zr_cV (ci := 7) (n := 2) O m_X8_isWord (bn_X8_isWord _ ⟨rfl, rfl⟩) vw_X8_isWord tw_551 rc_X8_isWord (zrm hR rfl rfl) dX8_readLine_97 (zr_ifeq (tgt := 123) O dX8_readLine_100 rfl C_123 (zr_aload_n O dX8_readLine_103 rfl (zr_gS (ci := 7) (j := 0) (off := 1) (t := 15) (n := 0) O zc_7 (by decide) rfl tw_194 dX8_readLine_104 (zr_gS (ci := 5) (j := 7) (off := 6) (t := 1) (n := 5) O zc_5 (by decide) rfl tw_76 dX8_readLine_107 (zr_iconst (x := 0) O dX8_readLine_110 rfl (zr_aload_n O dX8_readLine_111 rfl (zr_iconst (x := 0) O dX8_readLine_112 rfl (zr_sipush (x := (999)) O dX8_readLine_113 (by decide) (zr_cV (ci := 7) (n := 2) O m_X8_readNumber (bn_X8_readNumber _ ⟨rfl, rfl⟩) vw_X8_readNumber tw_611 rc_X8_readNumber (zrm hR rfl rfl) dX8_readLine_116 (zr_iast O dX8_readLine_119 (zr_goto (tgt := 246) O dX8_readLine_120 rfl C_246)))))))))))))))
  have C_93 : zSd X Y 0 0 93 (fun ls st h1 => ls = [some (vR 17 0 r), some (vI (nI U.1))] ∧ st = [] ∧ h1 = H1 ∧ isW T n U 1 = false ∧ isW T n U 2 = false) := by
    refine zSd_weak B_93 (fun ls st h1 t => ?_)
    obtain ⟨rfl, rfl, eh, n1, n2⟩ := t
    subst eh
    refine fun a => ⟨(r, U.1, wnd T n U.1, 3, a), rfl, ⟨e6, ⟨hw.1, by omega⟩, by decide⟩, fun cq => ⟨rfl, rfl, rfl, n1, n2, nw _ _ cq⟩, fun cq => ?_⟩
    have y3 := yw _ _ cq
    have eL : uLn T n U S = uNm T n (uW T n U) 0 999 := by unfold uLn; rw [if_neg (by rw [n1]; exact Bool.false_ne_true), if_neg (by rw [n2]; exact Bool.false_ne_true), if_pos y3]
    have eS : sLn T n U S = aSt S 0 (uNv T n (uW T n U)) := by unfold sLn; rw [if_neg (by rw [n1]; exact Bool.false_ne_true), if_neg (by rw [n2]; exact Bool.false_ne_true), if_pos y3]
    refine ⟨(T, n, uW T n U, r, 0, 999), rfl, w1, fun o h2 hq => ?_⟩
    obtain ⟨rfl, s2, w2⟩ := hq
    replace s2 : sm r 1 h1 h2 := s2
    replace w2 : rpR T n (uNm T n (uW T n U) 0 999) h2 r := w2
    refine ⟨0, rfl, by decide, rfl, rfl, ?_, ?_, fun hz => ?_⟩
    · rw [eL, zsI_W]; exact rpR_fr (by omega) (by omega) w2
    · exact sm_tr (sm_mo s1 (by omega) (by omega)) (sm_tr (sm_mo s2 (by omega) (by omega)) (sm_I _ _ (by omega) (by omega)))
    · rw [eS]; exact rpS_set 0 _ (fun j hj => by rw [zsI_W]; exact zsW_n _ _ (by omega)) (by rw [zsI_W]; exact zsW_s _ _ _) (rpS_sm s2 (by omega) hS1)
  have B_75 := zr_aload_n (X := X) (Y := Y) (u := 0) (v := 0) O dX8_readLine_75 rfl (zr_iload_n O dX8_readLine_76 rfl (zr_str O ws_RX8_66 dX8_readLine_77 (zr_cI (zr_cV (ci := 7) (n := 2) O m_X8_isWord (bn_X8_isWord _ ⟨rfl, rfl⟩) vw_X8_isWord tw_551 rc_X8_isWord (zrm hR rfl rfl) dX8_readLine_79 (zr_ifeq (tgt := 93) O dX8_readLine_82 rfl C_93 (zr_aload_n O dX8_readLine_85 rfl (zr_iload_n O dX8_readLine_86 rfl (zr_cV (ci := 7) (n := 1) O m_X8_readPair (bn_X8_readPair _ ⟨rfl, rfl⟩) vw_X8_readPair tw_633 rc_X8_readPair (zrm hR rfl rfl) dX8_readLine_87 (zr_goto (tgt := 246) O dX8_readLine_90 rfl C_246)))))))))
  have C_75 : zSd X Y 0 0 75 (fun ls st h1 => ls = [some (vR 17 0 r), some (vI (nI U.1))] ∧ st = [] ∧ h1 = H1 ∧ isW T n U 1 = false) := by
    refine zSd_weak B_75 (fun ls st h1 t => ?_)
    obtain ⟨rfl, rfl, eh, n1⟩ := t
    subst eh
    refine fun a => ⟨(r, U.1, wnd T n U.1, 2, a), rfl, ⟨e6, ⟨hw.1, by omega⟩, by decide⟩, fun cq => ⟨rfl, rfl, rfl, n1, nw _ _ cq⟩, fun cq => ?_⟩
    have y2 := yw _ _ cq
    have eL : uLn T n U S = uP4 (fI S) (gI S) T n (uW T n U) (dN S) (dP S) (nI U.1) := by unfold uLn; rw [if_neg (by rw [n1]; exact Bool.false_ne_true), if_pos y2]
    have eS : sLn T n U S = sL2 T n U S := by unfold sLn; rw [if_neg (by rw [n1]; exact Bool.false_ne_true), if_pos y2]
    have e45 : uP4 (h1.1 (r + 5)) (h1.1 (r + 6)) T n (uW T n U) (dN S) (dP S) (nI U.1) = uP4 (fI S) (gI S) T n (uW T n U) (dN S) (dP S) (nI U.1) := by
      unfold uP4
      rw [hpr_cg (F' := fI S) (G' := gI S) (fun i hi => (hS1.2.2.2.1 i hi).1.1) (fun i hi => (hS1.2.2.2.1 i hi).2.1)]
    refine ⟨(T, n, uW T n U, r, dN S, dP S, nI U.1), rfl, ⟨w1, hS1.1.1, hS1.2.1⟩, fun o h2 hq => ?_⟩
    obtain ⟨rfl, w2, h3, s2, e3⟩ := hq
    replace w2 : rpR T n (uP4 (h1.1 (r + 5)) (h1.1 (r + 6)) T n (uW T n U) (dN S) (dP S) (nI U.1)) h2 r := w2
    replace s2 : sm r 1 h1 h3 := s2
    replace e3 : h2 = cg_X6_addPair (r + 1, dP S, uPa T n (uW T n U) (dP S) (nI U.1), uPb T n (uW T n U) (dN S) (dP S) (nI U.1)) h3 := e3
    rw [e45] at w2
    refine ⟨rfl, rfl, by rw [eL]; exact w2, ?_, fun hz => ?_⟩
    · rw [e3]; exact sm_tr (sm_mo s1 (by omega) (by omega)) (sm_tr (sm_mo s2 (by omega) (by omega)) (sm_mo (addP_sm _ _ _ _ _) (by omega) (by omega)))
    · rw [eL] at hz
      obtain ⟨hn, -, -, ⟨q1, q2⟩, q3, q4⟩ := uP4_0 hz
      obtain ⟨k1, k2⟩ := cl_lt hS1.1.2 q1 q2
      obtain ⟨k3, k4⟩ := cl_lt hS1.1.2 q3 q4
      have hP := hS1.2.1.2
      have := rpS_pair _ _ (by omega) k2 k4 (rpS_sm s2 (by omega) hS1)
      rw [← k1, ← k3, ← e3] at this
      rw [eS]
      exact this
  have B_57 := zr_aload_n (X := X) (Y := Y) (u := 0) (v := 0) O dX8_readLine_57 rfl (zr_iload_n O dX8_readLine_58 rfl (zr_str O ws_RX8_56 dX8_readLine_59 (zr_cI (zr_cV (ci := 7) (n := 2) O m_X8_isWord (bn_X8_isWord _ ⟨rfl, rfl⟩) vw_X8_isWord tw_551 rc_X8_isWord (zrm hR rfl rfl) dX8_readLine_61 (zr_ifeq (tgt := 75) O dX8_readLine_64 rfl C_75 (zr_aload_n O dX8_readLine_67 rfl (zr_iload_n O dX8_readLine_68 rfl (zr_cV (ci := 7) (n := 1) O m_X8_readRing (bn_X8_readRing _ ⟨rfl, rfl⟩) vw_X8_readRing tw_603 rc_X8_readRing (zrm hR rfl rfl) dX8_readLine_69 (zr_goto (tgt := 246) O dX8_readLine_72 rfl C_246)))))))))
  have C_57 : zSd X Y 0 0 57 (fun ls st h1 => ls = [some (vR 17 0 r), some (vI (nI U.1))] ∧ st = [] ∧ h1 = H1) := by
    refine zSd_weak B_57 (fun ls st h1 t => ?_)
    obtain ⟨rfl, rfl, eh⟩ := t
    subst eh
    refine fun a => ⟨(r, U.1, wnd T n U.1, 1, a), rfl, ⟨e6, ⟨hw.1, by omega⟩, by decide⟩, fun cq => ⟨rfl, rfl, rfl, nw _ _ cq⟩, fun cq => ?_⟩
    have y1 := yw _ _ cq
    have eL : uLn T n U S = uR3 T n (uW T n U) (dN S) (nI U.1) := by unfold uLn; rw [if_pos y1]
    have eS : sLn T n U S = sL1 T n U S := by unfold sLn; rw [if_pos y1]
    refine ⟨(T, n, uW T n U, r, dN S, nI U.1), rfl, ⟨w1, hS1.1.1, hS1.1.2⟩, fun o h2 hq => ?_⟩
    obtain ⟨rfl, w2, h3, s2, e3⟩ := hq
    replace w2 : rpR T n (uR3 T n (uW T n U) (dN S) (nI U.1)) h2 r := w2
    replace s2 : sm r 1 h1 h3 := s2
    replace e3 : h2 = cg_X6_addRing (r + 1, dN S, uNv T n (uR0 (uW T n U) (dN S) (nI U.1)), uSv T n (uR1 T n (uW T n U) (dN S) (nI U.1)), uNv T n (uR2 T n (uW T n U) (dN S) (nI U.1))) h3 := e3
    refine ⟨rfl, rfl, by rw [eL]; exact w2, ?_, fun hz => ?_⟩
    · rw [e3]; exact sm_tr (sm_mo s1 (by omega) (by omega)) (sm_tr (sm_mo s2 (by omega) (by omega)) (sm_mo (addR_sm _ _ _ _ _ _) (by omega) (by omega)))
    · rw [eL] at hz
      obtain ⟨hn, -⟩ := uR3_0 hz
      have hN := hS1.1.2
      rw [eS, e3]
      exact rpS_ring _ _ _ (by omega) (rpS_sm s2 (by omega) hS1)
  have L_5 : ∀ nn : Nat, zSd X Y 0 0 5 ((fun k ls st h1 => ∃ i : Nat, k = (n - U.1) - i ∧ U.1 + i ≤ n ∧ ls = [some (vR 17 0 r), some (vI (nI U.1))] ∧ st = [] ∧ h1 = zsI h r 6 (nI (U.1 + i)) ∧ ∀ j, j < i → (!sml T (U.1 + j)) = false : Nat → zT) nn) := by
    refine zSd_loop (fun nn ih => ?_)
    have B_5 := zr_aload_n (X := X) (Y := Y) (u := 0) (v := 0) O dX8_readLine_5 rfl (zr_gI (ci := 7) (j := 6) O zc_7 (by decide) rfl tw_203 dX8_readLine_6 (zr_aload_n O dX8_readLine_9 rfl (zr_gI (ci := 7) (j := 5) O zc_7 (by decide) rfl tw_202 dX8_readLine_10 (zr_icge (tgt := 57) O dX8_readLine_13 rfl C_57 (zr_aload_n O dX8_readLine_16 rfl (zr_gS (ci := 7) (j := 3) (off := 8) (t := 1) (n := 400) O zc_7 (by decide) rfl tw_199 dX8_readLine_17 (zr_aload_n O dX8_readLine_20 rfl (zr_gI (ci := 7) (j := 6) O zc_7 (by decide) rfl tw_203 dX8_readLine_21 (zr_iald O dX8_readLine_24 (zr_bipush (x := (97)) O dX8_readLine_25 (by decide) (zr_iclt (tgt := 57) O dX8_readLine_27 rfl C_57 (zr_aload_n O dX8_readLine_30 rfl (zr_gS (ci := 7) (j := 3) (off := 8) (t := 1) (n := 400) O zc_7 (by decide) rfl tw_199 dX8_readLine_31 (zr_aload_n O dX8_readLine_34 rfl (zr_gI (ci := 7) (j := 6) O zc_7 (by decide) rfl tw_203 dX8_readLine_35 (zr_iald O dX8_readLine_38 (zr_bipush (x := (122)) O dX8_readLine_39 (by decide) (zr_icgt (tgt := 57) O dX8_readLine_41 rfl C_57 (zr_aload_n O dX8_readLine_44 rfl (zr_dup O dX8_readLine_45 (zr_gI (ci := 7) (j := 6) O zc_7 (by decide) rfl tw_203 dX8_readLine_46 (zr_iconst (x := 1) O dX8_readLine_49 rfl (zr_iadd O dX8_readLine_50 (zr_pI (ci := 7) (j := 6) O zc_7 (by decide) rfl rfl rfl tw_203 dX8_readLine_51 (zr_goto (tgt := 5) O dX8_readLine_54 rfl ih)))))))))))))))))))))))))
    refine zSd_weak B_5 (fun ls st h1 t => ?_)
    obtain ⟨i, rfl, hi, rfl, rfl, rfl, hb⟩ := t
    have ne8 : r + 8 ≠ r := by omega
    have g5 : (zsI h r 6 (nI (U.1 + i))).1 r 5 = nI n := by rw [zsI_W, zsW_s, zup_n _ _ (by decide : (5 : Nat) ≠ 6)]; exact hU.1.1
    have g6 : (zsI h r 6 (nI (U.1 + i))).1 r 6 = nI (U.1 + i) := by rw [zsI_W, zsW_s, zup_s]
    have g8 : (zsI h r 6 (nI (U.1 + i))).1 (r + 8) = T := by rw [zsI_W, zsW_n _ _ ne8]; exact hU.2.2.2.2.2
    have done : wnd T n U.1 = U.1 + i → zsI h r 6 (nI (U.1 + i)) = H1 := fun e => by rw [eH, e]
    refine ⟨fun cq => ⟨rfl, rfl, done ?_⟩, fun cq => ?_⟩
    · rw [g5, g6] at cq
      have := (nI_leI (by omega) (by omega)).mp cq
      unfold wnd
      rw [show n - U.1 = i by omega, first_end hb]
    · rw [g5, g6] at cq
      have hlt : ¬ n ≤ U.1 + i := fun z => cq ((nI_leI (by omega) (by omega)).mpr z)
      refine ⟨U.1 + i, g6, by omega, fun dq => ⟨rfl, rfl, done ?_⟩, fun dq => ⟨U.1 + i, g6, by omega, fun fq => ⟨rfl, rfl, done ?_⟩, fun fq => ?_⟩⟩
      · rw [g8] at dq
        unfold wnd
        rw [first_at (i := i) (by omega) (by rw [sml, decide_eq_false (fun z => Int32.not_le.mpr dq z.1)]; rfl) hb]
      · rw [g8] at fq
        unfold wnd
        rw [first_at (i := i) (by omega) (by rw [sml, decide_eq_false (fun z => Int32.not_le.mpr fq z.2)]; rfl) hb]
      · rw [g8] at dq fq
        refine ⟨n - U.1 - (i + 1), by omega, i + 1, rfl, by omega, rfl, rfl, ?_, fun j hj => ?_⟩
        · rw [g6, nI_1]
          simp only [zsI_W, zsW_s, zsW_W, zup_up]
          rfl
        · by_cases e : j = i
          · rw [e, sml, decide_eq_true ⟨Int32.not_lt.mp dq, Int32.not_lt.mp fq⟩]; rfl
          · exact hb j (by omega)
  have B_5 := zSd_any L_5
  have B_0 := zr_aload_n (X := X) (Y := Y) (u := 0) (v := 0) O dX8_readLine_0 rfl (zr_gI (ci := 7) (j := 6) O zc_7 (by decide) rfl tw_203 dX8_readLine_1 (zr_istore_n O dX8_readLine_4 rfl (B_5)))
  refine ⟨rfl, Nat.le_of_ble_eq_true rfl, _, B_0, ?_⟩
  refine ⟨n - U.1 - 0, 0, rfl, hp.2, ?_, rfl, ?_, fun j hj => absurd hj (by omega)⟩
  · show [_, some (vI (h.1 r 6))] = _
    rw [hp.1]
  rw [Nat.add_zero, ← hp.1, zsI_W, zup_self, zsW_self]

