theorem dX5_take_98 : decode cX5_take 98 = .ok (.aload_n 0, 1) := by decide +kernel
theorem dX5_take_99 : decode cX5_take 99 = .ok (.iload 4, 2) := by decide +kernel
theorem dX5_take_101 : decode cX5_take 101 = .ok (.aload_n 3, 1) := by decide +kernel
theorem dX5_take_102 : decode cX5_take 102 = .ok (.getfield 45, 3) := by decide +kernel
theorem dX5_take_105 : decode cX5_take 105 = .ok (.ixor, 1) := by decide +kernel
theorem dX5_take_106 : decode cX5_take 106 = .ok (.invokestatic 48, 3) := by decide +kernel
theorem dX5_take_109 : decode cX5_take 109 = .ok (.putfield 54, 3) := by decide +kernel
theorem dX5_take_112 : decode cX5_take 112 = .ok (.iload 4, 2) := by decide +kernel
theorem dX5_take_114 : decode cX5_take 114 = .ok (.aload_n 3, 1) := by decide +kernel
theorem dX5_take_115 : decode cX5_take 115 = .ok (.getfield 57, 3) := by decide +kernel
theorem dX5_take_118 : decode cX5_take 118 = .ok (.ixor, 1) := by decide +kernel
theorem dX5_take_119 : decode cX5_take 119 = .ok (.istore 5, 2) := by decide +kernel
theorem dX5_take_121 : decode cX5_take 121 = .ok (.aload_n 0, 1) := by decide +kernel
theorem dX5_take_122 : decode cX5_take 122 = .ok (.aload_n 3, 1) := by decide +kernel
theorem dX5_take_123 : decode cX5_take 123 = .ok (.getfield 60, 3) := by decide +kernel
theorem dX5_take_126 : decode cX5_take 126 = .ok (.aload_n 3, 1) := by decide +kernel
theorem dX5_take_127 : decode cX5_take 127 = .ok (.getfield 63, 3) := by decide +kernel
theorem dX5_take_130 : decode cX5_take 130 = .ok (.iload 5, 2) := by decide +kernel
theorem dX5_take_132 : decode cX5_take 132 = .ok (.invokestatic 66, 3) := by decide +kernel
theorem dX5_take_135 : decode cX5_take 135 = .ok (.putfield 71, 3) := by decide +kernel
theorem dX5_take_138 : decode cX5_take 138 = .ok (.aload_n 3, 1) := by decide +kernel
theorem dX5_take_139 : decode cX5_take 139 = .ok (.getfield 60, 3) := by decide +kernel
theorem dX5_take_142 : decode cX5_take 142 = .ok (.aload_n 3, 1) := by decide +kernel
theorem dX5_take_143 : decode cX5_take 143 = .ok (.getfield 63, 3) := by decide +kernel
theorem dX5_take_146 : decode cX5_take 146 = .ok (.aload_n 0, 1) := by decide +kernel
theorem dX5_take_147 : decode cX5_take 147 = .ok (.getfield 71, 3) := by decide +kernel
theorem dX5_take_150 : decode cX5_take 150 = .ok (.invokestatic 74, 3) := by decide +kernel
theorem dX5_take_153 : decode cX5_take 153 = .ok (.istore 6, 2) := by decide +kernel
theorem dX5_take_155 : decode cX5_take 155 = .ok (.aload_n 0, 1) := by decide +kernel
theorem dX5_take_156 : decode cX5_take 156 = .ok (.iload 5, 2) := by decide +kernel
theorem dX5_take_158 : decode cX5_take 158 = .ok (.iload 6, 2) := by decide +kernel
theorem dX5_take_160 : decode cX5_take 160 = .ok (.ixor, 1) := by decide +kernel
theorem dX5_take_161 : decode cX5_take 161 = .ok (.invokestatic 48, 3) := by decide +kernel
theorem dX5_take_164 : decode cX5_take 164 = .ok (.putfield 77, 3) := by decide +kernel
theorem dX5_take_167 : decode cX5_take 167 = .ok (.return_, 1) := by decide +kernel
theorem dX5_take_11 : decode cX5_take 11 = .ok (.iload 5, 2) := by decide +kernel
theorem dX5_take_13 : decode cX5_take 13 = .ok (.aload_n 3, 1) := by decide +kernel
theorem dX5_take_14 : decode cX5_take 14 = .ok (.getfield 13, 3) := by decide +kernel
theorem dX5_take_17 : decode cX5_take 17 = .ok (.if_icmp .ge 81, 3) := by decide +kernel
theorem dX5_take_20 : decode cX5_take 20 = .ok (.aload_n 3, 1) := by decide +kernel
theorem dX5_take_21 : decode cX5_take 21 = .ok (.getfield 19, 3) := by decide +kernel
theorem dX5_take_24 : decode cX5_take 24 = .ok (.iload 5, 2) := by decide +kernel
theorem dX5_take_26 : decode cX5_take 26 = .ok (.iaload, 1) := by decide +kernel
theorem dX5_take_27 : decode cX5_take 27 = .ok (.istore 6, 2) := by decide +kernel
theorem dX5_take_29 : decode cX5_take 29 = .ok (.aload_n 0, 1) := by decide +kernel
theorem dX5_take_30 : decode cX5_take 30 = .ok (.aload_n 1, 1) := by decide +kernel
theorem dX5_take_31 : decode cX5_take 31 = .ok (.getfield 23, 3) := by decide +kernel
theorem dX5_take_34 : decode cX5_take 34 = .ok (.aload_n 1, 1) := by decide +kernel
theorem dX5_take_35 : decode cX5_take 35 = .ok (.getfield 23, 3) := by decide +kernel
theorem dX5_take_38 : decode cX5_take 38 = .ok (.getfield 27, 3) := by decide +kernel
theorem dX5_take_41 : decode cX5_take 41 = .ok (.iload 6, 2) := by decide +kernel
theorem dX5_take_43 : decode cX5_take 43 = .ok (.iaload, 1) := by decide +kernel
theorem dX5_take_44 : decode cX5_take 44 = .ok (.iload_n 2, 1) := by decide +kernel
theorem dX5_take_45 : decode cX5_take 45 = .ok (.invokevirtual 32, 3) := by decide +kernel
theorem dX5_take_48 : decode cX5_take 48 = .ok (.istore 7, 2) := by decide +kernel
theorem dX5_take_50 : decode cX5_take 50 = .ok (.aload_n 0, 1) := by decide +kernel
theorem dX5_take_51 : decode cX5_take 51 = .ok (.aload_n 1, 1) := by decide +kernel
theorem dX5_take_52 : decode cX5_take 52 = .ok (.getfield 23, 3) := by decide +kernel
theorem dX5_take_55 : decode cX5_take 55 = .ok (.aload_n 1, 1) := by decide +kernel
theorem dX5_take_56 : decode cX5_take 56 = .ok (.getfield 23, 3) := by decide +kernel
theorem dX5_take_59 : decode cX5_take 59 = .ok (.getfield 38, 3) := by decide +kernel
theorem dX5_take_62 : decode cX5_take 62 = .ok (.iload 6, 2) := by decide +kernel
theorem dX5_take_64 : decode cX5_take 64 = .ok (.iaload, 1) := by decide +kernel
theorem dX5_take_65 : decode cX5_take 65 = .ok (.iload_n 2, 1) := by decide +kernel
theorem dX5_take_66 : decode cX5_take 66 = .ok (.invokevirtual 32, 3) := by decide +kernel
theorem dX5_take_69 : decode cX5_take 69 = .ok (.istore 8, 2) := by decide +kernel
theorem dX5_take_71 : decode cX5_take 71 = .ok (.iload 4, 2) := by decide +kernel
theorem dX5_take_73 : decode cX5_take 73 = .ok (.aload_n 1, 1) := by decide +kernel
theorem dX5_take_74 : decode cX5_take 74 = .ok (.getfield 23, 3) := by decide +kernel
theorem dX5_take_77 : decode cX5_take 77 = .ok (.iload 6, 2) := by decide +kernel
theorem dX5_take_79 : decode cX5_take 79 = .ok (.iload 7, 2) := by decide +kernel
theorem dX5_take_81 : decode cX5_take 81 = .ok (.iload 8, 2) := by decide +kernel
theorem dX5_take_83 : decode cX5_take 83 = .ok (.invokevirtual 41, 3) := by decide +kernel
theorem dX5_take_86 : decode cX5_take 86 = .ok (.iload 5, 2) := by decide +kernel
theorem dX5_take_88 : decode cX5_take 88 = .ok (.ishl, 1) := by decide +kernel
theorem dX5_take_89 : decode cX5_take 89 = .ok (.ior, 1) := by decide +kernel
theorem dX5_take_90 : decode cX5_take 90 = .ok (.istore 4, 2) := by decide +kernel
theorem dX5_take_92 : decode cX5_take 92 = .ok (.iinc 5 1, 3) := by decide +kernel
theorem dX5_take_95 : decode cX5_take 95 = .ok (.goto (-84), 3) := by decide +kernel
theorem dX5_take_0 : decode cX5_take 0 = .ok (.aload_n 1, 1) := by decide +kernel
theorem dX5_take_1 : decode cX5_take 1 = .ok (.getfield 7, 3) := by decide +kernel
theorem dX5_take_4 : decode cX5_take 4 = .ok (.astore_n 3, 1) := by decide +kernel
theorem dX5_take_5 : decode cX5_take 5 = .ok (.iconst 0, 1) := by decide +kernel
theorem dX5_take_6 : decode cX5_take 6 = .ok (.istore 4, 2) := by decide +kernel
theorem dX5_take_8 : decode cX5_take 8 = .ok (.iconst 0, 1) := by decide +kernel
theorem dX5_take_9 : decode cX5_take 9 = .ok (.istore 5, 2) := by decide +kernel
theorem dX5_isRefused_24 : decode cX5_isRefused 24 = .ok (.ireturn, 1) := by decide +kernel
theorem dX5_isRefused_23 : decode cX5_isRefused 23 = .ok (.iconst 0, 1) := by decide +kernel
theorem dX5_isRefused_0 : decode cX5_isRefused 0 = .ok (.iconst 0, 1) := by decide +kernel
theorem dX5_isRefused_1 : decode cX5_isRefused 1 = .ok (.aload_n 0, 1) := by decide +kernel
theorem dX5_isRefused_2 : decode cX5_isRefused 2 = .ok (.getfield 71, 3) := by decide +kernel
theorem dX5_isRefused_5 : decode cX5_isRefused 5 = .ok (.aload_n 1, 1) := by decide +kernel
theorem dX5_isRefused_6 : decode cX5_isRefused 6 = .ok (.invokevirtual 80, 3) := by decide +kernel
theorem dX5_isRefused_9 : decode cX5_isRefused 9 = .ok (.invokestatic 84, 3) := by decide +kernel
theorem dX5_isRefused_12 : decode cX5_isRefused 12 = .ok (.aload_n 1, 1) := by decide +kernel
theorem dX5_isRefused_13 : decode cX5_isRefused 13 = .ok (.getfield 87, 3) := by decide +kernel
theorem dX5_isRefused_16 : decode cX5_isRefused 16 = .ok (.if_icmp .eq 7, 3) := by decide +kernel
theorem dX5_isRefused_19 : decode cX5_isRefused 19 = .ok (.iconst 1, 1) := by decide +kernel
theorem dX5_isRefused_20 : decode cX5_isRefused 20 = .ok (.goto 4, 3) := by decide +kernel
theorem zup_up {α : Type} (f : Nat → α) (j : Nat) (x y : α) : va_up (va_up f j x) j y = va_up f j y := by
  funext q
  by_cases h : q = j
  · rw [h, zup_s, zup_s]
  · rw [zup_n _ _ h, zup_n _ _ h, zup_n _ _ h]
theorem bby_b (x y : Int32) (a b : Nat) : bby x y a b = bI (decide (bby x y a b = 1)) := by
  rcases bby_01 x y a b with z | z <;> rw [z] <;> rfl
/-- what a reading gives: secret, raw, corrected -/
def rdW (S : zD) (K : zE) (te x : Int32) : Nat := (rdN S K te x (eN K)).2
def rdX (S : zD) (K : zE) (te x : Int32) : Nat := scN (eR K) (rdW S K te x ^^^ eH K) (eK K)
def rdR (S : zD) (K : zE) (te x : Int32) : Nat := pop (rdW S K te x ^^^ eB K)
def rdC (S : zD) (K : zE) (te x : Int32) : Nat := pop ((rdW S K te x ^^^ eH K) ^^^ wsN (eR K) (rdX S K te x) (eK K))
def ca_X5_take : (zQ × Nat × Nat × Int32) → List zV := fun (Q, b, s, te) => [vR 14 0 b, vR 16 0 s, vI te]
def cp_X5_take : (zQ × Nat × Nat × Int32) → zH → Prop := fun (Q, b, s, te) h => rpQ Q h s ∧ vS Q.1 ∧ 0 < eN Q.2.1 ∧ (∀ i, i < eN Q.2.1 → eP Q.2.1 i < dP Q.1) ∧ (b < s + 1 ∨ s + 13 ≤ b)
def cq_X5_take : (zQ × Nat × Nat × Int32) → zH → Option zV → zH → Prop := fun (Q, b, s, te) h r h' => r = none ∧ ∃ f : Nat → Int32, h' = zsW h b f ∧ f 0 = (rdN Q.1 Q.2.1 te (h.1 b 0) (eN Q.2.1)).1 ∧ f 1 = nI (rdR Q.1 Q.2.1 te (h.1 b 0)) ∧ f 2 = nI (rdX Q.1 Q.2.1 te (h.1 b 0)) ∧ f 3 = nI (rdC Q.1 Q.2.1 te (h.1 b 0))
theorem rc_X5_take : ∀ x : (zQ × Nat × Nat × Int32), ∃ (j a : Nat) (As : List zV), ca_X5_take x = vR (10 + 4) j a :: As := by
  rintro ⟨⟨S, K, L⟩, b, s, te⟩
  exact ⟨_, _, _, rfl⟩
set_option maxHeartbeats 4000000 in
set_option maxRecDepth 100000 in
theorem m_X5_take : zM yX5_take cX5_take 9 none ({ frames := 3, cells := 0, slots := 0, locals := 70 } : Room) ((ca_X5_take, cp_X5_take, cq_X5_take) : zC (zQ × Nat × Nat × Int32)) := by
  refine zM_of (by decide) ?_
  rintro X Y ⟨⟨S, K, L⟩, b, s, te⟩ h ⟨hQ, hv, h0, hP, hd⟩ O E hR
  have hv : vS S := hv
  have h0 : 0 < eN K := h0
  have hP : ∀ i, i < eN K → eP K i < dP S := hP
  have hS : rpS S h (s + 1) := hQ.1
  have hE : rpE K h (s + 8) := hQ.2.1
  have hbs : b < s + 1 ∨ s + 13 ≤ b := hd
  have h28 : eN K ≤ 28 := hE.2.1.1
  have hP28 : dP S ≤ 28 := hS.2.1.2
  have hN : dN S ≤ 10 := hS.1.2
  have B_98 := zr_aload_n (X := X) (Y := Y) (u := 0) (v := 0) O dX5_take_98 rfl (zr_iload O dX5_take_99 (zr_aload_n O dX5_take_101 rfl (zr_gI (ci := 0) (j := 4) O zc_0 (by decide) rfl tw_113 dX5_take_102 (zr_ixor O dX5_take_105 (zr_cI (zr_cS (n := 1) O m_J6_bitCount_0f7a4 (bn_J6_bitCount_0f7a4 _ ⟨rfl, rfl⟩) tw_767 tw_1005 (zrm hR rfl rfl) dX5_take_106 (zr_pI (ci := 4) (j := 1) O zc_4 (by decide) rfl rfl rfl tw_230 dX5_take_109 (zr_iload O dX5_take_112 (zr_aload_n O dX5_take_114 rfl (zr_gI (ci := 0) (j := 5) O zc_0 (by decide) rfl tw_116 dX5_take_115 (zr_ixor O dX5_take_118 (zr_istore O dX5_take_119 (zr_aload_n O dX5_take_121 rfl (zr_aload_n O dX5_take_122 rfl (zr_gI (ci := 0) (j := 2) O zc_0 (by decide) rfl tw_107 dX5_take_123 (zr_aload_n O dX5_take_126 rfl (zr_gI (ci := 0) (j := 3) O zc_0 (by decide) rfl tw_111 dX5_take_127 (zr_iload O dX5_take_130 (zr_cI (zr_cS (n := 3) O m_X0_secretFrom (bn_X0_secretFrom _ ⟨rfl, rfl⟩) tw_1007 tw_1006 (zrm hR rfl rfl) dX5_take_132 (zr_pI (ci := 4) (j := 2) O zc_4 (by decide) rfl rfl rfl tw_232 dX5_take_135 (zr_aload_n O dX5_take_138 rfl (zr_gI (ci := 0) (j := 2) O zc_0 (by decide) rfl tw_107 dX5_take_139 (zr_aload_n O dX5_take_142 rfl (zr_gI (ci := 0) (j := 3) O zc_0 (by decide) rfl tw_111 dX5_take_143 (zr_aload_n O dX5_take_146 rfl (zr_gI (ci := 4) (j := 2) O zc_4 (by decide) rfl tw_232 dX5_take_147 (zr_cI (zr_cS (n := 3) O m_X0_wordsOf (bn_X0_wordsOf _ ⟨rfl, rfl⟩) tw_819 tw_1014 (zrm hR rfl rfl) dX5_take_150 (zr_istore O dX5_take_153 (zr_aload_n O dX5_take_155 rfl (zr_iload O dX5_take_156 (zr_iload O dX5_take_158 (zr_ixor O dX5_take_160 (zr_cI (zr_cS (n := 1) O m_J6_bitCount_0f7a4 (bn_J6_bitCount_0f7a4 _ ⟨rfl, rfl⟩) tw_767 tw_1005 (zrm hR rfl rfl) dX5_take_161 (zr_pI (ci := 4) (j := 3) O zc_4 (by decide) rfl rfl rfl tw_234 dX5_take_164 (zr_return O E (Nat.le_refl _) (Nat.le_refl _) dX5_take_167))))))))))))))))))))))))))))))))))))))
  have L_11 : ∀ nn : Nat, zSd X Y 0 0 11 ((fun k ls st h1 => ∃ (i : Nat) (y z : Int32) (f : Nat → Int32) (y6 y7 y8 : Option zV), k = eN K - i ∧ i ≤ eN K ∧ ls = [some (vR 14 0 b), some (vR 16 0 s), some (vI te), some (vR 10 0 (s + 8)), some (vI y), some (vI z), y6, y7, y8] ∧ y = nI (rdN S K te (h.1 b 0) i).2 ∧ z = nI i ∧ st = [] ∧ h1 = zsW h b f ∧ f 0 = (rdN S K te (h.1 b 0) i).1 : Nat → zT) nn) := by
    refine zSd_loop (fun nn ih => ?_)
    have B_11 := zr_iload (X := X) (Y := Y) (u := 0) (v := 0) O dX5_take_11 (zr_aload_n O dX5_take_13 rfl (zr_gI (ci := 0) (j := 0) O zc_0 (by decide) rfl tw_102 dX5_take_14 (zr_icge (tgt := 98) O dX5_take_17 rfl B_98 (zr_aload_n O dX5_take_20 rfl (zr_gS (ci := 0) (j := 1) (off := 1) (t := 1) (n := 28) O zc_0 (by decide) rfl tw_105 dX5_take_21 (zr_iload O dX5_take_24 (zr_iald O dX5_take_26 (zr_istore O dX5_take_27 (zr_aload_n O dX5_take_29 rfl (zr_aload_n O dX5_take_30 rfl (zr_gS (ci := 6) (j := 0) (off := 1) (t := 15) (n := 0) O zc_6 (by decide) rfl tw_171 dX5_take_31 (zr_aload_n O dX5_take_34 rfl (zr_gS (ci := 6) (j := 0) (off := 1) (t := 15) (n := 0) O zc_6 (by decide) rfl tw_171 dX5_take_35 (zr_gS (ci := 5) (j := 5) (off := 4) (t := 1) (n := 28) O zc_5 (by decide) rfl tw_60 dX5_take_38 (zr_iload O dX5_take_41 (zr_iald O dX5_take_43 (zr_iload_n O dX5_take_44 rfl (zr_cH (zr_cV (ci := 4) (n := 3) O m_X5_noisySpeed (bn_X5_noisySpeed _ ⟨rfl, rfl⟩) vw_X5_noisySpeed tw_998 rc_X5_noisySpeed (zrm hR rfl rfl) dX5_take_45 (zr_istore O dX5_take_48 (zr_aload_n O dX5_take_50 rfl (zr_aload_n O dX5_take_51 rfl (zr_gS (ci := 6) (j := 0) (off := 1) (t := 15) (n := 0) O zc_6 (by decide) rfl tw_171 dX5_take_52 (zr_aload_n O dX5_take_55 rfl (zr_gS (ci := 6) (j := 0) (off := 1) (t := 15) (n := 0) O zc_6 (by decide) rfl tw_171 dX5_take_56 (zr_gS (ci := 5) (j := 6) (off := 5) (t := 1) (n := 28) O zc_5 (by decide) rfl tw_67 dX5_take_59 (zr_iload O dX5_take_62 (zr_iald O dX5_take_64 (zr_iload_n O dX5_take_65 rfl (zr_cH (zr_cV (ci := 4) (n := 3) O m_X5_noisySpeed (bn_X5_noisySpeed _ ⟨rfl, rfl⟩) vw_X5_noisySpeed tw_998 rc_X5_noisySpeed (zrm hR rfl rfl) dX5_take_66 (zr_istore O dX5_take_69 (zr_iload O dX5_take_71 (zr_aload_n O dX5_take_73 rfl (zr_gS (ci := 6) (j := 0) (off := 1) (t := 15) (n := 0) O zc_6 (by decide) rfl tw_171 dX5_take_74 (zr_iload O dX5_take_77 (zr_iload O dX5_take_79 (zr_iload O dX5_take_81 (zr_cI (zr_cV (ci := 5) (n := 3) O m_X6_bitFrom (bn_X6_bitFrom _ ⟨rfl, rfl⟩) vw_X6_bitFrom tw_1004 rc_X6_bitFrom (zrm hR rfl rfl) dX5_take_83 (zr_iload O dX5_take_86 (zr_ishl O dX5_take_88 (zr_ior O dX5_take_89 (zr_istore O dX5_take_90 (zr_iinc (c := 1) O dX5_take_92 rfl (zr_goto (tgt := 11) O dX5_take_95 rfl ih))))))))))))))))))))))))))))))))))))))))))))))
    refine zSd_weak B_11 (fun ls st h1 t => ?_)
    obtain ⟨i, y, z, f, y6, y7, y8, rfl, hi, rfl, rfl, rfl, rfl, rfl, hf⟩ := t
    have hS2 : ∀ g : Nat → Int32, rpS S (zsW h b g) (s + 1) := fun g => rpS_fr (by omega) hS
    have hE2 : rpE K (zsW h b f) (s + 8) := rpE_cg (zsW_n _ _ (by omega)) (zsW_n _ _ (by omega)) hE
    obtain ⟨p1, ⟨a1, a2⟩, ⟨a3, a4, a5⟩, a6, a7⟩ := hE2.2.2 h0
    obtain ⟨v1, v2, v3, v4, v5, ⟨q1, q2, q3, q4⟩, v6⟩ := vE_b hE.2.1 h0
    obtain ⟨-, hr, hn, hn2, -⟩ := hE.2.1.2 h0
    refine ⟨fun cq => ?_, fun cq => ?_⟩
    · rw [hE2.1] at cq
      have := (nI_leI (by omega) (by omega)).mp cq
      have hii : i = eN K := by omega
      subst hii
      have lw : rdW S K te (h.1 b 0) < 2 ^ 28 := Nat.lt_of_lt_of_le (rdN_lt _) (Nat.pow_le_pow_right (by omega) h28)
      have lx : rdX S K te (h.1 b 0) < 2 ^ 16 := Nat.lt_of_lt_of_le (scN_lt _) (Nat.pow_le_pow_right (by omega) hn2)
      have lx1 : rdW S K te (h.1 b 0) ^^^ eB K < 2 ^ 28 := Nat.xor_lt_two_pow lw v1
      have lx2 : rdW S K te (h.1 b 0) ^^^ eH K < 2 ^ 28 := Nat.xor_lt_two_pow lw v2
      have lx3 : (rdW S K te (h.1 b 0) ^^^ eH K) ^^^ wsN (eR K) (rdX S K te (h.1 b 0)) (eK K) < 2 ^ 28 := Nat.xor_lt_two_pow lx2 (Nat.lt_of_lt_of_le (wsN_lt hr _) (Nat.pow_le_pow_right (by omega) (by omega)))
      have e1 : nI (rdN S K te (h.1 b 0) (eN K)).2 ^^^ (zsW h b f).1 (s + 8) 4 = nI (rdW S K te (h.1 b 0) ^^^ eB K) := by rw [a3, fb_xorI]; rfl
      have nb : s + 8 ≠ b := by omega
      refine ⟨nI (rdW S K te (h.1 b 0) ^^^ eB K), congrArg (fun z => [vI z]) e1, trivial, (eR K, eK K, rdW S K te (h.1 b 0) ^^^ eH K), ?_, ⟨hr, by omega, hn2, lx2⟩, (eR K, eK K, rdX S K te (h.1 b 0)), ?_, ⟨hr, by omega, hn2, lx⟩, nI ((rdW S K te (h.1 b 0) ^^^ eH K) ^^^ wsN (eR K) (rdX S K te (h.1 b 0)) (eK K)), ?_, trivial, rfl, va_up (va_up (va_up f 1 (nI (rdR S K te (h.1 b 0)))) 2 (nI (rdX S K te (h.1 b 0)))) 3 (nI (rdC S K te (h.1 b 0))), ?_, ?_, rfl, rfl, rfl⟩
      · simp only [zsI_W, zsW_n _ _ nb, a1, a2, a4, fb_xorI]
        rfl
      · simp only [zsW_n _ _ nb] at a1 a2 a4
        simp only [zsI_W, zsW_n _ _ nb, zsW_s, a1, a2]
        rfl
      · simp only [zsW_n _ _ nb] at a1 a2 a4
        simp only [zsI_W, zsW_n _ _ nb, zsW_s, a4]
        show [vI (nI (rdW S K te (h.1 b 0)) ^^^ nI (eH K) ^^^ nI (wsN (eR K) (rdX S K te (h.1 b 0)) (eK K)))] = _
        rw [fb_xorI, fb_xorI]
        rfl
      · show zsI (zsI (zsI (zsW h b f) b 1 (pcI (nI (rdW S K te (h.1 b 0) ^^^ eB K)))) b 2 (nI (rdX S K te (h.1 b 0)))) b 3 (pcI (nI (rdW S K te (h.1 b 0) ^^^ eH K ^^^ wsN (eR K) (rdX S K te (h.1 b 0)) (eK K)))) = _
        rw [pcI_pop (by omega), pcI_pop (by omega)]
        simp only [zsI_W, zsW_s, zsW_W]
        rfl
      · exact hf
    · rw [hE2.1] at cq
      have hi2 : i < eN K := Nat.not_le.mp (fun z => cq ((nI_leI (by omega) (by omega)).mpr z))
      have ei := p1 i hi2
      have hp := hP i hi2
      obtain ⟨⟨f1, f2⟩, s1, s2⟩ := hS.2.2.2.1 _ hp
      have eF : ∀ g : Nat → Int32, (zsW h b g).1 (s + 1 + 4) (eP K i) = nI (dF S (eP K i)) := fun g => by rw [zsW_n _ _ (by omega)]; exact f1
      have eS : ∀ g : Nat → Int32, (zsW h b g).1 (s + 1 + 5) (eP K i) = nI (dS S (eP K i)) := fun g => by rw [zsW_n _ _ (by omega)]; exact s1
      have g1 : cg_X5_noisySpeed (S, b, s + 1, dF S (eP K i), te) (zsW h b f) = zsW h b (va_up f 0 (rdS S (dF S (eP K i)) (rdN S K te (h.1 b 0) i).1)) := by
        show zsI (zsW h b f) b 0 (rdS S _ ((zsW h b f).1 b 0)) = _
        rw [zsI_W, zsW_s, zsW_W, hf]
      have g2 : cg_X5_noisySpeed (S, b, s + 1, dS S (eP K i), te) (zsW h b (va_up f 0 (rdS S (dF S (eP K i)) (rdN S K te (h.1 b 0) i).1))) = zsW h b (va_up f 0 (rdN S K te (h.1 b 0) (i + 1)).1) := by
        show zsI (zsW h b _) b 0 (rdS S _ ((zsW h b _).1 b 0)) = _
        rw [zsI_W, zsW_s, zsW_W, zup_s, zup_up]
        rfl
      refine ⟨i, rfl, by omega, eP K i, ei, by omega, (S, b, s + 1, dF S (eP K i), te), ?_, ⟨hS2 _, f2, hv⟩, eP K i, ei, by omega, (S, b, s + 1, dS S (eP K i), te), ?_, ⟨?_, s2, hv⟩, (S, s + 1, eP K i, rdV S (dF S (eP K i)) te (rdN S K te (h.1 b 0) i).1, rdV S (dS S (eP K i)) te (rdS S (dF S (eP K i)) (rdN S K te (h.1 b 0) i).1)), ?_, ⟨?_, hp⟩, eN K - (i + 1), by omega, i + 1, _, _, va_up f 0 (rdN S K te (h.1 b 0) (i + 1)).1, _, _, _, rfl, by omega, rfl, ?_, nI_1 i, rfl, ?_, rfl⟩
      · rw [eF]; rfl
      · rw [g1, eS]; rfl
      · exact g1 ▸ hS2 _
      · rw [ei, g1]
        show [_, _, vI (rdV S _ te ((zsW h b f).1 b 0)), vI (rdV S _ te ((zsW h b (va_up f 0 (rdS S (dF S (eP K i)) (rdN S K te (h.1 b 0) i).1))).1 b 0))] = _
        rw [zsW_s, zsW_s, zup_s, hf]
        rfl
      · rw [g1, g2]; exact hS2 _
      · show nI (rdN S K te (h.1 b 0) i).2 ||| (bby _ _ _ _ <<< (nI i &&& 31)) = nI ((rdN S K te (h.1 b 0) i).2 ||| if (rdP S te (eP K i) (rdN S K te (h.1 b 0) i).1).2 then 2 ^ i else 0)
        rw [← fa_or, ← bI_shl (by omega)]
        congr 2
        exact bby_b _ _ _ _
      · rw [g1, g2]
  have B_11 := zSd_any L_11
  have B_0 := zr_aload_n (X := X) (Y := Y) (u := 0) (v := 0) O dX5_take_0 rfl (zr_gS (ci := 6) (j := 1) (off := 8) (t := 10) (n := 0) O zc_6 (by decide) rfl tw_174 dX5_take_1 (zr_astore_n O dX5_take_4 rfl (zr_iconst (x := 0) O dX5_take_5 rfl (zr_istore O dX5_take_6 (zr_iconst (x := 0) O dX5_take_8 rfl (zr_istore O dX5_take_9 (B_11)))))))
  refine ⟨rfl, Nat.le_of_ble_eq_true rfl, _, B_0, ?_⟩
  exact ⟨eN K - 0, 0, _, _, h.1 b, _, _, _, rfl, Nat.zero_le _, rfl, rfl, rfl, rfl, (zsW_self h b).symm, rfl⟩
def ca_X5_isRefused : (zE × Nat × Nat × Nat) → List zV := fun (K, b, e, x) => [vR 14 0 b, vR 10 0 e]
def cp_X5_isRefused : (zE × Nat × Nat × Nat) → zH → Prop := fun (K, b, e, x) h => rpE K h e ∧ 0 < eN K ∧ h.1 b 2 = nI x ∧ x < 2 ^ 16
def cf_X5_isRefused : (zE × Nat × Nat × Nat) → zH → Int32 := fun (K, b, e, x) _ => bI (decide (ckW 0 x (eK K * btR (eR K)) ≠ eC K))
theorem rc_X5_isRefused : ∀ x : (zE × Nat × Nat × Nat), ∃ (j a : Nat) (As : List zV), ca_X5_isRefused x = vR (10 + 4) j a :: As := by
  rintro ⟨K, b, e, x⟩
  exact ⟨_, _, _, rfl⟩
set_option maxHeartbeats 4000000 in
set_option maxRecDepth 100000 in
theorem m_X5_isRefused : zM yX5_isRefused cX5_isRefused 2 (some .boolean) ({ frames := 2, cells := 0, slots := 0, locals := 45 } : Room) (zcI ca_X5_isRefused cp_X5_isRefused cf_X5_isRefused) := by
  refine zM_of (by decide) ?_
  rintro X Y ⟨K, b, e, x⟩ h ⟨hE, h0, hx, hx2⟩ O E hR
  have B_24 := zr_zreturn (X := X) (Y := Y) (u := 0) (v := 0) O E (Nat.le_refl _) (Nat.le_refl _) dX5_isRefused_24
  have B_23 := zr_iconst (X := X) (Y := Y) (u := 0) (v := 0) (x := 0) O dX5_isRefused_23 rfl (B_24)
  have B_0 := zr_iconst (X := X) (Y := Y) (u := 0) (v := 0) (x := 0) O dX5_isRefused_0 rfl (zr_aload_n O dX5_isRefused_1 rfl (zr_gI (ci := 4) (j := 2) O zc_4 (by decide) rfl tw_232 dX5_isRefused_2 (zr_aload_n O dX5_isRefused_5 rfl (zr_cI (zr_cV (ci := 0) (n := 0) O m_X1_secretBits (bn_X1_secretBits _ ⟨rfl, rfl⟩) vw_X1_secretBits tw_1019 rc_X1_secretBits (zrm hR rfl rfl) dX5_isRefused_6 (zr_cI (zr_cS (n := 3) O m_X0_checkWith (bn_X0_checkWith _ ⟨rfl, rfl⟩) tw_812 tw_1020 (zrm hR rfl rfl) dX5_isRefused_9 (zr_aload_n O dX5_isRefused_12 rfl (zr_gI (ci := 0) (j := 8) O zc_0 (by decide) rfl tw_123 dX5_isRefused_13 (zr_iceq (tgt := 23) O dX5_isRefused_16 rfl B_23 (zr_iconst (x := 1) O dX5_isRefused_19 rfl (zr_goto (tgt := 24) O dX5_isRefused_20 rfl B_24))))))))))))
  refine ⟨rfl, Nat.le_of_ble_eq_true rfl, _, B_0, ?_⟩
  have hE : rpE K h e := hE
  obtain ⟨p1, ⟨a1, a2⟩, ⟨a3, a4, a5⟩, a6, a7⟩ := hE.2.2 h0
  obtain ⟨-, hr, hn, hn2, -, -, hC⟩ := hE.2.1.2 h0
  have lc := ckW_lt (c := 0) (by decide) x (eK K * btR (eR K))
  refine ⟨(e, eR K, eK K), rfl, ⟨a1, a2, hr⟩, (0, x, eK K * btR (eR K)), by rw [hx]; rfl, ⟨by decide, by omega, hn2⟩, fun cq => ⟨Or.inl rfl, zri ?_, rfl⟩, fun cq => ⟨Or.inr rfl, zri ?_, rfl⟩⟩
  · replace cq : nI (ckW 0 x (eK K * btR (eR K))) = h.1 e 8 := cq
    rw [a7] at cq
    have := (nI_eq (by omega) (by omega)).mp cq
    show (0 : Int32) = bI (decide (ckW 0 x (eK K * btR (eR K)) ≠ eC K))
    rw [decide_eq_false (fun z => z this)]
    rfl
  · replace cq : ¬ nI (ckW 0 x (eK K * btR (eR K))) = h.1 e 8 := cq
    rw [a7] at cq
    have hne : ckW 0 x (eK K * btR (eR K)) ≠ eC K := fun z => cq (by rw [z])
    show (1 : Int32) = bI (decide (ckW 0 x (eK K * btR (eR K)) ≠ eC K))
    rw [decide_eq_true hne]
    rfl

