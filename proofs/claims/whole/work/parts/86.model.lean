theorem dX11_pairTold_153 : decode cX11_pairTold 153 = .ok (.aload_n 0, 1) := by decide +kernel
theorem dX11_pairTold_154 : decode cX11_pairTold 154 = .ok (.getfield 32, 3) := by decide +kernel
theorem dX11_pairTold_157 : decode cX11_pairTold 157 = .ok (.aload_n 0, 1) := by decide +kernel
theorem dX11_pairTold_158 : decode cX11_pairTold 158 = .ok (.getfield 184, 3) := by decide +kernel
theorem dX11_pairTold_161 : decode cX11_pairTold 161 = .ok (.iload_n 1, 1) := by decide +kernel
theorem dX11_pairTold_162 : decode cX11_pairTold 162 = .ok (.iastore, 1) := by decide +kernel
theorem dX11_pairTold_163 : decode cX11_pairTold 163 = .ok (.aload_n 0, 1) := by decide +kernel
theorem dX11_pairTold_164 : decode cX11_pairTold 164 = .ok (.getfield 35, 3) := by decide +kernel
theorem dX11_pairTold_167 : decode cX11_pairTold 167 = .ok (.aload_n 0, 1) := by decide +kernel
theorem dX11_pairTold_168 : decode cX11_pairTold 168 = .ok (.getfield 184, 3) := by decide +kernel
theorem dX11_pairTold_171 : decode cX11_pairTold 171 = .ok (.iload_n 3, 1) := by decide +kernel
theorem dX11_pairTold_172 : decode cX11_pairTold 172 = .ok (.iastore, 1) := by decide +kernel
theorem dX11_pairTold_173 : decode cX11_pairTold 173 = .ok (.aload_n 0, 1) := by decide +kernel
theorem dX11_pairTold_174 : decode cX11_pairTold 174 = .ok (.dup, 1) := by decide +kernel
theorem dX11_pairTold_175 : decode cX11_pairTold 175 = .ok (.getfield 184, 3) := by decide +kernel
theorem dX11_pairTold_178 : decode cX11_pairTold 178 = .ok (.iconst 1, 1) := by decide +kernel
theorem dX11_pairTold_179 : decode cX11_pairTold 179 = .ok (.iadd, 1) := by decide +kernel
theorem dX11_pairTold_180 : decode cX11_pairTold 180 = .ok (.putfield 184, 3) := by decide +kernel
theorem dX11_pairTold_183 : decode cX11_pairTold 183 = .ok (.return_, 1) := by decide +kernel
theorem dX11_pairTold_145 : decode cX11_pairTold 145 = .ok (.aload_n 0, 1) := by decide +kernel
theorem dX11_pairTold_146 : decode cX11_pairTold 146 = .ok (.getfield 134, 3) := by decide +kernel
theorem dX11_pairTold_149 : decode cX11_pairTold 149 = .ok (.ifCond .le 4, 3) := by decide +kernel
theorem dX11_pairTold_152 : decode cX11_pairTold 152 = .ok (.return_, 1) := by decide +kernel
theorem dX11_pairTold_139 : decode cX11_pairTold 139 = .ok (.iinc 4 1, 3) := by decide +kernel
theorem dX11_pairTold_142 : decode cX11_pairTold 142 = .ok (.goto (-69), 3) := by decide +kernel
theorem dX11_pairTold_133 : decode cX11_pairTold 133 = .ok (.aload_n 0, 1) := by decide +kernel
theorem dX11_pairTold_134 : decode cX11_pairTold 134 = .ok (.iconst 4, 1) := by decide +kernel
theorem dX11_pairTold_135 : decode cX11_pairTold 135 = .ok (.iload_n 2, 1) := by decide +kernel
theorem dX11_pairTold_136 : decode cX11_pairTold 136 = .ok (.invokevirtual 168, 3) := by decide +kernel
theorem dX11_pairTold_111 : decode cX11_pairTold 111 = .ok (.aload_n 0, 1) := by decide +kernel
theorem dX11_pairTold_112 : decode cX11_pairTold 112 = .ok (.getfield 32, 3) := by decide +kernel
theorem dX11_pairTold_115 : decode cX11_pairTold 115 = .ok (.iload 4, 2) := by decide +kernel
theorem dX11_pairTold_117 : decode cX11_pairTold 117 = .ok (.iaload, 1) := by decide +kernel
theorem dX11_pairTold_118 : decode cX11_pairTold 118 = .ok (.iload_n 3, 1) := by decide +kernel
theorem dX11_pairTold_119 : decode cX11_pairTold 119 = .ok (.if_icmp .ne 20, 3) := by decide +kernel
theorem dX11_pairTold_122 : decode cX11_pairTold 122 = .ok (.aload_n 0, 1) := by decide +kernel
theorem dX11_pairTold_123 : decode cX11_pairTold 123 = .ok (.getfield 35, 3) := by decide +kernel
theorem dX11_pairTold_126 : decode cX11_pairTold 126 = .ok (.iload 4, 2) := by decide +kernel
theorem dX11_pairTold_128 : decode cX11_pairTold 128 = .ok (.iaload, 1) := by decide +kernel
theorem dX11_pairTold_129 : decode cX11_pairTold 129 = .ok (.iload_n 1, 1) := by decide +kernel
theorem dX11_pairTold_130 : decode cX11_pairTold 130 = .ok (.if_icmp .ne 9, 3) := by decide +kernel
theorem dX11_pairTold_73 : decode cX11_pairTold 73 = .ok (.iload 4, 2) := by decide +kernel
theorem dX11_pairTold_75 : decode cX11_pairTold 75 = .ok (.aload_n 0, 1) := by decide +kernel
theorem dX11_pairTold_76 : decode cX11_pairTold 76 = .ok (.getfield 184, 3) := by decide +kernel
theorem dX11_pairTold_79 : decode cX11_pairTold 79 = .ok (.if_icmp .ge 66, 3) := by decide +kernel
theorem dX11_pairTold_82 : decode cX11_pairTold 82 = .ok (.aload_n 0, 1) := by decide +kernel
theorem dX11_pairTold_83 : decode cX11_pairTold 83 = .ok (.getfield 134, 3) := by decide +kernel
theorem dX11_pairTold_86 : decode cX11_pairTold 86 = .ok (.ifCond .ne 59, 3) := by decide +kernel
theorem dX11_pairTold_89 : decode cX11_pairTold 89 = .ok (.aload_n 0, 1) := by decide +kernel
theorem dX11_pairTold_90 : decode cX11_pairTold 90 = .ok (.getfield 32, 3) := by decide +kernel
theorem dX11_pairTold_93 : decode cX11_pairTold 93 = .ok (.iload 4, 2) := by decide +kernel
theorem dX11_pairTold_95 : decode cX11_pairTold 95 = .ok (.iaload, 1) := by decide +kernel
theorem dX11_pairTold_96 : decode cX11_pairTold 96 = .ok (.iload_n 1, 1) := by decide +kernel
theorem dX11_pairTold_97 : decode cX11_pairTold 97 = .ok (.if_icmp .ne 14, 3) := by decide +kernel
theorem dX11_pairTold_100 : decode cX11_pairTold 100 = .ok (.aload_n 0, 1) := by decide +kernel
theorem dX11_pairTold_101 : decode cX11_pairTold 101 = .ok (.getfield 35, 3) := by decide +kernel
theorem dX11_pairTold_104 : decode cX11_pairTold 104 = .ok (.iload 4, 2) := by decide +kernel
theorem dX11_pairTold_106 : decode cX11_pairTold 106 = .ok (.iaload, 1) := by decide +kernel
theorem dX11_pairTold_107 : decode cX11_pairTold 107 = .ok (.iload_n 3, 1) := by decide +kernel
theorem dX11_pairTold_108 : decode cX11_pairTold 108 = .ok (.if_icmp .eq 25, 3) := by decide +kernel
theorem dX11_pairTold_70 : decode cX11_pairTold 70 = .ok (.iconst 0, 1) := by decide +kernel
theorem dX11_pairTold_71 : decode cX11_pairTold 71 = .ok (.istore 4, 2) := by decide +kernel
theorem dX11_pairTold_18 : decode cX11_pairTold 18 = .ok (.aload_n 0, 1) := by decide +kernel
theorem dX11_pairTold_19 : decode cX11_pairTold 19 = .ok (.iconst 0, 1) := by decide +kernel
theorem dX11_pairTold_20 : decode cX11_pairTold 20 = .ok (.aload_n 0, 1) := by decide +kernel
theorem dX11_pairTold_21 : decode cX11_pairTold 21 = .ok (.getfield 177, 3) := by decide +kernel
theorem dX11_pairTold_24 : decode cX11_pairTold 24 = .ok (.iconst 1, 1) := by decide +kernel
theorem dX11_pairTold_25 : decode cX11_pairTold 25 = .ok (.isub, 1) := by decide +kernel
theorem dX11_pairTold_26 : decode cX11_pairTold 26 = .ok (.iconst 0, 1) := by decide +kernel
theorem dX11_pairTold_27 : decode cX11_pairTold 27 = .ok (.invokevirtual 180, 3) := by decide +kernel
theorem dX11_pairTold_30 : decode cX11_pairTold 30 = .ok (.istore_n 1, 1) := by decide +kernel
theorem dX11_pairTold_31 : decode cX11_pairTold 31 = .ok (.aload_n 0, 1) := by decide +kernel
theorem dX11_pairTold_32 : decode cX11_pairTold 32 = .ok (.getfield 165, 3) := by decide +kernel
theorem dX11_pairTold_35 : decode cX11_pairTold 35 = .ok (.istore_n 2, 1) := by decide +kernel
theorem dX11_pairTold_36 : decode cX11_pairTold 36 = .ok (.aload_n 0, 1) := by decide +kernel
theorem dX11_pairTold_37 : decode cX11_pairTold 37 = .ok (.iconst 0, 1) := by decide +kernel
theorem dX11_pairTold_38 : decode cX11_pairTold 38 = .ok (.aload_n 0, 1) := by decide +kernel
theorem dX11_pairTold_39 : decode cX11_pairTold 39 = .ok (.getfield 177, 3) := by decide +kernel
theorem dX11_pairTold_42 : decode cX11_pairTold 42 = .ok (.iconst 1, 1) := by decide +kernel
theorem dX11_pairTold_43 : decode cX11_pairTold 43 = .ok (.isub, 1) := by decide +kernel
theorem dX11_pairTold_44 : decode cX11_pairTold 44 = .ok (.iconst 0, 1) := by decide +kernel
theorem dX11_pairTold_45 : decode cX11_pairTold 45 = .ok (.invokevirtual 180, 3) := by decide +kernel
theorem dX11_pairTold_48 : decode cX11_pairTold 48 = .ok (.istore_n 3, 1) := by decide +kernel
theorem dX11_pairTold_49 : decode cX11_pairTold 49 = .ok (.aload_n 0, 1) := by decide +kernel
theorem dX11_pairTold_50 : decode cX11_pairTold 50 = .ok (.getfield 134, 3) := by decide +kernel
theorem dX11_pairTold_53 : decode cX11_pairTold 53 = .ok (.ifCond .ne 17, 3) := by decide +kernel
theorem dX11_pairTold_56 : decode cX11_pairTold 56 = .ok (.iload_n 1, 1) := by decide +kernel
theorem dX11_pairTold_57 : decode cX11_pairTold 57 = .ok (.iload_n 3, 1) := by decide +kernel
theorem dX11_pairTold_58 : decode cX11_pairTold 58 = .ok (.if_icmp .ne 12, 3) := by decide +kernel
theorem dX11_pairTold_61 : decode cX11_pairTold 61 = .ok (.aload_n 0, 1) := by decide +kernel
theorem dX11_pairTold_62 : decode cX11_pairTold 62 = .ok (.iconst 2, 1) := by decide +kernel
theorem dX11_pairTold_63 : decode cX11_pairTold 63 = .ok (.aload_n 0, 1) := by decide +kernel
theorem dX11_pairTold_64 : decode cX11_pairTold 64 = .ok (.getfield 165, 3) := by decide +kernel
theorem dX11_pairTold_67 : decode cX11_pairTold 67 = .ok (.invokevirtual 168, 3) := by decide +kernel
theorem dX11_pairTold_0 : decode cX11_pairTold 0 = .ok (.aload_n 0, 1) := by decide +kernel
theorem dX11_pairTold_1 : decode cX11_pairTold 1 = .ok (.getfield 184, 3) := by decide +kernel
theorem dX11_pairTold_4 : decode cX11_pairTold 4 = .ok (.bipush 28, 2) := by decide +kernel
theorem dX11_pairTold_6 : decode cX11_pairTold 6 = .ok (.if_icmp .ne 12, 3) := by decide +kernel
theorem dX11_pairTold_9 : decode cX11_pairTold 9 = .ok (.aload_n 0, 1) := by decide +kernel
theorem dX11_pairTold_10 : decode cX11_pairTold 10 = .ok (.iconst 3, 1) := by decide +kernel
theorem dX11_pairTold_11 : decode cX11_pairTold 11 = .ok (.aload_n 0, 1) := by decide +kernel
theorem dX11_pairTold_12 : decode cX11_pairTold 12 = .ok (.getfield 162, 3) := by decide +kernel
theorem dX11_pairTold_15 : decode cX11_pairTold 15 = .ok (.invokevirtual 168, 3) := by decide +kernel
/-! the reference: the line 'pair' -/
theorem rmD_pair {S : zD} {h : zH} {y a b : Nat} (hP : dP S < 28) (ha : a < dN S) (hb : b < dN S) (hD : rmD S h y) : rmD (aPr S a b) (zsW (zsW (zsW h (y + 7) (va_up (h.1 (y + 7)) (dP S) (nI a))) (y + 8) (va_up (h.1 (y + 8)) (dP S) (nI b))) y (va_up (h.1 y) 25 (nI (dP S + 1)))) y := by
  obtain ⟨⟨a1, a2⟩, ⟨a3, a4⟩, a5, a7, a8⟩ := hD
  refine ⟨⟨by rw [zsW_s, zup_n _ _ (by decide)]; exact a1, a2⟩, ⟨by rw [zsW_s, zup_s]; rfl, by show dP S + 1 ≤ 28; omega⟩, ?_, fun p hp => ?_, fun k k1 k2 => ?_⟩
  · rw [zsW_n _ _ (by omega), zsW_n _ _ (by omega), zsW_n _ _ (by omega)]; exact a5
  · replace hp : p < dP S + 1 := hp
    rw [zsW_n _ _ (by omega), zsW_n _ _ (by omega), zsW_s, zsW_n _ _ (by omega), zsW_s]
    show (_ = nI (va_up (dF S) (dP S) a p) ∧ va_up (dF S) (dP S) a p < dN S) ∧ _ = nI (va_up (dS S) (dP S) b p) ∧ va_up (dS S) (dP S) b p < dN S
    by_cases e : p = dP S
    · rw [e, zup_s, zup_s, zup_s, zup_s]; exact ⟨⟨rfl, ha⟩, rfl, hb⟩
    · rw [zup_n _ _ e, zup_n _ _ e, zup_n _ _ e, zup_n _ _ e]; exact a7 p (by omega)
  · rw [zsW_n _ _ (by omega), zsW_n _ _ (by omega), zsW_n _ _ (by omega)]; exact a8 k k1 k2
def ca_X11_pairTold : ((Nat → Int32) × Nat × zU × zD × Nat × Nat) → List zV := fun (T, n, U, S, y, q) => [vR 20 0 y]
def cp_X11_pairTold : ((Nat → Int32) × Nat × zU × zD × Nat × Nat) → zH → Prop := fun (T, n, U, S, y, q) h => rmR T n U h y ∧ rmD S h y ∧ h.1 y 20 = nI q
def cq_X11_pairTold : ((Nat → Int32) × Nat × zU × zD × Nat × Nat) → zH → Option zV → zH → Prop := fun (T, n, U, S, y, q) h r h' => r = none ∧ lfr y h h' ∧ rmR T n (uP4 (fI S) (gI S) T n U (dN S) (dP S) (nI q)) h' y ∧ ((uP4 (fI S) (gI S) T n U (dN S) (dP S) (nI q)).2.1 = 0 → rmD (aPr S (uPa T n U (dP S) (nI q)).toNatClampNeg (uPb T n U (dN S) (dP S) (nI q)).toNatClampNeg) h' y)
theorem rc_X11_pairTold : ∀ x : ((Nat → Int32) × Nat × zU × zD × Nat × Nat), ∃ (j a : Nat) (As : List zV), ca_X11_pairTold x = vR (10 + 10) j a :: As := by
  rintro ⟨T, n, U, S, y, q⟩
  exact ⟨_, _, _, rfl⟩
set_option maxHeartbeats 4000000 in
set_option maxRecDepth 100000 in
theorem m_X11_pairTold : zM yX11_pairTold cX11_pairTold 5 none ({ frames := 2, cells := 0, slots := 0, locals := 49 } : Room) ((ca_X11_pairTold, cp_X11_pairTold, cq_X11_pairTold) : zC ((Nat → Int32) × Nat × zU × zD × Nat × Nat)) := by
  refine zM_of (by decide) ?_
  rintro X Y ⟨T, n, U, S, y, q⟩ h ⟨hU, hD, hq⟩ O E hR
  have hU : rmR T n U h y := hU
  have hD : rmD S h y := hD
  have hq : h.1 y 20 = nI q := hq
  have hN10 := hD.1.2
  have hP28 := hD.2.1.2
  obtain ⟨U0, eU0⟩ : ∃ U0 : zU, U0 = uP0 U (dP S) (nI q) := ⟨_, rfl⟩
  obtain ⟨U1, eU1⟩ : ∃ U1 : zU, U1 = uNm T n U0 0 (nI (dN S) - 1) := ⟨_, rfl⟩
  obtain ⟨U2, eU2⟩ : ∃ U2 : zU, U2 = uNm T n U1 0 (nI (dN S) - 1) := ⟨_, rfl⟩
  obtain ⟨ka, eka⟩ : ∃ ka : Int32, ka = uNv T n U0 := ⟨_, rfl⟩
  obtain ⟨kb, ekb⟩ : ∃ kb : Int32, kb = uNv T n U1 := ⟨_, rfl⟩
  obtain ⟨U3, eU3⟩ : ∃ U3 : zU, U3 = if ka = kb then uF U2 2 U2.2.2.2 else U2 := ⟨_, rfl⟩
  obtain ⟨U4, eU4⟩ : ∃ U4 : zU, U4 = if hpr (fI S) (gI S) ka kb (dP S) then uF U3 4 U1.2.2.2 else U3 := ⟨_, rfl⟩
  have r1 : uP1 T n U (dN S) (dP S) (nI q) = U1 := by rw [eU1, eU0]; rfl
  have r2 : uP2 T n U (dN S) (dP S) (nI q) = U2 := by rw [eU2, ← r1]; rfl
  have ra : uPa T n U (dP S) (nI q) = ka := by rw [eka, eU0]; rfl
  have rb : uPb T n U (dN S) (dP S) (nI q) = kb := by rw [ekb, ← r1]; rfl
  have r3 : uP3 T n U (dN S) (dP S) (nI q) = U3 := by rw [uP3, ra, rb, r2, eU3]
  have r4 : uP4 (fI S) (gI S) T n U (dN S) (dP S) (nI q) = U4 := by rw [uP4, ra, rb, r3, r1, eU4]
  have hup : nI (dN S) - 1 ≤ 10000 := by
    have h1 : (nI (dN S) - 1).toInt = (dN S : Int) - 1 := by
      rw [fb_subI (by rw [nI_toInt (by omega)]; show _ ≤ (dN S : Int) - 1; omega) (by rw [nI_toInt (by omega)]; show (dN S : Int) - 1 < _; omega), nI_toInt (by omega)]; rfl
    rw [fa_le, h1]
    show (dN S : Int) - 1 ≤ 10000
    omega
  have z32 : U3.2.1 = 0 → U2.2.1 = 0 ∧ ¬ ka = kb := fun z => by
    rw [eU3] at z
    split at z
    · exact absurd z (uF_ne (by decide))
    · exact ⟨z, by assumption⟩
  have z43 : U4.2.1 = 0 → U3.2.1 = 0 := fun z => by
    rw [eU4] at z
    split at z
    · exact absurd z (uF_ne (by decide))
    · exact z
  have B_153 := zr_aload_n (X := X) (Y := Y) (u := 0) (v := 0) O dX11_pairTold_153 rfl (zr_gS (ci := 10) (j := 7) (off := 7) (t := 1) (n := 28) O zc_10 (by decide) rfl tw_1194 dX11_pairTold_154 (zr_aload_n O dX11_pairTold_157 rfl (zr_gI (ci := 10) (j := 25) O zc_10 (by decide) rfl tw_1212 dX11_pairTold_158 (zr_iload_n O dX11_pairTold_161 rfl (zr_iast O dX11_pairTold_162 (zr_aload_n O dX11_pairTold_163 rfl (zr_gS (ci := 10) (j := 8) (off := 8) (t := 1) (n := 28) O zc_10 (by decide) rfl tw_1195 dX11_pairTold_164 (zr_aload_n O dX11_pairTold_167 rfl (zr_gI (ci := 10) (j := 25) O zc_10 (by decide) rfl tw_1212 dX11_pairTold_168 (zr_iload_n O dX11_pairTold_171 rfl (zr_iast O dX11_pairTold_172 (zr_aload_n O dX11_pairTold_173 rfl (zr_dup O dX11_pairTold_174 (zr_gI (ci := 10) (j := 25) O zc_10 (by decide) rfl tw_1212 dX11_pairTold_175 (zr_iconst (x := 1) O dX11_pairTold_178 rfl (zr_iadd O dX11_pairTold_179 (zr_pI (ci := 10) (j := 25) O zc_10 (by decide) rfl rfl rfl tw_1212 dX11_pairTold_180 (zr_return O E (Nat.le_refl _) (Nat.le_refl _) dX11_pairTold_183))))))))))))))))))
  have B_145 := zr_aload_n (X := X) (Y := Y) (u := 0) (v := 0) O dX11_pairTold_145 rfl (zr_gI (ci := 10) (j := 21) O zc_10 (by decide) rfl tw_1208 dX11_pairTold_146 (zr_ifle (tgt := 153) O dX11_pairTold_149 rfl B_153 (zr_return O E (Nat.le_refl _) (Nat.le_refl _) dX11_pairTold_152)))
  have C_145 : zSd X Y 0 0 145 (fun ls st h1 => ∃ (a b l2 : Int32) (l4 : Option zV), ls = [some (vR 20 0 y), some (vI a), some (vI l2), some (vI b), l4] ∧ st = [] ∧ rfr y h h1 ∧ rmR T n U4 h1 y ∧ (U2.2.1 = 0 → a = ka ∧ b = kb)) := by
    refine zSd_weak B_145 (fun ls st h1 t => ?_)
    obtain ⟨a, b, l2, l4, rfl, rfl, f1, w1, x1⟩ := t
    have hz := (rmR_0 w1).1
    have hD1 := rmD_r f1 hD
    refine ⟨fun c => ?_, fun c => ⟨rfl, lfr_f f1, by rw [r4]; exact w1, fun z => absurd (hz.mpr (by rw [r4] at z; exact z)) c⟩⟩
    have z4 := hz.mp c
    have z3 := z43 z4
    obtain ⟨z2, hne⟩ := z32 z3
    obtain ⟨ea, eb⟩ := x1 z2
    obtain ⟨z1, b1, b2⟩ := uNm_0 (by rw [← eU2]; exact z2)
    obtain ⟨z0, c1, c2⟩ := uNm_0 (by rw [← eU1]; exact z1)
    rw [← ekb] at b1 b2
    rw [← eka] at c1 c2
    obtain ⟨q1, q2⟩ := cl_lt hN10 c1 c2
    obtain ⟨q3, q4⟩ := cl_lt hN10 b1 b2
    have hn28 : dP S ≠ 28 := fun z => by
      rw [eU0, uP0, if_pos z] at z0
      exact uF_ne (by decide) z0
    have e25 : h1.1 y 25 = nI (dP S) := hD1.2.1.1
    have e25' : ∀ v : Int32, (zsI h1 (y + 7) (dP S) v).1 y 25 = nI (dP S) := fun v => by rw [zsI_ro _ _ _ (by omega)]; exact e25
    refine ⟨dP S, e25, by omega, dP S, e25' _, by omega, rfl, ?_⟩
    have eh : zsI (zsI (zsI h1 (y + 7) (dP S) a) (y + 8) (dP S) b) y 25 ((zsI (zsI h1 (y + 7) (dP S) a) (y + 8) (dP S) b).1 y 25 + 1) = zsW (zsW (zsW h1 (y + 7) (va_up (h1.1 (y + 7)) (dP S) (nI ka.toNatClampNeg))) (y + 8) (va_up (h1.1 (y + 8)) (dP S) (nI kb.toNatClampNeg))) y (va_up (h1.1 y) 25 (nI (dP S + 1))) := by
      rw [ea, eb, ← q1, ← q3, zsI_W h1, zsI_W (zsW h1 _ _), zsW_n _ _ (by omega : y + 8 ≠ y + 7), zsI_W, zsW_n _ _ (by omega : y ≠ y + 8), zsW_n _ _ (by omega : y ≠ y + 7), e25, nI_1]
    rw [eh]
    refine ⟨lfr_t (lfr_f f1) (lfr_t (lfr_W (j := 7) h1 (va_up (h1.1 (y + 7)) (dP S) (nI ka.toNatClampNeg)) (by decide)) (lfr_t (lfr_W (j := 8) _ (va_up (h1.1 (y + 8)) (dP S) (nI kb.toNatClampNeg)) (by decide)) ?_)), ?_, fun _ => ?_⟩
    · have := lfr_I (y := y) (k := 25) (zsW (zsW h1 (y + 7) (va_up (h1.1 (y + 7)) (dP S) (nI ka.toNatClampNeg))) (y + 8) (va_up (h1.1 (y + 8)) (dP S) (nI kb.toNatClampNeg))) (nI (dP S + 1)) (by decide) (by decide) (by decide)
      rw [zsI_W, zsW_n _ _ (by omega : y ≠ y + 8), zsW_n _ _ (by omega : y ≠ y + 7)] at this
      exact this
    · rw [r4]
      have := rmR_I (k := 25) (v := nI (dP S + 1)) (by decide) (rmR_W (j := 8) (f := va_up (h1.1 (y + 8)) (dP S) (nI kb.toNatClampNeg)) (by decide) (by decide) (rmR_W (j := 7) (f := va_up (h1.1 (y + 7)) (dP S) (nI ka.toNatClampNeg)) (by decide) (by decide) w1))
      rw [zsI_W, zsW_n _ _ (by omega : y ≠ y + 8), zsW_n _ _ (by omega : y ≠ y + 7)] at this
      exact this
    · rw [ra, rb]
      exact rmD_pair (by omega) q2 q4 hD1
  have L_73 : ∀ nn : Nat, zSd X Y 0 0 73 ((fun d ls st h1 => ∃ (k : Nat) (a b l2 z : Int32) (V : zU), d = dP S - k ∧ k ≤ dP S ∧ ls = [some (vR 20 0 y), some (vI a), some (vI l2), some (vI b), some (vI z)] ∧ z = nI k ∧ st = [] ∧ rfr y h h1 ∧ rmR T n V h1 y ∧ (U2.2.1 = 0 → a = ka ∧ b = kb ∧ l2 = U1.2.2.2) ∧ ((V = U3 ∧ (U3.2.1 = 0 → ∀ j, j < k → hpq (fI S) (gI S) ka kb j = false)) ∨ (V = uF U3 4 U1.2.2.2 ∧ U3.2.1 = 0 ∧ hpr (fI S) (gI S) ka kb (dP S) = true)) : Nat → zT) nn) := by
    refine zSd_loop (fun nn ih => ?_)
    have B_139 := zr_iinc (X := X) (Y := Y) (u := 0) (v := 0) (c := 1) O dX11_pairTold_139 rfl (zr_goto (tgt := 73) O dX11_pairTold_142 rfl ih)
    have B_133 := zr_aload_n (X := X) (Y := Y) (u := 0) (v := 0) O dX11_pairTold_133 rfl (zr_iconst (x := 4) O dX11_pairTold_134 rfl (zr_iload_n O dX11_pairTold_135 rfl (zr_cVv (zr_cV (ci := 10) (n := 2) O m_X11_wrong (bn_X11_wrong _ ⟨rfl, rfl⟩) vw_X11_wrong tw_1335 rc_X11_wrong (zrm hR rfl rfl) dX11_pairTold_136 (B_139)))))
    have B_111 := zr_aload_n (X := X) (Y := Y) (u := 0) (v := 0) O dX11_pairTold_111 rfl (zr_gS (ci := 10) (j := 7) (off := 7) (t := 1) (n := 28) O zc_10 (by decide) rfl tw_1194 dX11_pairTold_112 (zr_iload O dX11_pairTold_115 (zr_iald O dX11_pairTold_117 (zr_iload_n O dX11_pairTold_118 rfl (zr_icne (tgt := 139) O dX11_pairTold_119 rfl B_139 (zr_aload_n O dX11_pairTold_122 rfl (zr_gS (ci := 10) (j := 8) (off := 8) (t := 1) (n := 28) O zc_10 (by decide) rfl tw_1195 dX11_pairTold_123 (zr_iload O dX11_pairTold_126 (zr_iald O dX11_pairTold_128 (zr_iload_n O dX11_pairTold_129 rfl (zr_icne (tgt := 139) O dX11_pairTold_130 rfl B_139 (B_133))))))))))))
    have B_73 := zr_iload (X := X) (Y := Y) (u := 0) (v := 0) O dX11_pairTold_73 (zr_aload_n O dX11_pairTold_75 rfl (zr_gI (ci := 10) (j := 25) O zc_10 (by decide) rfl tw_1212 dX11_pairTold_76 (zr_icge (tgt := 145) O dX11_pairTold_79 rfl C_145 (zr_aload_n O dX11_pairTold_82 rfl (zr_gI (ci := 10) (j := 21) O zc_10 (by decide) rfl tw_1208 dX11_pairTold_83 (zr_ifne (tgt := 145) O dX11_pairTold_86 rfl C_145 (zr_aload_n O dX11_pairTold_89 rfl (zr_gS (ci := 10) (j := 7) (off := 7) (t := 1) (n := 28) O zc_10 (by decide) rfl tw_1194 dX11_pairTold_90 (zr_iload O dX11_pairTold_93 (zr_iald O dX11_pairTold_95 (zr_iload_n O dX11_pairTold_96 rfl (zr_icne (tgt := 111) O dX11_pairTold_97 rfl B_111 (zr_aload_n O dX11_pairTold_100 rfl (zr_gS (ci := 10) (j := 8) (off := 8) (t := 1) (n := 28) O zc_10 (by decide) rfl tw_1195 dX11_pairTold_101 (zr_iload O dX11_pairTold_104 (zr_iald O dX11_pairTold_106 (zr_iload_n O dX11_pairTold_107 rfl (zr_iceq (tgt := 133) O dX11_pairTold_108 rfl B_133 (B_111)))))))))))))))))))
    refine zSd_weak B_73 (fun ls st h1 t => ?_)
    obtain ⟨k, a, b, l2, z, V, rfl, hk, rfl, rfl, rfl, f1, w1, x1, hV⟩ := t
    have hz := (rmR_0 w1).2
    have hD1 := rmD_r f1 hD
    have out : rmR T n U4 h1 y → ∃ (a_1 b_1 l2_1 : Int32) (l4 : Option zV), ([some (vR 20 0 y), some (vI a), some (vI l2), some (vI b), some (vI (nI k))] : zL) = [some (vR 20 0 y), some (vI a_1), some (vI l2_1), some (vI b_1), l4] ∧ ([] : List zV) = [] ∧ rfr y h h1 ∧ rmR T n U4 h1 y ∧ (U2.2.1 = 0 → a_1 = ka ∧ b_1 = kb) := fun w => ⟨a, b, l2, _, rfl, rfl, f1, w, fun z => ⟨(x1 z).1, (x1 z).2.1⟩⟩
    have dead : ¬ U3.2.1 = 0 → V = U3 → rmR T n U4 h1 y := fun z e => by
      rw [e] at w1
      rw [eU4]
      split
      · rw [uF_k z]; exact w1
      · exact w1
    have hit : V = uF U3 4 U1.2.2.2 ∧ U3.2.1 = 0 ∧ hpr (fI S) (gI S) ka kb (dP S) = true → rmR T n U4 h1 y := fun z => by
      rw [z.1] at w1
      rw [eU4, z.2.2]; exact w1
    refine ⟨fun c => out ?_, fun c => ⟨fun c2 => out ?_, fun c2 => ?_⟩⟩
    · rw [hD1.2.1.1] at c
      have := (nI_leI (by omega) (by omega)).mp c
      have hk2 : k = dP S := by omega
      rcases hV with ⟨e1, e2⟩ | e
      · by_cases z3 : U3.2.1 = 0
        · have hp : hpr (fI S) (gI S) ka kb (dP S) = false := by
            unfold hpr
            rw [fb_ct_zero.mpr (fun j hj => e2 z3 j (by omega))]; rfl
          rw [e1] at w1
          rw [eU4, hp]; exact w1
        · exact dead z3 e1
      · exact hit e
    · have qV : ¬ V.2.1 = 0 := fun z => c2 (hz.mpr z)
      rcases hV with ⟨e1, e2⟩ | e
      · rw [e1] at qV
        exact dead qV e1
      · exact hit e
    · have qV := hz.mp c2
      rw [hD1.2.1.1] at c
      have hk2 : k < dP S := Nat.not_le.mp (fun z => c ((nI_leI (by omega) (by omega)).mpr z))
      rcases hV with ⟨e1, e2⟩ | e
      · have z3 : U3.2.1 = 0 := by rw [← e1]; exact qV
        obtain ⟨z2, hne⟩ := z32 z3
        obtain ⟨ea, eb, el⟩ := x1 z2
        obtain ⟨⟨p1, -⟩, p2, -⟩ := hD1.2.2.2.1 k hk2
        rw [ea, eb]
        have yes : hpq (fI S) (gI S) ka kb k = true → ∃ x2 : Nat × Int32 × Int32, ([vR 20 0 y, vI 4, vI l2] : List zV) = ca_X11_wrong x2 ∧ True ∧ ∃ d, d < dP S - k ∧ ∃ (k_1 : Nat) (a_1 b_1 l2_1 z_1 : Int32) (V_1 : zU), d = dP S - k_1 ∧ k_1 ≤ dP S ∧ ([some (vR 20 0 y), some (vI ka), some (vI l2), some (vI kb), some (vI (nI k + 1))] : zL) = [some (vR 20 0 y), some (vI a_1), some (vI l2_1), some (vI b_1), some (vI z_1)] ∧ z_1 = nI k_1 ∧ ([] : List zV) = [] ∧ rfr y h (cg_X11_wrong x2 h1) ∧ rmR T n V_1 (cg_X11_wrong x2 h1) y ∧ (U2.2.1 = 0 → a_1 = ka ∧ b_1 = kb ∧ l2_1 = U1.2.2.2) ∧ ((V_1 = U3 ∧ (U3.2.1 = 0 → ∀ j, j < k_1 → hpq (fI S) (gI S) ka kb j = false)) ∨ (V_1 = uF U3 4 U1.2.2.2 ∧ U3.2.1 = 0 ∧ hpr (fI S) (gI S) ka kb (dP S) = true)) := by
          intro hy
          have wr := rmR_wr (k := 4) (by decide) l2 w1
          refine ⟨(y, 4, l2), rfl, trivial, dP S - (k + 1), by omega, k + 1, ka, kb, l2, _, uF U3 4 U1.2.2.2, rfl, by omega, rfl, nI_1 k, rfl, rfr_t f1 wr.2, ?_, fun _ => ⟨rfl, rfl, el⟩, Or.inr ⟨rfl, z3, ?_⟩⟩
          · rw [← el, ← e1]; exact wr.1
          · exact decide_eq_true (fb_ct_pos.mpr ⟨k, hk2, hy⟩)
        have no : hpq (fI S) (gI S) ka kb k = false → ∃ d, d < dP S - k ∧ ∃ (k_1 : Nat) (a_1 b_1 l2_1 z_1 : Int32) (V_1 : zU), d = dP S - k_1 ∧ k_1 ≤ dP S ∧ ([some (vR 20 0 y), some (vI ka), some (vI l2), some (vI kb), some (vI (nI k + 1))] : zL) = [some (vR 20 0 y), some (vI a_1), some (vI l2_1), some (vI b_1), some (vI z_1)] ∧ z_1 = nI k_1 ∧ ([] : List zV) = [] ∧ rfr y h h1 ∧ rmR T n V_1 h1 y ∧ (U2.2.1 = 0 → a_1 = ka ∧ b_1 = kb ∧ l2_1 = U1.2.2.2) ∧ ((V_1 = U3 ∧ (U3.2.1 = 0 → ∀ j, j < k_1 → hpq (fI S) (gI S) ka kb j = false)) ∨ (V_1 = uF U3 4 U1.2.2.2 ∧ U3.2.1 = 0 ∧ hpr (fI S) (gI S) ka kb (dP S) = true)) := by
          intro hy
          refine ⟨dP S - (k + 1), by omega, k + 1, ka, kb, l2, _, V, rfl, by omega, rfl, nI_1 k, rfl, f1, w1, fun _ => ⟨rfl, rfl, el⟩, Or.inl ⟨e1, fun z j hj => ?_⟩⟩
          by_cases e : j = k
          · rw [e]; exact hy
          · exact e2 z j (by omega)
        have eF : h1.1 (y + 7) k = fI S k := p1
        have eG : h1.1 (y + 8) k = gI S k := p2
        have hpk : ∀ b : Bool, b = hpq (fI S) (gI S) ka kb k ↔ b = decide (fI S k = ka ∧ gI S k = kb ∨ fI S k = kb ∧ gI S k = ka) := fun b => Iff.rfl
        have hk28 : k < 28 := by omega
        refine ⟨k, rfl, hk28, fun c3 => ⟨k, rfl, hk28, fun c4 => no ?_, fun c4 => ⟨k, rfl, hk28, fun c5 => no ?_, fun c5 => yes ?_⟩⟩, fun c3 => ⟨k, rfl, hk28, fun c4 => yes ?_, fun c4 => ⟨k, rfl, hk28, fun c5 => no ?_, fun c5 => ⟨k, rfl, hk28, fun c6 => no ?_, fun c6 => yes ?_⟩⟩⟩⟩
        · rw [eF] at c3 c4
          exact decide_eq_false (fun z => z.elim (fun w => c3 w.1) (fun w => c4 w.1))
        · rw [eF] at c3 c4
          rw [eG] at c5
          exact decide_eq_false (fun z => z.elim (fun w => c3 w.1) (fun w => c5 w.2))
        · rw [eF] at c4
          rw [eG] at c5
          exact decide_eq_true (Or.inr ⟨c4, c5⟩)
        · rw [eF] at c3
          rw [eG] at c4
          exact decide_eq_true (Or.inl ⟨c3, c4⟩)
        · rw [eF] at c5
          rw [eG] at c4
          exact decide_eq_false (fun z => z.elim (fun w => c4 w.2) (fun w => c5 w.1))
        · rw [eG] at c4 c6
          exact decide_eq_false (fun z => z.elim (fun w => c4 w.2) (fun w => c6 w.2))
        · rw [eF] at c5
          rw [eG] at c6
          exact decide_eq_true (Or.inr ⟨c5, c6⟩)
      · rw [e.1] at qV
        exact absurd qV (uF_ne (by decide))
  have B_73 := zSd_any L_73
  have B_70 := zr_iconst (X := X) (Y := Y) (u := 0) (v := 0) (x := 0) O dX11_pairTold_70 rfl (zr_istore O dX11_pairTold_71 (B_73))
  have C_70 : zSd X Y 0 0 70 (fun ls st h1 => ∃ (a b l2 : Int32), ls = [some (vR 20 0 y), some (vI a), some (vI l2), some (vI b), none] ∧ st = [] ∧ rfr y h h1 ∧ rmR T n U3 h1 y ∧ (U2.2.1 = 0 → a = ka ∧ b = kb ∧ l2 = U1.2.2.2)) := by
    refine zSd_weak B_70 (fun ls st h1 t => ?_)
    obtain ⟨a, b, l2, rfl, rfl, f1, w1, x1⟩ := t
    exact ⟨dP S - 0, 0, a, b, l2, _, U3, rfl, Nat.zero_le _, rfl, rfl, rfl, f1, w1, x1, Or.inl ⟨rfl, fun _ j hj => absurd hj (Nat.not_lt_zero _)⟩⟩
  have B_18 := zr_aload_n (X := X) (Y := Y) (u := 0) (v := 0) O dX11_pairTold_18 rfl (zr_iconst (x := 0) O dX11_pairTold_19 rfl (zr_aload_n O dX11_pairTold_20 rfl (zr_gI (ci := 10) (j := 24) O zc_10 (by decide) rfl tw_1211 dX11_pairTold_21 (zr_iconst (x := 1) O dX11_pairTold_24 rfl (zr_isub O dX11_pairTold_25 (zr_iconst (x := 0) O dX11_pairTold_26 rfl (zr_cV (ci := 10) (n := 3) O m_X11_number (bn_X11_number _ ⟨rfl, rfl⟩) vw_X11_number tw_1340 rc_X11_number (zrm hR rfl rfl) dX11_pairTold_27 (zr_istore_n O dX11_pairTold_30 rfl (zr_aload_n O dX11_pairTold_31 rfl (zr_gI (ci := 10) (j := 26) O zc_10 (by decide) rfl tw_1213 dX11_pairTold_32 (zr_istore_n O dX11_pairTold_35 rfl (zr_aload_n O dX11_pairTold_36 rfl (zr_iconst (x := 0) O dX11_pairTold_37 rfl (zr_aload_n O dX11_pairTold_38 rfl (zr_gI (ci := 10) (j := 24) O zc_10 (by decide) rfl tw_1211 dX11_pairTold_39 (zr_iconst (x := 1) O dX11_pairTold_42 rfl (zr_isub O dX11_pairTold_43 (zr_iconst (x := 0) O dX11_pairTold_44 rfl (zr_cV (ci := 10) (n := 3) O m_X11_number (bn_X11_number _ ⟨rfl, rfl⟩) vw_X11_number tw_1340 rc_X11_number (zrm hR rfl rfl) dX11_pairTold_45 (zr_istore_n O dX11_pairTold_48 rfl (zr_aload_n O dX11_pairTold_49 rfl (zr_gI (ci := 10) (j := 21) O zc_10 (by decide) rfl tw_1208 dX11_pairTold_50 (zr_ifne (tgt := 70) O dX11_pairTold_53 rfl C_70 (zr_iload_n O dX11_pairTold_56 rfl (zr_iload_n O dX11_pairTold_57 rfl (zr_icne (tgt := 70) O dX11_pairTold_58 rfl C_70 (zr_aload_n O dX11_pairTold_61 rfl (zr_iconst (x := 2) O dX11_pairTold_62 rfl (zr_aload_n O dX11_pairTold_63 rfl (zr_gI (ci := 10) (j := 26) O zc_10 (by decide) rfl tw_1213 dX11_pairTold_64 (zr_cVv (zr_cV (ci := 10) (n := 2) O m_X11_wrong (bn_X11_wrong _ ⟨rfl, rfl⟩) vw_X11_wrong tw_1335 rc_X11_wrong (zrm hR rfl rfl) dX11_pairTold_67 (C_70)))))))))))))))))))))))))))))))))
  have C_18 : zSd X Y 0 0 18 (fun ls st h1 => ls = [some (vR 20 0 y), none, none, none, none] ∧ st = [] ∧ rfr y h h1 ∧ rmR T n U0 h1 y) := by
    refine zSd_weak B_18 (fun ls st h1 t => ?_)
    obtain ⟨rfl, rfl, f0, w0⟩ := t
    have hD0 := rmD_r f0 hD
    refine ⟨(T, n, U0, y, 0, nI (dN S) - 1, false), by rw [hD0.1.1]; rfl, ⟨w0, by decide, hup⟩, fun r h2 hq1 => ?_⟩
    obtain ⟨v1, rfl, f1, w1, x1⟩ := hq1
    replace f1 : rfr y h1 h2 := f1
    replace w1 : rmR T n (uNm T n U0 0 (nI (dN S) - 1)) h2 y := w1
    replace x1 : (uNm T n U0 0 (nI (dN S) - 1)).2.1 = 0 → v1 = uNv T n U0 ∧ h2.1 y 26 = (uNm T n U0 0 (nI (dN S) - 1)).2.2.2 := x1
    rw [← eU1, ← eka] at x1
    rw [← eU1] at w1
    have hD2 := rmD_r (rfr_t f0 f1) hD
    refine ⟨(T, n, U1, y, 0, nI (dN S) - 1, false), by rw [hD2.1.1]; rfl, ⟨w1, by decide, hup⟩, fun r h3 hq2 => ?_⟩
    obtain ⟨v2, rfl, f2, w2, x2⟩ := hq2
    replace f2 : rfr y h2 h3 := f2
    replace w2 : rmR T n (uNm T n U1 0 (nI (dN S) - 1)) h3 y := w2
    replace x2 : (uNm T n U1 0 (nI (dN S) - 1)).2.1 = 0 → v2 = uNv T n U1 ∧ h3.1 y 26 = (uNm T n U1 0 (nI (dN S) - 1)).2.2.2 := x2
    rw [← eU2, ← ekb] at x2
    rw [← eU2] at w2
    have ft := rfr_t f0 (rfr_t f1 f2)
    have hz := (rmR_0 w2).2
    have all : U2.2.1 = 0 → v1 = ka ∧ v2 = kb ∧ h2.1 y 26 = U1.2.2.2 := fun z => by
      have z1 := (uNm_0 (by rw [← eU2]; exact z)).1
      exact ⟨(x1 z1).1, (x2 z).1, (x1 z1).2⟩
    refine ⟨fun c => ?_, fun c => ⟨fun c2 => ?_, fun c2 => ?_⟩⟩
    · have z2 : ¬ U2.2.1 = 0 := fun z => c (hz.mpr z)
      refine ⟨v1, v2, _, rfl, rfl, ft, ?_, all⟩
      rw [eU3]
      split
      · rw [uF_k z2]; exact w2
      · exact w2
    · have z2 := hz.mp c
      obtain ⟨a1, a2, a3⟩ := all z2
      refine ⟨v1, v2, _, rfl, rfl, ft, ?_, all⟩
      rw [eU3, if_neg (by rw [← a1, ← a2]; exact c2)]; exact w2
    · have z2 := hz.mp c
      obtain ⟨a1, a2, a3⟩ := all z2
      have wr := rmR_wr (k := 2) (by decide) U2.2.2.2 w2
      refine ⟨(y, 2, U2.2.2.2), by rw [(x2 z2).2]; rfl, trivial, v1, v2, _, rfl, rfl, rfr_t ft wr.2, ?_, all⟩
      rw [eU3, if_pos (by rw [← a1, ← a2]; exact c2)]; exact wr.1
  have B_0 := zr_aload_n (X := X) (Y := Y) (u := 0) (v := 0) O dX11_pairTold_0 rfl (zr_gI (ci := 10) (j := 25) O zc_10 (by decide) rfl tw_1212 dX11_pairTold_1 (zr_bipush (x := (28)) O dX11_pairTold_4 (by decide) (zr_icne (tgt := 18) O dX11_pairTold_6 rfl C_18 (zr_aload_n O dX11_pairTold_9 rfl (zr_iconst (x := 3) O dX11_pairTold_10 rfl (zr_aload_n O dX11_pairTold_11 rfl (zr_gI (ci := 10) (j := 20) O zc_10 (by decide) rfl tw_1207 dX11_pairTold_12 (zr_cVv (zr_cV (ci := 10) (n := 2) O m_X11_wrong (bn_X11_wrong _ ⟨rfl, rfl⟩) vw_X11_wrong tw_1335 rc_X11_wrong (zrm hR rfl rfl) dX11_pairTold_15 (C_18))))))))))
  refine ⟨rfl, Nat.le_of_ble_eq_true rfl, _, B_0, ?_⟩
  have wr := rmR_wr (k := 3) (by decide) (nI q) hU
  refine ⟨fun c => ⟨rfl, rfl, rfr_r y h, ?_⟩, fun c => ⟨(y, 3, nI q), by rw [hq]; rfl, trivial, rfl, rfl, wr.2, ?_⟩⟩
  · rw [hD.2.1.1] at c
    rw [eU0, uP0, if_neg (fun z => c (by rw [z]; rfl))]; exact hU
  · rw [hD.2.1.1] at c
    have e10 : dP S = 28 := (nI_eq (b := 28) (by omega) (by decide)).mp c
    rw [eU0, uP0, if_pos e10]; exact wr.1

