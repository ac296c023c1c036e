theorem dX11_needs_125 : decode cX11_needs 125 = .ok (.aload_n 0, 1) := by decide +kernel
theorem dX11_needs_126 : decode cX11_needs 126 = .ok (.getfield 17, 3) := by decide +kernel
theorem dX11_needs_129 : decode cX11_needs 129 = .ok (.sipush 161, 3) := by decide +kernel
theorem dX11_needs_132 : decode cX11_needs 132 = .ok (.iload_n 1, 1) := by decide +kernel
theorem dX11_needs_133 : decode cX11_needs 133 = .ok (.iastore, 1) := by decide +kernel
theorem dX11_needs_134 : decode cX11_needs 134 = .ok (.iload_n 2, 1) := by decide +kernel
theorem dX11_needs_135 : decode cX11_needs 135 = .ok (.ireturn, 1) := by decide +kernel
theorem dX11_needs_91 : decode cX11_needs 91 = .ok (.iload_n 3, 1) := by decide +kernel
theorem dX11_needs_92 : decode cX11_needs 92 = .ok (.bipush 28, 2) := by decide +kernel
theorem dX11_needs_94 : decode cX11_needs 94 = .ok (.if_icmp .ge 31, 3) := by decide +kernel
theorem dX11_needs_97 : decode cX11_needs 97 = .ok (.aload_n 0, 1) := by decide +kernel
theorem dX11_needs_98 : decode cX11_needs 98 = .ok (.getfield 17, 3) := by decide +kernel
theorem dX11_needs_101 : decode cX11_needs 101 = .ok (.sipush 162, 3) := by decide +kernel
theorem dX11_needs_104 : decode cX11_needs 104 = .ok (.iload_n 3, 1) := by decide +kernel
theorem dX11_needs_105 : decode cX11_needs 105 = .ok (.iadd, 1) := by decide +kernel
theorem dX11_needs_106 : decode cX11_needs 106 = .ok (.iconst 0, 1) := by decide +kernel
theorem dX11_needs_107 : decode cX11_needs 107 = .ok (.iastore, 1) := by decide +kernel
theorem dX11_needs_108 : decode cX11_needs 108 = .ok (.aload_n 0, 1) := by decide +kernel
theorem dX11_needs_109 : decode cX11_needs 109 = .ok (.getfield 17, 3) := by decide +kernel
theorem dX11_needs_112 : decode cX11_needs 112 = .ok (.sipush 190, 3) := by decide +kernel
theorem dX11_needs_115 : decode cX11_needs 115 = .ok (.iload_n 3, 1) := by decide +kernel
theorem dX11_needs_116 : decode cX11_needs 116 = .ok (.iadd, 1) := by decide +kernel
theorem dX11_needs_117 : decode cX11_needs 117 = .ok (.iconst 0, 1) := by decide +kernel
theorem dX11_needs_118 : decode cX11_needs 118 = .ok (.iastore, 1) := by decide +kernel
theorem dX11_needs_119 : decode cX11_needs 119 = .ok (.iinc 3 1, 3) := by decide +kernel
theorem dX11_needs_122 : decode cX11_needs 122 = .ok (.goto (-31), 3) := by decide +kernel
theorem dX11_needs_89 : decode cX11_needs 89 = .ok (.iload_n 1, 1) := by decide +kernel
theorem dX11_needs_90 : decode cX11_needs 90 = .ok (.istore_n 3, 1) := by decide +kernel
theorem dX11_needs_21 : decode cX11_needs 21 = .ok (.iload_n 3, 1) := by decide +kernel
theorem dX11_needs_22 : decode cX11_needs 22 = .ok (.iconst (-1), 1) := by decide +kernel
theorem dX11_needs_23 : decode cX11_needs 23 = .ok (.if_icmp .eq 66, 3) := by decide +kernel
theorem dX11_needs_26 : decode cX11_needs 26 = .ok (.aload_n 0, 1) := by decide +kernel
theorem dX11_needs_27 : decode cX11_needs 27 = .ok (.getfield 17, 3) := by decide +kernel
theorem dX11_needs_30 : decode cX11_needs 30 = .ok (.sipush 162, 3) := by decide +kernel
theorem dX11_needs_33 : decode cX11_needs 33 = .ok (.aload_n 0, 1) := by decide +kernel
theorem dX11_needs_34 : decode cX11_needs 34 = .ok (.getfield 17, 3) := by decide +kernel
theorem dX11_needs_37 : decode cX11_needs 37 = .ok (.sipush 161, 3) := by decide +kernel
theorem dX11_needs_40 : decode cX11_needs 40 = .ok (.iaload, 1) := by decide +kernel
theorem dX11_needs_41 : decode cX11_needs 41 = .ok (.iadd, 1) := by decide +kernel
theorem dX11_needs_42 : decode cX11_needs 42 = .ok (.iload_n 3, 1) := by decide +kernel
theorem dX11_needs_43 : decode cX11_needs 43 = .ok (.iastore, 1) := by decide +kernel
theorem dX11_needs_44 : decode cX11_needs 44 = .ok (.aload_n 0, 1) := by decide +kernel
theorem dX11_needs_45 : decode cX11_needs 45 = .ok (.getfield 17, 3) := by decide +kernel
theorem dX11_needs_48 : decode cX11_needs 48 = .ok (.sipush 190, 3) := by decide +kernel
theorem dX11_needs_51 : decode cX11_needs 51 = .ok (.aload_n 0, 1) := by decide +kernel
theorem dX11_needs_52 : decode cX11_needs 52 = .ok (.getfield 17, 3) := by decide +kernel
theorem dX11_needs_55 : decode cX11_needs 55 = .ok (.sipush 161, 3) := by decide +kernel
theorem dX11_needs_58 : decode cX11_needs 58 = .ok (.iaload, 1) := by decide +kernel
theorem dX11_needs_59 : decode cX11_needs 59 = .ok (.iadd, 1) := by decide +kernel
theorem dX11_needs_60 : decode cX11_needs 60 = .ok (.aload_n 0, 1) := by decide +kernel
theorem dX11_needs_61 : decode cX11_needs 61 = .ok (.iload_n 3, 1) := by decide +kernel
theorem dX11_needs_62 : decode cX11_needs 62 = .ok (.invokevirtual 85, 3) := by decide +kernel
theorem dX11_needs_65 : decode cX11_needs 65 = .ok (.iastore, 1) := by decide +kernel
theorem dX11_needs_66 : decode cX11_needs 66 = .ok (.aload_n 0, 1) := by decide +kernel
theorem dX11_needs_67 : decode cX11_needs 67 = .ok (.getfield 17, 3) := by decide +kernel
theorem dX11_needs_70 : decode cX11_needs 70 = .ok (.sipush 161, 3) := by decide +kernel
theorem dX11_needs_73 : decode cX11_needs 73 = .ok (.dup2, 1) := by decide +kernel
theorem dX11_needs_74 : decode cX11_needs 74 = .ok (.iaload, 1) := by decide +kernel
theorem dX11_needs_75 : decode cX11_needs 75 = .ok (.iconst 1, 1) := by decide +kernel
theorem dX11_needs_76 : decode cX11_needs 76 = .ok (.iadd, 1) := by decide +kernel
theorem dX11_needs_77 : decode cX11_needs 77 = .ok (.iastore, 1) := by decide +kernel
theorem dX11_needs_78 : decode cX11_needs 78 = .ok (.iinc 2 1, 3) := by decide +kernel
theorem dX11_needs_81 : decode cX11_needs 81 = .ok (.aload_n 0, 1) := by decide +kernel
theorem dX11_needs_82 : decode cX11_needs 82 = .ok (.invokevirtual 389, 3) := by decide +kernel
theorem dX11_needs_85 : decode cX11_needs 85 = .ok (.istore_n 3, 1) := by decide +kernel
theorem dX11_needs_86 : decode cX11_needs 86 = .ok (.goto (-65), 3) := by decide +kernel
theorem dX11_needs_0 : decode cX11_needs 0 = .ok (.aload_n 0, 1) := by decide +kernel
theorem dX11_needs_1 : decode cX11_needs 1 = .ok (.iconst 0, 1) := by decide +kernel
theorem dX11_needs_2 : decode cX11_needs 2 = .ok (.putfield 1, 3) := by decide +kernel
theorem dX11_needs_5 : decode cX11_needs 5 = .ok (.aload_n 0, 1) := by decide +kernel
theorem dX11_needs_6 : decode cX11_needs 6 = .ok (.getfield 17, 3) := by decide +kernel
theorem dX11_needs_9 : decode cX11_needs 9 = .ok (.sipush 161, 3) := by decide +kernel
theorem dX11_needs_12 : decode cX11_needs 12 = .ok (.iaload, 1) := by decide +kernel
theorem dX11_needs_13 : decode cX11_needs 13 = .ok (.istore_n 1, 1) := by decide +kernel
theorem dX11_needs_14 : decode cX11_needs 14 = .ok (.iconst 0, 1) := by decide +kernel
theorem dX11_needs_15 : decode cX11_needs 15 = .ok (.istore_n 2, 1) := by decide +kernel
theorem dX11_needs_16 : decode cX11_needs 16 = .ok (.aload_n 0, 1) := by decide +kernel
theorem dX11_needs_17 : decode cX11_needs 17 = .ok (.invokevirtual 389, 3) := by decide +kernel
theorem dX11_needs_20 : decode cX11_needs 20 = .ok (.istore_n 3, 1) := by decide +kernel
/-! the reference: how many more must be heard -/
theorem fm_row {y : Nat} {h h2 h3 : zH} {f : Nat → Int32} (a : fm y h h2) (b : fm y (zsW h2 (y + 2) f) h3) : ∃ h4 : zH, fm y h h4 ∧ h3 = zsW h4 (y + 2) f := by
  have e2 : h3.1 (y + 2) = f := by rw [b.2.2.2 2 (by omega), zsW_s]
  refine ⟨zsW h3 (y + 2) (h.1 (y + 2)), ⟨fun q hq => ⟨?_, ?_⟩, ?_, fun k hk => ?_, fun j hj => ?_⟩, ?_⟩
  · rw [zsW_n _ _ (by omega), (b.1 q hq).1, zsW_n _ _ (by omega), (a.1 q hq).1]
  · exact ((b.1 q hq).2).trans (a.1 q hq).2
  · exact b.2.1.trans a.2.1
  · rw [zsW_n _ _ (by omega), b.2.2.1 k hk, zsW_n _ _ (by omega), a.2.2.1 k hk]
  · by_cases e : j = 2
    · rw [e, zsW_s]
    · rw [zsW_n _ _ (by omega), b.2.2.2 j hj, zsW_n _ _ (by omega), a.2.2.2 j hj]
  · rw [zsW_W, ← e2, zsW_self]
def nsf (f g : Nat → Int32) (n : Nat) : Prop := (∀ k, k < 161 → f k = g k) ∧ ∀ i, i < n → f (162 + i) = g (162 + i) ∧ f (190 + i) = g (190 + i)
def ca_X11_needs : (zQ × (Nat → zQ) × Nat × Nat) → List zV := fun (Q, Hs, c, y) => [vR 20 0 y]
def cp_X11_needs : (zQ × (Nat → zQ) × Nat × Nat) → zH → Prop := fun (Q, Hs, c, y) h => rmZ (Q, Hs, c) y h ∧ vQ Q
def cq_X11_needs : (zQ × (Nat → zQ) × Nat × Nat) → zH → Option zV → zH → Prop := fun (Q, Hs, c, y) h r h' => r = some (vI (nI (ndN Q.1 Q.2.2))) ∧ fs y h h' ∧ rok y h h' ∧ rmZ (Q, Hs, c) y h'
theorem rc_X11_needs : ∀ x : (zQ × (Nat → zQ) × Nat × Nat), ∃ (j a : Nat) (As : List zV), ca_X11_needs x = vR (10 + 10) j a :: As := by
  rintro ⟨⟨S, K, M⟩, Hs, c, y⟩
  exact ⟨_, _, _, rfl⟩
set_option maxHeartbeats 4000000 in
set_option maxRecDepth 100000 in
theorem m_X11_needs : zM yX11_needs cX11_needs 4 (some .int) ({ frames := 5, cells := 0, slots := 0, locals := 110 } : Room) ((ca_X11_needs, cp_X11_needs, cq_X11_needs) : zC (zQ × (Nat → zQ) × Nat × Nat)) := by
  refine zM_of (by decide) ?_
  rintro X Y ⟨⟨S, K, M⟩, Hs, c, y⟩ h ⟨hZ, hv, hP, hj, hG⟩ O E hR
  have hZ : rmZ ((S, K, M), Hs, c) y h := hZ
  have hj : gInj M := hj
  have hG : ∀ i, i < gN M → gP M i < dP S := hG
  obtain ⟨h0, eh0⟩ : ∃ h0 : zH, h0 = zsI h y 0 0 := ⟨_, rfl⟩
  have f00 : fq y h h0 ∧ rok y h h0 := by rw [eh0]; exact fq_0 y h
  have hZ0 := rmZ_fq f00.1 hZ
  have hS0 : rmS S h0 y := hZ0.1
  have hL0 : rmL M (h0.1 (y + 2)) := hZ0.2.2.1
  have hP28 := hS0.2.1.2
  have g28 := hL0.1.2
  obtain ⟨g, eg⟩ : ∃ g : Nat → Int32, g = h0.1 (y + 2) := ⟨_, rfl⟩
  rw [← eg] at hL0
  have hSf : ∀ (h2 : zH) (f : Nat → Int32), fm y h0 h2 → (∀ k, k < 161 → f k = g k) → rmS S (zsW h2 (y + 2) f) y := fun h2 f a hf => rmS_m (fun k hk => by rw [a.2.2.2 2 (by omega), ← eg]; exact hf k (by omega)) (rmS_fm a hS0)
  have B_125 := zr_aload_n (X := X) (Y := Y) (u := 0) (v := 0) O dX11_needs_125 rfl (zr_gS (ci := 10) (j := 2) (off := 2) (t := 1) (n := 218) O zc_10 (by decide) rfl tw_1189 dX11_needs_126 (zr_sipush (x := (161)) O dX11_needs_129 (by decide) (zr_iload_n O dX11_needs_132 rfl (zr_iast O dX11_needs_133 (zr_iload_n O dX11_needs_134 rfl (zr_ireturn O E (Nat.le_refl _) (Nat.le_refl _) dX11_needs_135))))))
  have L_91 : ∀ nn : Nat, zSd X Y 0 0 91 ((fun d ls st h1 => ∃ (k : Nat) (z u : Int32) (f : Nat → Int32) (h2 : zH), d = 28 - k ∧ gN M ≤ k ∧ k ≤ 28 ∧ ls = [some (vR 20 0 y), some (vI (nI (gN M))), some (vI u), some (vI z)] ∧ u = nI (ndN S M) ∧ z = nI k ∧ st = [] ∧ h1 = zsW h2 (y + 2) f ∧ fm y h0 h2 ∧ nsf f g (gN M) : Nat → zT) nn) := by
    refine zSd_loop (fun nn ih => ?_)
    have B_91 := zr_iload_n (X := X) (Y := Y) (u := 0) (v := 0) O dX11_needs_91 rfl (zr_bipush (x := (28)) O dX11_needs_92 (by decide) (zr_icge (tgt := 125) O dX11_needs_94 rfl B_125 (zr_aload_n O dX11_needs_97 rfl (zr_gS (ci := 10) (j := 2) (off := 2) (t := 1) (n := 218) O zc_10 (by decide) rfl tw_1189 dX11_needs_98 (zr_sipush (x := (162)) O dX11_needs_101 (by decide) (zr_iload_n O dX11_needs_104 rfl (zr_iadd O dX11_needs_105 (zr_iconst (x := 0) O dX11_needs_106 rfl (zr_iast O dX11_needs_107 (zr_aload_n O dX11_needs_108 rfl (zr_gS (ci := 10) (j := 2) (off := 2) (t := 1) (n := 218) O zc_10 (by decide) rfl tw_1189 dX11_needs_109 (zr_sipush (x := (190)) O dX11_needs_112 (by decide) (zr_iload_n O dX11_needs_115 rfl (zr_iadd O dX11_needs_116 (zr_iconst (x := 0) O dX11_needs_117 rfl (zr_iast O dX11_needs_118 (zr_iinc (c := 1) O dX11_needs_119 rfl (zr_goto (tgt := 91) O dX11_needs_122 rfl ih))))))))))))))))))
    refine zSd_weak B_91 (fun ls st h1 t => ?_)
    obtain ⟨k, z, u, f, h2, rfl, hk0, hk, rfl, rfl, rfl, rfl, rfl, f2, hf⟩ := t
    refine ⟨fun cq => ?_, fun cq => ?_⟩
    · have f3 := fq_fm f00 f2
      have hZ2 := rmZ_fq f3.1 hZ
      refine ⟨161, rfl, by decide, zri rfl, ?_⟩
      rw [zsI_W, zsW_W, zsW_s]
      refine ⟨fs_t (fs_q f3.1) (fs_W (j := 2) _ _ (by omega)), ⟨?_, ?_⟩, ?_⟩
      · rw [zsW_n _ _ (by omega)]; exact f3.2.1
      · rw [zsW_n _ _ (by omega)]; exact f3.2.2
      · have e2 : h2.1 (y + 2) = g := by rw [f2.2.2.2 2 (by omega), eg]
        refine rmZ_m (Q := (S, K, M)) (R := (S, K, M)) (shp_r S) (rmr_cg hZ2.1.1.2 (fun k hk => ?_) ⟨hZ2.1.2.2.1, hZ2.1.2.2.2.2⟩) (rmE_cg (fun k _ hk => ?_) hZ2.2.1) ⟨⟨zup_s _ _ _, g28⟩, fun i hi => ?_, fun r hr => ?_⟩ hZ2
        · rw [zup_n _ _ (by omega), hf.1 k (by omega), e2]
        · rw [zup_n _ _ (by omega), hf.1 k (by omega), e2]
        · rw [zup_n _ _ (by omega), zup_n _ _ (by omega), (hf.2 i hi).1, (hf.2 i hi).2]
          exact hL0.2.1 i hi
        · rw [zup_n _ _ (by omega), hf.1 _ (by omega)]; exact hL0.2.2 r hr
    · have hk2 : k < 28 := Nat.not_le.mp (fun z => cq ((nI_leI (a := 28) (by omega) (by omega)).mpr z))
      refine ⟨162 + k, lI 162 k, by omega, 190 + k, lI 190 k, by omega, 28 - (k + 1), by omega, k + 1, _, _, va_up (va_up f (162 + k) 0) (190 + k) 0, h2, rfl, by omega, by omega, rfl, rfl, nI_1 k, rfl, ?_, f2, fun j hj => ?_, fun i hi => ?_⟩
      · rw [zsI_W (zsW h2 (y + 2) f), zsW_W, zsW_s, zsI_W, zsW_W, zsW_s]
      · rw [zup_n _ _ (by omega), zup_n _ _ (by omega)]; exact hf.1 j hj
      · rw [zup_n _ _ (by omega), zup_n _ _ (by omega), zup_n _ _ (by omega), zup_n _ _ (by omega)]; exact hf.2 i hi
  have B_91 := zSd_any L_91
  have B_89 := zr_iload_n (X := X) (Y := Y) (u := 0) (v := 0) O dX11_needs_89 rfl (zr_istore_n O dX11_needs_90 rfl (B_91))
  have L_21 : ∀ nn : Nat, zSd X Y 0 0 21 ((fun d ls st h1 => ∃ (n : Nat) (z u : Int32) (f : Nat → Int32) (h2 : zH) (L : zG), d = 28 - n ∧ n ≤ 28 ∧ ls = [some (vR 20 0 y), some (vI (nI (gN M))), some (vI u), some (vI z)] ∧ u = nI n ∧ L = ndL S M n ∧ z = nx1 S L ∧ st = [] ∧ h1 = zsW h2 (y + 2) f ∧ fm y h0 h2 ∧ nsf f g (gN M) ∧ rmL L f ∧ gInj L ∧ (∀ i, i < gN L → gP L i < dP S) ∧ gN L = gN M + n ∧ ∀ j, j < n → decide (nx1 S (ndL S M j) = -1) = false : Nat → zT) nn) := by
    refine zSd_loop (fun nn ih => ?_)
    have B_21 := zr_iload_n (X := X) (Y := Y) (u := 0) (v := 0) O dX11_needs_21 rfl (zr_iconst (x := (-1)) O dX11_needs_22 rfl (zr_iceq (tgt := 89) O dX11_needs_23 rfl B_89 (zr_aload_n O dX11_needs_26 rfl (zr_gS (ci := 10) (j := 2) (off := 2) (t := 1) (n := 218) O zc_10 (by decide) rfl tw_1189 dX11_needs_27 (zr_sipush (x := (162)) O dX11_needs_30 (by decide) (zr_aload_n O dX11_needs_33 rfl (zr_gS (ci := 10) (j := 2) (off := 2) (t := 1) (n := 218) O zc_10 (by decide) rfl tw_1189 dX11_needs_34 (zr_sipush (x := (161)) O dX11_needs_37 (by decide) (zr_iald O dX11_needs_40 (zr_iadd O dX11_needs_41 (zr_iload_n O dX11_needs_42 rfl (zr_iast O dX11_needs_43 (zr_aload_n O dX11_needs_44 rfl (zr_gS (ci := 10) (j := 2) (off := 2) (t := 1) (n := 218) O zc_10 (by decide) rfl tw_1189 dX11_needs_45 (zr_sipush (x := (190)) O dX11_needs_48 (by decide) (zr_aload_n O dX11_needs_51 rfl (zr_gS (ci := 10) (j := 2) (off := 2) (t := 1) (n := 218) O zc_10 (by decide) rfl tw_1189 dX11_needs_52 (zr_sipush (x := (161)) O dX11_needs_55 (by decide) (zr_iald O dX11_needs_58 (zr_iadd O dX11_needs_59 (zr_aload_n O dX11_needs_60 rfl (zr_iload_n O dX11_needs_61 rfl (zr_cI (zr_cV (ci := 10) (n := 1) O m_X11_bitOf (bn_X11_bitOf _ ⟨rfl, rfl⟩) vw_X11_bitOf tw_1419 rc_X11_bitOf (zrm hR rfl rfl) dX11_needs_62 (zr_iast O dX11_needs_65 (zr_aload_n O dX11_needs_66 rfl (zr_gS (ci := 10) (j := 2) (off := 2) (t := 1) (n := 218) O zc_10 (by decide) rfl tw_1189 dX11_needs_67 (zr_sipush (x := (161)) O dX11_needs_70 (by decide) (zr_dup2 O dX11_needs_73 (zr_iald O dX11_needs_74 (zr_iconst (x := 1) O dX11_needs_75 rfl (zr_iadd O dX11_needs_76 (zr_iast O dX11_needs_77 (zr_iinc (c := 1) O dX11_needs_78 rfl (zr_aload_n O dX11_needs_81 rfl (zr_cV (ci := 10) (n := 0) O m_X11_nextNow (bn_X11_nextNow _ ⟨rfl, rfl⟩) vw_X11_nextNow tw_1696 rc_X11_nextNow (zrm hR rfl rfl) dX11_needs_82 (zr_istore_n O dX11_needs_85 rfl (zr_goto (tgt := 21) O dX11_needs_86 rfl ih))))))))))))))))))))))))))))))))))))))
    refine zSd_weak B_21 (fun ls st h1 t => ?_)
    obtain ⟨n, z, u, f, h2, L, rfl, hn, rfl, rfl, eL, rfl, rfl, rfl, f2, hf, hL, hj1, hG1, hgn, hb⟩ := t
    refine ⟨fun cq => ?_, fun cq => ?_⟩
    · refine ⟨28 - gN M, gN M, _, _, f, h2, rfl, Nat.le_refl _, g28, rfl, ?_, rfl, rfl, rfl, f2, hf⟩
      rw [eL] at cq
      rcases Nat.lt_or_ge n 28 with z | z
      · rw [ndN, first_at (f := fun j => decide (nx1 S (ndL S M j) = -1)) z (decide_eq_true cq) hb]
      · have : n = 28 := by omega
        subst this
        rw [ndN, first_end hb]
    · rcases nxt_ok S L (lod S L (gN L)) (dP S) with z | ⟨p, hp, ep, hH⟩
      · exact absurd z cq
      · replace ep : nx1 S L = nI p := ep
        have ec : cN (nx1 S L) = p := by rw [ep]; exact nI_clamp (by omega)
        have hlt := g_more hj1 hG1 hp hH
        have en : ndL S M (n + 1) = gkp L p (decide (pb S p = 1)) := by rw [ndL, ← eL, if_neg cq, ec]
        have ek : gkp L p (decide (pb S p = 1)) = (gN L + 1, va_up (gP L) (gN L) p, va_up (gB L) (gN L) (decide (pb S p = 1)), gW L) := by rw [gkp, if_neg (by rw [hH]; exact Bool.false_ne_true)]
        have e161 : f 161 = nI (gN L) := hL.1.1
        rw [ep]
        have i1 : (162 : Int32) + (zsW h2 (y + 2) f).1 (y + 2) 161 = nI (162 + gN L) := by rw [zsW_s, e161]; exact lI 162 _
        have i2 : (190 : Int32) + (zsI (zsW h2 (y + 2) f) (y + 2) (162 + gN L) (nI p)).1 (y + 2) 161 = nI (190 + gN L) := by rw [zsI_W, zsW_s, zsW_s, zup_n _ _ (by omega), e161]; exact lI 190 _
        have eH1 : zsI (zsW h2 (y + 2) f) (y + 2) (162 + gN L) (nI p) = zsW h2 (y + 2) (va_up f (162 + gN L) (nI p)) := by rw [zsI_W, zsW_W, zsW_s]
        have eH2 : zsI (zsI (zsW h2 (y + 2) f) (y + 2) (162 + gN L) (nI p)) (y + 2) (190 + gN L) (pb S p) = zsW h2 (y + 2) (va_up (va_up f (162 + gN L) (nI p)) (190 + gN L) (pb S p)) := by rw [eH1, zsI_W, zsW_W, zsW_s]
        have eH3 : zsI (zsI (zsI (zsW h2 (y + 2) f) (y + 2) (162 + gN L) (nI p)) (y + 2) (190 + gN L) (pb S p)) (y + 2) 161 ((zsI (zsI (zsW h2 (y + 2) f) (y + 2) (162 + gN L) (nI p)) (y + 2) (190 + gN L) (pb S p)).1 (y + 2) 161 + 1) = zsW h2 (y + 2) (va_up (va_up (va_up f (162 + gN L) (nI p)) (190 + gN L) (pb S p)) 161 (nI (gN L + 1))) := by
          rw [eH2, zsI_W, zsW_W, zsW_s, zup_n _ _ (by omega), zup_n _ _ (by omega), e161, nI_1]
        obtain ⟨f', ef'⟩ : ∃ f' : Nat → Int32, f' = va_up (va_up (va_up f (162 + gN L) (nI p)) (190 + gN L) (pb S p)) 161 (nI (gN L + 1)) := ⟨_, rfl⟩
        rw [← ef'] at eH3
        have k1 : ∀ k, k < 161 → f' k = g k := fun k hk => by rw [ef', zup_n _ _ (by omega), zup_n _ _ (by omega), zup_n _ _ (by omega)]; exact hf.1 k hk
        have hf' : nsf f' g (gN M) := ⟨k1, fun i hi => by rw [ef', zup_n _ _ (by omega), zup_n _ _ (by omega), zup_n _ _ (by omega), zup_n _ _ (by omega), zup_n _ _ (by omega), zup_n _ _ (by omega)]; exact hf.2 i hi⟩
        have hL' : rmL (gkp L p (decide (pb S p = 1))) f' := by
          rw [ek, ef']
          refine ⟨⟨zup_s _ _ _, by show gN L + 1 ≤ 28; omega⟩, fun i hi => ?_, fun r hr => ?_⟩
          · replace hi : i < gN L + 1 := hi
            show (_ = nI (va_up (gP L) (gN L) p i) ∧ va_up (gP L) (gN L) p i < 28) ∧ _ = bI (va_up (gB L) (gN L) (decide (pb S p = 1)) i)
            by_cases e : i = gN L
            · rw [e, zup_s, zup_s, zup_n _ _ (by omega), zup_n _ _ (by omega), zup_s, zup_n _ _ (by omega), zup_s, ← pb_bb]
              exact ⟨⟨rfl, by omega⟩, rfl⟩
            · rw [zup_n _ _ (by omega), zup_n _ _ (by omega), zup_n _ _ (by omega), zup_n _ _ e, zup_n _ _ (by omega), zup_n _ _ (by omega), zup_n _ _ (by omega), zup_n _ _ e]
              exact hL.2.1 i (by omega)
          · rw [zup_n _ _ (by omega), zup_n _ _ (by omega), zup_n _ _ (by omega)]; exact hL.2.2 r hr
        refine ⟨161, rfl, by decide, 162 + gN L, i1, by omega, 161, rfl, by decide, (S, y, p), rfl, ⟨?_, hp⟩, 190 + gN L, i2, by omega, 161, rfl, by decide, 161, rfl, by decide, (S, gkp L p (decide (pb S p = 1)), y), rfl, ⟨?_, ?_, gkp_P hG1 hp⟩, fun r h4 hq => ?_⟩
        · rw [eH1]
          exact hSf h2 _ f2 (fun k hk => by rw [zup_n _ _ (by omega)]; exact hf.1 k hk)
        · show rmS S (zsI (zsI (zsI (zsW h2 (y + 2) f) (y + 2) (162 + gN L) (nI p)) (y + 2) (190 + gN L) (pb S p)) (y + 2) 161 ((zsI (zsI (zsW h2 (y + 2) f) (y + 2) (162 + gN L) (nI p)) (y + 2) (190 + gN L) (pb S p)).1 (y + 2) 161 + 1)) y
          rw [eH3]
          exact hSf h2 f' f2 k1
        · show rmL _ ((zsI (zsI (zsI (zsW h2 (y + 2) f) (y + 2) (162 + gN L) (nI p)) (y + 2) (190 + gN L) (pb S p)) (y + 2) 161 ((zsI (zsI (zsW h2 (y + 2) f) (y + 2) (162 + gN L) (nI p)) (y + 2) (190 + gN L) (pb S p)).1 (y + 2) 161 + 1)).1 (y + 2))
          rw [eH3, zsW_s]
          exact hL'
        · obtain ⟨rfl, f4⟩ := hq
          replace f4 : fm y (zsI (zsI (zsI (zsW h2 (y + 2) f) (y + 2) (162 + gN L) (nI p)) (y + 2) (190 + gN L) (pb S p)) (y + 2) 161 ((zsI (zsI (zsW h2 (y + 2) f) (y + 2) (162 + gN L) (nI p)) (y + 2) (190 + gN L) (pb S p)).1 (y + 2) 161 + 1)) h4 := f4
          rw [eH3] at f4
          obtain ⟨h5, f5, e5⟩ := fm_row f2 f4
          refine ⟨28 - (n + 1), by omega, n + 1, _, _, f', h5, ndL S M (n + 1), rfl, by omega, rfl, nI_1 n, rfl, by rw [en], rfl, e5, f5, hf', by rw [en]; exact hL', by rw [en]; exact gkp_inj hj1, by rw [en]; exact gkp_P hG1 hp, ?_, fun j hj2 => ?_⟩
          · rw [en, ek]
            show gN L + 1 = _
            omega
          · by_cases e : j = n
            · rw [e]; exact decide_eq_false (by rw [← eL]; exact cq)
            · exact hb j (by omega)
  have B_21 := zSd_any L_21
  have B_0 := zr_aload_n (X := X) (Y := Y) (u := 0) (v := 0) O dX11_needs_0 rfl (zr_iconst (x := 0) O dX11_needs_1 rfl (zr_pI (ci := 10) (j := 0) O zc_10 (by decide) rfl rfl rfl tw_1187 dX11_needs_2 (zr_aload_n O dX11_needs_5 rfl (zr_gS (ci := 10) (j := 2) (off := 2) (t := 1) (n := 218) O zc_10 (by decide) rfl tw_1189 dX11_needs_6 (zr_sipush (x := (161)) O dX11_needs_9 (by decide) (zr_iald O dX11_needs_12 (zr_istore_n O dX11_needs_13 rfl (zr_iconst (x := 0) O dX11_needs_14 rfl (zr_istore_n O dX11_needs_15 rfl (zr_aload_n O dX11_needs_16 rfl (zr_cV (ci := 10) (n := 0) O m_X11_nextNow (bn_X11_nextNow _ ⟨rfl, rfl⟩) vw_X11_nextNow tw_1696 rc_X11_nextNow (zrm hR rfl rfl) dX11_needs_17 (zr_istore_n O dX11_needs_20 rfl (B_21)))))))))))))
  refine ⟨rfl, Nat.le_of_ble_eq_true rfl, _, B_0, ?_⟩
  have e161 : (zsI h y 0 0).1 (y + 2) 161 = nI (gN M) := by rw [← eh0, ← eg]; exact hL0.1.1
  refine ⟨161, rfl, by decide, (S, M, y), rfl, ⟨by rw [← eh0]; exact hS0, by rw [← eh0, ← eg]; exact hL0, hG⟩, fun r h1 hq => ?_⟩
  obtain ⟨rfl, f1⟩ := hq
  replace f1 : fm y (zsI h y 0 0) h1 := f1
  rw [← eh0] at f1
  refine ⟨28 - 0, 0, _, _, g, h1, M, rfl, by decide, ?_, rfl, rfl, rfl, rfl, ?_, f1, ⟨fun _ _ => rfl, fun _ _ => ⟨rfl, rfl⟩⟩, hL0, hj, hG, by omega, fun j hj2 => absurd hj2 (Nat.not_lt_zero _)⟩
  · show [_, some (vI ((zsI h y 0 0).1 (y + 2) 161)), _, _] = _
    rw [e161]; rfl
  · have := zsW_self h1 (y + 2)
    rw [f1.2.2.2 2 (by omega), ← eg] at this
    exact this.symm

