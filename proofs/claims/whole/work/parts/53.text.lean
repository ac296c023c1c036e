theorem dX10_text_31 : decode cX10_text 31 = .ok (.aload_n 0, 1) := by decide +kernel
theorem dX10_text_32 : decode cX10_text 32 = .ok (.getfield 10, 3) := by decide +kernel
theorem dX10_text_35 : decode cX10_text 35 = .ok (.getfield 85, 3) := by decide +kernel
theorem dX10_text_38 : decode cX10_text 38 = .ok (.aload_n 0, 1) := by decide +kernel
theorem dX10_text_39 : decode cX10_text 39 = .ok (.getfield 23, 3) := by decide +kernel
theorem dX10_text_42 : decode cX10_text 42 = .ok (.getfield 89, 3) := by decide +kernel
theorem dX10_text_45 : decode cX10_text 45 = .ok (.invokevirtual 92, 3) := by decide +kernel
theorem dX10_text_48 : decode cX10_text 48 = .ok (.aload_n 0, 1) := by decide +kernel
theorem dX10_text_49 : decode cX10_text 49 = .ok (.getfield 10, 3) := by decide +kernel
theorem dX10_text_52 : decode cX10_text 52 = .ok (.getfield 98, 3) := by decide +kernel
theorem dX10_text_55 : decode cX10_text 55 = .ok (.invokevirtual 102, 3) := by decide +kernel
theorem dX10_text_58 : decode cX10_text 58 = .ok (.aload_n 0, 1) := by decide +kernel
theorem dX10_text_59 : decode cX10_text 59 = .ok (.getfield 10, 3) := by decide +kernel
theorem dX10_text_62 : decode cX10_text 62 = .ok (.getfield 107, 3) := by decide +kernel
theorem dX10_text_65 : decode cX10_text 65 = .ok (.invokevirtual 110, 3) := by decide +kernel
theorem dX10_text_68 : decode cX10_text 68 = .ok (.aload_n 0, 1) := by decide +kernel
theorem dX10_text_69 : decode cX10_text 69 = .ok (.iconst 0, 1) := by decide +kernel
theorem dX10_text_70 : decode cX10_text 70 = .ok (.putfield 111, 3) := by decide +kernel
theorem dX10_text_73 : decode cX10_text 73 = .ok (.aload_n 0, 1) := by decide +kernel
theorem dX10_text_74 : decode cX10_text 74 = .ok (.getfield 10, 3) := by decide +kernel
theorem dX10_text_77 : decode cX10_text 77 = .ok (.getfield 85, 3) := by decide +kernel
theorem dX10_text_80 : decode cX10_text 80 = .ok (.getfield 114, 3) := by decide +kernel
theorem dX10_text_83 : decode cX10_text 83 = .ok (.ireturn, 1) := by decide +kernel
theorem dX10_text_0 : decode cX10_text 0 = .ok (.aload_n 0, 1) := by decide +kernel
theorem dX10_text_1 : decode cX10_text 1 = .ok (.iload_n 1, 1) := by decide +kernel
theorem dX10_text_2 : decode cX10_text 2 = .ok (.iconst 0, 1) := by decide +kernel
theorem dX10_text_3 : decode cX10_text 3 = .ok (.aload_n 0, 1) := by decide +kernel
theorem dX10_text_4 : decode cX10_text 4 = .ok (.getfield 23, 3) := by decide +kernel
theorem dX10_text_7 : decode cX10_text 7 = .ok (.getfield 69, 3) := by decide +kernel
theorem dX10_text_10 : decode cX10_text 10 = .ok (.invokevirtual 77, 3) := by decide +kernel
theorem dX10_text_13 : decode cX10_text 13 = .ok (.aload_n 0, 1) := by decide +kernel
theorem dX10_text_14 : decode cX10_text 14 = .ok (.getfield 23, 3) := by decide +kernel
theorem dX10_text_17 : decode cX10_text 17 = .ok (.iload_n 1, 1) := by decide +kernel
theorem dX10_text_18 : decode cX10_text 18 = .ok (.invokevirtual 81, 3) := by decide +kernel
theorem dX10_text_21 : decode cX10_text 21 = .ok (.istore_n 2, 1) := by decide +kernel
theorem dX10_text_22 : decode cX10_text 22 = .ok (.iload_n 2, 1) := by decide +kernel
theorem dX10_text_23 : decode cX10_text 23 = .ok (.ifCond .eq 8, 3) := by decide +kernel
theorem dX10_text_26 : decode cX10_text 26 = .ok (.iload_n 2, 1) := by decide +kernel
theorem dX10_text_27 : decode cX10_text 27 = .ok (.bipush 10, 2) := by decide +kernel
theorem dX10_text_29 : decode cX10_text 29 = .ok (.isub, 1) := by decide +kernel
theorem dX10_text_30 : decode cX10_text 30 = .ok (.ireturn, 1) := by decide +kernel
/-! a text taken -/
theorem rpZ_zero {Q : zQ} {Hs : Nat → zQ} {c p k0 : Nat} {π : Nat → Nat} {x : Nat} {h : zH} (hZ : rpZ (Q, Hs, c, p, k0, π) x h) : rpZ (Q, Hs, 0, p, k0, π) x (zsI h x 2 0) := by
  obtain ⟨⟨n1, n2⟩, t1, t2, ⟨c1, c2⟩, ⟨p1, p2⟩, q1, q2⟩ := hZ
  have hin := stA_in x n2
  refine ⟨⟨n1, n2⟩, t1, t2, ⟨by rw [zsI_W, zsW_s, zup_s]; rfl, by omega⟩, ⟨by rw [zsI_W, zsW_s, zup_n _ _ (by decide)]; exact p1, p2⟩, ?_, fun i hi => absurd hi (by omega)⟩
  exact rpQ_cg (fun q hq1 hq2 => by rw [zsI_W]; exact zsW_n _ _ (by omega)) q1
def txP (Z : zP) (x : Nat) (R : zU × zD) (h : zH) (r : Option zV) (h' : zH) : Prop := sm x 179 h h' ∧ (h'.1 (x + 171) 4 = 0 ∧ h'.1 (x + 171) 1 = R.1.2.2.1) ∧ (∀ k, k ≠ 2 → h'.1 x k = h.1 x k) ∧ (¬ R.1.2.1 = 0 → r = some (vI (R.1.2.1 - 10)) ∧ rpZ Z x h') ∧ (R.1.2.1 = 0 → r = some (vI (nI (dP R.2))) ∧ rpZ ((R.2, eZ, gZ), Z.2.1, 0, Z.2.2.2.1, Z.2.2.2.2.1, Z.2.2.2.2.2) x h')
def ca_X10_text : (zQ × (Nat → zQ) × Nat × Nat × Nat × (Nat → Nat) × Nat × Int32 × Nat × (Nat → Int32) × Int32) → List zV := fun (Q, Hs, c, p, k0, π, x, n, tl, T, m) => [vR 19 0 x, vI n]
def cp_X10_text : (zQ × (Nat → zQ) × Nat × Nat × Nat × (Nat → Nat) × Nat × Int32 × Nat × (Nat → Int32) × Int32) → zH → Prop := fun (Q, Hs, c, p, k0, π, x, n, tl, T, m) h => rpZ (Q, Hs, c, p, k0, π) x h ∧ (h.1 (x + 171) 4 = nI tl ∧ tl ≤ 400) ∧ h.1 (x + 179) = T ∧ h.1 (x + 171) 7 = m
def cq_X10_text : (zQ × (Nat → zQ) × Nat × Nat × Nat × (Nat → Nat) × Nat × Int32 × Nat × (Nat → Int32) × Int32) → zH → Option zV → zH → Prop := fun (Q, Hs, c, p, k0, π, x, n, tl, T, m) h r h' => gR n 0 (nI tl) ∧ txP (Q, Hs, c, p, k0, π) x (rdT T (cN n) m) h r h'
def cx_X10_text : (zQ × (Nat → zQ) × Nat × Nat × Nat × (Nat → Nat) × Nat × Int32 × Nat × (Nat → Int32) × Int32) → zH → String → zH → Prop := fun (Q, Hs, c, p, k0, π, x, n, tl, T, m) h E h' => ¬ gR n 0 (nI tl) ∧ xIA x h E h'
theorem rc_X10_text : ∀ x : (zQ × (Nat → zQ) × Nat × Nat × Nat × (Nat → Nat) × Nat × Int32 × Nat × (Nat → Int32) × Int32), ∃ (j a : Nat) (As : List zV), ca_X10_text x = vR (10 + 9) j a :: As := by
  rintro ⟨Q, Hs, c, p, k0, π, x, n, tl, T, m⟩
  exact ⟨_, _, _, rfl⟩
set_option maxHeartbeats 4000000 in
set_option maxRecDepth 100000 in
theorem m_X10_text : zMx yX10_text cX10_text 3 (some .int) ({ frames := 8, cells := 1, slots := 6, locals := 151 } : Room) ((ca_X10_text, cp_X10_text, cq_X10_text) : zC (zQ × (Nat → zQ) × Nat × Nat × Nat × (Nat → Nat) × Nat × Int32 × Nat × (Nat → Int32) × Int32)) cx_X10_text := by
  refine zMx_of (by decide) ?_
  rintro X Y ⟨Q, Hs, c, p, k0, π, x, n, tl, T, m⟩ h ⟨hZ, ⟨htl, h4⟩, hT, hm⟩ O Ex hR
  have E := zEx_E Ex
  have B_31 := zr_aload_n (X := X) (Y := Y) (u := 1) (v := 6) O dX10_text_31 rfl (zr_gR (ci := 9) (j := 0) (off := 0) (t := 16) (n := 0) O zc_9 (by decide) rfl tw_287 dX10_text_32 (zr_gS (ci := 6) (j := 0) (off := 1) (t := 15) (n := 0) O zc_6 (by decide) rfl tw_172 dX10_text_35 (zr_aload_n O dX10_text_38 rfl (zr_gS (ci := 9) (j := 4) (off := 171) (t := 17) (n := 0) O zc_9 (by decide) rfl tw_291 dX10_text_39 (zr_gS (ci := 7) (j := 0) (off := 1) (t := 15) (n := 0) O zc_7 (by decide) rfl tw_195 dX10_text_42 (zr_cV (ci := 5) (n := 1) O m_X6_copyFrom (bn_X6_copyFrom _ ⟨rfl, rfl⟩) vw_X6_copyFrom tw_661 rc_X6_copyFrom (zrx hR rfl rfl rfl rfl) dX10_text_45 (zr_aload_n O dX10_text_48 rfl (zr_gR (ci := 9) (j := 0) (off := 0) (t := 16) (n := 0) O zc_9 (by decide) rfl tw_287 dX10_text_49 (zr_gS (ci := 6) (j := 1) (off := 8) (t := 10) (n := 0) O zc_6 (by decide) rfl tw_175 dX10_text_52 (zr_cV (ci := 0) (n := 0) O m_X1_clear (bn_X1_clear _ ⟨rfl, rfl⟩) vw_X1_clear tw_666 rc_X1_clear (zrx hR rfl rfl rfl rfl) dX10_text_55 (zr_aload_n O dX10_text_58 rfl (zr_gR (ci := 9) (j := 0) (off := 0) (t := 16) (n := 0) O zc_9 (by decide) rfl tw_287 dX10_text_59 (zr_gS (ci := 6) (j := 2) (off := 10) (t := 12) (n := 0) O zc_6 (by decide) rfl tw_177 dX10_text_62 (zr_cV (ci := 2) (n := 0) O m_X3_clear (bn_X3_clear _ ⟨rfl, rfl⟩) vw_X3_clear tw_670 rc_X3_clear (zrx hR rfl rfl rfl rfl) dX10_text_65 (zr_aload_n O dX10_text_68 rfl (zr_iconst (x := 0) O dX10_text_69 rfl (zr_pI (ci := 9) (j := 2) O zc_9 (by decide) rfl rfl rfl tw_289 dX10_text_70 (zr_aload_n O dX10_text_73 rfl (zr_gR (ci := 9) (j := 0) (off := 0) (t := 16) (n := 0) O zc_9 (by decide) rfl tw_287 dX10_text_74 (zr_gS (ci := 6) (j := 0) (off := 1) (t := 15) (n := 0) O zc_6 (by decide) rfl tw_172 dX10_text_77 (zr_gI (ci := 5) (j := 4) O zc_5 (by decide) rfl tw_55 dX10_text_80 (zr_ireturn O E (Nat.le_of_ble_eq_true rfl) (Nat.le_of_ble_eq_true rfl) dX10_text_83))))))))))))))))))))))
  have B_0 := zr_aload_n (X := X) (Y := Y) (u := 0) (v := 0) O dX10_text_0 rfl (zr_iload_n O dX10_text_1 rfl (zr_iconst (x := 0) O dX10_text_2 rfl (zr_aload_n O dX10_text_3 rfl (zr_gS (ci := 9) (j := 4) (off := 171) (t := 17) (n := 0) O zc_9 (by decide) rfl tw_291 dX10_text_4 (zr_gI (ci := 7) (j := 4) O zc_7 (by decide) rfl tw_200 dX10_text_7 (zr_xV (u' := 1) (v' := 6) (ci := 9) (n := 3) O Ex m_X10_needBetween (bn_X10_needBetween { frames := 0, cells := 0, slots := 0, locals := 0 } ⟨rfl, rfl⟩) vw_X10_needBetween tw_457 rc_X10_needBetween (zrx hR rfl rfl rfl rfl) (Nat.le_of_ble_eq_true rfl) (Nat.le_of_ble_eq_true rfl) (Nat.le_of_ble_eq_true rfl) (Nat.le_of_ble_eq_true rfl) dX10_text_10 (zr_aload_n O dX10_text_13 rfl (zr_gS (ci := 9) (j := 4) (off := 171) (t := 17) (n := 0) O zc_9 (by decide) rfl tw_291 dX10_text_14 (zr_iload_n O dX10_text_17 rfl (zr_cV (ci := 7) (n := 1) O m_X8_read (bn_X8_read _ ⟨rfl, rfl⟩) vw_X8_read tw_533 rc_X8_read (zrx hR rfl rfl rfl rfl) dX10_text_18 (zr_istore_n O dX10_text_21 rfl (zr_iload_n O dX10_text_22 rfl (zr_ifeq (tgt := 31) O dX10_text_23 rfl B_31 (zr_iload_n O dX10_text_26 rfl (zr_bipush (x := (10)) O dX10_text_27 (by decide) (zr_isub O dX10_text_29 (zr_ireturn O E (Nat.le_of_ble_eq_true rfl) (Nat.le_of_ble_eq_true rfl) dX10_text_30)))))))))))))))))
  refine ⟨rfl, Nat.le_of_ble_eq_true rfl, _, B_0, ?_⟩
  have hZ : rpZ (Q, Hs, c, p, k0, π) x h := hZ
  have htl : h.1 (x + 171) 4 = nI tl := htl
  have h4 : tl ≤ 400 := h4
  have hT : h.1 (x + 171 + 8) = T := hT
  have hm : h.1 (x + 171) 7 = m := hm
  have hk0 : k0 < 13 := hZ.1.2
  have hin := stA_in x hk0
  refine ⟨(x, n, 0, nI tl), by rw [htl]; rfl, trivial, fun E h' hd => hd, fun r h1 hq => ?_⟩
  obtain ⟨rfl, eh, g0⟩ := hq
  obtain rfl := eh.symm
  have g0 : gR n 0 (nI tl) := g0
  obtain ⟨q, rfl, hq, eq⟩ := rngx (by omega) g0
  refine ⟨(x + 171, q, tl, T, m), rfl, ⟨htl, ⟨hq, h4⟩, hT, hm⟩, fun r h2 hq2 => ?_⟩
  replace hq2 : r = some (vI (rdT T q m).1.2.1) ∧ rpR T q (rdT T q m).1 h2 (x + 171) ∧ sm (x + 171) 8 h h2 ∧ ((rdT T q m).1.2.1 = 0 → rpS (rdT T q m).2 h2 (x + 171 + 1)) := hq2
  have goal : ∀ (r : Option zV) (h' : zH), txP (Q, Hs, c, p, k0, π) x (rdT T q m) h r h' → gR (nI q) 0 (nI tl) ∧ txP (Q, Hs, c, p, k0, π) x (rdT T (cN (nI q)) m) h r h' := fun r h' z => ⟨g0, by rw [eq]; exact z⟩
  generalize eR : rdT T q m = R at hq2 goal
  obtain ⟨rfl, w2, s2, w3⟩ := hq2
  have Z2 := rpZ_sm hZ s2 (Nat.le_refl _)
  have n2 : h2.2.2 x 0 = stA x k0 := (rpZ_N Z2).2
  have ex : h2.1 x = h.1 x := s2.1 x (by omega)
  refine ⟨fun cq => ?_, fun cq => ?_⟩
  · have cq : R.1.2.1 = 0 := cq
    refine ⟨(R.2, stA x k0 + 1, x + 171 + 1), by rw [n2]; rfl, ⟨w3 cq, by show stA x k0 + 1 + 7 ≤ x + 171 + 1 ∨ _; omega⟩, fun r h3 hq3 => ?_⟩
    obtain ⟨rfl, s3, a3⟩ := hq3
    replace s3 : sm (stA x k0 + 1) 7 h2 h3 := s3
    replace a3 : rpS R.2 h3 (stA x k0 + 1) := a3
    have n3 : h3.2.2 x 0 = stA x k0 := by rw [s3.2]; exact n2
    refine ⟨stA x k0 + 8, by rw [n3]; rfl, trivial, fun r h4 hq4 => ?_⟩
    obtain ⟨rfl, s4, a4⟩ := hq4
    replace s4 : sm (stA x k0 + 8) 2 h3 h4 := s4
    replace a4 : rpE eZ h4 (stA x k0 + 8) := a4
    have n4 : h4.2.2 x 0 = stA x k0 := by rw [s4.2]; exact n3
    refine ⟨stA x k0 + 10, by rw [n4]; rfl, trivial, fun r h5 hq5 => ?_⟩
    obtain ⟨rfl, s5, a5⟩ := hq5
    replace s5 : sm (stA x k0 + 10) 3 h4 h5 := s5
    replace a5 : rpL gZ h5 (stA x k0 + 10) := a5
    have s35 : sm (stA x k0 + 1) 12 h2 h5 := sm_tr (sm_mo s3 (by omega) (by omega)) (sm_tr (sm_mo s4 (by omega) (by omega)) (sm_mo s5 (by omega) (by omega)))
    have Z5 : rpZ ((R.2, eZ, gZ), Hs, c, p, k0, π) x h5 := rpZ_upd Z2 s35 ⟨rpS_sm s5 (by omega) (rpS_sm s4 (by omega) a3), rpE_sm s5 (by omega) a4, a5⟩
    have Z6 := rpZ_zero Z5
    obtain ⟨hN6, n6⟩ := rpZ_N Z6
    have ex5 : h5.1 x = h.1 x := by rw [s35.1 x (by omega)]; exact ex
    have er5 : h5.1 (x + 171) = h2.1 (x + 171) := s35.1 _ (by omega)
    refine goal _ _ ⟨?_, ⟨?_, ?_⟩, fun k hk => ?_, fun z => absurd cq z, fun _ => ⟨zri hN6.1.1.2.1.1, Z6⟩⟩
    · exact sm_tr (sm_mo s2 (by omega) (by omega)) (sm_tr (sm_mo s35 (by omega) (by omega)) (sm_I _ _ (by omega) (by omega)))
    · rw [zsI_W, zsW_n _ _ (by omega : x + 171 ≠ x), er5]; exact w2.2.2.2.1.2
    · rw [zsI_W, zsW_n _ _ (by omega : x + 171 ≠ x), er5]; exact w2.2.2.2.1.1
    · rw [zsI_W, zsW_s, zup_n _ _ hk, ex5]
  · have cq : ¬ R.1.2.1 = 0 := cq
    exact goal _ _ ⟨sm_mo s2 (by omega) (by omega), ⟨w2.2.2.2.1.2, w2.2.2.2.1.1⟩, fun k _ => by rw [ex], fun _ => ⟨rfl, Z2⟩, fun z => absurd z cq⟩

