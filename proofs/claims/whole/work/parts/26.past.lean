theorem dX10_remember_0 : decode cX10_remember 0 = .ok (.aload_n 0, 1) := by decide +kernel
theorem dX10_remember_1 : decode cX10_remember 1 = .ok (.getfield 16, 3) := by decide +kernel
theorem dX10_remember_4 : decode cX10_remember 4 = .ok (.aload_n 0, 1) := by decide +kernel
theorem dX10_remember_5 : decode cX10_remember 5 = .ok (.getfield 184, 3) := by decide +kernel
theorem dX10_remember_8 : decode cX10_remember 8 = .ok (.aaload, 1) := by decide +kernel
theorem dX10_remember_9 : decode cX10_remember 9 = .ok (.aload_n 0, 1) := by decide +kernel
theorem dX10_remember_10 : decode cX10_remember 10 = .ok (.getfield 10, 3) := by decide +kernel
theorem dX10_remember_13 : decode cX10_remember 13 = .ok (.invokevirtual 386, 3) := by decide +kernel
theorem dX10_remember_16 : decode cX10_remember 16 = .ok (.aload_n 0, 1) := by decide +kernel
theorem dX10_remember_17 : decode cX10_remember 17 = .ok (.aload_n 0, 1) := by decide +kernel
theorem dX10_remember_18 : decode cX10_remember 18 = .ok (.getfield 184, 3) := by decide +kernel
theorem dX10_remember_21 : decode cX10_remember 21 = .ok (.iconst 1, 1) := by decide +kernel
theorem dX10_remember_22 : decode cX10_remember 22 = .ok (.iadd, 1) := by decide +kernel
theorem dX10_remember_23 : decode cX10_remember 23 = .ok (.bipush 12, 2) := by decide +kernel
theorem dX10_remember_25 : decode cX10_remember 25 = .ok (.irem, 1) := by decide +kernel
theorem dX10_remember_26 : decode cX10_remember 26 = .ok (.putfield 184, 3) := by decide +kernel
theorem dX10_remember_29 : decode cX10_remember 29 = .ok (.aload_n 0, 1) := by decide +kernel
theorem dX10_remember_30 : decode cX10_remember 30 = .ok (.aload_n 0, 1) := by decide +kernel
theorem dX10_remember_31 : decode cX10_remember 31 = .ok (.getfield 111, 3) := by decide +kernel
theorem dX10_remember_34 : decode cX10_remember 34 = .ok (.iconst 1, 1) := by decide +kernel
theorem dX10_remember_35 : decode cX10_remember 35 = .ok (.iadd, 1) := by decide +kernel
theorem dX10_remember_36 : decode cX10_remember 36 = .ok (.bipush 12, 2) := by decide +kernel
theorem dX10_remember_38 : decode cX10_remember 38 = .ok (.invokestatic 249, 3) := by decide +kernel
theorem dX10_remember_41 : decode cX10_remember 41 = .ok (.putfield 111, 3) := by decide +kernel
theorem dX10_remember_44 : decode cX10_remember 44 = .ok (.return_, 1) := by decide +kernel
/-! the past: thirteen states, now and twelve kept, in turn -/
def stA (x k : Nat) : Nat := if k = 0 then x + 1 else x + 15 + 13 * (k - 1)
theorem stA_in (x : Nat) {k : Nat} (hk : k < 13) : x < stA x k ∧ stA x k + 13 ≤ x + 171 := by
  unfold stA
  split <;> omega
theorem stA_d (x : Nat) {k q : Nat} (hkq : k ≠ q) : stA x k + 13 ≤ stA x q ∨ stA x q + 13 ≤ stA x k := by
  unfold stA
  split <;> split <;> omega
abbrev zP : Type := zQ × (Nat → zQ) × Nat × Nat × Nat × (Nat → Nat)
def rpZ (Z : zP) (x : Nat) (h : zH) : Prop := match Z with
  | (Q, Hs, c, p, k0, π) => (h.2.2 x 0 = stA x k0 ∧ k0 < 13) ∧ (∀ j, j < 12 → h.2.2 (x + 14) j = stA x (π j) ∧ π j < 13 ∧ π j ≠ k0) ∧ (∀ i j, i < 12 → j < 12 → π i = π j → i = j) ∧ (h.1 x 2 = nI c ∧ c ≤ 12) ∧ (h.1 x 3 = nI p ∧ p < 12) ∧ rpQ Q h (stA x k0) ∧ ∀ i, i < c → rpQ (Hs i) h (stA x (π ((p + 11 - i) % 12)))
theorem rm12 : ∀ p, p < 12 → nI p + 1 - (nI p + 1) / 12 * 12 = nI ((p + 1) % 12) := by decide +kernel
theorem mn12 : ∀ c, c ≤ 12 → (if (12 : Int32) < nI c + 1 then 12 else nI c + 1) = nI (min (c + 1) 12) := by decide +kernel
def hcn (Q : zQ) (Hs : Nat → zQ) : Nat → zQ
  | 0 => Q
  | i + 1 => Hs i
def ca_X10_remember : (zQ × (Nat → zQ) × Nat × Nat × Nat × (Nat → Nat) × Nat) → List zV := fun (Q, Hs, c, p, k0, π, x) => [vR 19 0 x]
def cp_X10_remember : (zQ × (Nat → zQ) × Nat × Nat × Nat × (Nat → Nat) × Nat) → zH → Prop := fun (Q, Hs, c, p, k0, π, x) h => rpZ (Q, Hs, c, p, k0, π) x h
def cq_X10_remember : (zQ × (Nat → zQ) × Nat × Nat × Nat × (Nat → Nat) × Nat) → zH → Option zV → zH → Prop := fun (Q, Hs, c, p, k0, π, x) h r h' => r = none ∧ sm x 171 h h' ∧ (∀ k, k ≠ 2 → k ≠ 3 → h'.1 x k = h.1 x k) ∧ rpZ (Q, hcn Q Hs, min (c + 1) 12, (p + 1) % 12, k0, π) x h'
theorem rc_X10_remember : ∀ x : (zQ × (Nat → zQ) × Nat × Nat × Nat × (Nat → Nat) × Nat), ∃ (j a : Nat) (As : List zV), ca_X10_remember x = vR (10 + 9) j a :: As := by
  rintro ⟨Q, Hs, c, p, k0, π, x⟩
  exact ⟨_, _, _, rfl⟩
set_option maxHeartbeats 4000000 in
set_option maxRecDepth 100000 in
theorem m_X10_remember : zM yX10_remember cX10_remember 1 none ({ frames := 3, cells := 0, slots := 0, locals := 102 } : Room) ((ca_X10_remember, cp_X10_remember, cq_X10_remember) : zC (zQ × (Nat → zQ) × Nat × Nat × Nat × (Nat → Nat) × Nat)) := by
  refine zM_of (by decide) ?_
  rintro X Y ⟨Q, Hs, c, p, k0, π, x⟩ h hZ O E hR
  have B_0 := zr_aload_n (X := X) (Y := Y) (u := 0) (v := 0) O dX10_remember_0 rfl (zr_gS (ci := 9) (j := 1) (off := 14) (t := 4) (n := 12) O zc_9 (by decide) rfl tw_288 dX10_remember_1 (zr_aload_n O dX10_remember_4 rfl (zr_gI (ci := 9) (j := 3) O zc_9 (by decide) rfl tw_290 dX10_remember_5 (zr_aald4 O dX10_remember_8 (zr_aload_n O dX10_remember_9 rfl (zr_gR (ci := 9) (j := 0) (off := 0) (t := 16) (n := 0) O zc_9 (by decide) rfl tw_287 dX10_remember_10 (zr_cV (ci := 6) (n := 1) O m_X7_copyFrom (bn_X7_copyFrom _ ⟨rfl, rfl⟩) vw_X7_copyFrom tw_690 rc_X7_copyFrom (zrm hR rfl rfl) dX10_remember_13 (zr_aload_n O dX10_remember_16 rfl (zr_aload_n O dX10_remember_17 rfl (zr_gI (ci := 9) (j := 3) O zc_9 (by decide) rfl tw_290 dX10_remember_18 (zr_iconst (x := 1) O dX10_remember_21 rfl (zr_iadd O dX10_remember_22 (zr_bipush (x := (12)) O dX10_remember_23 (by decide) (zr_irem O dX10_remember_25 (zr_pI (ci := 9) (j := 3) O zc_9 (by decide) rfl rfl rfl tw_290 dX10_remember_26 (zr_aload_n O dX10_remember_29 rfl (zr_aload_n O dX10_remember_30 rfl (zr_gI (ci := 9) (j := 2) O zc_9 (by decide) rfl tw_289 dX10_remember_31 (zr_iconst (x := 1) O dX10_remember_34 rfl (zr_iadd O dX10_remember_35 (zr_bipush (x := (12)) O dX10_remember_36 (by decide) (zr_min O zwm tw_406 (zrm hR rfl rfl) dX10_remember_38 (zr_pI (ci := 9) (j := 2) O zc_9 (by decide) rfl rfl rfl tw_289 dX10_remember_41 (zr_return O E (Nat.le_refl _) (Nat.le_refl _) dX10_remember_44))))))))))))))))))))))))
  refine ⟨rfl, Nat.le_of_ble_eq_true rfl, _, B_0, ?_⟩
  obtain ⟨⟨n1, n2⟩, t1, t2, ⟨c1, c2⟩, ⟨p1, p2⟩, q1, q2⟩ := hZ
  obtain ⟨u1, u2, u3⟩ := t1 p p2
  refine ⟨p, p1, p2, (Q, stA x (π p), stA x k0), by rw [u1, n1]; rfl, ⟨q1, stA_d x u3⟩, fun r h1 hq => ?_⟩
  obtain ⟨rfl, s1, w1⟩ := hq
  have s1 : sm (stA x (π p) + 1) 12 h h1 := s1
  have w1 : rpQ Q h1 (stA x (π p)) := w1
  have b1 := stA_in x u2
  have b2 := stA_in x n2
  have ex : h1.1 x = h.1 x := s1.1 x (by omega)
  have e3 : h1.1 x 3 = nI p := by rw [ex]; exact p1
  have e2 : h1.1 x 2 = nI c := by rw [ex]; exact c1
  have v3 := rm12 p p2
  have v2 := mn12 c c2
  have eH : zsI (zsI h1 x 3 (h1.1 x 3 + 1 - (h1.1 x 3 + 1) / 12 * 12)) x 2 (if 12 < (zsI h1 x 3 (h1.1 x 3 + 1 - (h1.1 x 3 + 1) / 12 * 12)).1 x 2 + 1 then 12 else (zsI h1 x 3 (h1.1 x 3 + 1 - (h1.1 x 3 + 1) / 12 * 12)).1 x 2 + 1) = zsW h1 x (va_up (va_up (h.1 x) 3 (nI ((p + 1) % 12))) 2 (nI (min (c + 1) 12))) := by
    rw [e3, v3]
    simp only [zsI_W, zsW_s, zsW_W]
    rw [zup_n _ _ (by decide : (2 : Nat) ≠ 3), e2, v2, ex]
  have s2 : ∀ F : Nat → Int32, sm x 1 h1 (zsW h1 x F) := fun F => sm_W _ _ (by omega) (by omega)
  refine ⟨by decide, rfl, ?_, ?_, ?_⟩
  · rw [eH]
    exact sm_tr (sm_mo s1 (by omega) (by omega)) (sm_mo (s2 _) (by omega) (by omega))
  · intro k k2 k3
    rw [eH, zsW_s, zup_n _ _ k2, zup_n _ _ k3]
  · rw [eH]
    have er : h1.2.2 = h.2.2 := by rw [s1.2]
    refine ⟨⟨?_, n2⟩, fun j hj => ⟨?_, (t1 j hj).2⟩, t2, ⟨?_, by omega⟩, ⟨?_, by omega⟩, ?_, fun i hi => ?_⟩
    · show h1.2.2 x 0 = _
      rw [er]; exact n1
    · show h1.2.2 (x + 14) j = _
      rw [er]; exact (t1 j hj).1
    · rw [zsW_s, zup_s]
    · rw [zsW_s, zup_n _ _ (by decide : (3 : Nat) ≠ 2), zup_s]
    · have hdd := stA_d x u3
      exact rpQ_sm (s2 _) (by omega) (rpQ_sm s1 (by omega) q1)
    · cases i with
      | zero =>
        have em : ((p + 1) % 12 + 11 - 0) % 12 = p := by omega
        rw [em]
        exact rpQ_sm (s2 _) (by omega) w1
      | succ i =>
        have em : ((p + 1) % 12 + 11 - (i + 1)) % 12 = (p + 11 - i) % 12 := by omega
        rw [em]
        have hne : π ((p + 11 - i) % 12) ≠ π p := fun z => by
          have := t2 _ _ (by omega) p2 z
          omega
        have hdd := stA_d x hne
        have hin := stA_in x (t1 ((p + 11 - i) % 12) (by omega)).2.1
        exact rpQ_sm (s2 _) (by omega) (rpQ_sm s1 (by omega) (q2 i (by omega)))

