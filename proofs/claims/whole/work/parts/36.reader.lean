theorem dX8_readRepeat_24 : decode cX8_readRepeat 24 = .ok (.aload_n 0, 1) := by decide +kernel
theorem dX8_readRepeat_25 : decode cX8_readRepeat 25 = .ok (.getfield 12, 3) := by decide +kernel
theorem dX8_readRepeat_28 : decode cX8_readRepeat 28 = .ok (.getfield 73, 3) := by decide +kernel
theorem dX8_readRepeat_31 : decode cX8_readRepeat 31 = .ok (.iconst 4, 1) := by decide +kernel
theorem dX8_readRepeat_32 : decode cX8_readRepeat 32 = .ok (.iload_n 1, 1) := by decide +kernel
theorem dX8_readRepeat_33 : decode cX8_readRepeat 33 = .ok (.iastore, 1) := by decide +kernel
theorem dX8_readRepeat_34 : decode cX8_readRepeat 34 = .ok (.return_, 1) := by decide +kernel
theorem dX8_readRepeat_0 : decode cX8_readRepeat 0 = .ok (.aload_n 0, 1) := by decide +kernel
theorem dX8_readRepeat_1 : decode cX8_readRepeat 1 = .ok (.iconst 1, 1) := by decide +kernel
theorem dX8_readRepeat_2 : decode cX8_readRepeat 2 = .ok (.bipush 7, 2) := by decide +kernel
theorem dX8_readRepeat_4 : decode cX8_readRepeat 4 = .ok (.invokevirtual 76, 3) := by decide +kernel
theorem dX8_readRepeat_7 : decode cX8_readRepeat 7 = .ok (.istore_n 1, 1) := by decide +kernel
theorem dX8_readRepeat_8 : decode cX8_readRepeat 8 = .ok (.iload_n 1, 1) := by decide +kernel
theorem dX8_readRepeat_9 : decode cX8_readRepeat 9 = .ok (.invokestatic 126, 3) := by decide +kernel
theorem dX8_readRepeat_12 : decode cX8_readRepeat 12 = .ok (.ifCond .ne 12, 3) := by decide +kernel
theorem dX8_readRepeat_15 : decode cX8_readRepeat 15 = .ok (.aload_n 0, 1) := by decide +kernel
theorem dX8_readRepeat_16 : decode cX8_readRepeat 16 = .ok (.iconst 2, 1) := by decide +kernel
theorem dX8_readRepeat_17 : decode cX8_readRepeat 17 = .ok (.aload_n 0, 1) := by decide +kernel
theorem dX8_readRepeat_18 : decode cX8_readRepeat 18 = .ok (.getfield 116, 3) := by decide +kernel
theorem dX8_readRepeat_21 : decode cX8_readRepeat 21 = .ok (.invokevirtual 93, 3) := by decide +kernel
/-! the line 'repeat' -/
theorem rpR_fr {T : Nat → Int32} {n : Nat} {U : zU} {h : zH} {r q : Nat} {f : Nat → Int32} (h1 : q ≠ r) (h2 : q ≠ r + 8) (hU : rpR T n U h r) : rpR T n U (zsW h q f) r := by
  unfold rpR at hU ⊢
  rw [zsW_n _ _ (fun z => h1 z.symm), zsW_n _ _ (fun z => h2 z.symm)]
  exact hU
def isR (v : Int32) : Bool := decide (v = 1 ∨ v = 3 ∨ v = 5 ∨ v = 7)
def uRp (T : Nat → Int32) (n : Nat) (U : zU) : zU := if isR (uNv T n U) then uNm T n U 1 7 else uF (uNm T n U 1 7) 2 (uNm T n U 1 7).2.2.2
def ca_X8_readRepeat : ((Nat → Int32) × Nat × zU × Nat) → List zV := fun (T, n, U, r) => [vR 17 0 r]
def cp_X8_readRepeat : ((Nat → Int32) × Nat × zU × Nat) → zH → Prop := fun (T, n, U, r) h => rpR T n U h r
def cq_X8_readRepeat : ((Nat → Int32) × Nat × zU × Nat) → zH → Option zV → zH → Prop := fun (T, n, U, r) h o h' => o = none ∧ rpR T n (uRp T n U) h' r ∧ h'.1 (r + 7) = va_up (h.1 (r + 7)) 4 (uNv T n U) ∧ (∀ q, q ≠ r → q ≠ r + 7 → h'.1 q = h.1 q) ∧ h'.2 = h.2
theorem rc_X8_readRepeat : ∀ x : ((Nat → Int32) × Nat × zU × Nat), ∃ (j a : Nat) (As : List zV), ca_X8_readRepeat x = vR (10 + 7) j a :: As := by
  rintro ⟨T, n, U, r⟩
  exact ⟨_, _, _, rfl⟩
set_option maxHeartbeats 4000000 in
set_option maxRecDepth 100000 in
theorem m_X8_readRepeat : zM yX8_readRepeat cX8_readRepeat 2 none ({ frames := 3, cells := 0, slots := 0, locals := 68 } : Room) ((ca_X8_readRepeat, cp_X8_readRepeat, cq_X8_readRepeat) : zC ((Nat → Int32) × Nat × zU × Nat)) := by
  refine zM_of (by decide) ?_
  rintro X Y ⟨T, n, U, r⟩ h hU O E hR
  have B_24 := zr_aload_n (X := X) (Y := Y) (u := 0) (v := 0) O dX8_readRepeat_24 rfl (zr_gS (ci := 7) (j := 0) (off := 1) (t := 15) (n := 0) O zc_7 (by decide) rfl tw_194 dX8_readRepeat_25 (zr_gS (ci := 5) (j := 7) (off := 6) (t := 1) (n := 5) O zc_5 (by decide) rfl tw_76 dX8_readRepeat_28 (zr_iconst (x := 4) O dX8_readRepeat_31 rfl (zr_iload_n O dX8_readRepeat_32 rfl (zr_iast O dX8_readRepeat_33 (zr_return O E (Nat.le_refl _) (Nat.le_refl _) dX8_readRepeat_34))))))
  have B_0 := zr_aload_n (X := X) (Y := Y) (u := 0) (v := 0) O dX8_readRepeat_0 rfl (zr_iconst (x := 1) O dX8_readRepeat_1 rfl (zr_bipush (x := (7)) O dX8_readRepeat_2 (by decide) (zr_cV (ci := 7) (n := 2) O m_X8_readNumber (bn_X8_readNumber _ ⟨rfl, rfl⟩) vw_X8_readNumber tw_611 rc_X8_readNumber (zrm hR rfl rfl) dX8_readRepeat_4 (zr_istore_n O dX8_readRepeat_7 rfl (zr_iload_n O dX8_readRepeat_8 rfl (zr_cI (zr_cS (n := 1) O m_X0_isRepeat (bn_X0_isRepeat _ ⟨rfl, rfl⟩) tw_654 tw_653 (zrm hR rfl rfl) dX8_readRepeat_9 (zr_ifne (tgt := 24) O dX8_readRepeat_12 rfl B_24 (zr_aload_n O dX8_readRepeat_15 rfl (zr_iconst (x := 2) O dX8_readRepeat_16 rfl (zr_aload_n O dX8_readRepeat_17 rfl (zr_gI (ci := 7) (j := 7) O zc_7 (by decide) rfl tw_204 dX8_readRepeat_18 (zr_cVv (zr_cV (ci := 7) (n := 2) O m_X8_fail (bn_X8_fail _ ⟨rfl, rfl⟩) vw_X8_fail tw_607 rc_X8_fail (zrm hR rfl rfl) dX8_readRepeat_21 (B_24)))))))))))))))
  refine ⟨rfl, Nat.le_of_ble_eq_true rfl, _, B_0, ?_⟩
  have hU : rpR T n U h r := hU
  refine ⟨(T, n, U, r, 1, 7), rfl, hU, fun r1 h1 hq => ?_⟩
  obtain ⟨rfl, s1, w1⟩ := hq
  have s1 : sm r 1 h h1 := s1
  have w1 : rpR T n (uNm T n U 1 7) h1 r := w1
  have fin : ∀ (V : zU) (h2 : zH), V = uRp T n U → rpR T n V h2 r → sm r 1 h h2 → rpR T n (uRp T n U) (zsI h2 (r + 7) 4 (uNv T n U)) r ∧ (zsI h2 (r + 7) 4 (uNv T n U)).1 (r + 7) = va_up (h.1 (r + 7)) 4 (uNv T n U) ∧ (∀ q, q ≠ r → q ≠ r + 7 → (zsI h2 (r + 7) 4 (uNv T n U)).1 q = h.1 q) ∧ (zsI h2 (r + 7) 4 (uNv T n U)).2 = h.2 := by
    intro V h2 eV hV s2
    rw [eV] at hV
    refine ⟨rpR_fr (by omega) (by omega) hV, ?_, fun q q1 q2 => ?_, s2.2⟩
    · rw [zsI_W, zsW_s, s2.1 _ (by omega)]
    · rw [zsI_W, zsW_n _ _ q2, s2.1 _ (by omega)]
  have e7 : h1.1 r 7 = (uNm T n U 1 7).2.2.2 := w1.2.2.2.2.1
  have fl := rpR_F 2 ((uNm T n U 1 7).2.2.2) w1
  refine ⟨uNv T n U, rfl, trivial, fun cq => ⟨4, rfl, by decide, rfl, fin _ h1 ?_ w1 s1⟩, fun cq => ⟨(r, 2, (uNm T n U 1 7).2.2.2), by rw [e7]; rfl, trivial, 4, rfl, by decide, rfl, fin _ _ ?_ fl.1 (sm_tr s1 fl.2)⟩⟩
  · replace cq : ¬ (if uNv T n U = 1 ∨ uNv T n U = 3 ∨ uNv T n U = 5 ∨ uNv T n U = 7 then (1 : Int32) else 0) = 0 := cq
    have hz : isR (uNv T n U) = true := by
      apply decide_eq_true
      apply Classical.byContradiction
      intro z
      rw [if_neg z] at cq
      exact cq rfl
    rw [uRp, hz]
    rfl
  · replace cq : (if uNv T n U = 1 ∨ uNv T n U = 3 ∨ uNv T n U = 5 ∨ uNv T n U = 7 then (1 : Int32) else 0) = 0 := cq
    have hz : isR (uNv T n U) = false := by
      apply decide_eq_false
      intro z
      rw [if_pos z] at cq
      exact absurd cq (by decide)
    rw [uRp, hz]
    rfl

