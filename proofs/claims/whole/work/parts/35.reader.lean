theorem dX8_readEndOfLine_51 : decode cX8_readEndOfLine 51 = .ok (.return_, 1) := by decide +kernel
theorem dX8_readEndOfLine_42 : decode cX8_readEndOfLine 42 = .ok (.aload_n 0, 1) := by decide +kernel
theorem dX8_readEndOfLine_43 : decode cX8_readEndOfLine 43 = .ok (.iconst 1, 1) := by decide +kernel
theorem dX8_readEndOfLine_44 : decode cX8_readEndOfLine 44 = .ok (.aload_n 0, 1) := by decide +kernel
theorem dX8_readEndOfLine_45 : decode cX8_readEndOfLine 45 = .ok (.getfield 38, 3) := by decide +kernel
theorem dX8_readEndOfLine_48 : decode cX8_readEndOfLine 48 = .ok (.invokevirtual 93, 3) := by decide +kernel
theorem dX8_readEndOfLine_0 : decode cX8_readEndOfLine 0 = .ok (.aload_n 0, 1) := by decide +kernel
theorem dX8_readEndOfLine_1 : decode cX8_readEndOfLine 1 = .ok (.invokevirtual 47, 3) := by decide +kernel
theorem dX8_readEndOfLine_4 : decode cX8_readEndOfLine 4 = .ok (.aload_n 0, 1) := by decide +kernel
theorem dX8_readEndOfLine_5 : decode cX8_readEndOfLine 5 = .ok (.getfield 38, 3) := by decide +kernel
theorem dX8_readEndOfLine_8 : decode cX8_readEndOfLine 8 = .ok (.aload_n 0, 1) := by decide +kernel
theorem dX8_readEndOfLine_9 : decode cX8_readEndOfLine 9 = .ok (.getfield 35, 3) := by decide +kernel
theorem dX8_readEndOfLine_12 : decode cX8_readEndOfLine 12 = .ok (.if_icmp .ge 30, 3) := by decide +kernel
theorem dX8_readEndOfLine_15 : decode cX8_readEndOfLine 15 = .ok (.aload_n 0, 1) := by decide +kernel
theorem dX8_readEndOfLine_16 : decode cX8_readEndOfLine 16 = .ok (.getfield 22, 3) := by decide +kernel
theorem dX8_readEndOfLine_19 : decode cX8_readEndOfLine 19 = .ok (.aload_n 0, 1) := by decide +kernel
theorem dX8_readEndOfLine_20 : decode cX8_readEndOfLine 20 = .ok (.getfield 38, 3) := by decide +kernel
theorem dX8_readEndOfLine_23 : decode cX8_readEndOfLine 23 = .ok (.iaload, 1) := by decide +kernel
theorem dX8_readEndOfLine_24 : decode cX8_readEndOfLine 24 = .ok (.bipush 59, 2) := by decide +kernel
theorem dX8_readEndOfLine_26 : decode cX8_readEndOfLine 26 = .ok (.if_icmp .ne 16, 3) := by decide +kernel
theorem dX8_readEndOfLine_29 : decode cX8_readEndOfLine 29 = .ok (.aload_n 0, 1) := by decide +kernel
theorem dX8_readEndOfLine_30 : decode cX8_readEndOfLine 30 = .ok (.dup, 1) := by decide +kernel
theorem dX8_readEndOfLine_31 : decode cX8_readEndOfLine 31 = .ok (.getfield 38, 3) := by decide +kernel
theorem dX8_readEndOfLine_34 : decode cX8_readEndOfLine 34 = .ok (.iconst 1, 1) := by decide +kernel
theorem dX8_readEndOfLine_35 : decode cX8_readEndOfLine 35 = .ok (.iadd, 1) := by decide +kernel
theorem dX8_readEndOfLine_36 : decode cX8_readEndOfLine 36 = .ok (.putfield 38, 3) := by decide +kernel
theorem dX8_readEndOfLine_39 : decode cX8_readEndOfLine 39 = .ok (.goto 12, 3) := by decide +kernel
/-! the end of a line -/
def uEl (T : Nat → Int32) (n : Nat) (U : zU) : zU := if skp T n U.1 < n ∧ T (skp T n U.1) = 59 then (skp T n U.1 + 1, U.2) else uF (skp T n U.1, U.2) 1 (nI (skp T n U.1))
def ca_X8_readEndOfLine : ((Nat → Int32) × Nat × zU × Nat) → List zV := fun (T, n, U, r) => [vR 17 0 r]
def cp_X8_readEndOfLine : ((Nat → Int32) × Nat × zU × Nat) → zH → Prop := fun (T, n, U, r) h => rpR T n U h r
def cq_X8_readEndOfLine : ((Nat → Int32) × Nat × zU × Nat) → zH → Option zV → zH → Prop := fun (T, n, U, r) h o h' => o = none ∧ sm r 1 h h' ∧ rpR T n (uEl T n U) h' r
theorem rc_X8_readEndOfLine : ∀ x : ((Nat → Int32) × Nat × zU × Nat), ∃ (j a : Nat) (As : List zV), ca_X8_readEndOfLine x = vR (10 + 7) j a :: As := by
  rintro ⟨T, n, U, r⟩
  exact ⟨_, _, _, rfl⟩
set_option maxHeartbeats 4000000 in
set_option maxRecDepth 100000 in
theorem m_X8_readEndOfLine : zM yX8_readEndOfLine cX8_readEndOfLine 1 none ({ frames := 1, cells := 0, slots := 0, locals := 22 } : Room) ((ca_X8_readEndOfLine, cp_X8_readEndOfLine, cq_X8_readEndOfLine) : zC ((Nat → Int32) × Nat × zU × Nat)) := by
  refine zM_of (by decide) ?_
  rintro X Y ⟨T, n, U, r⟩ h hU O E hR
  have B_51 := zr_return (X := X) (Y := Y) (u := 0) (v := 0) O E (Nat.le_refl _) (Nat.le_refl _) dX8_readEndOfLine_51
  have B_42 := zr_aload_n (X := X) (Y := Y) (u := 0) (v := 0) O dX8_readEndOfLine_42 rfl (zr_iconst (x := 1) O dX8_readEndOfLine_43 rfl (zr_aload_n O dX8_readEndOfLine_44 rfl (zr_gI (ci := 7) (j := 6) O zc_7 (by decide) rfl tw_203 dX8_readEndOfLine_45 (zr_cVv (zr_cV (ci := 7) (n := 2) O m_X8_fail (bn_X8_fail _ ⟨rfl, rfl⟩) vw_X8_fail tw_607 rc_X8_fail (zrm hR rfl rfl) dX8_readEndOfLine_48 (B_51))))))
  have B_0 := zr_aload_n (X := X) (Y := Y) (u := 0) (v := 0) O dX8_readEndOfLine_0 rfl (zr_cVv (zr_cV (ci := 7) (n := 0) O m_X8_skipBlanks (bn_X8_skipBlanks _ ⟨rfl, rfl⟩) vw_X8_skipBlanks tw_542 rc_X8_skipBlanks (zrm hR rfl rfl) dX8_readEndOfLine_1 (zr_aload_n O dX8_readEndOfLine_4 rfl (zr_gI (ci := 7) (j := 6) O zc_7 (by decide) rfl tw_203 dX8_readEndOfLine_5 (zr_aload_n O dX8_readEndOfLine_8 rfl (zr_gI (ci := 7) (j := 5) O zc_7 (by decide) rfl tw_202 dX8_readEndOfLine_9 (zr_icge (tgt := 42) O dX8_readEndOfLine_12 rfl B_42 (zr_aload_n O dX8_readEndOfLine_15 rfl (zr_gS (ci := 7) (j := 3) (off := 8) (t := 1) (n := 400) O zc_7 (by decide) rfl tw_199 dX8_readEndOfLine_16 (zr_aload_n O dX8_readEndOfLine_19 rfl (zr_gI (ci := 7) (j := 6) O zc_7 (by decide) rfl tw_203 dX8_readEndOfLine_20 (zr_iald O dX8_readEndOfLine_23 (zr_bipush (x := (59)) O dX8_readEndOfLine_24 (by decide) (zr_icne (tgt := 42) O dX8_readEndOfLine_26 rfl B_42 (zr_aload_n O dX8_readEndOfLine_29 rfl (zr_dup O dX8_readEndOfLine_30 (zr_gI (ci := 7) (j := 6) O zc_7 (by decide) rfl tw_203 dX8_readEndOfLine_31 (zr_iconst (x := 1) O dX8_readEndOfLine_34 rfl (zr_iadd O dX8_readEndOfLine_35 (zr_pI (ci := 7) (j := 6) O zc_7 (by decide) rfl rfl rfl tw_203 dX8_readEndOfLine_36 (zr_goto (tgt := 51) O dX8_readEndOfLine_39 rfl B_51)))))))))))))))))))))
  refine ⟨rfl, Nat.le_of_ble_eq_true rfl, _, B_0, ?_⟩
  have hU : rpR T n U h r := hU
  have h4 := hU.1.2
  obtain ⟨e1, s1, z1⟩ := rpR_sk hU
  have hle := (skp_le T hU.2.1.2).2
  have e6 : (zsI h r 6 (nI (skp T n U.1))).1 r 6 = nI (skp T n U.1) := s1.2.1.1
  have e5 : (zsI h r 6 (nI (skp T n U.1))).1 r 5 = nI n := s1.1.1
  have e8 : (zsI h r 6 (nI (skp T n U.1))).1 (r + 8) = T := s1.2.2.2.2.2
  have fl := rpR_F 1 (nI (skp T n U.1)) s1
  refine ⟨(r, n, U.1), rfl, ⟨hU.1, hU.2.1⟩, ?_⟩
  rw [e1]
  refine ⟨fun cq => ⟨(r, 1, nI (skp T n U.1)), by rw [e6]; rfl, trivial, rfl, sm_tr z1 fl.2, ?_⟩, fun cq => ⟨skp T n U.1, e6, ?_, fun dq => ⟨(r, 1, nI (skp T n U.1)), by rw [e6]; rfl, trivial, rfl, sm_tr z1 fl.2, ?_⟩, fun dq => ⟨rfl, ?_, ?_⟩⟩⟩
  · rw [e5, e6] at cq
    have hge := (nI_leI (by omega) (by omega)).mp cq
    rw [uEl, if_neg (fun z => by omega)]
    exact fl.1
  · rw [e5, e6] at cq
    have : ¬ n ≤ skp T n U.1 := fun z => cq ((nI_leI (by omega) (by omega)).mpr z)
    omega
  · rw [e8] at dq
    rw [uEl, if_neg (fun z => dq z.2)]
    exact fl.1
  · rw [e5, e6] at cq
    have hlt : ¬ n ≤ skp T n U.1 := fun z => cq ((nI_leI (by omega) (by omega)).mpr z)
    rw [e6, nI_1]
    exact sm_tr z1 (sm_I _ _ (by omega) (by omega))
  · rw [e5, e6] at cq
    have hlt : ¬ n ≤ skp T n U.1 := fun z => cq ((nI_leI (by omega) (by omega)).mpr z)
    rw [e8] at dq
    rw [uEl, if_pos ⟨by omega, dq⟩, e6, nI_1]
    exact (rpR_6 (p := skp T n U.1 + 1) (by omega) s1).1

