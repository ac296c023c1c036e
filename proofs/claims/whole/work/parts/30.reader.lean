theorem dX8_skipBlanks_38 : decode cX8_skipBlanks 38 = .ok (.return_, 1) := by decide +kernel
theorem dX8_skipBlanks_0 : decode cX8_skipBlanks 0 = .ok (.aload_n 0, 1) := by decide +kernel
theorem dX8_skipBlanks_1 : decode cX8_skipBlanks 1 = .ok (.getfield 38, 3) := by decide +kernel
theorem dX8_skipBlanks_4 : decode cX8_skipBlanks 4 = .ok (.aload_n 0, 1) := by decide +kernel
theorem dX8_skipBlanks_5 : decode cX8_skipBlanks 5 = .ok (.getfield 35, 3) := by decide +kernel
theorem dX8_skipBlanks_8 : decode cX8_skipBlanks 8 = .ok (.if_icmp .ge 30, 3) := by decide +kernel
theorem dX8_skipBlanks_11 : decode cX8_skipBlanks 11 = .ok (.aload_n 0, 1) := by decide +kernel
theorem dX8_skipBlanks_12 : decode cX8_skipBlanks 12 = .ok (.getfield 22, 3) := by decide +kernel
theorem dX8_skipBlanks_15 : decode cX8_skipBlanks 15 = .ok (.aload_n 0, 1) := by decide +kernel
theorem dX8_skipBlanks_16 : decode cX8_skipBlanks 16 = .ok (.getfield 38, 3) := by decide +kernel
theorem dX8_skipBlanks_19 : decode cX8_skipBlanks 19 = .ok (.iaload, 1) := by decide +kernel
theorem dX8_skipBlanks_20 : decode cX8_skipBlanks 20 = .ok (.bipush 32, 2) := by decide +kernel
theorem dX8_skipBlanks_22 : decode cX8_skipBlanks 22 = .ok (.if_icmp .ne 16, 3) := by decide +kernel
theorem dX8_skipBlanks_25 : decode cX8_skipBlanks 25 = .ok (.aload_n 0, 1) := by decide +kernel
theorem dX8_skipBlanks_26 : decode cX8_skipBlanks 26 = .ok (.dup, 1) := by decide +kernel
theorem dX8_skipBlanks_27 : decode cX8_skipBlanks 27 = .ok (.getfield 38, 3) := by decide +kernel
theorem dX8_skipBlanks_30 : decode cX8_skipBlanks 30 = .ok (.iconst 1, 1) := by decide +kernel
theorem dX8_skipBlanks_31 : decode cX8_skipBlanks 31 = .ok (.iadd, 1) := by decide +kernel
theorem dX8_skipBlanks_32 : decode cX8_skipBlanks 32 = .ok (.putfield 38, 3) := by decide +kernel
theorem dX8_skipBlanks_35 : decode cX8_skipBlanks 35 = .ok (.goto (-35), 3) := by decide +kernel
theorem dX8_needNumber_19 : decode cX8_needNumber 19 = .ok (.return_, 1) := by decide +kernel
theorem dX8_needNumber_10 : decode cX8_needNumber 10 = .ok (.aload_n 0, 1) := by decide +kernel
theorem dX8_needNumber_11 : decode cX8_needNumber 11 = .ok (.iconst 2, 1) := by decide +kernel
theorem dX8_needNumber_12 : decode cX8_needNumber 12 = .ok (.aload_n 0, 1) := by decide +kernel
theorem dX8_needNumber_13 : decode cX8_needNumber 13 = .ok (.getfield 116, 3) := by decide +kernel
theorem dX8_needNumber_16 : decode cX8_needNumber 16 = .ok (.invokevirtual 93, 3) := by decide +kernel
theorem dX8_needNumber_0 : decode cX8_needNumber 0 = .ok (.iload_n 1, 1) := by decide +kernel
theorem dX8_needNumber_1 : decode cX8_needNumber 1 = .ok (.iload_n 2, 1) := by decide +kernel
theorem dX8_needNumber_2 : decode cX8_needNumber 2 = .ok (.if_icmp .lt 8, 3) := by decide +kernel
theorem dX8_needNumber_5 : decode cX8_needNumber 5 = .ok (.iload_n 1, 1) := by decide +kernel
theorem dX8_needNumber_6 : decode cX8_needNumber 6 = .ok (.iload_n 3, 1) := by decide +kernel
theorem dX8_needNumber_7 : decode cX8_needNumber 7 = .ok (.if_icmp .le 12, 3) := by decide +kernel
/-! blanks and digits -/
def skp (T : Nat → Int32) (n p : Nat) : Nat := p + fa_first (fun i => !decide (T (p + i) = 32)) (n - p)
theorem skp_le (T : Nat → Int32) {n p : Nat} (h : p ≤ n) : p ≤ skp T n p ∧ skp T n p ≤ n := by
  have := fa_first_le (fun i => !decide (T (p + i) = 32)) (n - p)
  unfold skp
  omega
theorem first_end {f : Nat → Bool} {n : Nat} (hb : ∀ j, j < n → f j = false) : fa_first f n = n := by
  have h1 := fa_first_le f n
  have h2 := first_none hb
  omega
def ca_X8_skipBlanks : (Nat × Nat × Nat) → List zV := fun (r, n, p) => [vR 17 0 r]
def cp_X8_skipBlanks : (Nat × Nat × Nat) → zH → Prop := fun (r, n, p) h => (h.1 r 5 = nI n ∧ n ≤ 400) ∧ h.1 r 6 = nI p ∧ p ≤ n
def cg_X8_skipBlanks : (Nat × Nat × Nat) → zH → zH := fun (r, n, p) h => zsI h r 6 (nI (skp (h.1 (r + 8)) n p))
theorem rc_X8_skipBlanks : ∀ x : (Nat × Nat × Nat), ∃ (j a : Nat) (As : List zV), ca_X8_skipBlanks x = vR (10 + 7) j a :: As := by
  rintro ⟨r, n, p⟩
  exact ⟨_, _, _, rfl⟩
set_option maxHeartbeats 4000000 in
set_option maxRecDepth 100000 in
theorem m_X8_skipBlanks : zM yX8_skipBlanks cX8_skipBlanks 1 none ({ frames := 0, cells := 0, slots := 0, locals := 0 } : Room) (zcV ca_X8_skipBlanks cp_X8_skipBlanks cg_X8_skipBlanks) := by
  refine zM_of (by decide) ?_
  rintro X Y ⟨r, n, p⟩ h ⟨⟨hn, hn4⟩, hp, hpn⟩ O E hR
  have hn : h.1 r 5 = nI n := hn
  have hn4 : n ≤ 400 := hn4
  have hp : h.1 r 6 = nI p := hp
  have hpn : p ≤ n := hpn
  have B_38 := zr_return (X := X) (Y := Y) (u := 0) (v := 0) O E (Nat.le_refl _) (Nat.le_refl _) dX8_skipBlanks_38
  have L_0 : ∀ nn : Nat, zSd X Y 0 0 0 ((fun k ls st h1 => ∃ i : Nat, k = (n - p) - i ∧ p + i ≤ n ∧ ls = [some (vR 17 0 r)] ∧ st = [] ∧ h1 = zsI h r 6 (nI (p + i)) ∧ ∀ j, j < i → (!decide (h.1 (r + 8) (p + j) = 32)) = false : Nat → zT) nn) := by
    refine zSd_loop (fun nn ih => ?_)
    have B_0 := zr_aload_n (X := X) (Y := Y) (u := 0) (v := 0) O dX8_skipBlanks_0 rfl (zr_gI (ci := 7) (j := 6) O zc_7 (by decide) rfl tw_203 dX8_skipBlanks_1 (zr_aload_n O dX8_skipBlanks_4 rfl (zr_gI (ci := 7) (j := 5) O zc_7 (by decide) rfl tw_202 dX8_skipBlanks_5 (zr_icge (tgt := 38) O dX8_skipBlanks_8 rfl B_38 (zr_aload_n O dX8_skipBlanks_11 rfl (zr_gS (ci := 7) (j := 3) (off := 8) (t := 1) (n := 400) O zc_7 (by decide) rfl tw_199 dX8_skipBlanks_12 (zr_aload_n O dX8_skipBlanks_15 rfl (zr_gI (ci := 7) (j := 6) O zc_7 (by decide) rfl tw_203 dX8_skipBlanks_16 (zr_iald O dX8_skipBlanks_19 (zr_bipush (x := (32)) O dX8_skipBlanks_20 (by decide) (zr_icne (tgt := 38) O dX8_skipBlanks_22 rfl B_38 (zr_aload_n O dX8_skipBlanks_25 rfl (zr_dup O dX8_skipBlanks_26 (zr_gI (ci := 7) (j := 6) O zc_7 (by decide) rfl tw_203 dX8_skipBlanks_27 (zr_iconst (x := 1) O dX8_skipBlanks_30 rfl (zr_iadd O dX8_skipBlanks_31 (zr_pI (ci := 7) (j := 6) O zc_7 (by decide) rfl rfl rfl tw_203 dX8_skipBlanks_32 (zr_goto (tgt := 0) O dX8_skipBlanks_35 rfl ih))))))))))))))))))
    refine zSd_weak B_0 (fun ls st h1 t => ?_)
    obtain ⟨i, rfl, hi, rfl, rfl, rfl, hb⟩ := t
    have ne8 : r + 8 ≠ r := by omega
    have e5 : (zsI h r 6 (nI (p + i))).1 r 5 = nI n := by rw [zsI_W, zsW_s, zup_n _ _ (by decide : (5 : Nat) ≠ 6)]; exact hn
    have e6 : (zsI h r 6 (nI (p + i))).1 r 6 = nI (p + i) := by rw [zsI_W, zsW_s, zup_s]
    have e8 : (zsI h r 6 (nI (p + i))).1 (r + 8) = h.1 (r + 8) := by rw [zsI_W, zsW_n _ _ ne8]
    refine ⟨fun cq => ⟨rfl, ?_⟩, fun cq => ⟨p + i, e6, ?_, fun dq => ⟨rfl, ?_⟩, fun dq => ?_⟩⟩
    · rw [e5, e6] at cq
      have := (nI_leI (by omega) (by omega)).mp cq
      have ef : skp (h.1 (r + 8)) n p = p + i := by
        unfold skp
        rw [show n - p = i by omega, first_end hb]
      show _ = zsI h r 6 (nI (skp (h.1 (r + 8)) n p))
      rw [ef]
    · rw [e5, e6] at cq
      have : ¬ n ≤ p + i := fun z => cq ((nI_leI (by omega) (by omega)).mpr z)
      omega
    · rw [e5, e6] at cq
      have hlt : ¬ n ≤ p + i := fun z => cq ((nI_leI (by omega) (by omega)).mpr z)
      rw [e8] at dq
      have ef : skp (h.1 (r + 8)) n p = p + i := by
        unfold skp
        rw [first_at (i := i) (by omega) (by rw [decide_eq_false dq]; rfl) hb]
      show _ = zsI h r 6 (nI (skp (h.1 (r + 8)) n p))
      rw [ef]
    · rw [e5, e6] at cq
      have hlt : ¬ n ≤ p + i := fun z => cq ((nI_leI (by omega) (by omega)).mpr z)
      rw [e8] at dq
      refine ⟨n - p - (i + 1), by omega, i + 1, rfl, by omega, rfl, rfl, ?_, fun j hj => ?_⟩
      · rw [e6, nI_1]
        simp only [zsI_W, zsW_s, zsW_W, zup_up]
        rfl
      · by_cases e : j = i
        · rw [e, decide_eq_true dq]; rfl
        · exact hb j (by omega)
  have B_0 := zSd_any L_0
  refine ⟨rfl, Nat.le_of_ble_eq_true rfl, _, B_0, ?_⟩
  refine ⟨n - p - 0, 0, rfl, hpn, rfl, rfl, ?_, fun j hj => absurd hj (by omega)⟩
  rw [Nat.add_zero, ← hp, zsI_W, zup_self, zsW_self]
def ca_X8_needNumber : (Nat × Int32 × Int32 × Int32) → List zV := fun (r, v, lo, up) => [vR 17 0 r, vI v, vI lo, vI up]
def cp_X8_needNumber : (Nat × Int32 × Int32 × Int32) → zH → Prop := fun _ _ => True
def cg_X8_needNumber : (Nat × Int32 × Int32 × Int32) → zH → zH := fun (r, v, lo, up) h => if v < lo ∨ up < v then (if h.1 r 2 = 0 then zsI (zsI h r 2 2) r 1 (h.1 r 7) else h) else h
theorem rc_X8_needNumber : ∀ x : (Nat × Int32 × Int32 × Int32), ∃ (j a : Nat) (As : List zV), ca_X8_needNumber x = vR (10 + 7) j a :: As := by
  rintro ⟨r, v, lo, up⟩
  exact ⟨_, _, _, rfl⟩
set_option maxHeartbeats 4000000 in
set_option maxRecDepth 100000 in
theorem m_X8_needNumber : zM yX8_needNumber cX8_needNumber 4 none ({ frames := 1, cells := 0, slots := 0, locals := 22 } : Room) (zcV ca_X8_needNumber cp_X8_needNumber cg_X8_needNumber) := by
  refine zM_of (by decide) ?_
  rintro X Y ⟨r, v, lo, up⟩ h _ O E hR
  have B_19 := zr_return (X := X) (Y := Y) (u := 0) (v := 0) O E (Nat.le_refl _) (Nat.le_refl _) dX8_needNumber_19
  have B_10 := zr_aload_n (X := X) (Y := Y) (u := 0) (v := 0) O dX8_needNumber_10 rfl (zr_iconst (x := 2) O dX8_needNumber_11 rfl (zr_aload_n O dX8_needNumber_12 rfl (zr_gI (ci := 7) (j := 7) O zc_7 (by decide) rfl tw_204 dX8_needNumber_13 (zr_cVv (zr_cV (ci := 7) (n := 2) O m_X8_fail (bn_X8_fail _ ⟨rfl, rfl⟩) vw_X8_fail tw_607 rc_X8_fail (zrm hR rfl rfl) dX8_needNumber_16 (B_19))))))
  have B_0 := zr_iload_n (X := X) (Y := Y) (u := 0) (v := 0) O dX8_needNumber_0 rfl (zr_iload_n O dX8_needNumber_1 rfl (zr_iclt (tgt := 10) O dX8_needNumber_2 rfl B_10 (zr_iload_n O dX8_needNumber_5 rfl (zr_iload_n O dX8_needNumber_6 rfl (zr_icle (tgt := 19) O dX8_needNumber_7 rfl B_19 (B_10))))))
  refine ⟨rfl, Nat.le_of_ble_eq_true rfl, _, B_0, ?_⟩
  refine ⟨fun cq => ⟨(r, 2, h.1 r 7), rfl, trivial, rfl, ?_⟩, fun cq => ⟨fun dq => ⟨rfl, ?_⟩, fun dq => ⟨(r, 2, h.1 r 7), rfl, trivial, rfl, ?_⟩⟩⟩
  · show _ = if v < lo ∨ up < v then _ else _
    rw [if_pos (Or.inl cq)]
    rfl
  · show _ = if v < lo ∨ up < v then _ else _
    rw [if_neg]
    rintro (z | z)
    · exact cq z
    · exact Int32.not_le.mpr z dq
  · show _ = if v < lo ∨ up < v then _ else _
    rw [if_pos (Or.inr (Int32.not_le.mp dq))]
    rfl

