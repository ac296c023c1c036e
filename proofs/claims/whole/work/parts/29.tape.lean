theorem dX8_putOnTape_49 : decode cX8_putOnTape 49 = .ok (.return_, 1) := by decide +kernel
theorem dX8_putOnTape_43 : decode cX8_putOnTape 43 = .ok (.iinc 2 (-8), 3) := by decide +kernel
theorem dX8_putOnTape_46 : decode cX8_putOnTape 46 = .ok (.goto (-43), 3) := by decide +kernel
theorem dX8_putOnTape_3 : decode cX8_putOnTape 3 = .ok (.iload_n 2, 1) := by decide +kernel
theorem dX8_putOnTape_4 : decode cX8_putOnTape 4 = .ok (.ifCond .lt 45, 3) := by decide +kernel
theorem dX8_putOnTape_7 : decode cX8_putOnTape 7 = .ok (.aload_n 0, 1) := by decide +kernel
theorem dX8_putOnTape_8 : decode cX8_putOnTape 8 = .ok (.getfield 26, 3) := by decide +kernel
theorem dX8_putOnTape_11 : decode cX8_putOnTape 11 = .ok (.sipush 400, 3) := by decide +kernel
theorem dX8_putOnTape_14 : decode cX8_putOnTape 14 = .ok (.if_icmp .ge 29, 3) := by decide +kernel
theorem dX8_putOnTape_17 : decode cX8_putOnTape 17 = .ok (.aload_n 0, 1) := by decide +kernel
theorem dX8_putOnTape_18 : decode cX8_putOnTape 18 = .ok (.getfield 22, 3) := by decide +kernel
theorem dX8_putOnTape_21 : decode cX8_putOnTape 21 = .ok (.aload_n 0, 1) := by decide +kernel
theorem dX8_putOnTape_22 : decode cX8_putOnTape 22 = .ok (.getfield 26, 3) := by decide +kernel
theorem dX8_putOnTape_25 : decode cX8_putOnTape 25 = .ok (.iload_n 1, 1) := by decide +kernel
theorem dX8_putOnTape_26 : decode cX8_putOnTape 26 = .ok (.iload_n 2, 1) := by decide +kernel
theorem dX8_putOnTape_27 : decode cX8_putOnTape 27 = .ok (.ishr, 1) := by decide +kernel
theorem dX8_putOnTape_28 : decode cX8_putOnTape 28 = .ok (.sipush 255, 3) := by decide +kernel
theorem dX8_putOnTape_31 : decode cX8_putOnTape 31 = .ok (.iand, 1) := by decide +kernel
theorem dX8_putOnTape_32 : decode cX8_putOnTape 32 = .ok (.iastore, 1) := by decide +kernel
theorem dX8_putOnTape_33 : decode cX8_putOnTape 33 = .ok (.aload_n 0, 1) := by decide +kernel
theorem dX8_putOnTape_34 : decode cX8_putOnTape 34 = .ok (.dup, 1) := by decide +kernel
theorem dX8_putOnTape_35 : decode cX8_putOnTape 35 = .ok (.getfield 26, 3) := by decide +kernel
theorem dX8_putOnTape_38 : decode cX8_putOnTape 38 = .ok (.iconst 1, 1) := by decide +kernel
theorem dX8_putOnTape_39 : decode cX8_putOnTape 39 = .ok (.iadd, 1) := by decide +kernel
theorem dX8_putOnTape_40 : decode cX8_putOnTape 40 = .ok (.putfield 26, 3) := by decide +kernel
theorem dX8_putOnTape_0 : decode cX8_putOnTape 0 = .ok (.bipush 24, 2) := by decide +kernel
theorem dX8_putOnTape_2 : decode cX8_putOnTape 2 = .ok (.istore_n 2, 1) := by decide +kernel
theorem dX8_fail_17 : decode cX8_fail 17 = .ok (.return_, 1) := by decide +kernel
theorem dX8_fail_0 : decode cX8_fail 0 = .ok (.aload_n 0, 1) := by decide +kernel
theorem dX8_fail_1 : decode cX8_fail 1 = .ok (.getfield 41, 3) := by decide +kernel
theorem dX8_fail_4 : decode cX8_fail 4 = .ok (.ifCond .ne 13, 3) := by decide +kernel
theorem dX8_fail_7 : decode cX8_fail 7 = .ok (.aload_n 0, 1) := by decide +kernel
theorem dX8_fail_8 : decode cX8_fail 8 = .ok (.iload_n 1, 1) := by decide +kernel
theorem dX8_fail_9 : decode cX8_fail 9 = .ok (.putfield 41, 3) := by decide +kernel
theorem dX8_fail_12 : decode cX8_fail 12 = .ok (.aload_n 0, 1) := by decide +kernel
theorem dX8_fail_13 : decode cX8_fail 13 = .ok (.iload_n 2, 1) := by decide +kernel
theorem dX8_fail_14 : decode cX8_fail 14 = .ok (.putfield 18, 3) := by decide +kernel
/-! the tape -/
def sh8 (i : Nat) : Int32 := 24 - nI (8 * i)
def by4 (v : Int32) (i : Nat) : Int32 := (v >>> (sh8 i &&& 31)) &&& 255
theorem sh8_s : ∀ i, i < 4 → sh8 i + (-8) = sh8 (i + 1) ∧ ¬ sh8 i < 0 := by decide +kernel
theorem sh8_4 : sh8 4 < 0 := by decide +kernel
def ca_X8_putOnTape : (Nat × Nat × Int32) → List zV := fun (r, n, v) => [vR 17 0 r, vI v]
def cp_X8_putOnTape : (Nat × Nat × Int32) → zH → Prop := fun (r, n, v) h => h.1 r 4 = nI n ∧ n + 4 ≤ 400
def cq_X8_putOnTape : (Nat × Nat × Int32) → zH → Option zV → zH → Prop := fun (r, n, v) h o h' => o = none ∧ ∃ f F : Nat → Int32, h' = zsW (zsW h (r + 8) f) r F ∧ F 4 = nI (n + 4) ∧ (∀ k, k ≠ 4 → F k = h.1 r k) ∧ (∀ j, j < n → f j = h.1 (r + 8) j) ∧ ∀ q, q < 4 → f (n + q) = by4 v q
theorem rc_X8_putOnTape : ∀ x : (Nat × Nat × Int32), ∃ (j a : Nat) (As : List zV), ca_X8_putOnTape x = vR (10 + 7) j a :: As := by
  rintro ⟨r, n, v⟩
  exact ⟨_, _, _, rfl⟩
set_option maxHeartbeats 4000000 in
set_option maxRecDepth 100000 in
theorem m_X8_putOnTape : zM yX8_putOnTape cX8_putOnTape 3 none ({ frames := 0, cells := 0, slots := 0, locals := 0 } : Room) ((ca_X8_putOnTape, cp_X8_putOnTape, cq_X8_putOnTape) : zC (Nat × Nat × Int32)) := by
  refine zM_of (by decide) ?_
  rintro X Y ⟨r, n, v⟩ h ⟨hn, hn4⟩ O E hR
  have hn : h.1 r 4 = nI n := hn
  have hn4 : n + 4 ≤ 400 := hn4
  have B_49 := zr_return (X := X) (Y := Y) (u := 0) (v := 0) O E (Nat.le_refl _) (Nat.le_refl _) dX8_putOnTape_49
  have L_3 : ∀ nn : Nat, zSd X Y 0 0 3 ((fun k ls st h1 => ∃ (i : Nat) (z : Int32) (f F : Nat → Int32), k = 4 - i ∧ i ≤ 4 ∧ ls = [some (vR 17 0 r), some (vI v), some (vI z)] ∧ z = sh8 i ∧ st = [] ∧ h1 = zsW (zsW h (r + 8) f) r F ∧ F 4 = nI (n + i) ∧ (∀ k, k ≠ 4 → F k = h.1 r k) ∧ (∀ j, j < n → f j = h.1 (r + 8) j) ∧ ∀ q, q < i → f (n + q) = by4 v q : Nat → zT) nn) := by
    refine zSd_loop (fun nn ih => ?_)
    have B_43 := zr_iinc (X := X) (Y := Y) (u := 0) (v := 0) (c := (-8)) O dX8_putOnTape_43 rfl (zr_goto (tgt := 3) O dX8_putOnTape_46 rfl ih)
    have B_3 := zr_iload_n (X := X) (Y := Y) (u := 0) (v := 0) O dX8_putOnTape_3 rfl (zr_iflt (tgt := 49) O dX8_putOnTape_4 rfl B_49 (zr_aload_n O dX8_putOnTape_7 rfl (zr_gI (ci := 7) (j := 4) O zc_7 (by decide) rfl tw_201 dX8_putOnTape_8 (zr_sipush (x := (400)) O dX8_putOnTape_11 (by decide) (zr_icge (tgt := 43) O dX8_putOnTape_14 rfl B_43 (zr_aload_n O dX8_putOnTape_17 rfl (zr_gS (ci := 7) (j := 3) (off := 8) (t := 1) (n := 400) O zc_7 (by decide) rfl tw_199 dX8_putOnTape_18 (zr_aload_n O dX8_putOnTape_21 rfl (zr_gI (ci := 7) (j := 4) O zc_7 (by decide) rfl tw_201 dX8_putOnTape_22 (zr_iload_n O dX8_putOnTape_25 rfl (zr_iload_n O dX8_putOnTape_26 rfl (zr_ishr O dX8_putOnTape_27 (zr_sipush (x := (255)) O dX8_putOnTape_28 (by decide) (zr_iand O dX8_putOnTape_31 (zr_iast O dX8_putOnTape_32 (zr_aload_n O dX8_putOnTape_33 rfl (zr_dup O dX8_putOnTape_34 (zr_gI (ci := 7) (j := 4) O zc_7 (by decide) rfl tw_201 dX8_putOnTape_35 (zr_iconst (x := 1) O dX8_putOnTape_38 rfl (zr_iadd O dX8_putOnTape_39 (zr_pI (ci := 7) (j := 4) O zc_7 (by decide) rfl rfl rfl tw_201 dX8_putOnTape_40 (B_43))))))))))))))))))))))
    refine zSd_weak B_3 (fun ls st h1 t => ?_)
    obtain ⟨i, z, f, F, rfl, hi, rfl, rfl, rfl, rfl, F4, Fo, fo, fn⟩ := t
    have ne8 : r + 8 ≠ r := by omega
    have eF : (zsW (zsW h (r + 8) f) r F).1 r = F := zsW_s _ _ _
    have ef : (zsW (zsW h (r + 8) f) r F).1 (r + 8) = f := by rw [zsW_n _ _ ne8, zsW_s]
    refine ⟨fun cq => ?_, fun cq => ⟨fun dq => ?_, fun dq => ?_⟩⟩
    · have hi4 : i = 4 := by
        rcases Nat.lt_or_ge i 4 with z | z
        · exact absurd cq (sh8_s i z).2
        · omega
      subst hi4
      exact ⟨rfl, f, F, rfl, F4, Fo, fo, fn⟩
    · rw [eF, F4] at dq
      have hi4 : i < 4 := by
        rcases Nat.lt_or_ge i 4 with z | z
        · exact z
        · have : i = 4 := by omega
          rw [this] at cq
          exact absurd sh8_4 cq
      have := (nI_leI (a := 400) (by omega) (by omega)).mp dq
      exact absurd this (by omega)
    · have hi4 : i < 4 := by
        rcases Nat.lt_or_ge i 4 with z | z
        · exact z
        · have : i = 4 := by omega
          rw [this] at cq
          exact absurd sh8_4 cq
      refine ⟨n + i, by rw [eF]; exact F4, by omega, 4 - (i + 1), by omega, i + 1, _, va_up f (n + i) (by4 v i), va_up F 4 (nI (n + (i + 1))), rfl, by omega, rfl, (sh8_s i hi4).1, rfl, ?_, zup_s _ _ _, fun k hk => ?_, fun j hj => ?_, fun q hq => ?_⟩
      · simp only [zsI_W, zsW_s, zsW_n _ _ ne8, zsW_n _ _ ne8.symm, F4]
        rw [zsW_c _ _ _ ne8, zsW_W, zsW_W, nI_1]
        rfl
      · rw [zup_n _ _ hk]; exact Fo k hk
      · rw [zup_n _ _ (by omega)]; exact fo j hj
      · by_cases e : q = i
        · rw [e, zup_s]
        · rw [zup_n _ _ (by omega)]; exact fn q (by omega)
  have B_3 := zSd_any L_3
  have B_0 := zr_bipush (X := X) (Y := Y) (u := 0) (v := 0) (x := (24)) O dX8_putOnTape_0 (by decide) (zr_istore_n O dX8_putOnTape_2 rfl (B_3))
  refine ⟨rfl, Nat.le_of_ble_eq_true rfl, _, B_0, ?_⟩
  refine ⟨4 - 0, 0, _, h.1 (r + 8), h.1 r, rfl, Nat.zero_le _, rfl, by decide, rfl, ?_, hn, fun _ _ => rfl, fun _ _ => rfl, fun q hq => absurd hq (by omega)⟩
  rw [zsW_self, zsW_self]
def ca_X8_fail : (Nat × Int32 × Int32) → List zV := fun (r, k, p) => [vR 17 0 r, vI k, vI p]
def cp_X8_fail : (Nat × Int32 × Int32) → zH → Prop := fun _ _ => True
def cg_X8_fail : (Nat × Int32 × Int32) → zH → zH := fun (r, k, p) h => if h.1 r 2 = 0 then zsI (zsI h r 2 k) r 1 p else h
theorem rc_X8_fail : ∀ x : (Nat × Int32 × Int32), ∃ (j a : Nat) (As : List zV), ca_X8_fail x = vR (10 + 7) j a :: As := by
  rintro ⟨r, k, p⟩
  exact ⟨_, _, _, rfl⟩
set_option maxHeartbeats 4000000 in
set_option maxRecDepth 100000 in
theorem m_X8_fail : zM yX8_fail cX8_fail 3 none ({ frames := 0, cells := 0, slots := 0, locals := 0 } : Room) (zcV ca_X8_fail cp_X8_fail cg_X8_fail) := by
  refine zM_of (by decide) ?_
  rintro X Y ⟨r, k, p⟩ h _ O E hR
  have B_17 := zr_return (X := X) (Y := Y) (u := 0) (v := 0) O E (Nat.le_refl _) (Nat.le_refl _) dX8_fail_17
  have B_0 := zr_aload_n (X := X) (Y := Y) (u := 0) (v := 0) O dX8_fail_0 rfl (zr_gI (ci := 7) (j := 2) O zc_7 (by decide) rfl tw_198 dX8_fail_1 (zr_ifne (tgt := 17) O dX8_fail_4 rfl B_17 (zr_aload_n O dX8_fail_7 rfl (zr_iload_n O dX8_fail_8 rfl (zr_pI (ci := 7) (j := 2) O zc_7 (by decide) rfl rfl rfl tw_198 dX8_fail_9 (zr_aload_n O dX8_fail_12 rfl (zr_iload_n O dX8_fail_13 rfl (zr_pI (ci := 7) (j := 1) O zc_7 (by decide) rfl rfl rfl tw_196 dX8_fail_14 (B_17)))))))))
  refine ⟨rfl, Nat.le_of_ble_eq_true rfl, _, B_0, ?_⟩
  refine ⟨fun cq => ⟨rfl, ?_⟩, fun cq => ⟨rfl, ?_⟩⟩
  · exact (if_neg cq).symm
  · exact (if_pos cq).symm

