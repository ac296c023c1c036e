theorem dX10_commonDivisor_34 : decode cX10_commonDivisor 34 = .ok (.iload_n 2, 1) := by decide +kernel
theorem dX10_commonDivisor_35 : decode cX10_commonDivisor 35 = .ok (.iconst 1, 1) := by decide +kernel
theorem dX10_commonDivisor_36 : decode cX10_commonDivisor 36 = .ok (.invokestatic 291, 3) := by decide +kernel
theorem dX10_commonDivisor_39 : decode cX10_commonDivisor 39 = .ok (.ireturn, 1) := by decide +kernel
theorem dX10_commonDivisor_7 : decode cX10_commonDivisor 7 = .ok (.iload 4, 2) := by decide +kernel
theorem dX10_commonDivisor_9 : decode cX10_commonDivisor 9 = .ok (.bipush 64, 2) := by decide +kernel
theorem dX10_commonDivisor_11 : decode cX10_commonDivisor 11 = .ok (.if_icmp .ge 23, 3) := by decide +kernel
theorem dX10_commonDivisor_14 : decode cX10_commonDivisor 14 = .ok (.iload_n 3, 1) := by decide +kernel
theorem dX10_commonDivisor_15 : decode cX10_commonDivisor 15 = .ok (.ifCond .eq 19, 3) := by decide +kernel
theorem dX10_commonDivisor_18 : decode cX10_commonDivisor 18 = .ok (.iload_n 2, 1) := by decide +kernel
theorem dX10_commonDivisor_19 : decode cX10_commonDivisor 19 = .ok (.iload_n 3, 1) := by decide +kernel
theorem dX10_commonDivisor_20 : decode cX10_commonDivisor 20 = .ok (.irem, 1) := by decide +kernel
theorem dX10_commonDivisor_21 : decode cX10_commonDivisor 21 = .ok (.istore 5, 2) := by decide +kernel
theorem dX10_commonDivisor_23 : decode cX10_commonDivisor 23 = .ok (.iload_n 3, 1) := by decide +kernel
theorem dX10_commonDivisor_24 : decode cX10_commonDivisor 24 = .ok (.istore_n 2, 1) := by decide +kernel
theorem dX10_commonDivisor_25 : decode cX10_commonDivisor 25 = .ok (.iload 5, 2) := by decide +kernel
theorem dX10_commonDivisor_27 : decode cX10_commonDivisor 27 = .ok (.istore_n 3, 1) := by decide +kernel
theorem dX10_commonDivisor_28 : decode cX10_commonDivisor 28 = .ok (.iinc 4 1, 3) := by decide +kernel
theorem dX10_commonDivisor_31 : decode cX10_commonDivisor 31 = .ok (.goto (-24), 3) := by decide +kernel
theorem dX10_commonDivisor_0 : decode cX10_commonDivisor 0 = .ok (.iload_n 0, 1) := by decide +kernel
theorem dX10_commonDivisor_1 : decode cX10_commonDivisor 1 = .ok (.istore_n 2, 1) := by decide +kernel
theorem dX10_commonDivisor_2 : decode cX10_commonDivisor 2 = .ok (.iload_n 1, 1) := by decide +kernel
theorem dX10_commonDivisor_3 : decode cX10_commonDivisor 3 = .ok (.istore_n 3, 1) := by decide +kernel
theorem dX10_commonDivisor_4 : decode cX10_commonDivisor 4 = .ok (.iconst 0, 1) := by decide +kernel
theorem dX10_commonDivisor_5 : decode cX10_commonDivisor 5 = .ok (.istore 4, 2) := by decide +kernel
/-! the common divisor -/
theorem mod_half {g s : Nat} (h0 : 0 < s) (h : s ≤ g) : 2 * (g % s) ≤ g := by
  have h1 := Nat.mod_lt g h0
  have h2 := Nat.div_add_mod g s
  have h3 : 1 ≤ g / s := Nat.div_pos h h0
  have h4 : s * 1 ≤ s * (g / s) := Nat.mul_le_mul_left s h3
  omega
theorem rem_n {g s : Nat} (hg : g < 2 ^ 31) (h0 : 0 < s) (hs : s < 2 ^ 31) : nI g - nI g / nI s * nI s = nI (g % s) := by
  have h2 := Nat.div_add_mod g s
  have h3 : g / s * s ≤ g := Nat.div_mul_le_self g s
  rw [pk_div hg h0 hs, pk_mul, pk_sub h3]
  congr 1
  rw [Nat.mul_comm] at h2
  omega
def ca_X10_commonDivisor : (Nat × Nat) → List zV := fun (a, b) => [vI (nI a), vI (nI b)]
def cp_X10_commonDivisor : (Nat × Nat) → zH → Prop := fun (a, b) _ => 1 ≤ a ∧ a ≤ 2 ^ 14 ∧ b ≤ a
def cf_X10_commonDivisor : (Nat × Nat) → zH → Int32 := fun (a, b) _ => nI (Nat.gcd a b)
set_option maxHeartbeats 4000000 in
set_option maxRecDepth 100000 in
theorem m_X10_commonDivisor : zM yX10_commonDivisor cX10_commonDivisor 6 (some .int) ({ frames := 1, cells := 0, slots := 0, locals := 21 } : Room) (zcI ca_X10_commonDivisor cp_X10_commonDivisor cf_X10_commonDivisor) := by
  refine zM_of (by decide) ?_
  rintro X Y ⟨a, b⟩ h ⟨ha1, ha2, hb⟩ O E hR
  have ha1 : 1 ≤ a := ha1
  have ha2 : a ≤ 2 ^ 14 := ha2
  have hb : b ≤ a := hb
  have B_34 := zr_iload_n (X := X) (Y := Y) (u := 0) (v := 0) O dX10_commonDivisor_34 rfl (zr_iconst (x := 1) O dX10_commonDivisor_35 rfl (zr_max O zwm tw_973 (zrm hR rfl rfl) dX10_commonDivisor_36 (zr_ireturn O E (Nat.le_refl _) (Nat.le_refl _) dX10_commonDivisor_39)))
  have L_7 : ∀ nn : Nat, zSd X Y 0 0 7 ((fun k ls st h1 => ∃ (g s i : Nat) (z2 z3 z4 : Int32) (y5 : Option zV), k = 64 - i ∧ i ≤ 64 ∧ ls = [some (vI (nI a)), some (vI (nI b)), some (vI z2), some (vI z3), some (vI z4), y5] ∧ z2 = nI g ∧ z3 = nI s ∧ z4 = nI i ∧ st = [] ∧ h = h1 ∧ Nat.gcd g s = Nat.gcd a b ∧ 1 ≤ g ∧ s ≤ g ∧ g ≤ 2 ^ 14 ∧ g * s * 2 ^ i ≤ 2 ^ 28 : Nat → zT) nn) := by
    refine zSd_loop (fun nn ih => ?_)
    have B_7 := zr_iload (X := X) (Y := Y) (u := 0) (v := 0) O dX10_commonDivisor_7 (zr_bipush (x := (64)) O dX10_commonDivisor_9 (by decide) (zr_icge (tgt := 34) O dX10_commonDivisor_11 rfl B_34 (zr_iload_n O dX10_commonDivisor_14 rfl (zr_ifeq (tgt := 34) O dX10_commonDivisor_15 rfl B_34 (zr_iload_n O dX10_commonDivisor_18 rfl (zr_iload_n O dX10_commonDivisor_19 rfl (zr_irem O dX10_commonDivisor_20 (zr_istore O dX10_commonDivisor_21 (zr_iload_n O dX10_commonDivisor_23 rfl (zr_istore_n O dX10_commonDivisor_24 rfl (zr_iload O dX10_commonDivisor_25 (zr_istore_n O dX10_commonDivisor_27 rfl (zr_iinc (c := 1) O dX10_commonDivisor_28 rfl (zr_goto (tgt := 7) O dX10_commonDivisor_31 rfl ih))))))))))))))
    refine zSd_weak B_7 (fun ls st h1 t => ?_)
    obtain ⟨g, s, i, z2, z3, z4, y5, rfl, hi, rfl, rfl, rfl, rfl, rfl, rfl, hg, g1, sg, g2, pot⟩ := t
    have fin : s = 0 → (if nI g < 1 then (1 : Int32) else nI g) = nI (Nat.gcd a b) := by
      intro hs
      rw [← hg, hs, Nat.gcd_zero_right, if_neg]
      intro z
      have := (nI_ltI (b := 1) (by omega) (by omega)).mp z
      omega
    refine ⟨fun cq => ?_, fun cq => ⟨fun dq => ?_, fun dq => ?_⟩⟩
    · have h6 := (nI_leI (a := 64) (by omega) (by omega)).mp cq
      have hi6 : i = 64 := by omega
      rw [hi6] at pot
      have hs : s = 0 := by
        rcases Nat.eq_zero_or_pos s with z | z
        · exact z
        · have h1 : 1 * 1 ≤ g * s := Nat.mul_le_mul g1 z
          have h2 : 1 * 2 ^ 64 ≤ g * s * 2 ^ 64 := Nat.mul_le_mul_right _ (by omega)
          omega
      exact ⟨zri (fin hs), rfl⟩
    · have hs : s = 0 := (nI_eq (b := 0) (by omega) (by omega)).mp dq
      exact ⟨zri (fin hs), rfl⟩
    · have hi2 : i < 64 := Nat.not_le.mp (fun z => cq ((nI_leI (a := 64) (by omega) (by omega)).mpr z))
      have hs : 0 < s := Nat.pos_of_ne_zero (fun z => dq (by rw [z]; rfl))
      have hm := mod_half hs sg
      have hl := Nat.mod_lt g hs
      refine ⟨dq, 64 - (i + 1), by omega, s, g % s, i + 1, _, _, _, _, rfl, by omega, rfl, rfl, rem_n (by omega) hs (by omega), nI_1 i, rfl, rfl, ?_, hs, by omega, by omega, ?_⟩
      · rw [Nat.gcd_comm s, ← Nat.gcd_rec s g, Nat.gcd_comm s g]
        exact hg
      · have e : s * (g % s) * 2 ^ (i + 1) = s * (2 * (g % s)) * 2 ^ i := by
          rw [Nat.pow_succ, Nat.mul_comm (2 ^ i) 2, ← Nat.mul_assoc, Nat.mul_assoc s (g % s) 2, Nat.mul_comm (g % s) 2]
        have h1 : s * (2 * (g % s)) * 2 ^ i ≤ s * g * 2 ^ i := Nat.mul_le_mul_right _ (Nat.mul_le_mul_left _ hm)
        rw [Nat.mul_comm s g] at h1
        omega
  have B_7 := zSd_any L_7
  have B_0 := zr_iload_n (X := X) (Y := Y) (u := 0) (v := 0) O dX10_commonDivisor_0 rfl (zr_istore_n O dX10_commonDivisor_1 rfl (zr_iload_n O dX10_commonDivisor_2 rfl (zr_istore_n O dX10_commonDivisor_3 rfl (zr_iconst (x := 0) O dX10_commonDivisor_4 rfl (zr_istore O dX10_commonDivisor_5 (B_7))))))
  refine ⟨rfl, Nat.le_of_ble_eq_true rfl, _, B_0, ?_⟩
  refine ⟨64 - 0, a, b, 0, _, _, _, _, rfl, Nat.zero_le _, rfl, rfl, rfl, rfl, rfl, rfl, rfl, ha1, hb, ha2, ?_⟩
  have h1 : a * b ≤ 2 ^ 14 * 2 ^ 14 := Nat.mul_le_mul ha2 (by omega)
  omega

