theorem dX10_marginsFrom_42 : decode cX10_marginsFrom 42 = .ok (.iload_n 2, 1) := by decide +kernel
theorem dX10_marginsFrom_43 : decode cX10_marginsFrom 43 = .ok (.ireturn, 1) := by decide +kernel
theorem dX10_marginsFrom_34 : decode cX10_marginsFrom 34 = .ok (.iadd, 1) := by decide +kernel
theorem dX10_marginsFrom_35 : decode cX10_marginsFrom 35 = .ok (.istore_n 2, 1) := by decide +kernel
theorem dX10_marginsFrom_36 : decode cX10_marginsFrom 36 = .ok (.iinc 3 1, 3) := by decide +kernel
theorem dX10_marginsFrom_39 : decode cX10_marginsFrom 39 = .ok (.goto (-35), 3) := by decide +kernel
theorem dX10_marginsFrom_33 : decode cX10_marginsFrom 33 = .ok (.iconst 0, 1) := by decide +kernel
theorem dX10_marginsFrom_4 : decode cX10_marginsFrom 4 = .ok (.iload_n 3, 1) := by decide +kernel
theorem dX10_marginsFrom_5 : decode cX10_marginsFrom 5 = .ok (.aload_n 0, 1) := by decide +kernel
theorem dX10_marginsFrom_6 : decode cX10_marginsFrom 6 = .ok (.getfield 10, 3) := by decide +kernel
theorem dX10_marginsFrom_9 : decode cX10_marginsFrom 9 = .ok (.getfield 85, 3) := by decide +kernel
theorem dX10_marginsFrom_12 : decode cX10_marginsFrom 12 = .ok (.getfield 114, 3) := by decide +kernel
theorem dX10_marginsFrom_15 : decode cX10_marginsFrom 15 = .ok (.if_icmp .ge 27, 3) := by decide +kernel
theorem dX10_marginsFrom_18 : decode cX10_marginsFrom 18 = .ok (.iload_n 2, 1) := by decide +kernel
theorem dX10_marginsFrom_19 : decode cX10_marginsFrom 19 = .ok (.aload_n 0, 1) := by decide +kernel
theorem dX10_marginsFrom_20 : decode cX10_marginsFrom 20 = .ok (.getfield 65, 3) := by decide +kernel
theorem dX10_marginsFrom_23 : decode cX10_marginsFrom 23 = .ok (.iload_n 3, 1) := by decide +kernel
theorem dX10_marginsFrom_24 : decode cX10_marginsFrom 24 = .ok (.iaload, 1) := by decide +kernel
theorem dX10_marginsFrom_25 : decode cX10_marginsFrom 25 = .ok (.iload_n 1, 1) := by decide +kernel
theorem dX10_marginsFrom_26 : decode cX10_marginsFrom 26 = .ok (.if_icmp .lt 7, 3) := by decide +kernel
theorem dX10_marginsFrom_29 : decode cX10_marginsFrom 29 = .ok (.iconst 1, 1) := by decide +kernel
theorem dX10_marginsFrom_30 : decode cX10_marginsFrom 30 = .ok (.goto 4, 3) := by decide +kernel
theorem dX10_marginsFrom_0 : decode cX10_marginsFrom 0 = .ok (.iconst 0, 1) := by decide +kernel
theorem dX10_marginsFrom_1 : decode cX10_marginsFrom 1 = .ok (.istore_n 2, 1) := by decide +kernel
theorem dX10_marginsFrom_2 : decode cX10_marginsFrom 2 = .ok (.iconst 0, 1) := by decide +kernel
theorem dX10_marginsFrom_3 : decode cX10_marginsFrom 3 = .ok (.istore_n 3, 1) := by decide +kernel
theorem dX10_isSafeAt_37 : decode cX10_isSafeAt 37 = .ok (.ireturn, 1) := by decide +kernel
theorem dX10_isSafeAt_36 : decode cX10_isSafeAt 36 = .ok (.iconst 0, 1) := by decide +kernel
theorem dX10_isSafeAt_0 : decode cX10_isSafeAt 0 = .ok (.aload_n 0, 1) := by decide +kernel
theorem dX10_isSafeAt_1 : decode cX10_isSafeAt 1 = .ok (.getfield 10, 3) := by decide +kernel
theorem dX10_isSafeAt_4 : decode cX10_isSafeAt 4 = .ok (.getfield 98, 3) := by decide +kernel
theorem dX10_isSafeAt_7 : decode cX10_isSafeAt 7 = .ok (.aload_n 0, 1) := by decide +kernel
theorem dX10_isSafeAt_8 : decode cX10_isSafeAt 8 = .ok (.getfield 10, 3) := by decide +kernel
theorem dX10_isSafeAt_11 : decode cX10_isSafeAt 11 = .ok (.getfield 98, 3) := by decide +kernel
theorem dX10_isSafeAt_14 : decode cX10_isSafeAt 14 = .ok (.aload_n 0, 1) := by decide +kernel
theorem dX10_isSafeAt_15 : decode cX10_isSafeAt 15 = .ok (.getfield 10, 3) := by decide +kernel
theorem dX10_isSafeAt_18 : decode cX10_isSafeAt 18 = .ok (.getfield 85, 3) := by decide +kernel
theorem dX10_isSafeAt_21 : decode cX10_isSafeAt 21 = .ok (.iload_n 1, 1) := by decide +kernel
theorem dX10_isSafeAt_22 : decode cX10_isSafeAt 22 = .ok (.invokevirtual 294, 3) := by decide +kernel
theorem dX10_isSafeAt_25 : decode cX10_isSafeAt 25 = .ok (.invokevirtual 300, 3) := by decide +kernel
theorem dX10_isSafeAt_28 : decode cX10_isSafeAt 28 = .ok (.iconst (-1), 1) := by decide +kernel
theorem dX10_isSafeAt_29 : decode cX10_isSafeAt 29 = .ok (.if_icmp .ne 7, 3) := by decide +kernel
theorem dX10_isSafeAt_32 : decode cX10_isSafeAt 32 = .ok (.iconst 1, 1) := by decide +kernel
theorem dX10_isSafeAt_33 : decode cX10_isSafeAt 33 = .ok (.goto 4, 3) := by decide +kernel
theorem dX10_guessedRight_56 : decode cX10_guessedRight 56 = .ok (.iload_n 3, 1) := by decide +kernel
theorem dX10_guessedRight_57 : decode cX10_guessedRight 57 = .ok (.ireturn, 1) := by decide +kernel
theorem dX10_guessedRight_48 : decode cX10_guessedRight 48 = .ok (.iadd, 1) := by decide +kernel
theorem dX10_guessedRight_49 : decode cX10_guessedRight 49 = .ok (.istore_n 3, 1) := by decide +kernel
theorem dX10_guessedRight_50 : decode cX10_guessedRight 50 = .ok (.iinc 4 1, 3) := by decide +kernel
theorem dX10_guessedRight_53 : decode cX10_guessedRight 53 = .ok (.goto (-48), 3) := by decide +kernel
theorem dX10_guessedRight_47 : decode cX10_guessedRight 47 = .ok (.iconst 0, 1) := by decide +kernel
theorem dX10_guessedRight_5 : decode cX10_guessedRight 5 = .ok (.iload 4, 2) := by decide +kernel
theorem dX10_guessedRight_7 : decode cX10_guessedRight 7 = .ok (.iload_n 2, 1) := by decide +kernel
theorem dX10_guessedRight_8 : decode cX10_guessedRight 8 = .ok (.if_icmp .ge 48, 3) := by decide +kernel
theorem dX10_guessedRight_11 : decode cX10_guessedRight 11 = .ok (.iload_n 3, 1) := by decide +kernel
theorem dX10_guessedRight_12 : decode cX10_guessedRight 12 = .ok (.aload_n 0, 1) := by decide +kernel
theorem dX10_guessedRight_13 : decode cX10_guessedRight 13 = .ok (.getfield 47, 3) := by decide +kernel
theorem dX10_guessedRight_16 : decode cX10_guessedRight 16 = .ok (.aload_n 0, 1) := by decide +kernel
theorem dX10_guessedRight_17 : decode cX10_guessedRight 17 = .ok (.getfield 10, 3) := by decide +kernel
theorem dX10_guessedRight_20 : decode cX10_guessedRight 20 = .ok (.getfield 85, 3) := by decide +kernel
theorem dX10_guessedRight_23 : decode cX10_guessedRight 23 = .ok (.iload 4, 2) := by decide +kernel
theorem dX10_guessedRight_25 : decode cX10_guessedRight 25 = .ok (.invokevirtual 239, 3) := by decide +kernel
theorem dX10_guessedRight_28 : decode cX10_guessedRight 28 = .ok (.aload_n 0, 1) := by decide +kernel
theorem dX10_guessedRight_29 : decode cX10_guessedRight 29 = .ok (.getfield 10, 3) := by decide +kernel
theorem dX10_guessedRight_32 : decode cX10_guessedRight 32 = .ok (.getfield 85, 3) := by decide +kernel
theorem dX10_guessedRight_35 : decode cX10_guessedRight 35 = .ok (.iload 4, 2) := by decide +kernel
theorem dX10_guessedRight_37 : decode cX10_guessedRight 37 = .ok (.invokevirtual 162, 3) := by decide +kernel
theorem dX10_guessedRight_40 : decode cX10_guessedRight 40 = .ok (.if_icmp .ne 7, 3) := by decide +kernel
theorem dX10_guessedRight_43 : decode cX10_guessedRight 43 = .ok (.iconst 1, 1) := by decide +kernel
theorem dX10_guessedRight_44 : decode cX10_guessedRight 44 = .ok (.goto 4, 3) := by decide +kernel
theorem dX10_guessedRight_0 : decode cX10_guessedRight 0 = .ok (.iconst 0, 1) := by decide +kernel
theorem dX10_guessedRight_1 : decode cX10_guessedRight 1 = .ok (.istore_n 3, 1) := by decide +kernel
theorem dX10_guessedRight_2 : decode cX10_guessedRight 2 = .ok (.iload_n 1, 1) := by decide +kernel
theorem dX10_guessedRight_3 : decode cX10_guessedRight 3 = .ok (.istore 4, 2) := by decide +kernel
theorem dX10_followersIf_91 : decode cX10_followersIf 91 = .ok (.iload_n 3, 1) := by decide +kernel
theorem dX10_followersIf_92 : decode cX10_followersIf 92 = .ok (.ireturn, 1) := by decide +kernel
theorem dX10_followersIf_83 : decode cX10_followersIf 83 = .ok (.iadd, 1) := by decide +kernel
theorem dX10_followersIf_84 : decode cX10_followersIf 84 = .ok (.istore_n 3, 1) := by decide +kernel
theorem dX10_followersIf_85 : decode cX10_followersIf 85 = .ok (.iinc 4 1, 3) := by decide +kernel
theorem dX10_followersIf_88 : decode cX10_followersIf 88 = .ok (.goto (-63), 3) := by decide +kernel
theorem dX10_followersIf_82 : decode cX10_followersIf 82 = .ok (.iconst 0, 1) := by decide +kernel
theorem dX10_followersIf_25 : decode cX10_followersIf 25 = .ok (.iload 4, 2) := by decide +kernel
theorem dX10_followersIf_27 : decode cX10_followersIf 27 = .ok (.aload_n 0, 1) := by decide +kernel
theorem dX10_followersIf_28 : decode cX10_followersIf 28 = .ok (.getfield 10, 3) := by decide +kernel
theorem dX10_followersIf_31 : decode cX10_followersIf 31 = .ok (.getfield 85, 3) := by decide +kernel
theorem dX10_followersIf_34 : decode cX10_followersIf 34 = .ok (.getfield 114, 3) := by decide +kernel
theorem dX10_followersIf_37 : decode cX10_followersIf 37 = .ok (.if_icmp .ge 54, 3) := by decide +kernel
theorem dX10_followersIf_40 : decode cX10_followersIf 40 = .ok (.iload_n 3, 1) := by decide +kernel
theorem dX10_followersIf_41 : decode cX10_followersIf 41 = .ok (.aload_n 0, 1) := by decide +kernel
theorem dX10_followersIf_42 : decode cX10_followersIf 42 = .ok (.getfield 41, 3) := by decide +kernel
theorem dX10_followersIf_45 : decode cX10_followersIf 45 = .ok (.aload_n 0, 1) := by decide +kernel
theorem dX10_followersIf_46 : decode cX10_followersIf 46 = .ok (.getfield 10, 3) := by decide +kernel
theorem dX10_followersIf_49 : decode cX10_followersIf 49 = .ok (.getfield 85, 3) := by decide +kernel
theorem dX10_followersIf_52 : decode cX10_followersIf 52 = .ok (.getfield 217, 3) := by decide +kernel
theorem dX10_followersIf_55 : decode cX10_followersIf 55 = .ok (.iload 4, 2) := by decide +kernel
theorem dX10_followersIf_57 : decode cX10_followersIf 57 = .ok (.iaload, 1) := by decide +kernel
theorem dX10_followersIf_58 : decode cX10_followersIf 58 = .ok (.aload_n 0, 1) := by decide +kernel
theorem dX10_followersIf_59 : decode cX10_followersIf 59 = .ok (.getfield 10, 3) := by decide +kernel
theorem dX10_followersIf_62 : decode cX10_followersIf 62 = .ok (.getfield 85, 3) := by decide +kernel
theorem dX10_followersIf_65 : decode cX10_followersIf 65 = .ok (.getfield 220, 3) := by decide +kernel
theorem dX10_followersIf_68 : decode cX10_followersIf 68 = .ok (.iload 4, 2) := by decide +kernel
theorem dX10_followersIf_70 : decode cX10_followersIf 70 = .ok (.iaload, 1) := by decide +kernel
theorem dX10_followersIf_71 : decode cX10_followersIf 71 = .ok (.invokevirtual 236, 3) := by decide +kernel
theorem dX10_followersIf_74 : decode cX10_followersIf 74 = .ok (.iconst (-1), 1) := by decide +kernel
theorem dX10_followersIf_75 : decode cX10_followersIf 75 = .ok (.if_icmp .eq 7, 3) := by decide +kernel
theorem dX10_followersIf_78 : decode cX10_followersIf 78 = .ok (.iconst 1, 1) := by decide +kernel
theorem dX10_followersIf_79 : decode cX10_followersIf 79 = .ok (.goto 4, 3) := by decide +kernel
theorem dX10_followersIf_0 : decode cX10_followersIf 0 = .ok (.aload_n 0, 1) := by decide +kernel
theorem dX10_followersIf_1 : decode cX10_followersIf 1 = .ok (.getfield 41, 3) := by decide +kernel
theorem dX10_followersIf_4 : decode cX10_followersIf 4 = .ok (.aload_n 0, 1) := by decide +kernel
theorem dX10_followersIf_5 : decode cX10_followersIf 5 = .ok (.getfield 37, 3) := by decide +kernel
theorem dX10_followersIf_8 : decode cX10_followersIf 8 = .ok (.invokevirtual 400, 3) := by decide +kernel
theorem dX10_followersIf_11 : decode cX10_followersIf 11 = .ok (.aload_n 0, 1) := by decide +kernel
theorem dX10_followersIf_12 : decode cX10_followersIf 12 = .ok (.getfield 41, 3) := by decide +kernel
theorem dX10_followersIf_15 : decode cX10_followersIf 15 = .ok (.iload_n 1, 1) := by decide +kernel
theorem dX10_followersIf_16 : decode cX10_followersIf 16 = .ok (.iload_n 2, 1) := by decide +kernel
theorem dX10_followersIf_17 : decode cX10_followersIf 17 = .ok (.invokevirtual 403, 3) := by decide +kernel
theorem dX10_followersIf_20 : decode cX10_followersIf 20 = .ok (.iconst 0, 1) := by decide +kernel
theorem dX10_followersIf_21 : decode cX10_followersIf 21 = .ok (.istore_n 3, 1) := by decide +kernel
theorem dX10_followersIf_22 : decode cX10_followersIf 22 = .ok (.iconst 0, 1) := by decide +kernel
theorem dX10_followersIf_23 : decode cX10_followersIf 23 = .ok (.istore 4, 2) := by decide +kernel
/-! the object's quiet methods; now stands at h.2.2 x 0 -/
def rpN (Q : zQ) (h : zH) (x : Nat) : Prop := rpQ Q h (h.2.2 x 0) ∧ x < h.2.2 x 0 ∧ h.2.2 x 0 + 13 ≤ x + 171
theorem rpN_sm {Q : zQ} {h h' : zH} {x b n : Nat} (z : sm b n h h') (hb : x + 171 ≤ b) (hN : rpN Q h x) : rpN Q h' x := by
  unfold rpN at hN ⊢
  rw [z.2]
  exact ⟨rpQ_sm z (by omega) hN.1, hN.2⟩
def ca_X10_marginsFrom : (zQ × Nat × Int32) → List zV := fun (Q, x, le) => [vR 19 0 x, vI le]
def cp_X10_marginsFrom : (zQ × Nat × Int32) → zH → Prop := fun (Q, x, le) h => rpN Q h x
def cf_X10_marginsFrom : (zQ × Nat × Int32) → zH → Int32 := fun (Q, x, le) h => nI (fb_ct (fun i => decide (le ≤ h.1 (x + 228) i)) (dP Q.1))
theorem rc_X10_marginsFrom : ∀ x : (zQ × Nat × Int32), ∃ (j a : Nat) (As : List zV), ca_X10_marginsFrom x = vR (10 + 9) j a :: As := by
  rintro ⟨⟨S, K, L⟩, x, le⟩
  exact ⟨_, _, _, rfl⟩
set_option maxHeartbeats 4000000 in
set_option maxRecDepth 100000 in
theorem m_X10_marginsFrom : zM yX10_marginsFrom cX10_marginsFrom 4 (some .int) ({ frames := 0, cells := 0, slots := 0, locals := 0 } : Room) (zcI ca_X10_marginsFrom cp_X10_marginsFrom cf_X10_marginsFrom) := by
  refine zM_of (by decide) ?_
  rintro X Y ⟨⟨S, K, L⟩, x, le⟩ h hN O E hR
  have hS : rpS S h (h.2.2 x 0 + 1) := hN.1.1
  have hP : dP S ≤ 28 := hS.2.1.2
  have B_42 := zr_iload_n (X := X) (Y := Y) (u := 0) (v := 0) O dX10_marginsFrom_42 rfl (zr_ireturn O E (Nat.le_refl _) (Nat.le_refl _) dX10_marginsFrom_43)
  have L_4 : ∀ nn : Nat, zSd X Y 0 0 4 ((fun k ls st h1 => ∃ (i : Nat) (y z : Int32), k = dP S - i ∧ i ≤ dP S ∧ ls = [some (vR 19 0 x), some (vI le), some (vI y), some (vI z)] ∧ y = nI (fb_ct (fun i => decide (le ≤ h.1 (x + 228) i)) i) ∧ z = nI i ∧ st = [] ∧ h = h1 : Nat → zT) nn) := by
    refine zSd_loop (fun nn ih => ?_)
    have B_34 := zr_iadd (X := X) (Y := Y) (u := 0) (v := 0) O dX10_marginsFrom_34 (zr_istore_n O dX10_marginsFrom_35 rfl (zr_iinc (c := 1) O dX10_marginsFrom_36 rfl (zr_goto (tgt := 4) O dX10_marginsFrom_39 rfl ih)))
    have B_33 := zr_iconst (X := X) (Y := Y) (u := 0) (v := 0) (x := 0) O dX10_marginsFrom_33 rfl (B_34)
    have B_4 := zr_iload_n (X := X) (Y := Y) (u := 0) (v := 0) O dX10_marginsFrom_4 rfl (zr_aload_n O dX10_marginsFrom_5 rfl (zr_gR (ci := 9) (j := 0) (off := 0) (t := 16) (n := 0) O zc_9 (by decide) rfl tw_287 dX10_marginsFrom_6 (zr_gS (ci := 6) (j := 0) (off := 1) (t := 15) (n := 0) O zc_6 (by decide) rfl tw_172 dX10_marginsFrom_9 (zr_gI (ci := 5) (j := 4) O zc_5 (by decide) rfl tw_55 dX10_marginsFrom_12 (zr_icge (tgt := 42) O dX10_marginsFrom_15 rfl B_42 (zr_iload_n O dX10_marginsFrom_18 rfl (zr_aload_n O dX10_marginsFrom_19 rfl (zr_gS (ci := 9) (j := 14) (off := 228) (t := 1) (n := 28) O zc_9 (by decide) rfl tw_301 dX10_marginsFrom_20 (zr_iload_n O dX10_marginsFrom_23 rfl (zr_iald O dX10_marginsFrom_24 (zr_iload_n O dX10_marginsFrom_25 rfl (zr_iclt (tgt := 33) O dX10_marginsFrom_26 rfl B_33 (zr_iconst (x := 1) O dX10_marginsFrom_29 rfl (zr_goto (tgt := 34) O dX10_marginsFrom_30 rfl B_34))))))))))))))
    refine zSd_weak B_4 (fun ls st h1 t => ?_)
    obtain ⟨i, y, z, rfl, hi, rfl, rfl, rfl, rfl, rfl⟩ := t
    refine ⟨fun cq => ⟨zri ?_, rfl⟩, fun cq => ?_⟩
    · rw [hS.2.1.1] at cq
      have := (nI_leI (by omega) (by omega)).mp cq
      rw [show i = dP S by omega]
      rfl
    · rw [hS.2.1.1] at cq
      have hi2 : i < dP S := Nat.not_le.mp (fun z => cq ((nI_leI (by omega) (by omega)).mpr z))
      refine ⟨i, rfl, by omega, zmg (k := _) (c := h.1 (x + 228) i < le) (x := 0) (y := 1) ?_⟩
      refine ⟨dP S - (i + 1), by omega, i + 1, _, _, rfl, by omega, rfl, ?_, nI_1 i, rfl, rfl⟩
      rw [fb_ct_succ]
      by_cases hz : h.1 (x + 228) i < le
      · rw [if_pos hz, if_neg (by rw [decide_eq_true_eq]; exact Int32.not_le.mpr hz)]
        exact Int32.add_zero _
      · rw [if_neg hz, if_pos (by rw [decide_eq_true_eq]; exact Int32.not_lt.mp hz)]
        exact nI_1 _
  have B_4 := zSd_any L_4
  have B_0 := zr_iconst (X := X) (Y := Y) (u := 0) (v := 0) (x := 0) O dX10_marginsFrom_0 rfl (zr_istore_n O dX10_marginsFrom_1 rfl (zr_iconst (x := 0) O dX10_marginsFrom_2 rfl (zr_istore_n O dX10_marginsFrom_3 rfl (B_4))))
  refine ⟨rfl, Nat.le_of_ble_eq_true rfl, _, B_0, ?_⟩
  exact ⟨dP S - 0, 0, _, _, rfl, Nat.zero_le _, rfl, rfl, rfl, rfl, rfl⟩
/-- all blocks come back for sure at a heat -/
def sfA (S : zD) (K : zE) (te : Int32) : Bool := decide (¬ fus K (mk (shk S K te) (eN K)) < eK K)
def ca_X10_isSafeAt : (zQ × Nat × Int32) → List zV := fun (Q, x, te) => [vR 19 0 x, vI te]
def cp_X10_isSafeAt : (zQ × Nat × Int32) → zH → Prop := fun (Q, x, te) h => rpN Q h x ∧ 0 < eN Q.2.1 ∧ ∀ i, i < eN Q.2.1 → eP Q.2.1 i < dP Q.1
def cf_X10_isSafeAt : (zQ × Nat × Int32) → zH → Int32 := fun (Q, x, te) _ => bI (sfA Q.1 Q.2.1 te)
theorem rc_X10_isSafeAt : ∀ x : (zQ × Nat × Int32), ∃ (j a : Nat) (As : List zV), ca_X10_isSafeAt x = vR (10 + 9) j a :: As := by
  rintro ⟨⟨S, K, L⟩, x, te⟩
  exact ⟨_, _, _, rfl⟩
set_option maxHeartbeats 4000000 in
set_option maxRecDepth 100000 in
theorem m_X10_isSafeAt : zM yX10_isSafeAt cX10_isSafeAt 2 (some .boolean) ({ frames := 4, cells := 0, slots := 0, locals := 88 } : Room) (zcI ca_X10_isSafeAt cp_X10_isSafeAt cf_X10_isSafeAt) := by
  refine zM_of (by decide) ?_
  rintro X Y ⟨⟨S, K, L⟩, x, te⟩ h ⟨hN, h0, hP⟩ O E hR
  have B_37 := zr_zreturn (X := X) (Y := Y) (u := 0) (v := 0) O E (Nat.le_refl _) (Nat.le_refl _) dX10_isSafeAt_37
  have B_36 := zr_iconst (X := X) (Y := Y) (u := 0) (v := 0) (x := 0) O dX10_isSafeAt_36 rfl (B_37)
  have B_0 := zr_aload_n (X := X) (Y := Y) (u := 0) (v := 0) O dX10_isSafeAt_0 rfl (zr_gR (ci := 9) (j := 0) (off := 0) (t := 16) (n := 0) O zc_9 (by decide) rfl tw_287 dX10_isSafeAt_1 (zr_gS (ci := 6) (j := 1) (off := 8) (t := 10) (n := 0) O zc_6 (by decide) rfl tw_175 dX10_isSafeAt_4 (zr_aload_n O dX10_isSafeAt_7 rfl (zr_gR (ci := 9) (j := 0) (off := 0) (t := 16) (n := 0) O zc_9 (by decide) rfl tw_287 dX10_isSafeAt_8 (zr_gS (ci := 6) (j := 1) (off := 8) (t := 10) (n := 0) O zc_6 (by decide) rfl tw_175 dX10_isSafeAt_11 (zr_aload_n O dX10_isSafeAt_14 rfl (zr_gR (ci := 9) (j := 0) (off := 0) (t := 16) (n := 0) O zc_9 (by decide) rfl tw_287 dX10_isSafeAt_15 (zr_gS (ci := 6) (j := 0) (off := 1) (t := 15) (n := 0) O zc_6 (by decide) rfl tw_172 dX10_isSafeAt_18 (zr_iload_n O dX10_isSafeAt_21 rfl (zr_cI (zr_cV (ci := 0) (n := 2) O m_X1_shakyAt (bn_X1_shakyAt _ ⟨rfl, rfl⟩) vw_X1_shakyAt tw_1035 rc_X1_shakyAt (zrm hR rfl rfl) dX10_isSafeAt_22 (zr_cI (zr_cV (ci := 0) (n := 1) O m_X1_firstUnsafe (bn_X1_firstUnsafe _ ⟨rfl, rfl⟩) vw_X1_firstUnsafe tw_1055 rc_X1_firstUnsafe (zrm hR rfl rfl) dX10_isSafeAt_25 (zr_iconst (x := (-1)) O dX10_isSafeAt_28 rfl (zr_icne (tgt := 36) O dX10_isSafeAt_29 rfl B_36 (zr_iconst (x := 1) O dX10_isSafeAt_32 rfl (zr_goto (tgt := 37) O dX10_isSafeAt_33 rfl B_37)))))))))))))))))
  refine ⟨rfl, Nat.le_of_ble_eq_true rfl, _, B_0, ?_⟩
  have hS : rpS S h (h.2.2 x 0 + 1) := hN.1.1
  have hE : rpE K h (h.2.2 x 0 + 8) := hN.1.2.1
  have h28 : eN K ≤ 28 := hE.2.1.1
  have lm : mk (shk S K te) (eN K) < 2 ^ 28 := Nat.lt_of_lt_of_le (mk_lt _ _) (Nat.pow_le_pow_right (by omega) h28)
  have hk := (vE_b hE.2.1 h0).2.2.2.2.1
  refine ⟨(S, K, h.2.2 x 0 + 8, h.2.2 x 0 + 1, te), rfl, ⟨hE, hS, hP⟩, (K, h.2.2 x 0 + 8, mk (shk S K te) (eN K)), rfl, ⟨hE, h0, lm⟩, fun cq => ⟨Or.inl rfl, zri ?_, rfl⟩, fun cq => ⟨Or.inr rfl, zri ?_, rfl⟩⟩
  · replace cq : ¬ fuI K (mk (shk S K te) (eN K)) = -1 := cq
    show (0 : Int32) = bI (sfA S K te)
    by_cases hz : fus K (mk (shk S K te) (eN K)) < eK K
    · rw [sfA, decide_eq_false (fun z => z hz)]; rfl
    · rw [fuI, if_neg hz] at cq; exact absurd rfl cq
  · replace cq : fuI K (mk (shk S K te) (eN K)) = -1 := cq
    show (1 : Int32) = bI (sfA S K te)
    by_cases hz : fus K (mk (shk S K te) (eN K)) < eK K
    · rw [fuI, if_pos hz] at cq
      have h3 := congrArg Int32.toInt cq
      rw [nI_toInt (by omega)] at h3
      exact absurd h3 (by have : (-1 : Int32).toInt = -1 := by decide
                          omega)
    · rw [sfA, decide_eq_true hz]; rfl
/-- guesses that are right, from a pair on -/
def grt (S : zD) (W : Nat → Int32) (i0 i : Nat) : Bool := decide (i0 ≤ i) && decide (gss S W i = pb S i)
def ca_X10_guessedRight : (zQ × zG × Nat × Nat × Nat) → List zV := fun (Q, L, x, i0, n) => [vR 19 0 x, vI (nI i0), vI (nI n)]
def cp_X10_guessedRight : (zQ × zG × Nat × Nat × Nat) → zH → Prop := fun (Q, L, x, i0, n) h => rpN Q h x ∧ (∀ r, r < 10 → h.1 (x + 187) r = gW L r) ∧ i0 ≤ n ∧ n ≤ dP Q.1
def cf_X10_guessedRight : (zQ × zG × Nat × Nat × Nat) → zH → Int32 := fun (Q, L, x, i0, n) _ => nI (fb_ct (grt Q.1 (gW L) i0) n)
theorem rc_X10_guessedRight : ∀ x : (zQ × zG × Nat × Nat × Nat), ∃ (j a : Nat) (As : List zV), ca_X10_guessedRight x = vR (10 + 9) j a :: As := by
  rintro ⟨⟨S, K, M⟩, L, x, i0, n⟩
  exact ⟨_, _, _, rfl⟩
set_option maxHeartbeats 4000000 in
set_option maxRecDepth 100000 in
theorem m_X10_guessedRight : zM yX10_guessedRight cX10_guessedRight 5 (some .int) ({ frames := 2, cells := 0, slots := 0, locals := 45 } : Room) (zcI ca_X10_guessedRight cp_X10_guessedRight cf_X10_guessedRight) := by
  refine zM_of (by decide) ?_
  rintro X Y ⟨⟨S, K, M⟩, L, x, i0, n⟩ h ⟨hN, hW, hi0, hn⟩ O E hR
  have hS : rpS S h (h.2.2 x 0 + 1) := hN.1.1
  have hP : dP S ≤ 28 := hS.2.1.2
  have hn : n ≤ dP S := hn
  have hi0 : i0 ≤ n := hi0
  have B_56 := zr_iload_n (X := X) (Y := Y) (u := 0) (v := 0) O dX10_guessedRight_56 rfl (zr_ireturn O E (Nat.le_refl _) (Nat.le_refl _) dX10_guessedRight_57)
  have L_5 : ∀ nn : Nat, zSd X Y 0 0 5 ((fun k ls st h1 => ∃ (i : Nat) (y z : Int32), k = n - i ∧ i0 ≤ i ∧ i ≤ n ∧ ls = [some (vR 19 0 x), some (vI (nI i0)), some (vI (nI n)), some (vI y), some (vI z)] ∧ y = nI (fb_ct (grt S (gW L) i0) i) ∧ z = nI i ∧ st = [] ∧ h = h1 : Nat → zT) nn) := by
    refine zSd_loop (fun nn ih => ?_)
    have B_48 := zr_iadd (X := X) (Y := Y) (u := 0) (v := 0) O dX10_guessedRight_48 (zr_istore_n O dX10_guessedRight_49 rfl (zr_iinc (c := 1) O dX10_guessedRight_50 rfl (zr_goto (tgt := 5) O dX10_guessedRight_53 rfl ih)))
    have B_47 := zr_iconst (X := X) (Y := Y) (u := 0) (v := 0) (x := 0) O dX10_guessedRight_47 rfl (B_48)
    have B_5 := zr_iload (X := X) (Y := Y) (u := 0) (v := 0) O dX10_guessedRight_5 (zr_iload_n O dX10_guessedRight_7 rfl (zr_icge (tgt := 56) O dX10_guessedRight_8 rfl B_56 (zr_iload_n O dX10_guessedRight_11 rfl (zr_aload_n O dX10_guessedRight_12 rfl (zr_gS (ci := 9) (j := 11) (off := 185) (t := 12) (n := 0) O zc_9 (by decide) rfl tw_298 dX10_guessedRight_13 (zr_aload_n O dX10_guessedRight_16 rfl (zr_gR (ci := 9) (j := 0) (off := 0) (t := 16) (n := 0) O zc_9 (by decide) rfl tw_287 dX10_guessedRight_17 (zr_gS (ci := 6) (j := 0) (off := 1) (t := 15) (n := 0) O zc_6 (by decide) rfl tw_172 dX10_guessedRight_20 (zr_iload O dX10_guessedRight_23 (zr_cI (zr_cV (ci := 2) (n := 2) O m_X3_guessOf (bn_X3_guessOf _ ⟨rfl, rfl⟩) vw_X3_guessOf tw_935 rc_X3_guessOf (zrm hR rfl rfl) dX10_guessedRight_25 (zr_aload_n O dX10_guessedRight_28 rfl (zr_gR (ci := 9) (j := 0) (off := 0) (t := 16) (n := 0) O zc_9 (by decide) rfl tw_287 dX10_guessedRight_29 (zr_gS (ci := 6) (j := 0) (off := 1) (t := 15) (n := 0) O zc_6 (by decide) rfl tw_172 dX10_guessedRight_32 (zr_iload O dX10_guessedRight_35 (zr_cI (zr_cV (ci := 5) (n := 1) O m_X6_bitOf (bn_X6_bitOf _ ⟨rfl, rfl⟩) vw_X6_bitOf tw_418 rc_X6_bitOf (zrm hR rfl rfl) dX10_guessedRight_37 (zr_icne (tgt := 47) O dX10_guessedRight_40 rfl B_47 (zr_iconst (x := 1) O dX10_guessedRight_43 rfl (zr_goto (tgt := 48) O dX10_guessedRight_44 rfl B_48))))))))))))))))))))
    refine zSd_weak B_5 (fun ls st h1 t => ?_)
    obtain ⟨i, y, z, rfl, hi0, hi, rfl, rfl, rfl, rfl, rfl⟩ := t
    refine ⟨fun cq => ⟨zri ?_, rfl⟩, fun cq => ?_⟩
    · have := (nI_leI (by omega) (by omega)).mp cq
      rw [show i = n by omega]
      rfl
    · have hi2 : i < n := Nat.not_le.mp (fun z => cq ((nI_leI (by omega) (by omega)).mpr z))
      refine ⟨(S, L, x + 185, h.2.2 x 0 + 1, i), rfl, ⟨hS, hW, by omega⟩, (S, h.2.2 x 0 + 1, i), rfl, ⟨hS, by omega⟩, zmn (k := _) (c := gss S (gW L) i = pb S i) (x := 1) (y := 0) ?_⟩
      refine ⟨n - (i + 1), by omega, i + 1, _, _, rfl, by omega, by omega, rfl, ?_, nI_1 i, rfl, rfl⟩
      rw [fb_ct_succ]
      by_cases hz : gss S (gW L) i = pb S i
      · rw [if_pos hz, if_pos (by rw [grt, decide_eq_true hi0, decide_eq_true hz]; rfl)]
        exact nI_1 _
      · rw [if_neg hz, if_neg (by rw [grt, decide_eq_false hz]; simp)]
        exact Int32.add_zero _
  have B_5 := zSd_any L_5
  have B_0 := zr_iconst (X := X) (Y := Y) (u := 0) (v := 0) (x := 0) O dX10_guessedRight_0 rfl (zr_istore_n O dX10_guessedRight_1 rfl (zr_iload_n O dX10_guessedRight_2 rfl (zr_istore O dX10_guessedRight_3 (B_5))))
  refine ⟨rfl, Nat.le_of_ble_eq_true rfl, _, B_0, ?_⟩
  refine ⟨n - i0, i0, _, _, rfl, Nat.le_refl _, hi0, rfl, ?_, rfl, rfl, rfl⟩
  have : fb_ct (grt S (gW L) i0) i0 = 0 := by
    rw [fb_ct_zero]
    intro j hj
    rw [grt, decide_eq_false (by omega)]
    rfl
  rw [this]
  rfl
/-- pairs whose bit follows -/
def flw (S : zD) (C : Nat → Nat) : Nat := fb_ct (fun i => decide (otl C (dF S i) (dS S i) ≠ -1)) (dP S)
def ca_X10_followersIf : (zQ × (Nat → Nat) × Nat × Nat × Nat) → List zV := fun (Q, B, x, f, b) => [vR 19 0 x, vI (nI f), vI (nI b)]
def cp_X10_followersIf : (zQ × (Nat → Nat) × Nat × Nat × Nat) → zH → Prop := fun (Q, B, x, f, b) h => rpN Q h x ∧ rpO B h (x + 181) ∧ f < 10 ∧ b < 10
def cq_X10_followersIf : (zQ × (Nat → Nat) × Nat × Nat × Nat) → zH → Option zV → zH → Prop := fun (Q, B, x, f, b) h r h' => r = some (vI (nI (flw Q.1 (oput B f b)))) ∧ sm (x + 183) 2 h h'
theorem rc_X10_followersIf : ∀ x : (zQ × (Nat → Nat) × Nat × Nat × Nat), ∃ (j a : Nat) (As : List zV), ca_X10_followersIf x = vR (10 + 9) j a :: As := by
  rintro ⟨⟨S, K, M⟩, B, x, f, b⟩
  exact ⟨_, _, _, rfl⟩
set_option maxHeartbeats 4000000 in
set_option maxRecDepth 100000 in
theorem m_X10_followersIf : zM yX10_followersIf cX10_followersIf 5 (some .int) ({ frames := 3, cells := 0, slots := 0, locals := 81 } : Room) ((ca_X10_followersIf, cp_X10_followersIf, cq_X10_followersIf) : zC (zQ × (Nat → Nat) × Nat × Nat × Nat)) := by
  refine zM_of (by decide) ?_
  rintro X Y ⟨⟨S, K, M⟩, B, x, f, b⟩ h ⟨hN, hO, hf, hb⟩ O E hR
  have hO : rpO B h (x + 181) := hO
  have hP : dP S ≤ 28 := hN.1.1.2.1.2
  have hB10 : ∀ i, i < 10 → oput B f b i < 1024 := oput_lt (fun i hi => (hO i hi).2) hb
  have B_91 := zr_iload_n (X := X) (Y := Y) (u := 0) (v := 0) O dX10_followersIf_91 rfl (zr_ireturn O E (Nat.le_refl _) (Nat.le_refl _) dX10_followersIf_92)
  have L_25 : ∀ nn : Nat, zSd X Y 0 0 25 ((fun k ls st h1 => ∃ (i : Nat) (y z : Int32), k = dP S - i ∧ i ≤ dP S ∧ ls = [some (vR 19 0 x), some (vI (nI f)), some (vI (nI b)), some (vI y), some (vI z)] ∧ y = nI (fb_ct (fun i => decide (otl (oput B f b) (dF S i) (dS S i) ≠ -1)) i) ∧ z = nI i ∧ st = [] ∧ oW (oput B f b) h (x + 183) h1 : Nat → zT) nn) := by
    refine zSd_loop (fun nn ih => ?_)
    have B_83 := zr_iadd (X := X) (Y := Y) (u := 0) (v := 0) O dX10_followersIf_83 (zr_istore_n O dX10_followersIf_84 rfl (zr_iinc (c := 1) O dX10_followersIf_85 rfl (zr_goto (tgt := 25) O dX10_followersIf_88 rfl ih)))
    have B_82 := zr_iconst (X := X) (Y := Y) (u := 0) (v := 0) (x := 0) O dX10_followersIf_82 rfl (B_83)
    have B_25 := zr_iload (X := X) (Y := Y) (u := 0) (v := 0) O dX10_followersIf_25 (zr_aload_n O dX10_followersIf_27 rfl (zr_gR (ci := 9) (j := 0) (off := 0) (t := 16) (n := 0) O zc_9 (by decide) rfl tw_287 dX10_followersIf_28 (zr_gS (ci := 6) (j := 0) (off := 1) (t := 15) (n := 0) O zc_6 (by decide) rfl tw_172 dX10_followersIf_31 (zr_gI (ci := 5) (j := 4) O zc_5 (by decide) rfl tw_55 dX10_followersIf_34 (zr_icge (tgt := 91) O dX10_followersIf_37 rfl B_91 (zr_iload_n O dX10_followersIf_40 rfl (zr_aload_n O dX10_followersIf_41 rfl (zr_gS (ci := 9) (j := 10) (off := 183) (t := 13) (n := 0) O zc_9 (by decide) rfl tw_297 dX10_followersIf_42 (zr_aload_n O dX10_followersIf_45 rfl (zr_gR (ci := 9) (j := 0) (off := 0) (t := 16) (n := 0) O zc_9 (by decide) rfl tw_287 dX10_followersIf_46 (zr_gS (ci := 6) (j := 0) (off := 1) (t := 15) (n := 0) O zc_6 (by decide) rfl tw_172 dX10_followersIf_49 (zr_gS (ci := 5) (j := 5) (off := 4) (t := 1) (n := 28) O zc_5 (by decide) rfl tw_65 dX10_followersIf_52 (zr_iload O dX10_followersIf_55 (zr_iald O dX10_followersIf_57 (zr_aload_n O dX10_followersIf_58 rfl (zr_gR (ci := 9) (j := 0) (off := 0) (t := 16) (n := 0) O zc_9 (by decide) rfl tw_287 dX10_followersIf_59 (zr_gS (ci := 6) (j := 0) (off := 1) (t := 15) (n := 0) O zc_6 (by decide) rfl tw_172 dX10_followersIf_62 (zr_gS (ci := 5) (j := 6) (off := 5) (t := 1) (n := 28) O zc_5 (by decide) rfl tw_72 dX10_followersIf_65 (zr_iload O dX10_followersIf_68 (zr_iald O dX10_followersIf_70 (zr_cI (zr_cV (ci := 3) (n := 2) O m_X4_bitTold (bn_X4_bitTold _ ⟨rfl, rfl⟩) vw_X4_bitTold tw_386 rc_X4_bitTold (zrm hR rfl rfl) dX10_followersIf_71 (zr_iconst (x := (-1)) O dX10_followersIf_74 rfl (zr_iceq (tgt := 82) O dX10_followersIf_75 rfl B_82 (zr_iconst (x := 1) O dX10_followersIf_78 rfl (zr_goto (tgt := 83) O dX10_followersIf_79 rfl B_83))))))))))))))))))))))))))
    refine zSd_weak B_25 (fun ls st h1 t => ?_)
    obtain ⟨i, y, z, rfl, hi, rfl, rfl, rfl, rfl, hw⟩ := t
    have s1 : sm (x + 183) 2 h h1 := oW_sm hw
    have hN1 : rpN (S, K, M) h1 x := rpN_sm s1 (by omega) hN
    have hS : rpS S h1 (h1.2.2 x 0 + 1) := hN1.1.1
    have hN10 : dN S ≤ 10 := hS.1.2
    refine ⟨fun cq => ⟨zri ?_, s1⟩, fun cq => ?_⟩
    · rw [hS.2.1.1] at cq
      have := (nI_leI (by omega) (by omega)).mp cq
      rw [show i = dP S by omega]
      rfl
    · rw [hS.2.1.1] at cq
      have hi2 : i < dP S := Nat.not_le.mp (fun z => cq ((nI_leI (by omega) (by omega)).mpr z))
      obtain ⟨⟨f1, f2⟩, g1, g2⟩ := hS.2.2.2.1 i hi2
      refine ⟨i, rfl, by omega, i, rfl, by omega, (oput B f b, x + 183, dF S i, dS S i), by rw [f1, g1]; rfl, ⟨oW_rp hw hB10, by omega, by omega⟩, zmg (k := _) (c := otl (oput B f b) (dF S i) (dS S i) = -1) (x := 0) (y := 1) ?_⟩
      refine ⟨dP S - (i + 1), by omega, i + 1, _, _, rfl, by omega, rfl, ?_, nI_1 i, rfl, hw⟩
      rw [fb_ct_succ]
      by_cases hz : otl (oput B f b) (dF S i) (dS S i) = -1
      · rw [if_pos hz, if_neg (by rw [decide_eq_true_eq]; exact fun z => z hz)]
        exact Int32.add_zero _
      · rw [if_neg hz, if_pos (by rw [decide_eq_true_eq]; exact hz)]
        exact nI_1 _
  have B_25 := zSd_any L_25
  have B_0 := zr_aload_n (X := X) (Y := Y) (u := 0) (v := 0) O dX10_followersIf_0 rfl (zr_gS (ci := 9) (j := 10) (off := 183) (t := 13) (n := 0) O zc_9 (by decide) rfl tw_297 dX10_followersIf_1 (zr_aload_n O dX10_followersIf_4 rfl (zr_gS (ci := 9) (j := 9) (off := 181) (t := 13) (n := 0) O zc_9 (by decide) rfl tw_296 dX10_followersIf_5 (zr_cV (ci := 3) (n := 1) O m_X4_copyFrom (bn_X4_copyFrom _ ⟨rfl, rfl⟩) vw_X4_copyFrom tw_398 rc_X4_copyFrom (zrm hR rfl rfl) dX10_followersIf_8 (zr_aload_n O dX10_followersIf_11 rfl (zr_gS (ci := 9) (j := 10) (off := 183) (t := 13) (n := 0) O zc_9 (by decide) rfl tw_297 dX10_followersIf_12 (zr_iload_n O dX10_followersIf_15 rfl (zr_iload_n O dX10_followersIf_16 rfl (zr_cV (ci := 3) (n := 2) O m_X4_put (bn_X4_put _ ⟨rfl, rfl⟩) vw_X4_put tw_405 rc_X4_put (zrm hR rfl rfl) dX10_followersIf_17 (zr_iconst (x := 0) O dX10_followersIf_20 rfl (zr_istore_n O dX10_followersIf_21 rfl (zr_iconst (x := 0) O dX10_followersIf_22 rfl (zr_istore O dX10_followersIf_23 (B_25))))))))))))))
  refine ⟨rfl, Nat.le_of_ble_eq_true rfl, _, B_0, ?_⟩
  refine ⟨(B, x + 183, x + 181), rfl, hO, fun r h1 hq => ?_⟩
  obtain ⟨rfl, hq⟩ := hq
  have hq : oW B h (x + 183) h1 := hq
  refine ⟨(B, x + 183, f, b), rfl, ⟨oW_rp hq (fun i hi => (hO i hi).2), hf, hb⟩, fun r2 h2 hq2 => ?_⟩
  obtain ⟨rfl, hq2⟩ := hq2
  exact ⟨dP S - 0, 0, _, _, rfl, Nat.zero_le _, rfl, rfl, rfl, rfl, oW_tr hq hq2⟩

