theorem dX8_readDigits_101 : decode cX8_readDigits 101 = .ok (.iload_n 2, 1) := by decide +kernel
theorem dX8_readDigits_102 : decode cX8_readDigits 102 = .ok (.ireturn, 1) := by decide +kernel
theorem dX8_readDigits_87 : decode cX8_readDigits 87 = .ok (.aload_n 0, 1) := by decide +kernel
theorem dX8_readDigits_88 : decode cX8_readDigits 88 = .ok (.getfield 38, 3) := by decide +kernel
theorem dX8_readDigits_91 : decode cX8_readDigits 91 = .ok (.iload_n 1, 1) := by decide +kernel
theorem dX8_readDigits_92 : decode cX8_readDigits 92 = .ok (.if_icmp .ne 9, 3) := by decide +kernel
theorem dX8_readDigits_95 : decode cX8_readDigits 95 = .ok (.aload_n 0, 1) := by decide +kernel
theorem dX8_readDigits_96 : decode cX8_readDigits 96 = .ok (.iconst 1, 1) := by decide +kernel
theorem dX8_readDigits_97 : decode cX8_readDigits 97 = .ok (.iload_n 1, 1) := by decide +kernel
theorem dX8_readDigits_98 : decode cX8_readDigits 98 = .ok (.invokevirtual 93, 3) := by decide +kernel
theorem dX8_readDigits_73 : decode cX8_readDigits 73 = .ok (.istore_n 2, 1) := by decide +kernel
theorem dX8_readDigits_74 : decode cX8_readDigits 74 = .ok (.aload_n 0, 1) := by decide +kernel
theorem dX8_readDigits_75 : decode cX8_readDigits 75 = .ok (.dup, 1) := by decide +kernel
theorem dX8_readDigits_76 : decode cX8_readDigits 76 = .ok (.getfield 38, 3) := by decide +kernel
theorem dX8_readDigits_79 : decode cX8_readDigits 79 = .ok (.iconst 1, 1) := by decide +kernel
theorem dX8_readDigits_80 : decode cX8_readDigits 80 = .ok (.iadd, 1) := by decide +kernel
theorem dX8_readDigits_81 : decode cX8_readDigits 81 = .ok (.putfield 38, 3) := by decide +kernel
theorem dX8_readDigits_84 : decode cX8_readDigits 84 = .ok (.goto (-77), 3) := by decide +kernel
theorem dX8_readDigits_56 : decode cX8_readDigits 56 = .ok (.bipush 10, 2) := by decide +kernel
theorem dX8_readDigits_58 : decode cX8_readDigits 58 = .ok (.iload_n 2, 1) := by decide +kernel
theorem dX8_readDigits_59 : decode cX8_readDigits 59 = .ok (.imul, 1) := by decide +kernel
theorem dX8_readDigits_60 : decode cX8_readDigits 60 = .ok (.aload_n 0, 1) := by decide +kernel
theorem dX8_readDigits_61 : decode cX8_readDigits 61 = .ok (.getfield 22, 3) := by decide +kernel
theorem dX8_readDigits_64 : decode cX8_readDigits 64 = .ok (.aload_n 0, 1) := by decide +kernel
theorem dX8_readDigits_65 : decode cX8_readDigits 65 = .ok (.getfield 38, 3) := by decide +kernel
theorem dX8_readDigits_68 : decode cX8_readDigits 68 = .ok (.iaload, 1) := by decide +kernel
theorem dX8_readDigits_69 : decode cX8_readDigits 69 = .ok (.iadd, 1) := by decide +kernel
theorem dX8_readDigits_70 : decode cX8_readDigits 70 = .ok (.bipush 48, 2) := by decide +kernel
theorem dX8_readDigits_72 : decode cX8_readDigits 72 = .ok (.isub, 1) := by decide +kernel
theorem dX8_readDigits_7 : decode cX8_readDigits 7 = .ok (.aload_n 0, 1) := by decide +kernel
theorem dX8_readDigits_8 : decode cX8_readDigits 8 = .ok (.getfield 38, 3) := by decide +kernel
theorem dX8_readDigits_11 : decode cX8_readDigits 11 = .ok (.aload_n 0, 1) := by decide +kernel
theorem dX8_readDigits_12 : decode cX8_readDigits 12 = .ok (.getfield 35, 3) := by decide +kernel
theorem dX8_readDigits_15 : decode cX8_readDigits 15 = .ok (.if_icmp .ge 72, 3) := by decide +kernel
theorem dX8_readDigits_18 : decode cX8_readDigits 18 = .ok (.aload_n 0, 1) := by decide +kernel
theorem dX8_readDigits_19 : decode cX8_readDigits 19 = .ok (.getfield 22, 3) := by decide +kernel
theorem dX8_readDigits_22 : decode cX8_readDigits 22 = .ok (.aload_n 0, 1) := by decide +kernel
theorem dX8_readDigits_23 : decode cX8_readDigits 23 = .ok (.getfield 38, 3) := by decide +kernel
theorem dX8_readDigits_26 : decode cX8_readDigits 26 = .ok (.iaload, 1) := by decide +kernel
theorem dX8_readDigits_27 : decode cX8_readDigits 27 = .ok (.bipush 48, 2) := by decide +kernel
theorem dX8_readDigits_29 : decode cX8_readDigits 29 = .ok (.if_icmp .lt 58, 3) := by decide +kernel
theorem dX8_readDigits_32 : decode cX8_readDigits 32 = .ok (.aload_n 0, 1) := by decide +kernel
theorem dX8_readDigits_33 : decode cX8_readDigits 33 = .ok (.getfield 22, 3) := by decide +kernel
theorem dX8_readDigits_36 : decode cX8_readDigits 36 = .ok (.aload_n 0, 1) := by decide +kernel
theorem dX8_readDigits_37 : decode cX8_readDigits 37 = .ok (.getfield 38, 3) := by decide +kernel
theorem dX8_readDigits_40 : decode cX8_readDigits 40 = .ok (.iaload, 1) := by decide +kernel
theorem dX8_readDigits_41 : decode cX8_readDigits 41 = .ok (.bipush 57, 2) := by decide +kernel
theorem dX8_readDigits_43 : decode cX8_readDigits 43 = .ok (.if_icmp .gt 44, 3) := by decide +kernel
theorem dX8_readDigits_46 : decode cX8_readDigits 46 = .ok (.iload_n 2, 1) := by decide +kernel
theorem dX8_readDigits_47 : decode cX8_readDigits 47 = .ok (.ldc 138, 2) := by decide +kernel
theorem dX8_readDigits_49 : decode cX8_readDigits 49 = .ok (.if_icmp .lt 7, 3) := by decide +kernel
theorem dX8_readDigits_52 : decode cX8_readDigits 52 = .ok (.iload_n 2, 1) := by decide +kernel
theorem dX8_readDigits_53 : decode cX8_readDigits 53 = .ok (.goto 20, 3) := by decide +kernel
theorem dX8_readDigits_0 : decode cX8_readDigits 0 = .ok (.aload_n 0, 1) := by decide +kernel
theorem dX8_readDigits_1 : decode cX8_readDigits 1 = .ok (.getfield 38, 3) := by decide +kernel
theorem dX8_readDigits_4 : decode cX8_readDigits 4 = .ok (.istore_n 1, 1) := by decide +kernel
theorem dX8_readDigits_5 : decode cX8_readDigits 5 = .ok (.iconst 0, 1) := by decide +kernel
theorem dX8_readDigits_6 : decode cX8_readDigits 6 = .ok (.istore_n 2, 1) := by decide +kernel
/-! digits -/
def dgt (T : Nat → Int32) (i : Nat) : Bool := decide ((48 : Int32) ≤ T i ∧ T i ≤ 57)
def dgv (T : Nat → Int32) (p : Nat) : Nat → Int32
  | 0 => 0
  | i + 1 => if dgv T p i < 100000 then 10 * dgv T p i + T (p + i) - 48 else dgv T p i
def dgc (T : Nat → Int32) (n p : Nat) : Nat := fa_first (fun i => !dgt T (p + i)) (n - p)
def flF (h : zH) (r : Nat) (k q : Int32) : zH := if h.1 r 2 = 0 then zsI (zsI h r 2 k) r 1 q else h
def ca_X8_readDigits : (Nat × Nat × Nat) → List zV := fun (r, n, p) => [vR 17 0 r]
def cp_X8_readDigits : (Nat × Nat × Nat) → zH → Prop := fun (r, n, p) h => (h.1 r 5 = nI n ∧ n ≤ 400) ∧ h.1 r 6 = nI p ∧ p ≤ n
def cf_X8_readDigits : (Nat × Nat × Nat) → zH → Int32 := fun (r, n, p) h => dgv (h.1 (r + 8)) p (dgc (h.1 (r + 8)) n p)
def cg_X8_readDigits : (Nat × Nat × Nat) → zH → zH := fun (r, n, p) h => if dgc (h.1 (r + 8)) n p = 0 then flF (zsI h r 6 (nI p)) r 1 (nI p) else zsI h r 6 (nI (p + dgc (h.1 (r + 8)) n p))
theorem rc_X8_readDigits : ∀ x : (Nat × Nat × Nat), ∃ (j a : Nat) (As : List zV), ca_X8_readDigits x = vR (10 + 7) j a :: As := by
  rintro ⟨r, n, p⟩
  exact ⟨_, _, _, rfl⟩
set_option maxHeartbeats 4000000 in
set_option maxRecDepth 100000 in
theorem m_X8_readDigits : zM yX8_readDigits cX8_readDigits 3 (some .int) ({ frames := 1, cells := 0, slots := 0, locals := 22 } : Room) (zcH ca_X8_readDigits cp_X8_readDigits cf_X8_readDigits cg_X8_readDigits) := by
  refine zM_of (by decide) ?_
  rintro X Y ⟨r, n, p⟩ h ⟨⟨hn, hn4⟩, hp, hpn⟩ O E hR
  have hn : h.1 r 5 = nI n := hn
  have hn4 : n ≤ 400 := hn4
  have hp : h.1 r 6 = nI p := hp
  have hpn : p ≤ n := hpn
  have B_101 := zr_iload_n (X := X) (Y := Y) (u := 0) (v := 0) O dX8_readDigits_101 rfl (zr_ireturn O E (Nat.le_refl _) (Nat.le_refl _) dX8_readDigits_102)
  have B_87 := zr_aload_n (X := X) (Y := Y) (u := 0) (v := 0) O dX8_readDigits_87 rfl (zr_gI (ci := 7) (j := 6) O zc_7 (by decide) rfl tw_203 dX8_readDigits_88 (zr_iload_n O dX8_readDigits_91 rfl (zr_icne (tgt := 101) O dX8_readDigits_92 rfl B_101 (zr_aload_n O dX8_readDigits_95 rfl (zr_iconst (x := 1) O dX8_readDigits_96 rfl (zr_iload_n O dX8_readDigits_97 rfl (zr_cVv (zr_cV (ci := 7) (n := 2) O m_X8_fail (bn_X8_fail _ ⟨rfl, rfl⟩) vw_X8_fail tw_607 rc_X8_fail (zrm hR rfl rfl) dX8_readDigits_98 (B_101)))))))))
  have L_7 : ∀ nn : Nat, zSd X Y 0 0 7 ((fun k ls st h1 => ∃ (i : Nat) (z : Int32), k = (n - p) - i ∧ p + i ≤ n ∧ ls = [some (vR 17 0 r), some (vI (nI p)), some (vI z)] ∧ z = dgv (h.1 (r + 8)) p i ∧ st = [] ∧ h1 = zsI h r 6 (nI (p + i)) ∧ ∀ j, j < i → (!dgt (h.1 (r + 8)) (p + j)) = false : Nat → zT) nn) := by
    refine zSd_loop (fun nn ih => ?_)
    have B_73 := zr_istore_n (X := X) (Y := Y) (u := 0) (v := 0) O dX8_readDigits_73 rfl (zr_aload_n O dX8_readDigits_74 rfl (zr_dup O dX8_readDigits_75 (zr_gI (ci := 7) (j := 6) O zc_7 (by decide) rfl tw_203 dX8_readDigits_76 (zr_iconst (x := 1) O dX8_readDigits_79 rfl (zr_iadd O dX8_readDigits_80 (zr_pI (ci := 7) (j := 6) O zc_7 (by decide) rfl rfl rfl tw_203 dX8_readDigits_81 (zr_goto (tgt := 7) O dX8_readDigits_84 rfl ih)))))))
    have B_56 := zr_bipush (X := X) (Y := Y) (u := 0) (v := 0) (x := (10)) O dX8_readDigits_56 (by decide) (zr_iload_n O dX8_readDigits_58 rfl (zr_imul O dX8_readDigits_59 (zr_aload_n O dX8_readDigits_60 rfl (zr_gS (ci := 7) (j := 3) (off := 8) (t := 1) (n := 400) O zc_7 (by decide) rfl tw_199 dX8_readDigits_61 (zr_aload_n O dX8_readDigits_64 rfl (zr_gI (ci := 7) (j := 6) O zc_7 (by decide) rfl tw_203 dX8_readDigits_65 (zr_iald O dX8_readDigits_68 (zr_iadd O dX8_readDigits_69 (zr_bipush (x := (48)) O dX8_readDigits_70 (by decide) (zr_isub O dX8_readDigits_72 (B_73)))))))))))
    have B_7 := zr_aload_n (X := X) (Y := Y) (u := 0) (v := 0) O dX8_readDigits_7 rfl (zr_gI (ci := 7) (j := 6) O zc_7 (by decide) rfl tw_203 dX8_readDigits_8 (zr_aload_n O dX8_readDigits_11 rfl (zr_gI (ci := 7) (j := 5) O zc_7 (by decide) rfl tw_202 dX8_readDigits_12 (zr_icge (tgt := 87) O dX8_readDigits_15 rfl B_87 (zr_aload_n O dX8_readDigits_18 rfl (zr_gS (ci := 7) (j := 3) (off := 8) (t := 1) (n := 400) O zc_7 (by decide) rfl tw_199 dX8_readDigits_19 (zr_aload_n O dX8_readDigits_22 rfl (zr_gI (ci := 7) (j := 6) O zc_7 (by decide) rfl tw_203 dX8_readDigits_23 (zr_iald O dX8_readDigits_26 (zr_bipush (x := (48)) O dX8_readDigits_27 (by decide) (zr_iclt (tgt := 87) O dX8_readDigits_29 rfl B_87 (zr_aload_n O dX8_readDigits_32 rfl (zr_gS (ci := 7) (j := 3) (off := 8) (t := 1) (n := 400) O zc_7 (by decide) rfl tw_199 dX8_readDigits_33 (zr_aload_n O dX8_readDigits_36 rfl (zr_gI (ci := 7) (j := 6) O zc_7 (by decide) rfl tw_203 dX8_readDigits_37 (zr_iald O dX8_readDigits_40 (zr_bipush (x := (57)) O dX8_readDigits_41 (by decide) (zr_icgt (tgt := 87) O dX8_readDigits_43 rfl B_87 (zr_iload_n O dX8_readDigits_46 rfl (zr_ldc (x := (100000)) O dX8_readDigits_47 tw_619 (zr_iclt (tgt := 56) O dX8_readDigits_49 rfl B_56 (zr_iload_n O dX8_readDigits_52 rfl (zr_goto (tgt := 73) O dX8_readDigits_53 rfl B_73)))))))))))))))))))))))
    refine zSd_weak B_7 (fun ls st h1 t => ?_)
    obtain ⟨i, z, rfl, hi, rfl, rfl, rfl, rfl, hb⟩ := t
    have ne8 : r + 8 ≠ r := by omega
    have e5 : (zsI h r 6 (nI (p + i))).1 r 5 = nI n := by rw [zsI_W, zsW_s, zup_n _ _ (by decide : (5 : Nat) ≠ 6)]; exact hn
    have e6 : (zsI h r 6 (nI (p + i))).1 r 6 = nI (p + i) := by rw [zsI_W, zsW_s, zup_s]
    have e8 : (zsI h r 6 (nI (p + i))).1 (r + 8) = h.1 (r + 8) := by rw [zsI_W, zsW_n _ _ ne8]
    have exA : dgc (h.1 (r + 8)) n p = i → i ≠ 0 → zsI h r 6 (nI (p + i)) = cg_X8_readDigits (r, n, p) h := by
      intro e1 e2
      show _ = if dgc (h.1 (r + 8)) n p = 0 then _ else _
      rw [e1, if_neg e2]
    have exB : dgc (h.1 (r + 8)) n p = i → i = 0 → cg_X8_fail (r, 1, nI p) (zsI h r 6 (nI (p + i))) = cg_X8_readDigits (r, n, p) h := by
      intro e1 e2
      subst e2
      show flF (zsI h r 6 (nI (p + 0))) r 1 (nI p) = if dgc (h.1 (r + 8)) n p = 0 then _ else _
      rw [e1, if_pos rfl, Nat.add_zero]
    have exV : dgc (h.1 (r + 8)) n p = i → dgv (h.1 (r + 8)) p i = cf_X8_readDigits (r, n, p) h := by
      intro e1
      show _ = dgv (h.1 (r + 8)) p (dgc (h.1 (r + 8)) n p)
      rw [e1]
    refine ⟨fun cq => ?_, fun cq => ⟨p + i, e6, ?_, fun dq => ?_, fun dq => ⟨p + i, e6, ?_, fun eq => ?_, fun eq => ?_⟩⟩⟩
    · rw [e5, e6] at cq
      have := (nI_leI (by omega) (by omega)).mp cq
      have ei : dgc (h.1 (r + 8)) n p = i := by
        unfold dgc
        rw [show n - p = i by omega, first_end hb]
      refine ⟨fun fq => ⟨zri (exV ei), exA ei ?_⟩, fun fq => ⟨(r, 1, nI p), rfl, trivial, zri (exV ei), exB ei ?_⟩⟩
      · rw [e6] at fq
        exact fun z => fq (by rw [z]; rfl)
      · rw [e6] at fq
        have := (nI_eq (by omega) (by omega)).mp fq
        omega
    · rw [e5, e6] at cq
      have : ¬ n ≤ p + i := fun z => cq ((nI_leI (by omega) (by omega)).mpr z)
      omega
    · rw [e5, e6] at cq
      have hlt : ¬ n ≤ p + i := fun z => cq ((nI_leI (by omega) (by omega)).mpr z)
      rw [e8] at dq
      have ei : dgc (h.1 (r + 8)) n p = i := first_at (by omega) (by rw [dgt, decide_eq_false (fun z => Int32.not_le.mpr dq z.1)]; rfl) hb
      refine ⟨fun fq => ⟨zri (exV ei), exA ei ?_⟩, fun fq => ⟨(r, 1, nI p), rfl, trivial, zri (exV ei), exB ei ?_⟩⟩
      · rw [e6] at fq
        exact fun z => fq (by rw [z]; rfl)
      · rw [e6] at fq
        have := (nI_eq (by omega) (by omega)).mp fq
        omega
    · rw [e5, e6] at cq
      have : ¬ n ≤ p + i := fun z => cq ((nI_leI (by omega) (by omega)).mpr z)
      omega
    · rw [e5, e6] at cq
      have hlt : ¬ n ≤ p + i := fun z => cq ((nI_leI (by omega) (by omega)).mpr z)
      rw [e8] at eq
      have ei : dgc (h.1 (r + 8)) n p = i := first_at (by omega) (by rw [dgt, decide_eq_false (fun z => Int32.not_le.mpr eq z.2)]; rfl) hb
      refine ⟨fun fq => ⟨zri (exV ei), exA ei ?_⟩, fun fq => ⟨(r, 1, nI p), rfl, trivial, zri (exV ei), exB ei ?_⟩⟩
      · rw [e6] at fq
        exact fun z => fq (by rw [z]; rfl)
      · rw [e6] at fq
        have := (nI_eq (by omega) (by omega)).mp fq
        omega
    · rw [e5, e6] at cq
      have hlt : ¬ n ≤ p + i := fun z => cq ((nI_leI (by omega) (by omega)).mpr z)
      rw [e8] at dq eq
      have hd : dgt (h.1 (r + 8)) (p + i) = true := decide_eq_true ⟨Int32.not_lt.mp dq, Int32.not_lt.mp eq⟩
      have eh : zsI (zsI h r 6 (nI (p + i))) r 6 ((zsI h r 6 (nI (p + i))).1 r 6 + 1) = zsI h r 6 (nI (p + (i + 1))) := by
        rw [e6, nI_1]
        simp only [zsI_W, zsW_s, zsW_W, zup_up]
        rfl
      have hb2 : ∀ j, j < i + 1 → (!dgt (h.1 (r + 8)) (p + j)) = false := fun j hj => by
        by_cases e : j = i
        · rw [e, hd]; rfl
        · exact hb j (by omega)
      refine ⟨fun fq => ⟨p + i, e6, by omega, n - p - (i + 1), by omega, i + 1, _, rfl, by omega, rfl, ?_, rfl, eh, hb2⟩, fun fq => ⟨n - p - (i + 1), by omega, i + 1, _, rfl, by omega, rfl, ?_, rfl, eh, hb2⟩⟩
      · rw [dgv, if_pos fq, e8]
      · rw [dgv, if_neg fq]
  have B_7 := zSd_any L_7
  have B_0 := zr_aload_n (X := X) (Y := Y) (u := 0) (v := 0) O dX8_readDigits_0 rfl (zr_gI (ci := 7) (j := 6) O zc_7 (by decide) rfl tw_203 dX8_readDigits_1 (zr_istore_n O dX8_readDigits_4 rfl (zr_iconst (x := 0) O dX8_readDigits_5 rfl (zr_istore_n O dX8_readDigits_6 rfl (B_7)))))
  refine ⟨rfl, Nat.le_of_ble_eq_true rfl, _, B_0, ?_⟩
  refine ⟨n - p - 0, 0, 0, rfl, hpn, ?_, rfl, rfl, ?_, fun j hj => absurd hj (by omega)⟩
  · show [_, some (vI (h.1 r 6)), _] = _
    rw [hp]
  rw [Nat.add_zero, ← hp, zsI_W, zup_self, zsW_self]

