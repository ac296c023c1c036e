theorem dX8_isWord_49 : decode cX8_isWord 49 = .ok (.iconst 1, 1) := by decide +kernel
theorem dX8_isWord_50 : decode cX8_isWord 50 = .ok (.ireturn, 1) := by decide +kernel
theorem dX8_isWord_43 : decode cX8_isWord 43 = .ok (.iinc 3 1, 3) := by decide +kernel
theorem dX8_isWord_46 : decode cX8_isWord 46 = .ok (.goto (-29), 3) := by decide +kernel
theorem dX8_isWord_17 : decode cX8_isWord 17 = .ok (.iload_n 3, 1) := by decide +kernel
theorem dX8_isWord_18 : decode cX8_isWord 18 = .ok (.aload_n 2, 1) := by decide +kernel
theorem dX8_isWord_19 : decode cX8_isWord 19 = .ok (.invokevirtual 97, 3) := by decide +kernel
theorem dX8_isWord_22 : decode cX8_isWord 22 = .ok (.if_icmp .ge 27, 3) := by decide +kernel
theorem dX8_isWord_25 : decode cX8_isWord 25 = .ok (.aload_n 0, 1) := by decide +kernel
theorem dX8_isWord_26 : decode cX8_isWord 26 = .ok (.getfield 22, 3) := by decide +kernel
theorem dX8_isWord_29 : decode cX8_isWord 29 = .ok (.iload_n 1, 1) := by decide +kernel
theorem dX8_isWord_30 : decode cX8_isWord 30 = .ok (.iload_n 3, 1) := by decide +kernel
theorem dX8_isWord_31 : decode cX8_isWord 31 = .ok (.iadd, 1) := by decide +kernel
theorem dX8_isWord_32 : decode cX8_isWord 32 = .ok (.iaload, 1) := by decide +kernel
theorem dX8_isWord_33 : decode cX8_isWord 33 = .ok (.aload_n 2, 1) := by decide +kernel
theorem dX8_isWord_34 : decode cX8_isWord 34 = .ok (.iload_n 3, 1) := by decide +kernel
theorem dX8_isWord_35 : decode cX8_isWord 35 = .ok (.invokevirtual 102, 3) := by decide +kernel
theorem dX8_isWord_38 : decode cX8_isWord 38 = .ok (.if_icmp .eq 5, 3) := by decide +kernel
theorem dX8_isWord_41 : decode cX8_isWord 41 = .ok (.iconst 0, 1) := by decide +kernel
theorem dX8_isWord_42 : decode cX8_isWord 42 = .ok (.ireturn, 1) := by decide +kernel
theorem dX8_isWord_15 : decode cX8_isWord 15 = .ok (.iconst 0, 1) := by decide +kernel
theorem dX8_isWord_16 : decode cX8_isWord 16 = .ok (.istore_n 3, 1) := by decide +kernel
theorem dX8_isWord_0 : decode cX8_isWord 0 = .ok (.aload_n 0, 1) := by decide +kernel
theorem dX8_isWord_1 : decode cX8_isWord 1 = .ok (.getfield 38, 3) := by decide +kernel
theorem dX8_isWord_4 : decode cX8_isWord 4 = .ok (.iload_n 1, 1) := by decide +kernel
theorem dX8_isWord_5 : decode cX8_isWord 5 = .ok (.isub, 1) := by decide +kernel
theorem dX8_isWord_6 : decode cX8_isWord 6 = .ok (.aload_n 2, 1) := by decide +kernel
theorem dX8_isWord_7 : decode cX8_isWord 7 = .ok (.invokevirtual 97, 3) := by decide +kernel
theorem dX8_isWord_10 : decode cX8_isWord 10 = .ok (.if_icmp .eq 5, 3) := by decide +kernel
theorem dX8_isWord_13 : decode cX8_isWord 13 = .ok (.iconst 0, 1) := by decide +kernel
theorem dX8_isWord_14 : decode cX8_isWord 14 = .ok (.ireturn, 1) := by decide +kernel
theorem nI_sub {a b : Nat} (h : b ≤ a) : nI a - nI b = nI (a - b) := by
  have e : nI a = nI (a - b) + nI b := by rw [nI_add]; congr 1; omega
  rw [e]
  exact Int32.add_sub_cancel _ _
/-- the text from a place to another is a word -/
def isw (T : Nat → Int32) (q p n : Nat) : Bool := decide (p - q = stL n) && decide (∀ j, j < stL n → T (q + j) = stC n j)
def ca_X8_isWord : (Nat × Nat × Nat × Nat × Nat) → List zV := fun (r, q, p, n, a) => [vR 17 0 r, vI (nI q), vR 7 n a]
def cp_X8_isWord : (Nat × Nat × Nat × Nat × Nat) → zH → Prop := fun (r, q, p, n, a) h => h.1 r 6 = nI p ∧ (q ≤ p ∧ p ≤ 400) ∧ n < zNT
def cf_X8_isWord : (Nat × Nat × Nat × Nat × Nat) → zH → Int32 := fun (r, q, p, n, a) h => bI (isw (h.1 (r + 8)) q p n)
theorem rc_X8_isWord : ∀ x : (Nat × Nat × Nat × Nat × Nat), ∃ (j a : Nat) (As : List zV), ca_X8_isWord x = vR (10 + 7) j a :: As := by
  rintro ⟨r, q, p, n, a⟩
  exact ⟨_, _, _, rfl⟩
set_option maxHeartbeats 4000000 in
set_option maxRecDepth 100000 in
theorem m_X8_isWord : zM yX8_isWord cX8_isWord 4 (some .boolean) ({ frames := 4, cells := 0, slots := 0, locals := 85 } : Room) (zcI ca_X8_isWord cp_X8_isWord cf_X8_isWord) := by
  refine zM_of (by decide) ?_
  rintro X Y ⟨r, q, p, n, a⟩ h ⟨hp, ⟨hqp, hp4⟩, hn⟩ O E hR
  have hp : h.1 r 6 = nI p := hp
  have hqp : q ≤ p := hqp
  have hp4 : p ≤ 400 := hp4
  have hlt := stL_lt n hn
  have B_49 := zr_iconst (X := X) (Y := Y) (u := 0) (v := 0) (x := 1) O dX8_isWord_49 rfl (zr_zreturn O E (Nat.le_refl _) (Nat.le_refl _) dX8_isWord_50)
  have L_17 : ∀ nn : Nat, zSd X Y 0 0 17 ((fun k ls st h1 => ∃ (i : Nat) (z : Int32), k = stL n - i ∧ i ≤ stL n ∧ ls = [some (vR 17 0 r), some (vI (nI q)), some (vR 7 n a), some (vI z)] ∧ z = nI i ∧ st = [] ∧ h = h1 ∧ p - q = stL n ∧ ∀ j, j < i → h.1 (r + 8) (q + j) = stC n j : Nat → zT) nn) := by
    refine zSd_loop (fun nn ih => ?_)
    have B_43 := zr_iinc (X := X) (Y := Y) (u := 0) (v := 0) (c := 1) O dX8_isWord_43 rfl (zr_goto (tgt := 17) O dX8_isWord_46 rfl ih)
    have B_17 := zr_iload_n (X := X) (Y := Y) (u := 0) (v := 0) O dX8_isWord_17 rfl (zr_aload_n O dX8_isWord_18 rfl (zr_cI (zr_cK (n := 0) O m_J0_length_8abf5 (bn_J0_length_8abf5 _ ⟨rfl, rfl⟩) vw_J0_length_8abf5 tw_555 rc_J0_length_8abf5 (zrm hR rfl rfl) dX8_isWord_19 (zr_icge (tgt := 49) O dX8_isWord_22 rfl B_49 (zr_aload_n O dX8_isWord_25 rfl (zr_gS (ci := 7) (j := 3) (off := 8) (t := 1) (n := 400) O zc_7 (by decide) rfl tw_199 dX8_isWord_26 (zr_iload_n O dX8_isWord_29 rfl (zr_iload_n O dX8_isWord_30 rfl (zr_iadd O dX8_isWord_31 (zr_iald O dX8_isWord_32 (zr_aload_n O dX8_isWord_33 rfl (zr_iload_n O dX8_isWord_34 rfl (zr_cI (zr_cK (n := 1) O m_J0_charAt_5068e (bn_J0_charAt_5068e _ ⟨rfl, rfl⟩) vw_J0_charAt_5068e tw_565 rc_J0_charAt_5068e (zrm hR rfl rfl) dX8_isWord_35 (zr_iceq (tgt := 43) O dX8_isWord_38 rfl B_43 (zr_iconst (x := 0) O dX8_isWord_41 rfl (zr_zreturn O E (Nat.le_refl _) (Nat.le_refl _) dX8_isWord_42)))))))))))))))))
    refine zSd_weak B_17 (fun ls st h1 t => ?_)
    obtain ⟨i, z, rfl, hi, rfl, rfl, rfl, rfl, hpq, hb⟩ := t
    refine ⟨(n, a), rfl, hn, fun cq => ⟨Or.inr rfl, zri ?_, rfl⟩, fun cq => ?_⟩
    · have := (nI_leI (by omega) (by omega)).mp cq
      have hi2 : i = stL n := by omega
      subst hi2
      show (1 : Int32) = bI (isw (h.1 (r + 8)) q p n)
      rw [isw, decide_eq_true hpq, decide_eq_true hb]
      rfl
    · have hi2 : i < stL n := Nat.not_le.mp (fun z => cq ((nI_leI (by omega) (by omega)).mpr z))
      refine ⟨q + i, nI_add _ _, by omega, (n, a, i), rfl, ⟨hn, hi2⟩, fun dq => ?_, fun dq => ⟨Or.inl rfl, zri ?_, rfl⟩⟩
      · refine ⟨stL n - (i + 1), by omega, i + 1, _, rfl, by omega, rfl, nI_1 i, rfl, rfl, hpq, fun j hj => ?_⟩
        by_cases e : j = i
        · rw [e]; exact dq
        · exact hb j (by omega)
      · show (0 : Int32) = bI (isw (h.1 (r + 8)) q p n)
        rw [isw, decide_eq_false (p := ∀ j, j < stL n → h.1 (r + 8) (q + j) = stC n j) (fun z => dq (z i hi2)), Bool.and_false]
        rfl
  have B_17 := zSd_any L_17
  have B_15 := zr_iconst (X := X) (Y := Y) (u := 0) (v := 0) (x := 0) O dX8_isWord_15 rfl (zr_istore_n O dX8_isWord_16 rfl (B_17))
  have B_0 := zr_aload_n (X := X) (Y := Y) (u := 0) (v := 0) O dX8_isWord_0 rfl (zr_gI (ci := 7) (j := 6) O zc_7 (by decide) rfl tw_203 dX8_isWord_1 (zr_iload_n O dX8_isWord_4 rfl (zr_isub O dX8_isWord_5 (zr_aload_n O dX8_isWord_6 rfl (zr_cI (zr_cK (n := 0) O m_J0_length_8abf5 (bn_J0_length_8abf5 _ ⟨rfl, rfl⟩) vw_J0_length_8abf5 tw_555 rc_J0_length_8abf5 (zrm hR rfl rfl) dX8_isWord_7 (zr_iceq (tgt := 15) O dX8_isWord_10 rfl B_15 (zr_iconst (x := 0) O dX8_isWord_13 rfl (zr_zreturn O E (Nat.le_refl _) (Nat.le_refl _) dX8_isWord_14)))))))))
  refine ⟨rfl, Nat.le_of_ble_eq_true rfl, _, B_0, ?_⟩
  refine ⟨(n, a), rfl, hn, fun cq => ?_, fun cq => ⟨Or.inl rfl, zri ?_, rfl⟩⟩
  · replace cq : h.1 r 6 - nI q = nI (stL n) := cq
    rw [hp, nI_sub hqp] at cq
    have hpq := (nI_eq (by omega) (by omega)).mp cq
    exact ⟨stL n - 0, 0, _, rfl, Nat.zero_le _, rfl, rfl, rfl, rfl, hpq, fun j hj => absurd hj (by omega)⟩
  · replace cq : ¬ h.1 r 6 - nI q = nI (stL n) := cq
    rw [hp, nI_sub hqp] at cq
    show (0 : Int32) = bI (isw (h.1 (r + 8)) q p n)
    rw [isw, decide_eq_false (fun z => cq (by rw [z]))]
    rfl

