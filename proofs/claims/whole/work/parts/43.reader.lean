theorem dX8_read_88 : decode cX8_read 88 = .ok (.aload_n 0, 1) := by decide +kernel
theorem dX8_read_89 : decode cX8_read 89 = .ok (.getfield 41, 3) := by decide +kernel
theorem dX8_read_92 : decode cX8_read 92 = .ok (.ireturn, 1) := by decide +kernel
theorem dX8_read_45 : decode cX8_read 45 = .ok (.iload_n 2, 1) := by decide +kernel
theorem dX8_read_46 : decode cX8_read 46 = .ok (.sipush 400, 3) := by decide +kernel
theorem dX8_read_49 : decode cX8_read 49 = .ok (.if_icmp .ge 39, 3) := by decide +kernel
theorem dX8_read_52 : decode cX8_read 52 = .ok (.aload_n 0, 1) := by decide +kernel
theorem dX8_read_53 : decode cX8_read 53 = .ok (.getfield 38, 3) := by decide +kernel
theorem dX8_read_56 : decode cX8_read 56 = .ok (.aload_n 0, 1) := by decide +kernel
theorem dX8_read_57 : decode cX8_read 57 = .ok (.getfield 35, 3) := by decide +kernel
theorem dX8_read_60 : decode cX8_read 60 = .ok (.if_icmp .ge 28, 3) := by decide +kernel
theorem dX8_read_63 : decode cX8_read 63 = .ok (.aload_n 0, 1) := by decide +kernel
theorem dX8_read_64 : decode cX8_read 64 = .ok (.getfield 41, 3) := by decide +kernel
theorem dX8_read_67 : decode cX8_read 67 = .ok (.ifCond .ne 21, 3) := by decide +kernel
theorem dX8_read_70 : decode cX8_read 70 = .ok (.aload_n 0, 1) := by decide +kernel
theorem dX8_read_71 : decode cX8_read 71 = .ok (.invokevirtual 50, 3) := by decide +kernel
theorem dX8_read_74 : decode cX8_read 74 = .ok (.aload_n 0, 1) := by decide +kernel
theorem dX8_read_75 : decode cX8_read 75 = .ok (.invokevirtual 53, 3) := by decide +kernel
theorem dX8_read_78 : decode cX8_read 78 = .ok (.aload_n 0, 1) := by decide +kernel
theorem dX8_read_79 : decode cX8_read 79 = .ok (.invokevirtual 47, 3) := by decide +kernel
theorem dX8_read_82 : decode cX8_read 82 = .ok (.iinc 2 1, 3) := by decide +kernel
theorem dX8_read_85 : decode cX8_read 85 = .ok (.goto (-40), 3) := by decide +kernel
theorem dX8_read_0 : decode cX8_read 0 = .ok (.aload_n 0, 1) := by decide +kernel
theorem dX8_read_1 : decode cX8_read 1 = .ok (.iload_n 1, 1) := by decide +kernel
theorem dX8_read_2 : decode cX8_read 2 = .ok (.aload_n 0, 1) := by decide +kernel
theorem dX8_read_3 : decode cX8_read 3 = .ok (.getfield 26, 3) := by decide +kernel
theorem dX8_read_6 : decode cX8_read 6 = .ok (.invokestatic 29, 3) := by decide +kernel
theorem dX8_read_9 : decode cX8_read 9 = .ok (.putfield 35, 3) := by decide +kernel
theorem dX8_read_12 : decode cX8_read 12 = .ok (.aload_n 0, 1) := by decide +kernel
theorem dX8_read_13 : decode cX8_read 13 = .ok (.iconst 0, 1) := by decide +kernel
theorem dX8_read_14 : decode cX8_read 14 = .ok (.putfield 26, 3) := by decide +kernel
theorem dX8_read_17 : decode cX8_read 17 = .ok (.aload_n 0, 1) := by decide +kernel
theorem dX8_read_18 : decode cX8_read 18 = .ok (.iconst 0, 1) := by decide +kernel
theorem dX8_read_19 : decode cX8_read 19 = .ok (.putfield 38, 3) := by decide +kernel
theorem dX8_read_22 : decode cX8_read 22 = .ok (.aload_n 0, 1) := by decide +kernel
theorem dX8_read_23 : decode cX8_read 23 = .ok (.iconst 0, 1) := by decide +kernel
theorem dX8_read_24 : decode cX8_read 24 = .ok (.putfield 41, 3) := by decide +kernel
theorem dX8_read_27 : decode cX8_read 27 = .ok (.aload_n 0, 1) := by decide +kernel
theorem dX8_read_28 : decode cX8_read 28 = .ok (.iconst (-1), 1) := by decide +kernel
theorem dX8_read_29 : decode cX8_read 29 = .ok (.putfield 18, 3) := by decide +kernel
theorem dX8_read_32 : decode cX8_read 32 = .ok (.aload_n 0, 1) := by decide +kernel
theorem dX8_read_33 : decode cX8_read 33 = .ok (.getfield 12, 3) := by decide +kernel
theorem dX8_read_36 : decode cX8_read 36 = .ok (.invokevirtual 44, 3) := by decide +kernel
theorem dX8_read_39 : decode cX8_read 39 = .ok (.aload_n 0, 1) := by decide +kernel
theorem dX8_read_40 : decode cX8_read 40 = .ok (.invokevirtual 47, 3) := by decide +kernel
theorem dX8_read_43 : decode cX8_read 43 = .ok (.iconst 0, 1) := by decide +kernel
theorem dX8_read_44 : decode cX8_read 44 = .ok (.istore_n 2, 1) := by decide +kernel
/-! a whole text -/
def uSt (T : Nat → Int32) (n : Nat) (U : zU) (S : zD) : zU := (skp T n (uEl T n (uLn T n U S)).1, (uEl T n (uLn T n U S)).2)
def rdl (T : Nat → Int32) (n : Nat) : Nat → zU → zD → zU × zD
  | 0, U, S => (U, S)
  | f + 1, U, S => if U.1 < n ∧ U.2.1 = 0 then rdl T n f (uSt T n U S) (sLn T n U S) else (U, S)
theorem rdl_end {T : Nat → Int32} {n : Nat} {U : zU} {S : zD} (h : ¬ (U.1 < n ∧ U.2.1 = 0)) : ∀ f, rdl T n f U S = (U, S)
  | 0 => rfl
  | f + 1 => by rw [rdl, if_neg h]
/-- the text read: the reader's state and the draft -/
def rdT (T : Nat → Int32) (n : Nat) (m : Int32) : zU × zD := rdl T n 400 (skp T n 0, 0, -1, m) dE
theorem uEl_0 {T : Nat → Int32} {n : Nat} {U : zU} (h : (uEl T n U).2.1 = 0) : U.2.1 = 0 := by
  unfold uEl at h
  split at h
  · exact h
  · exact absurd h (uF_ne (by decide))
def ca_X8_read : (Nat × Nat × Nat × (Nat → Int32) × Int32) → List zV := fun (r, n, tl, T, m) => [vR 17 0 r, vI (nI n)]
def cp_X8_read : (Nat × Nat × Nat × (Nat → Int32) × Int32) → zH → Prop := fun (r, n, tl, T, m) h => h.1 r 4 = nI tl ∧ (n ≤ tl ∧ tl ≤ 400) ∧ h.1 (r + 8) = T ∧ h.1 r 7 = m
def cq_X8_read : (Nat × Nat × Nat × (Nat → Int32) × Int32) → zH → Option zV → zH → Prop := fun (r, n, tl, T, m) h o h' => o = some (vI (rdT T n m).1.2.1) ∧ rpR T n (rdT T n m).1 h' r ∧ sm r 8 h h' ∧ ((rdT T n m).1.2.1 = 0 → rpS (rdT T n m).2 h' (r + 1))
theorem rc_X8_read : ∀ x : (Nat × Nat × Nat × (Nat → Int32) × Int32), ∃ (j a : Nat) (As : List zV), ca_X8_read x = vR (10 + 7) j a :: As := by
  rintro ⟨r, n, tl, T, m⟩
  exact ⟨_, _, _, rfl⟩
set_option maxHeartbeats 4000000 in
set_option maxRecDepth 100000 in
theorem m_X8_read : zM yX8_read cX8_read 3 (some .int) ({ frames := 6, cells := 0, slots := 0, locals := 129 } : Room) ((ca_X8_read, cp_X8_read, cq_X8_read) : zC (Nat × Nat × Nat × (Nat → Int32) × Int32)) := by
  refine zM_of (by decide) ?_
  rintro X Y ⟨r, n, tl, T, m⟩ h ⟨htl, ⟨hn, h4⟩, eT, em⟩ O E hR
  have htl : h.1 r 4 = nI tl := htl
  have hn : n ≤ tl := hn
  have h4 : tl ≤ 400 := h4
  have eT : h.1 (r + 8) = T := eT
  have em : h.1 r 7 = m := em
  have B_88 := zr_aload_n (X := X) (Y := Y) (u := 0) (v := 0) O dX8_read_88 rfl (zr_gI (ci := 7) (j := 2) O zc_7 (by decide) rfl tw_198 dX8_read_89 (zr_ireturn O E (Nat.le_refl _) (Nat.le_refl _) dX8_read_92))
  have L_45 : ∀ nn : Nat, zSd X Y 0 0 45 ((fun k ls st h1 => ∃ (i : Nat) (z : Int32) (U : zU) (S : zD), k = 400 - i ∧ i ≤ 400 ∧ ls = [some (vR 17 0 r), some (vI (nI n)), some (vI z)] ∧ z = nI i ∧ st = [] ∧ rpR T n U h1 r ∧ sm r 8 h h1 ∧ (U.2.1 = 0 → rpS S h1 (r + 1)) ∧ rdT T n m = rdl T n (400 - i) U S : Nat → zT) nn) := by
    refine zSd_loop (fun nn ih => ?_)
    have B_45 := zr_iload_n (X := X) (Y := Y) (u := 0) (v := 0) O dX8_read_45 rfl (zr_sipush (x := (400)) O dX8_read_46 (by decide) (zr_icge (tgt := 88) O dX8_read_49 rfl B_88 (zr_aload_n O dX8_read_52 rfl (zr_gI (ci := 7) (j := 6) O zc_7 (by decide) rfl tw_203 dX8_read_53 (zr_aload_n O dX8_read_56 rfl (zr_gI (ci := 7) (j := 5) O zc_7 (by decide) rfl tw_202 dX8_read_57 (zr_icge (tgt := 88) O dX8_read_60 rfl B_88 (zr_aload_n O dX8_read_63 rfl (zr_gI (ci := 7) (j := 2) O zc_7 (by decide) rfl tw_198 dX8_read_64 (zr_ifne (tgt := 88) O dX8_read_67 rfl B_88 (zr_aload_n O dX8_read_70 rfl (zr_cV (ci := 7) (n := 0) O m_X8_readLine (bn_X8_readLine _ ⟨rfl, rfl⟩) vw_X8_readLine tw_546 rc_X8_readLine (zrm hR rfl rfl) dX8_read_71 (zr_aload_n O dX8_read_74 rfl (zr_cV (ci := 7) (n := 0) O m_X8_readEndOfLine (bn_X8_readEndOfLine _ ⟨rfl, rfl⟩) vw_X8_readEndOfLine tw_657 rc_X8_readEndOfLine (zrm hR rfl rfl) dX8_read_75 (zr_aload_n O dX8_read_78 rfl (zr_cVv (zr_cV (ci := 7) (n := 0) O m_X8_skipBlanks (bn_X8_skipBlanks _ ⟨rfl, rfl⟩) vw_X8_skipBlanks tw_542 rc_X8_skipBlanks (zrm hR rfl rfl) dX8_read_79 (zr_iinc (c := 1) O dX8_read_82 rfl (zr_goto (tgt := 45) O dX8_read_85 rfl ih)))))))))))))))))))
    refine zSd_weak B_45 (fun ls st h1 t => ?_)
    obtain ⟨i, z, U, S, rfl, hi, rfl, rfl, rfl, w1, s1, hS, er⟩ := t
    have fin : rdT T n m = (U, S) → some (vI (h1.1 r 2)) = some (vI (rdT T n m).1.2.1) ∧ rpR T n (rdT T n m).1 h1 r ∧ sm r 8 h h1 ∧ ((rdT T n m).1.2.1 = 0 → rpS (rdT T n m).2 h1 (r + 1)) := by
      intro e
      rw [e]
      exact ⟨zri w1.2.2.1, w1, s1, hS⟩
    refine ⟨fun cq => fin ?_, fun cq => ⟨fun dq => fin ?_, fun dq => ⟨fun fq => fin ?_, fun fq => ?_⟩⟩⟩
    · have := (nI_leI (a := 400) (by omega) (by omega)).mp cq
      have hi4 : 400 - i = 0 := by omega
      rw [er, hi4]
      rfl
    · rw [w1.1.1, w1.2.1.1] at dq
      have hp4 := w1.2.1.2
      have hn4 := w1.1.2
      have := (nI_leI (by omega) (by omega)).mp dq
      rw [er]
      exact rdl_end (fun z => absurd z.1 (by omega)) _
    · rw [w1.2.2.1] at fq
      rw [er]
      exact rdl_end (fun z => fq z.2) _
    · have hi4 : i < 400 := Nat.not_le.mp (fun z => cq ((nI_leI (a := 400) (by omega) (by omega)).mpr z))
      rw [w1.1.1, w1.2.1.1] at dq
      have hp4 := w1.2.1.2
      have hn4 := w1.1.2
      have hlt : U.1 < n := Nat.not_le.mp (fun z => dq ((nI_leI (by omega) (by omega)).mpr z))
      have hk : U.2.1 = 0 := by
        rw [← w1.2.2.1]
        exact fq
      refine ⟨(T, n, U, S, r), rfl, ⟨w1, hS hk⟩, fun o h2 hq => ?_⟩
      obtain ⟨rfl, w2, s2, hS2⟩ := hq
      replace w2 : rpR T n (uLn T n U S) h2 r := w2
      replace s2 : sm r 8 h1 h2 := s2
      replace hS2 : (uLn T n U S).2.1 = 0 → rpS (sLn T n U S) h2 (r + 1) := hS2
      refine ⟨(T, n, uLn T n U S, r), rfl, w2, fun o2 h3 hq2 => ?_⟩
      obtain ⟨rfl, s3, w3⟩ := hq2
      replace s3 : sm r 1 h2 h3 := s3
      replace w3 : rpR T n (uEl T n (uLn T n U S)) h3 r := w3
      obtain ⟨e4, w4, s4⟩ := rpR_sk w3
      refine ⟨(r, n, (uEl T n (uLn T n U S)).1), rfl, ⟨w3.1, w3.2.1⟩, ?_⟩
      show ∃ _, _
      rw [e4]
      refine ⟨400 - (i + 1), by omega, i + 1, _, uSt T n U S, sLn T n U S, rfl, by omega, rfl, nI_1 i, rfl, w4, ?_, fun hz => ?_, ?_⟩
      · exact sm_tr s1 (sm_tr s2 (sm_mo (sm_tr s3 s4) (by omega) (by omega)))
      · exact rpS_sm s4 (by omega) (rpS_sm s3 (by omega) (hS2 (uEl_0 hz)))
      · rw [er, show 400 - i = (400 - (i + 1)) + 1 by omega, rdl, if_pos ⟨hlt, hk⟩]
  have B_45 := zSd_any L_45
  have B_0 := zr_aload_n (X := X) (Y := Y) (u := 0) (v := 0) O dX8_read_0 rfl (zr_iload_n O dX8_read_1 rfl (zr_aload_n O dX8_read_2 rfl (zr_gI (ci := 7) (j := 4) O zc_7 (by decide) rfl tw_201 dX8_read_3 (zr_min O zwm tw_537 (zrm hR rfl rfl) dX8_read_6 (zr_pI (ci := 7) (j := 5) O zc_7 (by decide) rfl rfl rfl tw_202 dX8_read_9 (zr_aload_n O dX8_read_12 rfl (zr_iconst (x := 0) O dX8_read_13 rfl (zr_pI (ci := 7) (j := 4) O zc_7 (by decide) rfl rfl rfl tw_201 dX8_read_14 (zr_aload_n O dX8_read_17 rfl (zr_iconst (x := 0) O dX8_read_18 rfl (zr_pI (ci := 7) (j := 6) O zc_7 (by decide) rfl rfl rfl tw_203 dX8_read_19 (zr_aload_n O dX8_read_22 rfl (zr_iconst (x := 0) O dX8_read_23 rfl (zr_pI (ci := 7) (j := 2) O zc_7 (by decide) rfl rfl rfl tw_198 dX8_read_24 (zr_aload_n O dX8_read_27 rfl (zr_iconst (x := (-1)) O dX8_read_28 rfl (zr_pI (ci := 7) (j := 1) O zc_7 (by decide) rfl rfl rfl tw_196 dX8_read_29 (zr_aload_n O dX8_read_32 rfl (zr_gS (ci := 7) (j := 0) (off := 1) (t := 15) (n := 0) O zc_7 (by decide) rfl tw_194 dX8_read_33 (zr_cV (ci := 5) (n := 0) O m_X6_clear (bn_X6_clear _ ⟨rfl, rfl⟩) vw_X6_clear tw_538 rc_X6_clear (zrm hR rfl rfl) dX8_read_36 (zr_aload_n O dX8_read_39 rfl (zr_cVv (zr_cV (ci := 7) (n := 0) O m_X8_skipBlanks (bn_X8_skipBlanks _ ⟨rfl, rfl⟩) vw_X8_skipBlanks tw_542 rc_X8_skipBlanks (zrm hR rfl rfl) dX8_read_40 (zr_iconst (x := 0) O dX8_read_43 rfl (zr_istore_n O dX8_read_44 rfl (B_45))))))))))))))))))))))))))
  refine ⟨rfl, Nat.le_of_ble_eq_true rfl, _, B_0, ?_⟩
  obtain ⟨H0, eH⟩ : ∃ H0 : zH, H0 = zsI (zsI (zsI (zsI (zsI h r 5 (nI n)) r 4 0) r 6 0) r 2 0) r 1 (-1) := ⟨_, rfl⟩
  have emin : (if h.1 r 4 < nI n then h.1 r 4 else nI n) = nI n := by
    rw [htl, if_neg (fun z => absurd ((nI_ltI (by omega) (by omega)).mp z) (by omega))]
  have eA : zsI (zsI (zsI (zsI (zsI h r 5 (if h.1 r 4 < nI n then h.1 r 4 else nI n)) r 4 0) r 6 0) r 2 0) r 1 (-1) = H0 := by rw [emin, eH]
  have ne8 : r + 8 ≠ r := by omega
  have e0 : H0 = zsW h r (va_up (va_up (va_up (va_up (va_up (h.1 r) 5 (nI n)) 4 0) 6 0) 2 0) 1 (-1)) := by
    rw [eH]
    simp only [zsI_W, zsW_s, zsW_W]
  have s0 : sm r 1 h H0 := by rw [e0]; exact sm_W _ _ (by omega) (by omega)
  refine ⟨r + 1, rfl, trivial, fun o h2 hq => ?_⟩
  rw [eA] at hq
  obtain ⟨rfl, s2, w2⟩ := hq
  replace s2 : sm (r + 1) 7 H0 h2 := s2
  replace w2 : rpS dE h2 (r + 1) := w2
  have er : h2.1 r = va_up (va_up (va_up (va_up (va_up (h.1 r) 5 (nI n)) 4 0) 6 0) 2 0) 1 (-1) := by rw [s2.1 r (by omega), e0, zsW_s]
  have w3 : rpR T n (0, 0, -1, m) h2 r := by
    refine ⟨⟨by rw [er]; rfl, by omega⟩, ⟨by rw [er]; rfl, Nat.zero_le _⟩, by rw [er]; rfl, ⟨by rw [er]; rfl, by rw [er]; rfl⟩, by rw [er]; exact em, ?_⟩
    rw [s2.1 (r + 8) (by omega), e0, zsW_n _ _ ne8, eT]
  obtain ⟨e4, w4, s4⟩ := rpR_sk w3
  refine ⟨(r, n, 0), rfl, ⟨w3.1, w3.2.1⟩, ?_⟩
  show ∃ _, _
  rw [e4]
  exact ⟨400 - 0, 0, _, (skp T n 0, 0, -1, m), dE, rfl, by omega, rfl, rfl, rfl, w4, sm_tr (sm_mo s0 (by omega) (by omega)) (sm_tr (sm_mo s2 (by omega) (by omega)) (sm_mo s4 (by omega) (by omega))), fun _ => rpS_sm s4 (by omega) w2, rfl⟩

