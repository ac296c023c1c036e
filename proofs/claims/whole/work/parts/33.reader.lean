theorem dX8_readNumber_0 : decode cX8_readNumber 0 = .ok (.aload_n 0, 1) := by decide +kernel
theorem dX8_readNumber_1 : decode cX8_readNumber 1 = .ok (.invokevirtual 47, 3) := by decide +kernel
theorem dX8_readNumber_4 : decode cX8_readNumber 4 = .ok (.aload_n 0, 1) := by decide +kernel
theorem dX8_readNumber_5 : decode cX8_readNumber 5 = .ok (.aload_n 0, 1) := by decide +kernel
theorem dX8_readNumber_6 : decode cX8_readNumber 6 = .ok (.getfield 38, 3) := by decide +kernel
theorem dX8_readNumber_9 : decode cX8_readNumber 9 = .ok (.putfield 116, 3) := by decide +kernel
theorem dX8_readNumber_12 : decode cX8_readNumber 12 = .ok (.aload_n 0, 1) := by decide +kernel
theorem dX8_readNumber_13 : decode cX8_readNumber 13 = .ok (.invokevirtual 132, 3) := by decide +kernel
theorem dX8_readNumber_16 : decode cX8_readNumber 16 = .ok (.istore_n 3, 1) := by decide +kernel
theorem dX8_readNumber_17 : decode cX8_readNumber 17 = .ok (.aload_n 0, 1) := by decide +kernel
theorem dX8_readNumber_18 : decode cX8_readNumber 18 = .ok (.iload_n 3, 1) := by decide +kernel
theorem dX8_readNumber_19 : decode cX8_readNumber 19 = .ok (.iload_n 1, 1) := by decide +kernel
theorem dX8_readNumber_20 : decode cX8_readNumber 20 = .ok (.iload_n 2, 1) := by decide +kernel
theorem dX8_readNumber_21 : decode cX8_readNumber 21 = .ok (.invokevirtual 135, 3) := by decide +kernel
theorem dX8_readNumber_24 : decode cX8_readNumber 24 = .ok (.iload_n 3, 1) := by decide +kernel
theorem dX8_readNumber_25 : decode cX8_readNumber 25 = .ok (.ireturn, 1) := by decide +kernel
/-! the reader's state: place, kind of fault, its place, where the last number begins -/
abbrev zU : Type := Nat × Int32 × Int32 × Int32
def rpR (T : Nat → Int32) (n : Nat) (U : zU) (h : zH) (r : Nat) : Prop := (h.1 r 5 = nI n ∧ n ≤ 400) ∧ (h.1 r 6 = nI U.1 ∧ U.1 ≤ n) ∧ h.1 r 2 = U.2.1 ∧ (h.1 r 1 = U.2.2.1 ∧ h.1 r 4 = 0) ∧ h.1 r 7 = U.2.2.2 ∧ h.1 (r + 8) = T
def uF (U : zU) (k q : Int32) : zU := if U.2.1 = 0 then (U.1, k, q, U.2.2.2) else U
theorem rpR_F {T : Nat → Int32} {n : Nat} {U : zU} {h : zH} {r : Nat} (k q : Int32) (hU : rpR T n U h r) : rpR T n (uF U k q) (flF h r k q) r ∧ sm r 1 h (flF h r k q) := by
  obtain ⟨⟨a1, a2⟩, ⟨a3, a4⟩, a5, a6, a7, a8⟩ := hU
  have ne8 : r + 8 ≠ r := by omega
  unfold uF flF
  rw [a5]
  by_cases hz : U.2.1 = 0
  · rw [if_pos hz, if_pos hz]
    refine ⟨⟨⟨?_, a2⟩, ⟨?_, a4⟩, ?_, ?_, ?_, ?_⟩, sm_tr (sm_I _ _ (by omega) (by omega)) (sm_I _ _ (by omega) (by omega))⟩
    · simp only [zsI_W, zsW_s]; exact a1
    · simp only [zsI_W, zsW_s]; exact a3
    · simp only [zsI_W, zsW_s]; rfl
    · simp only [zsI_W, zsW_s]; exact ⟨rfl, a6.2⟩
    · simp only [zsI_W, zsW_s]; exact a7
    · simp only [zsI_W, zsW_n _ _ ne8]; exact a8
  · rw [if_neg hz, if_neg hz]
    exact ⟨⟨⟨a1, a2⟩, ⟨a3, a4⟩, a5, a6, a7, a8⟩, sm_refl _ _ _⟩
theorem rpR_6 {T : Nat → Int32} {n : Nat} {U : zU} {h : zH} {r p : Nat} (hp : p ≤ n) (hU : rpR T n U h r) : rpR T n (p, U.2) (zsI h r 6 (nI p)) r ∧ sm r 1 h (zsI h r 6 (nI p)) := by
  obtain ⟨⟨a1, a2⟩, ⟨a3, a4⟩, a5, a6, a7, a8⟩ := hU
  have ne8 : r + 8 ≠ r := by omega
  refine ⟨⟨⟨?_, a2⟩, ⟨?_, hp⟩, ?_, ?_, ?_, ?_⟩, sm_I _ _ (by omega) (by omega)⟩
  · simp only [zsI_W, zsW_s]; exact a1
  · simp only [zsI_W, zsW_s]; rfl
  · simp only [zsI_W, zsW_s]; exact a5
  · simp only [zsI_W, zsW_s]; exact a6
  · simp only [zsI_W, zsW_s]; exact a7
  · simp only [zsI_W, zsW_n _ _ ne8]; exact a8
theorem rpR_7 {T : Nat → Int32} {n : Nat} {U : zU} {h : zH} {r : Nat} (m : Int32) (hU : rpR T n U h r) : rpR T n (U.1, U.2.1, U.2.2.1, m) (zsI h r 7 m) r ∧ sm r 1 h (zsI h r 7 m) := by
  obtain ⟨⟨a1, a2⟩, ⟨a3, a4⟩, a5, a6, a7, a8⟩ := hU
  have ne8 : r + 8 ≠ r := by omega
  refine ⟨⟨⟨?_, a2⟩, ⟨?_, a4⟩, ?_, ?_, ?_, ?_⟩, sm_I _ _ (by omega) (by omega)⟩
  · simp only [zsI_W, zsW_s]; exact a1
  · simp only [zsI_W, zsW_s]; exact a3
  · simp only [zsI_W, zsW_s]; exact a5
  · simp only [zsI_W, zsW_s]; exact a6
  · simp only [zsI_W, zsW_s]; rfl
  · simp only [zsI_W, zsW_n _ _ ne8]; exact a8
def uDg (T : Nat → Int32) (n : Nat) (U : zU) : zU := if dgc T n U.1 = 0 then uF U 1 (nI U.1) else (U.1 + dgc T n U.1, U.2)
theorem rpR_dg {T : Nat → Int32} {n : Nat} {U : zU} {h : zH} {r : Nat} (hU : rpR T n U h r) : rpR T n (uDg T n U) (cg_X8_readDigits (r, n, U.1) h) r ∧ sm r 1 h (cg_X8_readDigits (r, n, U.1) h) := by
  have hT : h.1 (r + 8) = T := hU.2.2.2.2.2
  have h4 := hU.2.1.2
  have hc : dgc T n U.1 ≤ n - U.1 := fa_first_le _ _
  show rpR T n (if dgc T n U.1 = 0 then _ else _) (if dgc (h.1 (r + 8)) n U.1 = 0 then _ else _) r ∧ sm r 1 h (if dgc (h.1 (r + 8)) n U.1 = 0 then _ else _)
  rw [hT]
  by_cases hz : dgc T n U.1 = 0
  · rw [if_pos hz, if_pos hz]
    have h1 := rpR_6 h4 hU
    have h2 := rpR_F 1 (nI U.1) h1.1
    exact ⟨h2.1, sm_tr h1.2 h2.2⟩
  · rw [if_neg hz, if_neg hz]
    exact rpR_6 (by omega) hU
def uNe (U : zU) (v lo up : Int32) : zU := if v < lo ∨ up < v then uF U 2 U.2.2.2 else U
theorem rpR_ne {T : Nat → Int32} {n : Nat} {U : zU} {h : zH} {r : Nat} (v lo up : Int32) (hU : rpR T n U h r) : rpR T n (uNe U v lo up) (cg_X8_needNumber (r, v, lo, up) h) r ∧ sm r 1 h (cg_X8_needNumber (r, v, lo, up) h) := by
  show rpR T n (if v < lo ∨ up < v then _ else _) (if v < lo ∨ up < v then flF h r 2 (h.1 r 7) else _) r ∧ sm r 1 h (if v < lo ∨ up < v then flF h r 2 (h.1 r 7) else _)
  by_cases hz : v < lo ∨ up < v
  · rw [if_pos hz, if_pos hz]
    have e7 : h.1 r 7 = U.2.2.2 := hU.2.2.2.2.1
    rw [e7]
    exact rpR_F 2 _ hU
  · rw [if_neg hz, if_neg hz]
    exact ⟨hU, sm_refl _ _ _⟩
/-- a number read -/
def uNs (T : Nat → Int32) (n : Nat) (U : zU) : zU := (skp T n U.1, U.2.1, U.2.2.1, nI (skp T n U.1))
def uNv (T : Nat → Int32) (n : Nat) (U : zU) : Int32 := dgv T (skp T n U.1) (dgc T n (skp T n U.1))
def uNm (T : Nat → Int32) (n : Nat) (U : zU) (lo up : Int32) : zU := uNe (uDg T n (uNs T n U)) (uNv T n U) lo up
def ca_X8_readNumber : ((Nat → Int32) × Nat × zU × Nat × Int32 × Int32) → List zV := fun (T, n, U, r, lo, up) => [vR 17 0 r, vI lo, vI up]
def cp_X8_readNumber : ((Nat → Int32) × Nat × zU × Nat × Int32 × Int32) → zH → Prop := fun (T, n, U, r, lo, up) h => rpR T n U h r
def cq_X8_readNumber : ((Nat → Int32) × Nat × zU × Nat × Int32 × Int32) → zH → Option zV → zH → Prop := fun (T, n, U, r, lo, up) h o h' => o = some (vI (uNv T n U)) ∧ sm r 1 h h' ∧ rpR T n (uNm T n U lo up) h' r
theorem rc_X8_readNumber : ∀ x : ((Nat → Int32) × Nat × zU × Nat × Int32 × Int32), ∃ (j a : Nat) (As : List zV), ca_X8_readNumber x = vR (10 + 7) j a :: As := by
  rintro ⟨T, n, U, r, lo, up⟩
  exact ⟨_, _, _, rfl⟩
set_option maxHeartbeats 4000000 in
set_option maxRecDepth 100000 in
theorem m_X8_readNumber : zM yX8_readNumber cX8_readNumber 4 (some .int) ({ frames := 2, cells := 0, slots := 0, locals := 45 } : Room) ((ca_X8_readNumber, cp_X8_readNumber, cq_X8_readNumber) : zC ((Nat → Int32) × Nat × zU × Nat × Int32 × Int32)) := by
  refine zM_of (by decide) ?_
  rintro X Y ⟨T, n, U, r, lo, up⟩ h hU O E hR
  have B_0 := zr_aload_n (X := X) (Y := Y) (u := 0) (v := 0) O dX8_readNumber_0 rfl (zr_cVv (zr_cV (ci := 7) (n := 0) O m_X8_skipBlanks (bn_X8_skipBlanks _ ⟨rfl, rfl⟩) vw_X8_skipBlanks tw_542 rc_X8_skipBlanks (zrm hR rfl rfl) dX8_readNumber_1 (zr_aload_n O dX8_readNumber_4 rfl (zr_aload_n O dX8_readNumber_5 rfl (zr_gI (ci := 7) (j := 6) O zc_7 (by decide) rfl tw_203 dX8_readNumber_6 (zr_pI (ci := 7) (j := 7) O zc_7 (by decide) rfl rfl rfl tw_204 dX8_readNumber_9 (zr_aload_n O dX8_readNumber_12 rfl (zr_cH (zr_cV (ci := 7) (n := 0) O m_X8_readDigits (bn_X8_readDigits _ ⟨rfl, rfl⟩) vw_X8_readDigits tw_615 rc_X8_readDigits (zrm hR rfl rfl) dX8_readNumber_13 (zr_istore_n O dX8_readNumber_16 rfl (zr_aload_n O dX8_readNumber_17 rfl (zr_iload_n O dX8_readNumber_18 rfl (zr_iload_n O dX8_readNumber_19 rfl (zr_iload_n O dX8_readNumber_20 rfl (zr_cVv (zr_cV (ci := 7) (n := 3) O m_X8_needNumber (bn_X8_needNumber _ ⟨rfl, rfl⟩) vw_X8_needNumber tw_620 rc_X8_needNumber (zrm hR rfl rfl) dX8_readNumber_21 (zr_iload_n O dX8_readNumber_24 rfl (zr_ireturn O E (Nat.le_refl _) (Nat.le_refl _) dX8_readNumber_25))))))))))))))))))
  refine ⟨rfl, Nat.le_of_ble_eq_true rfl, _, B_0, ?_⟩
  have hU : rpR T n U h r := hU
  have hT : h.1 (r + 8) = T := hU.2.2.2.2.2
  have s1 := rpR_6 (skp_le T hU.2.1.2).2 hU
  have e1 : cg_X8_skipBlanks (r, n, U.1) h = zsI h r 6 (nI (skp T n U.1)) := by
    show zsI h r 6 (nI (skp (h.1 (r + 8)) n U.1)) = _
    rw [hT]
  have s2 := rpR_7 (nI (skp T n U.1)) s1.1
  have s2 : rpR T n (uNs T n U) (zsI (zsI h r 6 (nI (skp T n U.1))) r 7 (nI (skp T n U.1))) r ∧ sm r 1 (zsI h r 6 (nI (skp T n U.1))) (zsI (zsI h r 6 (nI (skp T n U.1))) r 7 (nI (skp T n U.1))) := s2
  have e6 : (zsI h r 6 (nI (skp T n U.1))).1 r 6 = nI (skp T n U.1) := by rw [zsI_W, zsW_s, zup_s]
  have s3 := rpR_dg s2.1
  have s4 := rpR_ne (uNv T n U) lo up s3.1
  have eV : cf_X8_readDigits (r, n, (uNs T n U).1) (zsI (zsI h r 6 (nI (skp T n U.1))) r 7 (nI (skp T n U.1))) = uNv T n U := by
    show dgv ((zsI (zsI h r 6 (nI (skp T n U.1))) r 7 (nI (skp T n U.1))).1 (r + 8)) _ (dgc ((zsI (zsI h r 6 (nI (skp T n U.1))) r 7 (nI (skp T n U.1))).1 (r + 8)) n _) = _
    rw [s2.1.2.2.2.2.2]
    rfl
  refine ⟨(r, n, U.1), rfl, ⟨hU.1, hU.2.1⟩, ?_⟩
  rw [e1]
  refine ⟨(r, n, (uNs T n U).1), rfl, ⟨?_, ?_⟩, (r, uNv T n U, lo, up), ?_, trivial, ?_, ?_, ?_⟩
  · rw [e6]; exact s2.1.1
  · rw [e6]; exact s2.1.2.1
  · rw [e6, eV]; rfl
  · rw [e6, eV]
  · rw [e6]; exact sm_tr s1.2 (sm_tr s2.2 (sm_tr s3.2 s4.2))
  · rw [e6]; exact s4.1

