theorem dX8_readRing_18 : decode cX8_readRing 18 = .ok (.aload_n 0, 1) := by decide +kernel
theorem dX8_readRing_19 : decode cX8_readRing 19 = .ok (.iconst 0, 1) := by decide +kernel
theorem dX8_readRing_20 : decode cX8_readRing 20 = .ok (.sipush 9999, 3) := by decide +kernel
theorem dX8_readRing_23 : decode cX8_readRing 23 = .ok (.invokevirtual 76, 3) := by decide +kernel
theorem dX8_readRing_26 : decode cX8_readRing 26 = .ok (.istore_n 2, 1) := by decide +kernel
theorem dX8_readRing_27 : decode cX8_readRing 27 = .ok (.aload_n 0, 1) := by decide +kernel
theorem dX8_readRing_28 : decode cX8_readRing 28 = .ok (.bipush (-99), 2) := by decide +kernel
theorem dX8_readRing_30 : decode cX8_readRing 30 = .ok (.bipush 99, 2) := by decide +kernel
theorem dX8_readRing_32 : decode cX8_readRing 32 = .ok (.invokevirtual 81, 3) := by decide +kernel
theorem dX8_readRing_35 : decode cX8_readRing 35 = .ok (.istore_n 3, 1) := by decide +kernel
theorem dX8_readRing_36 : decode cX8_readRing 36 = .ok (.aload_n 0, 1) := by decide +kernel
theorem dX8_readRing_37 : decode cX8_readRing 37 = .ok (.iconst 0, 1) := by decide +kernel
theorem dX8_readRing_38 : decode cX8_readRing 38 = .ok (.bipush 50, 2) := by decide +kernel
theorem dX8_readRing_40 : decode cX8_readRing 40 = .ok (.invokevirtual 76, 3) := by decide +kernel
theorem dX8_readRing_43 : decode cX8_readRing 43 = .ok (.istore 4, 2) := by decide +kernel
theorem dX8_readRing_45 : decode cX8_readRing 45 = .ok (.aload_n 0, 1) := by decide +kernel
theorem dX8_readRing_46 : decode cX8_readRing 46 = .ok (.getfield 12, 3) := by decide +kernel
theorem dX8_readRing_49 : decode cX8_readRing 49 = .ok (.iload_n 2, 1) := by decide +kernel
theorem dX8_readRing_50 : decode cX8_readRing 50 = .ok (.iload_n 3, 1) := by decide +kernel
theorem dX8_readRing_51 : decode cX8_readRing 51 = .ok (.iload 4, 2) := by decide +kernel
theorem dX8_readRing_53 : decode cX8_readRing 53 = .ok (.invokevirtual 109, 3) := by decide +kernel
theorem dX8_readRing_56 : decode cX8_readRing 56 = .ok (.return_, 1) := by decide +kernel
theorem dX8_readRing_0 : decode cX8_readRing 0 = .ok (.aload_n 0, 1) := by decide +kernel
theorem dX8_readRing_1 : decode cX8_readRing 1 = .ok (.getfield 12, 3) := by decide +kernel
theorem dX8_readRing_4 : decode cX8_readRing 4 = .ok (.getfield 106, 3) := by decide +kernel
theorem dX8_readRing_7 : decode cX8_readRing 7 = .ok (.bipush 10, 2) := by decide +kernel
theorem dX8_readRing_9 : decode cX8_readRing 9 = .ok (.if_icmp .ne 9, 3) := by decide +kernel
theorem dX8_readRing_12 : decode cX8_readRing 12 = .ok (.aload_n 0, 1) := by decide +kernel
theorem dX8_readRing_13 : decode cX8_readRing 13 = .ok (.iconst 3, 1) := by decide +kernel
theorem dX8_readRing_14 : decode cX8_readRing 14 = .ok (.iload_n 1, 1) := by decide +kernel
theorem dX8_readRing_15 : decode cX8_readRing 15 = .ok (.invokevirtual 93, 3) := by decide +kernel
/-! the line 'ring' -/
theorem rpR_cg {T : Nat → Int32} {n : Nat} {U : zU} {h h' : zH} {r : Nat} (h0 : h'.1 r = h.1 r) (h8 : h'.1 (r + 8) = h.1 (r + 8)) (hU : rpR T n U h r) : rpR T n U h' r := by
  unfold rpR at hU ⊢
  rw [h0, h8]
  exact hU
def uR0 (U : zU) (nr : Nat) (q : Int32) : zU := if nr = 10 then uF U 3 q else U
def uR1 (T : Nat → Int32) (n : Nat) (U : zU) (nr : Nat) (q : Int32) : zU := uNm T n (uR0 U nr q) 0 9999
def uR2 (T : Nat → Int32) (n : Nat) (U : zU) (nr : Nat) (q : Int32) : zU := uSg T n (uR1 T n U nr q) (-99) 99
def uR3 (T : Nat → Int32) (n : Nat) (U : zU) (nr : Nat) (q : Int32) : zU := uNm T n (uR2 T n U nr q) 0 50
theorem addR_row (a n : Nat) (x y z : Int32) (h : zH) (q : Nat) (hq : q < a ∨ a + 4 ≤ q) : (cg_X6_addRing (a, n, x, y, z) h).1 q = h.1 q := by
  show (if n < 10 then zsI (zsI (zsI (zsI h (a + 1) n x) (a + 2) n y) (a + 3) n z) a 0 (nI (n + 1)) else h).1 q = h.1 q
  split
  · rw [zsI_W, zsW_n _ _ (by omega), zsI_W, zsW_n _ _ (by omega), zsI_W, zsW_n _ _ (by omega), zsI_W, zsW_n _ _ (by omega)]
  · rfl
def ca_X8_readRing : ((Nat → Int32) × Nat × zU × Nat × Nat × Int32) → List zV := fun (T, n, U, r, nr, q) => [vR 17 0 r, vI q]
def cp_X8_readRing : ((Nat → Int32) × Nat × zU × Nat × Nat × Int32) → zH → Prop := fun (T, n, U, r, nr, q) h => rpR T n U h r ∧ h.1 (r + 1) 0 = nI nr ∧ nr ≤ 10
def cq_X8_readRing : ((Nat → Int32) × Nat × zU × Nat × Nat × Int32) → zH → Option zV → zH → Prop := fun (T, n, U, r, nr, q) h o h' => o = none ∧ rpR T n (uR3 T n U nr q) h' r ∧ ∃ h2 : zH, sm r 1 h h2 ∧ h' = cg_X6_addRing (r + 1, nr, uNv T n (uR0 U nr q), uSv T n (uR1 T n U nr q), uNv T n (uR2 T n U nr q)) h2
theorem rc_X8_readRing : ∀ x : ((Nat → Int32) × Nat × zU × Nat × Nat × Int32), ∃ (j a : Nat) (As : List zV), ca_X8_readRing x = vR (10 + 7) j a :: As := by
  rintro ⟨T, n, U, r, nr, q⟩
  exact ⟨_, _, _, rfl⟩
set_option maxHeartbeats 4000000 in
set_option maxRecDepth 100000 in
theorem m_X8_readRing : zM yX8_readRing cX8_readRing 5 none ({ frames := 3, cells := 0, slots := 0, locals := 71 } : Room) ((ca_X8_readRing, cp_X8_readRing, cq_X8_readRing) : zC ((Nat → Int32) × Nat × zU × Nat × Nat × Int32)) := by
  refine zM_of (by decide) ?_
  rintro X Y ⟨T, n, U, r, nr, q⟩ h ⟨hU, hr1, hr2⟩ O E hR
  have B_18 := zr_aload_n (X := X) (Y := Y) (u := 0) (v := 0) O dX8_readRing_18 rfl (zr_iconst (x := 0) O dX8_readRing_19 rfl (zr_sipush (x := (9999)) O dX8_readRing_20 (by decide) (zr_cV (ci := 7) (n := 2) O m_X8_readNumber (bn_X8_readNumber _ ⟨rfl, rfl⟩) vw_X8_readNumber tw_611 rc_X8_readNumber (zrm hR rfl rfl) dX8_readRing_23 (zr_istore_n O dX8_readRing_26 rfl (zr_aload_n O dX8_readRing_27 rfl (zr_bipush (x := (-99)) O dX8_readRing_28 (by decide) (zr_bipush (x := (99)) O dX8_readRing_30 (by decide) (zr_cV (ci := 7) (n := 2) O m_X8_readSigned (bn_X8_readSigned _ ⟨rfl, rfl⟩) vw_X8_readSigned tw_624 rc_X8_readSigned (zrm hR rfl rfl) dX8_readRing_32 (zr_istore_n O dX8_readRing_35 rfl (zr_aload_n O dX8_readRing_36 rfl (zr_iconst (x := 0) O dX8_readRing_37 rfl (zr_bipush (x := (50)) O dX8_readRing_38 (by decide) (zr_cV (ci := 7) (n := 2) O m_X8_readNumber (bn_X8_readNumber _ ⟨rfl, rfl⟩) vw_X8_readNumber tw_611 rc_X8_readNumber (zrm hR rfl rfl) dX8_readRing_40 (zr_istore O dX8_readRing_43 (zr_aload_n O dX8_readRing_45 rfl (zr_gS (ci := 7) (j := 0) (off := 1) (t := 15) (n := 0) O zc_7 (by decide) rfl tw_194 dX8_readRing_46 (zr_iload_n O dX8_readRing_49 rfl (zr_iload_n O dX8_readRing_50 rfl (zr_iload O dX8_readRing_51 (zr_cVv (zr_cV (ci := 5) (n := 3) O m_X6_addRing (bn_X6_addRing _ ⟨rfl, rfl⟩) vw_X6_addRing tw_628 rc_X6_addRing (zrm hR rfl rfl) dX8_readRing_53 (zr_return O E (Nat.le_refl _) (Nat.le_refl _) dX8_readRing_56))))))))))))))))))))))
  have B_0 := zr_aload_n (X := X) (Y := Y) (u := 0) (v := 0) O dX8_readRing_0 rfl (zr_gS (ci := 7) (j := 0) (off := 1) (t := 15) (n := 0) O zc_7 (by decide) rfl tw_194 dX8_readRing_1 (zr_gI (ci := 5) (j := 0) O zc_5 (by decide) rfl tw_49 dX8_readRing_4 (zr_bipush (x := (10)) O dX8_readRing_7 (by decide) (zr_icne (tgt := 18) O dX8_readRing_9 rfl B_18 (zr_aload_n O dX8_readRing_12 rfl (zr_iconst (x := 3) O dX8_readRing_13 rfl (zr_iload_n O dX8_readRing_14 rfl (zr_cVv (zr_cV (ci := 7) (n := 2) O m_X8_fail (bn_X8_fail _ ⟨rfl, rfl⟩) vw_X8_fail tw_607 rc_X8_fail (zrm hR rfl rfl) dX8_readRing_15 (B_18))))))))))
  refine ⟨rfl, Nat.le_of_ble_eq_true rfl, _, B_0, ?_⟩
  have hU : rpR T n U h r := hU
  have hr1 : h.1 (r + 1) 0 = nI nr := hr1
  have hr2 : nr ≤ 10 := hr2
  have fl := rpR_F 3 q hU
  refine ⟨fun cq => ?_, fun cq => ⟨(r, 3, q), rfl, trivial, ?_⟩⟩
  · rw [hr1] at cq
    have hz : uR0 U nr q = U := by
      rw [uR0, if_neg (fun z => cq (by rw [z]; rfl))]
    refine ⟨(T, n, U, r, 0, 9999), rfl, hU, fun o1 h1 hq1 => ?_⟩
    obtain ⟨rfl, s1, w1⟩ := hq1
    refine ⟨(T, n, uNm T n U 0 9999, r, -99, 99), rfl, w1, fun o2 h2 hq2 => ?_⟩
    obtain ⟨rfl, s2, w2⟩ := hq2
    refine ⟨(T, n, uSg T n (uNm T n U 0 9999) (-99) 99, r, 0, 50), rfl, w2, fun o3 h3 hq3 => ?_⟩
    obtain ⟨rfl, s3, w3⟩ := hq3
    have s4 : sm r 1 h h3 := sm_tr s1 (sm_tr s2 s3)
    have e3 : h3.1 (r + 1) 0 = nI nr := by rw [s4.1 _ (by omega)]; exact hr1
    refine ⟨(r + 1, nr, uNv T n (uR0 U nr q), uSv T n (uR1 T n U nr q), uNv T n (uR2 T n U nr q)), ?_, ⟨e3, hr2⟩, rfl, ?_, h3, s4, rfl⟩
    · unfold uR2 uR1; rw [hz]; rfl
    · refine rpR_cg (addR_row _ _ _ _ _ _ _ (by omega)) (addR_row _ _ _ _ _ _ _ (by omega)) ?_
      unfold uR3 uR2 uR1; rw [hz]; exact w3
  · rw [hr1] at cq
    have hn : nr = 10 := (nI_eq (b := 10) (by omega) (by omega)).mp cq
    have hz : uR0 U nr q = uF U 3 q := by rw [uR0, if_pos hn]
    refine ⟨(T, n, uF U 3 q, r, 0, 9999), rfl, fl.1, fun o1 h1 hq1 => ?_⟩
    obtain ⟨rfl, s1, w1⟩ := hq1
    refine ⟨(T, n, uNm T n (uF U 3 q) 0 9999, r, -99, 99), rfl, w1, fun o2 h2 hq2 => ?_⟩
    obtain ⟨rfl, s2, w2⟩ := hq2
    refine ⟨(T, n, uSg T n (uNm T n (uF U 3 q) 0 9999) (-99) 99, r, 0, 50), rfl, w2, fun o3 h3 hq3 => ?_⟩
    obtain ⟨rfl, s3, w3⟩ := hq3
    have s4 : sm r 1 h h3 := sm_tr fl.2 (sm_tr s1 (sm_tr s2 s3))
    have e3 : h3.1 (r + 1) 0 = nI nr := by rw [s4.1 _ (by omega)]; exact hr1
    refine ⟨(r + 1, nr, uNv T n (uR0 U nr q), uSv T n (uR1 T n U nr q), uNv T n (uR2 T n U nr q)), ?_, ⟨e3, hr2⟩, rfl, ?_, h3, s4, rfl⟩
    · unfold uR2 uR1; rw [hz]; rfl
    · refine rpR_cg (addR_row _ _ _ _ _ _ _ (by omega)) (addR_row _ _ _ _ _ _ _ (by omega)) ?_
      unfold uR3 uR2 uR1; rw [hz]; exact w3

