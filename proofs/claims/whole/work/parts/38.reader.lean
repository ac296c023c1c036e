theorem dX8_readPair_88 : decode cX8_readPair 88 = .ok (.aload_n 0, 1) := by decide +kernel
theorem dX8_readPair_89 : decode cX8_readPair 89 = .ok (.getfield 12, 3) := by decide +kernel
theorem dX8_readPair_92 : decode cX8_readPair 92 = .ok (.iload_n 2, 1) := by decide +kernel
theorem dX8_readPair_93 : decode cX8_readPair 93 = .ok (.iload 4, 2) := by decide +kernel
theorem dX8_readPair_95 : decode cX8_readPair 95 = .ok (.invokevirtual 123, 3) := by decide +kernel
theorem dX8_readPair_98 : decode cX8_readPair 98 = .ok (.return_, 1) := by decide +kernel
theorem dX8_readPair_69 : decode cX8_readPair 69 = .ok (.aload_n 0, 1) := by decide +kernel
theorem dX8_readPair_70 : decode cX8_readPair 70 = .ok (.getfield 12, 3) := by decide +kernel
theorem dX8_readPair_73 : decode cX8_readPair 73 = .ok (.iload_n 2, 1) := by decide +kernel
theorem dX8_readPair_74 : decode cX8_readPair 74 = .ok (.iload 4, 2) := by decide +kernel
theorem dX8_readPair_76 : decode cX8_readPair 76 = .ok (.invokevirtual 119, 3) := by decide +kernel
theorem dX8_readPair_79 : decode cX8_readPair 79 = .ok (.ifCond .eq 9, 3) := by decide +kernel
theorem dX8_readPair_82 : decode cX8_readPair 82 = .ok (.aload_n 0, 1) := by decide +kernel
theorem dX8_readPair_83 : decode cX8_readPair 83 = .ok (.iconst 4, 1) := by decide +kernel
theorem dX8_readPair_84 : decode cX8_readPair 84 = .ok (.iload_n 3, 1) := by decide +kernel
theorem dX8_readPair_85 : decode cX8_readPair 85 = .ok (.invokevirtual 93, 3) := by decide +kernel
theorem dX8_readPair_18 : decode cX8_readPair 18 = .ok (.aload_n 0, 1) := by decide +kernel
theorem dX8_readPair_19 : decode cX8_readPair 19 = .ok (.iconst 0, 1) := by decide +kernel
theorem dX8_readPair_20 : decode cX8_readPair 20 = .ok (.aload_n 0, 1) := by decide +kernel
theorem dX8_readPair_21 : decode cX8_readPair 21 = .ok (.getfield 12, 3) := by decide +kernel
theorem dX8_readPair_24 : decode cX8_readPair 24 = .ok (.getfield 106, 3) := by decide +kernel
theorem dX8_readPair_27 : decode cX8_readPair 27 = .ok (.iconst 1, 1) := by decide +kernel
theorem dX8_readPair_28 : decode cX8_readPair 28 = .ok (.isub, 1) := by decide +kernel
theorem dX8_readPair_29 : decode cX8_readPair 29 = .ok (.invokevirtual 76, 3) := by decide +kernel
theorem dX8_readPair_32 : decode cX8_readPair 32 = .ok (.istore_n 2, 1) := by decide +kernel
theorem dX8_readPair_33 : decode cX8_readPair 33 = .ok (.aload_n 0, 1) := by decide +kernel
theorem dX8_readPair_34 : decode cX8_readPair 34 = .ok (.getfield 116, 3) := by decide +kernel
theorem dX8_readPair_37 : decode cX8_readPair 37 = .ok (.istore_n 3, 1) := by decide +kernel
theorem dX8_readPair_38 : decode cX8_readPair 38 = .ok (.aload_n 0, 1) := by decide +kernel
theorem dX8_readPair_39 : decode cX8_readPair 39 = .ok (.iconst 0, 1) := by decide +kernel
theorem dX8_readPair_40 : decode cX8_readPair 40 = .ok (.aload_n 0, 1) := by decide +kernel
theorem dX8_readPair_41 : decode cX8_readPair 41 = .ok (.getfield 12, 3) := by decide +kernel
theorem dX8_readPair_44 : decode cX8_readPair 44 = .ok (.getfield 106, 3) := by decide +kernel
theorem dX8_readPair_47 : decode cX8_readPair 47 = .ok (.iconst 1, 1) := by decide +kernel
theorem dX8_readPair_48 : decode cX8_readPair 48 = .ok (.isub, 1) := by decide +kernel
theorem dX8_readPair_49 : decode cX8_readPair 49 = .ok (.invokevirtual 76, 3) := by decide +kernel
theorem dX8_readPair_52 : decode cX8_readPair 52 = .ok (.istore 4, 2) := by decide +kernel
theorem dX8_readPair_54 : decode cX8_readPair 54 = .ok (.iload_n 2, 1) := by decide +kernel
theorem dX8_readPair_55 : decode cX8_readPair 55 = .ok (.iload 4, 2) := by decide +kernel
theorem dX8_readPair_57 : decode cX8_readPair 57 = .ok (.if_icmp .ne 12, 3) := by decide +kernel
theorem dX8_readPair_60 : decode cX8_readPair 60 = .ok (.aload_n 0, 1) := by decide +kernel
theorem dX8_readPair_61 : decode cX8_readPair 61 = .ok (.iconst 2, 1) := by decide +kernel
theorem dX8_readPair_62 : decode cX8_readPair 62 = .ok (.aload_n 0, 1) := by decide +kernel
theorem dX8_readPair_63 : decode cX8_readPair 63 = .ok (.getfield 116, 3) := by decide +kernel
theorem dX8_readPair_66 : decode cX8_readPair 66 = .ok (.invokevirtual 93, 3) := by decide +kernel
theorem dX8_readPair_0 : decode cX8_readPair 0 = .ok (.aload_n 0, 1) := by decide +kernel
theorem dX8_readPair_1 : decode cX8_readPair 1 = .ok (.getfield 12, 3) := by decide +kernel
theorem dX8_readPair_4 : decode cX8_readPair 4 = .ok (.getfield 113, 3) := by decide +kernel
theorem dX8_readPair_7 : decode cX8_readPair 7 = .ok (.bipush 28, 2) := by decide +kernel
theorem dX8_readPair_9 : decode cX8_readPair 9 = .ok (.if_icmp .ne 9, 3) := by decide +kernel
theorem dX8_readPair_12 : decode cX8_readPair 12 = .ok (.aload_n 0, 1) := by decide +kernel
theorem dX8_readPair_13 : decode cX8_readPair 13 = .ok (.iconst 3, 1) := by decide +kernel
theorem dX8_readPair_14 : decode cX8_readPair 14 = .ok (.iload_n 1, 1) := by decide +kernel
theorem dX8_readPair_15 : decode cX8_readPair 15 = .ok (.invokevirtual 93, 3) := by decide +kernel
/-! the line 'pair' -/
def uP0 (U : zU) (np : Nat) (q : Int32) : zU := if np = 28 then uF U 3 q else U
def uP1 (T : Nat → Int32) (n : Nat) (U : zU) (nr np : Nat) (q : Int32) : zU := uNm T n (uP0 U np q) 0 (nI nr - 1)
def uP2 (T : Nat → Int32) (n : Nat) (U : zU) (nr np : Nat) (q : Int32) : zU := uNm T n (uP1 T n U nr np q) 0 (nI nr - 1)
def uPa (T : Nat → Int32) (n : Nat) (U : zU) (np : Nat) (q : Int32) : Int32 := uNv T n (uP0 U np q)
def uPb (T : Nat → Int32) (n : Nat) (U : zU) (nr np : Nat) (q : Int32) : Int32 := uNv T n (uP1 T n U nr np q)
def uP3 (T : Nat → Int32) (n : Nat) (U : zU) (nr np : Nat) (q : Int32) : zU := if uPa T n U np q = uPb T n U nr np q then uF (uP2 T n U nr np q) 2 (uP2 T n U nr np q).2.2.2 else uP2 T n U nr np q
def uP4 (F G T : Nat → Int32) (n : Nat) (U : zU) (nr np : Nat) (q : Int32) : zU := if hpr F G (uPa T n U np q) (uPb T n U nr np q) np then uF (uP3 T n U nr np q) 4 (uP1 T n U nr np q).2.2.2 else uP3 T n U nr np q
theorem addP_row (a n : Nat) (x y : Int32) (h : zH) (q : Nat) (hq : q ≠ a) (hq2 : q ≠ a + 4) (hq3 : q ≠ a + 5) : (cg_X6_addPair (a, n, x, y) h).1 q = h.1 q := by
  show (if n < 28 then zsI (zsI (zsI h (a + 4) n x) (a + 5) n y) a 4 (nI (n + 1)) else h).1 q = h.1 q
  split
  · rw [zsI_W, zsW_n _ _ hq, zsI_W, zsW_n _ _ hq3, zsI_W, zsW_n _ _ hq2]
  · rfl
def ca_X8_readPair : ((Nat → Int32) × Nat × zU × Nat × Nat × Nat × Int32) → List zV := fun (T, n, U, r, nr, np, q) => [vR 17 0 r, vI q]
def cp_X8_readPair : ((Nat → Int32) × Nat × zU × Nat × Nat × Nat × Int32) → zH → Prop := fun (T, n, U, r, nr, np, q) h => rpR T n U h r ∧ h.1 (r + 1) 0 = nI nr ∧ (h.1 (r + 1) 4 = nI np ∧ np ≤ 28)
def cq_X8_readPair : ((Nat → Int32) × Nat × zU × Nat × Nat × Nat × Int32) → zH → Option zV → zH → Prop := fun (T, n, U, r, nr, np, q) h o h' => o = none ∧ rpR T n (uP4 (h.1 (r + 5)) (h.1 (r + 6)) T n U nr np q) h' r ∧ ∃ h2 : zH, sm r 1 h h2 ∧ h' = cg_X6_addPair (r + 1, np, uPa T n U np q, uPb T n U nr np q) h2
theorem rc_X8_readPair : ∀ x : ((Nat → Int32) × Nat × zU × Nat × Nat × Nat × Int32), ∃ (j a : Nat) (As : List zV), ca_X8_readPair x = vR (10 + 7) j a :: As := by
  rintro ⟨T, n, U, r, nr, np, q⟩
  exact ⟨_, _, _, rfl⟩
set_option maxHeartbeats 4000000 in
set_option maxRecDepth 100000 in
theorem m_X8_readPair : zM yX8_readPair cX8_readPair 5 none ({ frames := 3, cells := 0, slots := 0, locals := 68 } : Room) ((ca_X8_readPair, cp_X8_readPair, cq_X8_readPair) : zC ((Nat → Int32) × Nat × zU × Nat × Nat × Nat × Int32)) := by
  refine zM_of (by decide) ?_
  rintro X Y ⟨T, n, U, r, nr, np, q⟩ h ⟨hU, hr1, hr2, hr3⟩ O E hR
  have hU : rpR T n U h r := hU
  have hr1 : h.1 (r + 1) 0 = nI nr := hr1
  have hr2 : h.1 (r + 1) 4 = nI np := hr2
  have hr3 : np ≤ 28 := hr3
  have row : ∀ (h1 : zH) (q : Nat), sm r 1 h h1 → r < q → h1.1 q = h.1 q := fun h1 q s hq => s.1 q (by omega)
  have B_88 := zr_aload_n (X := X) (Y := Y) (u := 0) (v := 0) O dX8_readPair_88 rfl (zr_gS (ci := 7) (j := 0) (off := 1) (t := 15) (n := 0) O zc_7 (by decide) rfl tw_194 dX8_readPair_89 (zr_iload_n O dX8_readPair_92 rfl (zr_iload O dX8_readPair_93 (zr_cVv (zr_cV (ci := 5) (n := 2) O m_X6_addPair (bn_X6_addPair _ ⟨rfl, rfl⟩) vw_X6_addPair tw_641 rc_X6_addPair (zrm hR rfl rfl) dX8_readPair_95 (zr_return O E (Nat.le_refl _) (Nat.le_refl _) dX8_readPair_98))))))
  have C_88 : zSd X Y 0 0 88 (fun ls st h1 => ls = [some (vR 17 0 r), some (vI q), some (vI (uPa T n U np q)), some (vI (uP1 T n U nr np q).2.2.2), some (vI (uPb T n U nr np q))] ∧ st = [] ∧ sm r 1 h h1 ∧ rpR T n (uP4 (h.1 (r + 5)) (h.1 (r + 6)) T n U nr np q) h1 r) := by
    refine zSd_weak B_88 (fun ls st h1 t => ?_)
    obtain ⟨rfl, rfl, s3, w4⟩ := t
    refine ⟨(r + 1, np, uPa T n U np q, uPb T n U nr np q), rfl, ⟨by rw [row _ _ s3 (by omega)]; exact hr2, hr3⟩, rfl, ?_, h1, s3, rfl⟩
    exact rpR_cg (addP_row _ _ _ _ _ _ (by omega) (by omega) (by omega)) (addP_row _ _ _ _ _ _ (by omega) (by omega) (by omega)) w4
  have B_69 := zr_aload_n (X := X) (Y := Y) (u := 0) (v := 0) O dX8_readPair_69 rfl (zr_gS (ci := 7) (j := 0) (off := 1) (t := 15) (n := 0) O zc_7 (by decide) rfl tw_194 dX8_readPair_70 (zr_iload_n O dX8_readPair_73 rfl (zr_iload O dX8_readPair_74 (zr_cI (zr_cV (ci := 5) (n := 2) O m_X6_hasPair (bn_X6_hasPair _ ⟨rfl, rfl⟩) vw_X6_hasPair tw_637 rc_X6_hasPair (zrm hR rfl rfl) dX8_readPair_76 (zr_ifeq (tgt := 88) O dX8_readPair_79 rfl C_88 (zr_aload_n O dX8_readPair_82 rfl (zr_iconst (x := 4) O dX8_readPair_83 rfl (zr_iload_n O dX8_readPair_84 rfl (zr_cVv (zr_cV (ci := 7) (n := 2) O m_X8_fail (bn_X8_fail _ ⟨rfl, rfl⟩) vw_X8_fail tw_607 rc_X8_fail (zrm hR rfl rfl) dX8_readPair_85 (C_88))))))))))))
  have C_69 : zSd X Y 0 0 69 (fun ls st h1 => ls = [some (vR 17 0 r), some (vI q), some (vI (uPa T n U np q)), some (vI (uP1 T n U nr np q).2.2.2), some (vI (uPb T n U nr np q))] ∧ st = [] ∧ sm r 1 h h1 ∧ rpR T n (uP3 T n U nr np q) h1 r) := by
    refine zSd_weak B_69 (fun ls st h1 t => ?_)
    obtain ⟨rfl, rfl, s3, w3⟩ := t
    have eh : hpr (h1.1 (r + 1 + 4)) (h1.1 (r + 1 + 5)) (uPa T n U np q) (uPb T n U nr np q) np = hpr (h.1 (r + 5)) (h.1 (r + 6)) (uPa T n U np q) (uPb T n U nr np q) np := by rw [row _ _ s3 (by omega), row _ _ s3 (by omega)]
    have f3 := rpR_F 4 (uP1 T n U nr np q).2.2.2 w3
    refine ⟨(r + 1, np, uPa T n U np q, uPb T n U nr np q), rfl, ⟨by rw [row _ _ s3 (by omega)]; exact hr2, hr3⟩, fun dq => ⟨rfl, rfl, s3, ?_⟩, fun dq => ⟨(r, 4, (uP1 T n U nr np q).2.2.2), rfl, trivial, rfl, rfl, sm_tr s3 f3.2, ?_⟩⟩
    · have hz := (bI_0 _).mp dq
      have e4 : uP4 (h.1 (r + 5)) (h.1 (r + 6)) T n U nr np q = uP3 T n U nr np q := by
        unfold uP4
        rw [if_neg (by rw [← eh, hz]; exact Bool.false_ne_true)]
      rw [e4]
      exact w3
    · have hz : hpr (h1.1 (r + 1 + 4)) (h1.1 (r + 1 + 5)) (uPa T n U np q) (uPb T n U nr np q) np = true := by
        cases hz : hpr (h1.1 (r + 1 + 4)) (h1.1 (r + 1 + 5)) (uPa T n U np q) (uPb T n U nr np q) np with
        | true => rfl
        | false => exact absurd ((bI_0 _).mpr hz) dq
      have e4 : uP4 (h.1 (r + 5)) (h.1 (r + 6)) T n U nr np q = uF (uP3 T n U nr np q) 4 (uP1 T n U nr np q).2.2.2 := by
        unfold uP4
        rw [if_pos (by rw [← eh]; exact hz)]
      rw [e4]
      exact f3.1
  have B_18 := zr_aload_n (X := X) (Y := Y) (u := 0) (v := 0) O dX8_readPair_18 rfl (zr_iconst (x := 0) O dX8_readPair_19 rfl (zr_aload_n O dX8_readPair_20 rfl (zr_gS (ci := 7) (j := 0) (off := 1) (t := 15) (n := 0) O zc_7 (by decide) rfl tw_194 dX8_readPair_21 (zr_gI (ci := 5) (j := 0) O zc_5 (by decide) rfl tw_49 dX8_readPair_24 (zr_iconst (x := 1) O dX8_readPair_27 rfl (zr_isub O dX8_readPair_28 (zr_cV (ci := 7) (n := 2) O m_X8_readNumber (bn_X8_readNumber _ ⟨rfl, rfl⟩) vw_X8_readNumber tw_611 rc_X8_readNumber (zrm hR rfl rfl) dX8_readPair_29 (zr_istore_n O dX8_readPair_32 rfl (zr_aload_n O dX8_readPair_33 rfl (zr_gI (ci := 7) (j := 7) O zc_7 (by decide) rfl tw_204 dX8_readPair_34 (zr_istore_n O dX8_readPair_37 rfl (zr_aload_n O dX8_readPair_38 rfl (zr_iconst (x := 0) O dX8_readPair_39 rfl (zr_aload_n O dX8_readPair_40 rfl (zr_gS (ci := 7) (j := 0) (off := 1) (t := 15) (n := 0) O zc_7 (by decide) rfl tw_194 dX8_readPair_41 (zr_gI (ci := 5) (j := 0) O zc_5 (by decide) rfl tw_49 dX8_readPair_44 (zr_iconst (x := 1) O dX8_readPair_47 rfl (zr_isub O dX8_readPair_48 (zr_cV (ci := 7) (n := 2) O m_X8_readNumber (bn_X8_readNumber _ ⟨rfl, rfl⟩) vw_X8_readNumber tw_611 rc_X8_readNumber (zrm hR rfl rfl) dX8_readPair_49 (zr_istore O dX8_readPair_52 (zr_iload_n O dX8_readPair_54 rfl (zr_iload O dX8_readPair_55 (zr_icne (tgt := 69) O dX8_readPair_57 rfl C_69 (zr_aload_n O dX8_readPair_60 rfl (zr_iconst (x := 2) O dX8_readPair_61 rfl (zr_aload_n O dX8_readPair_62 rfl (zr_gI (ci := 7) (j := 7) O zc_7 (by decide) rfl tw_204 dX8_readPair_63 (zr_cVv (zr_cV (ci := 7) (n := 2) O m_X8_fail (bn_X8_fail _ ⟨rfl, rfl⟩) vw_X8_fail tw_607 rc_X8_fail (zrm hR rfl rfl) dX8_readPair_66 (C_69))))))))))))))))))))))))))))))
  have C_18 : zSd X Y 0 0 18 (fun ls st h1 => ls = [some (vR 17 0 r), some (vI q), none, none, none] ∧ st = [] ∧ sm r 1 h h1 ∧ rpR T n (uP0 U np q) h1 r) := by
    refine zSd_weak B_18 (fun ls st h1 t => ?_)
    obtain ⟨rfl, rfl, s0, w0⟩ := t
    refine ⟨(T, n, uP0 U np q, r, 0, nI nr - 1), by rw [row _ _ s0 (by omega), hr1]; rfl, w0, fun o1 h2 hq1 => ?_⟩
    obtain ⟨rfl, t1, w1⟩ := hq1
    have t1 : sm r 1 h1 h2 := t1
    have s1 : sm r 1 h h2 := sm_tr s0 t1
    have w1 : rpR T n (uP1 T n U nr np q) h2 r := w1
    have e7 : h2.1 r 7 = (uP1 T n U nr np q).2.2.2 := w1.2.2.2.2.1
    refine ⟨(T, n, uP1 T n U nr np q, r, 0, nI nr - 1), by rw [row _ _ s1 (by omega), hr1]; rfl, w1, fun o2 h3 hq2 => ?_⟩
    obtain ⟨rfl, t2, w2⟩ := hq2
    have t2 : sm r 1 h2 h3 := t2
    have s2 : sm r 1 h h3 := sm_tr s1 t2
    have w2 : rpR T n (uP2 T n U nr np q) h3 r := w2
    have f2 := rpR_F 2 (uP2 T n U nr np q).2.2.2 w2
    have e8 : h3.1 r 7 = (uP2 T n U nr np q).2.2.2 := w2.2.2.2.2.1
    refine ⟨fun cq => ⟨by rw [e7]; rfl, rfl, s2, ?_⟩, fun cq => ⟨(r, 2, (uP2 T n U nr np q).2.2.2), by rw [e8]; rfl, trivial, by rw [e7]; rfl, rfl, sm_tr s2 f2.2, ?_⟩⟩
    · rw [uP3, if_neg (show ¬ uPa T n U np q = uPb T n U nr np q from cq)]; exact w2
    · rw [uP3, if_pos (show uPa T n U np q = uPb T n U nr np q from cq)]; exact f2.1
  have B_0 := zr_aload_n (X := X) (Y := Y) (u := 0) (v := 0) O dX8_readPair_0 rfl (zr_gS (ci := 7) (j := 0) (off := 1) (t := 15) (n := 0) O zc_7 (by decide) rfl tw_194 dX8_readPair_1 (zr_gI (ci := 5) (j := 4) O zc_5 (by decide) rfl tw_58 dX8_readPair_4 (zr_bipush (x := (28)) O dX8_readPair_7 (by decide) (zr_icne (tgt := 18) O dX8_readPair_9 rfl C_18 (zr_aload_n O dX8_readPair_12 rfl (zr_iconst (x := 3) O dX8_readPair_13 rfl (zr_iload_n O dX8_readPair_14 rfl (zr_cVv (zr_cV (ci := 7) (n := 2) O m_X8_fail (bn_X8_fail _ ⟨rfl, rfl⟩) vw_X8_fail tw_607 rc_X8_fail (zrm hR rfl rfl) dX8_readPair_15 (C_18))))))))))
  refine ⟨rfl, Nat.le_of_ble_eq_true rfl, _, B_0, ?_⟩
  have fl := rpR_F 3 q hU
  refine ⟨fun bq => ⟨rfl, rfl, sm_refl _ _ _, ?_⟩, fun bq => ⟨(r, 3, q), rfl, trivial, rfl, rfl, fl.2, ?_⟩⟩
  · rw [hr2] at bq
    rw [uP0, if_neg (fun z => bq (by rw [z]; rfl))]
    exact hU
  · rw [hr2] at bq
    have hn0 : np = 28 := (nI_eq (b := 28) (by omega) (by omega)).mp bq
    rw [uP0, if_pos hn0]
    exact fl.1

