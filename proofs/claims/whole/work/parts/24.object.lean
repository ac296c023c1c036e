theorem dX10_sureOfEnrolled_49 : decode cX10_sureOfEnrolled 49 = .ok (.iload_n 3, 1) := by decide +kernel
theorem dX10_sureOfEnrolled_50 : decode cX10_sureOfEnrolled 50 = .ok (.ireturn, 1) := by decide +kernel
theorem dX10_sureOfEnrolled_27 : decode cX10_sureOfEnrolled 27 = .ok (.iload_n 3, 1) := by decide +kernel
theorem dX10_sureOfEnrolled_28 : decode cX10_sureOfEnrolled 28 = .ok (.bipush 62, 2) := by decide +kernel
theorem dX10_sureOfEnrolled_30 : decode cX10_sureOfEnrolled 30 = .ok (.if_icmp .ge 19, 3) := by decide +kernel
theorem dX10_sureOfEnrolled_33 : decode cX10_sureOfEnrolled 33 = .ok (.ldc2_w 395, 3) := by decide +kernel
theorem dX10_sureOfEnrolled_36 : decode cX10_sureOfEnrolled 36 = .ok (.iload_n 3, 1) := by decide +kernel
theorem dX10_sureOfEnrolled_37 : decode cX10_sureOfEnrolled 37 = .ok (.lshl, 1) := by decide +kernel
theorem dX10_sureOfEnrolled_38 : decode cX10_sureOfEnrolled 38 = .ok (.lload_n 1, 1) := by decide +kernel
theorem dX10_sureOfEnrolled_39 : decode cX10_sureOfEnrolled 39 = .ok (.lcmp, 1) := by decide +kernel
theorem dX10_sureOfEnrolled_40 : decode cX10_sureOfEnrolled 40 = .ok (.ifCond .gt 9, 3) := by decide +kernel
theorem dX10_sureOfEnrolled_43 : decode cX10_sureOfEnrolled 43 = .ok (.iinc 3 1, 3) := by decide +kernel
theorem dX10_sureOfEnrolled_46 : decode cX10_sureOfEnrolled 46 = .ok (.goto (-19), 3) := by decide +kernel
theorem dX10_sureOfEnrolled_0 : decode cX10_sureOfEnrolled 0 = .ok (.aload_n 0, 1) := by decide +kernel
theorem dX10_sureOfEnrolled_1 : decode cX10_sureOfEnrolled 1 = .ok (.getfield 54, 3) := by decide +kernel
theorem dX10_sureOfEnrolled_4 : decode cX10_sureOfEnrolled 4 = .ok (.aload_n 0, 1) := by decide +kernel
theorem dX10_sureOfEnrolled_5 : decode cX10_sureOfEnrolled 5 = .ok (.getfield 10, 3) := by decide +kernel
theorem dX10_sureOfEnrolled_8 : decode cX10_sureOfEnrolled 8 = .ok (.getfield 85, 3) := by decide +kernel
theorem dX10_sureOfEnrolled_11 : decode cX10_sureOfEnrolled 11 = .ok (.aload_n 0, 1) := by decide +kernel
theorem dX10_sureOfEnrolled_12 : decode cX10_sureOfEnrolled 12 = .ok (.getfield 10, 3) := by decide +kernel
theorem dX10_sureOfEnrolled_15 : decode cX10_sureOfEnrolled 15 = .ok (.getfield 98, 3) := by decide +kernel
theorem dX10_sureOfEnrolled_18 : decode cX10_sureOfEnrolled 18 = .ok (.invokevirtual 314, 3) := by decide +kernel
theorem dX10_sureOfEnrolled_21 : decode cX10_sureOfEnrolled 21 = .ok (.invokevirtual 317, 3) := by decide +kernel
theorem dX10_sureOfEnrolled_24 : decode cX10_sureOfEnrolled 24 = .ok (.lstore_n 1, 1) := by decide +kernel
theorem dX10_sureOfEnrolled_25 : decode cX10_sureOfEnrolled 25 = .ok (.iconst 0, 1) := by decide +kernel
theorem dX10_sureOfEnrolled_26 : decode cX10_sureOfEnrolled 26 = .ok (.istore_n 3, 1) := by decide +kernel
theorem dX10_print_62 : decode cX10_print 62 = .ok (.lload_n 1, 1) := by decide +kernel
theorem dX10_print_63 : decode cX10_print 63 = .ok (.lreturn, 1) := by decide +kernel
theorem dX10_print_4 : decode cX10_print 4 = .ok (.iload_n 3, 1) := by decide +kernel
theorem dX10_print_5 : decode cX10_print 5 = .ok (.aload_n 0, 1) := by decide +kernel
theorem dX10_print_6 : decode cX10_print 6 = .ok (.getfield 10, 3) := by decide +kernel
theorem dX10_print_9 : decode cX10_print 9 = .ok (.getfield 85, 3) := by decide +kernel
theorem dX10_print_12 : decode cX10_print 12 = .ok (.getfield 114, 3) := by decide +kernel
theorem dX10_print_15 : decode cX10_print 15 = .ok (.if_icmp .ge 47, 3) := by decide +kernel
theorem dX10_print_18 : decode cX10_print 18 = .ok (.ldc2_w 349, 3) := by decide +kernel
theorem dX10_print_21 : decode cX10_print 21 = .ok (.lload_n 1, 1) := by decide +kernel
theorem dX10_print_22 : decode cX10_print 22 = .ok (.lmul, 1) := by decide +kernel
theorem dX10_print_23 : decode cX10_print 23 = .ok (.aload_n 0, 1) := by decide +kernel
theorem dX10_print_24 : decode cX10_print 24 = .ok (.getfield 10, 3) := by decide +kernel
theorem dX10_print_27 : decode cX10_print 27 = .ok (.getfield 85, 3) := by decide +kernel
theorem dX10_print_30 : decode cX10_print 30 = .ok (.iload_n 3, 1) := by decide +kernel
theorem dX10_print_31 : decode cX10_print 31 = .ok (.invokevirtual 162, 3) := by decide +kernel
theorem dX10_print_34 : decode cX10_print 34 = .ok (.i2l, 1) := by decide +kernel
theorem dX10_print_35 : decode cX10_print 35 = .ok (.ladd, 1) := by decide +kernel
theorem dX10_print_36 : decode cX10_print 36 = .ok (.lstore_n 1, 1) := by decide +kernel
theorem dX10_print_37 : decode cX10_print 37 = .ok (.ldc2_w 349, 3) := by decide +kernel
theorem dX10_print_40 : decode cX10_print 40 = .ok (.lload_n 1, 1) := by decide +kernel
theorem dX10_print_41 : decode cX10_print 41 = .ok (.lmul, 1) := by decide +kernel
theorem dX10_print_42 : decode cX10_print 42 = .ok (.aload_n 0, 1) := by decide +kernel
theorem dX10_print_43 : decode cX10_print 43 = .ok (.getfield 10, 3) := by decide +kernel
theorem dX10_print_46 : decode cX10_print 46 = .ok (.getfield 85, 3) := by decide +kernel
theorem dX10_print_49 : decode cX10_print 49 = .ok (.iload_n 3, 1) := by decide +kernel
theorem dX10_print_50 : decode cX10_print 50 = .ok (.invokevirtual 223, 3) := by decide +kernel
theorem dX10_print_53 : decode cX10_print 53 = .ok (.i2l, 1) := by decide +kernel
theorem dX10_print_54 : decode cX10_print 54 = .ok (.ladd, 1) := by decide +kernel
theorem dX10_print_55 : decode cX10_print 55 = .ok (.lstore_n 1, 1) := by decide +kernel
theorem dX10_print_56 : decode cX10_print 56 = .ok (.iinc 3 1, 3) := by decide +kernel
theorem dX10_print_59 : decode cX10_print 59 = .ok (.goto (-55), 3) := by decide +kernel
theorem dX10_print_0 : decode cX10_print 0 = .ok (.lconst 0, 1) := by decide +kernel
theorem dX10_print_1 : decode cX10_print 1 = .ok (.lstore_n 1, 1) := by decide +kernel
theorem dX10_print_2 : decode cX10_print 2 = .ok (.iconst 0, 1) := by decide +kernel
theorem dX10_print_3 : decode cX10_print 3 = .ok (.istore_n 3, 1) := by decide +kernel
theorem dX10_nextPair_0 : decode cX10_nextPair 0 = .ok (.aload_n 0, 1) := by decide +kernel
theorem dX10_nextPair_1 : decode cX10_nextPair 1 = .ok (.aload_n 0, 1) := by decide +kernel
theorem dX10_nextPair_2 : decode cX10_nextPair 2 = .ok (.getfield 10, 3) := by decide +kernel
theorem dX10_nextPair_5 : decode cX10_nextPair 5 = .ok (.getfield 107, 3) := by decide +kernel
theorem dX10_nextPair_8 : decode cX10_nextPair 8 = .ok (.invokevirtual 343, 3) := by decide +kernel
theorem dX10_nextPair_11 : decode cX10_nextPair 11 = .ok (.ireturn, 1) := by decide +kernel
theorem dX10_fault_0 : decode cX10_fault 0 = .ok (.aload_n 0, 1) := by decide +kernel
theorem dX10_fault_1 : decode cX10_fault 1 = .ok (.getfield 23, 3) := by decide +kernel
theorem dX10_fault_4 : decode cX10_fault 4 = .ok (.getfield 117, 3) := by decide +kernel
theorem dX10_fault_7 : decode cX10_fault 7 = .ok (.ireturn, 1) := by decide +kernel
/-! sure bits; told of the enrolled; what the public calls answer that throw nothing -/
def sur (v : Int64) : Nat := fa_first (fun k => decide (v < (2 : Int64) <<< ((nI k).toInt64 &&& 63))) 62
def ca_X10_sureOfEnrolled : (zQ × Nat) → List zV := fun (Q, x) => [vR 19 0 x]
def cp_X10_sureOfEnrolled : (zQ × Nat) → zH → Prop := fun (Q, x) h => rpN Q h x ∧ vS Q.1 ∧ 0 < eN Q.2.1
def cq_X10_sureOfEnrolled : (zQ × Nat) → zH → Option zV → zH → Prop := fun (Q, x) h r h' => r = some (vI (nI (sur (wys Q.1 (psN Q.2.1 (eN Q.2.1)))))) ∧ sn (x + 188) 4 h h'
theorem rc_X10_sureOfEnrolled : ∀ x : (zQ × Nat), ∃ (j a : Nat) (As : List zV), ca_X10_sureOfEnrolled x = vR (10 + 9) j a :: As := by
  rintro ⟨⟨S, K, M⟩, x⟩
  exact ⟨_, _, _, rfl⟩
set_option maxHeartbeats 4000000 in
set_option maxRecDepth 100000 in
theorem m_X10_sureOfEnrolled : zM yX10_sureOfEnrolled cX10_sureOfEnrolled 4 (some .int) ({ frames := 3, cells := 0, slots := 0, locals := 69 } : Room) ((ca_X10_sureOfEnrolled, cp_X10_sureOfEnrolled, cq_X10_sureOfEnrolled) : zC (zQ × Nat)) := by
  refine zM_of (by decide) ?_
  rintro X Y ⟨⟨S, K, M⟩, x⟩ h ⟨hN, hv, h0⟩ O E hR
  have hN : rpN (S, K, M) h x := hN
  have hS : rpS S h (h.2.2 x 0 + 1) := hN.1.1
  have hE : rpE K h (h.2.2 x 0 + 8) := hN.1.2.1
  have hs2 := hN.2.2
  have h0 : 0 < eN K := h0
  have B_49 := zr_iload_n (X := X) (Y := Y) (u := 0) (v := 0) O dX10_sureOfEnrolled_49 rfl (zr_ireturn O E (Nat.le_refl _) (Nat.le_refl _) dX10_sureOfEnrolled_50)
  have L_27 : ∀ nn : Nat, zSd X Y 0 0 27 ((fun k ls st h1 => ∃ (n : Nat) (z : Int32), k = 62 - n ∧ n ≤ 62 ∧ ls = [some (vR 19 0 x), some (vL (wys S (psN K (eN K)))), none, some (vI z)] ∧ z = nI n ∧ st = [] ∧ sn (x + 188) 4 h h1 ∧ ∀ j, j < n → decide (wys S (psN K (eN K)) < (2 : Int64) <<< ((nI j).toInt64 &&& 63)) = false : Nat → zT) nn) := by
    refine zSd_loop (fun nn ih => ?_)
    have B_27 := zr_iload_n (X := X) (Y := Y) (u := 0) (v := 0) O dX10_sureOfEnrolled_27 rfl (zr_bipush (x := (62)) O dX10_sureOfEnrolled_28 (by decide) (zr_icge (tgt := 49) O dX10_sureOfEnrolled_30 rfl B_49 (zr_ldc2 (x := (2)) O dX10_sureOfEnrolled_33 tw_1117 (zr_iload_n O dX10_sureOfEnrolled_36 rfl (zr_lshl O dX10_sureOfEnrolled_37 (zr_lload_n O dX10_sureOfEnrolled_38 rfl (zr_lcmp O dX10_sureOfEnrolled_39 (zr_ifgt (tgt := 49) O dX10_sureOfEnrolled_40 rfl B_49 (zr_iinc (c := 1) O dX10_sureOfEnrolled_43 rfl (zr_goto (tgt := 27) O dX10_sureOfEnrolled_46 rfl ih))))))))))
    refine zSd_weak B_27 (fun ls st h1 t => ?_)
    obtain ⟨n, z, rfl, hn, rfl, rfl, rfl, s1, hb⟩ := t
    refine ⟨fun cq => ?_, fun cq => ⟨fun dq => ?_, fun dq => ?_⟩⟩
    · have := (nI_leI (a := 62) (by omega) (by omega)).mp cq
      have hn6 : n = 62 := by omega
      subst hn6
      refine ⟨zri ?_, s1⟩
      have h1 := fa_first_le (fun k => decide (wys S (psN K (eN K)) < (2 : Int64) <<< ((nI k).toInt64 &&& 63))) 62
      have h2 := first_none hb
      have h3 : sur (wys S (psN K (eN K))) = 62 := by unfold sur; omega
      rw [h3]
    · have hn2 : n < 62 := Nat.not_le.mp (fun z => cq ((nI_leI (a := 62) (by omega) (by omega)).mpr z))
      have hz := (lg_cmp_gt _ _).mp dq
      have ef : sur (wys S (psN K (eN K))) = n := first_at hn2 (decide_eq_true hz) hb
      refine ⟨zri ?_, s1⟩
      rw [ef]
    · have hn2 : n < 62 := Nat.not_le.mp (fun z => cq ((nI_leI (a := 62) (by omega) (by omega)).mpr z))
      have hz : ¬ wys S (psN K (eN K)) < (2 : Int64) <<< ((nI n).toInt64 &&& 63) := fun z => dq ((lg_cmp_gt _ _).mpr z)
      refine ⟨62 - (n + 1), by omega, n + 1, _, rfl, by omega, rfl, nI_1 n, rfl, s1, fun j hj => ?_⟩
      by_cases hjn : j = n
      · rw [hjn]; exact decide_eq_false hz
      · exact hb j (by omega)
  have B_27 := zSd_any L_27
  have B_0 := zr_aload_n (X := X) (Y := Y) (u := 0) (v := 0) O dX10_sureOfEnrolled_0 rfl (zr_gS (ci := 9) (j := 12) (off := 188) (t := 18) (n := 0) O zc_9 (by decide) rfl tw_299 dX10_sureOfEnrolled_1 (zr_aload_n O dX10_sureOfEnrolled_4 rfl (zr_gR (ci := 9) (j := 0) (off := 0) (t := 16) (n := 0) O zc_9 (by decide) rfl tw_287 dX10_sureOfEnrolled_5 (zr_gS (ci := 6) (j := 0) (off := 1) (t := 15) (n := 0) O zc_6 (by decide) rfl tw_172 dX10_sureOfEnrolled_8 (zr_aload_n O dX10_sureOfEnrolled_11 rfl (zr_gR (ci := 9) (j := 0) (off := 0) (t := 16) (n := 0) O zc_9 (by decide) rfl tw_287 dX10_sureOfEnrolled_12 (zr_gS (ci := 6) (j := 1) (off := 8) (t := 10) (n := 0) O zc_6 (by decide) rfl tw_175 dX10_sureOfEnrolled_15 (zr_cI (zr_cV (ci := 0) (n := 0) O m_X1_pairsAsSet (bn_X1_pairsAsSet _ ⟨rfl, rfl⟩) vw_X1_pairsAsSet tw_1088 rc_X1_pairsAsSet (zrm hR rfl rfl) dX10_sureOfEnrolled_18 (zr_cV (ci := 8) (n := 2) O m_X9_count (bn_X9_count _ ⟨rfl, rfl⟩) vw_X9_count tw_1092 rc_X9_count (zrm hR rfl rfl) dX10_sureOfEnrolled_21 (zr_lstore_n O dX10_sureOfEnrolled_24 rfl (zr_iconst (x := 0) O dX10_sureOfEnrolled_25 rfl (zr_istore_n O dX10_sureOfEnrolled_26 rfl (B_27))))))))))))))
  refine ⟨rfl, Nat.le_of_ble_eq_true rfl, _, B_0, ?_⟩
  have hps := psN_lt (K := K) (eN K) (hE.2.1.2 h0).1
  refine ⟨(K, h.2.2 x 0 + 8), rfl, hE, (S, x + 188, h.2.2 x 0 + 1, psN K (eN K)), rfl, ⟨hS, hv, hps, by omega⟩, fun r h1 hq => ?_⟩
  obtain ⟨rfl, s1⟩ := hq
  exact ⟨62 - 0, 0, _, rfl, Nat.zero_le _, rfl, rfl, rfl, s1, fun j hj => absurd hj (by omega)⟩
/-- told 14 to 17 -/
def tle (K : zE) (w : Nat) : Int32 := if eN K = 0 then -1 else if w = 14 then nI (eN K) else if w = 15 then nI (eK K * btR (eR K)) else if w = 16 then nI (eS K) else nI (eC K)
/-- the print of a slip -/
def prn (S : zD) : Nat → Int64
  | 0 => 0
  | i + 1 => 31 * (31 * prn S i + (pb S i).toInt64) + (mrg S i).toInt64
def ca_X10_print : (zQ × Nat) → List zV := fun (Q, x) => [vR 19 0 x]
def cp_X10_print : (zQ × Nat) → zH → Prop := fun (Q, x) h => rpN Q h x ∧ vS Q.1
def cf_X10_print : (zQ × Nat) → zH → Int64 := fun (Q, x) _ => prn Q.1 (dP Q.1)
theorem rc_X10_print : ∀ x : (zQ × Nat), ∃ (j a : Nat) (As : List zV), ca_X10_print x = vR (10 + 9) j a :: As := by
  rintro ⟨⟨S, K, M⟩, x⟩
  exact ⟨_, _, _, rfl⟩
set_option maxHeartbeats 4000000 in
set_option maxRecDepth 100000 in
theorem m_X10_print : zM yX10_print cX10_print 4 (some .long) ({ frames := 3, cells := 0, slots := 0, locals := 70 } : Room) (zcL ca_X10_print cp_X10_print cf_X10_print) := by
  refine zM_of (by decide) ?_
  rintro X Y ⟨⟨S, K, M⟩, x⟩ h ⟨hN, hv⟩ O E hR
  have hS : rpS S h (h.2.2 x 0 + 1) := hN.1.1
  have hP : dP S ≤ 28 := hS.2.1.2
  have B_62 := zr_lload_n (X := X) (Y := Y) (u := 0) (v := 0) O dX10_print_62 rfl (zr_lreturn O E (Nat.le_refl _) (Nat.le_refl _) dX10_print_63)
  have L_4 : ∀ nn : Nat, zSd X Y 0 0 4 ((fun k ls st h1 => ∃ (i : Nat) (z : Int32) (y2 : Option zV), k = dP S - i ∧ i ≤ dP S ∧ ls = [some (vR 19 0 x), some (vL (prn S i)), y2, some (vI z)] ∧ z = nI i ∧ st = [] ∧ h = h1 : Nat → zT) nn) := by
    refine zSd_loop (fun nn ih => ?_)
    have B_4 := zr_iload_n (X := X) (Y := Y) (u := 0) (v := 0) O dX10_print_4 rfl (zr_aload_n O dX10_print_5 rfl (zr_gR (ci := 9) (j := 0) (off := 0) (t := 16) (n := 0) O zc_9 (by decide) rfl tw_287 dX10_print_6 (zr_gS (ci := 6) (j := 0) (off := 1) (t := 15) (n := 0) O zc_6 (by decide) rfl tw_172 dX10_print_9 (zr_gI (ci := 5) (j := 4) O zc_5 (by decide) rfl tw_55 dX10_print_12 (zr_icge (tgt := 62) O dX10_print_15 rfl B_62 (zr_ldc2 (x := (31)) O dX10_print_18 tw_434 (zr_lload_n O dX10_print_21 rfl (zr_lmul O dX10_print_22 (zr_aload_n O dX10_print_23 rfl (zr_gR (ci := 9) (j := 0) (off := 0) (t := 16) (n := 0) O zc_9 (by decide) rfl tw_287 dX10_print_24 (zr_gS (ci := 6) (j := 0) (off := 1) (t := 15) (n := 0) O zc_6 (by decide) rfl tw_172 dX10_print_27 (zr_iload_n O dX10_print_30 rfl (zr_cI (zr_cV (ci := 5) (n := 1) O m_X6_bitOf (bn_X6_bitOf _ ⟨rfl, rfl⟩) vw_X6_bitOf tw_418 rc_X6_bitOf (zrm hR rfl rfl) dX10_print_31 (zr_i2l O dX10_print_34 (zr_ladd O dX10_print_35 (zr_lstore_n O dX10_print_36 rfl (zr_ldc2 (x := (31)) O dX10_print_37 tw_434 (zr_lload_n O dX10_print_40 rfl (zr_lmul O dX10_print_41 (zr_aload_n O dX10_print_42 rfl (zr_gR (ci := 9) (j := 0) (off := 0) (t := 16) (n := 0) O zc_9 (by decide) rfl tw_287 dX10_print_43 (zr_gS (ci := 6) (j := 0) (off := 1) (t := 15) (n := 0) O zc_6 (by decide) rfl tw_172 dX10_print_46 (zr_iload_n O dX10_print_49 rfl (zr_cI (zr_cV (ci := 5) (n := 1) O m_X6_marginOf (bn_X6_marginOf _ ⟨rfl, rfl⟩) vw_X6_marginOf tw_435 rc_X6_marginOf (zrm hR rfl rfl) dX10_print_50 (zr_i2l O dX10_print_53 (zr_ladd O dX10_print_54 (zr_lstore_n O dX10_print_55 rfl (zr_iinc (c := 1) O dX10_print_56 rfl (zr_goto (tgt := 4) O dX10_print_59 rfl ih)))))))))))))))))))))))))))))))
    refine zSd_weak B_4 (fun ls st h1 t => ?_)
    obtain ⟨i, z, y2, rfl, hi, rfl, rfl, rfl, rfl⟩ := t
    refine ⟨fun cq => ⟨zrl ?_, rfl⟩, fun cq => ?_⟩
    · rw [hS.2.1.1] at cq
      have := (nI_leI (by omega) (by omega)).mp cq
      rw [show i = dP S by omega]
      rfl
    · rw [hS.2.1.1] at cq
      have hi2 : i < dP S := Nat.not_le.mp (fun z => cq ((nI_leI (by omega) (by omega)).mpr z))
      exact ⟨(S, h.2.2 x 0 + 1, i), rfl, ⟨hS, hi2⟩, (S, h.2.2 x 0 + 1, i), rfl, ⟨hS, hi2, hv⟩, dP S - (i + 1), by omega, i + 1, _, _, rfl, by omega, rfl, nI_1 i, rfl, rfl⟩
  have B_4 := zSd_any L_4
  have B_0 := zr_lconst (X := X) (Y := Y) (u := 0) (v := 0) (x := 0) O dX10_print_0 rfl (zr_lstore_n O dX10_print_1 rfl (zr_iconst (x := 0) O dX10_print_2 rfl (zr_istore_n O dX10_print_3 rfl (B_4))))
  refine ⟨rfl, Nat.le_of_ble_eq_true rfl, _, B_0, ?_⟩
  exact ⟨dP S - 0, 0, _, _, rfl, Nat.zero_le _, rfl, rfl, rfl, rfl⟩
def ca_X10_nextPair : (zQ × Nat) → List zV := fun (Q, x) => [vR 19 0 x]
def cp_X10_nextPair : (zQ × Nat) → zH → Prop := fun (Q, x) h => rpN Q h x ∧ gInj Q.2.2 ∧ ∀ i, i < gN Q.2.2 → gP Q.2.2 i < dP Q.1
def cq_X10_nextPair : (zQ × Nat) → zH → Option zV → zH → Prop := fun (Q, x) h r h' => r = some (vI (nxt Q.1 Q.2.2 (lod Q.1 Q.2.2 (gN Q.2.2)) (dP Q.1)).1) ∧ sm (x + 181) 4 h h'
theorem rc_X10_nextPair : ∀ x : (zQ × Nat), ∃ (j a : Nat) (As : List zV), ca_X10_nextPair x = vR (10 + 9) j a :: As := by
  rintro ⟨⟨S, K, M⟩, x⟩
  exact ⟨_, _, _, rfl⟩
set_option maxHeartbeats 4000000 in
set_option maxRecDepth 100000 in
theorem m_X10_nextPair : zM yX10_nextPair cX10_nextPair 1 (some .int) ({ frames := 5, cells := 0, slots := 0, locals := 133 } : Room) ((ca_X10_nextPair, cp_X10_nextPair, cq_X10_nextPair) : zC (zQ × Nat)) := by
  refine zM_of (by decide) ?_
  rintro X Y ⟨⟨S, K, M⟩, x⟩ h ⟨hN, hj, hP⟩ O E hR
  have B_0 := zr_aload_n (X := X) (Y := Y) (u := 0) (v := 0) O dX10_nextPair_0 rfl (zr_aload_n O dX10_nextPair_1 rfl (zr_gR (ci := 9) (j := 0) (off := 0) (t := 16) (n := 0) O zc_9 (by decide) rfl tw_287 dX10_nextPair_2 (zr_gS (ci := 6) (j := 2) (off := 10) (t := 12) (n := 0) O zc_6 (by decide) rfl tw_177 dX10_nextPair_5 (zr_cV (ci := 9) (n := 1) O m_X10_nextFor (bn_X10_nextFor _ ⟨rfl, rfl⟩) vw_X10_nextFor tw_353 rc_X10_nextFor (zrm hR rfl rfl) dX10_nextPair_8 (zr_ireturn O E (Nat.le_refl _) (Nat.le_refl _) dX10_nextPair_11)))))
  refine ⟨rfl, Nat.le_of_ble_eq_true rfl, _, B_0, ?_⟩
  have hN : rpN (S, K, M) h x := hN
  have hs2 := hN.2.2
  refine ⟨((S, K, M), M, x, h.2.2 x 0 + 10), rfl, ⟨hN, hN.1.2.2, hj, hP, by omega⟩, fun r h1 hq => ?_⟩
  obtain ⟨rfl, s1⟩ := hq
  exact ⟨rfl, s1⟩
def ca_X10_fault : (Nat) → List zV := fun x => [vR 19 0 x]
def cp_X10_fault : (Nat) → zH → Prop := fun _ _ => True
def cf_X10_fault : (Nat) → zH → Int32 := fun x h => h.1 (x + 171) 1
theorem rc_X10_fault : ∀ x : (Nat), ∃ (j a : Nat) (As : List zV), ca_X10_fault x = vR (10 + 9) j a :: As := by
  rintro x
  exact ⟨_, _, _, rfl⟩
set_option maxHeartbeats 4000000 in
set_option maxRecDepth 100000 in
theorem m_X10_fault : zM yX10_fault cX10_fault 1 (some .int) ({ frames := 0, cells := 0, slots := 0, locals := 0 } : Room) (zcI ca_X10_fault cp_X10_fault cf_X10_fault) := by
  refine zM_of (by decide) ?_
  rintro X Y x h _ O E hR
  have B_0 := zr_aload_n (X := X) (Y := Y) (u := 0) (v := 0) O dX10_fault_0 rfl (zr_gS (ci := 9) (j := 4) (off := 171) (t := 17) (n := 0) O zc_9 (by decide) rfl tw_291 dX10_fault_1 (zr_gI (ci := 7) (j := 1) O zc_7 (by decide) rfl tw_197 dX10_fault_4 (zr_ireturn O E (Nat.le_refl _) (Nat.le_refl _) dX10_fault_7)))
  refine ⟨rfl, Nat.le_of_ble_eq_true rfl, _, B_0, ?_⟩
  exact ⟨rfl, rfl⟩

