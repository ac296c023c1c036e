theorem dX10_feed_18 : decode cX10_feed 18 = .ok (.aload_n 0, 1) := by decide +kernel
theorem dX10_feed_19 : decode cX10_feed 19 = .ok (.getfield 23, 3) := by decide +kernel
theorem dX10_feed_22 : decode cX10_feed 22 = .ok (.iload_n 1, 1) := by decide +kernel
theorem dX10_feed_23 : decode cX10_feed 23 = .ok (.invokevirtual 73, 3) := by decide +kernel
theorem dX10_feed_26 : decode cX10_feed 26 = .ok (.aload_n 0, 1) := by decide +kernel
theorem dX10_feed_27 : decode cX10_feed 27 = .ok (.getfield 23, 3) := by decide +kernel
theorem dX10_feed_30 : decode cX10_feed 30 = .ok (.iload_n 2, 1) := by decide +kernel
theorem dX10_feed_31 : decode cX10_feed 31 = .ok (.invokevirtual 73, 3) := by decide +kernel
theorem dX10_feed_34 : decode cX10_feed 34 = .ok (.aload_n 0, 1) := by decide +kernel
theorem dX10_feed_35 : decode cX10_feed 35 = .ok (.getfield 23, 3) := by decide +kernel
theorem dX10_feed_38 : decode cX10_feed 38 = .ok (.iload_n 3, 1) := by decide +kernel
theorem dX10_feed_39 : decode cX10_feed 39 = .ok (.invokevirtual 73, 3) := by decide +kernel
theorem dX10_feed_42 : decode cX10_feed 42 = .ok (.aload_n 0, 1) := by decide +kernel
theorem dX10_feed_43 : decode cX10_feed 43 = .ok (.getfield 23, 3) := by decide +kernel
theorem dX10_feed_46 : decode cX10_feed 46 = .ok (.iload 4, 2) := by decide +kernel
theorem dX10_feed_48 : decode cX10_feed 48 = .ok (.invokevirtual 73, 3) := by decide +kernel
theorem dX10_feed_51 : decode cX10_feed 51 = .ok (.aload_n 0, 1) := by decide +kernel
theorem dX10_feed_52 : decode cX10_feed 52 = .ok (.getfield 23, 3) := by decide +kernel
theorem dX10_feed_55 : decode cX10_feed 55 = .ok (.iload 5, 2) := by decide +kernel
theorem dX10_feed_57 : decode cX10_feed 57 = .ok (.invokevirtual 73, 3) := by decide +kernel
theorem dX10_feed_60 : decode cX10_feed 60 = .ok (.aload_n 0, 1) := by decide +kernel
theorem dX10_feed_61 : decode cX10_feed 61 = .ok (.getfield 23, 3) := by decide +kernel
theorem dX10_feed_64 : decode cX10_feed 64 = .ok (.getfield 69, 3) := by decide +kernel
theorem dX10_feed_67 : decode cX10_feed 67 = .ok (.ireturn, 1) := by decide +kernel
theorem dX10_feed_0 : decode cX10_feed 0 = .ok (.aload_n 0, 1) := by decide +kernel
theorem dX10_feed_1 : decode cX10_feed 1 = .ok (.getfield 23, 3) := by decide +kernel
theorem dX10_feed_4 : decode cX10_feed 4 = .ok (.getfield 69, 3) := by decide +kernel
theorem dX10_feed_7 : decode cX10_feed 7 = .ok (.bipush 20, 2) := by decide +kernel
theorem dX10_feed_9 : decode cX10_feed 9 = .ok (.iadd, 1) := by decide +kernel
theorem dX10_feed_10 : decode cX10_feed 10 = .ok (.sipush 400, 3) := by decide +kernel
theorem dX10_feed_13 : decode cX10_feed 13 = .ok (.if_icmp .le 5, 3) := by decide +kernel
theorem dX10_feed_16 : decode cX10_feed 16 = .ok (.iconst (-1), 1) := by decide +kernel
theorem dX10_feed_17 : decode cX10_feed 17 = .ok (.ireturn, 1) := by decide +kernel
/-! feeding -/
def tpW (r n m : Nat) (g : Nat → Int32) (h h' : zH) : Prop := ∃ f F : Nat → Int32, h' = zsW (zsW h (r + 8) f) r F ∧ F 4 = nI (n + m) ∧ (∀ k, k ≠ 4 → F k = h.1 r k) ∧ (∀ j, j < n → f j = h.1 (r + 8) j) ∧ ∀ q, q < m → f (n + q) = g q
def tpC (m : Nat) (g g2 : Nat → Int32) (q : Nat) : Int32 := if q < m then g q else g2 (q - m)
theorem tpW_tr {r n m : Nat} {g g2 : Nat → Int32} {h h1 h2 : zH} (w1 : tpW r n m g h h1) (w2 : tpW r (n + m) 4 g2 h1 h2) : tpW r n (m + 4) (tpC m g g2) h h2 := by
  obtain ⟨f, F, rfl, a1, a2, a3, a4⟩ := w1
  obtain ⟨f2, F2, rfl, b1, b2, b3, b4⟩ := w2
  have ne8 : r + 8 ≠ r := by omega
  refine ⟨f2, F2, ?_, by rw [b1]; congr 1, fun k hk => ?_, fun j hj => ?_, fun q hq => ?_⟩
  · rw [zsW_c _ _ _ ne8, zsW_W, zsW_W]
  · rw [b2 k hk, zsW_s]; exact a2 k hk
  · rw [b3 j (by omega), zsW_n _ _ ne8, zsW_s]; exact a3 j hj
  · unfold tpC
    by_cases e : q < m
    · rw [if_pos e, b3 _ (by omega), zsW_n _ _ ne8, zsW_s]; exact a4 q e
    · rw [if_neg e]
      have := b4 (q - m) (by omega)
      rw [show n + m + (q - m) = n + q by omega] at this
      exact this
theorem tpW_4 {r n m : Nat} {g : Nat → Int32} {h h' : zH} (w : tpW r n m g h h') : h'.1 r 4 = nI (n + m) := by
  obtain ⟨f, F, rfl, a1, -⟩ := w
  rw [zsW_s]
  exact a1
def fd5 (v1 v2 v3 v4 v5 : Int32) : Nat → Int32 := tpC 16 (tpC 12 (tpC 8 (tpC 4 (by4 v1) (by4 v2)) (by4 v3)) (by4 v4)) (by4 v5)
theorem fd20 : ∀ n, n ≤ 400 → ((nI n + 20 ≤ (400 : Int32)) ↔ n + 20 ≤ 400) := by
  intro n hn
  rw [show (20 : Int32) = nI 20 from rfl, nI_add]
  exact nI_leI (b := 400) (by omega) (by omega)
def ca_X10_feed : (Nat × Nat × Int32 × Int32 × Int32 × Int32 × Int32) → List zV := fun (x, n, v1, v2, v3, v4, v5) => [vR 19 0 x, vI v1, vI v2, vI v3, vI v4, vI v5]
def cp_X10_feed : (Nat × Nat × Int32 × Int32 × Int32 × Int32 × Int32) → zH → Prop := fun (x, n, v1, v2, v3, v4, v5) h => h.1 (x + 171) 4 = nI n ∧ n ≤ 400
def cq_X10_feed : (Nat × Nat × Int32 × Int32 × Int32 × Int32 × Int32) → zH → Option zV → zH → Prop := fun (x, n, v1, v2, v3, v4, v5) h o h' => (400 < n + 20 → o = some (vI (-1)) ∧ h' = h) ∧ (n + 20 ≤ 400 → o = some (vI (nI (n + 20))) ∧ tpW (x + 171) n 20 (fd5 v1 v2 v3 v4 v5) h h')
theorem rc_X10_feed : ∀ x : (Nat × Nat × Int32 × Int32 × Int32 × Int32 × Int32), ∃ (j a : Nat) (As : List zV), ca_X10_feed x = vR (10 + 9) j a :: As := by
  rintro ⟨x, n, v1, v2, v3, v4, v5⟩
  exact ⟨_, _, _, rfl⟩
set_option maxHeartbeats 4000000 in
set_option maxRecDepth 100000 in
theorem m_X10_feed : zM yX10_feed cX10_feed 6 (some .int) ({ frames := 1, cells := 0, slots := 0, locals := 22 } : Room) ((ca_X10_feed, cp_X10_feed, cq_X10_feed) : zC (Nat × Nat × Int32 × Int32 × Int32 × Int32 × Int32)) := by
  refine zM_of (by decide) ?_
  rintro X Y ⟨x, n, v1, v2, v3, v4, v5⟩ h ⟨hn, hn4⟩ O E hR
  have B_18 := zr_aload_n (X := X) (Y := Y) (u := 0) (v := 0) O dX10_feed_18 rfl (zr_gS (ci := 9) (j := 4) (off := 171) (t := 17) (n := 0) O zc_9 (by decide) rfl tw_291 dX10_feed_19 (zr_iload_n O dX10_feed_22 rfl (zr_cV (ci := 7) (n := 1) O m_X8_putOnTape (bn_X8_putOnTape _ ⟨rfl, rfl⟩) vw_X8_putOnTape tw_337 rc_X8_putOnTape (zrm hR rfl rfl) dX10_feed_23 (zr_aload_n O dX10_feed_26 rfl (zr_gS (ci := 9) (j := 4) (off := 171) (t := 17) (n := 0) O zc_9 (by decide) rfl tw_291 dX10_feed_27 (zr_iload_n O dX10_feed_30 rfl (zr_cV (ci := 7) (n := 1) O m_X8_putOnTape (bn_X8_putOnTape _ ⟨rfl, rfl⟩) vw_X8_putOnTape tw_337 rc_X8_putOnTape (zrm hR rfl rfl) dX10_feed_31 (zr_aload_n O dX10_feed_34 rfl (zr_gS (ci := 9) (j := 4) (off := 171) (t := 17) (n := 0) O zc_9 (by decide) rfl tw_291 dX10_feed_35 (zr_iload_n O dX10_feed_38 rfl (zr_cV (ci := 7) (n := 1) O m_X8_putOnTape (bn_X8_putOnTape _ ⟨rfl, rfl⟩) vw_X8_putOnTape tw_337 rc_X8_putOnTape (zrm hR rfl rfl) dX10_feed_39 (zr_aload_n O dX10_feed_42 rfl (zr_gS (ci := 9) (j := 4) (off := 171) (t := 17) (n := 0) O zc_9 (by decide) rfl tw_291 dX10_feed_43 (zr_iload O dX10_feed_46 (zr_cV (ci := 7) (n := 1) O m_X8_putOnTape (bn_X8_putOnTape _ ⟨rfl, rfl⟩) vw_X8_putOnTape tw_337 rc_X8_putOnTape (zrm hR rfl rfl) dX10_feed_48 (zr_aload_n O dX10_feed_51 rfl (zr_gS (ci := 9) (j := 4) (off := 171) (t := 17) (n := 0) O zc_9 (by decide) rfl tw_291 dX10_feed_52 (zr_iload O dX10_feed_55 (zr_cV (ci := 7) (n := 1) O m_X8_putOnTape (bn_X8_putOnTape _ ⟨rfl, rfl⟩) vw_X8_putOnTape tw_337 rc_X8_putOnTape (zrm hR rfl rfl) dX10_feed_57 (zr_aload_n O dX10_feed_60 rfl (zr_gS (ci := 9) (j := 4) (off := 171) (t := 17) (n := 0) O zc_9 (by decide) rfl tw_291 dX10_feed_61 (zr_gI (ci := 7) (j := 4) O zc_7 (by decide) rfl tw_200 dX10_feed_64 (zr_ireturn O E (Nat.le_refl _) (Nat.le_refl _) dX10_feed_67)))))))))))))))))))))))
  have B_0 := zr_aload_n (X := X) (Y := Y) (u := 0) (v := 0) O dX10_feed_0 rfl (zr_gS (ci := 9) (j := 4) (off := 171) (t := 17) (n := 0) O zc_9 (by decide) rfl tw_291 dX10_feed_1 (zr_gI (ci := 7) (j := 4) O zc_7 (by decide) rfl tw_200 dX10_feed_4 (zr_bipush (x := (20)) O dX10_feed_7 (by decide) (zr_iadd O dX10_feed_9 (zr_sipush (x := (400)) O dX10_feed_10 (by decide) (zr_icle (tgt := 18) O dX10_feed_13 rfl B_18 (zr_iconst (x := (-1)) O dX10_feed_16 rfl (zr_ireturn O E (Nat.le_refl _) (Nat.le_refl _) dX10_feed_17))))))))
  refine ⟨rfl, Nat.le_of_ble_eq_true rfl, _, B_0, ?_⟩
  have hn : h.1 (x + 171) 4 = nI n := hn
  have hn4 : n ≤ 400 := hn4
  refine ⟨fun cq => ?_, fun cq => ⟨fun _ => ⟨rfl, rfl⟩, fun hc => ?_⟩⟩
  · rw [hn] at cq
    have hc := (fd20 n hn4).mp cq
    refine ⟨(x + 171, n, v1), rfl, ⟨hn, by omega⟩, fun r1 h1 w1 => ?_⟩
    obtain ⟨rfl, w1⟩ := w1
    have w1 : tpW (x + 171) n 4 (by4 v1) h h1 := w1
    refine ⟨(x + 171, n + 4, v2), rfl, ⟨tpW_4 w1, by omega⟩, fun r2 h2 w2 => ?_⟩
    obtain ⟨rfl, w2⟩ := w2
    have w2 := tpW_tr w1 w2
    refine ⟨(x + 171, n + 8, v3), rfl, ⟨tpW_4 w2, by omega⟩, fun r3 h3 w3 => ?_⟩
    obtain ⟨rfl, w3⟩ := w3
    have w3 := tpW_tr w2 w3
    refine ⟨(x + 171, n + 12, v4), rfl, ⟨tpW_4 w3, by omega⟩, fun r4 h4 w4 => ?_⟩
    obtain ⟨rfl, w4⟩ := w4
    have w4 := tpW_tr w3 w4
    refine ⟨(x + 171, n + 16, v5), rfl, ⟨tpW_4 w4, by omega⟩, fun r5 h5 w5 => ?_⟩
    obtain ⟨rfl, w5⟩ := w5
    have w5 := tpW_tr w4 w5
    exact ⟨fun z => absurd z (by omega), fun _ => ⟨zri (tpW_4 w5), w5⟩⟩
  · rw [hn] at cq
    exact absurd ((fd20 n hn4).mpr hc) cq

