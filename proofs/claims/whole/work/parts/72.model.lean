theorem dX11_guardFor_59 : decode cX11_guardFor 59 = .ok (.iconst (-1), 1) := by decide +kernel
theorem dX11_guardFor_60 : decode cX11_guardFor 60 = .ok (.ireturn, 1) := by decide +kernel
theorem dX11_guardFor_53 : decode cX11_guardFor 53 = .ok (.iinc 2 (-1), 3) := by decide +kernel
theorem dX11_guardFor_56 : decode cX11_guardFor 56 = .ok (.goto (-29), 3) := by decide +kernel
theorem dX11_guardFor_27 : decode cX11_guardFor 27 = .ok (.iload_n 2, 1) := by decide +kernel
theorem dX11_guardFor_28 : decode cX11_guardFor 28 = .ok (.ifCond .lt 31, 3) := by decide +kernel
theorem dX11_guardFor_31 : decode cX11_guardFor 31 = .ok (.aload_n 0, 1) := by decide +kernel
theorem dX11_guardFor_32 : decode cX11_guardFor 32 = .ok (.aload_n 0, 1) := by decide +kernel
theorem dX11_guardFor_33 : decode cX11_guardFor 33 = .ok (.iload_n 2, 1) := by decide +kernel
theorem dX11_guardFor_34 : decode cX11_guardFor 34 = .ok (.iconst 0, 1) := by decide +kernel
theorem dX11_guardFor_35 : decode cX11_guardFor 35 = .ok (.invokevirtual 110, 3) := by decide +kernel
theorem dX11_guardFor_38 : decode cX11_guardFor 38 = .ok (.aload_n 0, 1) := by decide +kernel
theorem dX11_guardFor_39 : decode cX11_guardFor 39 = .ok (.getfield 17, 3) := by decide +kernel
theorem dX11_guardFor_42 : decode cX11_guardFor 42 = .ok (.iconst 4, 1) := by decide +kernel
theorem dX11_guardFor_43 : decode cX11_guardFor 43 = .ok (.iaload, 1) := by decide +kernel
theorem dX11_guardFor_44 : decode cX11_guardFor 44 = .ok (.invokevirtual 124, 3) := by decide +kernel
theorem dX11_guardFor_47 : decode cX11_guardFor 47 = .ok (.iload_n 1, 1) := by decide +kernel
theorem dX11_guardFor_48 : decode cX11_guardFor 48 = .ok (.if_icmp .lt 5, 3) := by decide +kernel
theorem dX11_guardFor_51 : decode cX11_guardFor 51 = .ok (.iload_n 2, 1) := by decide +kernel
theorem dX11_guardFor_52 : decode cX11_guardFor 52 = .ok (.ireturn, 1) := by decide +kernel
theorem dX11_guardFor_23 : decode cX11_guardFor 23 = .ok (.sipush 999, 3) := by decide +kernel
theorem dX11_guardFor_26 : decode cX11_guardFor 26 = .ok (.istore_n 2, 1) := by decide +kernel
theorem dX11_guardFor_0 : decode cX11_guardFor 0 = .ok (.aload_n 0, 1) := by decide +kernel
theorem dX11_guardFor_1 : decode cX11_guardFor 1 = .ok (.iconst 0, 1) := by decide +kernel
theorem dX11_guardFor_2 : decode cX11_guardFor 2 = .ok (.putfield 1, 3) := by decide +kernel
theorem dX11_guardFor_5 : decode cX11_guardFor 5 = .ok (.aload_n 0, 1) := by decide +kernel
theorem dX11_guardFor_6 : decode cX11_guardFor 6 = .ok (.iload_n 1, 1) := by decide +kernel
theorem dX11_guardFor_7 : decode cX11_guardFor 7 = .ok (.iconst 1, 1) := by decide +kernel
theorem dX11_guardFor_8 : decode cX11_guardFor 8 = .ok (.bipush 28, 2) := by decide +kernel
theorem dX11_guardFor_10 : decode cX11_guardFor 10 = .ok (.invokestatic 173, 3) := by decide +kernel
theorem dX11_guardFor_13 : decode cX11_guardFor 13 = .ok (.iconst 1, 1) := by decide +kernel
theorem dX11_guardFor_14 : decode cX11_guardFor 14 = .ok (.iconst 1, 1) := by decide +kernel
theorem dX11_guardFor_15 : decode cX11_guardFor 15 = .ok (.invokevirtual 217, 3) := by decide +kernel
theorem dX11_guardFor_18 : decode cX11_guardFor 18 = .ok (.ifCond .ne 5, 3) := by decide +kernel
theorem dX11_guardFor_21 : decode cX11_guardFor 21 = .ok (.iconst 0, 1) := by decide +kernel
theorem dX11_guardFor_22 : decode cX11_guardFor 22 = .ok (.ireturn, 1) := by decide +kernel
/-! the reference: the guard for some blocks -/
def gdc (S : zD) (g : Int32) : Nat := fb_ct (fun p => decide (g < mrg S p)) (dP S)
def gdM (S : zD) (b : Nat) : Int32 := if fa_first (fun j => decide (b ≤ bkc (dR S) (gdc S (nI (999 - j))))) 1000 < 1000 then nI (999 - fa_first (fun j => decide (b ≤ bkc (dR S) (gdc S (nI (999 - j))))) 1000) else -1
theorem dn_0 : ∀ j : Nat, j < 1000 → (999 : Int32) - nI j = nI (999 - j) ∧ ¬ (999 : Int32) - nI j < 0 ∧ (999 : Int32) - nI j + (-1) = 999 - nI (j + 1) := by decide +kernel
def ca_X11_guardFor : (zD × Nat × Int32) → List zV := fun (S, y, b) => [vR 20 0 y, vI b]
def cp_X11_guardFor : (zD × Nat × Int32) → zH → Prop := fun (S, y, b) h => rmS S h y ∧ vS S
def cq_X11_guardFor : (zD × Nat × Int32) → zH → Option zV → zH → Prop := fun (S, y, b) h r h' => fq y h h' ∧ ((gR b 1 28 ∧ rok y h h' ∧ r = some (vI (gdM S (cN b)))) ∨ (¬ gR b 1 28 ∧ rno y 1 1 h h' ∧ r = some (vI 0)))
theorem rc_X11_guardFor : ∀ x : (zD × Nat × Int32), ∃ (j a : Nat) (As : List zV), ca_X11_guardFor x = vR (10 + 10) j a :: As := by
  rintro ⟨S, y, b⟩
  exact ⟨_, _, _, rfl⟩
set_option maxHeartbeats 4000000 in
set_option maxRecDepth 100000 in
theorem m_X11_guardFor : zM yX11_guardFor cX11_guardFor 3 (some .int) ({ frames := 7, cells := 0, slots := 0, locals := 158 } : Room) ((ca_X11_guardFor, cp_X11_guardFor, cq_X11_guardFor) : zC (zD × Nat × Int32)) := by
  refine zM_of (by decide) ?_
  rintro X Y ⟨S, y, b⟩ h ⟨hS, hv⟩ O E hR
  have hS : rmS S h y := hS
  have hv : vS S := hv
  have hS0 := rmS_0 hS
  have hP28 := hS.2.1.2
  have B_59 := zr_iconst (X := X) (Y := Y) (u := 0) (v := 0) (x := (-1)) O dX11_guardFor_59 rfl (zr_ireturn O E (Nat.le_refl _) (Nat.le_refl _) dX11_guardFor_60)
  have L_27 : ∀ nn : Nat, zSd X Y 0 0 27 ((fun d ls st h1 => ∃ (j q : Nat) (z : Int32), d = 1000 - j ∧ j ≤ 1000 ∧ gR b 1 28 ∧ b = nI q ∧ q ≤ 28 ∧ ls = [some (vR 20 0 y), some (vI b), some (vI z)] ∧ z = 999 - nI j ∧ st = [] ∧ fm y (zsI h y 0 0) h1 ∧ ∀ i, i < j → decide (q ≤ bkc (dR S) (gdc S (nI (999 - i)))) = false : Nat → zT) nn) := by
    refine zSd_loop (fun nn ih => ?_)
    have B_53 := zr_iinc (X := X) (Y := Y) (u := 0) (v := 0) (c := (-1)) O dX11_guardFor_53 rfl (zr_goto (tgt := 27) O dX11_guardFor_56 rfl ih)
    have B_27 := zr_iload_n (X := X) (Y := Y) (u := 0) (v := 0) O dX11_guardFor_27 rfl (zr_iflt (tgt := 59) O dX11_guardFor_28 rfl B_59 (zr_aload_n O dX11_guardFor_31 rfl (zr_aload_n O dX11_guardFor_32 rfl (zr_iload_n O dX11_guardFor_33 rfl (zr_iconst (x := 0) O dX11_guardFor_34 rfl (zr_cV (ci := 10) (n := 2) O m_X11_usedBy (bn_X11_usedBy _ ⟨rfl, rfl⟩) vw_X11_usedBy tw_1399 rc_X11_usedBy (zrm hR rfl rfl) dX11_guardFor_35 (zr_aload_n O dX11_guardFor_38 rfl (zr_gS (ci := 10) (j := 2) (off := 2) (t := 1) (n := 218) O zc_10 (by decide) rfl tw_1189 dX11_guardFor_39 (zr_iconst (x := 4) O dX11_guardFor_42 rfl (zr_iald O dX11_guardFor_43 (zr_cI (zr_cV (ci := 10) (n := 2) O m_X11_blocksOf (bn_X11_blocksOf _ ⟨rfl, rfl⟩) vw_X11_blocksOf tw_1434 rc_X11_blocksOf (zrm hR rfl rfl) dX11_guardFor_44 (zr_iload_n O dX11_guardFor_47 rfl (zr_iclt (tgt := 53) O dX11_guardFor_48 rfl B_53 (zr_iload_n O dX11_guardFor_51 rfl (zr_ireturn O E (Nat.le_refl _) (Nat.le_refl _) dX11_guardFor_52))))))))))))))))
    refine zSd_weak B_27 (fun ls st h1 t => ?_)
    obtain ⟨j, q, z, rfl, hj, g1, rfl, hq, rfl, rfl, rfl, f1, hb⟩ := t
    have eq : cN (nI q) = q := nI_clamp (by omega)
    have f3 := fq_fm (fq_0 y h) f1
    have hS1 := rmS_fm f1 hS0
    refine ⟨fun c => ⟨f3.1, Or.inl ⟨g1, f3.2, zri ?_⟩⟩, fun c => ?_⟩
    · have hj2 : j = 1000 := by
        by_cases z : j < 1000
        · exact absurd c (dn_0 j z).2.1
        · omega
      subst hj2
      rw [eq, gdM, if_neg (first_none hb)]
    · have hj2 : j < 1000 := by
        by_cases z : j < 1000
        · exact z
        · have : j = 1000 := by omega
          subst this
          exact absurd (by decide) c
      obtain ⟨d1, -, d3⟩ := dn_0 j hj2
      refine ⟨(S, y, 999 - nI j, false), rfl, ⟨hS1, hv⟩, fun r h2 hq2 => ?_⟩
      obtain ⟨rfl, u, e2, -⟩ := hq2
      replace e2 : h2 = zsW h1 (y + 9) u := e2
      have f2 : fm y (zsI h y 0 0) h2 := by rw [e2]; exact fm_t f1 (fm_W (j := 9) _ _ (by decide))
      have f4 := fq_fm (fq_0 y h) f2
      have hS2 := rmS_fm f2 hS0
      have t4 : h2.1 (y + 2) 4 = nI (dR S) := by rw [hS2.2.2.2.2 4 (by decide)]; exact hv.2.2.2.2.2.1
      have eg : fb_ct (fun p => false || decide (999 - nI j < mrg S p)) (dP S) = gdc S (nI (999 - j)) := by
        rw [d1]; rfl
      have lg : gdc S (nI (999 - j)) ≤ dP S := fb_ct_le _ _
      have lb : bkc (dR S) (gdc S (nI (999 - j))) ≤ 28 := Nat.le_trans (Nat.min_le_left _ _) (Nat.le_trans (Nat.div_le_self _ _) (by omega))
      refine ⟨4, rfl, by decide, (y, gdc S (nI (999 - j)), dR S), ?_, ⟨by omega, hv.2.2.2.2.2.2⟩, fun c2 => ?_, fun c2 => ?_⟩
      · show [vR 20 0 y, vI (nI (fb_ct (fun p => false || decide (999 - nI j < mrg S p)) (dP S))), vI (h2.1 (y + 2) 4)] = _
        rw [eg, t4]; rfl
      · replace c2 : nI (bkc (dR S) (gdc S (nI (999 - j)))) < nI q := c2
        have := nI_lt2 (by omega) (by omega) c2
        refine ⟨1000 - (j + 1), by omega, j + 1, q, _, rfl, by omega, g1, rfl, hq, rfl, d3, rfl, f2, fun i hi => ?_⟩
        by_cases e : i = j
        · rw [e]; exact decide_eq_false (by omega)
        · exact hb i (by omega)
      · replace c2 : ¬ nI (bkc (dR S) (gdc S (nI (999 - j)))) < nI q := c2
        have hle : ¬ bkc (dR S) (gdc S (nI (999 - j))) < q := fun z => c2 (nI_lt z (by omega))
        refine ⟨f4.1, Or.inl ⟨g1, f4.2, zri ?_⟩⟩
        have e : fa_first (fun j => decide (q ≤ bkc (dR S) (gdc S (nI (999 - j))))) 1000 = j := first_at hj2 (decide_eq_true (by omega)) hb
        rw [eq, gdM, e, if_pos hj2, d1]
  have B_27 := zSd_any L_27
  have B_23 := zr_sipush (X := X) (Y := Y) (u := 0) (v := 0) (x := (999)) O dX11_guardFor_23 (by decide) (zr_istore_n O dX11_guardFor_26 rfl (B_27))
  have B_0 := zr_aload_n (X := X) (Y := Y) (u := 0) (v := 0) O dX11_guardFor_0 rfl (zr_iconst (x := 0) O dX11_guardFor_1 rfl (zr_pI (ci := 10) (j := 0) O zc_10 (by decide) rfl rfl rfl tw_1187 dX11_guardFor_2 (zr_aload_n O dX11_guardFor_5 rfl (zr_iload_n O dX11_guardFor_6 rfl (zr_iconst (x := 1) O dX11_guardFor_7 rfl (zr_bipush (x := (28)) O dX11_guardFor_8 (by decide) (zr_cI (zr_cS (n := 3) O m_X11_within (bn_X11_within _ ⟨rfl, rfl⟩) tw_1306 tw_1305 (zrm hR rfl rfl) dX11_guardFor_10 (zr_iconst (x := 1) O dX11_guardFor_13 rfl (zr_iconst (x := 1) O dX11_guardFor_14 rfl (zr_cH (zr_cV (ci := 10) (n := 3) O m_X11_isFine (bn_X11_isFine _ ⟨rfl, rfl⟩) vw_X11_isFine tw_1308 rc_X11_isFine (zrm hR rfl rfl) dX11_guardFor_15 (zr_ifne (tgt := 23) O dX11_guardFor_18 rfl B_23 (zr_iconst (x := 0) O dX11_guardFor_21 rfl (zr_ireturn O E (Nat.le_refl _) (Nat.le_refl _) dX11_guardFor_22)))))))))))))))
  refine ⟨rfl, Nat.le_of_ble_eq_true rfl, _, B_0, ?_⟩
  refine ⟨(b, 1, 28), rfl, trivial, (y, decide (1 ≤ b ∧ b ≤ 28), 1, 1), rfl, ⟨by decide, by decide⟩, fun d => ?_, fun d => ?_⟩
  · obtain ⟨g1, e⟩ := fine_ok (t0 h y) d
    rw [e]
    obtain ⟨q, rfl, hq, eq⟩ := rngx (n := 28) (by decide) (show gR b 0 (nI 28) from ⟨Int32.le_trans (by decide) g1.1, g1.2⟩)
    exact ⟨1000 - 0, 0, q, _, rfl, Nat.zero_le _, g1, rfl, hq, rfl, by decide, rfl, fm_r _ _, fun i hi => absurd hi (Nat.not_lt_zero _)⟩
  · obtain ⟨g1, e⟩ := fine_no (t0 h y) d
    rw [e]
    exact ⟨(fq_rf 1 (fq_0 y h)).1, Or.inr ⟨g1, (fq_rf 1 (fq_0 y h)).2, rfl⟩⟩

