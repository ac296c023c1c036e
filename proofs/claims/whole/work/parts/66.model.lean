theorem dX11_hear_51 : decode cX11_hear 51 = .ok (.aload_n 0, 1) := by decide +kernel
theorem dX11_hear_52 : decode cX11_hear 52 = .ok (.getfield 17, 3) := by decide +kernel
theorem dX11_hear_55 : decode cX11_hear 55 = .ok (.sipush 162, 3) := by decide +kernel
theorem dX11_hear_58 : decode cX11_hear 58 = .ok (.iload_n 2, 1) := by decide +kernel
theorem dX11_hear_59 : decode cX11_hear 59 = .ok (.iadd, 1) := by decide +kernel
theorem dX11_hear_60 : decode cX11_hear 60 = .ok (.iload_n 1, 1) := by decide +kernel
theorem dX11_hear_61 : decode cX11_hear 61 = .ok (.iastore, 1) := by decide +kernel
theorem dX11_hear_62 : decode cX11_hear 62 = .ok (.aload_n 0, 1) := by decide +kernel
theorem dX11_hear_63 : decode cX11_hear 63 = .ok (.getfield 17, 3) := by decide +kernel
theorem dX11_hear_66 : decode cX11_hear 66 = .ok (.sipush 190, 3) := by decide +kernel
theorem dX11_hear_69 : decode cX11_hear 69 = .ok (.iload_n 2, 1) := by decide +kernel
theorem dX11_hear_70 : decode cX11_hear 70 = .ok (.iadd, 1) := by decide +kernel
theorem dX11_hear_71 : decode cX11_hear 71 = .ok (.aload_n 0, 1) := by decide +kernel
theorem dX11_hear_72 : decode cX11_hear 72 = .ok (.iload_n 1, 1) := by decide +kernel
theorem dX11_hear_73 : decode cX11_hear 73 = .ok (.invokevirtual 85, 3) := by decide +kernel
theorem dX11_hear_76 : decode cX11_hear 76 = .ok (.iastore, 1) := by decide +kernel
theorem dX11_hear_77 : decode cX11_hear 77 = .ok (.aload_n 0, 1) := by decide +kernel
theorem dX11_hear_78 : decode cX11_hear 78 = .ok (.getfield 17, 3) := by decide +kernel
theorem dX11_hear_81 : decode cX11_hear 81 = .ok (.sipush 190, 3) := by decide +kernel
theorem dX11_hear_84 : decode cX11_hear 84 = .ok (.iload_n 2, 1) := by decide +kernel
theorem dX11_hear_85 : decode cX11_hear 85 = .ok (.iadd, 1) := by decide +kernel
theorem dX11_hear_86 : decode cX11_hear 86 = .ok (.iaload, 1) := by decide +kernel
theorem dX11_hear_87 : decode cX11_hear 87 = .ok (.ireturn, 1) := by decide +kernel
theorem dX11_hear_15 : decode cX11_hear 15 = .ok (.aload_n 0, 1) := by decide +kernel
theorem dX11_hear_16 : decode cX11_hear 16 = .ok (.invokevirtual 233, 3) := by decide +kernel
theorem dX11_hear_19 : decode cX11_hear 19 = .ok (.aload_n 0, 1) := by decide +kernel
theorem dX11_hear_20 : decode cX11_hear 20 = .ok (.iload_n 1, 1) := by decide +kernel
theorem dX11_hear_21 : decode cX11_hear 21 = .ok (.invokevirtual 254, 3) := by decide +kernel
theorem dX11_hear_24 : decode cX11_hear 24 = .ok (.istore_n 2, 1) := by decide +kernel
theorem dX11_hear_25 : decode cX11_hear 25 = .ok (.iload_n 2, 1) := by decide +kernel
theorem dX11_hear_26 : decode cX11_hear 26 = .ok (.iconst (-1), 1) := by decide +kernel
theorem dX11_hear_27 : decode cX11_hear 27 = .ok (.if_icmp .ne 24, 3) := by decide +kernel
theorem dX11_hear_30 : decode cX11_hear 30 = .ok (.aload_n 0, 1) := by decide +kernel
theorem dX11_hear_31 : decode cX11_hear 31 = .ok (.getfield 17, 3) := by decide +kernel
theorem dX11_hear_34 : decode cX11_hear 34 = .ok (.sipush 161, 3) := by decide +kernel
theorem dX11_hear_37 : decode cX11_hear 37 = .ok (.iaload, 1) := by decide +kernel
theorem dX11_hear_38 : decode cX11_hear 38 = .ok (.istore_n 2, 1) := by decide +kernel
theorem dX11_hear_39 : decode cX11_hear 39 = .ok (.aload_n 0, 1) := by decide +kernel
theorem dX11_hear_40 : decode cX11_hear 40 = .ok (.getfield 17, 3) := by decide +kernel
theorem dX11_hear_43 : decode cX11_hear 43 = .ok (.sipush 161, 3) := by decide +kernel
theorem dX11_hear_46 : decode cX11_hear 46 = .ok (.dup2, 1) := by decide +kernel
theorem dX11_hear_47 : decode cX11_hear 47 = .ok (.iaload, 1) := by decide +kernel
theorem dX11_hear_48 : decode cX11_hear 48 = .ok (.iconst 1, 1) := by decide +kernel
theorem dX11_hear_49 : decode cX11_hear 49 = .ok (.iadd, 1) := by decide +kernel
theorem dX11_hear_50 : decode cX11_hear 50 = .ok (.iastore, 1) := by decide +kernel
theorem dX11_hear_0 : decode cX11_hear 0 = .ok (.aload_n 0, 1) := by decide +kernel
theorem dX11_hear_1 : decode cX11_hear 1 = .ok (.iconst 0, 1) := by decide +kernel
theorem dX11_hear_2 : decode cX11_hear 2 = .ok (.putfield 1, 3) := by decide +kernel
theorem dX11_hear_5 : decode cX11_hear 5 = .ok (.aload_n 0, 1) := by decide +kernel
theorem dX11_hear_6 : decode cX11_hear 6 = .ok (.iload_n 1, 1) := by decide +kernel
theorem dX11_hear_7 : decode cX11_hear 7 = .ok (.invokevirtual 251, 3) := by decide +kernel
theorem dX11_hear_10 : decode cX11_hear 10 = .ok (.ifCond .ne 5, 3) := by decide +kernel
theorem dX11_hear_13 : decode cX11_hear 13 = .ok (.iconst 0, 1) := by decide +kernel
theorem dX11_hear_14 : decode cX11_hear 14 = .ok (.ireturn, 1) := by decide +kernel
theorem dX11_train_47 : decode cX11_train 47 = .ok (.iload_n 2, 1) := by decide +kernel
theorem dX11_train_48 : decode cX11_train 48 = .ok (.ireturn, 1) := by decide +kernel
theorem dX11_train_31 : decode cX11_train 31 = .ok (.iload_n 3, 1) := by decide +kernel
theorem dX11_train_32 : decode cX11_train 32 = .ok (.iload_n 1, 1) := by decide +kernel
theorem dX11_train_33 : decode cX11_train 33 = .ok (.if_icmp .ge 14, 3) := by decide +kernel
theorem dX11_train_36 : decode cX11_train 36 = .ok (.aload_n 0, 1) := by decide +kernel
theorem dX11_train_37 : decode cX11_train 37 = .ok (.invokevirtual 260, 3) := by decide +kernel
theorem dX11_train_40 : decode cX11_train 40 = .ok (.istore_n 2, 1) := by decide +kernel
theorem dX11_train_41 : decode cX11_train 41 = .ok (.iinc 3 1, 3) := by decide +kernel
theorem dX11_train_44 : decode cX11_train 44 = .ok (.goto (-13), 3) := by decide +kernel
theorem dX11_train_23 : decode cX11_train 23 = .ok (.aload_n 0, 1) := by decide +kernel
theorem dX11_train_24 : decode cX11_train 24 = .ok (.invokevirtual 233, 3) := by decide +kernel
theorem dX11_train_27 : decode cX11_train 27 = .ok (.iconst 0, 1) := by decide +kernel
theorem dX11_train_28 : decode cX11_train 28 = .ok (.istore_n 2, 1) := by decide +kernel
theorem dX11_train_29 : decode cX11_train 29 = .ok (.iconst 0, 1) := by decide +kernel
theorem dX11_train_30 : decode cX11_train 30 = .ok (.istore_n 3, 1) := by decide +kernel
theorem dX11_train_0 : decode cX11_train 0 = .ok (.aload_n 0, 1) := by decide +kernel
theorem dX11_train_1 : decode cX11_train 1 = .ok (.iconst 0, 1) := by decide +kernel
theorem dX11_train_2 : decode cX11_train 2 = .ok (.putfield 1, 3) := by decide +kernel
theorem dX11_train_5 : decode cX11_train 5 = .ok (.aload_n 0, 1) := by decide +kernel
theorem dX11_train_6 : decode cX11_train 6 = .ok (.iload_n 1, 1) := by decide +kernel
theorem dX11_train_7 : decode cX11_train 7 = .ok (.iconst 1, 1) := by decide +kernel
theorem dX11_train_8 : decode cX11_train 8 = .ok (.bipush 50, 2) := by decide +kernel
theorem dX11_train_10 : decode cX11_train 10 = .ok (.invokestatic 173, 3) := by decide +kernel
theorem dX11_train_13 : decode cX11_train 13 = .ok (.iconst 1, 1) := by decide +kernel
theorem dX11_train_14 : decode cX11_train 14 = .ok (.iconst 1, 1) := by decide +kernel
theorem dX11_train_15 : decode cX11_train 15 = .ok (.invokevirtual 217, 3) := by decide +kernel
theorem dX11_train_18 : decode cX11_train 18 = .ok (.ifCond .ne 5, 3) := by decide +kernel
theorem dX11_train_21 : decode cX11_train 21 = .ok (.iconst 0, 1) := by decide +kernel
theorem dX11_train_22 : decode cX11_train 22 = .ok (.ireturn, 1) := by decide +kernel
/-! the reference's changes: hear, train -/
def ca_X11_hear : (zQ × (Nat → zQ) × Nat × Nat × Int32) → List zV := fun (Q, Hs, c, y, i) => [vR 20 0 y, vI i]
def cp_X11_hear : (zQ × (Nat → zQ) × Nat × Nat × Int32) → zH → Prop := fun (Q, Hs, c, y, i) h => rmZ (Q, Hs, c) y h ∧ vQ Q
def cq_X11_hear : (zQ × (Nat → zQ) × Nat × Nat × Int32) → zH → Option zV → zH → Prop := fun (Q, Hs, c, y, i) h r h' => (gC i (dP Q.1) ∧ fs y h h' ∧ rok y h h' ∧ r = some (vI (pb Q.1 (cN i))) ∧ rmZ ((Q.1, Q.2.1, gkp Q.2.2 (cN i) (decide (pb Q.1 (cN i) = 1))), hcn Q Hs, min (c + 1) 12) y h') ∨ (¬ gC i (dP Q.1) ∧ fq y h h' ∧ rno y 1 0 h h' ∧ r = some (vI 0))
theorem rc_X11_hear : ∀ x : (zQ × (Nat → zQ) × Nat × Nat × Int32), ∃ (j a : Nat) (As : List zV), ca_X11_hear x = vR (10 + 10) j a :: As := by
  rintro ⟨⟨S, K, M⟩, Hs, c, y, i⟩
  exact ⟨_, _, _, rfl⟩
set_option maxHeartbeats 4000000 in
set_option maxRecDepth 100000 in
theorem m_X11_hear : zM yX11_hear cX11_hear 3 (some .int) ({ frames := 3, cells := 0, slots := 0, locals := 66 } : Room) ((ca_X11_hear, cp_X11_hear, cq_X11_hear) : zC (zQ × (Nat → zQ) × Nat × Nat × Int32)) := by
  refine zM_of (by decide) ?_
  rintro X Y ⟨⟨S, K, M⟩, Hs, c, y, i⟩ h ⟨hZ, hv, -, hj, hG⟩ O E hR
  have hZ : rmZ ((S, K, M), Hs, c) y h := hZ
  have hG : ∀ i, i < gN M → gP M i < dP S := hG
  have hZ0 := rmZ_fq (fq_0 y h).1 hZ
  have hP28 : dP S ≤ 28 := hZ.1.2.1.2
  have B_51 := zr_aload_n (X := X) (Y := Y) (u := 0) (v := 0) O dX11_hear_51 rfl (zr_gS (ci := 10) (j := 2) (off := 2) (t := 1) (n := 218) O zc_10 (by decide) rfl tw_1189 dX11_hear_52 (zr_sipush (x := (162)) O dX11_hear_55 (by decide) (zr_iload_n O dX11_hear_58 rfl (zr_iadd O dX11_hear_59 (zr_iload_n O dX11_hear_60 rfl (zr_iast O dX11_hear_61 (zr_aload_n O dX11_hear_62 rfl (zr_gS (ci := 10) (j := 2) (off := 2) (t := 1) (n := 218) O zc_10 (by decide) rfl tw_1189 dX11_hear_63 (zr_sipush (x := (190)) O dX11_hear_66 (by decide) (zr_iload_n O dX11_hear_69 rfl (zr_iadd O dX11_hear_70 (zr_aload_n O dX11_hear_71 rfl (zr_iload_n O dX11_hear_72 rfl (zr_cI (zr_cV (ci := 10) (n := 1) O m_X11_bitOf (bn_X11_bitOf _ ⟨rfl, rfl⟩) vw_X11_bitOf tw_1419 rc_X11_bitOf (zrm hR rfl rfl) dX11_hear_73 (zr_iast O dX11_hear_76 (zr_aload_n O dX11_hear_77 rfl (zr_gS (ci := 10) (j := 2) (off := 2) (t := 1) (n := 218) O zc_10 (by decide) rfl tw_1189 dX11_hear_78 (zr_sipush (x := (190)) O dX11_hear_81 (by decide) (zr_iload_n O dX11_hear_84 rfl (zr_iadd O dX11_hear_85 (zr_iald O dX11_hear_86 (zr_ireturn O E (Nat.le_refl _) (Nat.le_refl _) dX11_hear_87)))))))))))))))))))))))
  have C_51 : zSd X Y 0 0 51 (fun ls st h1 => ∃ (a at1 : Nat) (z : Int32) (h2 : zH) (f : Nat → Int32), i = nI a ∧ a < dP S ∧ ls = [some (vR 20 0 y), some (vI i), some (vI z)] ∧ z = nI at1 ∧ st = [] ∧ h1 = zsW h2 (y + 2) f ∧ rmZ ((S, K, M), hcn (S, K, M) Hs, min (c + 1) 12) y h2 ∧ kpd y (zsI h y 0 0) h2 ∧ (∀ k, k ≠ 161 → f k = h2.1 (y + 2) k) ∧ ((gH M a = true ∧ at1 = gIx M a ∧ f 161 = nI (gN M)) ∨ (gH M a = false ∧ at1 = gN M ∧ f 161 = nI (gN M + 1)))) := by
    refine zSd_weak B_51 (fun ls st h1 t => ?_)
    obtain ⟨a, at1, z, h2, f, rfl, ha, rfl, rfl, rfl, rfl, hZ2, kp, hf, hc⟩ := t
    have ea : cN (nI a) = a := nI_clamp (by omega)
    have g0 : gC (nI a) (dP S) := ⟨nI_pos' (by omega), nI_lt ha (by omega)⟩
    have hL2 : rmL M (h2.1 (y + 2)) := hZ2.2.2.1
    have h28 := hL2.1.2
    have hat : at1 < 28 := by
      rcases hc with ⟨q1, q2, -⟩ | ⟨q1, q2, -⟩
      · have := (gIx_yes q1).1; omega
      · have := g_more hj hG ha q1
        have : gN M < dP S := this
        omega
    have hS3 : ∀ g : Nat → Int32, (∀ k, k < 35 → g k = h2.1 (y + 2) k) → rmS S (zsW h2 (y + 2) g) y := fun g hg => rmS_m hg hZ2.1
    refine ⟨162 + at1, lI 162 at1, by omega, (S, y, a), rfl, ⟨?_, ha⟩, 190 + at1, lI 190 at1, by omega, 190 + at1, lI 190 at1, by omega, ?_⟩
    · rw [zsI_W, zsW_W, zsW_s]
      exact hS3 _ (fun k hk => by rw [zup_n _ _ (by omega)]; exact hf k (by omega))
    · show cq_X11_hear ((S, K, M), Hs, c, y, nI a) h (some (vI ((zsI (zsI (zsW h2 (y + 2) f) (y + 2) (162 + at1) (nI a)) (y + 2) (190 + at1) (pb S a)).1 (y + 2) (190 + at1)))) (zsI (zsI (zsW h2 (y + 2) f) (y + 2) (162 + at1) (nI a)) (y + 2) (190 + at1) (pb S a))
      rw [zsI_me, zsI_W (zsW h2 (y + 2) f), zsW_W, zsW_s, zsI_W, zsW_W, zsW_s]
      obtain ⟨k1, k2⟩ := kp_end kp (va_up (va_up f (162 + at1) (nI a)) (190 + at1) (pb S a))
      refine Or.inl ⟨g0, k1, k2, zri (by rw [ea]), ?_⟩
      rw [ea]
      have hg : ∀ k, k ≠ 161 → k ≠ 162 + at1 → k ≠ 190 + at1 → va_up (va_up f (162 + at1) (nI a)) (190 + at1) (pb S a) k = h2.1 (y + 2) k := fun k z1 z2 z3 => by rw [zup_n _ _ z3, zup_n _ _ z2]; exact hf k z1
      refine rmZ_m (Q := (S, K, M)) (R := (S, K, gkp M a (decide (pb S a = 1)))) ⟨rfl, rfl, rfl, rfl⟩ (rmr_cg hZ2.1.1.2 (fun k hk => hg k (by omega) (by omega) (by omega)) ⟨hZ2.1.2.2.1, hZ2.1.2.2.2.2⟩) (rmE_cg (fun k _ hk => hg k (by omega) (by omega) (by omega)) hZ2.2.1) ?_ hZ2
      have epb : pb S a = bI (decide (pb S a = 1)) := pb_bb S a
      obtain ⟨B, eB2⟩ : ∃ B : Bool, B = decide (pb S a = 1) := ⟨_, rfl⟩
      rw [← eB2] at epb ⊢
      rw [epb]
      rcases hc with ⟨q1, q2, q3⟩ | ⟨q1, q2, q3⟩
      · obtain ⟨x1, x2⟩ := gIx_yes q1
        have eg : gkp M a B = (gN M, gP M, va_up (gB M) (gIx M a) B, gW M) := by rw [gkp, if_pos q1]
        rw [eg]
        refine ⟨⟨?_, h28⟩, fun j hj => ?_, fun r hr => ?_⟩
        · rw [zup_n _ _ (by omega), zup_n _ _ (by omega)]; exact q3
        · replace hj : j < gN M := hj
          obtain ⟨⟨p1, p2⟩, p3⟩ := hL2.2.1 j hj
          refine ⟨⟨?_, p2⟩, ?_⟩
          · show _ = nI (gP M j)
            rw [zup_n _ _ (by omega)]
            by_cases e : j = at1
            · rw [e, zup_s, q2, x2]
            · rw [zup_n _ _ (by omega), hf _ (by omega)]; exact p1
          · show _ = bI (va_up (gB M) (gIx M a) B j)
            by_cases e : j = at1
            · rw [e, zup_s, q2, zup_s]
            · rw [zup_n _ _ (by omega), zup_n _ _ (by omega), zup_n _ _ (by omega), hf _ (by omega)]; exact p3
        · rw [zup_n _ _ (by omega), zup_n _ _ (by omega), hf _ (by omega)]; exact hL2.2.2 r hr
      · have eg : gkp M a B = (gN M + 1, va_up (gP M) (gN M) a, va_up (gB M) (gN M) B, gW M) := by rw [gkp, if_neg (by rw [q1]; decide)]
        rw [eg]
        refine ⟨⟨?_, by show gN M + 1 ≤ 28; omega⟩, fun j hj => ?_, fun r hr => ?_⟩
        · rw [zup_n _ _ (by omega), zup_n _ _ (by omega)]; exact q3
        · replace hj : j < gN M + 1 := hj
          refine ⟨⟨?_, ?_⟩, ?_⟩
          · show _ = nI (va_up (gP M) (gN M) a j)
            rw [zup_n _ _ (by omega)]
            by_cases e : j = at1
            · rw [e, zup_s, q2, zup_s]
            · rw [zup_n _ _ (by omega), zup_n _ _ (by omega), hf _ (by omega)]; exact (hL2.2.1 j (by omega)).1.1
          · show va_up (gP M) (gN M) a j < 28
            by_cases e : j = at1
            · rw [e, q2, zup_s]; omega
            · rw [zup_n _ _ (by omega)]; exact (hL2.2.1 j (by omega)).1.2
          · show _ = bI (va_up (gB M) (gN M) B j)
            by_cases e : j = at1
            · rw [e, zup_s, q2, zup_s]
            · rw [zup_n _ _ (by omega), zup_n _ _ (by omega), zup_n _ _ (by omega), hf _ (by omega)]; exact (hL2.2.1 j (by omega)).2
        · rw [zup_n _ _ (by omega), zup_n _ _ (by omega), hf _ (by omega)]; exact hL2.2.2 r hr
  have B_15 := zr_aload_n (X := X) (Y := Y) (u := 0) (v := 0) O dX11_hear_15 rfl (zr_cV (ci := 10) (n := 0) O m_X11_keeps (bn_X11_keeps _ ⟨rfl, rfl⟩) vw_X11_keeps tw_1375 rc_X11_keeps (zrm hR rfl rfl) dX11_hear_16 (zr_aload_n O dX11_hear_19 rfl (zr_iload_n O dX11_hear_20 rfl (zr_cI (zr_cV (ci := 10) (n := 1) O m_X11_heardAt (bn_X11_heardAt _ ⟨rfl, rfl⟩) vw_X11_heardAt tw_1463 rc_X11_heardAt (zrm hR rfl rfl) dX11_hear_21 (zr_istore_n O dX11_hear_24 rfl (zr_iload_n O dX11_hear_25 rfl (zr_iconst (x := (-1)) O dX11_hear_26 rfl (zr_icne (tgt := 51) O dX11_hear_27 rfl C_51 (zr_aload_n O dX11_hear_30 rfl (zr_gS (ci := 10) (j := 2) (off := 2) (t := 1) (n := 218) O zc_10 (by decide) rfl tw_1189 dX11_hear_31 (zr_sipush (x := (161)) O dX11_hear_34 (by decide) (zr_iald O dX11_hear_37 (zr_istore_n O dX11_hear_38 rfl (zr_aload_n O dX11_hear_39 rfl (zr_gS (ci := 10) (j := 2) (off := 2) (t := 1) (n := 218) O zc_10 (by decide) rfl tw_1189 dX11_hear_40 (zr_sipush (x := (161)) O dX11_hear_43 (by decide) (zr_dup2 O dX11_hear_46 (zr_iald O dX11_hear_47 (zr_iconst (x := 1) O dX11_hear_48 rfl (zr_iadd O dX11_hear_49 (zr_iast O dX11_hear_50 (C_51)))))))))))))))))))))))
  have B_0 := zr_aload_n (X := X) (Y := Y) (u := 0) (v := 0) O dX11_hear_0 rfl (zr_iconst (x := 0) O dX11_hear_1 rfl (zr_pI (ci := 10) (j := 0) O zc_10 (by decide) rfl rfl rfl tw_1187 dX11_hear_2 (zr_aload_n O dX11_hear_5 rfl (zr_iload_n O dX11_hear_6 rfl (zr_cH (zr_cV (ci := 10) (n := 1) O m_X11_isPair (bn_X11_isPair _ ⟨rfl, rfl⟩) vw_X11_isPair tw_1459 rc_X11_isPair (zrm hR rfl rfl) dX11_hear_7 (zr_ifne (tgt := 15) O dX11_hear_10 rfl B_15 (zr_iconst (x := 0) O dX11_hear_13 rfl (zr_ireturn O E (Nat.le_refl _) (Nat.le_refl _) dX11_hear_14)))))))))
  refine ⟨rfl, Nat.le_of_ble_eq_true rfl, _, B_0, ?_⟩
  refine ⟨(S, y, i), rfl, ⟨hZ0.1, t0 h y⟩, fun d => ?_, fun d => ?_⟩
  · obtain ⟨g0, e⟩ := pair_ok d
    rw [e]
    obtain ⟨a, rfl, ha, ea⟩ := cntx (by omega) g0
    refine ⟨((S, K, M), Hs, c, y), rfl, hZ0, fun r h2 hq2 => ?_⟩
    obtain ⟨rfl, hZ2, kp⟩ := hq2
    replace hZ2 : rmZ ((S, K, M), hcn (S, K, M) Hs, min (c + 1) 12) y h2 := hZ2
    replace kp : kpd y (zsI h y 0 0) h2 := kp
    have hL2 : rmL M (h2.1 (y + 2)) := hZ2.2.2.1
    refine ⟨(M, y, a), rfl, ⟨hL2, by show a < 28; omega⟩, fun c => ?_, fun c => ?_⟩
    · replace c : ¬ hxI M a = -1 := c
      have hh : gH M a = true := by
        cases hz : gH M a with
        | true => rfl
        | false => rw [hxI, hz] at c; exact absurd rfl c
      exact ⟨a, gIx M a, _, h2, h2.1 (y + 2), rfl, ha, rfl, by show hxI M a = _; rw [hxI, hh]; rfl, rfl, (zsW_self _ _).symm, hZ2, kp, fun _ _ => rfl, Or.inl ⟨hh, rfl, hL2.1.1⟩⟩
    · replace c : hxI M a = -1 := c
      have hh : gH M a = false := by
        cases hz : gH M a with
        | false => rfl
        | true =>
          rw [hxI, hz] at c
          have := (gIx_yes hz).1
          have := hL2.1.2
          exact absurd c (nI_nm1 (by omega))
      refine ⟨161, rfl, by decide, 161, rfl, by decide, 161, rfl, by decide, a, gN M, _, h2, va_up (h2.1 (y + 2)) 161 (nI (gN M + 1)), rfl, ha, rfl, hL2.1.1, rfl, ?_, hZ2, kp, fun k hk => zup_n _ _ hk, Or.inr ⟨hh, rfl, zup_s _ _ _⟩⟩
      rw [zsI_W, hL2.1.1]
      exact congrArg (fun v => zsW h2 (y + 2) (va_up (h2.1 (y + 2)) 161 v)) (nI_1 _)
  · obtain ⟨g0, e⟩ := pair_no d
    rw [e]
    exact Or.inr ⟨g0, (fq_rf 1 (fq_0 y h)).1, (fq_rf 1 (fq_0 y h)).2, rfl⟩
theorem rmL_w {L M : zG} {f g : Nat → Int32} (e1 : gN M = gN L) (e2 : gP M = gP L) (e3 : gB M = gB L) (w : wrw f g (gW M)) (hL : rmL L f) : rmL M g := by
  obtain ⟨⟨a1, a2⟩, a3, -⟩ := hL
  refine ⟨⟨by rw [w.1 161 (by omega), e1]; exact a1, by rw [e1]; exact a2⟩, fun i hi => ?_, fun r hr => w.2 r hr⟩
  rw [e1] at hi
  rw [w.1 _ (by omega), w.1 _ (by omega), e2, e3]
  exact a3 i hi
theorem wrw_t {f g k : Nat → Int32} {W V : Nat → Int32} (a : wrw f g W) (b : wrw g k V) : wrw f k V := ⟨fun j hj => by rw [b.1 j hj, a.1 j hj], b.2⟩
def ca_X11_train : (zQ × (Nat → zQ) × Nat × Nat × Int32) → List zV := fun (Q, Hs, c, y, e) => [vR 20 0 y, vI e]
def cp_X11_train : (zQ × (Nat → zQ) × Nat × Nat × Int32) → zH → Prop := fun (Q, Hs, c, y, e) h => rmZ (Q, Hs, c) y h ∧ vQ Q
def cq_X11_train : (zQ × (Nat → zQ) × Nat × Nat × Int32) → zH → Option zV → zH → Prop := fun (Q, Hs, c, y, e) h r h' => (gR e 1 50 ∧ fs y h h' ∧ rok y h h' ∧ r = some (vI (trW Q.1 Q.2.2 (cN e))) ∧ rmZ ((Q.1, Q.2.1, lrW Q.1 Q.2.2 (cN e)), hcn Q Hs, min (c + 1) 12) y h') ∨ (¬ gR e 1 50 ∧ fq y h h' ∧ rno y 1 1 h h' ∧ r = some (vI 0))
theorem rc_X11_train : ∀ x : (zQ × (Nat → zQ) × Nat × Nat × Int32), ∃ (j a : Nat) (As : List zV), ca_X11_train x = vR (10 + 10) j a :: As := by
  rintro ⟨⟨S, K, M⟩, Hs, c, y, e⟩
  exact ⟨_, _, _, rfl⟩
set_option maxHeartbeats 4000000 in
set_option maxRecDepth 100000 in
theorem m_X11_train : zM yX11_train cX11_train 4 (some .int) ({ frames := 3, cells := 0, slots := 0, locals := 68 } : Room) ((ca_X11_train, cp_X11_train, cq_X11_train) : zC (zQ × (Nat → zQ) × Nat × Nat × Int32)) := by
  refine zM_of (by decide) ?_
  rintro X Y ⟨⟨S, K, M⟩, Hs, c, y, e⟩ h ⟨hZ, hv, -, hj, hG⟩ O E hR
  have hZ : rmZ ((S, K, M), Hs, c) y h := hZ
  have hG : ∀ i, i < gN M → gP M i < dP S := hG
  have hZ0 := rmZ_fq (fq_0 y h).1 hZ
  have B_47 := zr_iload_n (X := X) (Y := Y) (u := 0) (v := 0) O dX11_train_47 rfl (zr_ireturn O E (Nat.le_refl _) (Nat.le_refl _) dX11_train_48)
  have L_31 : ∀ nn : Nat, zSd X Y 0 0 31 ((fun d ls st h1 => ∃ (n : Nat) (u z : Int32) (h2 : zH) (f : Nat → Int32) (L : zG), d = cN e - n ∧ n ≤ cN e ∧ gR e 1 50 ∧ ls = [some (vR 20 0 y), some (vI e), some (vI u), some (vI z)] ∧ u = trW S M n ∧ z = nI n ∧ st = [] ∧ L = lrW S M n ∧ h1 = zsW h2 (y + 2) f ∧ rmZ ((S, K, M), hcn (S, K, M) Hs, min (c + 1) 12) y h2 ∧ kpd y (zsI h y 0 0) h2 ∧ wrw (h2.1 (y + 2)) f (gW L) : Nat → zT) nn) := by
    refine zSd_loop (fun nn ih => ?_)
    have B_31 := zr_iload_n (X := X) (Y := Y) (u := 0) (v := 0) O dX11_train_31 rfl (zr_iload_n O dX11_train_32 rfl (zr_icge (tgt := 47) O dX11_train_33 rfl B_47 (zr_aload_n O dX11_train_36 rfl (zr_cV (ci := 10) (n := 0) O m_X11_epoch (bn_X11_epoch _ ⟨rfl, rfl⟩) vw_X11_epoch tw_1471 rc_X11_epoch (zrm hR rfl rfl) dX11_train_37 (zr_istore_n O dX11_train_40 rfl (zr_iinc (c := 1) O dX11_train_41 rfl (zr_goto (tgt := 31) O dX11_train_44 rfl ih)))))))
    refine zSd_weak B_31 (fun ls st h1 t => ?_)
    obtain ⟨n, u, z, h2, f, L, rfl, hn, ge, rfl, rfl, rfl, rfl, eL, rfl, hZ2, kp, hw⟩ := t
    have gm : gR e 0 (nI 50) := ⟨Int32.le_trans (by decide) ge.1, ge.2⟩
    obtain ⟨em, hm⟩ := rng (n := 50) (by decide) gm
    obtain ⟨l1, l2, l3⟩ := lrW_3 S M n
    rw [← eL] at l1 l2 l3
    have hL3 : rmL L f := rmL_w l1 l2 l3 hw hZ2.2.2.1
    refine ⟨fun cq => ?_, fun cq => ?_⟩
    · rw [em] at cq
      have := (nI_leI (by omega) (by omega)).mp cq
      have hn2 : n = cN e := by omega
      obtain ⟨k1, k2⟩ := kp_end kp f
      refine Or.inl ⟨ge, k1, k2, zri (by rw [hn2]), ?_⟩
      show rmZ ((S, K, lrW S M (cN e)), hcn (S, K, M) Hs, min (c + 1) 12) y (zsW h2 (y + 2) f)
      rw [← hn2, ← eL]
      exact rmZ_m (Q := (S, K, M)) (R := (S, K, L)) ⟨rfl, rfl, rfl, rfl⟩ (rmr_cg hZ2.1.1.2 (fun k hk => hw.1 k (by omega)) ⟨hZ2.1.2.2.1, hZ2.1.2.2.2.2⟩) (rmE_cg (fun k hk _ => hw.1 k (by omega)) hZ2.2.1) hL3 hZ2
    · rw [em] at cq
      have hn2 : n < cN e := Nat.not_le.mp (fun z => cq ((nI_leI (by omega) (by omega)).mpr z))
      refine ⟨(S, L, y), rfl, ⟨rmS_m (fun k hk => hw.1 k (by omega)) hZ2.1, by rw [zsW_s]; exact hL3, ?_⟩, fun r h3 hq => ?_⟩
      · intro i hi
        rw [l2]; exact hG i (by rw [← l1]; exact hi)
      · obtain ⟨rfl, g, e3, hw3⟩ := hq
        replace e3 : h3 = zsW (zsW h2 (y + 2) f) (y + 2) g := e3
        rw [zsW_W] at e3
        rw [zsW_s] at hw3
        rw [l1] at hw3
        refine ⟨cN e - (n + 1), by omega, n + 1, _, _, h2, g, (gN M, gP M, gB M, (lrn S L (gN M)).1), rfl, by omega, ge, rfl, ?_, nI_1 n, rfl, ?_, e3, hZ2, kp, wrw_t hw hw3⟩
        · rw [l1, trW, lrw, ← eL]
        · rw [lrW, ← eL]
  have B_31 := zSd_any L_31
  have B_23 := zr_aload_n (X := X) (Y := Y) (u := 0) (v := 0) O dX11_train_23 rfl (zr_cV (ci := 10) (n := 0) O m_X11_keeps (bn_X11_keeps _ ⟨rfl, rfl⟩) vw_X11_keeps tw_1375 rc_X11_keeps (zrm hR rfl rfl) dX11_train_24 (zr_iconst (x := 0) O dX11_train_27 rfl (zr_istore_n O dX11_train_28 rfl (zr_iconst (x := 0) O dX11_train_29 rfl (zr_istore_n O dX11_train_30 rfl (B_31))))))
  have B_0 := zr_aload_n (X := X) (Y := Y) (u := 0) (v := 0) O dX11_train_0 rfl (zr_iconst (x := 0) O dX11_train_1 rfl (zr_pI (ci := 10) (j := 0) O zc_10 (by decide) rfl rfl rfl tw_1187 dX11_train_2 (zr_aload_n O dX11_train_5 rfl (zr_iload_n O dX11_train_6 rfl (zr_iconst (x := 1) O dX11_train_7 rfl (zr_bipush (x := (50)) O dX11_train_8 (by decide) (zr_cI (zr_cS (n := 3) O m_X11_within (bn_X11_within _ ⟨rfl, rfl⟩) tw_1306 tw_1305 (zrm hR rfl rfl) dX11_train_10 (zr_iconst (x := 1) O dX11_train_13 rfl (zr_iconst (x := 1) O dX11_train_14 rfl (zr_cH (zr_cV (ci := 10) (n := 3) O m_X11_isFine (bn_X11_isFine _ ⟨rfl, rfl⟩) vw_X11_isFine tw_1308 rc_X11_isFine (zrm hR rfl rfl) dX11_train_15 (zr_ifne (tgt := 23) O dX11_train_18 rfl B_23 (zr_iconst (x := 0) O dX11_train_21 rfl (zr_ireturn O E (Nat.le_refl _) (Nat.le_refl _) dX11_train_22)))))))))))))))
  refine ⟨rfl, Nat.le_of_ble_eq_true rfl, _, B_0, ?_⟩
  refine ⟨(e, 1, 50), rfl, trivial, (y, decide (1 ≤ e ∧ e ≤ 50), 1, 1), rfl, ⟨by decide, by decide⟩, fun d => ?_, fun d => ?_⟩
  · obtain ⟨g0, e1⟩ := fine_ok (t0 h y) d
    rw [e1]
    refine ⟨((S, K, M), Hs, c, y), rfl, hZ0, fun r h2 hq2 => ?_⟩
    obtain ⟨rfl, hZ2, kp⟩ := hq2
    replace hZ2 : rmZ ((S, K, M), hcn (S, K, M) Hs, min (c + 1) 12) y h2 := hZ2
    replace kp : kpd y (zsI h y 0 0) h2 := kp
    exact ⟨cN e - 0, 0, _, _, h2, h2.1 (y + 2), M, rfl, Nat.zero_le _, g0, rfl, rfl, rfl, rfl, rfl, (zsW_self _ _).symm, hZ2, kp, fun _ _ => rfl, hZ2.2.2.1.2.2⟩
  · obtain ⟨g0, e1⟩ := fine_no (t0 h y) d
    rw [e1]
    exact Or.inr ⟨g0, (fq_rf 1 (fq_0 y h)).1, (fq_rf 1 (fq_0 y h)).2, rfl⟩

