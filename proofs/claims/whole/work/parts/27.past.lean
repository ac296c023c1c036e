theorem dX10_undo_9 : decode cX10_undo 9 = .ok (.aload_n 0, 1) := by decide +kernel
theorem dX10_undo_10 : decode cX10_undo 10 = .ok (.dup, 1) := by decide +kernel
theorem dX10_undo_11 : decode cX10_undo 11 = .ok (.getfield 111, 3) := by decide +kernel
theorem dX10_undo_14 : decode cX10_undo 14 = .ok (.iconst 1, 1) := by decide +kernel
theorem dX10_undo_15 : decode cX10_undo 15 = .ok (.isub, 1) := by decide +kernel
theorem dX10_undo_16 : decode cX10_undo 16 = .ok (.putfield 111, 3) := by decide +kernel
theorem dX10_undo_19 : decode cX10_undo 19 = .ok (.aload_n 0, 1) := by decide +kernel
theorem dX10_undo_20 : decode cX10_undo 20 = .ok (.aload_n 0, 1) := by decide +kernel
theorem dX10_undo_21 : decode cX10_undo 21 = .ok (.getfield 184, 3) := by decide +kernel
theorem dX10_undo_24 : decode cX10_undo 24 = .ok (.bipush 12, 2) := by decide +kernel
theorem dX10_undo_26 : decode cX10_undo 26 = .ok (.iadd, 1) := by decide +kernel
theorem dX10_undo_27 : decode cX10_undo 27 = .ok (.iconst 1, 1) := by decide +kernel
theorem dX10_undo_28 : decode cX10_undo 28 = .ok (.isub, 1) := by decide +kernel
theorem dX10_undo_29 : decode cX10_undo 29 = .ok (.bipush 12, 2) := by decide +kernel
theorem dX10_undo_31 : decode cX10_undo 31 = .ok (.irem, 1) := by decide +kernel
theorem dX10_undo_32 : decode cX10_undo 32 = .ok (.putfield 184, 3) := by decide +kernel
theorem dX10_undo_35 : decode cX10_undo 35 = .ok (.aload_n 0, 1) := by decide +kernel
theorem dX10_undo_36 : decode cX10_undo 36 = .ok (.getfield 16, 3) := by decide +kernel
theorem dX10_undo_39 : decode cX10_undo 39 = .ok (.aload_n 0, 1) := by decide +kernel
theorem dX10_undo_40 : decode cX10_undo 40 = .ok (.getfield 184, 3) := by decide +kernel
theorem dX10_undo_43 : decode cX10_undo 43 = .ok (.aaload, 1) := by decide +kernel
theorem dX10_undo_44 : decode cX10_undo 44 = .ok (.astore_n 1, 1) := by decide +kernel
theorem dX10_undo_45 : decode cX10_undo 45 = .ok (.aload_n 0, 1) := by decide +kernel
theorem dX10_undo_46 : decode cX10_undo 46 = .ok (.getfield 16, 3) := by decide +kernel
theorem dX10_undo_49 : decode cX10_undo 49 = .ok (.aload_n 0, 1) := by decide +kernel
theorem dX10_undo_50 : decode cX10_undo 50 = .ok (.getfield 184, 3) := by decide +kernel
theorem dX10_undo_53 : decode cX10_undo 53 = .ok (.aload_n 0, 1) := by decide +kernel
theorem dX10_undo_54 : decode cX10_undo 54 = .ok (.getfield 10, 3) := by decide +kernel
theorem dX10_undo_57 : decode cX10_undo 57 = .ok (.aastore, 1) := by decide +kernel
theorem dX10_undo_58 : decode cX10_undo 58 = .ok (.aload_n 0, 1) := by decide +kernel
theorem dX10_undo_59 : decode cX10_undo 59 = .ok (.aload_n 1, 1) := by decide +kernel
theorem dX10_undo_60 : decode cX10_undo 60 = .ok (.putfield 10, 3) := by decide +kernel
theorem dX10_undo_63 : decode cX10_undo 63 = .ok (.aload_n 0, 1) := by decide +kernel
theorem dX10_undo_64 : decode cX10_undo 64 = .ok (.getfield 111, 3) := by decide +kernel
theorem dX10_undo_67 : decode cX10_undo 67 = .ok (.ireturn, 1) := by decide +kernel
theorem dX10_undo_0 : decode cX10_undo 0 = .ok (.aload_n 0, 1) := by decide +kernel
theorem dX10_undo_1 : decode cX10_undo 1 = .ok (.getfield 111, 3) := by decide +kernel
theorem dX10_undo_4 : decode cX10_undo 4 = .ok (.ifCond .ne 5, 3) := by decide +kernel
theorem dX10_undo_7 : decode cX10_undo 7 = .ok (.iconst (-1), 1) := by decide +kernel
theorem dX10_undo_8 : decode cX10_undo 8 = .ok (.ireturn, 1) := by decide +kernel
theorem rpQ_cg {Q : zQ} {h h' : zH} {s : Nat} (hr : ∀ q, s < q → q < s + 13 → h'.1 q = h.1 q) (hQ : rpQ Q h s) : rpQ Q h' s :=
  ⟨rpS_cg (fun k hk => hr _ (by omega) (by omega)) hQ.1, rpE_cg (hr _ (by omega) (by omega)) (hr _ (by omega) (by omega)) hQ.2.1, rpL_cg (hr _ (by omega) (by omega)) (hr _ (by omega) (by omega)) (hr _ (by omega) (by omega)) hQ.2.2⟩
theorem um12 : ∀ p, p < 12 → nI p + 12 - 1 - (nI p + 12 - 1) / 12 * 12 = nI ((p + 11) % 12) := by decide +kernel
theorem zsR_s (h : zH) (a j q : Nat) : (zsR h a j q).2.2 a = va_up (h.2.2 a) j q := zup_s _ _ _
theorem zsR_n (h : zH) {a b : Nat} (j q : Nat) (hb : b ≠ a) : (zsR h a j q).2.2 b = h.2.2 b := zup_n _ _ hb
/-- undone once -/
def uZ (Z : zP) : zP := match Z with
  | (_, Hs, c, p, k0, π) => (Hs 0, fun i => Hs (i + 1), c - 1, (p + 11) % 12, π ((p + 11) % 12), va_up π ((p + 11) % 12) k0)
def ca_X10_undo : (zQ × (Nat → zQ) × Nat × Nat × Nat × (Nat → Nat) × Nat) → List zV := fun (Q, Hs, c, p, k0, π, x) => [vR 19 0 x]
def cp_X10_undo : (zQ × (Nat → zQ) × Nat × Nat × Nat × (Nat → Nat) × Nat) → zH → Prop := fun (Q, Hs, c, p, k0, π, x) h => rpZ (Q, Hs, c, p, k0, π) x h
def cq_X10_undo : (zQ × (Nat → zQ) × Nat × Nat × Nat × (Nat → Nat) × Nat) → zH → Option zV → zH → Prop := fun (Q, Hs, c, p, k0, π, x) h r h' => (c = 0 → r = some (vI (-1)) ∧ h' = h) ∧ (0 < c → r = some (vI (nI (c - 1))) ∧ rpZ (uZ (Q, Hs, c, p, k0, π)) x h' ∧ (∀ q, q ≠ x → h'.1 q = h.1 q) ∧ (∀ k, k ≠ 2 → k ≠ 3 → h'.1 x k = h.1 x k) ∧ h'.2.1 = h.2.1 ∧ ∀ q, q ≠ x → q ≠ x + 14 → h'.2.2 q = h.2.2 q)
theorem rc_X10_undo : ∀ x : (zQ × (Nat → zQ) × Nat × Nat × Nat × (Nat → Nat) × Nat), ∃ (j a : Nat) (As : List zV), ca_X10_undo x = vR (10 + 9) j a :: As := by
  rintro ⟨Q, Hs, c, p, k0, π, x⟩
  exact ⟨_, _, _, rfl⟩
set_option maxHeartbeats 4000000 in
set_option maxRecDepth 100000 in
theorem m_X10_undo : zM yX10_undo cX10_undo 2 (some .int) ({ frames := 0, cells := 0, slots := 0, locals := 0 } : Room) ((ca_X10_undo, cp_X10_undo, cq_X10_undo) : zC (zQ × (Nat → zQ) × Nat × Nat × Nat × (Nat → Nat) × Nat)) := by
  refine zM_of (by decide) ?_
  rintro X Y ⟨Q, Hs, c, p, k0, π, x⟩ h hZ O E hR
  have B_9 := zr_aload_n (X := X) (Y := Y) (u := 0) (v := 0) O dX10_undo_9 rfl (zr_dup O dX10_undo_10 (zr_gI (ci := 9) (j := 2) O zc_9 (by decide) rfl tw_289 dX10_undo_11 (zr_iconst (x := 1) O dX10_undo_14 rfl (zr_isub O dX10_undo_15 (zr_pI (ci := 9) (j := 2) O zc_9 (by decide) rfl rfl rfl tw_289 dX10_undo_16 (zr_aload_n O dX10_undo_19 rfl (zr_aload_n O dX10_undo_20 rfl (zr_gI (ci := 9) (j := 3) O zc_9 (by decide) rfl tw_290 dX10_undo_21 (zr_bipush (x := (12)) O dX10_undo_24 (by decide) (zr_iadd O dX10_undo_26 (zr_iconst (x := 1) O dX10_undo_27 rfl (zr_isub O dX10_undo_28 (zr_bipush (x := (12)) O dX10_undo_29 (by decide) (zr_irem O dX10_undo_31 (zr_pI (ci := 9) (j := 3) O zc_9 (by decide) rfl rfl rfl tw_290 dX10_undo_32 (zr_aload_n O dX10_undo_35 rfl (zr_gS (ci := 9) (j := 1) (off := 14) (t := 4) (n := 12) O zc_9 (by decide) rfl tw_288 dX10_undo_36 (zr_aload_n O dX10_undo_39 rfl (zr_gI (ci := 9) (j := 3) O zc_9 (by decide) rfl tw_290 dX10_undo_40 (zr_aald4 O dX10_undo_43 (zr_astore_n O dX10_undo_44 rfl (zr_aload_n O dX10_undo_45 rfl (zr_gS (ci := 9) (j := 1) (off := 14) (t := 4) (n := 12) O zc_9 (by decide) rfl tw_288 dX10_undo_46 (zr_aload_n O dX10_undo_49 rfl (zr_gI (ci := 9) (j := 3) O zc_9 (by decide) rfl tw_290 dX10_undo_50 (zr_aload_n O dX10_undo_53 rfl (zr_gR (ci := 9) (j := 0) (off := 0) (t := 16) (n := 0) O zc_9 (by decide) rfl tw_287 dX10_undo_54 (zr_aast4 O dX10_undo_57 (zr_aload_n O dX10_undo_58 rfl (zr_aload_n O dX10_undo_59 rfl (zr_pR (ci := 9) (j := 0) (off := 0) (t := 16) (n := 0) O zc_9 (by decide) rfl rfl rfl tw_287 dX10_undo_60 (zr_aload_n O dX10_undo_63 rfl (zr_gI (ci := 9) (j := 2) O zc_9 (by decide) rfl tw_289 dX10_undo_64 (zr_ireturn O E (Nat.le_refl _) (Nat.le_refl _) dX10_undo_67))))))))))))))))))))))))))))))))))
  have B_0 := zr_aload_n (X := X) (Y := Y) (u := 0) (v := 0) O dX10_undo_0 rfl (zr_gI (ci := 9) (j := 2) O zc_9 (by decide) rfl tw_289 dX10_undo_1 (zr_ifne (tgt := 9) O dX10_undo_4 rfl B_9 (zr_iconst (x := (-1)) O dX10_undo_7 rfl (zr_ireturn O E (Nat.le_refl _) (Nat.le_refl _) dX10_undo_8))))
  refine ⟨rfl, Nat.le_of_ble_eq_true rfl, _, B_0, ?_⟩
  obtain ⟨⟨n1, n2⟩, t1, t2, ⟨c1, c2⟩, ⟨p1, p2⟩, q1, q2⟩ := hZ
  have hp' : (p + 11) % 12 < 12 := Nat.mod_lt _ (by decide)
  obtain ⟨u1, u2, u3⟩ := t1 _ hp'
  refine ⟨fun cq => ?_, fun cq => ⟨fun _ => ⟨rfl, rfl⟩, fun hc => ?_⟩⟩
  · rw [c1] at cq
    have hc : 0 < c := Nat.pos_of_ne_zero (fun z => cq (by rw [z]; rfl))
    have ec : nI c - 1 = nI (c - 1) := by
      obtain ⟨d, rfl⟩ : ∃ d, c = d + 1 := ⟨c - 1, by omega⟩
      exact nI_pred d
    have eI : zsI (zsI h x 2 (h.1 x 2 - 1)) x 3 ((zsI h x 2 (h.1 x 2 - 1)).1 x 3 + 12 - 1 - ((zsI h x 2 (h.1 x 2 - 1)).1 x 3 + 12 - 1) / 12 * 12) = zsW h x (va_up (va_up (h.1 x) 2 (nI (c - 1))) 3 (nI ((p + 11) % 12))) := by
      rw [c1, ec]
      simp only [zsI_W, zsW_s, zsW_W]
      rw [zup_n _ _ (by decide : (3 : Nat) ≠ 2), p1, um12 p p2]
    have e3 : (zsW h x (va_up (va_up (h.1 x) 2 (nI (c - 1))) 3 (nI ((p + 11) % 12)))).1 x 3 = nI ((p + 11) % 12) := by rw [zsW_s, zup_s]
    have e2 : (zsW h x (va_up (va_up (h.1 x) 2 (nI (c - 1))) 3 (nI ((p + 11) % 12)))).1 x 2 = nI (c - 1) := by rw [zsW_s, zup_n _ _ (by decide : (2 : Nat) ≠ 3), zup_s]
    have ne14 : x + 14 ≠ x := by omega
    refine ⟨by decide, (p + 11) % 12, by rw [eI]; exact e3, hp', (p + 11) % 12, by rw [eI]; exact e3, hp', fun z => absurd z (by omega), fun _ => ⟨?_, ?_, ?_, ?_, ?_, ?_⟩⟩
    · rw [eI]
      exact zri e2
    · rw [eI]
      refine ⟨⟨?_, u2⟩, fun j hj => ⟨?_, ?_, ?_⟩, fun i j hi hj hij => ?_, ⟨e2, by omega⟩, ⟨e3, hp'⟩, ?_, fun i hi => ?_⟩
      · rw [zsR_s, zup_s]
        exact u1
      · rw [zsR_n _ _ _ ne14, zsR_s]
        by_cases e : j = (p + 11) % 12
        · rw [e, zup_s, zup_s]; exact n1
        · rw [zup_n _ _ e, zup_n _ _ e]; exact (t1 j hj).1
      · by_cases e : j = (p + 11) % 12
        · rw [e, zup_s]; exact n2
        · rw [zup_n _ _ e]; exact (t1 j hj).2.1
      · by_cases e : j = (p + 11) % 12
        · rw [e, zup_s]; exact fun z => u3 z.symm
        · rw [zup_n _ _ e]; exact fun z => e (t2 _ _ hj hp' z)
      · by_cases ei : i = (p + 11) % 12
        · by_cases ej : j = (p + 11) % 12
          · rw [ei, ej]
          · rw [ei, zup_s, zup_n _ _ ej] at hij
            exact absurd hij.symm (t1 j hj).2.2
        · by_cases ej : j = (p + 11) % 12
          · rw [ej, zup_s, zup_n _ _ ei] at hij
            exact absurd hij (t1 i hi).2.2
          · rw [zup_n _ _ ei, zup_n _ _ ej] at hij
            exact t2 i j hi hj hij
      · have hin := stA_in x u2
        have h0 := q2 0 hc
        exact rpQ_cg (fun q hq1 hq2 => zsW_n _ _ (by omega)) h0
      · have hi1 : i + 1 < c := by
          have : i < c - 1 := hi
          omega
        have em : ((p + 11) % 12 + 11 - i) % 12 = (p + 11 - (i + 1)) % 12 := by omega
        have hne : (p + 11 - (i + 1)) % 12 ≠ (p + 11) % 12 := by omega
        rw [em, zup_n _ _ hne]
        have hin := stA_in x (t1 ((p + 11 - (i + 1)) % 12) (by omega)).2.1
        exact rpQ_cg (fun q hq1 hq2 => zsW_n _ _ (by omega)) (q2 (i + 1) hi1)
    · intro q hq
      rw [eI]
      exact zsW_n _ _ hq
    · intro k k2 k3
      rw [eI]
      show (zsW h x _).1 x k = _
      rw [zsW_s, zup_n _ _ k3, zup_n _ _ k2]
    · rw [eI]
      rfl
    · intro q hq1 hq2
      rw [eI, zsR_n _ _ _ hq1, zsR_n _ _ _ hq2]
      rfl
  · rw [c1] at cq
    have := (nI_eq (b := 0) (by omega) (by omega)).mp cq
    exact absurd hc (by omega)

