theorem dX3_clear_36 : decode cX3_clear 36 = .ok (.return_, 1) := by decide +kernel
theorem dX3_clear_17 : decode cX3_clear 17 = .ok (.iload_n 1, 1) := by decide +kernel
theorem dX3_clear_18 : decode cX3_clear 18 = .ok (.bipush 10, 2) := by decide +kernel
theorem dX3_clear_20 : decode cX3_clear 20 = .ok (.if_icmp .ge 16, 3) := by decide +kernel
theorem dX3_clear_23 : decode cX3_clear 23 = .ok (.aload_n 0, 1) := by decide +kernel
theorem dX3_clear_24 : decode cX3_clear 24 = .ok (.getfield 15, 3) := by decide +kernel
theorem dX3_clear_27 : decode cX3_clear 27 = .ok (.iload_n 1, 1) := by decide +kernel
theorem dX3_clear_28 : decode cX3_clear 28 = .ok (.iconst 0, 1) := by decide +kernel
theorem dX3_clear_29 : decode cX3_clear 29 = .ok (.iastore, 1) := by decide +kernel
theorem dX3_clear_30 : decode cX3_clear 30 = .ok (.iinc 1 1, 3) := by decide +kernel
theorem dX3_clear_33 : decode cX3_clear 33 = .ok (.goto (-16), 3) := by decide +kernel
theorem dX3_clear_0 : decode cX3_clear 0 = .ok (.aload_n 0, 1) := by decide +kernel
theorem dX3_clear_1 : decode cX3_clear 1 = .ok (.iconst 0, 1) := by decide +kernel
theorem dX3_clear_2 : decode cX3_clear 2 = .ok (.putfield 18, 3) := by decide +kernel
theorem dX3_clear_5 : decode cX3_clear 5 = .ok (.aload_n 0, 1) := by decide +kernel
theorem dX3_clear_6 : decode cX3_clear 6 = .ok (.iconst 0, 1) := by decide +kernel
theorem dX3_clear_7 : decode cX3_clear 7 = .ok (.putfield 22, 3) := by decide +kernel
theorem dX3_clear_10 : decode cX3_clear 10 = .ok (.aload_n 0, 1) := by decide +kernel
theorem dX3_clear_11 : decode cX3_clear 11 = .ok (.iconst 0, 1) := by decide +kernel
theorem dX3_clear_12 : decode cX3_clear 12 = .ok (.putfield 25, 3) := by decide +kernel
theorem dX3_clear_15 : decode cX3_clear 15 = .ok (.iconst 0, 1) := by decide +kernel
theorem dX3_clear_16 : decode cX3_clear 16 = .ok (.istore_n 1, 1) := by decide +kernel
theorem dX3_copyFrom_0 : decode cX3_copyFrom 0 = .ok (.aload_n 0, 1) := by decide +kernel
theorem dX3_copyFrom_1 : decode cX3_copyFrom 1 = .ok (.aload_n 1, 1) := by decide +kernel
theorem dX3_copyFrom_2 : decode cX3_copyFrom 2 = .ok (.getfield 18, 3) := by decide +kernel
theorem dX3_copyFrom_5 : decode cX3_copyFrom 5 = .ok (.putfield 18, 3) := by decide +kernel
theorem dX3_copyFrom_8 : decode cX3_copyFrom 8 = .ok (.aload_n 1, 1) := by decide +kernel
theorem dX3_copyFrom_9 : decode cX3_copyFrom 9 = .ok (.getfield 9, 3) := by decide +kernel
theorem dX3_copyFrom_12 : decode cX3_copyFrom 12 = .ok (.iconst 0, 1) := by decide +kernel
theorem dX3_copyFrom_13 : decode cX3_copyFrom 13 = .ok (.aload_n 0, 1) := by decide +kernel
theorem dX3_copyFrom_14 : decode cX3_copyFrom 14 = .ok (.getfield 9, 3) := by decide +kernel
theorem dX3_copyFrom_17 : decode cX3_copyFrom 17 = .ok (.iconst 0, 1) := by decide +kernel
theorem dX3_copyFrom_18 : decode cX3_copyFrom 18 = .ok (.bipush 28, 2) := by decide +kernel
theorem dX3_copyFrom_20 : decode cX3_copyFrom 20 = .ok (.invokestatic 28, 3) := by decide +kernel
theorem dX3_copyFrom_23 : decode cX3_copyFrom 23 = .ok (.aload_n 0, 1) := by decide +kernel
theorem dX3_copyFrom_24 : decode cX3_copyFrom 24 = .ok (.aload_n 1, 1) := by decide +kernel
theorem dX3_copyFrom_25 : decode cX3_copyFrom 25 = .ok (.getfield 22, 3) := by decide +kernel
theorem dX3_copyFrom_28 : decode cX3_copyFrom 28 = .ok (.putfield 22, 3) := by decide +kernel
theorem dX3_copyFrom_31 : decode cX3_copyFrom 31 = .ok (.aload_n 0, 1) := by decide +kernel
theorem dX3_copyFrom_32 : decode cX3_copyFrom 32 = .ok (.aload_n 1, 1) := by decide +kernel
theorem dX3_copyFrom_33 : decode cX3_copyFrom 33 = .ok (.getfield 25, 3) := by decide +kernel
theorem dX3_copyFrom_36 : decode cX3_copyFrom 36 = .ok (.putfield 25, 3) := by decide +kernel
theorem dX3_copyFrom_39 : decode cX3_copyFrom 39 = .ok (.aload_n 1, 1) := by decide +kernel
theorem dX3_copyFrom_40 : decode cX3_copyFrom 40 = .ok (.getfield 15, 3) := by decide +kernel
theorem dX3_copyFrom_43 : decode cX3_copyFrom 43 = .ok (.iconst 0, 1) := by decide +kernel
theorem dX3_copyFrom_44 : decode cX3_copyFrom 44 = .ok (.aload_n 0, 1) := by decide +kernel
theorem dX3_copyFrom_45 : decode cX3_copyFrom 45 = .ok (.getfield 15, 3) := by decide +kernel
theorem dX3_copyFrom_48 : decode cX3_copyFrom 48 = .ok (.iconst 0, 1) := by decide +kernel
theorem dX3_copyFrom_49 : decode cX3_copyFrom 49 = .ok (.bipush 10, 2) := by decide +kernel
theorem dX3_copyFrom_51 : decode cX3_copyFrom 51 = .ok (.invokestatic 28, 3) := by decide +kernel
theorem dX3_copyFrom_54 : decode cX3_copyFrom 54 = .ok (.return_, 1) := by decide +kernel
theorem dX3_learn_96 : decode cX3_learn 96 = .ok (.iload_n 2, 1) := by decide +kernel
theorem dX3_learn_97 : decode cX3_learn 97 = .ok (.ireturn, 1) := by decide +kernel
theorem dX3_learn_90 : decode cX3_learn 90 = .ok (.iinc 3 1, 3) := by decide +kernel
theorem dX3_learn_93 : decode cX3_learn 93 = .ok (.goto (-89), 3) := by decide +kernel
theorem dX3_learn_51 : decode cX3_learn 51 = .ok (.istore 6, 2) := by decide +kernel
theorem dX3_learn_53 : decode cX3_learn 53 = .ok (.aload_n 0, 1) := by decide +kernel
theorem dX3_learn_54 : decode cX3_learn 54 = .ok (.getfield 15, 3) := by decide +kernel
theorem dX3_learn_57 : decode cX3_learn 57 = .ok (.aload_n 1, 1) := by decide +kernel
theorem dX3_learn_58 : decode cX3_learn 58 = .ok (.getfield 42, 3) := by decide +kernel
theorem dX3_learn_61 : decode cX3_learn 61 = .ok (.iload 4, 2) := by decide +kernel
theorem dX3_learn_63 : decode cX3_learn 63 = .ok (.iaload, 1) := by decide +kernel
theorem dX3_learn_64 : decode cX3_learn 64 = .ok (.dup2, 1) := by decide +kernel
theorem dX3_learn_65 : decode cX3_learn 65 = .ok (.iaload, 1) := by decide +kernel
theorem dX3_learn_66 : decode cX3_learn 66 = .ok (.iload 6, 2) := by decide +kernel
theorem dX3_learn_68 : decode cX3_learn 68 = .ok (.iadd, 1) := by decide +kernel
theorem dX3_learn_69 : decode cX3_learn 69 = .ok (.iastore, 1) := by decide +kernel
theorem dX3_learn_70 : decode cX3_learn 70 = .ok (.aload_n 0, 1) := by decide +kernel
theorem dX3_learn_71 : decode cX3_learn 71 = .ok (.getfield 15, 3) := by decide +kernel
theorem dX3_learn_74 : decode cX3_learn 74 = .ok (.aload_n 1, 1) := by decide +kernel
theorem dX3_learn_75 : decode cX3_learn 75 = .ok (.getfield 47, 3) := by decide +kernel
theorem dX3_learn_78 : decode cX3_learn 78 = .ok (.iload 4, 2) := by decide +kernel
theorem dX3_learn_80 : decode cX3_learn 80 = .ok (.iaload, 1) := by decide +kernel
theorem dX3_learn_81 : decode cX3_learn 81 = .ok (.dup2, 1) := by decide +kernel
theorem dX3_learn_82 : decode cX3_learn 82 = .ok (.iaload, 1) := by decide +kernel
theorem dX3_learn_83 : decode cX3_learn 83 = .ok (.iload 6, 2) := by decide +kernel
theorem dX3_learn_85 : decode cX3_learn 85 = .ok (.isub, 1) := by decide +kernel
theorem dX3_learn_86 : decode cX3_learn 86 = .ok (.iastore, 1) := by decide +kernel
theorem dX3_learn_87 : decode cX3_learn 87 = .ok (.iinc 2 1, 3) := by decide +kernel
theorem dX3_learn_50 : decode cX3_learn 50 = .ok (.iconst (-1), 1) := by decide +kernel
theorem dX3_learn_4 : decode cX3_learn 4 = .ok (.iload_n 3, 1) := by decide +kernel
theorem dX3_learn_5 : decode cX3_learn 5 = .ok (.aload_n 0, 1) := by decide +kernel
theorem dX3_learn_6 : decode cX3_learn 6 = .ok (.getfield 18, 3) := by decide +kernel
theorem dX3_learn_9 : decode cX3_learn 9 = .ok (.if_icmp .ge 87, 3) := by decide +kernel
theorem dX3_learn_12 : decode cX3_learn 12 = .ok (.aload_n 0, 1) := by decide +kernel
theorem dX3_learn_13 : decode cX3_learn 13 = .ok (.getfield 9, 3) := by decide +kernel
theorem dX3_learn_16 : decode cX3_learn 16 = .ok (.iload_n 3, 1) := by decide +kernel
theorem dX3_learn_17 : decode cX3_learn 17 = .ok (.iaload, 1) := by decide +kernel
theorem dX3_learn_18 : decode cX3_learn 18 = .ok (.istore 4, 2) := by decide +kernel
theorem dX3_learn_20 : decode cX3_learn 20 = .ok (.aload_n 0, 1) := by decide +kernel
theorem dX3_learn_21 : decode cX3_learn 21 = .ok (.iload 4, 2) := by decide +kernel
theorem dX3_learn_23 : decode cX3_learn 23 = .ok (.invokevirtual 54, 3) := by decide +kernel
theorem dX3_learn_26 : decode cX3_learn 26 = .ok (.istore 5, 2) := by decide +kernel
theorem dX3_learn_28 : decode cX3_learn 28 = .ok (.aload_n 0, 1) := by decide +kernel
theorem dX3_learn_29 : decode cX3_learn 29 = .ok (.aload_n 1, 1) := by decide +kernel
theorem dX3_learn_30 : decode cX3_learn 30 = .ok (.iload 4, 2) := by decide +kernel
theorem dX3_learn_32 : decode cX3_learn 32 = .ok (.invokevirtual 58, 3) := by decide +kernel
theorem dX3_learn_35 : decode cX3_learn 35 = .ok (.iload 5, 2) := by decide +kernel
theorem dX3_learn_37 : decode cX3_learn 37 = .ok (.if_icmp .eq 53, 3) := by decide +kernel
theorem dX3_learn_40 : decode cX3_learn 40 = .ok (.iload 5, 2) := by decide +kernel
theorem dX3_learn_42 : decode cX3_learn 42 = .ok (.iconst 1, 1) := by decide +kernel
theorem dX3_learn_43 : decode cX3_learn 43 = .ok (.if_icmp .ne 7, 3) := by decide +kernel
theorem dX3_learn_46 : decode cX3_learn 46 = .ok (.iconst 1, 1) := by decide +kernel
theorem dX3_learn_47 : decode cX3_learn 47 = .ok (.goto 4, 3) := by decide +kernel
theorem dX3_learn_0 : decode cX3_learn 0 = .ok (.iconst 0, 1) := by decide +kernel
theorem dX3_learn_1 : decode cX3_learn 1 = .ok (.istore_n 2, 1) := by decide +kernel
theorem dX3_learn_2 : decode cX3_learn 2 = .ok (.iconst 0, 1) := by decide +kernel
theorem dX3_learn_3 : decode cX3_learn 3 = .ok (.istore_n 3, 1) := by decide +kernel
theorem dX3_putInto_41 : decode cX3_putInto 41 = .ok (.return_, 1) := by decide +kernel
theorem dX3_putInto_6 : decode cX3_putInto 6 = .ok (.iload_n 3, 1) := by decide +kernel
theorem dX3_putInto_7 : decode cX3_putInto 7 = .ok (.aload_n 0, 1) := by decide +kernel
theorem dX3_putInto_8 : decode cX3_putInto 8 = .ok (.getfield 18, 3) := by decide +kernel
theorem dX3_putInto_11 : decode cX3_putInto 11 = .ok (.if_icmp .ge 30, 3) := by decide +kernel
theorem dX3_putInto_14 : decode cX3_putInto 14 = .ok (.aload_n 1, 1) := by decide +kernel
theorem dX3_putInto_15 : decode cX3_putInto 15 = .ok (.aload_n 2, 1) := by decide +kernel
theorem dX3_putInto_16 : decode cX3_putInto 16 = .ok (.aload_n 0, 1) := by decide +kernel
theorem dX3_putInto_17 : decode cX3_putInto 17 = .ok (.getfield 9, 3) := by decide +kernel
theorem dX3_putInto_20 : decode cX3_putInto 20 = .ok (.iload_n 3, 1) := by decide +kernel
theorem dX3_putInto_21 : decode cX3_putInto 21 = .ok (.iaload, 1) := by decide +kernel
theorem dX3_putInto_22 : decode cX3_putInto 22 = .ok (.aload_n 0, 1) := by decide +kernel
theorem dX3_putInto_23 : decode cX3_putInto 23 = .ok (.aload_n 0, 1) := by decide +kernel
theorem dX3_putInto_24 : decode cX3_putInto 24 = .ok (.getfield 9, 3) := by decide +kernel
theorem dX3_putInto_27 : decode cX3_putInto 27 = .ok (.iload_n 3, 1) := by decide +kernel
theorem dX3_putInto_28 : decode cX3_putInto 28 = .ok (.iaload, 1) := by decide +kernel
theorem dX3_putInto_29 : decode cX3_putInto 29 = .ok (.invokevirtual 54, 3) := by decide +kernel
theorem dX3_putInto_32 : decode cX3_putInto 32 = .ok (.invokevirtual 67, 3) := by decide +kernel
theorem dX3_putInto_35 : decode cX3_putInto 35 = .ok (.iinc 3 1, 3) := by decide +kernel
theorem dX3_putInto_38 : decode cX3_putInto 38 = .ok (.goto (-32), 3) := by decide +kernel
theorem dX3_putInto_0 : decode cX3_putInto 0 = .ok (.aload_n 1, 1) := by decide +kernel
theorem dX3_putInto_1 : decode cX3_putInto 1 = .ok (.invokevirtual 62, 3) := by decide +kernel
theorem dX3_putInto_4 : decode cX3_putInto 4 = .ok (.iconst 0, 1) := by decide +kernel
theorem dX3_putInto_5 : decode cX3_putInto 5 = .ok (.istore_n 3, 1) := by decide +kernel
/-! only rows from a on, n of them, have changed -/
def sm (a n : Nat) (h h' : zH) : Prop := (∀ q, q < a ∨ a + n ≤ q → h'.1 q = h.1 q) ∧ h'.2 = h.2
theorem sm_refl (a n : Nat) (h : zH) : sm a n h h := ⟨fun _ _ => rfl, rfl⟩
theorem sm_W {a n q : Nat} (h : zH) (f : Nat → Int32) (h1 : a ≤ q) (h2 : q < a + n) : sm a n h (zsW h q f) := ⟨fun r hr => zsW_n _ _ (by omega), rfl⟩
theorem sm_I {a n q j : Nat} (h : zH) (x : Int32) (h1 : a ≤ q) (h2 : q < a + n) : sm a n h (zsI h q j x) := sm_W h _ h1 h2
theorem sm_tr {a n : Nat} {h h1 h2 : zH} (s1 : sm a n h h1) (s2 : sm a n h1 h2) : sm a n h h2 := ⟨fun q hq => (s2.1 q hq).trans (s1.1 q hq), s2.2.trans s1.2⟩
theorem sm_mo {a n a' n' : Nat} {h h1 : zH} (s : sm a n h h1) (h1' : a' ≤ a) (h2 : a + n ≤ a' + n') : sm a' n' h h1 := ⟨fun q hq => s.1 q (by omega), s.2⟩
theorem rpS_sm {S : zD} {h h' : zH} {a b n : Nat} (s : sm b n h h') (hd : a + 7 ≤ b ∨ b + n ≤ a) (hS : rpS S h a) : rpS S h' a := rpS_cg (fun k hk => s.1 _ (by omega)) hS
theorem rpL_sm {L : zG} {h h' : zH} {a b n : Nat} (s : sm b n h h') (hd : a + 3 ≤ b ∨ b + n ≤ a) (hL : rpL L h a) : rpL L h' a := rpL_cg (s.1 _ (by omega)) (s.1 _ (by omega)) (s.1 _ (by omega)) hL
theorem rpO_sm {B : Nat → Nat} {h h' : zH} {a b n : Nat} (s : sm b n h h') (hd : a + 2 ≤ b ∨ b + n ≤ a) (hB : rpO B h a) : rpO B h' a := by
  intro i hi
  rw [s.1 _ (by omega)]
  exact hB i hi
theorem oW_sm {B : Nat → Nat} {h h' : zH} {o : Nat} (hw : oW B h o h') : sm o 2 h h' := by
  obtain ⟨f, rfl, -⟩ := hw
  exact sm_W _ _ (by omega) (by omega)
/-- no one has listened -/
def gZ : zG := (0, fun _ => 0, fun _ => false, fun _ => 0)
theorem gZ_H (p : Nat) : gH gZ p = false := rfl
theorem rpL_of {L : zG} {h : zH} {l : Nat} (r0 r1 r2 : Nat → Int32) (e0 : h.1 l = r0) (e1 : h.1 (l + 1) = r1) (e2 : h.1 (l + 2) = r2) (hL : (r0 0 = nI (gN L) ∧ gN L ≤ 28) ∧ (∀ i, i < gN L → r1 i = nI (gP L i) ∧ gP L i < 28) ∧ (∃ M V : Nat, r0 2 = nI M ∧ r0 3 = nI V ∧ M < 2 ^ 28 ∧ V < 2 ^ 28 ∧ (∀ p, p < 28 → M.testBit p = gH L p) ∧ ∀ p, p < 28 → gH L p = true → V.testBit p = gV L p) ∧ ∀ r, r < 10 → r2 r = gW L r) : rpL L h l := by
  unfold rpL
  rw [e0, e1, e2]
  exact hL
def ca_X3_clear : (Nat) → List zV := fun l => [vR 12 0 l]
def cp_X3_clear : (Nat) → zH → Prop := fun _ _ => True
def cq_X3_clear : (Nat) → zH → Option zV → zH → Prop := fun l h r h' => r = none ∧ sm l 3 h h' ∧ rpL gZ h' l
theorem rc_X3_clear : ∀ x : (Nat), ∃ (j a : Nat) (As : List zV), ca_X3_clear x = vR (10 + 2) j a :: As := by
  rintro l
  exact ⟨_, _, _, rfl⟩
set_option maxHeartbeats 4000000 in
set_option maxRecDepth 100000 in
theorem m_X3_clear : zM yX3_clear cX3_clear 2 none ({ frames := 0, cells := 0, slots := 0, locals := 0 } : Room) ((ca_X3_clear, cp_X3_clear, cq_X3_clear) : zC (Nat)) := by
  refine zM_of (by decide) ?_
  rintro X Y l h _ O E hR
  have B_36 := zr_return (X := X) (Y := Y) (u := 0) (v := 0) O E (Nat.le_refl _) (Nat.le_refl _) dX3_clear_36
  have L_17 : ∀ nn : Nat, zSd X Y 0 0 17 ((fun k ls st h1 => ∃ (i : Nat) (z : Int32) (f g : Nat → Int32), k = 10 - i ∧ i ≤ 10 ∧ ls = [some (vR 12 0 l), some (vI z)] ∧ z = nI i ∧ st = [] ∧ h1 = zsW (zsW h l g) (l + 2) f ∧ (∀ j, j < i → f j = 0) ∧ g 0 = 0 ∧ g 2 = 0 ∧ g 3 = 0 : Nat → zT) nn) := by
    refine zSd_loop (fun nn ih => ?_)
    have B_17 := zr_iload_n (X := X) (Y := Y) (u := 0) (v := 0) O dX3_clear_17 rfl (zr_bipush (x := (10)) O dX3_clear_18 (by decide) (zr_icge (tgt := 36) O dX3_clear_20 rfl B_36 (zr_aload_n O dX3_clear_23 rfl (zr_gS (ci := 2) (j := 4) (off := 2) (t := 1) (n := 10) O zc_2 (by decide) rfl tw_157 dX3_clear_24 (zr_iload_n O dX3_clear_27 rfl (zr_iconst (x := 0) O dX3_clear_28 rfl (zr_iast O dX3_clear_29 (zr_iinc (c := 1) O dX3_clear_30 rfl (zr_goto (tgt := 17) O dX3_clear_33 rfl ih)))))))))
    refine zSd_weak B_17 (fun ls st h1 t => ?_)
    obtain ⟨i, z, f, g, rfl, hi, rfl, rfl, rfl, rfl, hf, g0, g2, g3⟩ := t
    refine ⟨fun cq => ⟨rfl, sm_tr (sm_W _ _ (by omega) (by omega)) (sm_W _ _ (by omega) (by omega)), ?_⟩, fun cq => ?_⟩
    · have := (nI_leI (a := 10) (by omega) (by omega)).mp cq
      refine rpL_of g (h.1 (l + 1)) f (by rw [zsW_n _ _ (by omega), zsW_s]) (by rw [zsW_n _ _ (by omega), zsW_n _ _ (by omega)]) (by rw [zsW_s]) ⟨⟨g0, by decide⟩, fun i hi => absurd hi (Nat.not_lt_zero _), ⟨0, 0, g2, g3, by decide, by decide, fun p _ => by rw [Nat.zero_testBit]; rfl, fun p _ hp => by cases hp⟩, fun r hr => hf r (by omega)⟩
    · have hi2 : i < 10 := Nat.not_le.mp (fun z => cq ((nI_leI (a := 10) (by omega) (by omega)).mpr z))
      refine ⟨i, rfl, hi2, 10 - (i + 1), by omega, i + 1, _, va_up f i 0, g, rfl, by omega, rfl, nI_1 i, rfl, ?_, ?_, g0, g2, g3⟩
      · rw [zsI_W, zsW_s, zsW_W]
      · intro j hj
        by_cases hji : j = i
        · rw [hji, zup_s]
        · rw [zup_n _ _ hji]
          exact hf j (by omega)
  have B_17 := zSd_any L_17
  have B_0 := zr_aload_n (X := X) (Y := Y) (u := 0) (v := 0) O dX3_clear_0 rfl (zr_iconst (x := 0) O dX3_clear_1 rfl (zr_pI (ci := 2) (j := 0) O zc_2 (by decide) rfl rfl rfl tw_152 dX3_clear_2 (zr_aload_n O dX3_clear_5 rfl (zr_iconst (x := 0) O dX3_clear_6 rfl (zr_pI (ci := 2) (j := 2) O zc_2 (by decide) rfl rfl rfl tw_155 dX3_clear_7 (zr_aload_n O dX3_clear_10 rfl (zr_iconst (x := 0) O dX3_clear_11 rfl (zr_pI (ci := 2) (j := 3) O zc_2 (by decide) rfl rfl rfl tw_156 dX3_clear_12 (zr_iconst (x := 0) O dX3_clear_15 rfl (zr_istore_n O dX3_clear_16 rfl (B_17)))))))))))
  refine ⟨rfl, Nat.le_of_ble_eq_true rfl, _, B_0, ?_⟩
  refine ⟨10 - 0, 0, _, h.1 (l + 2), va_up (va_up (va_up (h.1 l) 0 0) 2 0) 3 0, rfl, Nat.zero_le _, rfl, rfl, rfl, ?_, fun j hj => absurd hj (by omega), ?_, ?_, ?_⟩
  · simp only [zsI_W, zsW_W, zsW_s]
    rw [← zsW_n (q := l + 2) (a := l) h (va_up (va_up (va_up (h.1 l) 0 0) 2 0) 3 0) (by omega), zsW_self]
  · rfl
  · rfl
  · rfl
def ca_X3_copyFrom : (zG × Nat × Nat) → List zV := fun (L, l, q) => [vR 12 0 l, vR 12 0 q]
def cp_X3_copyFrom : (zG × Nat × Nat) → zH → Prop := fun (L, l, q) h => rpL L h q ∧ (l + 3 ≤ q ∨ q + 3 ≤ l)
def cq_X3_copyFrom : (zG × Nat × Nat) → zH → Option zV → zH → Prop := fun (L, l, q) h r h' => r = none ∧ sm l 3 h h' ∧ rpL L h' l
theorem rc_X3_copyFrom : ∀ x : (zG × Nat × Nat), ∃ (j a : Nat) (As : List zV), ca_X3_copyFrom x = vR (10 + 2) j a :: As := by
  rintro ⟨L, l, q⟩
  exact ⟨_, _, _, rfl⟩
set_option maxHeartbeats 4000000 in
set_option maxRecDepth 100000 in
theorem m_X3_copyFrom : zM yX3_copyFrom cX3_copyFrom 2 none ({ frames := 1, cells := 0, slots := 0, locals := 60 } : Room) ((ca_X3_copyFrom, cp_X3_copyFrom, cq_X3_copyFrom) : zC (zG × Nat × Nat)) := by
  refine zM_of (by decide) ?_
  rintro X Y ⟨L, l, q⟩ h ⟨hL, hd⟩ O E hR
  have B_0 := zr_aload_n (X := X) (Y := Y) (u := 0) (v := 0) O dX3_copyFrom_0 rfl (zr_aload_n O dX3_copyFrom_1 rfl (zr_gI (ci := 2) (j := 0) O zc_2 (by decide) rfl tw_152 dX3_copyFrom_2 (zr_pI (ci := 2) (j := 0) O zc_2 (by decide) rfl rfl rfl tw_152 dX3_copyFrom_5 (zr_aload_n O dX3_copyFrom_8 rfl (zr_gS (ci := 2) (j := 1) (off := 1) (t := 1) (n := 28) O zc_2 (by decide) rfl tw_154 dX3_copyFrom_9 (zr_iconst (x := 0) O dX3_copyFrom_12 rfl (zr_aload_n O dX3_copyFrom_13 rfl (zr_gS (ci := 2) (j := 1) (off := 1) (t := 1) (n := 28) O zc_2 (by decide) rfl tw_154 dX3_copyFrom_14 (zr_iconst (x := 0) O dX3_copyFrom_17 rfl (zr_bipush (x := (28)) O dX3_copyFrom_18 (by decide) (zr_cpy O tw_417 zwc ⟨(zrm (a := 1) (b := 60) hR rfl rfl).1, Nat.le_trans zwn (zrm (a := 1) (b := 60) hR rfl rfl).2.1⟩ dX3_copyFrom_20 (zr_aload_n O dX3_copyFrom_23 rfl (zr_aload_n O dX3_copyFrom_24 rfl (zr_gI (ci := 2) (j := 2) O zc_2 (by decide) rfl tw_155 dX3_copyFrom_25 (zr_pI (ci := 2) (j := 2) O zc_2 (by decide) rfl rfl rfl tw_155 dX3_copyFrom_28 (zr_aload_n O dX3_copyFrom_31 rfl (zr_aload_n O dX3_copyFrom_32 rfl (zr_gI (ci := 2) (j := 3) O zc_2 (by decide) rfl tw_156 dX3_copyFrom_33 (zr_pI (ci := 2) (j := 3) O zc_2 (by decide) rfl rfl rfl tw_156 dX3_copyFrom_36 (zr_aload_n O dX3_copyFrom_39 rfl (zr_gS (ci := 2) (j := 4) (off := 2) (t := 1) (n := 10) O zc_2 (by decide) rfl tw_157 dX3_copyFrom_40 (zr_iconst (x := 0) O dX3_copyFrom_43 rfl (zr_aload_n O dX3_copyFrom_44 rfl (zr_gS (ci := 2) (j := 4) (off := 2) (t := 1) (n := 10) O zc_2 (by decide) rfl tw_157 dX3_copyFrom_45 (zr_iconst (x := 0) O dX3_copyFrom_48 rfl (zr_bipush (x := (10)) O dX3_copyFrom_49 (by decide) (zr_cpy O tw_417 zwc ⟨(zrm (a := 1) (b := 60) hR rfl rfl).1, Nat.le_trans zwn (zrm (a := 1) (b := 60) hR rfl rfl).2.1⟩ dX3_copyFrom_51 (zr_return O E (Nat.le_refl _) (Nat.le_refl _) dX3_copyFrom_54))))))))))))))))))))))))))))
  refine ⟨rfl, Nat.le_of_ble_eq_true rfl, _, B_0, ?_⟩
  have hL : rpL L h q := hL
  refine ⟨rfl, rfl, 28, rfl, by decide, by decide, rfl, rfl, 10, rfl, by decide, by decide, rfl, ?_, ?_⟩
  · simp only [zsI_W]
    exact sm_tr (sm_tr (sm_tr (sm_tr (sm_W _ _ (by omega) (by omega)) (sm_W _ _ (by omega) (by omega))) (sm_W _ _ (by omega) (by omega))) (sm_W _ _ (by omega) (by omega))) (sm_W _ _ (by omega) (by omega))
  · have e1 : q ≠ l := by omega
    have e2 : q ≠ l + 1 := by omega
    have e3 : q ≠ l + 2 := by omega
    have e4 : q + 1 ≠ l := by omega
    have e5 : q + 1 ≠ l + 1 := by omega
    have e6 : q + 1 ≠ l + 2 := by omega
    have e7 : q + 2 ≠ l := by omega
    have e8 : q + 2 ≠ l + 1 := by omega
    have e9 : q + 2 ≠ l + 2 := by omega
    obtain ⟨⟨n1, n2⟩, p1, ⟨M, V, m1, m2, m3⟩, w1⟩ := hL
    refine rpL_of (va_up (va_up (va_up (h.1 l) 0 (h.1 q 0)) 2 (h.1 q 2)) 3 (h.1 q 3)) (fun i => if i < 28 then h.1 (q + 1) i else h.1 (l + 1) i) (fun i => if i < 10 then h.1 (q + 2) i else h.1 (l + 2) i) ?_ ?_ ?_ ⟨⟨n1, n2⟩, fun i hi => ?_, ⟨M, V, m1, m2, m3⟩, fun r hr => ?_⟩
    · simp only [zsI_W, zsW_s, zsW_n (q := l) (a := l + 1) _ _ (by omega), zsW_n (q := l) (a := l + 2) _ _ (by omega), zsW_n _ _ e1, zsW_n _ _ e2]
    · simp only [zsI_W, zsW_s, zsW_n (q := l + 1) (a := l) _ _ (by omega), zsW_n (q := l + 1) (a := l + 2) _ _ (by omega), zsW_n _ _ e4, zsW_n _ _ e5]
    · simp only [zsI_W, zsW_s, zsW_n (q := l + 2) (a := l) _ _ (by omega), zsW_n (q := l + 2) (a := l + 1) _ _ (by omega), zsW_n _ _ e7, zsW_n _ _ e8]
    · rw [if_pos (by omega)]
      exact p1 i hi
    · rw [if_pos hr]
      exact w1 r hr
/-- an epoch -/
def lst (W : Nat → Int32) (f s : Nat) (x : Int32) : Nat → Int32 := va_up (va_up W f (W f + x)) s (va_up W f (W f + x) s - x)
def lrn (S : zD) (L : zG) : Nat → (Nat → Int32) × Nat
  | 0 => (gW L, 0)
  | i + 1 => if gss S (lrn S L i).1 (gP L i) = bI (gB L i) then lrn S L i else (lst (lrn S L i).1 (dF S (gP L i)) (dS S (gP L i)) (if gB L i then 1 else -1), (lrn S L i).2 + 1)
theorem lrn_le (S : zD) (L : zG) : ∀ i, (lrn S L i).2 ≤ i
  | 0 => Nat.le_refl _
  | i + 1 => by
    have := lrn_le S L i
    unfold lrn
    split
    · omega
    · show (lrn S L i).2 + 1 ≤ i + 1
      omega
theorem lst_cg {W V : Nat → Int32} {f s : Nat} {x : Int32} (hf : f < 10) (hs : s < 10) (h : ∀ r, r < 10 → V r = W r) : ∀ r, r < 10 → lst V f s x r = lst W f s x r := by
  intro r hr
  have h1 : ∀ r, r < 10 → va_up V f (V f + x) r = va_up W f (W f + x) r := by
    intro r hr
    by_cases e : r = f
    · rw [e, zup_s, zup_s, h f hf]
    · rw [zup_n _ _ e, zup_n _ _ e, h r hr]
  unfold lst
  by_cases e : r = s
  · rw [e, zup_s, zup_s, h1 s hs]
  · rw [zup_n _ _ e, zup_n _ _ e, h1 r hr]
theorem gss_cg {S : zD} {W V : Nat → Int32} {p : Nat} (hf : dF S p < 10) (hs : dS S p < 10) (h : ∀ r, r < 10 → V r = W r) : gss S V p = gss S W p := by
  unfold gss
  rw [h _ hf, h _ hs]
def ca_X3_learn : (zD × zG × Nat × Nat) → List zV := fun (S, L, l, a) => [vR 12 0 l, vR 15 0 a]
def cp_X3_learn : (zD × zG × Nat × Nat) → zH → Prop := fun (S, L, l, a) h => rpL L h l ∧ gInj L ∧ rpS S h a ∧ (∀ i, i < gN L → gP L i < dP S) ∧ (l + 3 ≤ a ∨ a + 7 ≤ l)
def cq_X3_learn : (zD × zG × Nat × Nat) → zH → Option zV → zH → Prop := fun (S, L, l, a) h r h' => r = some (vI (nI (lrn S L (gN L)).2)) ∧ ∃ f : Nat → Int32, h' = zsW h (l + 2) f ∧ ∀ r, r < 10 → f r = (lrn S L (gN L)).1 r
theorem rc_X3_learn : ∀ x : (zD × zG × Nat × Nat), ∃ (j a : Nat) (As : List zV), ca_X3_learn x = vR (10 + 2) j a :: As := by
  rintro ⟨S, L, l, a⟩
  exact ⟨_, _, _, rfl⟩
set_option maxHeartbeats 4000000 in
set_option maxRecDepth 100000 in
theorem m_X3_learn : zM yX3_learn cX3_learn 7 (some .int) ({ frames := 3, cells := 0, slots := 0, locals := 63 } : Room) ((ca_X3_learn, cp_X3_learn, cq_X3_learn) : zC (zD × zG × Nat × Nat)) := by
  refine zM_of (by decide) ?_
  rintro X Y ⟨S, L, l, a⟩ h ⟨hL, hj, hS, hP, hd⟩ O E hR
  have B_96 := zr_iload_n (X := X) (Y := Y) (u := 0) (v := 0) O dX3_learn_96 rfl (zr_ireturn O E (Nat.le_refl _) (Nat.le_refl _) dX3_learn_97)
  have L_4 : ∀ nn : Nat, zSd X Y 0 0 4 ((fun k ls st h1 => ∃ (i : Nat) (z w : Int32) (f : Nat → Int32) (y4 y5 y6 : Option zV), k = gN L - i ∧ i ≤ gN L ∧ ls = [some (vR 12 0 l), some (vR 15 0 a), some (vI w), some (vI z), y4, y5, y6] ∧ z = nI i ∧ w = nI (lrn S L i).2 ∧ st = [] ∧ h1 = zsW h (l + 2) f ∧ ∀ r, r < 10 → f r = (lrn S L i).1 r : Nat → zT) nn) := by
    refine zSd_loop (fun nn ih => ?_)
    have B_90 := zr_iinc (X := X) (Y := Y) (u := 0) (v := 0) (c := 1) O dX3_learn_90 rfl (zr_goto (tgt := 4) O dX3_learn_93 rfl ih)
    have B_51 := zr_istore (X := X) (Y := Y) (u := 0) (v := 0) O dX3_learn_51 (zr_aload_n O dX3_learn_53 rfl (zr_gS (ci := 2) (j := 4) (off := 2) (t := 1) (n := 10) O zc_2 (by decide) rfl tw_157 dX3_learn_54 (zr_aload_n O dX3_learn_57 rfl (zr_gS (ci := 5) (j := 5) (off := 4) (t := 1) (n := 28) O zc_5 (by decide) rfl tw_64 dX3_learn_58 (zr_iload O dX3_learn_61 (zr_iald O dX3_learn_63 (zr_dup2 O dX3_learn_64 (zr_iald O dX3_learn_65 (zr_iload O dX3_learn_66 (zr_iadd O dX3_learn_68 (zr_iast O dX3_learn_69 (zr_aload_n O dX3_learn_70 rfl (zr_gS (ci := 2) (j := 4) (off := 2) (t := 1) (n := 10) O zc_2 (by decide) rfl tw_157 dX3_learn_71 (zr_aload_n O dX3_learn_74 rfl (zr_gS (ci := 5) (j := 6) (off := 5) (t := 1) (n := 28) O zc_5 (by decide) rfl tw_71 dX3_learn_75 (zr_iload O dX3_learn_78 (zr_iald O dX3_learn_80 (zr_dup2 O dX3_learn_81 (zr_iald O dX3_learn_82 (zr_iload O dX3_learn_83 (zr_isub O dX3_learn_85 (zr_iast O dX3_learn_86 (zr_iinc (c := 1) O dX3_learn_87 rfl (B_90))))))))))))))))))))))))
    have B_50 := zr_iconst (X := X) (Y := Y) (u := 0) (v := 0) (x := (-1)) O dX3_learn_50 rfl (B_51)
    have B_4 := zr_iload_n (X := X) (Y := Y) (u := 0) (v := 0) O dX3_learn_4 rfl (zr_aload_n O dX3_learn_5 rfl (zr_gI (ci := 2) (j := 0) O zc_2 (by decide) rfl tw_152 dX3_learn_6 (zr_icge (tgt := 96) O dX3_learn_9 rfl B_96 (zr_aload_n O dX3_learn_12 rfl (zr_gS (ci := 2) (j := 1) (off := 1) (t := 1) (n := 28) O zc_2 (by decide) rfl tw_154 dX3_learn_13 (zr_iload_n O dX3_learn_16 rfl (zr_iald O dX3_learn_17 (zr_istore O dX3_learn_18 (zr_aload_n O dX3_learn_20 rfl (zr_iload O dX3_learn_21 (zr_cI (zr_cV (ci := 2) (n := 1) O m_X3_heardBitOf (bn_X3_heardBitOf _ ⟨rfl, rfl⟩) vw_X3_heardBitOf tw_365 rc_X3_heardBitOf (zrm hR rfl rfl) dX3_learn_23 (zr_istore O dX3_learn_26 (zr_aload_n O dX3_learn_28 rfl (zr_aload_n O dX3_learn_29 rfl (zr_iload O dX3_learn_30 (zr_cI (zr_cV (ci := 2) (n := 2) O m_X3_guessOf (bn_X3_guessOf _ ⟨rfl, rfl⟩) vw_X3_guessOf tw_847 rc_X3_guessOf (zrm hR rfl rfl) dX3_learn_32 (zr_iload O dX3_learn_35 (zr_iceq (tgt := 90) O dX3_learn_37 rfl B_90 (zr_iload O dX3_learn_40 (zr_iconst (x := 1) O dX3_learn_42 rfl (zr_icne (tgt := 50) O dX3_learn_43 rfl B_50 (zr_iconst (x := 1) O dX3_learn_46 rfl (zr_goto (tgt := 51) O dX3_learn_47 rfl B_51)))))))))))))))))))))))))
    refine zSd_weak B_4 (fun ls st h1 t => ?_)
    obtain ⟨i, z, w, f, y4, y5, y6, rfl, hi, rfl, rfl, rfl, rfl, rfl, hf⟩ := t
    have hL : rpL L h l := hL
    have hS : rpS S h a := hS
    have hn : (zsW h (l + 2) f).1 l 0 = nI (gN L) := by rw [zsW_n _ _ (by omega)]; exact hL.1.1
    have h28 := hL.1.2
    refine ⟨fun cq => ?_, fun cq => ?_⟩
    · have cq : nI (gN L) ≤ nI i := by rw [← hn]; exact cq
      have := (nI_leI (by omega) (by omega)).mp cq
      have hii : i = gN L := by omega
      subst hii
      exact ⟨rfl, f, rfl, hf⟩
    · have hi2 : i < gN L := Nat.not_le.mp (fun z => cq (by rw [hn]; exact (nI_leI (by omega) (by omega)).mpr z))
      obtain ⟨q1, q2⟩ := hL.2.1 i hi2
      have q3 := hP i hi2
      obtain ⟨q4, q5⟩ := gIx_at hj hi2
      have hL2 : rpL (gN L, gP L, gB L, (lrn S L i).1) (zsW h (l + 2) f) l := by
        refine rpL_of (h.1 l) (h.1 (l + 1)) f (zsW_n _ _ (by omega)) (zsW_n _ _ (by omega)) (zsW_s _ _ _) ⟨hL.1, hL.2.1, hL.2.2.1, hf⟩
      have hS2 : rpS S (zsW h (l + 2) f) a := rpS_fr (by omega) hS
      obtain ⟨⟨f1, f2⟩, s1, s2⟩ := hS.2.2.2.1 _ q3
      have hN := hS.1.2
      have hF10 : dF S (gP L i) < 10 := by omega
      have hS10 : dS S (gP L i) < 10 := by omega
      have e1 : (zsW h (l + 2) f).1 (l + 1) i = nI (gP L i) := by rw [zsW_n _ _ (by omega)]; exact q1
      have eD : ghb (gN L, gP L, gB L, (lrn S L i).1) (gP L i) = bI (gB L i) := by
        show (if gH L (gP L i) = true then bI (gV L (gP L i)) else -1) = _
        rw [if_pos q5, gV, q4]
      have eF : (zsW h (l + 2) f).1 (a + 4) (gP L i) = nI (dF S (gP L i)) := by rw [zsW_n _ _ (by omega)]; exact f1
      have eS : (zsW h (l + 2) f).1 (a + 5) (gP L i) = nI (dS S (gP L i)) := by rw [zsW_n _ _ (by omega)]; exact s1
      have hle := lrn_le S L i
      refine ⟨i, rfl, by omega, ((gN L, gP L, gB L, (lrn S L i).1), l, gP L i), by rw [e1]; rfl, ⟨hL2, q2⟩, (S, (gN L, gP L, gB L, (lrn S L i).1), l, a, gP L i), by rw [e1]; rfl, ⟨hS2, fun r hr => hL2.2.2.2 r hr, q3⟩, fun dq => ?_, fun dq => ?_⟩
      · have eq2 : gss S (lrn S L i).1 (gP L i) = bI (gB L i) := by rw [← eD]; exact dq
        have e3 : lrn S L (i + 1) = lrn S L i := by rw [lrn, if_pos eq2]
        exact ⟨gN L - (i + 1), by omega, i + 1, _, _, f, _, _, _, rfl, by omega, rfl, nI_1 i, by rw [e3], rfl, rfl, by rw [e3]; exact hf⟩
      · have ne2 : ¬ gss S (lrn S L i).1 (gP L i) = bI (gB L i) := by rw [← eD]; exact dq
        have e3 : lrn S L (i + 1) = (lst (lrn S L i).1 (dF S (gP L i)) (dS S (gP L i)) (if gB L i then 1 else -1), (lrn S L i).2 + 1) := by rw [lrn, if_neg ne2]
        have eS2 : ∀ g : Nat → Int32, (zsW h (l + 2) g).1 (a + 5) (gP L i) = nI (dS S (gP L i)) := fun g => by rw [zsW_n _ _ (by omega)]; exact s1
        have hp28 : gP L i < 28 := q2
        have fin : ∀ x : Int32, x = (if gB L i then 1 else -1) → ∀ r, r < 10 → lst f (dF S (gP L i)) (dS S (gP L i)) x r = (lrn S L (i + 1)).1 r := by
          intro x hx r hr
          rw [e3, hx]
          exact lst_cg hF10 hS10 hf r hr
        refine ⟨fun eq => ?_, fun eq => ?_⟩
        · have hb : gB L i = false := by
            cases hz : gB L i with
            | false => rfl
            | true => exact absurd (eD.trans (by rw [hz]; rfl)) eq
          refine ⟨_, e1, hp28, _, eF, hF10, _, eF, hF10, _, (by exact e1), hp28, _, (by simp only [zsI_W, zsW_W]; exact eS2 _), hS10, _, (by simp only [zsI_W, zsW_W]; exact eS2 _), hS10, gN L - (i + 1), by omega, i + 1, _, _, lst f (dF S (gP L i)) (dS S (gP L i)) (-1), _, _, _, rfl, by omega, rfl, nI_1 i, ?_, rfl, ?_, fin _ (by rw [hb]; rfl)⟩
          · rw [e3, nI_1]
          · simp only [zsI_W, zsW_s, zsW_W]; rfl
        · have hb : gB L i = true := by
            cases hz : gB L i with
            | true => rfl
            | false => exact absurd (eq.symm.trans (eD.trans (by rw [hz]))) (by decide)
          refine ⟨_, e1, hp28, _, eF, hF10, _, eF, hF10, _, (by exact e1), hp28, _, (by simp only [zsI_W, zsW_W]; exact eS2 _), hS10, _, (by simp only [zsI_W, zsW_W]; exact eS2 _), hS10, gN L - (i + 1), by omega, i + 1, _, _, lst f (dF S (gP L i)) (dS S (gP L i)) 1, _, _, _, rfl, by omega, rfl, nI_1 i, ?_, rfl, ?_, fin _ (by rw [hb]; rfl)⟩
          · rw [e3, nI_1]
          · simp only [zsI_W, zsW_s, zsW_W]; rfl
  have B_4 := zSd_any L_4
  have B_0 := zr_iconst (X := X) (Y := Y) (u := 0) (v := 0) (x := 0) O dX3_learn_0 rfl (zr_istore_n O dX3_learn_1 rfl (zr_iconst (x := 0) O dX3_learn_2 rfl (zr_istore_n O dX3_learn_3 rfl (B_4))))
  refine ⟨rfl, Nat.le_of_ble_eq_true rfl, _, B_0, ?_⟩
  exact ⟨gN L - 0, 0, _, _, h.1 (l + 2), _, _, _, rfl, Nat.zero_le _, rfl, rfl, rfl, rfl, (zsW_self h (l + 2)).symm, hL.2.2.2⟩
/-- the order of what was heard -/
def lod (S : zD) (L : zG) : Nat → (Nat → Nat)
  | 0 => fun _ => 0
  | i + 1 => oputP S (lod S L i) (gP L i) (gB L i)
theorem oputP_lt {S : zD} {B : Nat → Nat} {p : Nat} {w : Bool} (hB : ∀ i, i < 10 → B i < 1024) (hf : dF S p < 10) (hs : dS S p < 10) : ∀ i, i < 10 → oputP S B p w i < 1024 := by
  unfold oputP
  split
  · exact oput_lt hB hs
  · exact oput_lt hB hf
theorem lod_lt {S : zD} {L : zG} (hN : dN S ≤ 10) : ∀ n, (∀ i, i < n → dF S (gP L i) < dN S ∧ dS S (gP L i) < dN S) → ∀ i, i < 10 → lod S L n i < 1024
  | 0, _ => fun _ _ => (by decide : (0 : Nat) < 1024)
  | n + 1, hp => oputP_lt (lod_lt hN n (fun i hi => hp i (by omega))) (Nat.lt_of_lt_of_le (hp n (by omega)).1 hN) (Nat.lt_of_lt_of_le (hp n (by omega)).2 hN)
def ca_X3_putInto : (zD × zG × Nat × Nat × Nat) → List zV := fun (S, L, l, o, a) => [vR 12 0 l, vR 13 0 o, vR 15 0 a]
def cp_X3_putInto : (zD × zG × Nat × Nat × Nat) → zH → Prop := fun (S, L, l, o, a) h => rpL L h l ∧ gInj L ∧ rpS S h a ∧ (∀ i, i < gN L → gP L i < dP S) ∧ (o + 2 ≤ l ∨ l + 3 ≤ o) ∧ (o + 2 ≤ a ∨ a + 7 ≤ o)
def cq_X3_putInto : (zD × zG × Nat × Nat × Nat) → zH → Option zV → zH → Prop := fun (S, L, l, o, a) h r h' => r = none ∧ oW (lod S L (gN L)) h o h'
theorem rc_X3_putInto : ∀ x : (zD × zG × Nat × Nat × Nat), ∃ (j a : Nat) (As : List zV), ca_X3_putInto x = vR (10 + 2) j a :: As := by
  rintro ⟨S, L, l, o, a⟩
  exact ⟨_, _, _, rfl⟩
set_option maxHeartbeats 4000000 in
set_option maxRecDepth 100000 in
theorem m_X3_putInto : zM yX3_putInto cX3_putInto 4 none ({ frames := 3, cells := 0, slots := 0, locals := 70 } : Room) ((ca_X3_putInto, cp_X3_putInto, cq_X3_putInto) : zC (zD × zG × Nat × Nat × Nat)) := by
  refine zM_of (by decide) ?_
  rintro X Y ⟨S, L, l, o, a⟩ h ⟨hL, hj, hS, hP, hd1, hd2⟩ O E hR
  have B_41 := zr_return (X := X) (Y := Y) (u := 0) (v := 0) O E (Nat.le_refl _) (Nat.le_refl _) dX3_putInto_41
  have L_6 : ∀ nn : Nat, zSd X Y 0 0 6 ((fun k ls st h1 => ∃ (i : Nat) (z : Int32), k = gN L - i ∧ i ≤ gN L ∧ ls = [some (vR 12 0 l), some (vR 13 0 o), some (vR 15 0 a), some (vI z)] ∧ z = nI i ∧ st = [] ∧ oW (lod S L i) h o h1 : Nat → zT) nn) := by
    refine zSd_loop (fun nn ih => ?_)
    have B_6 := zr_iload_n (X := X) (Y := Y) (u := 0) (v := 0) O dX3_putInto_6 rfl (zr_aload_n O dX3_putInto_7 rfl (zr_gI (ci := 2) (j := 0) O zc_2 (by decide) rfl tw_152 dX3_putInto_8 (zr_icge (tgt := 41) O dX3_putInto_11 rfl B_41 (zr_aload_n O dX3_putInto_14 rfl (zr_aload_n O dX3_putInto_15 rfl (zr_aload_n O dX3_putInto_16 rfl (zr_gS (ci := 2) (j := 1) (off := 1) (t := 1) (n := 28) O zc_2 (by decide) rfl tw_154 dX3_putInto_17 (zr_iload_n O dX3_putInto_20 rfl (zr_iald O dX3_putInto_21 (zr_aload_n O dX3_putInto_22 rfl (zr_aload_n O dX3_putInto_23 rfl (zr_gS (ci := 2) (j := 1) (off := 1) (t := 1) (n := 28) O zc_2 (by decide) rfl tw_154 dX3_putInto_24 (zr_iload_n O dX3_putInto_27 rfl (zr_iald O dX3_putInto_28 (zr_cI (zr_cV (ci := 2) (n := 1) O m_X3_heardBitOf (bn_X3_heardBitOf _ ⟨rfl, rfl⟩) vw_X3_heardBitOf tw_365 rc_X3_heardBitOf (zrm hR rfl rfl) dX3_putInto_29 (zr_cV (ci := 3) (n := 3) O m_X4_putPair (bn_X4_putPair _ ⟨rfl, rfl⟩) vw_X4_putPair tw_376 rc_X4_putPair (zrm hR rfl rfl) dX3_putInto_32 (zr_iinc (c := 1) O dX3_putInto_35 rfl (zr_goto (tgt := 6) O dX3_putInto_38 rfl ih)))))))))))))))))))
    refine zSd_weak B_6 (fun ls st h1 t => ?_)
    obtain ⟨i, z, rfl, hi, rfl, rfl, rfl, hw⟩ := t
    have hL : rpL L h l := hL
    have hS : rpS S h a := hS
    have hL2 : rpL L h1 l := rpL_sm (oW_sm hw) (by omega) hL
    have hS2 : rpS S h1 a := rpS_sm (oW_sm hw) (by omega) hS
    have hn : h1.1 l 0 = nI (gN L) := hL2.1.1
    have h28 := hL.1.2
    have hN := hS.1.2
    have hr : ∀ i, i < gN L → dF S (gP L i) < dN S ∧ dS S (gP L i) < dN S := fun i hi => ⟨(hS.2.2.2.1 _ (hP i hi)).1.2, (hS.2.2.2.1 _ (hP i hi)).2.2⟩
    refine ⟨fun cq => ?_, fun cq => ?_⟩
    · have cq : nI (gN L) ≤ nI i := by rw [← hn]; exact cq
      have := (nI_leI (by omega) (by omega)).mp cq
      have hii : i = gN L := by omega
      subst hii
      exact ⟨rfl, hw⟩
    · have hi2 : i < gN L := Nat.not_le.mp (fun z => cq (by rw [hn]; exact (nI_leI (by omega) (by omega)).mpr z))
      obtain ⟨q1, q2⟩ := hL2.2.1 i hi2
      obtain ⟨q4, q5⟩ := gIx_at hj hi2
      have hO : rpO (lod S L i) h1 o := oW_rp hw (lod_lt hN i (fun j hj => hr j (by omega)))
      have eD : ghb L (gP L i) = bI (gB L i) := by
        show (if gH L (gP L i) = true then bI (gV L (gP L i)) else -1) = _
        rw [if_pos q5, gV, q4]
      refine ⟨i, rfl, by omega, i, rfl, by omega, (L, l, gP L i), by rw [q1]; rfl, ⟨hL2, q2⟩, (S, lod S L i, o, a, gP L i, gB L i), ?_, ⟨hO, hS2, hP i hi2⟩, fun r h' hq => ?_⟩
      · rw [q1]
        show [_, _, _, vI (ghb L (gP L i))] = _
        rw [eD]
        rfl
      · obtain ⟨rfl, hq⟩ := hq
        exact ⟨gN L - (i + 1), by omega, i + 1, _, rfl, by omega, rfl, nI_1 i, rfl, oW_tr hw hq⟩
  have B_6 := zSd_any L_6
  have B_0 := zr_aload_n (X := X) (Y := Y) (u := 0) (v := 0) O dX3_putInto_0 rfl (zr_cV (ci := 3) (n := 0) O m_X4_clear (bn_X4_clear _ ⟨rfl, rfl⟩) vw_X4_clear tw_361 rc_X4_clear (zrm hR rfl rfl) dX3_putInto_1 (zr_iconst (x := 0) O dX3_putInto_4 rfl (zr_istore_n O dX3_putInto_5 rfl (B_6))))
  refine ⟨rfl, Nat.le_of_ble_eq_true rfl, _, B_0, ?_⟩
  refine ⟨o, rfl, trivial, fun r h' hq => ?_⟩
  obtain ⟨rfl, hq⟩ := hq
  exact ⟨gN L - 0, 0, _, rfl, Nat.zero_le _, rfl, rfl, rfl, hq⟩

