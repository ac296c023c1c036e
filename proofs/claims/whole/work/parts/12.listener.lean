theorem dX3_hasHeard_17 : decode cX3_hasHeard 17 = .ok (.ireturn, 1) := by decide +kernel
theorem dX3_hasHeard_16 : decode cX3_hasHeard 16 = .ok (.iconst 0, 1) := by decide +kernel
theorem dX3_hasHeard_0 : decode cX3_hasHeard 0 = .ok (.aload_n 0, 1) := by decide +kernel
theorem dX3_hasHeard_1 : decode cX3_hasHeard 1 = .ok (.getfield 22, 3) := by decide +kernel
theorem dX3_hasHeard_4 : decode cX3_hasHeard 4 = .ok (.iload_n 1, 1) := by decide +kernel
theorem dX3_hasHeard_5 : decode cX3_hasHeard 5 = .ok (.invokestatic 34, 3) := by decide +kernel
theorem dX3_hasHeard_8 : decode cX3_hasHeard 8 = .ok (.iconst 1, 1) := by decide +kernel
theorem dX3_hasHeard_9 : decode cX3_hasHeard 9 = .ok (.if_icmp .ne 7, 3) := by decide +kernel
theorem dX3_hasHeard_12 : decode cX3_hasHeard 12 = .ok (.iconst 1, 1) := by decide +kernel
theorem dX3_hasHeard_13 : decode cX3_hasHeard 13 = .ok (.goto 4, 3) := by decide +kernel
theorem dX3_heardBitOf_20 : decode cX3_heardBitOf 20 = .ok (.ireturn, 1) := by decide +kernel
theorem dX3_heardBitOf_19 : decode cX3_heardBitOf 19 = .ok (.iconst (-1), 1) := by decide +kernel
theorem dX3_heardBitOf_0 : decode cX3_heardBitOf 0 = .ok (.aload_n 0, 1) := by decide +kernel
theorem dX3_heardBitOf_1 : decode cX3_heardBitOf 1 = .ok (.iload_n 1, 1) := by decide +kernel
theorem dX3_heardBitOf_2 : decode cX3_heardBitOf 2 = .ok (.invokevirtual 38, 3) := by decide +kernel
theorem dX3_heardBitOf_5 : decode cX3_heardBitOf 5 = .ok (.ifCond .eq 14, 3) := by decide +kernel
theorem dX3_heardBitOf_8 : decode cX3_heardBitOf 8 = .ok (.aload_n 0, 1) := by decide +kernel
theorem dX3_heardBitOf_9 : decode cX3_heardBitOf 9 = .ok (.getfield 25, 3) := by decide +kernel
theorem dX3_heardBitOf_12 : decode cX3_heardBitOf 12 = .ok (.iload_n 1, 1) := by decide +kernel
theorem dX3_heardBitOf_13 : decode cX3_heardBitOf 13 = .ok (.invokestatic 34, 3) := by decide +kernel
theorem dX3_heardBitOf_16 : decode cX3_heardBitOf 16 = .ok (.goto 4, 3) := by decide +kernel
theorem dX3_guessOf_0 : decode cX3_guessOf 0 = .ok (.aload_n 1, 1) := by decide +kernel
theorem dX3_guessOf_1 : decode cX3_guessOf 1 = .ok (.iload_n 2, 1) := by decide +kernel
theorem dX3_guessOf_2 : decode cX3_guessOf 2 = .ok (.aload_n 0, 1) := by decide +kernel
theorem dX3_guessOf_3 : decode cX3_guessOf 3 = .ok (.getfield 15, 3) := by decide +kernel
theorem dX3_guessOf_6 : decode cX3_guessOf 6 = .ok (.aload_n 1, 1) := by decide +kernel
theorem dX3_guessOf_7 : decode cX3_guessOf 7 = .ok (.getfield 42, 3) := by decide +kernel
theorem dX3_guessOf_10 : decode cX3_guessOf 10 = .ok (.iload_n 2, 1) := by decide +kernel
theorem dX3_guessOf_11 : decode cX3_guessOf 11 = .ok (.iaload, 1) := by decide +kernel
theorem dX3_guessOf_12 : decode cX3_guessOf 12 = .ok (.iaload, 1) := by decide +kernel
theorem dX3_guessOf_13 : decode cX3_guessOf 13 = .ok (.aload_n 0, 1) := by decide +kernel
theorem dX3_guessOf_14 : decode cX3_guessOf 14 = .ok (.getfield 15, 3) := by decide +kernel
theorem dX3_guessOf_17 : decode cX3_guessOf 17 = .ok (.aload_n 1, 1) := by decide +kernel
theorem dX3_guessOf_18 : decode cX3_guessOf 18 = .ok (.getfield 47, 3) := by decide +kernel
theorem dX3_guessOf_21 : decode cX3_guessOf 21 = .ok (.iload_n 2, 1) := by decide +kernel
theorem dX3_guessOf_22 : decode cX3_guessOf 22 = .ok (.iaload, 1) := by decide +kernel
theorem dX3_guessOf_23 : decode cX3_guessOf 23 = .ok (.iaload, 1) := by decide +kernel
theorem dX3_guessOf_24 : decode cX3_guessOf 24 = .ok (.invokevirtual 50, 3) := by decide +kernel
theorem dX3_guessOf_27 : decode cX3_guessOf 27 = .ok (.ireturn, 1) := by decide +kernel
theorem dX3_keep_37 : decode cX3_keep 37 = .ok (.aload_n 0, 1) := by decide +kernel
theorem dX3_keep_38 : decode cX3_keep 38 = .ok (.dup, 1) := by decide +kernel
theorem dX3_keep_39 : decode cX3_keep 39 = .ok (.getfield 22, 3) := by decide +kernel
theorem dX3_keep_42 : decode cX3_keep 42 = .ok (.iconst 1, 1) := by decide +kernel
theorem dX3_keep_43 : decode cX3_keep 43 = .ok (.iload_n 1, 1) := by decide +kernel
theorem dX3_keep_44 : decode cX3_keep 44 = .ok (.ishl, 1) := by decide +kernel
theorem dX3_keep_45 : decode cX3_keep 45 = .ok (.ior, 1) := by decide +kernel
theorem dX3_keep_46 : decode cX3_keep 46 = .ok (.putfield 22, 3) := by decide +kernel
theorem dX3_keep_49 : decode cX3_keep 49 = .ok (.aload_n 0, 1) := by decide +kernel
theorem dX3_keep_50 : decode cX3_keep 50 = .ok (.aload_n 0, 1) := by decide +kernel
theorem dX3_keep_51 : decode cX3_keep 51 = .ok (.getfield 25, 3) := by decide +kernel
theorem dX3_keep_54 : decode cX3_keep 54 = .ok (.iconst 1, 1) := by decide +kernel
theorem dX3_keep_55 : decode cX3_keep 55 = .ok (.iload_n 1, 1) := by decide +kernel
theorem dX3_keep_56 : decode cX3_keep 56 = .ok (.ishl, 1) := by decide +kernel
theorem dX3_keep_57 : decode cX3_keep 57 = .ok (.iconst (-1), 1) := by decide +kernel
theorem dX3_keep_58 : decode cX3_keep 58 = .ok (.ixor, 1) := by decide +kernel
theorem dX3_keep_59 : decode cX3_keep 59 = .ok (.iand, 1) := by decide +kernel
theorem dX3_keep_60 : decode cX3_keep 60 = .ok (.iload_n 2, 1) := by decide +kernel
theorem dX3_keep_61 : decode cX3_keep 61 = .ok (.iload_n 1, 1) := by decide +kernel
theorem dX3_keep_62 : decode cX3_keep 62 = .ok (.ishl, 1) := by decide +kernel
theorem dX3_keep_63 : decode cX3_keep 63 = .ok (.ior, 1) := by decide +kernel
theorem dX3_keep_64 : decode cX3_keep 64 = .ok (.putfield 25, 3) := by decide +kernel
theorem dX3_keep_67 : decode cX3_keep 67 = .ok (.return_, 1) := by decide +kernel
theorem dX3_keep_0 : decode cX3_keep 0 = .ok (.aload_n 0, 1) := by decide +kernel
theorem dX3_keep_1 : decode cX3_keep 1 = .ok (.iload_n 1, 1) := by decide +kernel
theorem dX3_keep_2 : decode cX3_keep 2 = .ok (.invokevirtual 38, 3) := by decide +kernel
theorem dX3_keep_5 : decode cX3_keep 5 = .ok (.ifCond .ne 32, 3) := by decide +kernel
theorem dX3_keep_8 : decode cX3_keep 8 = .ok (.aload_n 0, 1) := by decide +kernel
theorem dX3_keep_9 : decode cX3_keep 9 = .ok (.getfield 18, 3) := by decide +kernel
theorem dX3_keep_12 : decode cX3_keep 12 = .ok (.bipush 28, 2) := by decide +kernel
theorem dX3_keep_14 : decode cX3_keep 14 = .ok (.if_icmp .ge 23, 3) := by decide +kernel
theorem dX3_keep_17 : decode cX3_keep 17 = .ok (.aload_n 0, 1) := by decide +kernel
theorem dX3_keep_18 : decode cX3_keep 18 = .ok (.getfield 9, 3) := by decide +kernel
theorem dX3_keep_21 : decode cX3_keep 21 = .ok (.aload_n 0, 1) := by decide +kernel
theorem dX3_keep_22 : decode cX3_keep 22 = .ok (.getfield 18, 3) := by decide +kernel
theorem dX3_keep_25 : decode cX3_keep 25 = .ok (.iload_n 1, 1) := by decide +kernel
theorem dX3_keep_26 : decode cX3_keep 26 = .ok (.iastore, 1) := by decide +kernel
theorem dX3_keep_27 : decode cX3_keep 27 = .ok (.aload_n 0, 1) := by decide +kernel
theorem dX3_keep_28 : decode cX3_keep 28 = .ok (.dup, 1) := by decide +kernel
theorem dX3_keep_29 : decode cX3_keep 29 = .ok (.getfield 18, 3) := by decide +kernel
theorem dX3_keep_32 : decode cX3_keep 32 = .ok (.iconst 1, 1) := by decide +kernel
theorem dX3_keep_33 : decode cX3_keep 33 = .ok (.iadd, 1) := by decide +kernel
theorem dX3_keep_34 : decode cX3_keep 34 = .ok (.putfield 18, 3) := by decide +kernel
/-! who listens: how many were heard, which, their bits, weights -/
abbrev zG : Type := Nat × (Nat → Nat) × (Nat → Bool) × (Nat → Int32)
abbrev gN (L : zG) : Nat := L.1
abbrev gP (L : zG) : Nat → Nat := L.2.1
abbrev gB (L : zG) : Nat → Bool := L.2.2.1
abbrev gW (L : zG) : Nat → Int32 := L.2.2.2
def gIx (L : zG) (p : Nat) : Nat := fa_first (fun i => decide (gP L i = p)) (gN L)
def gH (L : zG) (p : Nat) : Bool := decide (gIx L p < gN L)
def gV (L : zG) (p : Nat) : Bool := gB L (gIx L p)
theorem gIx_le (L : zG) (p : Nat) : gIx L p ≤ gN L := fa_first_le _ _
theorem gIx_yes {L : zG} {p : Nat} (h : gH L p = true) : gIx L p < gN L ∧ gP L (gIx L p) = p := by
  have h1 : gIx L p < gN L := of_decide_eq_true h
  exact ⟨h1, of_decide_eq_true (fa_first_yes _ _ h1)⟩
theorem gIx_no {L : zG} {p : Nat} (h : gH L p = false) : ∀ i, i < gN L → gP L i ≠ p := by
  intro i hi
  have h1 : ¬ gIx L p < gN L := of_decide_eq_false h
  have h2 := fa_first_no (fun i => decide (gP L i = p)) (gN L) i (by have := gIx_le L p; unfold gIx at *; omega)
  exact of_decide_eq_false h2
theorem gH_of {L : zG} {p i : Nat} (hi : i < gN L) (hp : gP L i = p) : gH L p = true := by
  cases hz : gH L p with
  | true => rfl
  | false => exact absurd hp (gIx_no hz i hi)
/-- no pair twice -/
def gInj (L : zG) : Prop := ∀ i j, i < gN L → j < gN L → gP L i = gP L j → i = j
theorem gIx_at {L : zG} (hj : gInj L) {i : Nat} (hi : i < gN L) : gIx L (gP L i) = i ∧ gH L (gP L i) = true := by
  have h1 := gH_of hi rfl
  obtain ⟨h2, h3⟩ := gIx_yes h1
  exact ⟨hj _ _ h2 hi h3, h1⟩
/-- the listener at l holds L -/
def rpL (L : zG) (h : zH) (l : Nat) : Prop :=
  (h.1 l 0 = nI (gN L) ∧ gN L ≤ 28) ∧ (∀ i, i < gN L → h.1 (l + 1) i = nI (gP L i) ∧ gP L i < 28) ∧ (∃ M V : Nat, h.1 l 2 = nI M ∧ h.1 l 3 = nI V ∧ M < 2 ^ 28 ∧ V < 2 ^ 28 ∧ (∀ p, p < 28 → M.testBit p = gH L p) ∧ ∀ p, p < 28 → gH L p = true → V.testBit p = gV L p) ∧ ∀ r, r < 10 → h.1 (l + 2) r = gW L r
theorem rpL_cg {L : zG} {h h' : zH} {l : Nat} (h0 : h'.1 l = h.1 l) (h1 : h'.1 (l + 1) = h.1 (l + 1)) (h2 : h'.1 (l + 2) = h.1 (l + 2)) (hL : rpL L h l) : rpL L h' l := by
  unfold rpL at hL ⊢
  rw [h0, h1, h2]
  exact hL
theorem rpL_fr {L : zG} {h : zH} {l q : Nat} {f : Nat → Int32} (hq : q < l ∨ l + 3 ≤ q) (hL : rpL L h l) : rpL L (zsW h q f) l := rpL_cg (zsW_n _ _ (by omega)) (zsW_n _ _ (by omega)) (zsW_n _ _ (by omega)) hL
def ca_X3_hasHeard : (zG × Nat × Nat) → List zV := fun (L, l, p) => [vR 12 0 l, vI (nI p)]
def cp_X3_hasHeard : (zG × Nat × Nat) → zH → Prop := fun (L, l, p) h => rpL L h l ∧ p < 28
def cf_X3_hasHeard : (zG × Nat × Nat) → zH → Int32 := fun (L, l, p) _ => bI (gH L p)
theorem rc_X3_hasHeard : ∀ x : (zG × Nat × Nat), ∃ (j a : Nat) (As : List zV), ca_X3_hasHeard x = vR (10 + 2) j a :: As := by
  rintro ⟨L, l, p⟩
  exact ⟨_, _, _, rfl⟩
set_option maxHeartbeats 4000000 in
set_option maxRecDepth 100000 in
theorem m_X3_hasHeard : zM yX3_hasHeard cX3_hasHeard 2 (some .boolean) ({ frames := 1, cells := 0, slots := 0, locals := 21 } : Room) (zcI ca_X3_hasHeard cp_X3_hasHeard cf_X3_hasHeard) := by
  refine zM_of (by decide) ?_
  rintro X Y ⟨L, l, p⟩ h ⟨hL, hp⟩ O E hR
  have B_17 := zr_zreturn (X := X) (Y := Y) (u := 0) (v := 0) O E (Nat.le_refl _) (Nat.le_refl _) dX3_hasHeard_17
  have B_16 := zr_iconst (X := X) (Y := Y) (u := 0) (v := 0) (x := 0) O dX3_hasHeard_16 rfl (B_17)
  have B_0 := zr_aload_n (X := X) (Y := Y) (u := 0) (v := 0) O dX3_hasHeard_0 rfl (zr_gI (ci := 2) (j := 2) O zc_2 (by decide) rfl tw_155 dX3_hasHeard_1 (zr_iload_n O dX3_hasHeard_4 rfl (zr_cI (zr_cSN (n := 2) O m_X10_bitIn (bn_X10_bitIn _ ⟨rfl, rfl⟩) tw_374 wn_RX3_34 (zrm hR rfl rfl) dX3_hasHeard_5 (zr_iconst (x := 1) O dX3_hasHeard_8 rfl (zr_icne (tgt := 16) O dX3_hasHeard_9 rfl B_16 (zr_iconst (x := 1) O dX3_hasHeard_12 rfl (zr_goto (tgt := 17) O dX3_hasHeard_13 rfl B_17))))))))
  refine ⟨rfl, Nat.le_of_ble_eq_true rfl, _, B_0, ?_⟩
  obtain ⟨M, V, m1, m2, m3, m4, m5, m6⟩ := hL.2.2.1
  have e2 : (h.1 l 2 >>> (nI p &&& 31)) &&& 1 = bI (gH L p) := by rw [m1, bI_in (by omega) (by omega), m5 p hp]
  refine ⟨(_, _), rfl, trivial, fun cq => ⟨Or.inl rfl, zri ?_, rfl⟩, fun cq => ⟨Or.inr rfl, zri ?_, rfl⟩⟩
  · replace cq : ¬ (h.1 l 2 >>> (nI p &&& 31)) &&& 1 = 1 := cq
    rw [e2, bI_1] at cq
    exact ((bI_0 _).mpr (by simpa using cq)).symm
  · replace cq : (h.1 l 2 >>> (nI p &&& 31)) &&& 1 = 1 := cq
    rw [e2] at cq
    exact cq.symm
def ghb (L : zG) (p : Nat) : Int32 := if gH L p then bI (gV L p) else -1
def ca_X3_heardBitOf : (zG × Nat × Nat) → List zV := fun (L, l, p) => [vR 12 0 l, vI (nI p)]
def cp_X3_heardBitOf : (zG × Nat × Nat) → zH → Prop := fun (L, l, p) h => rpL L h l ∧ p < 28
def cf_X3_heardBitOf : (zG × Nat × Nat) → zH → Int32 := fun (L, l, p) _ => ghb L p
theorem rc_X3_heardBitOf : ∀ x : (zG × Nat × Nat), ∃ (j a : Nat) (As : List zV), ca_X3_heardBitOf x = vR (10 + 2) j a :: As := by
  rintro ⟨L, l, p⟩
  exact ⟨_, _, _, rfl⟩
set_option maxHeartbeats 4000000 in
set_option maxRecDepth 100000 in
theorem m_X3_heardBitOf : zM yX3_heardBitOf cX3_heardBitOf 2 (some .int) ({ frames := 2, cells := 0, slots := 0, locals := 42 } : Room) (zcI ca_X3_heardBitOf cp_X3_heardBitOf cf_X3_heardBitOf) := by
  refine zM_of (by decide) ?_
  rintro X Y ⟨L, l, p⟩ h ⟨hL, hp⟩ O E hR
  have B_20 := zr_ireturn (X := X) (Y := Y) (u := 0) (v := 0) O E (Nat.le_refl _) (Nat.le_refl _) dX3_heardBitOf_20
  have B_19 := zr_iconst (X := X) (Y := Y) (u := 0) (v := 0) (x := (-1)) O dX3_heardBitOf_19 rfl (B_20)
  have B_0 := zr_aload_n (X := X) (Y := Y) (u := 0) (v := 0) O dX3_heardBitOf_0 rfl (zr_iload_n O dX3_heardBitOf_1 rfl (zr_cI (zr_cV (ci := 2) (n := 1) O m_X3_hasHeard (bn_X3_hasHeard _ ⟨rfl, rfl⟩) vw_X3_hasHeard tw_369 rc_X3_hasHeard (zrm hR rfl rfl) dX3_heardBitOf_2 (zr_ifeq (tgt := 19) O dX3_heardBitOf_5 rfl B_19 (zr_aload_n O dX3_heardBitOf_8 rfl (zr_gI (ci := 2) (j := 3) O zc_2 (by decide) rfl tw_156 dX3_heardBitOf_9 (zr_iload_n O dX3_heardBitOf_12 rfl (zr_cI (zr_cSN (n := 2) O m_X10_bitIn (bn_X10_bitIn _ ⟨rfl, rfl⟩) tw_374 wn_RX3_34 (zrm hR rfl rfl) dX3_heardBitOf_13 (zr_goto (tgt := 20) O dX3_heardBitOf_16 rfl B_20))))))))))
  refine ⟨rfl, Nat.le_of_ble_eq_true rfl, _, B_0, ?_⟩
  obtain ⟨M, V, m1, m2, m3, m4, m5, m6⟩ := hL.2.2.1
  refine ⟨(L, l, p), rfl, ⟨hL, hp⟩, fun cq => ⟨zri ?_, rfl⟩, fun cq => ⟨(_, _), rfl, trivial, zri ?_, rfl⟩⟩
  · have hz : gH L p = false := (bI_0 _).mp cq
    show (-1 : Int32) = ghb L p
    rw [ghb, hz]
    rfl
  · have hz : gH L p = true := by
      cases hz : gH L p with
      | true => rfl
      | false => exact absurd ((bI_0 _).mpr hz) cq
    show (h.1 l 3 >>> (nI p &&& 31)) &&& 1 = ghb L p
    rw [ghb, hz, m2, bI_in (by omega) (by omega), m6 p hp hz]
    rfl
/-- a guess -/
def gss (S : zD) (W : Nat → Int32) (p : Nat) : Int32 := bby (W (dF S p)) (W (dS S p)) (dF S p) (dS S p)
def ca_X3_guessOf : (zD × zG × Nat × Nat × Nat) → List zV := fun (S, L, l, a, p) => [vR 12 0 l, vR 15 0 a, vI (nI p)]
def cp_X3_guessOf : (zD × zG × Nat × Nat × Nat) → zH → Prop := fun (S, L, l, a, p) h => rpS S h a ∧ (∀ r, r < 10 → h.1 (l + 2) r = gW L r) ∧ p < dP S
def cf_X3_guessOf : (zD × zG × Nat × Nat × Nat) → zH → Int32 := fun (S, L, l, a, p) _ => gss S (gW L) p
theorem rc_X3_guessOf : ∀ x : (zD × zG × Nat × Nat × Nat), ∃ (j a : Nat) (As : List zV), ca_X3_guessOf x = vR (10 + 2) j a :: As := by
  rintro ⟨S, L, l, a, p⟩
  exact ⟨_, _, _, rfl⟩
set_option maxHeartbeats 4000000 in
set_option maxRecDepth 100000 in
theorem m_X3_guessOf : zM yX3_guessOf cX3_guessOf 3 (some .int) ({ frames := 1, cells := 0, slots := 0, locals := 23 } : Room) (zcI ca_X3_guessOf cp_X3_guessOf cf_X3_guessOf) := by
  refine zM_of (by decide) ?_
  rintro X Y ⟨S, L, l, a, p⟩ h ⟨hS, hW, hp⟩ O E hR
  have B_0 := zr_aload_n (X := X) (Y := Y) (u := 0) (v := 0) O dX3_guessOf_0 rfl (zr_iload_n O dX3_guessOf_1 rfl (zr_aload_n O dX3_guessOf_2 rfl (zr_gS (ci := 2) (j := 4) (off := 2) (t := 1) (n := 10) O zc_2 (by decide) rfl tw_157 dX3_guessOf_3 (zr_aload_n O dX3_guessOf_6 rfl (zr_gS (ci := 5) (j := 5) (off := 4) (t := 1) (n := 28) O zc_5 (by decide) rfl tw_64 dX3_guessOf_7 (zr_iload_n O dX3_guessOf_10 rfl (zr_iald O dX3_guessOf_11 (zr_iald O dX3_guessOf_12 (zr_aload_n O dX3_guessOf_13 rfl (zr_gS (ci := 2) (j := 4) (off := 2) (t := 1) (n := 10) O zc_2 (by decide) rfl tw_157 dX3_guessOf_14 (zr_aload_n O dX3_guessOf_17 rfl (zr_gS (ci := 5) (j := 6) (off := 5) (t := 1) (n := 28) O zc_5 (by decide) rfl tw_71 dX3_guessOf_18 (zr_iload_n O dX3_guessOf_21 rfl (zr_iald O dX3_guessOf_22 (zr_iald O dX3_guessOf_23 (zr_cI (zr_cV (ci := 5) (n := 3) O m_X6_bitFrom (bn_X6_bitFrom _ ⟨rfl, rfl⟩) vw_X6_bitFrom tw_851 rc_X6_bitFrom (zrm hR rfl rfl) dX3_guessOf_24 (zr_ireturn O E (Nat.le_refl _) (Nat.le_refl _) dX3_guessOf_27))))))))))))))))))
  refine ⟨rfl, Nat.le_of_ble_eq_true rfl, _, B_0, ?_⟩
  obtain ⟨⟨f1, f2⟩, s1, s2⟩ := hS.2.2.2.1 p hp
  have hN := hS.1.2
  have hp28 : p < 28 := Nat.lt_of_lt_of_le hp hS.2.1.2
  refine ⟨p, rfl, hp28, dF S p, f1, by omega, p, rfl, hp28, dS S p, s1, by omega, (S, a, p, _, _), rfl, ⟨hS, hp⟩, zri ?_, rfl⟩
  show bby (h.1 (l + 2) (dF S p)) (h.1 (l + 2) (dS S p)) _ _ = gss S (gW L) p
  rw [hW _ (by omega), hW _ (by omega)]
  rfl
/-- a bit is heard -/
def gkp (L : zG) (p : Nat) (b : Bool) : zG := if gH L p then (gN L, gP L, va_up (gB L) (gIx L p) b, gW L) else (gN L + 1, va_up (gP L) (gN L) p, va_up (gB L) (gN L) b, gW L)
theorem gkp_ix {L : zG} {p q : Nat} {b : Bool} : gH (gkp L p b) q = (gH L q || decide (q = p)) ∧ (gH (gkp L p b) q = true → gV (gkp L p b) q = if q = p then b else gV L q) := by
  unfold gkp
  by_cases hp : gH L p = true
  · rw [if_pos hp]
    have e : gIx (gN L, gP L, va_up (gB L) (gIx L p) b, gW L) q = gIx L q := rfl
    refine ⟨?_, fun hq => ?_⟩
    · show gH L q = _
      by_cases hqp : q = p
      · rw [hqp, hp]; rfl
      · simp [hqp]
    · show va_up (gB L) (gIx L p) b (gIx L q) = _
      by_cases hqp : q = p
      · rw [hqp, zup_s, if_pos rfl]
      · have hq2 : gH L q = true := hq
        have hne : gIx L q ≠ gIx L p := fun z => hqp (by rw [← (gIx_yes hq2).2, z, (gIx_yes hp).2])
        rw [zup_n _ _ hne, if_neg hqp]
        rfl
  · have hp' : gH L p = false := by simpa using hp
    rw [if_neg hp]
    have hx : ∀ i, i < gN L → va_up (gP L) (gN L) p i = gP L i := fun i hi => zup_n _ _ (by omega)
    by_cases hq : gH L q = true
    · obtain ⟨i1, i2⟩ := gIx_yes hq
      have hqp : q ≠ p := fun z => by rw [z] at hq; exact hp hq
      have hlt : gIx L q < gIx L q + 1 := by omega
      have e : gIx (gN L + 1, va_up (gP L) (gN L) p, va_up (gB L) (gN L) b, gW L) q = gIx L q := by
        have e0 : fa_first (fun i => decide (va_up (gP L) (gN L) p i = q)) (gN L) = fa_first (fun i => decide (gP L i = q)) (gN L) := by
          have gen : ∀ n, n ≤ gN L → fa_first (fun i => decide (va_up (gP L) (gN L) p i = q)) n = fa_first (fun i => decide (gP L i = q)) n := by
            intro n
            induction n with
            | zero => intro _; rfl
            | succ n ih =>
              intro hn
              have ih := ih (by omega)
              have e1 := hx n (by omega)
              show (if fa_first (fun i => decide (va_up (gP L) (gN L) p i = q)) n < n then fa_first (fun i => decide (va_up (gP L) (gN L) p i = q)) n else if decide (va_up (gP L) (gN L) p n = q) then n else n + 1) = (if fa_first (fun i => decide (gP L i = q)) n < n then fa_first (fun i => decide (gP L i = q)) n else if decide (gP L n = q) then n else n + 1)
              rw [ih, e1]
          exact gen _ (Nat.le_refl _)
        show (if fa_first _ (gN L) < gN L then fa_first _ (gN L) else _) = _
        rw [e0]
        exact if_pos i1
      have h1 : gH (gN L + 1, va_up (gP L) (gN L) p, va_up (gB L) (gN L) b, gW L) q = true := by
        show decide (gIx _ q < gN L + 1) = true
        rw [e]; exact decide_eq_true (by omega)
      refine ⟨by rw [h1, hq]; rfl, fun _ => ?_⟩
      show va_up (gB L) (gN L) b (gIx _ q) = _
      rw [e, zup_n _ _ (by omega), if_neg hqp]
      rfl
    · have hq' : gH L q = false := by simpa using hq
      have hno := gIx_no hq'
      have e0 : fa_first (fun i => decide (va_up (gP L) (gN L) p i = q)) (gN L) = gN L := by
        have h1 := fa_first_le (fun i => decide (va_up (gP L) (gN L) p i = q)) (gN L)
        rcases Nat.lt_or_ge (fa_first (fun i => decide (va_up (gP L) (gN L) p i = q)) (gN L)) (gN L) with h2 | h2
        · have h3 := of_decide_eq_true (fa_first_yes _ _ h2)
          rw [hx _ h2] at h3
          exact absurd h3 (hno _ h2)
        · omega
      have e : gIx (gN L + 1, va_up (gP L) (gN L) p, va_up (gB L) (gN L) b, gW L) q = if p = q then gN L else gN L + 1 := by
        show (if fa_first _ (gN L) < gN L then _ else if decide (va_up (gP L) (gN L) p (gN L) = q) then gN L else gN L + 1) = _
        rw [e0, if_neg (Nat.lt_irrefl _), zup_s]
        simp
      by_cases hqp : q = p
      · subst hqp
        rw [if_pos rfl] at e
        have h1 : gH (gN L + 1, va_up (gP L) (gN L) q, va_up (gB L) (gN L) b, gW L) q = true := by
          show decide (gIx _ q < gN L + 1) = true
          rw [e]; exact decide_eq_true (by omega)
        refine ⟨by rw [h1]; simp, fun _ => ?_⟩
        show va_up (gB L) (gN L) b (gIx _ q) = _
        rw [e, zup_s, if_pos rfl]
      · rw [if_neg (fun z => hqp z.symm)] at e
        have h1 : gH (gN L + 1, va_up (gP L) (gN L) p, va_up (gB L) (gN L) b, gW L) q = false := by
          show decide (gIx _ q < gN L + 1) = false
          rw [e]; exact decide_eq_false (by omega)
        refine ⟨by rw [h1, hq']; simp [hqp], fun z => by rw [h1] at z; cases z⟩
theorem gkp_inj {L : zG} {p : Nat} {b : Bool} (h : gInj L) : gInj (gkp L p b) := by
  unfold gkp
  by_cases hp : gH L p = true
  · rw [if_pos hp]; exact h
  · rw [if_neg hp]
    have hno := gIx_no (show gH L p = false by simpa using hp)
    intro i j hi hj hij
    have hi : i < gN L + 1 := hi
    have hj : j < gN L + 1 := hj
    have hij : va_up (gP L) (gN L) p i = va_up (gP L) (gN L) p j := hij
    by_cases h1 : i = gN L
    · by_cases h2 : j = gN L
      · omega
      · rw [h1, zup_s, zup_n _ _ h2] at hij
        exact absurd hij.symm (hno j (by omega))
    · by_cases h2 : j = gN L
      · rw [h2, zup_s, zup_n _ _ h1] at hij
        exact absurd hij (hno i (by omega))
      · rw [zup_n _ _ h1, zup_n _ _ h2] at hij
        exact h i j (by omega) (by omega) hij
theorem bit_or {M p q : Nat} : (M ||| 2 ^ p).testBit q = (M.testBit q || decide (q = p)) := fb_bit_set M p q
theorem and_not {V p : Nat} (hV : V < 2 ^ 28) (hp : p < 28) : nI V &&& (nI (2 ^ p) ^^^ (-1)) = nI (V &&& (2 ^ 28 - 1 - 2 ^ p)) := by
  have hp2 : 2 ^ p < 2 ^ 28 := Nat.pow_lt_pow_right (by omega) hp
  apply b_ext
  intro i hi
  have t : ∀ n : Nat, bt (nI n) i = n.testBit i := by
    intro n
    unfold bt nI
    show (BitVec.ofNat 32 n).getLsbD i = _
    rw [BitVec.getLsbD_ofNat]
    simp [hi]
  rw [b_and, b_xor, b_m1 i hi, t, t, t, Nat.testBit_and]
  by_cases hiV : V.testBit i = true
  · have hi28 : i < 28 := by
      rcases Nat.lt_or_ge i 28 with q | q
      · exact q
      · rw [Nat.testBit_lt_two_pow (Nat.lt_of_lt_of_le hV (Nat.pow_le_pow_right (by omega) q))] at hiV; cases hiV
    rw [hiV]
    have e := Nat.testBit_two_pow_sub_succ (x := 2 ^ p) (n := 28) hp2 i
    rw [show 2 ^ 28 - 1 - 2 ^ p = 2 ^ 28 - (2 ^ p + 1) by omega, e]
    simp [hi28]
  · have : V.testBit i = false := by simpa using hiV
    rw [this]; simp
theorem and_not_bit {V p q : Nat} (hp : p < 28) (hq : q < 28) : (V &&& (2 ^ 28 - 1 - 2 ^ p)).testBit q = (V.testBit q && decide (q ≠ p)) := by
  have hp2 : 2 ^ p < 2 ^ 28 := Nat.pow_lt_pow_right (by omega) hp
  have e := Nat.testBit_two_pow_sub_succ (x := 2 ^ p) (n := 28) hp2 q
  rw [Nat.testBit_and, show 2 ^ 28 - 1 - 2 ^ p = 2 ^ 28 - (2 ^ p + 1) by omega, e, Nat.testBit_two_pow]
  by_cases h : q = p
  · subst h; simp
  · have : ¬ p = q := fun z => h z.symm
    simp [hq, h, this]
def ca_X3_keep : (zG × Nat × Nat × Bool) → List zV := fun (L, l, p, b) => [vR 12 0 l, vI (nI p), vI (bI b)]
def cp_X3_keep : (zG × Nat × Nat × Bool) → zH → Prop := fun (L, l, p, b) h => rpL L h l ∧ p < 28 ∧ (gH L p = true ∨ gN L < 28)
def cq_X3_keep : (zG × Nat × Nat × Bool) → zH → Option zV → zH → Prop := fun (L, l, p, b) h r h' => r = none ∧ (∃ f g : Nat → Int32, h' = zsW (zsW h (l + 1) g) l f) ∧ rpL (gkp L p b) h' l
theorem rc_X3_keep : ∀ x : (zG × Nat × Nat × Bool), ∃ (j a : Nat) (As : List zV), ca_X3_keep x = vR (10 + 2) j a :: As := by
  rintro ⟨L, l, p, b⟩
  exact ⟨_, _, _, rfl⟩
set_option maxHeartbeats 4000000 in
set_option maxRecDepth 100000 in
theorem m_X3_keep : zM yX3_keep cX3_keep 3 none ({ frames := 2, cells := 0, slots := 0, locals := 42 } : Room) ((ca_X3_keep, cp_X3_keep, cq_X3_keep) : zC (zG × Nat × Nat × Bool)) := by
  refine zM_of (by decide) ?_
  rintro X Y ⟨L, l, p, b⟩ h ⟨hL, hp, hn⟩ O E hR
  have B_37 := zr_aload_n (X := X) (Y := Y) (u := 0) (v := 0) O dX3_keep_37 rfl (zr_dup O dX3_keep_38 (zr_gI (ci := 2) (j := 2) O zc_2 (by decide) rfl tw_155 dX3_keep_39 (zr_iconst (x := 1) O dX3_keep_42 rfl (zr_iload_n O dX3_keep_43 rfl (zr_ishl O dX3_keep_44 (zr_ior O dX3_keep_45 (zr_pI (ci := 2) (j := 2) O zc_2 (by decide) rfl rfl rfl tw_155 dX3_keep_46 (zr_aload_n O dX3_keep_49 rfl (zr_aload_n O dX3_keep_50 rfl (zr_gI (ci := 2) (j := 3) O zc_2 (by decide) rfl tw_156 dX3_keep_51 (zr_iconst (x := 1) O dX3_keep_54 rfl (zr_iload_n O dX3_keep_55 rfl (zr_ishl O dX3_keep_56 (zr_iconst (x := (-1)) O dX3_keep_57 rfl (zr_ixor O dX3_keep_58 (zr_iand O dX3_keep_59 (zr_iload_n O dX3_keep_60 rfl (zr_iload_n O dX3_keep_61 rfl (zr_ishl O dX3_keep_62 (zr_ior O dX3_keep_63 (zr_pI (ci := 2) (j := 3) O zc_2 (by decide) rfl rfl rfl tw_156 dX3_keep_64 (zr_return O E (Nat.le_refl _) (Nat.le_refl _) dX3_keep_67))))))))))))))))))))))
  have B_0 := zr_aload_n (X := X) (Y := Y) (u := 0) (v := 0) O dX3_keep_0 rfl (zr_iload_n O dX3_keep_1 rfl (zr_cI (zr_cV (ci := 2) (n := 1) O m_X3_hasHeard (bn_X3_hasHeard _ ⟨rfl, rfl⟩) vw_X3_hasHeard tw_369 rc_X3_hasHeard (zrm hR rfl rfl) dX3_keep_2 (zr_ifne (tgt := 37) O dX3_keep_5 rfl B_37 (zr_aload_n O dX3_keep_8 rfl (zr_gI (ci := 2) (j := 0) O zc_2 (by decide) rfl tw_152 dX3_keep_9 (zr_bipush (x := (28)) O dX3_keep_12 (by decide) (zr_icge (tgt := 37) O dX3_keep_14 rfl B_37 (zr_aload_n O dX3_keep_17 rfl (zr_gS (ci := 2) (j := 1) (off := 1) (t := 1) (n := 28) O zc_2 (by decide) rfl tw_154 dX3_keep_18 (zr_aload_n O dX3_keep_21 rfl (zr_gI (ci := 2) (j := 0) O zc_2 (by decide) rfl tw_152 dX3_keep_22 (zr_iload_n O dX3_keep_25 rfl (zr_iast O dX3_keep_26 (zr_aload_n O dX3_keep_27 rfl (zr_dup O dX3_keep_28 (zr_gI (ci := 2) (j := 0) O zc_2 (by decide) rfl tw_152 dX3_keep_29 (zr_iconst (x := 1) O dX3_keep_32 rfl (zr_iadd O dX3_keep_33 (zr_pI (ci := 2) (j := 0) O zc_2 (by decide) rfl rfl rfl tw_152 dX3_keep_34 (B_37)))))))))))))))))))))
  refine ⟨rfl, Nat.le_of_ble_eq_true rfl, _, B_0, ?_⟩
  obtain ⟨M, V, m1, m2, m3, m4, m5, m6⟩ := id hL.2.2.1
  have hp2 : 2 ^ p < 2 ^ 28 := Nat.pow_lt_pow_right (by omega) hp
  have eM : nI M ||| ((1 : Int32) <<< (nI p &&& 31)) = nI (M ||| 2 ^ p) := by rw [nI_pow (by omega), fa_or]
  have eV : (nI V &&& (((1 : Int32) <<< (nI p &&& 31)) ^^^ (-1))) ||| (bI b <<< (nI p &&& 31)) = nI ((V &&& (2 ^ 28 - 1 - 2 ^ p)) ||| (if b then 2 ^ p else 0)) := by
    rw [nI_pow (by omega), and_not m4 hp]
    cases b with
    | true =>
      show _ ||| ((1 : Int32) <<< (nI p &&& 31)) = _
      rw [nI_pow (by omega), fa_or]
      rfl
    | false =>
      show _ ||| (nI 0 <<< (nI p &&& 31)) = _
      rw [shlI (by omega) (by omega), Nat.zero_mul, fa_or]
      rfl
  have lM : M ||| 2 ^ p < 2 ^ 28 := or_lt m3 hp2
  have lV : (V &&& (2 ^ 28 - 1 - 2 ^ p)) ||| (if b then 2 ^ p else 0) < 2 ^ 28 := or_lt (Nat.lt_of_le_of_lt Nat.and_le_left m4) (by split <;> omega)
  have bM : ∀ q, q < 28 → (M ||| 2 ^ p).testBit q = gH (gkp L p b) q := fun q hq => by rw [bit_or, m5 q hq, gkp_ix.1]
  have bV : ∀ q, q < 28 → gH (gkp L p b) q = true → ((V &&& (2 ^ 28 - 1 - 2 ^ p)) ||| (if b then 2 ^ p else 0)).testBit q = gV (gkp L p b) q := by
    intro q hq hH
    rw [gkp_ix.2 hH, Nat.testBit_or, and_not_bit hp hq]
    have hH2 := gkp_ix (L := L) (p := p) (q := q) (b := b)
    rw [hH] at hH2
    by_cases hqp : q = p
    · subst hqp
      cases b <;> simp
    · have : gH L q = true := by
        have := hH2.1
        simp [hqp] at this
        exact this
      have e0 : (if b = true then 2 ^ p else 0).testBit q = false := by
        cases b
        · simp
        · rw [if_pos rfl, Nat.testBit_two_pow]
          simp
          exact fun z => hqp z.symm
      rw [e0, m6 q hq this, if_neg hqp]
      simp [hqp]
  refine ⟨(L, l, p), rfl, ⟨hL, hp⟩, fun cq => ?_, fun cq => ?_⟩
  · have hH : gH L p = true := by
      cases hz : gH L p with
      | true => rfl
      | false => exact absurd ((bI_0 _).mpr hz) cq
    refine ⟨rfl, ⟨va_up (va_up (h.1 l) 2 (nI (M ||| 2 ^ p))) 3 (nI ((V &&& (2 ^ 28 - 1 - 2 ^ p)) ||| (if b then 2 ^ p else 0))), h.1 (l + 1), ?_⟩, ?_⟩
    · rw [zsW_self, m1, eM, zsI_W, zsI_W, zsW_s, zsW_W, zup_n _ _ (by decide : (3 : Nat) ≠ 2), m2, eV]
    · have eg : gkp L p b = (gN L, gP L, va_up (gB L) (gIx L p) b, gW L) := by rw [gkp, if_pos hH]
      rw [m1, eM, zsI_W, zsI_W, zsW_s, zsW_W, zup_n _ _ (by decide : (3 : Nat) ≠ 2), m2, eV]
      refine ⟨⟨?_, ?_⟩, ?_, ⟨_, _, ?_, ?_, lM, lV, bM, bV⟩, ?_⟩
      · rw [zsW_s, zup_n _ _ (by decide : (0 : Nat) ≠ 3), zup_n _ _ (by decide : (0 : Nat) ≠ 2), eg]; exact hL.1.1
      · rw [eg]; exact hL.1.2
      · rw [eg, zsW_n _ _ (by omega)]; exact hL.2.1
      · rw [zsW_s, zup_n _ _ (by decide : (2 : Nat) ≠ 3), zup_s]
      · rw [zsW_s, zup_s]
      · rw [eg, zsW_n _ _ (by omega)]; exact hL.2.2.2
  · have hH : gH L p = false := (bI_0 _).mp cq
    have hlt : gN L < 28 := by
      rcases hn with z | z
      · rw [hH] at z; cases z
      · exact z
    have eg : gkp L p b = (gN L + 1, va_up (gP L) (gN L) p, va_up (gB L) (gN L) b, gW L) := by rw [gkp, if_neg (by simp [hH])]
    refine ⟨fun dq => ?_, fun dq => ?_⟩
    · rw [hL.1.1] at dq
      exact absurd ((nI_leI (a := 28) (by omega) (by omega)).mp dq) (by omega)
    · refine ⟨gN L, hL.1.1, hlt, rfl, ⟨va_up (va_up (va_up (h.1 l) 0 (nI (gN L) + 1)) 2 (nI (M ||| 2 ^ p))) 3 (nI ((V &&& (2 ^ 28 - 1 - 2 ^ p)) ||| (if b then 2 ^ p else 0))), va_up (h.1 (l + 1)) (gN L) (nI p), ?_⟩, ?_⟩
      · simp only [zsI_W, zsW_W, zsW_s, zsW_n (q := l) (a := l + 1) _ _ (by omega), zup_n _ _ (by decide : (2 : Nat) ≠ 0), zup_n _ _ (by decide : (3 : Nat) ≠ 2), zup_n _ _ (by decide : (3 : Nat) ≠ 0), m1, m2, eM, eV, hL.1.1]
      · simp only [zsI_W, zsW_W, zsW_s, zsW_n (q := l) (a := l + 1) _ _ (by omega), zup_n _ _ (by decide : (2 : Nat) ≠ 0), zup_n _ _ (by decide : (3 : Nat) ≠ 2), zup_n _ _ (by decide : (3 : Nat) ≠ 0), m1, m2, eM, eV, hL.1.1]
        refine ⟨⟨?_, ?_⟩, fun i hi => ?_, ⟨_, _, ?_, ?_, lM, lV, bM, bV⟩, ?_⟩
        · rw [zsW_s, zup_n _ _ (by decide : (0 : Nat) ≠ 3), zup_n _ _ (by decide : (0 : Nat) ≠ 2), zup_s, eg, nI_1]
        · rw [eg]; exact hlt
        · rw [eg] at hi ⊢
          have hi : i < gN L + 1 := hi
          rw [zsW_n _ _ (by omega), zsW_s]
          show va_up (h.1 (l + 1)) (gN L) (nI p) i = nI (va_up (gP L) (gN L) p i) ∧ va_up (gP L) (gN L) p i < 28
          by_cases hi2 : i = gN L
          · rw [hi2, zup_s, zup_s]; exact ⟨rfl, hp⟩
          · rw [zup_n _ _ hi2, zup_n _ _ hi2]; exact hL.2.1 i (by omega)
        · rw [zsW_s, zup_n _ _ (by decide : (2 : Nat) ≠ 3), zup_s]
        · rw [zsW_s, zup_s]
        · rw [eg, zsW_n _ _ (by omega), zsW_n _ _ (by omega)]; exact hL.2.2.2

