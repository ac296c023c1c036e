theorem dX6_speedOf_0 : decode cX6_speedOf 0 = .ok (.aload_n 0, 1) := by decide +kernel
theorem dX6_speedOf_1 : decode cX6_speedOf 1 = .ok (.getfield 9, 3) := by decide +kernel
theorem dX6_speedOf_4 : decode cX6_speedOf 4 = .ok (.iload_n 1, 1) := by decide +kernel
theorem dX6_speedOf_5 : decode cX6_speedOf 5 = .ok (.iaload, 1) := by decide +kernel
theorem dX6_speedOf_6 : decode cX6_speedOf 6 = .ok (.aload_n 0, 1) := by decide +kernel
theorem dX6_speedOf_7 : decode cX6_speedOf 7 = .ok (.getfield 15, 3) := by decide +kernel
theorem dX6_speedOf_10 : decode cX6_speedOf 10 = .ok (.iload_n 1, 1) := by decide +kernel
theorem dX6_speedOf_11 : decode cX6_speedOf 11 = .ok (.iaload, 1) := by decide +kernel
theorem dX6_speedOf_12 : decode cX6_speedOf 12 = .ok (.iload_n 2, 1) := by decide +kernel
theorem dX6_speedOf_13 : decode cX6_speedOf 13 = .ok (.bipush 20, 2) := by decide +kernel
theorem dX6_speedOf_15 : decode cX6_speedOf 15 = .ok (.isub, 1) := by decide +kernel
theorem dX6_speedOf_16 : decode cX6_speedOf 16 = .ok (.imul, 1) := by decide +kernel
theorem dX6_speedOf_17 : decode cX6_speedOf 17 = .ok (.bipush 10, 2) := by decide +kernel
theorem dX6_speedOf_19 : decode cX6_speedOf 19 = .ok (.idiv, 1) := by decide +kernel
theorem dX6_speedOf_20 : decode cX6_speedOf 20 = .ok (.iadd, 1) := by decide +kernel
theorem dX6_speedOf_21 : decode cX6_speedOf 21 = .ok (.ireturn, 1) := by decide +kernel
theorem dX6_bitFrom_36 : decode cX6_bitFrom 36 = .ok (.ireturn, 1) := by decide +kernel
theorem dX6_bitFrom_35 : decode cX6_bitFrom 35 = .ok (.iconst 0, 1) := by decide +kernel
theorem dX6_bitFrom_26 : decode cX6_bitFrom 26 = .ok (.iload_n 2, 1) := by decide +kernel
theorem dX6_bitFrom_27 : decode cX6_bitFrom 27 = .ok (.iload_n 3, 1) := by decide +kernel
theorem dX6_bitFrom_28 : decode cX6_bitFrom 28 = .ok (.if_icmp .le 7, 3) := by decide +kernel
theorem dX6_bitFrom_31 : decode cX6_bitFrom 31 = .ok (.iconst 1, 1) := by decide +kernel
theorem dX6_bitFrom_32 : decode cX6_bitFrom 32 = .ok (.goto 4, 3) := by decide +kernel
theorem dX6_bitFrom_25 : decode cX6_bitFrom 25 = .ok (.ireturn, 1) := by decide +kernel
theorem dX6_bitFrom_24 : decode cX6_bitFrom 24 = .ok (.iconst 0, 1) := by decide +kernel
theorem dX6_bitFrom_0 : decode cX6_bitFrom 0 = .ok (.iload_n 2, 1) := by decide +kernel
theorem dX6_bitFrom_1 : decode cX6_bitFrom 1 = .ok (.iload_n 3, 1) := by decide +kernel
theorem dX6_bitFrom_2 : decode cX6_bitFrom 2 = .ok (.if_icmp .ne 24, 3) := by decide +kernel
theorem dX6_bitFrom_5 : decode cX6_bitFrom 5 = .ok (.aload_n 0, 1) := by decide +kernel
theorem dX6_bitFrom_6 : decode cX6_bitFrom 6 = .ok (.getfield 21, 3) := by decide +kernel
theorem dX6_bitFrom_9 : decode cX6_bitFrom 9 = .ok (.iload_n 1, 1) := by decide +kernel
theorem dX6_bitFrom_10 : decode cX6_bitFrom 10 = .ok (.iaload, 1) := by decide +kernel
theorem dX6_bitFrom_11 : decode cX6_bitFrom 11 = .ok (.aload_n 0, 1) := by decide +kernel
theorem dX6_bitFrom_12 : decode cX6_bitFrom 12 = .ok (.getfield 24, 3) := by decide +kernel
theorem dX6_bitFrom_15 : decode cX6_bitFrom 15 = .ok (.iload_n 1, 1) := by decide +kernel
theorem dX6_bitFrom_16 : decode cX6_bitFrom 16 = .ok (.iaload, 1) := by decide +kernel
theorem dX6_bitFrom_17 : decode cX6_bitFrom 17 = .ok (.if_icmp .ge 7, 3) := by decide +kernel
theorem dX6_bitFrom_20 : decode cX6_bitFrom 20 = .ok (.iconst 1, 1) := by decide +kernel
theorem dX6_bitFrom_21 : decode cX6_bitFrom 21 = .ok (.goto 4, 3) := by decide +kernel
theorem dX6_bitAt_0 : decode cX6_bitAt 0 = .ok (.aload_n 0, 1) := by decide +kernel
theorem dX6_bitAt_1 : decode cX6_bitAt 1 = .ok (.iload_n 1, 1) := by decide +kernel
theorem dX6_bitAt_2 : decode cX6_bitAt 2 = .ok (.aload_n 0, 1) := by decide +kernel
theorem dX6_bitAt_3 : decode cX6_bitAt 3 = .ok (.aload_n 0, 1) := by decide +kernel
theorem dX6_bitAt_4 : decode cX6_bitAt 4 = .ok (.getfield 21, 3) := by decide +kernel
theorem dX6_bitAt_7 : decode cX6_bitAt 7 = .ok (.iload_n 1, 1) := by decide +kernel
theorem dX6_bitAt_8 : decode cX6_bitAt 8 = .ok (.iaload, 1) := by decide +kernel
theorem dX6_bitAt_9 : decode cX6_bitAt 9 = .ok (.iload_n 2, 1) := by decide +kernel
theorem dX6_bitAt_10 : decode cX6_bitAt 10 = .ok (.invokevirtual 43, 3) := by decide +kernel
theorem dX6_bitAt_13 : decode cX6_bitAt 13 = .ok (.aload_n 0, 1) := by decide +kernel
theorem dX6_bitAt_14 : decode cX6_bitAt 14 = .ok (.aload_n 0, 1) := by decide +kernel
theorem dX6_bitAt_15 : decode cX6_bitAt 15 = .ok (.getfield 24, 3) := by decide +kernel
theorem dX6_bitAt_18 : decode cX6_bitAt 18 = .ok (.iload_n 1, 1) := by decide +kernel
theorem dX6_bitAt_19 : decode cX6_bitAt 19 = .ok (.iaload, 1) := by decide +kernel
theorem dX6_bitAt_20 : decode cX6_bitAt 20 = .ok (.iload_n 2, 1) := by decide +kernel
theorem dX6_bitAt_21 : decode cX6_bitAt 21 = .ok (.invokevirtual 43, 3) := by decide +kernel
theorem dX6_bitAt_24 : decode cX6_bitAt 24 = .ok (.invokevirtual 47, 3) := by decide +kernel
theorem dX6_bitAt_27 : decode cX6_bitAt 27 = .ok (.ireturn, 1) := by decide +kernel
theorem dX6_bitOf_0 : decode cX6_bitOf 0 = .ok (.aload_n 0, 1) := by decide +kernel
theorem dX6_bitOf_1 : decode cX6_bitOf 1 = .ok (.iload_n 1, 1) := by decide +kernel
theorem dX6_bitOf_2 : decode cX6_bitOf 2 = .ok (.aload_n 0, 1) := by decide +kernel
theorem dX6_bitOf_3 : decode cX6_bitOf 3 = .ok (.getfield 9, 3) := by decide +kernel
theorem dX6_bitOf_6 : decode cX6_bitOf 6 = .ok (.aload_n 0, 1) := by decide +kernel
theorem dX6_bitOf_7 : decode cX6_bitOf 7 = .ok (.getfield 21, 3) := by decide +kernel
theorem dX6_bitOf_10 : decode cX6_bitOf 10 = .ok (.iload_n 1, 1) := by decide +kernel
theorem dX6_bitOf_11 : decode cX6_bitOf 11 = .ok (.iaload, 1) := by decide +kernel
theorem dX6_bitOf_12 : decode cX6_bitOf 12 = .ok (.iaload, 1) := by decide +kernel
theorem dX6_bitOf_13 : decode cX6_bitOf 13 = .ok (.aload_n 0, 1) := by decide +kernel
theorem dX6_bitOf_14 : decode cX6_bitOf 14 = .ok (.getfield 9, 3) := by decide +kernel
theorem dX6_bitOf_17 : decode cX6_bitOf 17 = .ok (.aload_n 0, 1) := by decide +kernel
theorem dX6_bitOf_18 : decode cX6_bitOf 18 = .ok (.getfield 24, 3) := by decide +kernel
theorem dX6_bitOf_21 : decode cX6_bitOf 21 = .ok (.iload_n 1, 1) := by decide +kernel
theorem dX6_bitOf_22 : decode cX6_bitOf 22 = .ok (.iaload, 1) := by decide +kernel
theorem dX6_bitOf_23 : decode cX6_bitOf 23 = .ok (.iaload, 1) := by decide +kernel
theorem dX6_bitOf_24 : decode cX6_bitOf 24 = .ok (.invokevirtual 47, 3) := by decide +kernel
theorem dX6_bitOf_27 : decode cX6_bitOf 27 = .ok (.ireturn, 1) := by decide +kernel
/-! the slip's data, as numbers and functions: rings, pairs, base, drift, noise, first, second, settings -/
abbrev zD : Type := Nat × Nat × (Nat → Int32) × (Nat → Int32) × (Nat → Int32) × (Nat → Nat) × (Nat → Nat) × (Nat → Int32)
abbrev dN (S : zD) : Nat := S.1
abbrev dP (S : zD) : Nat := S.2.1
abbrev dB (S : zD) : Nat → Int32 := S.2.2.1
abbrev dD (S : zD) : Nat → Int32 := S.2.2.2.1
abbrev dZ (S : zD) : Nat → Int32 := S.2.2.2.2.1
abbrev dF (S : zD) : Nat → Nat := S.2.2.2.2.2.1
abbrev dS (S : zD) : Nat → Nat := S.2.2.2.2.2.2.1
abbrev dT (S : zD) : Nat → Int32 := S.2.2.2.2.2.2.2
/-- the slip at a holds S -/
def rpS (S : zD) (h : zH) (a : Nat) : Prop :=
  (h.1 a 0 = nI (dN S) ∧ dN S ≤ 10) ∧ (h.1 a 4 = nI (dP S) ∧ dP S ≤ 28) ∧ (∀ r, r < dN S → h.1 (a + 1) r = dB S r ∧ h.1 (a + 2) r = dD S r ∧ h.1 (a + 3) r = dZ S r) ∧ (∀ p, p < dP S → (h.1 (a + 4) p = nI (dF S p) ∧ dF S p < dN S) ∧ h.1 (a + 5) p = nI (dS S p) ∧ dS S p < dN S) ∧ ∀ k, k < 5 → h.1 (a + 6) k = dT S k
/-- which codes there are -/
def vRp (r : Nat) : Prop := r = 0 ∨ r = 1 ∨ r = 3 ∨ r = 5 ∨ r = 7
def dR (S : zD) : Nat := (dT S 4).toNatClampNeg
/-- what the document allows -/
def vS (S : zD) : Prop :=
  (∀ r, r < dN S → (0 ≤ (dB S r).toInt ∧ (dB S r).toInt ≤ 9999) ∧ (-99 ≤ (dD S r).toInt ∧ (dD S r).toInt ≤ 99) ∧ 0 ≤ (dZ S r).toInt ∧ (dZ S r).toInt ≤ 50) ∧ (∀ p, p < dP S → dF S p ≠ dS S p) ∧ (0 ≤ (dT S 0).toInt ∧ (dT S 0).toInt ≤ 999) ∧ (-40 ≤ (dT S 1).toInt ∧ (dT S 1).toInt ≤ (dT S 2).toInt ∧ (dT S 2).toInt ≤ 125) ∧ (dT S 3 = 0 ∨ dT S 3 = 1) ∧ dT S 4 = nI (dR S) ∧ vRp (dR S)
/-- speed of a ring at a heat -/
def spd (S : zD) (r : Nat) (t : Int32) : Int32 := dB S r + dD S r * (t - 20) / 10
/-- a pair's bit out of two speeds -/
def bby (x y : Int32) (a b : Nat) : Int32 := if y < x ∨ x = y ∧ a < b then 1 else 0
def pba (S : zD) (p : Nat) (t : Int32) : Int32 := bby (spd S (dF S p) t) (spd S (dS S p) t) (dF S p) (dS S p)
def pb (S : zD) (p : Nat) : Int32 := bby (dB S (dF S p)) (dB S (dS S p)) (dF S p) (dS S p)
theorem zri {x y : Int32} (h : x = y) : (some (.inl x) : Option zV) = some (.inl y) := by rw [h]
theorem bby_01 (x y : Int32) (a b : Nat) : bby x y a b = 0 ∨ bby x y a b = 1 := by
  unfold bby; split
  · exact Or.inr rfl
  · exact Or.inl rfl
def ca_X6_speedOf : (zD × Nat × Nat × Int32) → List zV := fun (S, a, r, t) => [vR 15 0 a, vI (nI r), vI t]
def cp_X6_speedOf : (zD × Nat × Nat × Int32) → zH → Prop := fun (S, a, r, t) h => rpS S h a ∧ r < dN S
def cf_X6_speedOf : (zD × Nat × Nat × Int32) → zH → Int32 := fun (S, a, r, t) _ => spd S r t
theorem rc_X6_speedOf : ∀ x : (zD × Nat × Nat × Int32), ∃ (j a : Nat) (As : List zV), ca_X6_speedOf x = vR (10 + 5) j a :: As := by
  rintro ⟨S, a, r, t⟩
  exact ⟨_, _, _, rfl⟩
set_option maxHeartbeats 4000000 in
set_option maxRecDepth 100000 in
theorem m_X6_speedOf : zM yX6_speedOf cX6_speedOf 3 (some .int) ({ frames := 0, cells := 0, slots := 0, locals := 0 } : Room) (zcI ca_X6_speedOf cp_X6_speedOf cf_X6_speedOf) := by
  refine zM_of (by decide) ?_
  rintro X Y ⟨S, a, r, t⟩ h ⟨hS, hr⟩ O E hR
  have B_0 := zr_aload_n (X := X) (Y := Y) (u := 0) (v := 0) O dX6_speedOf_0 rfl (zr_gS (ci := 5) (j := 1) (off := 1) (t := 1) (n := 10) O zc_5 (by decide) rfl tw_50 dX6_speedOf_1 (zr_iload_n O dX6_speedOf_4 rfl (zr_iald O dX6_speedOf_5 (zr_aload_n O dX6_speedOf_6 rfl (zr_gS (ci := 5) (j := 2) (off := 2) (t := 1) (n := 10) O zc_5 (by decide) rfl tw_51 dX6_speedOf_7 (zr_iload_n O dX6_speedOf_10 rfl (zr_iald O dX6_speedOf_11 (zr_iload_n O dX6_speedOf_12 rfl (zr_bipush (x := (20)) O dX6_speedOf_13 (by decide) (zr_isub O dX6_speedOf_15 (zr_imul O dX6_speedOf_16 (zr_bipush (x := (10)) O dX6_speedOf_17 (by decide) (zr_idiv O dX6_speedOf_19 (zr_iadd O dX6_speedOf_20 (zr_ireturn O E (Nat.le_refl _) (Nat.le_refl _) dX6_speedOf_21)))))))))))))))
  refine ⟨rfl, Nat.le_of_ble_eq_true rfl, _, B_0, ?_⟩
  have hN := hS.1.2
  obtain ⟨h1, h2, h3⟩ := hS.2.2.1 r hr
  refine ⟨r, rfl, Nat.lt_of_lt_of_le hr hN, r, rfl, Nat.lt_of_lt_of_le hr hN, by decide, zri ?_, rfl⟩
  rw [h1, h2]
  rfl
def ca_X6_bitFrom : (zD × Nat × Nat × Int32 × Int32) → List zV := fun (S, a, p, x, y) => [vR 15 0 a, vI (nI p), vI x, vI y]
def cp_X6_bitFrom : (zD × Nat × Nat × Int32 × Int32) → zH → Prop := fun (S, a, p, x, y) h => rpS S h a ∧ p < dP S
def cf_X6_bitFrom : (zD × Nat × Nat × Int32 × Int32) → zH → Int32 := fun (S, a, p, x, y) _ => bby x y (dF S p) (dS S p)
theorem rc_X6_bitFrom : ∀ x : (zD × Nat × Nat × Int32 × Int32), ∃ (j a : Nat) (As : List zV), ca_X6_bitFrom x = vR (10 + 5) j a :: As := by
  rintro ⟨S, a, p, x, y⟩
  exact ⟨_, _, _, rfl⟩
set_option maxHeartbeats 4000000 in
set_option maxRecDepth 100000 in
theorem m_X6_bitFrom : zM yX6_bitFrom cX6_bitFrom 4 (some .int) ({ frames := 0, cells := 0, slots := 0, locals := 0 } : Room) (zcI ca_X6_bitFrom cp_X6_bitFrom cf_X6_bitFrom) := by
  refine zM_of (by decide) ?_
  rintro X Y ⟨S, a, p, x, y⟩ h ⟨hS, hp⟩ O E hR
  have B_36 := zr_ireturn (X := X) (Y := Y) (u := 0) (v := 0) O E (Nat.le_refl _) (Nat.le_refl _) dX6_bitFrom_36
  have B_35 := zr_iconst (X := X) (Y := Y) (u := 0) (v := 0) (x := 0) O dX6_bitFrom_35 rfl (B_36)
  have B_26 := zr_iload_n (X := X) (Y := Y) (u := 0) (v := 0) O dX6_bitFrom_26 rfl (zr_iload_n O dX6_bitFrom_27 rfl (zr_icle (tgt := 35) O dX6_bitFrom_28 rfl B_35 (zr_iconst (x := 1) O dX6_bitFrom_31 rfl (zr_goto (tgt := 36) O dX6_bitFrom_32 rfl B_36))))
  have B_25 := zr_ireturn (X := X) (Y := Y) (u := 0) (v := 0) O E (Nat.le_refl _) (Nat.le_refl _) dX6_bitFrom_25
  have B_24 := zr_iconst (X := X) (Y := Y) (u := 0) (v := 0) (x := 0) O dX6_bitFrom_24 rfl (B_25)
  have B_0 := zr_iload_n (X := X) (Y := Y) (u := 0) (v := 0) O dX6_bitFrom_0 rfl (zr_iload_n O dX6_bitFrom_1 rfl (zr_icne (tgt := 26) O dX6_bitFrom_2 rfl B_26 (zr_aload_n O dX6_bitFrom_5 rfl (zr_gS (ci := 5) (j := 5) (off := 4) (t := 1) (n := 28) O zc_5 (by decide) rfl tw_59 dX6_bitFrom_6 (zr_iload_n O dX6_bitFrom_9 rfl (zr_iald O dX6_bitFrom_10 (zr_aload_n O dX6_bitFrom_11 rfl (zr_gS (ci := 5) (j := 6) (off := 5) (t := 1) (n := 28) O zc_5 (by decide) rfl tw_66 dX6_bitFrom_12 (zr_iload_n O dX6_bitFrom_15 rfl (zr_iald O dX6_bitFrom_16 (zr_icge (tgt := 24) O dX6_bitFrom_17 rfl B_24 (zr_iconst (x := 1) O dX6_bitFrom_20 rfl (zr_goto (tgt := 25) O dX6_bitFrom_21 rfl B_25)))))))))))))
  refine ⟨rfl, Nat.le_of_ble_eq_true rfl, _, B_0, ?_⟩
  obtain ⟨⟨f1, f2⟩, s1, s2⟩ := hS.2.2.2.1 p hp
  have hN := hS.1.2
  have hp28 : p < 28 := Nat.lt_of_lt_of_le hp hS.2.1.2
  refine ⟨fun c => ⟨fun d => ⟨zri ?_, rfl⟩, fun d => ⟨zri ?_, rfl⟩⟩, fun c => ⟨p, rfl, hp28, p, rfl, hp28, fun d => ⟨zri ?_, rfl⟩, fun d => ⟨zri ?_, rfl⟩⟩⟩
  · exact (if_neg (fun z => z.elim (fun q => absurd q (Int32.not_lt.mpr d)) (fun q => c q.1))).symm
  · exact (if_pos (Or.inl (Int32.not_le.mp d))).symm
  · rw [f1, s1] at d
    exact (if_neg (fun z => z.elim (fun q => absurd q (by rw [c]; exact Int32.lt_irrefl)) (fun q => absurd ((nI_leI (by omega) (by omega)).mp d) (by omega)))).symm
  · rw [f1, s1] at d
    exact (if_pos (Or.inr ⟨c, Nat.not_le.mp (fun z => d ((nI_leI (by omega) (by omega)).mpr z))⟩)).symm
def ca_X6_bitAt : (zD × Nat × Nat × Int32) → List zV := fun (S, a, p, t) => [vR 15 0 a, vI (nI p), vI t]
def cp_X6_bitAt : (zD × Nat × Nat × Int32) → zH → Prop := fun (S, a, p, t) h => rpS S h a ∧ p < dP S
def cf_X6_bitAt : (zD × Nat × Nat × Int32) → zH → Int32 := fun (S, a, p, t) _ => pba S p t
theorem rc_X6_bitAt : ∀ x : (zD × Nat × Nat × Int32), ∃ (j a : Nat) (As : List zV), ca_X6_bitAt x = vR (10 + 5) j a :: As := by
  rintro ⟨S, a, p, t⟩
  exact ⟨_, _, _, rfl⟩
set_option maxHeartbeats 4000000 in
set_option maxRecDepth 100000 in
theorem m_X6_bitAt : zM yX6_bitAt cX6_bitAt 3 (some .int) ({ frames := 1, cells := 0, slots := 0, locals := 23 } : Room) (zcI ca_X6_bitAt cp_X6_bitAt cf_X6_bitAt) := by
  refine zM_of (by decide) ?_
  rintro X Y ⟨S, a, p, t⟩ h ⟨hS, hp⟩ O E hR
  have B_0 := zr_aload_n (X := X) (Y := Y) (u := 0) (v := 0) O dX6_bitAt_0 rfl (zr_iload_n O dX6_bitAt_1 rfl (zr_aload_n O dX6_bitAt_2 rfl (zr_aload_n O dX6_bitAt_3 rfl (zr_gS (ci := 5) (j := 5) (off := 4) (t := 1) (n := 28) O zc_5 (by decide) rfl tw_59 dX6_bitAt_4 (zr_iload_n O dX6_bitAt_7 rfl (zr_iald O dX6_bitAt_8 (zr_iload_n O dX6_bitAt_9 rfl (zr_cI (zr_cV (ci := 5) (n := 2) O m_X6_speedOf (bn_X6_speedOf _ ⟨rfl, rfl⟩) vw_X6_speedOf tw_440 rc_X6_speedOf (zrm hR rfl rfl) dX6_bitAt_10 (zr_aload_n O dX6_bitAt_13 rfl (zr_aload_n O dX6_bitAt_14 rfl (zr_gS (ci := 5) (j := 6) (off := 5) (t := 1) (n := 28) O zc_5 (by decide) rfl tw_66 dX6_bitAt_15 (zr_iload_n O dX6_bitAt_18 rfl (zr_iald O dX6_bitAt_19 (zr_iload_n O dX6_bitAt_20 rfl (zr_cI (zr_cV (ci := 5) (n := 2) O m_X6_speedOf (bn_X6_speedOf _ ⟨rfl, rfl⟩) vw_X6_speedOf tw_440 rc_X6_speedOf (zrm hR rfl rfl) dX6_bitAt_21 (zr_cI (zr_cV (ci := 5) (n := 3) O m_X6_bitFrom (bn_X6_bitFrom _ ⟨rfl, rfl⟩) vw_X6_bitFrom tw_422 rc_X6_bitFrom (zrm hR rfl rfl) dX6_bitAt_24 (zr_ireturn O E (Nat.le_refl _) (Nat.le_refl _) dX6_bitAt_27))))))))))))))))))))
  refine ⟨rfl, Nat.le_of_ble_eq_true rfl, _, B_0, ?_⟩
  obtain ⟨⟨f1, f2⟩, s1, s2⟩ := hS.2.2.2.1 p hp
  have hp28 : p < 28 := Nat.lt_of_lt_of_le hp hS.2.1.2
  exact ⟨p, rfl, hp28, (S, a, dF S p, t), congrArg (fun z => [vR 15 0 a, vI z, vI t]) f1, ⟨hS, f2⟩, p, rfl, hp28, (S, a, dS S p, t), congrArg (fun z => [vR 15 0 a, vI z, vI t]) s1, ⟨hS, s2⟩, (S, a, p, _, _), rfl, ⟨hS, hp⟩, rfl, rfl⟩
def ca_X6_bitOf : (zD × Nat × Nat) → List zV := fun (S, a, p) => [vR 15 0 a, vI (nI p)]
def cp_X6_bitOf : (zD × Nat × Nat) → zH → Prop := fun (S, a, p) h => rpS S h a ∧ p < dP S
def cf_X6_bitOf : (zD × Nat × Nat) → zH → Int32 := fun (S, a, p) _ => pb S p
theorem rc_X6_bitOf : ∀ x : (zD × Nat × Nat), ∃ (j a : Nat) (As : List zV), ca_X6_bitOf x = vR (10 + 5) j a :: As := by
  rintro ⟨S, a, p⟩
  exact ⟨_, _, _, rfl⟩
set_option maxHeartbeats 4000000 in
set_option maxRecDepth 100000 in
theorem m_X6_bitOf : zM yX6_bitOf cX6_bitOf 2 (some .int) ({ frames := 1, cells := 0, slots := 0, locals := 23 } : Room) (zcI ca_X6_bitOf cp_X6_bitOf cf_X6_bitOf) := by
  refine zM_of (by decide) ?_
  rintro X Y ⟨S, a, p⟩ h ⟨hS, hp⟩ O E hR
  have B_0 := zr_aload_n (X := X) (Y := Y) (u := 0) (v := 0) O dX6_bitOf_0 rfl (zr_iload_n O dX6_bitOf_1 rfl (zr_aload_n O dX6_bitOf_2 rfl (zr_gS (ci := 5) (j := 1) (off := 1) (t := 1) (n := 10) O zc_5 (by decide) rfl tw_50 dX6_bitOf_3 (zr_aload_n O dX6_bitOf_6 rfl (zr_gS (ci := 5) (j := 5) (off := 4) (t := 1) (n := 28) O zc_5 (by decide) rfl tw_59 dX6_bitOf_7 (zr_iload_n O dX6_bitOf_10 rfl (zr_iald O dX6_bitOf_11 (zr_iald O dX6_bitOf_12 (zr_aload_n O dX6_bitOf_13 rfl (zr_gS (ci := 5) (j := 1) (off := 1) (t := 1) (n := 10) O zc_5 (by decide) rfl tw_50 dX6_bitOf_14 (zr_aload_n O dX6_bitOf_17 rfl (zr_gS (ci := 5) (j := 6) (off := 5) (t := 1) (n := 28) O zc_5 (by decide) rfl tw_66 dX6_bitOf_18 (zr_iload_n O dX6_bitOf_21 rfl (zr_iald O dX6_bitOf_22 (zr_iald O dX6_bitOf_23 (zr_cI (zr_cV (ci := 5) (n := 3) O m_X6_bitFrom (bn_X6_bitFrom _ ⟨rfl, rfl⟩) vw_X6_bitFrom tw_422 rc_X6_bitFrom (zrm hR rfl rfl) dX6_bitOf_24 (zr_ireturn O E (Nat.le_refl _) (Nat.le_refl _) dX6_bitOf_27))))))))))))))))))
  refine ⟨rfl, Nat.le_of_ble_eq_true rfl, _, B_0, ?_⟩
  obtain ⟨⟨f1, f2⟩, s1, s2⟩ := hS.2.2.2.1 p hp
  have hN := hS.1.2
  have hp28 : p < 28 := Nat.lt_of_lt_of_le hp hS.2.1.2
  refine ⟨p, rfl, hp28, dF S p, f1, by omega, p, rfl, hp28, dS S p, s1, by omega, (S, a, p, _, _), rfl, ⟨hS, hp⟩, zri ?_, rfl⟩
  show bby (h.1 (a + 1) _) (h.1 (a + 1) _) _ _ = pb S p
  rw [(hS.2.2.1 _ f2).1, (hS.2.2.1 _ s2).1]
  rfl

