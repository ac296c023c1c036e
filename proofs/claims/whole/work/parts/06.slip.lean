theorem dX6_speedOf_0 : decode cX6_speedOf 0 = .ok (.aload_n 0, 1) := by decide +kernel
theorem dX6_speedOf_1 : decode cX6_speedOf 1 = .ok (.getfield 9, 3) := by decide +kernel
theorem dX6_speedOf_4 : decode cX6_speedOf 4 = .ok (.iload_n 1, 1) := by decide +kernel
theorem dX6_speedOf_5 : decode cX6_speedOf 5 = .ok (.iaload, 1) := by decide +kernel
theorem dX6_speedOf_6 : decode cX6_speedOf 6 = .ok (.aload_n 0, 1) := by decide +kernel
theorem dX6_speedOf_7 : decode cX6_speedOf 7 = .ok (.getfield 15, 3) := by decide +kernel
theorem dX6_speedOf_10 : decode cX6_speedOf 10 = .ok (.iload_n 1, 1) := by decide +kernel
theorem dX6_speedOf_11 : decode cX6_speedOf 11 = .ok (.iaload, 1) := by decide +kernel
theorem dX6_speedOf_12 : decode cX6_speedOf 12 = .ok (.iload_n 2, 1) := by decide +kernel
theorem dX6_speedOf_13 : decode cX6_speedOf 13 = .ok (.bipush 20, 2) := by decide +kernel
theorem dX6_speedOf_15 : decode cX6_speedOf 15 = .ok (.isub, 1) := by decide +kernel
theorem dX6_speedOf_16 : decode cX6_speedOf 16 = .ok (.imul, 1) := by decide +kernel
theorem dX6_speedOf_17 : decode cX6_speedOf 17 = .ok (.bipush 10, 2) := by decide +kernel
theorem dX6_speedOf_19 : decode cX6_speedOf 19 = .ok (.idiv, 1) := by decide +kernel
theorem dX6_speedOf_20 : decode cX6_speedOf 20 = .ok (.iadd, 1) := by decide +kernel
theorem dX6_speedOf_21 : decode cX6_speedOf 21 = .ok (.ireturn, 1) := by decide +kernel
/-! the slip's data, as numbers and functions: rings, pairs, base, drift, noise, first, second, settings -/
abbrev zD : Type := Nat × Nat × (Nat → Int32) × (Nat → Int32) × (Nat → Int32) × (Nat → Nat) × (Nat → Nat) × (Nat → Int32)
abbrev dN (S : zD) : Nat := S.1
abbrev dP (S : zD) : Nat := S.2.1
abbrev dB (S : zD) : Nat → Int32 := S.2.2.1
abbrev dD (S : zD) : Nat → Int32 := S.2.2.2.1
abbrev dZ (S : zD) : Nat → Int32 := S.2.2.2.2.1
abbrev dF (S : zD) : Nat → Nat := S.2.2.2.2.2.1
abbrev dS (S : zD) : Nat → Nat := S.2.2.2.2.2.2.1
abbrev dT (S : zD) : Nat → Int32 := S.2.2.2.2.2.2.2
/-- the slip at a holds S -/
def rpS (S : zD) (h : zH) (a : Nat) : Prop :=
  (h.1 a 0 = nI (dN S) ∧ dN S ≤ 10) ∧ (h.1 a 4 = nI (dP S) ∧ dP S ≤ 28) ∧ (∀ r, r < dN S → h.1 (a + 1) r = dB S r ∧ h.1 (a + 2) r = dD S r ∧ h.1 (a + 3) r = dZ S r) ∧ (∀ p, p < dP S → (h.1 (a + 4) p = nI (dF S p) ∧ dF S p < dN S) ∧ h.1 (a + 5) p = nI (dS S p) ∧ dS S p < dN S) ∧ ∀ k, k < 5 → h.1 (a + 6) k = dT S k
/-- speed of a ring at a heat -/
def spd (S : zD) (r : Nat) (t : Int32) : Int32 := dB S r + dD S r * (t - 20) / 10
/-- a pair's bit out of two speeds -/
def bby (x y : Int32) (a b : Nat) : Int32 := if y < x ∨ x = y ∧ a < b then 1 else 0
def ca_X6_speedOf : (zD × Nat × Nat × Int32) → List zV := fun (S, a, r, t) => [vR 15 0 a, vI (nI r), vI t]
def cp_X6_speedOf : (zD × Nat × Nat × Int32) → zH → Prop := fun (S, a, r, t) h => rpS S h a ∧ r < dN S
def cf_X6_speedOf : (zD × Nat × Nat × Int32) → zH → Int32 := fun (S, a, r, t) _ => spd S r t
theorem rc_X6_speedOf : ∀ x : (zD × Nat × Nat × Int32), ∃ (j a : Nat) (As : List zV), ca_X6_speedOf x = vR (10 + 5) j a :: As := by
  rintro ⟨S, a, r, t⟩
  exact ⟨_, _, _, rfl⟩
set_option maxHeartbeats 4000000 in
set_option maxRecDepth 100000 in
theorem m_X6_speedOf : zM yX6_speedOf cX6_speedOf 3 (some .int) ({ frames := 0, cells := 0, slots := 0, locals := 0 } : Room) (zcI ca_X6_speedOf cp_X6_speedOf cf_X6_speedOf) := by
  refine zM_of (by decide) ?_
  rintro X Y ⟨S, a, r, t⟩ h ⟨hS, hr⟩ O E hR
  have B_0 := zr_aload_n (X := X) (Y := Y) (u := 0) (v := 0) O dX6_speedOf_0 rfl (zr_gS (ci := 5) (j := 1) (off := 1) (t := 1) (n := 10) O zc_5 (by decide) rfl tw_50 dX6_speedOf_1 (zr_iload_n O dX6_speedOf_4 rfl (zr_iald O dX6_speedOf_5 (zr_aload_n O dX6_speedOf_6 rfl (zr_gS (ci := 5) (j := 2) (off := 2) (t := 1) (n := 10) O zc_5 (by decide) rfl tw_51 dX6_speedOf_7 (zr_iload_n O dX6_speedOf_10 rfl (zr_iald O dX6_speedOf_11 (zr_iload_n O dX6_speedOf_12 rfl (zr_bipush (x := (20)) O dX6_speedOf_13 (by decide) (zr_isub O dX6_speedOf_15 (zr_imul O dX6_speedOf_16 (zr_bipush (x := (10)) O dX6_speedOf_17 (by decide) (zr_idiv O dX6_speedOf_19 (zr_iadd O dX6_speedOf_20 (zr_ireturn O E (Nat.le_refl _) (Nat.le_refl _) dX6_speedOf_21)))))))))))))))
  refine ⟨rfl, Nat.le_of_ble_eq_true rfl, _, B_0, ?_⟩
  have hN := hS.1.2
  refine ⟨r, rfl, Nat.lt_of_lt_of_le hr hN, ?_⟩
  refine ⟨r, rfl, Nat.lt_of_lt_of_le hr hN, ?_⟩
  refine ⟨by decide, ?_⟩
  obtain ⟨h1, h2, h3⟩ := hS.2.2.1 r hr
  refine ⟨?_, rfl⟩
  show some (Sum.inl _) = some (Sum.inl _)
  rw [h1, h2]
  rfl

