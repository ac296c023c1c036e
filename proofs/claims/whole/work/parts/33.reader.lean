/-! the reader's state: place, kind of fault, its place, where the last number begins -/
abbrev zU : Type := Nat × Int32 × Int32 × Int32
def rpR (T : Nat → Int32) (n : Nat) (U : zU) (h : zH) (r : Nat) : Prop := (h.1 r 5 = nI n ∧ n ≤ 400) ∧ (h.1 r 6 = nI U.1 ∧ U.1 ≤ n) ∧ h.1 r 2 = U.2.1 ∧ h.1 r 1 = U.2.2.1 ∧ h.1 r 7 = U.2.2.2 ∧ h.1 (r + 8) = T
def uF (U : zU) (k q : Int32) : zU := if U.2.1 = 0 then (U.1, k, q, U.2.2.2) else U
theorem rpR_F {T : Nat → Int32} {n : Nat} {U : zU} {h : zH} {r : Nat} (k q : Int32) (hU : rpR T n U h r) : rpR T n (uF U k q) (flF h r k q) r ∧ sm r 1 h (flF h r k q) := by
  obtain ⟨⟨a1, a2⟩, ⟨a3, a4⟩, a5, a6, a7, a8⟩ := hU
  have ne8 : r + 8 ≠ r := by omega
  unfold uF flF
  rw [a5]
  by_cases hz : U.2.1 = 0
  · rw [if_pos hz, if_pos hz]
    refine ⟨⟨⟨?_, a2⟩, ⟨?_, a4⟩, ?_, ?_, ?_, ?_⟩, sm_tr (sm_I _ _ (by omega) (by omega)) (sm_I _ _ (by omega) (by omega))⟩
    · simp only [zsI_W, zsW_s]; exact a1
    · simp only [zsI_W, zsW_s]; exact a3
    · simp only [zsI_W, zsW_s]; rfl
    · simp only [zsI_W, zsW_s]; rfl
    · simp only [zsI_W, zsW_s]; exact a7
    · simp only [zsI_W, zsW_n _ _ ne8]; exact a8
  · rw [if_neg hz, if_neg hz]
    exact ⟨⟨⟨a1, a2⟩, ⟨a3, a4⟩, a5, a6, a7, a8⟩, sm_refl _ _ _⟩
theorem rpR_6 {T : Nat → Int32} {n : Nat} {U : zU} {h : zH} {r p : Nat} (hp : p ≤ n) (hU : rpR T n U h r) : rpR T n (p, U.2) (zsI h r 6 (nI p)) r ∧ sm r 1 h (zsI h r 6 (nI p)) := by
  obtain ⟨⟨a1, a2⟩, ⟨a3, a4⟩, a5, a6, a7, a8⟩ := hU
  have ne8 : r + 8 ≠ r := by omega
  refine ⟨⟨⟨?_, a2⟩, ⟨?_, hp⟩, ?_, ?_, ?_, ?_⟩, sm_I _ _ (by omega) (by omega)⟩
  · simp only [zsI_W, zsW_s]; exact a1
  · simp only [zsI_W, zsW_s]; rfl
  · simp only [zsI_W, zsW_s]; exact a5
  · simp only [zsI_W, zsW_s]; exact a6
  · simp only [zsI_W, zsW_s]; exact a7
  · simp only [zsI_W, zsW_n _ _ ne8]; exact a8
theorem rpR_7 {T : Nat → Int32} {n : Nat} {U : zU} {h : zH} {r : Nat} (m : Int32) (hU : rpR T n U h r) : rpR T n (U.1, U.2.1, U.2.2.1, m) (zsI h r 7 m) r ∧ sm r 1 h (zsI h r 7 m) := by
  obtain ⟨⟨a1, a2⟩, ⟨a3, a4⟩, a5, a6, a7, a8⟩ := hU
  have ne8 : r + 8 ≠ r := by omega
  refine ⟨⟨⟨?_, a2⟩, ⟨?_, a4⟩, ?_, ?_, ?_, ?_⟩, sm_I _ _ (by omega) (by omega)⟩
  · simp only [zsI_W, zsW_s]; exact a1
  · simp only [zsI_W, zsW_s]; exact a3
  · simp only [zsI_W, zsW_s]; exact a5
  · simp only [zsI_W, zsW_s]; exact a6
  · simp only [zsI_W, zsW_s]; rfl
  · simp only [zsI_W, zsW_n _ _ ne8]; exact a8

