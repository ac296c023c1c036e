/-! some ring has each place -/
theorem ct_lt {p q : Nat → Bool} : ∀ {n : Nat}, (∀ k, k < n → p k = true → q k = true) → (∃ x, x < n ∧ q x = true ∧ p x = false) → fb_ct p n < fb_ct q n
  | 0, _, ⟨_, hx, _⟩ => absurd hx (Nat.not_lt_zero _)
  | n + 1, hs, ⟨x, hx, q1, p1⟩ => by
    rw [fb_ct_succ, fb_ct_succ]
    by_cases e : x = n
    · subst e
      have := fb_ct_sub (p := p) (q := q) (n := x) (fun k hk => hs k (by omega))
      rw [q1, p1]
      show fb_ct p x + 0 < fb_ct q x + 1
      omega
    · have := ct_lt (p := p) (q := q) (n := n) (fun k hk => hs k (by omega)) ⟨x, by omega, q1, p1⟩
      have h2 := hs n (by omega)
      cases hp : p n with
      | false =>
        show fb_ct p n + 0 < fb_ct q n + (if q n then 1 else 0)
        omega
      | true =>
        rw [h2 hp]
        show fb_ct p n + 1 < fb_ct q n + 1
        omega
def ahd (S : zD) (te : Int32) (i r : Nat) : Prop := spd S r te < spd S i te ∨ spd S i te = spd S r te ∧ i < r
theorem ahd_i {S : zD} {te : Int32} {i r : Nat} : ahd S te i r ↔ (spd S r te).toInt < (spd S i te).toInt ∨ (spd S i te).toInt = (spd S r te).toInt ∧ i < r := by
  unfold ahd
  rw [fa_lt, fa_eq]
theorem rah_lt {S : zD} {te : Int32} {i r n : Nat} (hi : i < n) (h : ahd S te i r) : rah S i te n < rah S r te n := by
  refine ct_lt (fun k hk hp => decide_eq_true ?_) ⟨i, hi, decide_eq_true h, decide_eq_false ?_⟩
  · have h1 := ahd_i.mp (show ahd S te k i from (of_decide_eq_true hp : spd S i te < spd S k te ∨ spd S k te = spd S i te ∧ k < i))
    have h2 := ahd_i.mp h
    exact ahd_i.mpr (by omega)
  · intro z
    have h1 := ahd_i.mp (show ahd S te i i from z)
    omega
theorem rah_n {S : zD} {te : Int32} {r n : Nat} (hr : r < n) : rah S r te n < n := by
  have h1 : fb_ct (fun _ => true) n = n := fb_ct_all.mpr (fun _ _ => rfl)
  have h2 : rah S r te n < fb_ct (fun _ => true) n := ct_lt (fun _ _ _ => rfl) ⟨r, hr, rfl, decide_eq_false (fun z => by
    have h1 := ahd_i.mp (show ahd S te r r from z)
    omega)⟩
  omega
theorem rah_inj {S : zD} {te : Int32} {i j n : Nat} (hi : i < n) (hj : j < n) (e : rah S i te n = rah S j te n) : i = j := by
  rcases Nat.lt_trichotomy i j with h | h | h
  · by_cases c : ahd S te i j
    · have := rah_lt hi c; omega
    · have : ahd S te j i := by
        rw [ahd_i] at c ⊢
        omega
      have := rah_lt hj this; omega
  · exact h
  · by_cases c : ahd S te i j
    · have := rah_lt hi c; omega
    · have : ahd S te j i := by
        rw [ahd_i] at c ⊢
        omega
      have := rah_lt hj this; omega
theorem rank_f {S : zD} {te : Int32} {k : Nat} (hk : k < dN S) : fa_first (fun i => decide (rah S i te (dN S) = k)) (dN S) < dN S := by
  refine Decidable.byContradiction (fun hn => ?_)
  have h1 := fa_first_le (fun i => decide (rah S i te (dN S) = k)) (dN S)
  have h2 := fa_first_no (fun i => decide (rah S i te (dN S) = k)) (dN S)
  have h3 : ∀ i, i < dN S → rah S i te (dN S) ≠ k := fun i hi => of_decide_eq_false (h2 i (by omega))
  have := fb_holes (dN S) (dN S + 1) (fun i => if i = dN S then k else rah S i te (dN S)) (fun i hi => by
    show (if i = dN S then k else rah S i te (dN S)) < dN S
    split
    · exact hk
    · exact rah_n (by omega)) (fun i j hi hj e => by
    replace e : (if i = dN S then k else rah S i te (dN S)) = (if j = dN S then k else rah S j te (dN S)) := e
    by_cases ei : i = dN S
    · by_cases ej : j = dN S
      · exact absurd hi (by omega)
      · rw [if_pos ei, if_neg ej] at e
        exact absurd e.symm (h3 j (by omega))
    · by_cases ej : j = dN S
      · rw [if_neg ei, if_pos ej] at e
        exact absurd e (h3 i (by omega))
      · rw [if_neg ei, if_neg ej] at e
        exact absurd (rah_inj (by omega) (by omega) e) (by omega))
  omega
theorem rnM_rnk {S : zD} {te : Int32} {k : Nat} (hk : k < dN S) : rnM S k te = rnk S k te := by
  rw [rnM, rnk, if_pos (rank_f hk), if_pos (rank_f hk)]

