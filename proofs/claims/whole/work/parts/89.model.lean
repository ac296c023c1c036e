/-! what is left to be said purely: guards agree; a text without a fault gives a valid slip -/
theorem mrg_b {S : zD} (hv : vS S) {p : Nat} (hF : dF S p < dN S) (hS : dS S p < dN S) : -20100 ≤ (mrg S p).toInt ∧ (mrg S p).toInt ≤ 20000 := by
  obtain ⟨⟨b1, b2⟩, -⟩ := mgl_b hv hF hS (nH S) (Nat.le_refl _)
  obtain ⟨-, -, z1, z2⟩ := hv.1 _ hF
  obtain ⟨-, -, z3, z4⟩ := hv.1 _ hS
  have e := sub2 b1 b2 z1 z2 z3 z4
  unfold mrg
  rw [e]
  omega
def gql (S : zD) (wn i : Nat) : Prop := wn ≤ fb_ct (fun j => decide (mrg S i ≤ mrg S j)) (dP S)
theorem ct_mono {f g : Nat → Bool} : ∀ {n : Nat}, (∀ k, k < n → f k = true → g k = true) → fb_ct f n ≤ fb_ct g n
  | 0, _ => Nat.le_refl _
  | n + 1, h => by
    have ih := ct_mono (f := f) (g := g) (n := n) (fun k hk => h k (by omega))
    have hn := h n (Nat.lt_succ_self n)
    rw [fb_ct_succ, fb_ct_succ]
    cases hf : f n with
    | false => simp only [Bool.false_eq_true, if_false]; omega
    | true => rw [hn hf]; simp only [if_true]; omega
theorem gdb_ok {S : zD} (hm : ∀ p, p < dP S → -20100 ≤ (mrg S p).toInt ∧ (mrg S p).toInt ≤ 20000) (wn : Nat) : ∀ n, n ≤ dP S → (gdb S wn n = -1 ∨ ∃ i, i < n ∧ gql S wn i ∧ (gdb S wn n).toInt = (mrg S i).toInt - 1) ∧ (∀ i, i < n → gql S wn i → (mrg S i).toInt - 1 ≤ (gdb S wn n).toInt) ∧ -1 ≤ (gdb S wn n).toInt
  | 0, _ => ⟨Or.inl rfl, fun i hi => absurd hi (Nat.not_lt_zero _), by show (-1 : Int) ≤ (-1 : Int32).toInt; decide⟩
  | n + 1, hn => by
    obtain ⟨a1, a2, a3⟩ := gdb_ok hm wn n (by omega)
    have hb := hm n (by omega)
    have c1 : (1 : Int32).toInt = 1 := by decide
    have e1 : (mrg S n - 1).toInt = (mrg S n).toInt - 1 := by rw [fb_subI (by rw [c1]; omega) (by rw [c1]; omega), c1]
    rw [gdb]
    by_cases c : ¬ mrg S n - 1 ≤ gdb S wn n ∧ wn ≤ fb_ct (fun j => decide (mrg S n ≤ mrg S j)) (dP S)
    · rw [if_pos c]
      have h1 := c.1
      rw [fa_le, e1] at h1
      refine ⟨Or.inr ⟨n, Nat.lt_succ_self n, c.2, e1⟩, fun i hi hq => ?_, by rw [e1]; omega⟩
      rw [e1]
      by_cases e : i = n
      · rw [e]; omega
      · have := a2 i (by omega) hq
        omega
    · rw [if_neg c]
      refine ⟨?_, fun i hi hq => ?_, a3⟩
      · rcases a1 with z | ⟨i, h1, h2, h3⟩
        · exact Or.inl z
        · exact Or.inr ⟨i, by omega, h2, h3⟩
      · by_cases e : i = n
        · rw [e] at hq ⊢
          have h1 : mrg S n - 1 ≤ gdb S wn n := Classical.byContradiction (fun z => c ⟨z, hq⟩)
          rw [fa_le, e1] at h1
          exact h1
        · exact a2 i (by omega) hq
theorem gdc_q {S : zD} {wn : Nat} (hw : 1 ≤ wn) {g : Int32} : wn ≤ gdc S g ↔ ∃ i, i < dP S ∧ gql S wn i ∧ g.toInt < (mrg S i).toInt := by
  constructor
  · intro h
    have h0 : 0 < fb_ct (fun p => decide (g < mrg S p)) (dP S) := by unfold gdc at h; omega
    obtain ⟨i0, hi0, hq0⟩ := fb_ct_pos.mp h0
    obtain ⟨m, hm, hlow, -⟩ := fb_low (fun i => if g < mrg S i then (mrg S i).toInt else 3000000000) (n := dP S) (by omega)
    have hg0 := of_decide_eq_true hq0
    have hmg : g < mrg S m := by
      apply Classical.byContradiction
      intro z
      have h1 := hlow i0 hi0
      simp only [if_neg z, if_pos hg0] at h1
      have := (fb_rng (mrg S i0)).2
      omega
    refine ⟨m, hm, ?_, (fa_lt _ _).mp hmg⟩
    refine Nat.le_trans h (ct_mono (fun k hk hq => decide_eq_true ?_))
    have h1 := hlow k hk
    rw [if_pos (of_decide_eq_true hq), if_pos hmg] at h1
    exact (fa_le _ _).mpr h1
  · rintro ⟨i, hi, hq, hg⟩
    refine Nat.le_trans hq (ct_mono (fun k hk hz => decide_eq_true ?_))
    have h1 := (fa_le _ _).mp (of_decide_eq_true hz)
    rw [fa_lt]
    omega
theorem gd_e {S : zD} (hv : vS S) (hS : ∀ p, p < dP S → dF S p < dN S ∧ dS S p < dN S) {b : Nat} (hb : 1 ≤ b) (hb2 : b ≤ 28) : gdM S b = gdf S b := by
  have hm : ∀ p, p < dP S → -20100 ≤ (mrg S p).toInt ∧ (mrg S p).toInt ≤ 20000 := fun p hp => mrg_b hv (hS p hp).1 (hS p hp).2
  have hln := lnR_pos hv.2.2.2.2.2.2
  have hbk : ∀ c, b ≤ bkc (dR S) c ↔ b * lnR (dR S) ≤ c ∧ b * btR (dR S) ≤ 16 := by
    intro c
    unfold bkc
    rw [Nat.le_min, Nat.le_div_iff_mul_le (by omega), Nat.le_div_iff_mul_le (by omega)]
  have hwn : 1 ≤ b * lnR (dR S) := Nat.mul_pos hb hln.1
  unfold gdf
  by_cases h16 : 16 < b * btR (dR S)
  · rw [if_pos h16]
    unfold gdM
    rw [if_neg (first_none (fun j _ => decide_eq_false (fun z => by have := ((hbk _).mp z).2; omega)))]
  · rw [if_neg h16]
    obtain ⟨a1, a2, a3⟩ := gdb_ok hm (b * lnR (dR S)) (dP S) (Nat.le_refl _)
    generalize gdb S (b * lnR (dR S)) (dP S) = G at a1 a2 a3
    have c999 : (999 : Int32).toInt = 999 := by decide
    have key : ∀ j : Nat, j < 1000 → (b ≤ bkc (dR S) (gdc S (nI (999 - j))) ↔ ((999 - j : Nat) : Int) ≤ G.toInt ∧ 0 ≤ G.toInt) := by
      intro j hj
      have ej : (nI (999 - j)).toInt = ((999 - j : Nat) : Int) := nI_toInt (by omega)
      rw [hbk, gdc_q hwn, ej]
      constructor
      · rintro ⟨⟨i, hi, hq, hg⟩, -⟩
        have := a2 i hi hq
        omega
      · rintro ⟨h1, h2⟩
        rcases a1 with z | ⟨i, hi, hq, he⟩
        · rw [z] at h2
          exact absurd h2 (by decide)
        · exact ⟨⟨i, hi, hq, by omega⟩, by omega⟩
    unfold gdM
    by_cases hG : 0 ≤ G.toInt
    · obtain ⟨g, eg⟩ : ∃ g : Nat, (g : Int) = min G.toInt 999 := ⟨(min G.toInt 999).toNat, by omega⟩
      have hf : fa_first (fun j => decide (b ≤ bkc (dR S) (gdc S (nI (999 - j))))) 1000 = 999 - g := by
        refine first_at (by omega) (decide_eq_true ((key _ (by omega)).mpr ⟨by omega, hG⟩)) (fun j hj => decide_eq_false (fun z => ?_))
        have := ((key j (by omega)).mp z).1
        omega
      rw [hf, if_pos (by omega), show 999 - (999 - g) = g by omega]
      refine (fa_eq _ _).mpr ?_
      rw [nI_toInt (by omega)]
      unfold mn2
      by_cases c : (999 : Int32) < G
      · rw [if_pos c, c999]
        rw [fa_lt, c999] at c
        omega
      · rw [if_neg c]
        rw [fa_lt, c999] at c
        omega
    · have eG : G = -1 := (fa_eq _ _).mpr (by show G.toInt = (-1 : Int); omega)
      rw [if_neg (first_none (fun j hj => decide_eq_false (fun z => hG ((key j hj).mp z).2))), eG]
      decide
/-- a line without a fault keeps the draft valid -/
theorem rng_i {v lo up : Int32} (h : lo ≤ v ∧ v ≤ up) : lo.toInt ≤ v.toInt ∧ v.toInt ≤ up.toInt := ⟨(fa_le _ _).mp h.1, (fa_le _ _).mp h.2⟩
theorem vS_set {S : zD} (hv : vS S) {k : Nat} {v : Int32} (h0 : k = 0 → 0 ≤ v.toInt ∧ v.toInt ≤ 999) (h12 : k ≠ 1 ∧ k ≠ 2) (h3 : k = 3 → v = 0 ∨ v = 1) (h4 : k = 4 → vRp v.toNatClampNeg ∧ v = nI v.toNatClampNeg) : vS (aSt S k v) := by
  obtain ⟨a1, a2, a3, a4, a5, a6, a7⟩ := hv
  have t : ∀ j, dT (aSt S k v) j = if j = k then v else dT S j := fun j => by
    show va_up (dT S) k v j = _
    by_cases e : j = k
    · rw [if_pos e, e, zup_s]
    · rw [if_neg e, zup_n _ _ e]
  refine ⟨a1, a2, ?_, ?_, ?_, ?_, ?_⟩
  · rw [t 0]
    by_cases e : 0 = k
    · rw [if_pos e]; exact h0 e.symm
    · rw [if_neg e]; exact a3
  · rw [t 1, t 2, if_neg (fun e => h12.1 e.symm), if_neg (fun e => h12.2 e.symm)]; exact a4
  · rw [t 3]
    by_cases e : 3 = k
    · rw [if_pos e]; exact h3 e.symm
    · rw [if_neg e]; exact a5
  · show dT (aSt S k v) 4 = nI (dT (aSt S k v) 4).toNatClampNeg
    rw [t 4]
    by_cases e : 4 = k
    · rw [if_pos e]; exact (h4 e.symm).2
    · rw [if_neg e]; exact a6
  · show vRp (dT (aSt S k v) 4).toNatClampNeg
    rw [t 4]
    by_cases e : 4 = k
    · rw [if_pos e]; exact (h4 e.symm).1
    · rw [if_neg e]; exact a7
theorem vS_12 {S : zD} (hv : vS S) {v w : Int32} (h1 : -40 ≤ v.toInt) (h2 : v.toInt ≤ w.toInt) (h3 : w.toInt ≤ 125) : vS (aSt (aSt S 1 v) 2 w) := by
  obtain ⟨a1, a2, a3, a4, a5, a6, a7⟩ := hv
  exact ⟨a1, a2, a3, ⟨h1, h2, h3⟩, a5, a6, a7⟩
theorem vS_ln {T : Nat → Int32} {n : Nat} {U : zU} {S : zD} (hv : vS S) (hN : dN S ≤ 10) (h : (uLn T n U S).2.1 = 0) : vS (sLn T n U S) := by
  have z0 : (0 : Int32).toInt = 0 := by decide
  have z9999 : (9999 : Int32).toInt = 9999 := by decide
  have z99 : (99 : Int32).toInt = 99 := by decide
  have zm99 : (-99 : Int32).toInt = -99 := by decide
  have z50 : (50 : Int32).toInt = 50 := by decide
  have z999 : (999 : Int32).toInt = 999 := by decide
  have zm40 : (-40 : Int32).toInt = -40 := by decide
  have z125 : (125 : Int32).toInt = 125 := by decide
  cases n1 : isW T n U 1 with
  | true =>
    obtain ⟨e1, e2⟩ := uLn_1 (S := S) n1
    rw [e1] at h
    rw [e2, sL1]
    obtain ⟨-, -, r1, r2, r3⟩ := uR3_0 h
    have r1 := rng_i r1
    have r2 := rng_i r2
    have r3 := rng_i r3
    obtain ⟨a1, a2, a3⟩ := hv
    generalize uNv T n (uR0 (uW T n U) (dN S) (nI U.1)) = v1 at r1
    generalize uSv T n (uR1 T n (uW T n U) (dN S) (nI U.1)) = v2 at r2
    generalize uNv T n (uR2 T n (uW T n U) (dN S) (nI U.1)) = v3 at r3
    refine ⟨fun r hr => ?_, a2, a3⟩
    show (0 ≤ (va_up (dB S) (dN S) v1 r).toInt ∧ (va_up (dB S) (dN S) v1 r).toInt ≤ 9999) ∧ (-99 ≤ (va_up (dD S) (dN S) v2 r).toInt ∧ (va_up (dD S) (dN S) v2 r).toInt ≤ 99) ∧ 0 ≤ (va_up (dZ S) (dN S) v3 r).toInt ∧ (va_up (dZ S) (dN S) v3 r).toInt ≤ 50
    by_cases e : r = dN S
    · rw [e, zup_s, zup_s, zup_s]; omega
    · rw [zup_n _ _ e, zup_n _ _ e, zup_n _ _ e]
      exact a1 r (by have : r < dN S + 1 := hr; omega)
  | false =>
  cases n2 : isW T n U 2 with
  | true =>
    obtain ⟨e1, e2⟩ := uLn_2 (S := S) n1 n2
    rw [e1] at h
    rw [e2, sL2]
    obtain ⟨-, -, hne, ra, rb⟩ := uP4_0 h
    generalize uPa T n (uW T n U) (dP S) (nI U.1) = v1 at hne ra
    generalize uPb T n (uW T n U) (dN S) (dP S) (nI U.1) = v2 at hne rb
    obtain ⟨q1, -⟩ := cl_lt hN ra.1 ra.2
    obtain ⟨q2, -⟩ := cl_lt hN rb.1 rb.2
    obtain ⟨a1, a2, a3⟩ := hv
    refine ⟨a1, fun p hp => ?_, a3⟩
    show va_up (dF S) (dP S) v1.toNatClampNeg p ≠ va_up (dS S) (dP S) v2.toNatClampNeg p
    by_cases e : p = dP S
    · rw [e, zup_s, zup_s]
      intro z
      rw [z] at q1
      exact hne (q1.trans q2.symm)
    · rw [zup_n _ _ e, zup_n _ _ e]
      exact a2 p (by have : p < dP S + 1 := hp; omega)
  | false =>
  cases n3 : isW T n U 3 with
  | true =>
    obtain ⟨e1, e2⟩ := uLn_3 (S := S) n1 n2 n3
    rw [e1] at h
    rw [e2]
    obtain ⟨-, r1, r2⟩ := uNm_0 h
    have r1 := rng_i ⟨r1, r2⟩
    exact vS_set hv (fun _ => by omega) ⟨by decide, by decide⟩ (fun z => absurd z (by decide)) (fun z => absurd z (by decide))
  | false =>
  cases n4 : isW T n U 4 with
  | true =>
    obtain ⟨e1, e2⟩ := uLn_4 (S := S) n1 n2 n3 n4
    rw [e1, uL4] at h
    rw [e2, sL4]
    obtain ⟨h1, r3, r4⟩ := uSg_0 h
    obtain ⟨-, r1, r2⟩ := uSg_0 h1
    have q1 := rng_i ⟨r1, r2⟩
    have q2 := rng_i ⟨r3, r4⟩
    exact vS_12 hv (by omega) (by omega) (by omega)
  | false =>
  cases n5 : isW T n U 5 with
  | true =>
    obtain ⟨-, e2⟩ := uLn_5 (S := S) n1 n2 n3 n4 n5
    rw [e2]
    exact vS_set hv (fun z => absurd z (by decide)) ⟨by decide, by decide⟩ (fun _ => Or.inr rfl) (fun z => absurd z (by decide))
  | false =>
  cases n6 : isW T n U 6 with
  | true =>
    obtain ⟨e1, e2⟩ := uLn_6 (S := S) n1 n2 n3 n4 n5 n6
    rw [e1] at h
    rw [e2]
    have hR : isR (uNv T n (uW T n U)) = true := by
      cases hy : isR (uNv T n (uW T n U)) with
      | true => rfl
      | false =>
        rw [uRp, hy] at h
        exact absurd h (uF_ne (by decide))
    have hR2 := of_decide_eq_true hR
    refine vS_set hv (fun z => absurd z (by decide)) ⟨by decide, by decide⟩ (fun z => absurd z (by decide)) (fun _ => ?_)
    unfold vRp
    rcases hR2 with z | z | z | z <;> rw [z] <;> decide
  | false =>
  cases n7 : isW T n U 7 with
  | true =>
    obtain ⟨-, e2⟩ := uLn_7 (S := S) n1 n2 n3 n4 n5 n6 n7
    rw [e2]
    refine vS_set hv (fun z => absurd z (by decide)) ⟨by decide, by decide⟩ (fun z => absurd z (by decide)) (fun _ => ?_)
    unfold vRp
    decide
  | false =>
    obtain ⟨-, e2⟩ := uLn_0 (S := S) n1 n2 n3 n4 n5 n6 n7
    rw [e2]; exact hv
theorem dN_ln {T : Nat → Int32} {n : Nat} {U : zU} {S : zD} (hN : dN S ≤ 10) (h : (uLn T n U S).2.1 = 0) : dN (sLn T n U S) ≤ 10 := by
  cases n1 : isW T n U 1 with
  | true =>
    obtain ⟨e1, e2⟩ := uLn_1 (S := S) n1
    rw [e1] at h
    rw [e2]
    have := (uR3_0 h).1
    show dN S + 1 ≤ 10
    omega
  | false =>
    have e : dN (sLn T n U S) = dN S := by
      unfold sLn
      rw [if_neg (nf n1)]
      repeat' split
      all_goals rfl
    rw [e]; exact hN
theorem vS_rdl {T : Nat → Int32} {n : Nat} : ∀ (f : Nat) (U : zU) (S : zD), (U.2.1 = 0 → vS S ∧ dN S ≤ 10) → (rdl T n f U S).1.2.1 = 0 → vS (rdl T n f U S).2
  | 0, U, S, hv, h => (hv h).1
  | f + 1, U, S, hv, h => by
    rw [rdl] at h ⊢
    by_cases c : U.1 < n ∧ U.2.1 = 0
    · rw [if_pos c] at h ⊢
      refine vS_rdl f _ _ (fun z => ?_) h
      have z1 : (uLn T n U S).2.1 = 0 := uEl_0 (show (uEl T n (uLn T n U S)).2.1 = 0 from z)
      obtain ⟨v1, v2⟩ := hv c.2
      exact ⟨vS_ln v1 v2 z1, dN_ln v2 z1⟩
    · rw [if_neg c] at h ⊢
      exact (hv h).1
theorem vS_rd {T : Nat → Int32} {n : Nat} {m : Int32} (h : (rdT T n m).1.2.1 = 0) : vS (rdT T n m).2 := vS_rdl 400 _ _ (fun _ => ⟨vS_dE, Nat.zero_le _⟩) h

