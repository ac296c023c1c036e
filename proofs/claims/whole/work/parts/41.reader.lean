/-! a line -/
def sml (T : Nat → Int32) (i : Nat) : Bool := decide ((97 : Int32) ≤ T i ∧ T i ≤ 122)
def wnd (T : Nat → Int32) (n p : Nat) : Nat := p + fa_first (fun i => !sml T (p + i)) (n - p)
theorem wnd_le (T : Nat → Int32) {n p : Nat} (h : p ≤ n) : p ≤ wnd T n p ∧ wnd T n p ≤ n := by
  have := fa_first_le (fun i => !sml T (p + i)) (n - p)
  unfold wnd
  omega
def uW (T : Nat → Int32) (n : Nat) (U : zU) : zU := (wnd T n U.1, U.2)
def isW (T : Nat → Int32) (n : Nat) (U : zU) (k : Nat) : Bool := isw T U.1 (wnd T n U.1) k
theorem uF_ne {U : zU} {k q : Int32} (hk : k ≠ 0) : (uF U k q).2.1 ≠ 0 := by
  unfold uF
  split
  · exact hk
  · assumption
theorem uDg_0 {T : Nat → Int32} {n : Nat} {U : zU} (h : (uDg T n U).2.1 = 0) : U.2.1 = 0 ∧ dgc T n U.1 ≠ 0 := by
  unfold uDg at h
  split at h
  · exact absurd h (uF_ne (by decide))
  · exact ⟨h, by assumption⟩
theorem uNe_0 {U : zU} {v lo up : Int32} (h : (uNe U v lo up).2.1 = 0) : U.2.1 = 0 ∧ lo ≤ v ∧ v ≤ up ∧ uNe U v lo up = U := by
  unfold uNe at h ⊢
  split at h
  · exact absurd h (uF_ne (by decide))
  · rename_i z
    rw [if_neg z]
    exact ⟨h, Int32.not_lt.mp (fun c => z (Or.inl c)), Int32.not_lt.mp (fun c => z (Or.inr c)), rfl⟩
theorem uNm_0 {T : Nat → Int32} {n : Nat} {U : zU} {lo up : Int32} (h : (uNm T n U lo up).2.1 = 0) : U.2.1 = 0 ∧ lo ≤ uNv T n U ∧ uNv T n U ≤ up := by
  obtain ⟨h1, h2, h3, -⟩ := uNe_0 h
  exact ⟨(uDg_0 h1).1, h2, h3⟩
theorem uSg_0 {T : Nat → Int32} {n : Nat} {U : zU} {lo up : Int32} (h : (uSg T n U lo up).2.1 = 0) : U.2.1 = 0 ∧ lo ≤ uSv T n U ∧ uSv T n U ≤ up := by
  obtain ⟨h1, h2, h3, -⟩ := uNe_0 h
  exact ⟨(uDg_0 h1).1, h2, h3⟩
theorem nI_out {x : Int32} {m : Nat} (hm : m < 2 ^ 31) (h1 : 0 ≤ x) (h2 : x ≤ nI m) : x = nI x.toNatClampNeg ∧ x.toNatClampNeg ≤ m := by
  obtain ⟨j, hj, rfl⟩ := nI_of2 (nI_toInt hm) (Int32.not_lt.mpr h1) h2
  rw [nI_clamp (by omega)]
  exact ⟨rfl, hj⟩
/-- a ring more -/
def aRg (S : zD) (x y z : Int32) : zD := (dN S + 1, dP S, va_up (dB S) (dN S) x, va_up (dD S) (dN S) y, va_up (dZ S) (dN S) z, dF S, dS S, dT S)
def aPr (S : zD) (x y : Nat) : zD := (dN S, dP S + 1, dB S, dD S, dZ S, va_up (dF S) (dP S) x, va_up (dS S) (dP S) y, dT S)
def aSt (S : zD) (k : Nat) (v : Int32) : zD := (dN S, dP S, dB S, dD S, dZ S, dF S, dS S, va_up (dT S) k v)
theorem rpS_ring {S : zD} {h : zH} {a : Nat} (x y z : Int32) (hN : dN S < 10) (hS : rpS S h a) : rpS (aRg S x y z) (cg_X6_addRing (a, dN S, x, y, z) h) a := by
  obtain ⟨⟨a1, a2⟩, ⟨a3, a4⟩, a5, a6, a7⟩ := hS
  have e : cg_X6_addRing (a, dN S, x, y, z) h = zsW (zsW (zsW (zsW h (a + 1) (va_up (h.1 (a + 1)) (dN S) x)) (a + 2) (va_up (h.1 (a + 2)) (dN S) y)) (a + 3) (va_up (h.1 (a + 3)) (dN S) z)) a (va_up (h.1 a) 0 (nI (dN S + 1))) := by
    show (if dN S < 10 then _ else _) = _
    rw [if_pos hN]
    simp only [zsI_W]
    rw [zsW_n _ _ (by omega : a + 2 ≠ a + 1), zsW_n _ _ (by omega : a + 3 ≠ a + 2), zsW_n _ _ (by omega : a + 3 ≠ a + 1), zsW_n _ _ (by omega : a ≠ a + 3), zsW_n _ _ (by omega : a ≠ a + 2), zsW_n _ _ (by omega : a ≠ a + 1)]
  have e0 : (cg_X6_addRing (a, dN S, x, y, z) h).1 a = va_up (h.1 a) 0 (nI (dN S + 1)) := by rw [e, zsW_s]
  have e1 : (cg_X6_addRing (a, dN S, x, y, z) h).1 (a + 1) = va_up (h.1 (a + 1)) (dN S) x := by rw [e, zsW_n _ _ (by omega), zsW_n _ _ (by omega), zsW_n _ _ (by omega), zsW_s]
  have e2 : (cg_X6_addRing (a, dN S, x, y, z) h).1 (a + 2) = va_up (h.1 (a + 2)) (dN S) y := by rw [e, zsW_n _ _ (by omega), zsW_n _ _ (by omega), zsW_s]
  have e3 : (cg_X6_addRing (a, dN S, x, y, z) h).1 (a + 3) = va_up (h.1 (a + 3)) (dN S) z := by rw [e, zsW_n _ _ (by omega), zsW_s]
  have eo : ∀ q, a + 4 ≤ q → (cg_X6_addRing (a, dN S, x, y, z) h).1 q = h.1 q := fun q hq => by rw [e, zsW_n _ _ (by omega), zsW_n _ _ (by omega), zsW_n _ _ (by omega), zsW_n _ _ (by omega)]
  refine ⟨⟨?_, by show dN S + 1 ≤ 10; omega⟩, ⟨?_, a4⟩, fun r hr => ⟨?_, ?_, ?_⟩, fun p hp => ?_, fun k hk => ?_⟩
  · rw [e0, zup_s]; rfl
  · rw [e0, zup_n _ _ (by decide)]; exact a3
  · show _ = va_up (dB S) (dN S) x r
    rw [e1]
    by_cases c : r = dN S
    · rw [c, zup_s, zup_s]
    · rw [zup_n _ _ c, zup_n _ _ c]; exact (a5 r (by have : r < dN S + 1 := hr; omega)).1
  · show _ = va_up (dD S) (dN S) y r
    rw [e2]
    by_cases c : r = dN S
    · rw [c, zup_s, zup_s]
    · rw [zup_n _ _ c, zup_n _ _ c]; exact (a5 r (by have : r < dN S + 1 := hr; omega)).2.1
  · show _ = va_up (dZ S) (dN S) z r
    rw [e3]
    by_cases c : r = dN S
    · rw [c, zup_s, zup_s]
    · rw [zup_n _ _ c, zup_n _ _ c]; exact (a5 r (by have : r < dN S + 1 := hr; omega)).2.2
  · rw [eo _ (by omega), eo _ (by omega)]
    obtain ⟨⟨b1, b2⟩, b3, b4⟩ := a6 p hp
    exact ⟨⟨b1, Nat.lt_succ_of_lt b2⟩, b3, Nat.lt_succ_of_lt b4⟩
  · rw [eo _ (by omega)]; exact a7 k hk
theorem rpS_pair {S : zD} {h : zH} {a : Nat} (x y : Nat) (hP : dP S < 28) (hx : x < dN S) (hy : y < dN S) (hS : rpS S h a) : rpS (aPr S x y) (cg_X6_addPair (a, dP S, nI x, nI y) h) a := by
  obtain ⟨⟨a1, a2⟩, ⟨a3, a4⟩, a5, a6, a7⟩ := hS
  have e : cg_X6_addPair (a, dP S, nI x, nI y) h = zsW (zsW (zsW h (a + 4) (va_up (h.1 (a + 4)) (dP S) (nI x))) (a + 5) (va_up (h.1 (a + 5)) (dP S) (nI y))) a (va_up (h.1 a) 4 (nI (dP S + 1))) := by
    show (if dP S < 28 then _ else _) = _
    rw [if_pos hP]
    simp only [zsI_W]
    rw [zsW_n _ _ (by omega : a + 5 ≠ a + 4), zsW_n _ _ (by omega : a ≠ a + 5), zsW_n _ _ (by omega : a ≠ a + 4)]
  have e0 : (cg_X6_addPair (a, dP S, nI x, nI y) h).1 a = va_up (h.1 a) 4 (nI (dP S + 1)) := by rw [e, zsW_s]
  have e4 : (cg_X6_addPair (a, dP S, nI x, nI y) h).1 (a + 4) = va_up (h.1 (a + 4)) (dP S) (nI x) := by rw [e, zsW_n _ _ (by omega), zsW_n _ _ (by omega), zsW_s]
  have e5 : (cg_X6_addPair (a, dP S, nI x, nI y) h).1 (a + 5) = va_up (h.1 (a + 5)) (dP S) (nI y) := by rw [e, zsW_n _ _ (by omega), zsW_s]
  have eo : ∀ q, q ≠ a → q ≠ a + 4 → q ≠ a + 5 → (cg_X6_addPair (a, dP S, nI x, nI y) h).1 q = h.1 q := fun q q1 q2 q3 => by rw [e, zsW_n _ _ q1, zsW_n _ _ q3, zsW_n _ _ q2]
  refine ⟨⟨?_, a2⟩, ⟨?_, by show dP S + 1 ≤ 28; omega⟩, fun r hr => ?_, fun p hp => ⟨⟨?_, ?_⟩, ?_, ?_⟩, fun k hk => ?_⟩
  · rw [e0, zup_n _ _ (by decide)]; exact a1
  · rw [e0, zup_s]; rfl
  · rw [eo _ (by omega) (by omega) (by omega), eo _ (by omega) (by omega) (by omega), eo _ (by omega) (by omega) (by omega)]; exact a5 r hr
  · show _ = nI (va_up (dF S) (dP S) x p)
    rw [e4]
    by_cases c : p = dP S
    · rw [c, zup_s, zup_s]
    · rw [zup_n _ _ c, zup_n _ _ c]; exact (a6 p (by have : p < dP S + 1 := hp; omega)).1.1
  · show va_up (dF S) (dP S) x p < dN S
    by_cases c : p = dP S
    · rw [c, zup_s]; exact hx
    · rw [zup_n _ _ c]; exact (a6 p (by have : p < dP S + 1 := hp; omega)).1.2
  · show _ = nI (va_up (dS S) (dP S) y p)
    rw [e5]
    by_cases c : p = dP S
    · rw [c, zup_s, zup_s]
    · rw [zup_n _ _ c, zup_n _ _ c]; exact (a6 p (by have : p < dP S + 1 := hp; omega)).2.1
  · show va_up (dS S) (dP S) y p < dN S
    by_cases c : p = dP S
    · rw [c, zup_s]; exact hy
    · rw [zup_n _ _ c]; exact (a6 p (by have : p < dP S + 1 := hp; omega)).2.2
  · rw [eo _ (by omega) (by omega) (by omega)]; exact a7 k hk
theorem rpS_set {S : zD} {h h' : zH} {a : Nat} (k : Nat) (v : Int32) (hr : ∀ j, j < 6 → h'.1 (a + j) = h.1 (a + j)) (h6 : h'.1 (a + 6) = va_up (h.1 (a + 6)) k v) (hS : rpS S h a) : rpS (aSt S k v) h' a := by
  obtain ⟨⟨a1, a2⟩, ⟨a3, a4⟩, a5, a6, a7⟩ := hS
  have r0 := hr 0 (by decide)
  rw [Nat.add_zero] at r0
  refine ⟨⟨by rw [r0]; exact a1, a2⟩, ⟨by rw [r0]; exact a3, a4⟩, fun r hq => ?_, fun p hp => ?_, fun j hj => ?_⟩
  · rw [hr 1 (by decide), hr 2 (by decide), hr 3 (by decide)]; exact a5 r hq
  · rw [hr 4 (by decide), hr 5 (by decide)]; exact a6 p hp
  · show _ = va_up (dT S) k v j
    rw [h6]
    by_cases c : j = k
    · rw [c, zup_s, zup_s]
    · rw [zup_n _ _ c, zup_n _ _ c]; exact a7 j hj
theorem hpr_cg {F G F' G' : Nat → Int32} {x y : Int32} {n : Nat} (h1 : ∀ i, i < n → F i = F' i) (h2 : ∀ i, i < n → G i = G' i) : hpr F G x y n = hpr F' G' x y n := by
  unfold hpr
  rw [fb_ct_cong (q := hpq F' G' x y) (fun i hi => by unfold hpq; rw [h1 i hi, h2 i hi])]
/-- the reader's state behind a line -/
def fI (S : zD) (i : Nat) : Int32 := nI (dF S i)
def gI (S : zD) (i : Nat) : Int32 := nI (dS S i)
def uL4 (T : Nat → Int32) (n : Nat) (U : zU) : zU := uSg T n (uSg T n (uW T n U) (-40) 125) (uSv T n (uW T n U)) 125
def uLn (T : Nat → Int32) (n : Nat) (U : zU) (S : zD) : zU :=
  if isW T n U 1 then uR3 T n (uW T n U) (dN S) (nI U.1) else if isW T n U 2 then uP4 (fI S) (gI S) T n (uW T n U) (dN S) (dP S) (nI U.1)
  else if isW T n U 3 then uNm T n (uW T n U) 0 999 else if isW T n U 4 then uL4 T n U else if isW T n U 5 then uW T n U
  else if isW T n U 6 then uRp T n (uW T n U) else if isW T n U 7 then uW T n U else uF (uW T n U) 1 (nI U.1)
/-- the draft behind a line without a fault -/
def sL1 (T : Nat → Int32) (n : Nat) (U : zU) (S : zD) : zD := aRg S (uNv T n (uR0 (uW T n U) (dN S) (nI U.1))) (uSv T n (uR1 T n (uW T n U) (dN S) (nI U.1))) (uNv T n (uR2 T n (uW T n U) (dN S) (nI U.1)))
def sL2 (T : Nat → Int32) (n : Nat) (U : zU) (S : zD) : zD := aPr S (uPa T n (uW T n U) (dP S) (nI U.1)).toNatClampNeg (uPb T n (uW T n U) (dN S) (dP S) (nI U.1)).toNatClampNeg
def sL4 (T : Nat → Int32) (n : Nat) (U : zU) (S : zD) : zD := aSt (aSt S 1 (uSv T n (uW T n U))) 2 (uSv T n (uSg T n (uW T n U) (-40) 125))
def sLn (T : Nat → Int32) (n : Nat) (U : zU) (S : zD) : zD :=
  if isW T n U 1 then sL1 T n U S else if isW T n U 2 then sL2 T n U S
  else if isW T n U 3 then aSt S 0 (uNv T n (uW T n U)) else if isW T n U 4 then sL4 T n U S else if isW T n U 5 then aSt S 3 1
  else if isW T n U 6 then aSt S 4 (uNv T n (uW T n U)) else if isW T n U 7 then aSt S 4 0 else S
theorem uR3_0 {T : Nat → Int32} {n : Nat} {U : zU} {nr : Nat} {q : Int32} (h : (uR3 T n U nr q).2.1 = 0) : nr ≠ 10 ∧ U.2.1 = 0 ∧ (0 ≤ uNv T n (uR0 U nr q) ∧ uNv T n (uR0 U nr q) ≤ 9999) ∧ (-99 ≤ uSv T n (uR1 T n U nr q) ∧ uSv T n (uR1 T n U nr q) ≤ 99) ∧ 0 ≤ uNv T n (uR2 T n U nr q) ∧ uNv T n (uR2 T n U nr q) ≤ 50 := by
  obtain ⟨h1, h2, h3⟩ := uNm_0 (T := T) (n := n) (U := uR2 T n U nr q) (lo := 0) (up := 50) h
  obtain ⟨h4, h5, h6⟩ := uSg_0 (T := T) (n := n) (U := uR1 T n U nr q) (lo := -99) (up := 99) h1
  obtain ⟨h7, h8, h9⟩ := uNm_0 (T := T) (n := n) (U := uR0 U nr q) (lo := 0) (up := 9999) h4
  have hn : nr ≠ 10 := fun z => by
    rw [uR0, if_pos z] at h7
    exact uF_ne (by decide) h7
  rw [uR0, if_neg hn] at h7
  exact ⟨hn, h7, ⟨h8, h9⟩, ⟨h5, h6⟩, h2, h3⟩
theorem uP4_0 {F G T : Nat → Int32} {n : Nat} {U : zU} {nr np : Nat} {q : Int32} (h : (uP4 F G T n U nr np q).2.1 = 0) : np ≠ 28 ∧ U.2.1 = 0 ∧ uPa T n U np q ≠ uPb T n U nr np q ∧ (0 ≤ uPa T n U np q ∧ uPa T n U np q ≤ nI nr - 1) ∧ 0 ≤ uPb T n U nr np q ∧ uPb T n U nr np q ≤ nI nr - 1 := by
  unfold uP4 at h
  split at h
  · exact absurd h (uF_ne (by decide))
  · unfold uP3 at h
    split at h
    · exact absurd h (uF_ne (by decide))
    · rename_i z
      have e2 : uP2 T n U nr np q = uNm T n (uP1 T n U nr np q) 0 (nI nr - 1) := rfl
      have e1 : uP1 T n U nr np q = uNm T n (uP0 U np q) 0 (nI nr - 1) := rfl
      rw [e2] at h
      obtain ⟨h1, h2, h3⟩ := uNm_0 h
      rw [e1] at h1
      obtain ⟨h4, h5, h6⟩ := uNm_0 h1
      have hn : np ≠ 28 := fun z => by
        rw [uP0, if_pos z] at h4
        exact uF_ne (by decide) h4
      rw [uP0, if_neg hn] at h4
      exact ⟨hn, h4, z, ⟨h5, h6⟩, h2, h3⟩
theorem cl_lt {x : Int32} {nr : Nat} (hr : nr ≤ 10) (h1 : 0 ≤ x) (h2 : x ≤ nI nr - 1) : x = nI x.toNatClampNeg ∧ x.toNatClampNeg < nr := by
  cases nr with
  | zero =>
    exact absurd h1 (by
      have e : nI 0 - 1 = -1 := by decide
      rw [e] at h2
      intro h1
      rw [fa_le] at h1 h2
      have e1 : (-1 : Int32).toInt = -1 := by decide
      have e2 : (0 : Int32).toInt = 0 := by decide
      omega)
  | succ m =>
    rw [nI_pred] at h2
    obtain ⟨h3, h4⟩ := nI_out (by omega) h1 h2
    exact ⟨h3, by omega⟩

