theorem dX9_count_105 : decode cX9_count 105 = .ok (.aload_n 0, 1) := by decide +kernel
theorem dX9_count_106 : decode cX9_count 106 = .ok (.getfield 18, 3) := by decide +kernel
theorem dX9_count_109 : decode cX9_count 109 = .ok (.iconst 1, 1) := by decide +kernel
theorem dX9_count_110 : decode cX9_count 110 = .ok (.aload_n 1, 1) := by decide +kernel
theorem dX9_count_111 : decode cX9_count 111 = .ok (.getfield 26, 3) := by decide +kernel
theorem dX9_count_114 : decode cX9_count 114 = .ok (.ishl, 1) := by decide +kernel
theorem dX9_count_115 : decode cX9_count 115 = .ok (.iconst 1, 1) := by decide +kernel
theorem dX9_count_116 : decode cX9_count 116 = .ok (.isub, 1) := by decide +kernel
theorem dX9_count_117 : decode cX9_count 117 = .ok (.laload, 1) := by decide +kernel
theorem dX9_count_118 : decode cX9_count 118 = .ok (.lreturn, 1) := by decide +kernel
theorem dX9_count_99 : decode cX9_count 99 = .ok (.iinc 3 1, 3) := by decide +kernel
theorem dX9_count_102 : decode cX9_count 102 = .ok (.goto (-80), 3) := by decide +kernel
theorem dX9_count_79 : decode cX9_count 79 = .ok (.iastore, 1) := by decide +kernel
theorem dX9_count_80 : decode cX9_count 80 = .ok (.aload_n 0, 1) := by decide +kernel
theorem dX9_count_81 : decode cX9_count 81 = .ok (.getfield 18, 3) := by decide +kernel
theorem dX9_count_84 : decode cX9_count 84 = .ok (.iload 5, 2) := by decide +kernel
theorem dX9_count_86 : decode cX9_count 86 = .ok (.aload_n 0, 1) := by decide +kernel
theorem dX9_count_87 : decode cX9_count 87 = .ok (.iload 5, 2) := by decide +kernel
theorem dX9_count_89 : decode cX9_count 89 = .ok (.invokevirtual 32, 3) := by decide +kernel
theorem dX9_count_92 : decode cX9_count 92 = .ok (.lastore, 1) := by decide +kernel
theorem dX9_count_93 : decode cX9_count 93 = .ok (.iinc 4 1, 3) := by decide +kernel
theorem dX9_count_96 : decode cX9_count 96 = .ok (.goto (-63), 3) := by decide +kernel
theorem dX9_count_78 : decode cX9_count 78 = .ok (.iconst 0, 1) := by decide +kernel
theorem dX9_count_33 : decode cX9_count 33 = .ok (.iload 4, 2) := by decide +kernel
theorem dX9_count_35 : decode cX9_count 35 = .ok (.iconst 1, 1) := by decide +kernel
theorem dX9_count_36 : decode cX9_count 36 = .ok (.iload_n 3, 1) := by decide +kernel
theorem dX9_count_37 : decode cX9_count 37 = .ok (.ishl, 1) := by decide +kernel
theorem dX9_count_38 : decode cX9_count 38 = .ok (.if_icmp .ge 61, 3) := by decide +kernel
theorem dX9_count_41 : decode cX9_count 41 = .ok (.iload 4, 2) := by decide +kernel
theorem dX9_count_43 : decode cX9_count 43 = .ok (.iconst 1, 1) := by decide +kernel
theorem dX9_count_44 : decode cX9_count 44 = .ok (.iload_n 3, 1) := by decide +kernel
theorem dX9_count_45 : decode cX9_count 45 = .ok (.ishl, 1) := by decide +kernel
theorem dX9_count_46 : decode cX9_count 46 = .ok (.ior, 1) := by decide +kernel
theorem dX9_count_47 : decode cX9_count 47 = .ok (.istore 5, 2) := by decide +kernel
theorem dX9_count_49 : decode cX9_count 49 = .ok (.aload_n 0, 1) := by decide +kernel
theorem dX9_count_50 : decode cX9_count 50 = .ok (.getfield 15, 3) := by decide +kernel
theorem dX9_count_53 : decode cX9_count 53 = .ok (.iload 5, 2) := by decide +kernel
theorem dX9_count_55 : decode cX9_count 55 = .ok (.aload_n 0, 1) := by decide +kernel
theorem dX9_count_56 : decode cX9_count 56 = .ok (.getfield 9, 3) := by decide +kernel
theorem dX9_count_59 : decode cX9_count 59 = .ok (.iload_n 3, 1) := by decide +kernel
theorem dX9_count_60 : decode cX9_count 60 = .ok (.iaload, 1) := by decide +kernel
theorem dX9_count_61 : decode cX9_count 61 = .ok (.iload 4, 2) := by decide +kernel
theorem dX9_count_63 : decode cX9_count 63 = .ok (.iand, 1) := by decide +kernel
theorem dX9_count_64 : decode cX9_count 64 = .ok (.ifCond .ne 14, 3) := by decide +kernel
theorem dX9_count_67 : decode cX9_count 67 = .ok (.aload_n 0, 1) := by decide +kernel
theorem dX9_count_68 : decode cX9_count 68 = .ok (.getfield 15, 3) := by decide +kernel
theorem dX9_count_71 : decode cX9_count 71 = .ok (.iload 4, 2) := by decide +kernel
theorem dX9_count_73 : decode cX9_count 73 = .ok (.iaload, 1) := by decide +kernel
theorem dX9_count_74 : decode cX9_count 74 = .ok (.ineg, 1) := by decide +kernel
theorem dX9_count_75 : decode cX9_count 75 = .ok (.goto 4, 3) := by decide +kernel
theorem dX9_count_22 : decode cX9_count 22 = .ok (.iload_n 3, 1) := by decide +kernel
theorem dX9_count_23 : decode cX9_count 23 = .ok (.aload_n 1, 1) := by decide +kernel
theorem dX9_count_24 : decode cX9_count 24 = .ok (.getfield 26, 3) := by decide +kernel
theorem dX9_count_27 : decode cX9_count 27 = .ok (.if_icmp .ge 78, 3) := by decide +kernel
theorem dX9_count_30 : decode cX9_count 30 = .ok (.iconst 0, 1) := by decide +kernel
theorem dX9_count_31 : decode cX9_count 31 = .ok (.istore 4, 2) := by decide +kernel
theorem dX9_count_0 : decode cX9_count 0 = .ok (.aload_n 0, 1) := by decide +kernel
theorem dX9_count_1 : decode cX9_count 1 = .ok (.aload_n 1, 1) := by decide +kernel
theorem dX9_count_2 : decode cX9_count 2 = .ok (.iload_n 2, 1) := by decide +kernel
theorem dX9_count_3 : decode cX9_count 3 = .ok (.invokevirtual 22, 3) := by decide +kernel
theorem dX9_count_6 : decode cX9_count 6 = .ok (.aload_n 0, 1) := by decide +kernel
theorem dX9_count_7 : decode cX9_count 7 = .ok (.getfield 15, 3) := by decide +kernel
theorem dX9_count_10 : decode cX9_count 10 = .ok (.iconst 0, 1) := by decide +kernel
theorem dX9_count_11 : decode cX9_count 11 = .ok (.iconst (-1), 1) := by decide +kernel
theorem dX9_count_12 : decode cX9_count 12 = .ok (.iastore, 1) := by decide +kernel
theorem dX9_count_13 : decode cX9_count 13 = .ok (.aload_n 0, 1) := by decide +kernel
theorem dX9_count_14 : decode cX9_count 14 = .ok (.getfield 18, 3) := by decide +kernel
theorem dX9_count_17 : decode cX9_count 17 = .ok (.iconst 0, 1) := by decide +kernel
theorem dX9_count_18 : decode cX9_count 18 = .ok (.lconst 1, 1) := by decide +kernel
theorem dX9_count_19 : decode cX9_count 19 = .ok (.lastore, 1) := by decide +kernel
theorem dX9_count_20 : decode cX9_count 20 = .ok (.iconst 0, 1) := by decide +kernel
theorem dX9_count_21 : decode cX9_count 21 = .ok (.istore_n 3, 1) := by decide +kernel
/-! who is compared with whom, bit by bit -/
theorem lkp_bit {S : zD} {B : Nat → Nat} {p : Nat} (hne : dF S p ≠ dS S p) (r q : Nat) : (lkp S B p r).testBit q = ((B r).testBit q || decide (dF S p = r ∧ dS S p = q ∨ dS S p = r ∧ dF S p = q)) := by
  unfold lkp
  by_cases e : r = dS S p
  · have e2 : r ≠ dF S p := fun z => hne (by rw [← z, e])
    rw [e, zup_s, zup_n _ _ (fun z => hne z.symm), bit_or]
    congr 1
    rw [decide_eq_decide]
    constructor
    · intro z; exact Or.inr ⟨rfl, z.symm⟩
    · rintro (z | z)
      · exact absurd z.1 hne
      · exact z.2.symm
  · rw [zup_n _ _ e]
    by_cases e2 : r = dF S p
    · rw [e2, zup_s, bit_or]
      congr 1
      rw [decide_eq_decide]
      constructor
      · intro z; exact Or.inl ⟨rfl, z.symm⟩
      · rintro (z | z)
        · exact z.2.symm
        · exact absurd z.1.symm hne
    · rw [zup_n _ _ e2]
      have : ¬ (dF S p = r ∧ dS S p = q ∨ dS S p = r ∧ dF S p = q) := by
        rintro (z | z)
        · exact e2 z.1.symm
        · exact e z.1.symm
      rw [decide_eq_false this, Bool.or_false]
def adj (S : zD) (r q i : Nat) : Bool := decide (dF S i = r ∧ dS S i = q ∨ dS S i = r ∧ dF S i = q)
theorem lnk_bit {S : zD} {m : Nat} : ∀ n, (∀ i, i < n → dF S i ≠ dS S i) → ∀ r q, (lnk S m n r).testBit q = decide (0 < fb_ct (fun i => m.testBit i && adj S r q i) n)
  | 0, _, r, q => by
    show (0 : Nat).testBit q = _
    rw [Nat.zero_testBit]
    rfl
  | n + 1, hne, r, q => by
    have ih := lnk_bit (m := m) n (fun i hi => hne i (by omega)) r q
    rw [fb_ct_succ]
    unfold lnk
    by_cases hm : m.testBit n = true
    · rw [if_pos hm, lkp_bit (hne n (by omega)), ih, hm, Bool.true_and]
      show (_ || adj S r q n) = _
      cases adj S r q n with
      | true => simp
      | false => simp
    · have hm' : m.testBit n = false := by simpa using hm
      rw [if_neg hm, ih, hm', Bool.false_and]
      simp
theorem adj_sy (S : zD) (r q i : Nat) : adj S r q i = adj S q r i := by
  unfold adj
  rw [decide_eq_decide]
  constructor
  · rintro (z | z)
    · exact Or.inr ⟨z.2, z.1⟩
    · exact Or.inl ⟨z.2, z.1⟩
  · rintro (z | z)
    · exact Or.inr ⟨z.2, z.1⟩
    · exact Or.inl ⟨z.2, z.1⟩
/-- compared masks: none with itself, both ways -/
def okB (B : Nat → Nat) : Prop := (∀ r, r < 10 → B r < 1024) ∧ (∀ r q, (B r).testBit q = (B q).testBit r) ∧ ∀ r, (B r).testBit r = false
theorem okB_lnk {S : zD} (hS : ∀ p, p < dP S → dF S p < dN S ∧ dS S p < dN S) (hN : dN S ≤ 10) (hne : ∀ p, p < dP S → dF S p ≠ dS S p) (m : Nat) : okB (lnk S m (dP S)) := by
  refine ⟨lnk_lt hN _ hS, fun r q => ?_, fun r => ?_⟩
  · rw [lnk_bit _ hne, lnk_bit _ hne]
    have : (fun i => m.testBit i && adj S r q i) = (fun i => m.testBit i && adj S q r i) := by
      funext i; rw [adj_sy]
    rw [this]
  · rw [lnk_bit _ hne]
    apply decide_eq_false
    have : fb_ct (fun i => m.testBit i && adj S r r i) (dP S) = 0 := by
      rw [fb_ct_zero]
      intro i hi
      have : adj S r r i = false := by
        apply decide_eq_false
        rintro (z | z)
        · exact hne i hi (z.1.trans z.2.symm)
        · exact hne i hi (z.2.trans z.1.symm)
      rw [this, Bool.and_false]
    omega
theorem and_zero {x y : Nat} : x &&& y = 0 ↔ ∀ i, ¬ (x.testBit i = true ∧ y.testBit i = true) := by
  constructor
  · intro h i hi
    have : (x &&& y).testBit i = false := by rw [h, Nat.zero_testBit]
    rw [Nat.testBit_and, hi.1, hi.2] at this
    cases this
  · intro h
    apply Nat.eq_of_testBit_eq
    intro i
    rw [Nat.testBit_and, Nat.zero_testBit]
    have := h i
    revert this
    cases x.testBit i <;> cases y.testBit i <;> simp
theorem ind_iff {B : Nat → Nat} {q : Nat} : ind B q = true ↔ ∀ r, r < 10 → q.testBit r = true → B r &&& q = 0 := by
  unfold ind
  rw [decide_eq_true_eq, fb_ct_zero]
  constructor
  · intro h r hr hq
    have := h r hr
    rw [hq, Bool.true_and] at this
    have := of_decide_eq_false this
    exact Classical.not_not.mp this
  · intro h r hr
    cases hq : q.testBit r with
    | false => rfl
    | true =>
      have := h r hr hq
      rw [Bool.true_and]
      exact decide_eq_false (fun z => z this)
theorem pop_top {o l : Nat} (ho : o < 2 ^ l) (hl : l < 10) : pop (o ||| 2 ^ l) = pop o + 1 := by
  have e1 : o = mk (fun i => o.testBit i) l := by
    apply Nat.eq_of_testBit_eq
    intro i
    rw [mk_bit]
    by_cases hi : i < l
    · simp [hi]
    · rw [Nat.testBit_lt_two_pow (Nat.lt_of_lt_of_le ho (Nat.pow_le_pow_right (by omega) (by omega)))]
      simp [hi]
  have e2 : o ||| 2 ^ l = mk (fun i => o.testBit i || decide (i = l)) (l + 1) := by
    apply Nat.eq_of_testBit_eq
    intro i
    rw [mk_bit, bit_or]
    by_cases hi : i < l + 1
    · simp [hi]
    · rw [Nat.testBit_lt_two_pow (Nat.lt_of_lt_of_le ho (Nat.pow_le_pow_right (by omega) (by omega)))]
      have : ¬ i = l := by omega
      simp [hi, this]
  have e3 : pop o = fb_ct (fun i => o.testBit i) l := by
    have := pop_mk (fun i => o.testBit i) (n := l) (by omega)
    rw [← e1] at this
    exact this
  rw [e2, pop_mk _ (by omega), fb_ct_succ, e3]
  congr 1
  · apply fb_ct_cong
    intro i hi
    have : ¬ i = l := by omega
    simp [this]
  · simp
theorem sgn_step {B : Nat → Nat} (hB : okB B) {o l : Nat} (ho : o < 2 ^ l) (hl : l < 10) : sgn B (o ||| 2 ^ l) = if B l &&& o = 0 then -sgn B o else 0 := by
  obtain ⟨-, b2, b3⟩ := hB
  have hbit : ∀ i, (o ||| 2 ^ l).testBit i = (o.testBit i || decide (i = l)) := fun i => bit_or
  have key : ind B (o ||| 2 ^ l) = true ↔ B l &&& o = 0 ∧ ind B o = true := by
    rw [ind_iff, ind_iff]
    constructor
    · intro h
      constructor
      · have h1 := h l hl (by rw [hbit]; simp)
        rw [and_zero] at h1 ⊢
        intro i hi
        exact h1 i ⟨hi.1, by rw [hbit, hi.2]; rfl⟩
      · intro r hr hq
        have h1 := h r hr (by rw [hbit, hq]; rfl)
        rw [and_zero] at h1 ⊢
        intro i hi
        exact h1 i ⟨hi.1, by rw [hbit, hi.2]; rfl⟩
    · rintro ⟨h0, h⟩ r hr hq
      rw [and_zero] at h0 ⊢
      rintro i ⟨hi, hj⟩
      rw [hbit] at hq hj
      by_cases hrl : r = l
      · subst hrl
        by_cases hil : i = r
        · subst hil; rw [b3] at hi; cases hi
        · simp [hil] at hj
          exact h0 i ⟨hi, hj⟩
      · simp [hrl] at hq
        by_cases hil : i = l
        · subst hil
          rw [b2] at hi
          exact h0 r ⟨hi, hq⟩
        · simp [hil] at hj
          have h1 := h r hr hq
          rw [and_zero] at h1
          exact h1 i ⟨hi, hj⟩
  unfold sgn
  by_cases h0 : B l &&& o = 0
  · rw [if_pos h0]
    by_cases hi : ind B o = true
    · rw [if_pos (key.mpr ⟨h0, hi⟩), if_pos hi, pop_top ho hl]
      by_cases hp : pop o % 2 = 1
      · rw [if_pos hp, if_neg (by omega)]
      · rw [if_neg hp, if_pos (by omega)]
        rfl
    · rw [if_neg (fun z => hi (key.mp z).2), if_neg hi]
      rfl
  · rw [if_neg h0, if_neg (fun z => h0 (key.mp z).1)]
/-- ints and longs changed only here -/
def sn (a n : Nat) (h h' : zH) : Prop := (∀ q, q < a ∨ a + n ≤ q → h'.1 q = h.1 q ∧ h'.2.1 q = h.2.1 q) ∧ h'.2.2 = h.2.2
theorem sn_refl (a n : Nat) (h : zH) : sn a n h h := ⟨fun _ _ => ⟨rfl, rfl⟩, rfl⟩
theorem sn_W {a n q : Nat} (h : zH) (f : Nat → Int32) (h1 : a ≤ q) (h2 : q < a + n) : sn a n h (zsW h q f) := ⟨fun r hr => ⟨zsW_n _ _ (by omega), rfl⟩, rfl⟩
theorem sn_I {a n q j : Nat} (h : zH) (x : Int32) (h1 : a ≤ q) (h2 : q < a + n) : sn a n h (zsI h q j x) := sn_W h _ h1 h2
theorem sn_L {a n q j : Nat} (h : zH) (x : Int64) (h1 : a ≤ q) (h2 : q < a + n) : sn a n h (zsL h q j x) := ⟨fun r hr => ⟨rfl, zup_n _ _ (by omega)⟩, rfl⟩
theorem sn_tr {a n : Nat} {h h1 h2 : zH} (s1 : sn a n h h1) (s2 : sn a n h1 h2) : sn a n h h2 := ⟨fun q hq => ⟨((s2.1 q hq).1).trans (s1.1 q hq).1, ((s2.1 q hq).2).trans (s1.1 q hq).2⟩, s2.2.trans s1.2⟩
theorem rpS_sn {S : zD} {h h' : zH} {a b n : Nat} (s : sn b n h h') (hd : a + 7 ≤ b ∨ b + n ≤ a) (hS : rpS S h a) : rpS S h' a := rpS_cg (fun k hk => (s.1 _ (by omega)).1) hS
def wys (S : zD) (m : Nat) : Int64 := wyT (lnk S m (dP S)) (2 ^ dN S - 1) (2 ^ dN S - 1)
def wI (B : Nat → Nat) (h : zH) (w s : Nat) (h1 : zH) : Prop := sn w 4 h h1 ∧ (∀ r, r < 10 → h1.1 (w + 1) r = nI (B r)) ∧ (∀ j, j < s → h1.1 (w + 2) j = sgn B j) ∧ ∀ j, j < s → h1.2.1 (w + 3) j = wyT B (s - 1) j
theorem wI_step {B : Nat → Nat} {h h1 : zH} {w s : Nat} (hI : wI B h w (s + 1) h1) : wI B h w (s + 2) (zsL (zsI h1 (w + 2) (s + 1) (sgn B (s + 1))) (w + 3) (s + 1) (sW B (wyT B s) (s + 1) (s + 1) 0)) := by
  obtain ⟨i1, i2, i3, i4⟩ := hI
  refine ⟨sn_tr (sn_tr i1 (sn_I _ _ (by omega) (by omega))) (sn_L _ _ (by omega) (by omega)), fun r hr => ?_, fun j hj => ?_, fun j hj => ?_⟩
  · show (zsI h1 (w + 2) (s + 1) _).1 (w + 1) r = _
    rw [zsI_W, zsW_n _ _ (by omega)]
    exact i2 r hr
  · show (zsI h1 (w + 2) (s + 1) _).1 (w + 2) j = _
    rw [zsI_W, zsW_s]
    by_cases e : j = s + 1
    · rw [e, zup_s]
    · rw [zup_n _ _ e]; exact i3 j (by omega)
  · show va_up h1.2.1 (w + 3) (va_up (h1.2.1 (w + 3)) (s + 1) _) (w + 3) j = va_up (wyT B s) (s + 1) _ j
    rw [zup_s]
    by_cases e : j = s + 1
    · rw [e, zup_s, zup_s]
    · rw [zup_n _ _ e, zup_n _ _ e]; exact i4 j (by omega)
theorem sgn_0 (B : Nat → Nat) : sgn B 0 = -1 := by
  have h1 : ind B 0 = true := by
    rw [ind_iff]
    intro r _ h
    rw [Nat.zero_testBit] at h
    cases h
  have h2 : pop 0 % 2 = 0 := by decide +kernel
  rw [sgn, if_pos h1, if_neg (by omega)]
theorem or_top {o l : Nat} (ho : o < 2 ^ l) : o ||| 2 ^ l = 2 ^ l + o := by
  have h1 := Nat.two_pow_add_eq_or_of_lt ho 1
  rw [Nat.mul_one] at h1
  rw [Nat.or_comm]
  exact h1.symm
def ca_X9_count : (zD × Nat × Nat × Nat) → List zV := fun (S, w, a, m) => [vR 18 0 w, vR 15 0 a, vI (nI m)]
def cp_X9_count : (zD × Nat × Nat × Nat) → zH → Prop := fun (S, w, a, m) h => rpS S h a ∧ vS S ∧ m < 2 ^ 28 ∧ (w + 4 ≤ a ∨ a + 7 ≤ w)
def cq_X9_count : (zD × Nat × Nat × Nat) → zH → Option zV → zH → Prop := fun (S, w, a, m) h r h' => r = some (vL (wys S m)) ∧ sn w 4 h h'
theorem rc_X9_count : ∀ x : (zD × Nat × Nat × Nat), ∃ (j a : Nat) (As : List zV), ca_X9_count x = vR (10 + 8) j a :: As := by
  rintro ⟨S, w, a, m⟩
  exact ⟨_, _, _, rfl⟩
set_option maxHeartbeats 4000000 in
set_option maxRecDepth 100000 in
theorem m_X9_count : zM yX9_count cX9_count 6 (some .long) ({ frames := 2, cells := 0, slots := 0, locals := 44 } : Room) ((ca_X9_count, cp_X9_count, cq_X9_count) : zC (zD × Nat × Nat × Nat)) := by
  refine zM_of (by decide) ?_
  rintro X Y ⟨S, w, a, m⟩ h ⟨hS, hv, hm, hd⟩ O E hR
  have hS : rpS S h a := hS
  have hm : m < 2 ^ 28 := hm
  have hv : vS S := hv
  have hN : dN S ≤ 10 := hS.1.2
  have hB : okB (lnk S m (dP S)) := okB_lnk (fun p hp => ⟨(hS.2.2.2.1 p hp).1.2, (hS.2.2.2.1 p hp).2.2⟩) hN hv.2.1 m
  have B_105 := zr_aload_n (X := X) (Y := Y) (u := 0) (v := 0) O dX9_count_105 rfl (zr_gS (ci := 8) (j := 2) (off := 3) (t := 3) (n := 1024) O zc_8 (by decide) rfl tw_265 dX9_count_106 (zr_iconst (x := 1) O dX9_count_109 rfl (zr_aload_n O dX9_count_110 rfl (zr_gI (ci := 5) (j := 0) O zc_5 (by decide) rfl tw_47 dX9_count_111 (zr_ishl O dX9_count_114 (zr_iconst (x := 1) O dX9_count_115 rfl (zr_isub O dX9_count_116 (zr_lald O dX9_count_117 (zr_lreturn O E (Nat.le_refl _) (Nat.le_refl _) dX9_count_118)))))))))
  have L_22 : ∀ nn : Nat, zSd X Y 0 0 22 ((fun k ls st h1 => ∃ (l : Nat) (z : Int32) (y4 y5 : Option zV), k = dN S - l ∧ l ≤ dN S ∧ ls = [some (vR 18 0 w), some (vR 15 0 a), some (vI (nI m)), some (vI z), y4, y5] ∧ z = nI l ∧ st = [] ∧ wI (lnk S m (dP S)) h w (2 ^ l) h1 : Nat → zT) nn) := by
    refine zSd_loop (fun nn ih => ?_)
    have B_99 := zr_iinc (X := X) (Y := Y) (u := 0) (v := 0) (c := 1) O dX9_count_99 rfl (zr_goto (tgt := 22) O dX9_count_102 rfl ih)
    have L_33 : ∀ nn33 : Nat, zSd X Y 0 0 33 ((fun k ls st h1 => ∃ (l o : Nat) (z y : Int32) (y5 : Option zV), nn = dN S - l ∧ l < dN S ∧ k = 2 ^ l - o ∧ o ≤ 2 ^ l ∧ ls = [some (vR 18 0 w), some (vR 15 0 a), some (vI (nI m)), some (vI z), some (vI y), y5] ∧ z = nI l ∧ y = nI o ∧ st = [] ∧ wI (lnk S m (dP S)) h w (2 ^ l + o) h1 : Nat → zT) nn33) := by
      refine zSd_loop (fun nn33 ih33 => ?_)
      have B_79 := zr_iast (X := X) (Y := Y) (u := 0) (v := 0) O dX9_count_79 (zr_aload_n O dX9_count_80 rfl (zr_gS (ci := 8) (j := 2) (off := 3) (t := 3) (n := 1024) O zc_8 (by decide) rfl tw_265 dX9_count_81 (zr_iload O dX9_count_84 (zr_aload_n O dX9_count_86 rfl (zr_iload O dX9_count_87 (zr_cL (zr_cV (ci := 8) (n := 1) O m_X9_countOf (bn_X9_countOf _ ⟨rfl, rfl⟩) vw_X9_countOf tw_1101 rc_X9_countOf (zrm hR rfl rfl) dX9_count_89 (zr_last O dX9_count_92 (zr_iinc (c := 1) O dX9_count_93 rfl (zr_goto (tgt := 33) O dX9_count_96 rfl ih33))))))))))
      have B_78 := zr_iconst (X := X) (Y := Y) (u := 0) (v := 0) (x := 0) O dX9_count_78 rfl (B_79)
      have B_33 := zr_iload (X := X) (Y := Y) (u := 0) (v := 0) O dX9_count_33 (zr_iconst (x := 1) O dX9_count_35 rfl (zr_iload_n O dX9_count_36 rfl (zr_ishl O dX9_count_37 (zr_icge (tgt := 99) O dX9_count_38 rfl B_99 (zr_iload O dX9_count_41 (zr_iconst (x := 1) O dX9_count_43 rfl (zr_iload_n O dX9_count_44 rfl (zr_ishl O dX9_count_45 (zr_ior O dX9_count_46 (zr_istore O dX9_count_47 (zr_aload_n O dX9_count_49 rfl (zr_gS (ci := 8) (j := 1) (off := 2) (t := 1) (n := 1024) O zc_8 (by decide) rfl tw_264 dX9_count_50 (zr_iload O dX9_count_53 (zr_aload_n O dX9_count_55 rfl (zr_gS (ci := 8) (j := 0) (off := 1) (t := 1) (n := 10) O zc_8 (by decide) rfl tw_263 dX9_count_56 (zr_iload_n O dX9_count_59 rfl (zr_iald O dX9_count_60 (zr_iload O dX9_count_61 (zr_iand O dX9_count_63 (zr_ifne (tgt := 78) O dX9_count_64 rfl B_78 (zr_aload_n O dX9_count_67 rfl (zr_gS (ci := 8) (j := 1) (off := 2) (t := 1) (n := 1024) O zc_8 (by decide) rfl tw_264 dX9_count_68 (zr_iload O dX9_count_71 (zr_iald O dX9_count_73 (zr_ineg O dX9_count_74 (zr_goto (tgt := 79) O dX9_count_75 rfl B_79))))))))))))))))))))))))))
      refine zSd_weak B_33 (fun ls st h1 t => ?_)
      obtain ⟨l, o, z, y, y5, hnn, hl, rfl, ho, rfl, rfl, rfl, rfl, hI⟩ := t
      have hl10 : l < 10 := by omega
      have hp : 2 ^ l ≤ 2 ^ 9 := Nat.pow_le_pow_right (by omega) (by omega)
      have hp0 : 0 < 2 ^ l := Nat.two_pow_pos _
      have hp2 : 2 ^ (l + 1) = 2 ^ l + 2 ^ l := by rw [Nat.pow_succ]; omega
      refine ⟨fun cq => ?_, fun cq => ?_⟩
      · rw [nI_pow (by omega)] at cq
        have := (nI_leI (by omega) (by omega)).mp cq
        have e : 2 ^ l + o = 2 ^ (l + 1) := by omega
        rw [e] at hI
        exact ⟨dN S - (l + 1), by omega, l + 1, _, _, _, rfl, by omega, rfl, nI_1 l, rfl, hI⟩
      · rw [nI_pow (by omega)] at cq
        have ho2 : o < 2 ^ l := Nat.not_le.mp (fun z => cq ((nI_leI (by omega) (by omega)).mpr z))
        have eR : nI o ||| ((1 : Int32) <<< (nI l &&& 31)) = nI (2 ^ l + o) := by rw [nI_pow (by omega), fa_or, or_top ho2]
        have es := sgn_step hB ho2 hl10
        rw [or_top ho2] at es
        have lB := hB.1 l hl10
        have lA : lnk S m (dP S) l &&& o ≤ o := Nat.and_le_right
        obtain ⟨s, hs⟩ : ∃ s, 2 ^ l + o = s + 1 := ⟨2 ^ l + o - 1, by omega⟩
        have hs2 : 2 ^ l + (o + 1) = s + 2 := by omega
        have eL : h1.1 (w + 1) l &&& nI o = nI (lnk S m (dP S) l &&& o) := by rw [hI.2.1 l hl10, fa_and]
        rw [hs] at hI es eR
        have hst := wI_step hI
        have hlt : s + 1 < 1024 := by omega
        refine ⟨l, rfl, hl10, fun dq => ?_, fun dq => ⟨o, rfl, by omega, ?_⟩⟩
        · rw [eL] at dq
          have h0 : ¬ lnk S m (dP S) l &&& o = 0 := fun z => dq (by rw [z]; rfl)
          rw [if_neg h0] at es
          refine ⟨s + 1, eR, hlt, (lnk S m (dP S), wyT (lnk S m (dP S)) s, w, s + 1), by rw [eR]; rfl, ⟨hlt, fun j hj => ?_, fun j hj => hI.2.2.2 j hj⟩, s + 1, eR, hlt, 2 ^ l - (o + 1), by omega, l, o + 1, _, _, _, hnn, hl, rfl, by omega, rfl, rfl, nI_1 o, rfl, ?_⟩
          · rw [zsI_W, zsW_s]
            by_cases e : j = s + 1
            · rw [e, zup_s]; exact es.symm
            · rw [zup_n _ _ e]; exact hI.2.2.1 j (by omega)
          · rw [hs2]
            rw [es] at hst
            exact hst
        · rw [eL] at dq
          have h0 : lnk S m (dP S) l &&& o = 0 := (nI_eq (b := 0) (by omega) (by omega)).mp dq
          rw [if_pos h0] at es
          have eo := hI.2.2.1 o (by omega)
          refine ⟨s + 1, eR, hlt, (lnk S m (dP S), wyT (lnk S m (dP S)) s, w, s + 1), by rw [eR]; rfl, ⟨hlt, fun j hj => ?_, fun j hj => hI.2.2.2 j hj⟩, s + 1, eR, hlt, 2 ^ l - (o + 1), by omega, l, o + 1, _, _, _, hnn, hl, rfl, by omega, rfl, rfl, nI_1 o, rfl, ?_⟩
          · rw [zsI_W, zsW_s]
            by_cases e : j = s + 1
            · rw [e, zup_s, eo]; exact es.symm
            · rw [zup_n _ _ e]; exact hI.2.2.1 j (by omega)
          · rw [hs2, eo]
            rw [es] at hst
            exact hst
    have B_33 := zSd_any L_33
    have B_22 := zr_iload_n (X := X) (Y := Y) (u := 0) (v := 0) O dX9_count_22 rfl (zr_aload_n O dX9_count_23 rfl (zr_gI (ci := 5) (j := 0) O zc_5 (by decide) rfl tw_47 dX9_count_24 (zr_icge (tgt := 105) O dX9_count_27 rfl B_105 (zr_iconst (x := 0) O dX9_count_30 rfl (zr_istore O dX9_count_31 (B_33))))))
    refine zSd_weak B_22 (fun ls st h1 t => ?_)
    obtain ⟨l, z, y4, y5, rfl, hl, rfl, rfl, rfl, hI⟩ := t
    have hS2 : rpS S h1 a := rpS_sn hI.1 (by omega) hS
    refine ⟨fun cq => ?_, fun cq => ?_⟩
    · rw [hS2.1.1] at cq
      have := (nI_leI (by omega) (by omega)).mp cq
      have hll : l = dN S := by omega
      subst hll
      have hp : 2 ^ dN S ≤ 2 ^ 10 := Nat.pow_le_pow_right (by omega) hN
      have hp0 : 0 < 2 ^ dN S := Nat.two_pow_pos _
      refine ⟨2 ^ dN S - 1, by rw [hS2.1.1]; exact nI_lo (by omega), by omega, zrl ?_, hI.1⟩
      exact hI.2.2.2 _ (by omega)
    · rw [hS2.1.1] at cq
      have hl2 : l < dN S := Nat.not_le.mp (fun z => cq ((nI_leI (by omega) (by omega)).mpr z))
      exact ⟨2 ^ l - 0, l, 0, _, _, _, rfl, hl2, rfl, Nat.zero_le _, rfl, rfl, rfl, rfl, hI⟩
  have B_22 := zSd_any L_22
  have B_0 := zr_aload_n (X := X) (Y := Y) (u := 0) (v := 0) O dX9_count_0 rfl (zr_aload_n O dX9_count_1 rfl (zr_iload_n O dX9_count_2 rfl (zr_cV (ci := 8) (n := 2) O m_X9_link (bn_X9_link _ ⟨rfl, rfl⟩) vw_X9_link tw_1096 rc_X9_link (zrm hR rfl rfl) dX9_count_3 (zr_aload_n O dX9_count_6 rfl (zr_gS (ci := 8) (j := 1) (off := 2) (t := 1) (n := 1024) O zc_8 (by decide) rfl tw_264 dX9_count_7 (zr_iconst (x := 0) O dX9_count_10 rfl (zr_iconst (x := (-1)) O dX9_count_11 rfl (zr_iast O dX9_count_12 (zr_aload_n O dX9_count_13 rfl (zr_gS (ci := 8) (j := 2) (off := 3) (t := 3) (n := 1024) O zc_8 (by decide) rfl tw_265 dX9_count_14 (zr_iconst (x := 0) O dX9_count_17 rfl (zr_lconst (x := 1) O dX9_count_18 rfl (zr_last O dX9_count_19 (zr_iconst (x := 0) O dX9_count_20 rfl (zr_istore_n O dX9_count_21 rfl (B_22))))))))))))))))
  refine ⟨rfl, Nat.le_of_ble_eq_true rfl, _, B_0, ?_⟩
  refine ⟨(S, w, a, m), rfl, ⟨hS, hm, by omega⟩, fun r h' hq => ?_⟩
  obtain ⟨rfl, f, rfl, hf⟩ := hq
  refine ⟨0, rfl, by decide, 0, rfl, by decide, dN S - 0, 0, _, _, _, rfl, Nat.zero_le _, rfl, rfl, rfl, ?_⟩
  refine ⟨sn_tr (sn_tr (sn_W _ _ (by omega) (by omega)) (sn_I _ _ (by omega) (by omega))) (sn_L _ _ (by omega) (by omega)), fun r hr => ?_, fun j hj => ?_, fun j hj => ?_⟩
  · show (zsI (zsW h (w + 1) f) (w + 2) 0 (-1)).1 (w + 1) r = _
    rw [zsI_W, zsW_n _ _ (by omega), zsW_s]
    exact hf r hr
  · have hj0 : j = 0 := by omega
    show (zsI (zsW h (w + 1) f) (w + 2) 0 (-1)).1 (w + 2) j = _
    rw [zsI_W, zsW_s, hj0, zup_s, sgn_0]
  · have hj0 : j = 0 := by omega
    show va_up h.2.1 (w + 3) (va_up (h.2.1 (w + 3)) 0 1) (w + 3) j = _
    rw [zup_s, hj0, zup_s]
    rfl

