/-! closures: the class closes at each step, the reference at the end -/
def clo (E : Nat → Nat → Prop) (B : Nat → Nat) : Prop := (∀ i j, E i j → (B i).testBit j = true) ∧ (∀ i m j, (B i).testBit m = true → (B m).testBit j = true → (B i).testBit j = true) ∧ ∀ Q : Nat → Nat → Prop, (∀ i j, E i j → Q i j) → (∀ i m j, Q i m → Q m j → Q i j) → ∀ i j, (B i).testBit j = true → Q i j
def edg (E : Nat → Nat → Prop) (B : Nat → Nat) : Prop := ∀ i j, (B i).testBit j = true ↔ E i j
def eadd (E : Nat → Nat → Prop) (a b : Nat) : Nat → Nat → Prop := fun i j => E i j ∨ (i = a ∧ j = b)
theorem clo_uniq {E : Nat → Nat → Prop} {B C : Nat → Nat} (hB : clo E B) (hC : clo E C) : B = C := by
  funext i
  apply Nat.eq_of_testBit_eq
  intro j
  have h1 := hB.2.2 (fun i j => (C i).testBit j = true) hC.1 hC.2.1 i j
  have h2 := hC.2.2 (fun i j => (B i).testBit j = true) hB.1 hB.2.1 i j
  cases hx : (B i).testBit j with
  | true => exact (h1 hx).symm
  | false =>
    cases hy : (C i).testBit j with
    | true => rw [h2 hy] at hx; cases hx
    | false => rfl
theorem z0b (j : Nat) : ¬ (0 : Nat).testBit j = true := by rw [Nat.zero_testBit]; decide
theorem clo_0 : clo (fun _ _ => False) (fun _ => 0) := ⟨fun _ _ z => z.elim, fun _ m _ z _ => absurd z (z0b m), fun _ _ _ _ j z => absurd z (z0b j)⟩
theorem edg_0 : edg (fun _ _ => False) (fun _ => 0) := fun _ j => ⟨fun z => absurd z (z0b j), fun z => z.elim⟩
theorem mput_b (B : Nat → Nat) (a b i j : Nat) : (mput B a b i).testBit j = true ↔ (B i).testBit j = true ∨ (i = a ∧ j = b) := by
  unfold mput
  by_cases e : i = a
  · rw [if_pos e, Nat.testBit_or, Nat.testBit_two_pow, Bool.or_eq_true, decide_eq_true_iff]
    exact ⟨fun z => z.imp id (fun w => ⟨e, w.symm⟩), fun z => z.imp id (fun w => w.2.symm)⟩
  · rw [if_neg e]
    exact ⟨Or.inl, fun z => z.elim id (fun w => absurd w.1 e)⟩
theorem edg_put {E : Nat → Nat → Prop} {B : Nat → Nat} (a b : Nat) (h : edg E B) : edg (eadd E a b) (mput B a b) := fun i j => by rw [mput_b, h i j]; rfl
theorem oput_b {B : Nat → Nat} {f b : Nat} (h : ¬ (B f).testBit b = true) (i j : Nat) : (oput B f b i).testBit j = true ↔ (B i).testBit j = true ∨ ((i = f ∨ (B i).testBit f = true) ∧ ((B b).testBit j = true ∨ j = b)) := by
  unfold oput
  rw [if_neg h]
  show (if i = f ∨ (B i).testBit f = true then B i ||| (B b ||| 2 ^ b) else B i).testBit j = true ↔ _
  by_cases e : i = f ∨ (B i).testBit f = true
  · rw [if_pos e, Nat.testBit_or, Nat.testBit_or, Nat.testBit_two_pow, Bool.or_eq_true, Bool.or_eq_true, decide_eq_true_iff]
    exact ⟨fun z => z.imp id (fun w => ⟨e, w.imp id Eq.symm⟩), fun z => z.imp id (fun w => w.2.imp id Eq.symm)⟩
  · rw [if_neg e]
    exact ⟨Or.inl, fun z => z.elim id (fun w => absurd w.1 e)⟩
theorem clo_put {E : Nat → Nat → Prop} {B : Nat → Nat} (f b : Nat) (h : clo E B) : clo (eadd E f b) (oput B f b) := by
  obtain ⟨h1, h2, h3⟩ := h
  by_cases c : (B f).testBit b = true
  · have e : oput B f b = B := by unfold oput; rw [if_pos c]
    rw [e]
    refine ⟨fun i j z => ?_, h2, fun Q q1 q2 => h3 Q (fun i j z => q1 i j (Or.inl z)) q2⟩
    rcases z with z | ⟨rfl, rfl⟩
    · exact h1 i j z
    · exact c
  · refine ⟨fun i j z => ?_, fun i m j z1 z2 => ?_, fun Q q1 q2 i j z => ?_⟩
    · rw [oput_b c]
      rcases z with z | ⟨rfl, rfl⟩
      · exact Or.inl (h1 i j z)
      · exact Or.inr ⟨Or.inl rfl, Or.inr rfl⟩
    · rw [oput_b c] at z1 z2 ⊢
      rcases z1 with z1 | ⟨z1, w1⟩
      · rcases z2 with z2 | ⟨z2, w2⟩
        · exact Or.inl (h2 i m j z1 z2)
        · refine Or.inr ⟨Or.inr ?_, w2⟩
          rcases z2 with z2 | z2
          · rw [← z2]; exact z1
          · exact h2 i m f z1 z2
      · rcases z2 with z2 | ⟨z2, w2⟩
        · refine Or.inr ⟨z1, Or.inl ?_⟩
          rcases w1 with w1 | w1
          · exact h2 b m j w1 z2
          · rw [← w1]; exact z2
        · exact Or.inr ⟨z1, w2⟩
    · rw [oput_b c] at z
      have hm := h3 Q (fun i j z => q1 i j (Or.inl z)) q2
      rcases z with z | ⟨z, w⟩
      · exact hm i j z
      · have e1 : Q f b := q1 f b (Or.inr ⟨rfl, rfl⟩)
        have e2 : Q i b := by
          rcases z with z | z
          · rw [z]; exact e1
          · exact q2 i f b (hm i f z) e1
        rcases w with w | w
        · exact q2 i b j e2 (hm b j w)
        · rw [w]; exact e2
theorem mrw_row (B : Nat → Nat) (k : Nat) : ∀ r i, mrw B k r i = if i < r ∧ (B i).testBit k = true then B i ||| B k else B i
  | 0, i => by rw [if_neg (by omega)]; rfl
  | r + 1, i => by
    have ih := mrw_row B k r
    have ek : mrw B k r k = B k := by
      rw [ih k]
      split
      · exact Nat.or_self _
      · rfl
    have er : mrw B k r r = B r := by rw [ih r, if_neg (by omega)]
    rw [mrw, mst, er, ek]
    by_cases c : (B r).testBit k = true
    · rw [if_pos c]
      show (if i = r then mrw B k r i ||| B k else mrw B k r i) = _
      by_cases e : i = r
      · rw [if_pos e, e, er, if_pos ⟨by omega, c⟩]
      · rw [if_neg e, ih i]
        by_cases d : i < r ∧ (B i).testBit k = true
        · rw [if_pos d, if_pos ⟨by omega, d.2⟩]
        · rw [if_neg d, if_neg (fun z => d ⟨by omega, z.2⟩)]
    · rw [if_neg c, ih i]
      by_cases d : i < r ∧ (B i).testBit k = true
      · rw [if_pos d, if_pos ⟨by omega, d.2⟩]
      · rw [if_neg d, if_neg]
        rintro ⟨z1, z2⟩
        by_cases e : i = r
        · rw [e] at z2; exact c z2
        · exact d ⟨by omega, z2⟩
theorem mcl_b (N : Nat) (B : Nat → Nat) (k i j : Nat) : (mcl N B (k + 1) i).testBit j = true ↔ (mcl N B k i).testBit j = true ∨ (i < N ∧ (mcl N B k i).testBit k = true ∧ (mcl N B k k).testBit j = true) := by
  rw [mcl, mrw_row]
  by_cases c : i < N ∧ (mcl N B k i).testBit k = true
  · rw [if_pos c, Nat.testBit_or, Bool.or_eq_true]
    exact ⟨fun z => z.imp id (fun w => ⟨c.1, c.2, w⟩), fun z => z.imp id (fun w => w.2.2)⟩
  · rw [if_neg c]
    exact ⟨Or.inl, fun z => z.elim id (fun w => absurd ⟨w.1, w.2.1⟩ c)⟩
theorem mcl_in {N : Nat} {B : Nat → Nat} {Q : Nat → Nat → Prop} (q1 : ∀ i j, (B i).testBit j = true → Q i j) (q2 : ∀ i m j, Q i m → Q m j → Q i j) : ∀ k i j, (mcl N B k i).testBit j = true → Q i j
  | 0, i, j, z => q1 i j z
  | k + 1, i, j, z => by
    rw [mcl_b] at z
    rcases z with z | ⟨-, z1, z2⟩
    · exact mcl_in q1 q2 k i j z
    · exact q2 i k j (mcl_in q1 q2 k i k z1) (mcl_in q1 q2 k k j z2)
theorem mcl_up {N : Nat} {B : Nat → Nat} : ∀ k i j, (B i).testBit j = true → (mcl N B k i).testBit j = true
  | 0, _, _, z => z
  | k + 1, i, j, z => by rw [mcl_b]; exact Or.inl (mcl_up k i j z)
theorem mcl_tr {N : Nat} {B : Nat → Nat} : ∀ k, k ≤ N → ∀ i m j, i < N → m < N → m < k → (mcl N B k i).testBit m = true → (mcl N B k m).testBit j = true → (mcl N B k i).testBit j = true
  | 0, _, _, _, _, _, _, hk, _, _ => absurd hk (Nat.not_lt_zero _)
  | k + 1, hkN, i, m, j, hi, hm, hk, z1, z2 => by
    rw [mcl_b] at z1 z2 ⊢
    have ih := mcl_tr (N := N) (B := B) k (by omega)
    by_cases e : m = k
    · subst e
      refine Or.inr ⟨hi, z1.elim id (fun w => w.2.1), z2.elim id (fun w => w.2.2)⟩
    · have hmk : m < k := by omega
      rcases z1 with z1 | ⟨-, z1, w1⟩
      · rcases z2 with z2 | ⟨-, z2, w2⟩
        · exact Or.inl (ih i m j hi hm hmk z1 z2)
        · exact Or.inr ⟨hi, ih i m k hi hm hmk z1 z2, w2⟩
      · rcases z2 with z2 | ⟨-, z2, w2⟩
        · exact Or.inr ⟨hi, z1, ih k m j (by omega) hm hmk w1 z2⟩
        · exact Or.inr ⟨hi, z1, w2⟩
theorem clo_mcl {E : Nat → Nat → Prop} {B : Nat → Nat} {N : Nat} (hE : ∀ i j, E i j → i < N ∧ j < N) (h : edg E B) : clo E (mcl N B N) := by
  have hN : ∀ i j, (mcl N B N i).testBit j = true → i < N ∧ j < N := mcl_in (Q := fun i j => i < N ∧ j < N) (fun i j z => hE i j ((h i j).mp z)) (fun i m j z1 z2 => ⟨z1.1, z2.2⟩) N
  refine ⟨fun i j z => mcl_up N i j ((h i j).mpr z), fun i m j z1 z2 => mcl_tr N (Nat.le_refl _) i m j (hN i m z1).1 (hN i m z1).2 (hN i m z1).2 z1 z2, fun Q q1 q2 i j z => mcl_in (fun i j z => q1 i j ((h i j).mp z)) q2 N i j z⟩
/-- the edges of what is heard -/
def ehr (S : zD) (M : zG) (E : Nat → Nat → Prop) : Nat → (Nat → Nat → Prop)
  | 0 => E
  | i + 1 => eadd (ehr S M E i) (if gB M i then dF S (gP M i) else dS S (gP M i)) (if gB M i then dS S (gP M i) else dF S (gP M i))
theorem mpuP_e (S : zD) (B : Nat → Nat) (p : Nat) (w : Bool) : mpuP S B p w = mput B (if w then dF S p else dS S p) (if w then dS S p else dF S p) := by cases w <;> rfl
theorem oputP_e (S : zD) (B : Nat → Nat) (p : Nat) (w : Bool) : oputP S B p w = oput B (if w then dF S p else dS S p) (if w then dS S p else dF S p) := by cases w <;> rfl
theorem edg_hr {S : zD} {M : zG} {E : Nat → Nat → Prop} {B : Nat → Nat} (h : edg E B) : ∀ n, edg (ehr S M E n) (mhr S M B n)
  | 0 => h
  | n + 1 => by rw [mhr, mpuP_e]; exact edg_put _ _ (edg_hr h n)
theorem clo_lod (S : zD) (M : zG) : ∀ n, clo (ehr S M (fun _ _ => False) n) (lod S M n)
  | 0 => clo_0
  | n + 1 => by rw [lod, oputP_e]; exact clo_put _ _ (clo_lod S M n)
theorem ehr_lt {S : zD} {M : zG} {E : Nat → Nat → Prop} {N : Nat} (hE : ∀ i j, E i j → i < N ∧ j < N) : ∀ n, (∀ i, i < n → dF S (gP M i) < N ∧ dS S (gP M i) < N) → ∀ i j, ehr S M E n i j → i < N ∧ j < N
  | 0, _ => hE
  | n + 1, hp => by
    intro i j z
    rcases z with z | ⟨z1, z2⟩
    · exact ehr_lt hE n (fun i hi => hp i (by omega)) i j z
    · obtain ⟨q1, q2⟩ := hp n (by omega)
      rw [z1, z2]
      cases gB M n with
      | true => exact ⟨q1, q2⟩
      | false => exact ⟨q2, q1⟩
/-- what the reference closes at the end is what the class closes at each step -/
theorem mhd_lod {S : zD} {M : zG} (hp : ∀ i, i < gN M → dF S (gP M i) < dN S ∧ dS S (gP M i) < dN S) : mhd S M = lod S M (gN M) :=
  clo_uniq (clo_mcl (ehr_lt (fun _ _ z => z.elim) _ hp) (edg_hr edg_0 _)) (clo_lod S M _)
/-- one more pair -/
theorem mhd_one {S : zD} {M : zG} {p : Nat} {w : Bool} (hp : ∀ i, i < gN M → dF S (gP M i) < dN S ∧ dS S (gP M i) < dN S) (h1 : dF S p < dN S) (h2 : dS S p < dN S) : mcl (dN S) (mpuP S (mhr S M (fun _ => 0) (gN M)) p w) (dN S) = oputP S (lod S M (gN M)) p w := by
  rw [mpuP_e, oputP_e]
  refine clo_uniq (clo_mcl ?_ (edg_put _ _ (edg_hr edg_0 _))) (clo_put _ _ (clo_lod S M _))
  intro i j z
  rcases z with z | ⟨z1, z2⟩
  · exact ehr_lt (fun _ _ z => z.elim) _ hp i j z
  · rw [z1, z2]
    cases w with
    | true => exact ⟨h1, h2⟩
    | false => exact ⟨h2, h1⟩

