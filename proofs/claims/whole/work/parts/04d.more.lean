section ZM
variable {X : zX} {Y : zY} {u v pc : Nat} {cc : ByteArray} {own : String} {k : zT}
def zi_iushr (k : zT) : zT := fun ls st h => match st with
  | .inl y :: .inl x :: st' => k ls (.inl (x.toUInt32 >>> (y.toUInt32 &&& Int32.toUInt32 31)).toInt32 :: st') h
  | _ => False
theorem zr_iushr (O : zOK X Y cc own) (d : decode cc pc = .ok (.iushr, 1)) (hk : zSd X Y u v (pc + 1) k) : zSd X Y u v pc (zi_iushr k) := by
  intro ls st h t H locs lsA hR hL hv hS
  rcases st with _ | ⟨y | _, _ | ⟨x | _, st⟩⟩ <;> first | exact False.elim t | skip
  exact lv_iushr O.1 O.2.1 d rfl (hk _ _ _ t H locs lsA hR hL (zqc trivial (zq2 hv)) hS)
/-! two roads that meet again with one int each on the stack -/
theorem zmg {c : Prop} [Decidable c] {ls : zL} {st : List zV} {h : zH} {x y : Int32} (hk : k ls (.inl (if c then x else y) :: st) h) : (c → k ls (.inl x :: st) h) ∧ (¬ c → k ls (.inl y :: st) h) :=
  ⟨fun q => by rwa [if_pos q] at hk, fun q => by rwa [if_neg q] at hk⟩
theorem zmn {c : Prop} [Decidable c] {ls : zL} {st : List zV} {h : zH} {x y : Int32} (hk : k ls (.inl (if c then x else y) :: st) h) : (¬ c → k ls (.inl y :: st) h) ∧ (c → k ls (.inl x :: st) h) :=
  ⟨fun q => by rwa [if_neg q] at hk, fun q => by rwa [if_pos q] at hk⟩
/-- the last condition of the two turned: x unless c -/
theorem zmt {c : Prop} [Decidable c] {ls : zL} {st : List zV} {h : zH} {x y : Int32} (hk : k ls (.inl (if c then y else x) :: st) h) : (c → k ls (.inl y :: st) h) ∧ (¬ c → k ls (.inl x :: st) h) := zmg hk
/-- c or d: x, else y -/
theorem zmo {c d : Prop} [Decidable c] [Decidable d] {ls : zL} {st : List zV} {h : zH} {x y : Int32} (hk : k ls (.inl (if c ∨ d then x else y) :: st) h) : (c → k ls (.inl x :: st) h) ∧ (¬ c → ((¬ d → k ls (.inl y :: st) h) ∧ (d → k ls (.inl x :: st) h))) := by
  refine ⟨fun q => by rwa [if_pos (Or.inl q)] at hk, fun q => ⟨fun q2 => ?_, fun q2 => ?_⟩⟩
  · rwa [if_neg (fun z => z.elim q q2)] at hk
  · rwa [if_pos (Or.inr q2)] at hk
theorem zex {c : Prop} {A B : Prop} (h : c → A) (h2 : ¬ c → B) : (c → A) ∧ (¬ c → B) := ⟨h, h2⟩
end ZM
def mn2 (x y : Int32) : Int32 := if y < x then y else x
def mx2 (x y : Int32) : Int32 := if x < y then y else x
/-- a bit mask out of a test -/
def mk (f : Nat → Bool) : Nat → Nat
  | 0 => 0
  | n + 1 => mk f n ||| (if f n then 2 ^ n else 0)
theorem mk_bit (f : Nat → Bool) : ∀ n i : Nat, (mk f n).testBit i = (decide (i < n) && f i)
  | 0, i => by simp [mk]
  | n + 1, i => by
    rw [mk, Nat.testBit_or, mk_bit f n i]
    by_cases hf : f n = true
    · rw [if_pos hf, Nat.testBit_two_pow]
      by_cases hi : n = i
      · subst hi; simp [hf]
      · have : (decide (i < n + 1)) = decide (i < n) := by
          apply decide_eq_decide.mpr; omega
        rw [this]; simp [hi]
    · rw [if_neg hf]
      have hf' : f n = false := by simpa using hf
      by_cases hi : n = i
      · subst hi; simp [hf']
      · have : (decide (i < n + 1)) = decide (i < n) := by
          apply decide_eq_decide.mpr; omega
        rw [this]; simp
theorem mk_lt (f : Nat → Bool) (n : Nat) : mk f n < 2 ^ n := by
  apply Nat.lt_pow_two_of_testBit
  intro i hi
  rw [mk_bit]
  simp; omega
theorem mk_cong {f g : Nat → Bool} {n : Nat} (h : ∀ i, i < n → f i = g i) : mk f n = mk g n := by
  apply Nat.eq_of_testBit_eq
  intro i
  rw [mk_bit, mk_bit]
  by_cases hi : i < n
  · simp [hi, h i hi]
  · simp [hi]
/-- (x >> i) & 1 of a small mask -/
def bI (b : Bool) : Int32 := if b then 1 else 0
theorem bI_in {m i : Nat} (hm : m < 2 ^ 31) (hi : i < 32) : (nI m >>> (nI i &&& 31)) &&& 1 = bI (m.testBit i) := by
  rw [pk_shrN hm (nI i &&& 31) i (s_l i hi)]
  have h1 := pk_andN (n := m / 2 ^ i) (Nat.lt_of_le_of_lt (Nat.div_le_self _ _) (by omega)) (m := 1) 1 (by decide)
  rw [h1, Nat.testBit_eq_decide_div_mod_eq]
  unfold bI
  by_cases hb : m / 2 ^ i % 2 = 1
  · simp [hb]; rfl
  · have : m / 2 ^ i % 2 = 0 := by omega
    simp [this]; rfl
theorem nI_pow {i : Nat} (hi : i < 31) : (1 : Int32) <<< (nI i &&& 31) = nI (2 ^ i) := by
  have h := pk_shlN (n := 1) (nI i &&& 31) i (s_l i (by omega)) (by rw [Nat.one_mul]; exact Nat.pow_lt_pow_right (by omega) (by omega))
  rw [Nat.one_mul] at h
  exact h
theorem bI_1 (b : Bool) : bI b = 1 ↔ b = true := by cases b <;> simp [bI]
theorem bI_0 (b : Bool) : bI b = 0 ↔ b = false := by cases b <;> simp [bI]
