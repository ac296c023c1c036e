theorem dJ6_bitCount_0f7a4_0 : decode cJ6_bitCount_0f7a4 0 = .ok (.iload_n 0, 1) := by decide +kernel
theorem dJ6_bitCount_0f7a4_1 : decode cJ6_bitCount_0f7a4 1 = .ok (.iload_n 0, 1) := by decide +kernel
theorem dJ6_bitCount_0f7a4_2 : decode cJ6_bitCount_0f7a4 2 = .ok (.iconst 1, 1) := by decide +kernel
theorem dJ6_bitCount_0f7a4_3 : decode cJ6_bitCount_0f7a4 3 = .ok (.iushr, 1) := by decide +kernel
theorem dJ6_bitCount_0f7a4_4 : decode cJ6_bitCount_0f7a4 4 = .ok (.ldc_w 265, 3) := by decide +kernel
theorem dJ6_bitCount_0f7a4_7 : decode cJ6_bitCount_0f7a4 7 = .ok (.iand, 1) := by decide +kernel
theorem dJ6_bitCount_0f7a4_8 : decode cJ6_bitCount_0f7a4 8 = .ok (.isub, 1) := by decide +kernel
theorem dJ6_bitCount_0f7a4_9 : decode cJ6_bitCount_0f7a4 9 = .ok (.istore_n 0, 1) := by decide +kernel
theorem dJ6_bitCount_0f7a4_10 : decode cJ6_bitCount_0f7a4 10 = .ok (.iload_n 0, 1) := by decide +kernel
theorem dJ6_bitCount_0f7a4_11 : decode cJ6_bitCount_0f7a4 11 = .ok (.ldc_w 266, 3) := by decide +kernel
theorem dJ6_bitCount_0f7a4_14 : decode cJ6_bitCount_0f7a4 14 = .ok (.iand, 1) := by decide +kernel
theorem dJ6_bitCount_0f7a4_15 : decode cJ6_bitCount_0f7a4 15 = .ok (.iload_n 0, 1) := by decide +kernel
theorem dJ6_bitCount_0f7a4_16 : decode cJ6_bitCount_0f7a4 16 = .ok (.iconst 2, 1) := by decide +kernel
theorem dJ6_bitCount_0f7a4_17 : decode cJ6_bitCount_0f7a4 17 = .ok (.iushr, 1) := by decide +kernel
theorem dJ6_bitCount_0f7a4_18 : decode cJ6_bitCount_0f7a4 18 = .ok (.ldc_w 266, 3) := by decide +kernel
theorem dJ6_bitCount_0f7a4_21 : decode cJ6_bitCount_0f7a4 21 = .ok (.iand, 1) := by decide +kernel
theorem dJ6_bitCount_0f7a4_22 : decode cJ6_bitCount_0f7a4 22 = .ok (.iadd, 1) := by decide +kernel
theorem dJ6_bitCount_0f7a4_23 : decode cJ6_bitCount_0f7a4 23 = .ok (.istore_n 0, 1) := by decide +kernel
theorem dJ6_bitCount_0f7a4_24 : decode cJ6_bitCount_0f7a4 24 = .ok (.iload_n 0, 1) := by decide +kernel
theorem dJ6_bitCount_0f7a4_25 : decode cJ6_bitCount_0f7a4 25 = .ok (.iload_n 0, 1) := by decide +kernel
theorem dJ6_bitCount_0f7a4_26 : decode cJ6_bitCount_0f7a4 26 = .ok (.iconst 4, 1) := by decide +kernel
theorem dJ6_bitCount_0f7a4_27 : decode cJ6_bitCount_0f7a4 27 = .ok (.iushr, 1) := by decide +kernel
theorem dJ6_bitCount_0f7a4_28 : decode cJ6_bitCount_0f7a4 28 = .ok (.iadd, 1) := by decide +kernel
theorem dJ6_bitCount_0f7a4_29 : decode cJ6_bitCount_0f7a4 29 = .ok (.ldc_w 267, 3) := by decide +kernel
theorem dJ6_bitCount_0f7a4_32 : decode cJ6_bitCount_0f7a4 32 = .ok (.iand, 1) := by decide +kernel
theorem dJ6_bitCount_0f7a4_33 : decode cJ6_bitCount_0f7a4 33 = .ok (.istore_n 0, 1) := by decide +kernel
theorem dJ6_bitCount_0f7a4_34 : decode cJ6_bitCount_0f7a4 34 = .ok (.iload_n 0, 1) := by decide +kernel
theorem dJ6_bitCount_0f7a4_35 : decode cJ6_bitCount_0f7a4 35 = .ok (.iload_n 0, 1) := by decide +kernel
theorem dJ6_bitCount_0f7a4_36 : decode cJ6_bitCount_0f7a4 36 = .ok (.bipush 8, 2) := by decide +kernel
theorem dJ6_bitCount_0f7a4_38 : decode cJ6_bitCount_0f7a4 38 = .ok (.iushr, 1) := by decide +kernel
theorem dJ6_bitCount_0f7a4_39 : decode cJ6_bitCount_0f7a4 39 = .ok (.iadd, 1) := by decide +kernel
theorem dJ6_bitCount_0f7a4_40 : decode cJ6_bitCount_0f7a4 40 = .ok (.istore_n 0, 1) := by decide +kernel
theorem dJ6_bitCount_0f7a4_41 : decode cJ6_bitCount_0f7a4 41 = .ok (.iload_n 0, 1) := by decide +kernel
theorem dJ6_bitCount_0f7a4_42 : decode cJ6_bitCount_0f7a4 42 = .ok (.iload_n 0, 1) := by decide +kernel
theorem dJ6_bitCount_0f7a4_43 : decode cJ6_bitCount_0f7a4 43 = .ok (.bipush 16, 2) := by decide +kernel
theorem dJ6_bitCount_0f7a4_45 : decode cJ6_bitCount_0f7a4 45 = .ok (.iushr, 1) := by decide +kernel
theorem dJ6_bitCount_0f7a4_46 : decode cJ6_bitCount_0f7a4 46 = .ok (.iadd, 1) := by decide +kernel
theorem dJ6_bitCount_0f7a4_47 : decode cJ6_bitCount_0f7a4 47 = .ok (.istore_n 0, 1) := by decide +kernel
theorem dJ6_bitCount_0f7a4_48 : decode cJ6_bitCount_0f7a4 48 = .ok (.iload_n 0, 1) := by decide +kernel
theorem dJ6_bitCount_0f7a4_49 : decode cJ6_bitCount_0f7a4 49 = .ok (.bipush 63, 2) := by decide +kernel
theorem dJ6_bitCount_0f7a4_51 : decode cJ6_bitCount_0f7a4 51 = .ok (.iand, 1) := by decide +kernel
theorem dJ6_bitCount_0f7a4_52 : decode cJ6_bitCount_0f7a4 52 = .ok (.ireturn, 1) := by decide +kernel
theorem dX10_bitIn_0 : decode cX10_bitIn 0 = .ok (.iload_n 0, 1) := by decide +kernel
theorem dX10_bitIn_1 : decode cX10_bitIn 1 = .ok (.iload_n 1, 1) := by decide +kernel
theorem dX10_bitIn_2 : decode cX10_bitIn 2 = .ok (.ishr, 1) := by decide +kernel
theorem dX10_bitIn_3 : decode cX10_bitIn 3 = .ok (.iconst 1, 1) := by decide +kernel
theorem dX10_bitIn_4 : decode cX10_bitIn 4 = .ok (.iand, 1) := by decide +kernel
theorem dX10_bitIn_5 : decode cX10_bitIn 5 = .ok (.ireturn, 1) := by decide +kernel
theorem dX0_isRepeat_26 : decode cX0_isRepeat 26 = .ok (.ireturn, 1) := by decide +kernel
theorem dX0_isRepeat_25 : decode cX0_isRepeat 25 = .ok (.iconst 0, 1) := by decide +kernel
theorem dX0_isRepeat_21 : decode cX0_isRepeat 21 = .ok (.iconst 1, 1) := by decide +kernel
theorem dX0_isRepeat_22 : decode cX0_isRepeat 22 = .ok (.goto 4, 3) := by decide +kernel
theorem dX0_isRepeat_0 : decode cX0_isRepeat 0 = .ok (.iload_n 0, 1) := by decide +kernel
theorem dX0_isRepeat_1 : decode cX0_isRepeat 1 = .ok (.iconst 1, 1) := by decide +kernel
theorem dX0_isRepeat_2 : decode cX0_isRepeat 2 = .ok (.if_icmp .eq 19, 3) := by decide +kernel
theorem dX0_isRepeat_5 : decode cX0_isRepeat 5 = .ok (.iload_n 0, 1) := by decide +kernel
theorem dX0_isRepeat_6 : decode cX0_isRepeat 6 = .ok (.iconst 3, 1) := by decide +kernel
theorem dX0_isRepeat_7 : decode cX0_isRepeat 7 = .ok (.if_icmp .eq 14, 3) := by decide +kernel
theorem dX0_isRepeat_10 : decode cX0_isRepeat 10 = .ok (.iload_n 0, 1) := by decide +kernel
theorem dX0_isRepeat_11 : decode cX0_isRepeat 11 = .ok (.iconst 5, 1) := by decide +kernel
theorem dX0_isRepeat_12 : decode cX0_isRepeat 12 = .ok (.if_icmp .eq 9, 3) := by decide +kernel
theorem dX0_isRepeat_15 : decode cX0_isRepeat 15 = .ok (.iload_n 0, 1) := by decide +kernel
theorem dX0_isRepeat_16 : decode cX0_isRepeat 16 = .ok (.bipush 7, 2) := by decide +kernel
theorem dX0_isRepeat_18 : decode cX0_isRepeat 18 = .ok (.if_icmp .ne 7, 3) := by decide +kernel
theorem dX0_lengthOf_14 : decode cX0_lengthOf 14 = .ok (.ireturn, 1) := by decide +kernel
theorem dX0_lengthOf_9 : decode cX0_lengthOf 9 = .ok (.iload_n 0, 1) := by decide +kernel
theorem dX0_lengthOf_10 : decode cX0_lengthOf 10 = .ok (.iconst 1, 1) := by decide +kernel
theorem dX0_lengthOf_11 : decode cX0_lengthOf 11 = .ok (.invokestatic 11, 3) := by decide +kernel
theorem dX0_lengthOf_0 : decode cX0_lengthOf 0 = .ok (.iload_n 0, 1) := by decide +kernel
theorem dX0_lengthOf_1 : decode cX0_lengthOf 1 = .ok (.ifCond .ne 8, 3) := by decide +kernel
theorem dX0_lengthOf_4 : decode cX0_lengthOf 4 = .ok (.bipush 7, 2) := by decide +kernel
theorem dX0_lengthOf_6 : decode cX0_lengthOf 6 = .ok (.goto 8, 3) := by decide +kernel
theorem dX0_bitsOf_9 : decode cX0_bitsOf 9 = .ok (.ireturn, 1) := by decide +kernel
theorem dX0_bitsOf_8 : decode cX0_bitsOf 8 = .ok (.iconst 1, 1) := by decide +kernel
theorem dX0_bitsOf_0 : decode cX0_bitsOf 0 = .ok (.iload_n 0, 1) := by decide +kernel
theorem dX0_bitsOf_1 : decode cX0_bitsOf 1 = .ok (.ifCond .ne 7, 3) := by decide +kernel
theorem dX0_bitsOf_4 : decode cX0_bitsOf 4 = .ok (.iconst 4, 1) := by decide +kernel
theorem dX0_bitsOf_5 : decode cX0_bitsOf 5 = .ok (.goto 4, 3) := by decide +kernel
theorem dX0_mendedBy_13 : decode cX0_mendedBy 13 = .ok (.ireturn, 1) := by decide +kernel
theorem dX0_mendedBy_8 : decode cX0_mendedBy 8 = .ok (.iload_n 0, 1) := by decide +kernel
theorem dX0_mendedBy_9 : decode cX0_mendedBy 9 = .ok (.iconst 1, 1) := by decide +kernel
theorem dX0_mendedBy_10 : decode cX0_mendedBy 10 = .ok (.isub, 1) := by decide +kernel
theorem dX0_mendedBy_11 : decode cX0_mendedBy 11 = .ok (.iconst 2, 1) := by decide +kernel
theorem dX0_mendedBy_12 : decode cX0_mendedBy 12 = .ok (.idiv, 1) := by decide +kernel
theorem dX0_mendedBy_0 : decode cX0_mendedBy 0 = .ok (.iload_n 0, 1) := by decide +kernel
theorem dX0_mendedBy_1 : decode cX0_mendedBy 1 = .ok (.ifCond .ne 7, 3) := by decide +kernel
theorem dX0_mendedBy_4 : decode cX0_mendedBy 4 = .ok (.iconst 1, 1) := by decide +kernel
theorem dX0_mendedBy_5 : decode cX0_mendedBy 5 = .ok (.goto 8, 3) := by decide +kernel
theorem dX0_checkWith_41 : decode cX0_checkWith 41 = .ok (.iload_n 3, 1) := by decide +kernel
theorem dX0_checkWith_42 : decode cX0_checkWith 42 = .ok (.ireturn, 1) := by decide +kernel
theorem dX0_checkWith_35 : decode cX0_checkWith 35 = .ok (.iinc 4 1, 3) := by decide +kernel
theorem dX0_checkWith_38 : decode cX0_checkWith 38 = .ok (.goto (-33), 3) := by decide +kernel
theorem dX0_checkWith_5 : decode cX0_checkWith 5 = .ok (.iload 4, 2) := by decide +kernel
theorem dX0_checkWith_7 : decode cX0_checkWith 7 = .ok (.iload_n 2, 1) := by decide +kernel
theorem dX0_checkWith_8 : decode cX0_checkWith 8 = .ok (.if_icmp .ge 33, 3) := by decide +kernel
theorem dX0_checkWith_11 : decode cX0_checkWith 11 = .ok (.iconst 2, 1) := by decide +kernel
theorem dX0_checkWith_12 : decode cX0_checkWith 12 = .ok (.iload_n 3, 1) := by decide +kernel
theorem dX0_checkWith_13 : decode cX0_checkWith 13 = .ok (.imul, 1) := by decide +kernel
theorem dX0_checkWith_14 : decode cX0_checkWith 14 = .ok (.iload_n 1, 1) := by decide +kernel
theorem dX0_checkWith_15 : decode cX0_checkWith 15 = .ok (.iload 4, 2) := by decide +kernel
theorem dX0_checkWith_17 : decode cX0_checkWith 17 = .ok (.invokestatic 30, 3) := by decide +kernel
theorem dX0_checkWith_20 : decode cX0_checkWith 20 = .ok (.iadd, 1) := by decide +kernel
theorem dX0_checkWith_21 : decode cX0_checkWith 21 = .ok (.istore_n 3, 1) := by decide +kernel
theorem dX0_checkWith_22 : decode cX0_checkWith 22 = .ok (.iload_n 3, 1) := by decide +kernel
theorem dX0_checkWith_23 : decode cX0_checkWith 23 = .ok (.bipush 15, 2) := by decide +kernel
theorem dX0_checkWith_25 : decode cX0_checkWith 25 = .ok (.if_icmp .le 10, 3) := by decide +kernel
theorem dX0_checkWith_28 : decode cX0_checkWith 28 = .ok (.iload_n 3, 1) := by decide +kernel
theorem dX0_checkWith_29 : decode cX0_checkWith 29 = .ok (.bipush 16, 2) := by decide +kernel
theorem dX0_checkWith_31 : decode cX0_checkWith 31 = .ok (.isub, 1) := by decide +kernel
theorem dX0_checkWith_32 : decode cX0_checkWith 32 = .ok (.iconst 3, 1) := by decide +kernel
theorem dX0_checkWith_33 : decode cX0_checkWith 33 = .ok (.ixor, 1) := by decide +kernel
theorem dX0_checkWith_34 : decode cX0_checkWith 34 = .ok (.istore_n 3, 1) := by decide +kernel
theorem dX0_checkWith_0 : decode cX0_checkWith 0 = .ok (.iload_n 0, 1) := by decide +kernel
theorem dX0_checkWith_1 : decode cX0_checkWith 1 = .ok (.istore_n 3, 1) := by decide +kernel
theorem dX0_checkWith_2 : decode cX0_checkWith 2 = .ok (.iconst 0, 1) := by decide +kernel
theorem dX0_checkWith_3 : decode cX0_checkWith 3 = .ok (.istore 4, 2) := by decide +kernel
/-! bits: counting -/
def ush (x s : Int32) : Int32 := (x.toUInt32 >>> (s.toUInt32 &&& Int32.toUInt32 31)).toInt32
def pc1 (x : Int32) : Int32 := x - (ush x 1 &&& 1431655765)
def pc2 (x : Int32) : Int32 := (x &&& 858993459) + (ush x 2 &&& 858993459)
def pc3 (x : Int32) : Int32 := (x + ush x 4) &&& 252645135
def pc4 (x : Int32) : Int32 := x + ush x 8
def pc5 (x : Int32) : Int32 := x + ush x 16
def pcI (x : Int32) : Int32 := pc5 (pc4 (pc3 (pc2 (pc1 x)))) &&& 63
/-- how many bits of a number are set -/
def pop (m : Nat) : Nat := fb_ct (fun i => m.testBit i) 32
theorem land_add {k a b : Nat} (x y : Nat) (ha : a < 2 ^ k) (hb : b < 2 ^ k) : (2 ^ k * x + a) &&& (2 ^ k * y + b) = 2 ^ k * (x &&& y) + (a &&& b) := by
  have hab : a &&& b < 2 ^ k := Nat.lt_of_le_of_lt Nat.and_le_left ha
  apply Nat.eq_of_testBit_eq
  intro i
  rw [Nat.testBit_and, Nat.testBit_two_pow_mul_add _ ha, Nat.testBit_two_pow_mul_add _ hb, Nat.testBit_two_pow_mul_add _ hab]
  split
  · rw [Nat.testBit_and]
  · rw [Nat.testBit_and]
theorem land8 {a b : Nat} (x y : Nat) (ha : a < 256) (hb : b < 256) : (256 * x + a) &&& (256 * y + b) = 256 * (x &&& y) + (a &&& b) := land_add (k := 8) x y ha hb
theorem ush_n {n k : Nat} (hn : n < 2 ^ 32) (s : Int32) (hs : ((s.toUInt32 &&& Int32.toUInt32 31).toBitVec % 32).toNat = k) : ush (nI n) s = nI (n / 2 ^ k) := pk_ushrN hn s k hs
def py1 (b : Nat) : Nat := b - ((b / 2) &&& 85)
def py2 (c : Nat) : Nat := (c &&& 51) + ((c / 4) &&& 51)
def pyc (b : Nat) : Nat := fb_ct (fun i => b.testBit i) 8
theorem py1_a : ∀ b, b < 256 → ∀ c, c < 2 → (b / 2 + 128 * c) &&& 85 = (b / 2) &&& 85 ∧ (b / 2) &&& 85 ≤ b := by decide +kernel
theorem py2_a : ∀ b, b < 256 → py1 b < 256 ∧ ∀ c, c < 4 → (py1 b / 4 + 64 * c) &&& 51 = (py1 b / 4) &&& 51 := by decide +kernel
theorem py3_a : ∀ b, b < 256 → py2 (py1 b) < 256 ∧ py2 (py1 b) % 16 ≤ 4 ∧ pyc b ≤ 8 ∧ ∀ c, c < 5 → py2 (py1 b) + py2 (py1 b) / 16 + 16 * c < 256 ∧ (py2 (py1 b) + py2 (py1 b) / 16 + 16 * c) &&& 15 = pyc b := by decide +kernel
theorem st1 {b x Y : Nat} (hb : b < 256) (hY : ((x / 2) &&& Y) ≤ x) : (256 * x + b) - (((256 * x + b) / 2) &&& (256 * Y + 85)) = 256 * (x - ((x / 2) &&& Y)) + py1 b := by
  have e : (256 * x + b) / 2 = 256 * (x / 2) + (b / 2 + 128 * (x % 2)) := by omega
  obtain ⟨h1, h2⟩ := py1_a b hb (x % 2) (by omega)
  rw [e, land8 _ _ (by omega) (by omega), h1, py1]
  omega
theorem st1_le {b x Y : Nat} (hb : b < 256) (hY : ((x / 2) &&& Y) ≤ x) : (((256 * x + b) / 2) &&& (256 * Y + 85)) ≤ 256 * x + b := by
  have e : (256 * x + b) / 2 = 256 * (x / 2) + (b / 2 + 128 * (x % 2)) := by omega
  obtain ⟨h1, h2⟩ := py1_a b hb (x % 2) (by omega)
  rw [e, land8 _ _ (by omega) (by omega), h1]
  omega
theorem st2 {b x Y : Nat} (hb : b < 256) : ((256 * x + py1 b) &&& (256 * Y + 51)) + (((256 * x + py1 b) / 4) &&& (256 * Y + 51)) = 256 * ((x &&& Y) + ((x / 4) &&& Y)) + py2 (py1 b) := by
  obtain ⟨h0, h1⟩ := py2_a b hb
  have e : (256 * x + py1 b) / 4 = 256 * (x / 4) + (py1 b / 4 + 64 * (x % 4)) := by omega
  have h2 := h1 (x % 4) (by omega)
  rw [e, land8 _ _ h0 (by omega), land8 _ _ (by omega) (by omega), h2, py2]
  omega
theorem st3 {b x Y : Nat} (hb : b < 256) (hx : x % 16 ≤ 4) : ((256 * x + py2 (py1 b)) + (256 * x + py2 (py1 b)) / 16) &&& (256 * Y + 15) = 256 * ((x + x / 16) &&& Y) + pyc b := by
  obtain ⟨h0, -, -, h1⟩ := py3_a b hb
  obtain ⟨h2, h3⟩ := h1 (x % 16) (by omega)
  have e : (256 * x + py2 (py1 b)) + (256 * x + py2 (py1 b)) / 16 = 256 * (x + x / 16) + (py2 (py1 b) + py2 (py1 b) / 16 + 16 * (x % 16)) := by omega
  rw [e, land8 _ _ h2 (by omega), h3]
theorem fb_ct_z (n : Nat) : fb_ct (fun _ => false) n = 0 := fb_ct_zero.mpr (fun _ _ => rfl)
theorem pop_bytes {b0 b1 b2 b3 : Nat} (h0 : b0 < 256) (h1 : b1 < 256) (h2 : b2 < 256) (h3 : b3 < 256) : pop (256 * (256 * (256 * b3 + b2) + b1) + b0) = pyc b0 + pyc b1 + pyc b2 + pyc b3 := by
  have key : ∀ (b x n : Nat), b < 256 → fb_ct (fun i => (256 * x + b).testBit i) (8 + n) = pyc b + fb_ct (fun i => x.testBit i) n := by
    intro b x n hb
    rw [fb_ct_split]
    congr 1
    · apply fb_ct_cong
      intro i hi
      have := Nat.testBit_two_pow_mul_add (i := 8) x (b := b) hb i
      rw [if_pos hi] at this
      exact this
    · apply fb_ct_cong
      intro i _
      have := Nat.testBit_two_pow_mul_add (i := 8) x (b := b) hb (8 + i)
      rw [if_neg (by omega), Nat.add_sub_cancel_left] at this
      exact this
  unfold pop
  rw [key b0 _ 24 h0, key b1 _ 16 h1, key b2 _ 8 h2]
  show _ + (_ + (_ + pyc b3)) = _
  omega
theorem pcI_pop {m : Nat} (hm : m < 2 ^ 31) : pcI (nI m) = nI (pop m) := by
  obtain ⟨b0, b1, b2, b3, h0, h1, h2, h3, rfl⟩ : ∃ b0 b1 b2 b3 : Nat, b0 < 256 ∧ b1 < 256 ∧ b2 < 256 ∧ b3 < 256 ∧ m = 256 * (256 * (256 * b3 + b2) + b1) + b0 :=
    ⟨m % 256, m / 256 % 256, m / 65536 % 256, m / 16777216, by omega, by omega, by omega, by omega, by omega⟩
  rw [pop_bytes h0 h1 h2 h3]
  have l3 : ((b3 / 2) &&& 85) ≤ b3 := (py1_a b3 h3 0 (by omega)).2
  have l2 := st1_le (x := b3) (Y := 85) h2 l3
  have l1 := st1_le (x := 256 * b3 + b2) (Y := 256 * 85 + 85) h1 l2
  have l0 := st1_le (x := 256 * (256 * b3 + b2) + b1) (Y := 256 * (256 * 85 + 85) + 85) h0 l1
  have e1 : pc1 (nI (256 * (256 * (256 * b3 + b2) + b1) + b0)) = nI (256 * (256 * (256 * py1 b3 + py1 b2) + py1 b1) + py1 b0) := by
    unfold pc1
    rw [ush_n (k := 1) (by omega) 1 (by decide), show (1431655765 : Int32) = nI (256 * (256 * (256 * 85 + 85) + 85) + 85) from rfl, fa_and, Nat.pow_one, pk_sub l0, st1 h0 l1, st1 h1 l2, st1 h2 l3]
    rfl
  obtain ⟨p0, -⟩ := py2_a b0 h0
  obtain ⟨p1, -⟩ := py2_a b1 h1
  obtain ⟨p2, -⟩ := py2_a b2 h2
  obtain ⟨p3, -⟩ := py2_a b3 h3
  have e2 : pc2 (nI (256 * (256 * (256 * py1 b3 + py1 b2) + py1 b1) + py1 b0)) = nI (256 * (256 * (256 * py2 (py1 b3) + py2 (py1 b2)) + py2 (py1 b1)) + py2 (py1 b0)) := by
    unfold pc2
    rw [ush_n (k := 2) (by omega) 2 (by decide), show (858993459 : Int32) = nI (256 * (256 * (256 * 51 + 51) + 51) + 51) from rfl, fa_and, fa_and, nI_add, show (2 : Nat) ^ 2 = 4 from rfl, st2 h0, st2 h1, st2 h2]
    rfl
  obtain ⟨q0, r0, t0, -⟩ := py3_a b0 h0
  obtain ⟨q1, r1, t1, -⟩ := py3_a b1 h1
  obtain ⟨q2, r2, t2, -⟩ := py3_a b2 h2
  obtain ⟨q3, r3, t3, s3⟩ := py3_a b3 h3
  have e3 : pc3 (nI (256 * (256 * (256 * py2 (py1 b3) + py2 (py1 b2)) + py2 (py1 b1)) + py2 (py1 b0))) = nI (256 * (256 * (256 * pyc b3 + pyc b2) + pyc b1) + pyc b0) := by
    unfold pc3
    rw [ush_n (k := 4) (by omega) 4 (by decide), show (252645135 : Int32) = nI (256 * (256 * (256 * 15 + 15) + 15) + 15) from rfl, nI_add, fa_and, show (2 : Nat) ^ 4 = 16 from rfl, st3 h0 (by omega), st3 h1 (by omega), st3 h2 (by omega)]
    have := (s3 0 (by omega)).2
    rw [Nat.mul_zero, Nat.add_zero] at this
    rw [this]
  unfold pcI
  rw [e1, e2, e3]
  unfold pc4 pc5
  generalize pyc b0 = a0 at t0 ⊢
  generalize pyc b1 = a1 at t1 ⊢
  generalize pyc b2 = a2 at t2 ⊢
  generalize pyc b3 = a3 at t3 ⊢
  have f1 : (256 * (256 * (256 * a3 + a2) + a1) + a0) / 2 ^ 8 = 256 * (256 * a3 + a2) + a1 := by omega
  have f2 : (256 * (256 * (256 * a3 + a2) + a1) + a0 + (256 * (256 * a3 + a2) + a1)) / 2 ^ 16 = 256 * a3 + (a2 + a3) := by omega
  rw [ush_n (k := 8) (by omega) 8 (by decide), nI_add, f1, ush_n (k := 16) (by omega) 16 (by decide), nI_add, f2, show (63 : Int32) = nI (2 ^ 6 - 1) from rfl, fa_mask]
  congr 1
  omega
def ca_J6_bitCount_0f7a4 : (Int32) → List zV := fun x => [vI x]
def cp_J6_bitCount_0f7a4 : (Int32) → zH → Prop := fun _ _ => True
def cf_J6_bitCount_0f7a4 : (Int32) → zH → Int32 := fun x _ => pcI x
set_option maxHeartbeats 4000000 in
set_option maxRecDepth 100000 in
theorem m_J6_bitCount_0f7a4 : zM yJ6_bitCount_0f7a4 cJ6_bitCount_0f7a4 1 (some .int) ({ frames := 0, cells := 0, slots := 0, locals := 0 } : Room) (zcI ca_J6_bitCount_0f7a4 cp_J6_bitCount_0f7a4 cf_J6_bitCount_0f7a4) := by
  refine zM_of (by decide) ?_
  rintro X Y x h _ O E hR
  have B_0 := zr_iload_n (X := X) (Y := Y) (u := 0) (v := 0) O dJ6_bitCount_0f7a4_0 rfl (zr_iload_n O dJ6_bitCount_0f7a4_1 rfl (zr_iconst (x := 1) O dJ6_bitCount_0f7a4_2 rfl (zr_iushr O dJ6_bitCount_0f7a4_3 (zr_ldcw (x := (1431655765)) O dJ6_bitCount_0f7a4_4 tw_769 (zr_iand O dJ6_bitCount_0f7a4_7 (zr_isub O dJ6_bitCount_0f7a4_8 (zr_istore_n O dJ6_bitCount_0f7a4_9 rfl (zr_iload_n O dJ6_bitCount_0f7a4_10 rfl (zr_ldcw (x := (858993459)) O dJ6_bitCount_0f7a4_11 tw_770 (zr_iand O dJ6_bitCount_0f7a4_14 (zr_iload_n O dJ6_bitCount_0f7a4_15 rfl (zr_iconst (x := 2) O dJ6_bitCount_0f7a4_16 rfl (zr_iushr O dJ6_bitCount_0f7a4_17 (zr_ldcw (x := (858993459)) O dJ6_bitCount_0f7a4_18 tw_770 (zr_iand O dJ6_bitCount_0f7a4_21 (zr_iadd O dJ6_bitCount_0f7a4_22 (zr_istore_n O dJ6_bitCount_0f7a4_23 rfl (zr_iload_n O dJ6_bitCount_0f7a4_24 rfl (zr_iload_n O dJ6_bitCount_0f7a4_25 rfl (zr_iconst (x := 4) O dJ6_bitCount_0f7a4_26 rfl (zr_iushr O dJ6_bitCount_0f7a4_27 (zr_iadd O dJ6_bitCount_0f7a4_28 (zr_ldcw (x := (252645135)) O dJ6_bitCount_0f7a4_29 tw_771 (zr_iand O dJ6_bitCount_0f7a4_32 (zr_istore_n O dJ6_bitCount_0f7a4_33 rfl (zr_iload_n O dJ6_bitCount_0f7a4_34 rfl (zr_iload_n O dJ6_bitCount_0f7a4_35 rfl (zr_bipush (x := (8)) O dJ6_bitCount_0f7a4_36 (by decide) (zr_iushr O dJ6_bitCount_0f7a4_38 (zr_iadd O dJ6_bitCount_0f7a4_39 (zr_istore_n O dJ6_bitCount_0f7a4_40 rfl (zr_iload_n O dJ6_bitCount_0f7a4_41 rfl (zr_iload_n O dJ6_bitCount_0f7a4_42 rfl (zr_bipush (x := (16)) O dJ6_bitCount_0f7a4_43 (by decide) (zr_iushr O dJ6_bitCount_0f7a4_45 (zr_iadd O dJ6_bitCount_0f7a4_46 (zr_istore_n O dJ6_bitCount_0f7a4_47 rfl (zr_iload_n O dJ6_bitCount_0f7a4_48 rfl (zr_bipush (x := (63)) O dJ6_bitCount_0f7a4_49 (by decide) (zr_iand O dJ6_bitCount_0f7a4_51 (zr_ireturn O E (Nat.le_refl _) (Nat.le_refl _) dJ6_bitCount_0f7a4_52)))))))))))))))))))))))))))))))))))))))))
  refine ⟨rfl, Nat.le_of_ble_eq_true rfl, _, B_0, ?_⟩
  exact ⟨rfl, rfl⟩
def ca_X10_bitIn : (Int32 × Int32) → List zV := fun (x, i) => [vI x, vI i]
def cp_X10_bitIn : (Int32 × Int32) → zH → Prop := fun _ _ => True
def cf_X10_bitIn : (Int32 × Int32) → zH → Int32 := fun (x, i) _ => (x >>> (i &&& 31)) &&& 1
set_option maxHeartbeats 4000000 in
set_option maxRecDepth 100000 in
theorem m_X10_bitIn : zM yX10_bitIn cX10_bitIn 2 (some .int) ({ frames := 0, cells := 0, slots := 0, locals := 0 } : Room) (zcI ca_X10_bitIn cp_X10_bitIn cf_X10_bitIn) := by
  refine zM_of (by decide) ?_
  rintro X Y ⟨x, i⟩ h _ O E hR
  have B_0 := zr_iload_n (X := X) (Y := Y) (u := 0) (v := 0) O dX10_bitIn_0 rfl (zr_iload_n O dX10_bitIn_1 rfl (zr_ishr O dX10_bitIn_2 (zr_iconst (x := 1) O dX10_bitIn_3 rfl (zr_iand O dX10_bitIn_4 (zr_ireturn O E (Nat.le_refl _) (Nat.le_refl _) dX10_bitIn_5)))))
  refine ⟨rfl, Nat.le_of_ble_eq_true rfl, _, B_0, ?_⟩
  exact ⟨rfl, rfl⟩
/-! the codes -/
def lnR (r : Nat) : Nat := if r = 0 then 7 else r
def btR (r : Nat) : Nat := if r = 0 then 4 else 1
def mdR (r : Nat) : Nat := if r = 0 then 1 else (r - 1) / 2
def ca_X0_isRepeat : (Int32) → List zV := fun x => [vI x]
def cp_X0_isRepeat : (Int32) → zH → Prop := fun _ _ => True
def cf_X0_isRepeat : (Int32) → zH → Int32 := fun x _ => if x = 1 ∨ x = 3 ∨ x = 5 ∨ x = 7 then 1 else 0
set_option maxHeartbeats 4000000 in
set_option maxRecDepth 100000 in
theorem m_X0_isRepeat : zM yX0_isRepeat cX0_isRepeat 1 (some .boolean) ({ frames := 0, cells := 0, slots := 0, locals := 0 } : Room) (zcI ca_X0_isRepeat cp_X0_isRepeat cf_X0_isRepeat) := by
  refine zM_of (by decide) ?_
  rintro X Y x h _ O E hR
  have B_26 := zr_zreturn (X := X) (Y := Y) (u := 0) (v := 0) O E (Nat.le_refl _) (Nat.le_refl _) dX0_isRepeat_26
  have B_25 := zr_iconst (X := X) (Y := Y) (u := 0) (v := 0) (x := 0) O dX0_isRepeat_25 rfl (B_26)
  have B_21 := zr_iconst (X := X) (Y := Y) (u := 0) (v := 0) (x := 1) O dX0_isRepeat_21 rfl (zr_goto (tgt := 26) O dX0_isRepeat_22 rfl B_26)
  have B_0 := zr_iload_n (X := X) (Y := Y) (u := 0) (v := 0) O dX0_isRepeat_0 rfl (zr_iconst (x := 1) O dX0_isRepeat_1 rfl (zr_iceq (tgt := 21) O dX0_isRepeat_2 rfl B_21 (zr_iload_n O dX0_isRepeat_5 rfl (zr_iconst (x := 3) O dX0_isRepeat_6 rfl (zr_iceq (tgt := 21) O dX0_isRepeat_7 rfl B_21 (zr_iload_n O dX0_isRepeat_10 rfl (zr_iconst (x := 5) O dX0_isRepeat_11 rfl (zr_iceq (tgt := 21) O dX0_isRepeat_12 rfl B_21 (zr_iload_n O dX0_isRepeat_15 rfl (zr_bipush (x := (7)) O dX0_isRepeat_16 (by decide) (zr_icne (tgt := 25) O dX0_isRepeat_18 rfl B_25 (B_21))))))))))))
  refine ⟨rfl, Nat.le_of_ble_eq_true rfl, _, B_0, ?_⟩
  refine ⟨fun c => ⟨Or.inr rfl, zri ?_, rfl⟩, fun c => ⟨fun d => ⟨Or.inr rfl, zri ?_, rfl⟩, fun d => ⟨fun e => ⟨Or.inr rfl, zri ?_, rfl⟩, fun e => ⟨fun f => ⟨Or.inl rfl, zri ?_, rfl⟩, fun f => ⟨Or.inr rfl, zri ?_, rfl⟩⟩⟩⟩⟩
  · exact (if_pos (Or.inl c)).symm
  · exact (if_pos (Or.inr (Or.inl d))).symm
  · exact (if_pos (Or.inr (Or.inr (Or.inl e)))).symm
  · exact (if_neg (fun z => z.elim c (fun z => z.elim d (fun z => z.elim e f)))).symm
  · exact (if_pos (Or.inr (Or.inr (Or.inr f)))).symm
def ca_X0_lengthOf : (Nat) → List zV := fun r => [vI (nI r)]
def cp_X0_lengthOf : (Nat) → zH → Prop := fun r _ => vRp r
def cf_X0_lengthOf : (Nat) → zH → Int32 := fun r _ => nI (lnR r)
set_option maxHeartbeats 4000000 in
set_option maxRecDepth 100000 in
theorem m_X0_lengthOf : zM yX0_lengthOf cX0_lengthOf 1 (some .int) ({ frames := 1, cells := 0, slots := 0, locals := 21 } : Room) (zcI ca_X0_lengthOf cp_X0_lengthOf cf_X0_lengthOf) := by
  refine zM_of (by decide) ?_
  rintro X Y r h hr O E hR
  have B_14 := zr_ireturn (X := X) (Y := Y) (u := 0) (v := 0) O E (Nat.le_refl _) (Nat.le_refl _) dX0_lengthOf_14
  have B_9 := zr_iload_n (X := X) (Y := Y) (u := 0) (v := 0) O dX0_lengthOf_9 rfl (zr_iconst (x := 1) O dX0_lengthOf_10 rfl (zr_max O zwm tw_775 (zrm hR rfl rfl) dX0_lengthOf_11 (B_14)))
  have B_0 := zr_iload_n (X := X) (Y := Y) (u := 0) (v := 0) O dX0_lengthOf_0 rfl (zr_ifne (tgt := 9) O dX0_lengthOf_1 rfl B_9 (zr_bipush (x := (7)) O dX0_lengthOf_4 (by decide) (zr_goto (tgt := 14) O dX0_lengthOf_6 rfl B_14)))
  refine ⟨rfl, Nat.le_of_ble_eq_true rfl, _, B_0, ?_⟩
  rcases hr with rfl | rfl | rfl | rfl | rfl
  · exact ⟨fun c => absurd rfl c, fun c => ⟨rfl, rfl⟩⟩
  · exact ⟨fun c => ⟨rfl, rfl⟩, fun c => absurd c (by decide)⟩
  · exact ⟨fun c => ⟨rfl, rfl⟩, fun c => absurd c (by decide)⟩
  · exact ⟨fun c => ⟨rfl, rfl⟩, fun c => absurd c (by decide)⟩
  · exact ⟨fun c => ⟨rfl, rfl⟩, fun c => absurd c (by decide)⟩
def ca_X0_bitsOf : (Nat) → List zV := fun r => [vI (nI r)]
def cp_X0_bitsOf : (Nat) → zH → Prop := fun r _ => vRp r
def cf_X0_bitsOf : (Nat) → zH → Int32 := fun r _ => nI (btR r)
set_option maxHeartbeats 4000000 in
set_option maxRecDepth 100000 in
theorem m_X0_bitsOf : zM yX0_bitsOf cX0_bitsOf 1 (some .int) ({ frames := 0, cells := 0, slots := 0, locals := 0 } : Room) (zcI ca_X0_bitsOf cp_X0_bitsOf cf_X0_bitsOf) := by
  refine zM_of (by decide) ?_
  rintro X Y r h hr O E hR
  have B_9 := zr_ireturn (X := X) (Y := Y) (u := 0) (v := 0) O E (Nat.le_refl _) (Nat.le_refl _) dX0_bitsOf_9
  have B_8 := zr_iconst (X := X) (Y := Y) (u := 0) (v := 0) (x := 1) O dX0_bitsOf_8 rfl (B_9)
  have B_0 := zr_iload_n (X := X) (Y := Y) (u := 0) (v := 0) O dX0_bitsOf_0 rfl (zr_ifne (tgt := 8) O dX0_bitsOf_1 rfl B_8 (zr_iconst (x := 4) O dX0_bitsOf_4 rfl (zr_goto (tgt := 9) O dX0_bitsOf_5 rfl B_9)))
  refine ⟨rfl, Nat.le_of_ble_eq_true rfl, _, B_0, ?_⟩
  rcases hr with rfl | rfl | rfl | rfl | rfl
  · exact ⟨fun c => absurd rfl c, fun c => ⟨rfl, rfl⟩⟩
  · exact ⟨fun c => ⟨rfl, rfl⟩, fun c => absurd c (by decide)⟩
  · exact ⟨fun c => ⟨rfl, rfl⟩, fun c => absurd c (by decide)⟩
  · exact ⟨fun c => ⟨rfl, rfl⟩, fun c => absurd c (by decide)⟩
  · exact ⟨fun c => ⟨rfl, rfl⟩, fun c => absurd c (by decide)⟩
def ca_X0_mendedBy : (Nat) → List zV := fun r => [vI (nI r)]
def cp_X0_mendedBy : (Nat) → zH → Prop := fun r _ => vRp r
def cf_X0_mendedBy : (Nat) → zH → Int32 := fun r _ => nI (mdR r)
set_option maxHeartbeats 4000000 in
set_option maxRecDepth 100000 in
theorem m_X0_mendedBy : zM yX0_mendedBy cX0_mendedBy 1 (some .int) ({ frames := 0, cells := 0, slots := 0, locals := 0 } : Room) (zcI ca_X0_mendedBy cp_X0_mendedBy cf_X0_mendedBy) := by
  refine zM_of (by decide) ?_
  rintro X Y r h hr O E hR
  have B_13 := zr_ireturn (X := X) (Y := Y) (u := 0) (v := 0) O E (Nat.le_refl _) (Nat.le_refl _) dX0_mendedBy_13
  have B_8 := zr_iload_n (X := X) (Y := Y) (u := 0) (v := 0) O dX0_mendedBy_8 rfl (zr_iconst (x := 1) O dX0_mendedBy_9 rfl (zr_isub O dX0_mendedBy_10 (zr_iconst (x := 2) O dX0_mendedBy_11 rfl (zr_idiv O dX0_mendedBy_12 (B_13)))))
  have B_0 := zr_iload_n (X := X) (Y := Y) (u := 0) (v := 0) O dX0_mendedBy_0 rfl (zr_ifne (tgt := 8) O dX0_mendedBy_1 rfl B_8 (zr_iconst (x := 1) O dX0_mendedBy_4 rfl (zr_goto (tgt := 13) O dX0_mendedBy_5 rfl B_13)))
  refine ⟨rfl, Nat.le_of_ble_eq_true rfl, _, B_0, ?_⟩
  rcases hr with rfl | rfl | rfl | rfl | rfl
  · exact ⟨fun c => absurd rfl c, fun c => ⟨rfl, rfl⟩⟩
  · exact ⟨fun c => ⟨by decide, rfl, rfl⟩, fun c => absurd c (by decide)⟩
  · exact ⟨fun c => ⟨by decide, rfl, rfl⟩, fun c => absurd c (by decide)⟩
  · exact ⟨fun c => ⟨by decide, rfl, rfl⟩, fun c => absurd c (by decide)⟩
  · exact ⟨fun c => ⟨by decide, rfl, rfl⟩, fun c => absurd c (by decide)⟩
/-- the check, bit by bit: the i-th bit of data comes -/
def ckS (v : Nat) (b : Bool) : Nat := if 15 < 2 * v + b.toNat then (2 * v + b.toNat - 16) ^^^ 3 else 2 * v + b.toNat
def ckW (c data : Nat) : Nat → Nat
  | 0 => c
  | n + 1 => ckS (ckW c data n) (data.testBit n)
theorem ckS_lt : ∀ v, v < 16 → ∀ b : Bool, ckS v b < 16 := by decide +kernel
theorem ckW_lt {c : Nat} (hc : c < 16) (data : Nat) : ∀ n, ckW c data n < 16
  | 0 => hc
  | n + 1 => ckS_lt _ (ckW_lt hc data n) _
theorem ckS_i : ∀ v, v < 16 → ∀ b : Bool, (2 : Int32) * nI v + bI b = nI (2 * v + b.toNat) ∧ (15 < 2 * v + b.toNat → ((2 : Int32) * nI v + bI b - 16) ^^^ 3 = nI ((2 * v + b.toNat - 16) ^^^ 3)) := by decide +kernel
def ca_X0_checkWith : (Nat × Nat × Nat) → List zV := fun (c, x, n) => [vI (nI c), vI (nI x), vI (nI n)]
def cp_X0_checkWith : (Nat × Nat × Nat) → zH → Prop := fun (c, x, n) _ => c < 16 ∧ x < 2 ^ 31 ∧ n ≤ 16
def cf_X0_checkWith : (Nat × Nat × Nat) → zH → Int32 := fun (c, x, n) _ => nI (ckW c x n)
set_option maxHeartbeats 4000000 in
set_option maxRecDepth 100000 in
theorem m_X0_checkWith : zM yX0_checkWith cX0_checkWith 5 (some .int) ({ frames := 1, cells := 0, slots := 0, locals := 21 } : Room) (zcI ca_X0_checkWith cp_X0_checkWith cf_X0_checkWith) := by
  refine zM_of (by decide) ?_
  rintro X Y ⟨c, x, n⟩ h ⟨hc, hx, hn⟩ O E hR
  have B_41 := zr_iload_n (X := X) (Y := Y) (u := 0) (v := 0) O dX0_checkWith_41 rfl (zr_ireturn O E (Nat.le_refl _) (Nat.le_refl _) dX0_checkWith_42)
  have L_5 : ∀ nn : Nat, zSd X Y 0 0 5 ((fun k ls st h1 => ∃ (i : Nat) (y z : Int32), k = n - i ∧ i ≤ n ∧ ls = [some (vI (nI c)), some (vI (nI x)), some (vI (nI n)), some (vI y), some (vI z)] ∧ y = nI (ckW c x i) ∧ z = nI i ∧ st = [] ∧ h = h1 : Nat → zT) nn) := by
    refine zSd_loop (fun nn ih => ?_)
    have B_35 := zr_iinc (X := X) (Y := Y) (u := 0) (v := 0) (c := 1) O dX0_checkWith_35 rfl (zr_goto (tgt := 5) O dX0_checkWith_38 rfl ih)
    have B_5 := zr_iload (X := X) (Y := Y) (u := 0) (v := 0) O dX0_checkWith_5 (zr_iload_n O dX0_checkWith_7 rfl (zr_icge (tgt := 41) O dX0_checkWith_8 rfl B_41 (zr_iconst (x := 2) O dX0_checkWith_11 rfl (zr_iload_n O dX0_checkWith_12 rfl (zr_imul O dX0_checkWith_13 (zr_iload_n O dX0_checkWith_14 rfl (zr_iload O dX0_checkWith_15 (zr_cI (zr_cSN (n := 2) O m_X10_bitIn (bn_X10_bitIn _ ⟨rfl, rfl⟩) tw_374 wn_RX0_30 (zrm hR rfl rfl) dX0_checkWith_17 (zr_iadd O dX0_checkWith_20 (zr_istore_n O dX0_checkWith_21 rfl (zr_iload_n O dX0_checkWith_22 rfl (zr_bipush (x := (15)) O dX0_checkWith_23 (by decide) (zr_icle (tgt := 35) O dX0_checkWith_25 rfl B_35 (zr_iload_n O dX0_checkWith_28 rfl (zr_bipush (x := (16)) O dX0_checkWith_29 (by decide) (zr_isub O dX0_checkWith_31 (zr_iconst (x := 3) O dX0_checkWith_32 rfl (zr_ixor O dX0_checkWith_33 (zr_istore_n O dX0_checkWith_34 rfl (B_35)))))))))))))))))))))
    refine zSd_weak B_5 (fun ls st h1 t => ?_)
    obtain ⟨i, y, z, rfl, hi, rfl, rfl, rfl, rfl, rfl⟩ := t
    have hv := ckW_lt hc x i
    refine ⟨fun d => ⟨zri ?_, rfl⟩, fun d => ?_⟩
    · have := (nI_leI (by omega) (by omega)).mp d
      rw [show i = n by omega]; rfl
    · have hin : i < n := Nat.not_le.mp (fun z => d ((nI_leI (by omega) (by omega)).mpr z))
      have hb : (nI x >>> (nI i &&& 31)) &&& 1 = bI (x.testBit i) := bI_in hx (by omega)
      obtain ⟨e1, e2⟩ := ckS_i _ hv (x.testBit i)
      have hw : ckW c x (i + 1) = ckS (ckW c x i) (x.testBit i) := rfl
      refine ⟨(nI x, nI i), rfl, trivial, fun q => ⟨n - (i + 1), by omega, i + 1, _, _, rfl, by omega, rfl, ?_, nI_1 i, rfl, rfl⟩, fun q => ⟨n - (i + 1), by omega, i + 1, _, _, rfl, by omega, rfl, ?_, nI_1 i, rfl, rfl⟩⟩
      · replace q : (2 : Int32) * nI (ckW c x i) + ((nI x >>> (nI i &&& 31)) &&& 1) ≤ 15 := q
        show (2 : Int32) * nI (ckW c x i) + ((nI x >>> (nI i &&& 31)) &&& 1) = _
        rw [hb, e1] at q ⊢
        have := (nI_leI (b := 15) (by cases x.testBit i <;> simp <;> omega) (by omega)).mp q
        rw [hw, ckS, if_neg (by omega)]
      · replace q : ¬ (2 : Int32) * nI (ckW c x i) + ((nI x >>> (nI i &&& 31)) &&& 1) ≤ 15 := q
        show (((2 : Int32) * nI (ckW c x i) + ((nI x >>> (nI i &&& 31)) &&& 1)) - 16) ^^^ 3 = _
        rw [hb] at q ⊢
        rw [e1] at q
        have q2 : 15 < 2 * ckW c x i + (x.testBit i).toNat := Nat.not_le.mp (fun z => q ((nI_leI (b := 15) (by cases x.testBit i <;> simp <;> omega) (by omega)).mpr z))
        rw [e2 q2, hw, ckS, if_pos q2]
  have B_5 := zSd_any L_5
  have B_0 := zr_iload_n (X := X) (Y := Y) (u := 0) (v := 0) O dX0_checkWith_0 rfl (zr_istore_n O dX0_checkWith_1 rfl (zr_iconst (x := 0) O dX0_checkWith_2 rfl (zr_istore O dX0_checkWith_3 (B_5))))
  refine ⟨rfl, Nat.le_of_ble_eq_true rfl, _, B_0, ?_⟩
  exact ⟨n - 0, 0, _, _, rfl, Nat.zero_le _, rfl, rfl, rfl, rfl, rfl⟩

