theorem dX11_common_15 : decode cX11_common 15 = .ok (.ireturn, 1) := by decide +kernel
theorem dX11_common_8 : decode cX11_common 8 = .ok (.iload_n 1, 1) := by decide +kernel
theorem dX11_common_9 : decode cX11_common 9 = .ok (.iload_n 0, 1) := by decide +kernel
theorem dX11_common_10 : decode cX11_common 10 = .ok (.iload_n 1, 1) := by decide +kernel
theorem dX11_common_11 : decode cX11_common 11 = .ok (.irem, 1) := by decide +kernel
theorem dX11_common_12 : decode cX11_common 12 = .ok (.invokestatic 288, 3) := by decide +kernel
theorem dX11_common_0 : decode cX11_common 0 = .ok (.iload_n 1, 1) := by decide +kernel
theorem dX11_common_1 : decode cX11_common 1 = .ok (.ifCond .ne 7, 3) := by decide +kernel
theorem dX11_common_4 : decode cX11_common 4 = .ok (.iload_n 0, 1) := by decide +kernel
theorem dX11_common_5 : decode cX11_common 5 = .ok (.goto 10, 3) := by decide +kernel
theorem dX11_odds_188 : decode cX11_odds 188 = .ok (.ireturn, 1) := by decide +kernel
theorem dX11_odds_183 : decode cX11_odds 183 = .ok (.iload 6, 2) := by decide +kernel
theorem dX11_odds_185 : decode cX11_odds 185 = .ok (.iload 8, 2) := by decide +kernel
theorem dX11_odds_187 : decode cX11_odds 187 = .ok (.idiv, 1) := by decide +kernel
theorem dX11_odds_147 : decode cX11_odds 147 = .ok (.iconst 2, 1) := by decide +kernel
theorem dX11_odds_148 : decode cX11_odds 148 = .ok (.iload 4, 2) := by decide +kernel
theorem dX11_odds_150 : decode cX11_odds 150 = .ok (.imul, 1) := by decide +kernel
theorem dX11_odds_151 : decode cX11_odds 151 = .ok (.iconst 1, 1) := by decide +kernel
theorem dX11_odds_152 : decode cX11_odds 152 = .ok (.iadd, 1) := by decide +kernel
theorem dX11_odds_153 : decode cX11_odds 153 = .ok (.iconst 2, 1) := by decide +kernel
theorem dX11_odds_154 : decode cX11_odds 154 = .ok (.iload 5, 2) := by decide +kernel
theorem dX11_odds_156 : decode cX11_odds 156 = .ok (.imul, 1) := by decide +kernel
theorem dX11_odds_157 : decode cX11_odds 157 = .ok (.iconst 1, 1) := by decide +kernel
theorem dX11_odds_158 : decode cX11_odds 158 = .ok (.iadd, 1) := by decide +kernel
theorem dX11_odds_159 : decode cX11_odds 159 = .ok (.imul, 1) := by decide +kernel
theorem dX11_odds_160 : decode cX11_odds 160 = .ok (.istore 7, 2) := by decide +kernel
theorem dX11_odds_162 : decode cX11_odds 162 = .ok (.iload 7, 2) := by decide +kernel
theorem dX11_odds_164 : decode cX11_odds 164 = .ok (.iload 6, 2) := by decide +kernel
theorem dX11_odds_166 : decode cX11_odds 166 = .ok (.invokestatic 288, 3) := by decide +kernel
theorem dX11_odds_169 : decode cX11_odds 169 = .ok (.istore 8, 2) := by decide +kernel
theorem dX11_odds_171 : decode cX11_odds 171 = .ok (.iload_n 3, 1) := by decide +kernel
theorem dX11_odds_172 : decode cX11_odds 172 = .ok (.ifCond .eq 11, 3) := by decide +kernel
theorem dX11_odds_175 : decode cX11_odds 175 = .ok (.iload 7, 2) := by decide +kernel
theorem dX11_odds_177 : decode cX11_odds 177 = .ok (.iload 8, 2) := by decide +kernel
theorem dX11_odds_179 : decode cX11_odds 179 = .ok (.idiv, 1) := by decide +kernel
theorem dX11_odds_180 : decode cX11_odds 180 = .ok (.goto 8, 3) := by decide +kernel
theorem dX11_odds_141 : decode cX11_odds 141 = .ok (.iinc 7 1, 3) := by decide +kernel
theorem dX11_odds_144 : decode cX11_odds 144 = .ok (.goto (-89), 3) := by decide +kernel
theorem dX11_odds_132 : decode cX11_odds 132 = .ok (.iadd, 1) := by decide +kernel
theorem dX11_odds_133 : decode cX11_odds 133 = .ok (.istore 6, 2) := by decide +kernel
theorem dX11_odds_135 : decode cX11_odds 135 = .ok (.iinc 8 1, 3) := by decide +kernel
theorem dX11_odds_138 : decode cX11_odds 138 = .ok (.goto (-71), 3) := by decide +kernel
theorem dX11_odds_131 : decode cX11_odds 131 = .ok (.iconst 1, 1) := by decide +kernel
theorem dX11_odds_67 : decode cX11_odds 67 = .ok (.iload 8, 2) := by decide +kernel
theorem dX11_odds_69 : decode cX11_odds 69 = .ok (.iload 5, 2) := by decide +kernel
theorem dX11_odds_71 : decode cX11_odds 71 = .ok (.if_icmp .gt 70, 3) := by decide +kernel
theorem dX11_odds_74 : decode cX11_odds 74 = .ok (.iload 6, 2) := by decide +kernel
theorem dX11_odds_76 : decode cX11_odds 76 = .ok (.aload_n 0, 1) := by decide +kernel
theorem dX11_odds_77 : decode cX11_odds 77 = .ok (.aload_n 0, 1) := by decide +kernel
theorem dX11_odds_78 : decode cX11_odds 78 = .ok (.getfield 26, 3) := by decide +kernel
theorem dX11_odds_81 : decode cX11_odds 81 = .ok (.iload_n 1, 1) := by decide +kernel
theorem dX11_odds_82 : decode cX11_odds 82 = .ok (.iaload, 1) := by decide +kernel
theorem dX11_odds_83 : decode cX11_odds 83 = .ok (.iload_n 2, 1) := by decide +kernel
theorem dX11_odds_84 : decode cX11_odds 84 = .ok (.invokevirtual 74, 3) := by decide +kernel
theorem dX11_odds_87 : decode cX11_odds 87 = .ok (.iload 7, 2) := by decide +kernel
theorem dX11_odds_89 : decode cX11_odds 89 = .ok (.iadd, 1) := by decide +kernel
theorem dX11_odds_90 : decode cX11_odds 90 = .ok (.aload_n 0, 1) := by decide +kernel
theorem dX11_odds_91 : decode cX11_odds 91 = .ok (.aload_n 0, 1) := by decide +kernel
theorem dX11_odds_92 : decode cX11_odds 92 = .ok (.getfield 29, 3) := by decide +kernel
theorem dX11_odds_95 : decode cX11_odds 95 = .ok (.iload_n 1, 1) := by decide +kernel
theorem dX11_odds_96 : decode cX11_odds 96 = .ok (.iaload, 1) := by decide +kernel
theorem dX11_odds_97 : decode cX11_odds 97 = .ok (.iload_n 2, 1) := by decide +kernel
theorem dX11_odds_98 : decode cX11_odds 98 = .ok (.invokevirtual 74, 3) := by decide +kernel
theorem dX11_odds_101 : decode cX11_odds 101 = .ok (.iload 8, 2) := by decide +kernel
theorem dX11_odds_103 : decode cX11_odds 103 = .ok (.iadd, 1) := by decide +kernel
theorem dX11_odds_104 : decode cX11_odds 104 = .ok (.aload_n 0, 1) := by decide +kernel
theorem dX11_odds_105 : decode cX11_odds 105 = .ok (.getfield 26, 3) := by decide +kernel
theorem dX11_odds_108 : decode cX11_odds 108 = .ok (.iload_n 1, 1) := by decide +kernel
theorem dX11_odds_109 : decode cX11_odds 109 = .ok (.iaload, 1) := by decide +kernel
theorem dX11_odds_110 : decode cX11_odds 110 = .ok (.aload_n 0, 1) := by decide +kernel
theorem dX11_odds_111 : decode cX11_odds 111 = .ok (.getfield 29, 3) := by decide +kernel
theorem dX11_odds_114 : decode cX11_odds 114 = .ok (.iload_n 1, 1) := by decide +kernel
theorem dX11_odds_115 : decode cX11_odds 115 = .ok (.iaload, 1) := by decide +kernel
theorem dX11_odds_116 : decode cX11_odds 116 = .ok (.invokestatic 78, 3) := by decide +kernel
theorem dX11_odds_119 : decode cX11_odds 119 = .ok (.aload_n 0, 1) := by decide +kernel
theorem dX11_odds_120 : decode cX11_odds 120 = .ok (.iload_n 1, 1) := by decide +kernel
theorem dX11_odds_121 : decode cX11_odds 121 = .ok (.invokevirtual 85, 3) := by decide +kernel
theorem dX11_odds_124 : decode cX11_odds 124 = .ok (.if_icmp .ne 7, 3) := by decide +kernel
theorem dX11_odds_127 : decode cX11_odds 127 = .ok (.iconst 0, 1) := by decide +kernel
theorem dX11_odds_128 : decode cX11_odds 128 = .ok (.goto 4, 3) := by decide +kernel
theorem dX11_odds_55 : decode cX11_odds 55 = .ok (.iload 7, 2) := by decide +kernel
theorem dX11_odds_57 : decode cX11_odds 57 = .ok (.iload 4, 2) := by decide +kernel
theorem dX11_odds_59 : decode cX11_odds 59 = .ok (.if_icmp .gt 88, 3) := by decide +kernel
theorem dX11_odds_62 : decode cX11_odds 62 = .ok (.iload 5, 2) := by decide +kernel
theorem dX11_odds_64 : decode cX11_odds 64 = .ok (.ineg, 1) := by decide +kernel
theorem dX11_odds_65 : decode cX11_odds 65 = .ok (.istore 8, 2) := by decide +kernel
theorem dX11_odds_23 : decode cX11_odds 23 = .ok (.aload_n 0, 1) := by decide +kernel
theorem dX11_odds_24 : decode cX11_odds 24 = .ok (.aload_n 0, 1) := by decide +kernel
theorem dX11_odds_25 : decode cX11_odds 25 = .ok (.getfield 26, 3) := by decide +kernel
theorem dX11_odds_28 : decode cX11_odds 28 = .ok (.iload_n 1, 1) := by decide +kernel
theorem dX11_odds_29 : decode cX11_odds 29 = .ok (.iaload, 1) := by decide +kernel
theorem dX11_odds_30 : decode cX11_odds 30 = .ok (.invokevirtual 89, 3) := by decide +kernel
theorem dX11_odds_33 : decode cX11_odds 33 = .ok (.istore 4, 2) := by decide +kernel
theorem dX11_odds_35 : decode cX11_odds 35 = .ok (.aload_n 0, 1) := by decide +kernel
theorem dX11_odds_36 : decode cX11_odds 36 = .ok (.aload_n 0, 1) := by decide +kernel
theorem dX11_odds_37 : decode cX11_odds 37 = .ok (.getfield 29, 3) := by decide +kernel
theorem dX11_odds_40 : decode cX11_odds 40 = .ok (.iload_n 1, 1) := by decide +kernel
theorem dX11_odds_41 : decode cX11_odds 41 = .ok (.iaload, 1) := by decide +kernel
theorem dX11_odds_42 : decode cX11_odds 42 = .ok (.invokevirtual 89, 3) := by decide +kernel
theorem dX11_odds_45 : decode cX11_odds 45 = .ok (.istore 5, 2) := by decide +kernel
theorem dX11_odds_47 : decode cX11_odds 47 = .ok (.iconst 0, 1) := by decide +kernel
theorem dX11_odds_48 : decode cX11_odds 48 = .ok (.istore 6, 2) := by decide +kernel
theorem dX11_odds_50 : decode cX11_odds 50 = .ok (.iload 4, 2) := by decide +kernel
theorem dX11_odds_52 : decode cX11_odds 52 = .ok (.ineg, 1) := by decide +kernel
theorem dX11_odds_53 : decode cX11_odds 53 = .ok (.istore 7, 2) := by decide +kernel
theorem dX11_odds_21 : decode cX11_odds 21 = .ok (.iconst 0, 1) := by decide +kernel
theorem dX11_odds_22 : decode cX11_odds 22 = .ok (.ireturn, 1) := by decide +kernel
theorem dX11_odds_0 : decode cX11_odds 0 = .ok (.aload_n 0, 1) := by decide +kernel
theorem dX11_odds_1 : decode cX11_odds 1 = .ok (.iconst 0, 1) := by decide +kernel
theorem dX11_odds_2 : decode cX11_odds 2 = .ok (.putfield 1, 3) := by decide +kernel
theorem dX11_odds_5 : decode cX11_odds 5 = .ok (.aload_n 0, 1) := by decide +kernel
theorem dX11_odds_6 : decode cX11_odds 6 = .ok (.iload_n 1, 1) := by decide +kernel
theorem dX11_odds_7 : decode cX11_odds 7 = .ok (.invokevirtual 251, 3) := by decide +kernel
theorem dX11_odds_10 : decode cX11_odds 10 = .ok (.ifCond .eq 11, 3) := by decide +kernel
theorem dX11_odds_13 : decode cX11_odds 13 = .ok (.aload_n 0, 1) := by decide +kernel
theorem dX11_odds_14 : decode cX11_odds 14 = .ok (.iload_n 2, 1) := by decide +kernel
theorem dX11_odds_15 : decode cX11_odds 15 = .ok (.invokevirtual 276, 3) := by decide +kernel
theorem dX11_odds_18 : decode cX11_odds 18 = .ok (.ifCond .ne 5, 3) := by decide +kernel
/-! the reference: odds -/
def ca_X11_common : (Nat × Nat) → List zV := fun (a, b) => [vI (nI a), vI (nI b)]
def cp_X11_common : (Nat × Nat) → zH → Prop := fun (a, b) _ => 1 ≤ a ∧ a ≤ 2 ^ 14 ∧ b ≤ a
def cq_X11_common : (Nat × Nat) → zH → Option zV → zH → Prop := fun (a, b) h r h' => r = some (vI (nI (Nat.gcd a b))) ∧ h = h'
def rmd_X11_common (dd : Nat) : Room := { frames := 0 + dd, cells := 0, slots := 0, locals := 0 + dd * 21 }
def cd_X11_common : Nat → (Nat × Nat) → Prop := fun dd (a, b) => 0 < dd ∧ 2 * (a * b) < 2 ^ dd
theorem zrx_X11_common {X : zX} {dd a b : Nat} (hR : xR X = rmd_X11_common (dd + 1)) (h1 : Nat.ble a 0 = true) (h2 : Nat.ble b 0 = true) : a ≤ (xR X).frames ∧ b ≤ (xR X).locals ∧ 0 ≤ (xR X).cells ∧ 0 ≤ (xR X).slots := by
  have e1 := Nat.le_of_ble_eq_true h1
  have e2 := Nat.le_of_ble_eq_true h2
  rw [hR]
  refine ⟨?_, ?_, Nat.zero_le _, Nat.zero_le _⟩
  · show a ≤ 0 + (dd + 1)
    omega
  · show b ≤ 0 + (dd + 1) * 21
    omega
theorem zrs_X11_common {X : zX} {dd : Nat} (hR : xR X = rmd_X11_common (dd + 1)) : (rmd_X11_common dd).frames + 1 ≤ (xR X).frames ∧ 8 + (2 + 11) + (rmd_X11_common dd).locals ≤ (xR X).locals ∧ 0 ≤ (xR X).cells ∧ 0 ≤ (xR X).slots := by
  rw [hR]
  refine ⟨?_, ?_, Nat.zero_le _, Nat.zero_le _⟩
  · show 0 + dd + 1 ≤ 0 + (dd + 1)
    omega
  · show 8 + (2 + 11) + (0 + dd * 21) ≤ 0 + (dd + 1) * 21
    omega
set_option maxHeartbeats 4000000 in
set_option maxRecDepth 100000 in
theorem s_X11_common (dd : Nat) (hrec : zM yX11_common cX11_common 2 (some .int) (rmd_X11_common dd) ((ca_X11_common, fun x h => cp_X11_common x h ∧ cd_X11_common dd x, cq_X11_common) : zC (Nat × Nat))) : zM yX11_common cX11_common 2 (some .int) (rmd_X11_common (dd + 1)) ((ca_X11_common, fun x h => cp_X11_common x h ∧ cd_X11_common (dd + 1) x, cq_X11_common) : zC (Nat × Nat)) := by
  refine zM_of (by decide) ?_
  rintro X Y ⟨a, b⟩ h ⟨⟨ha1, ha2, hb⟩, hdd⟩ O E hR
  have B_15 := zr_ireturn (X := X) (Y := Y) (u := 0) (v := 0) O E (Nat.le_refl _) (Nat.le_refl _) dX11_common_15
  have B_8 := zr_iload_n (X := X) (Y := Y) (u := 0) (v := 0) O dX11_common_8 rfl (zr_iload_n O dX11_common_9 rfl (zr_iload_n O dX11_common_10 rfl (zr_irem O dX11_common_11 (zr_cS (n := 2) O hrec (bn_X11_common _ ⟨rfl, rfl⟩) tw_1576 tw_1575 (zrs_X11_common hR) dX11_common_12 (B_15)))))
  have B_0 := zr_iload_n (X := X) (Y := Y) (u := 0) (v := 0) O dX11_common_0 rfl (zr_ifne (tgt := 8) O dX11_common_1 rfl B_8 (zr_iload_n O dX11_common_4 rfl (zr_goto (tgt := 15) O dX11_common_5 rfl B_15)))
  refine ⟨rfl, Nat.le_of_ble_eq_true rfl, _, B_0, ?_⟩
  have ha1 : 1 ≤ a := ha1
  have ha2 : a ≤ 2 ^ 14 := ha2
  have hb : b ≤ a := hb
  have hdd : 0 < dd + 1 ∧ 2 * (a * b) < 2 ^ (dd + 1) := hdd
  refine ⟨fun c => ?_, fun c => ?_⟩
  · have hb0 : 0 < b := Nat.pos_of_ne_zero (fun z => c (by rw [z]; rfl))
    have hm := mod_half hb0 hb
    have hl := Nat.mod_lt a hb0
    have e1 : a * b < 2 ^ dd := by have := hdd.2; rw [Nat.pow_succ] at this; omega
    refine ⟨nI_ne0 hb0 (by omega), (b, a % b), by rw [rem_n (by omega) hb0 (by omega)]; rfl, ⟨⟨hb0, by omega, by omega⟩, ?_, ?_⟩, fun r h2 hq => ?_⟩
    · rcases Nat.eq_zero_or_pos dd with z | z
      · rw [z] at e1
        have : 1 * 1 ≤ a * b := Nat.mul_le_mul ha1 hb0
        omega
      · exact z
    · show 2 * (b * (a % b)) < 2 ^ dd
      have e2 : 2 * (b * (a % b)) = b * (2 * (a % b)) := by rw [Nat.mul_left_comm]
      have e3 : b * (2 * (a % b)) ≤ b * a := Nat.mul_le_mul_left _ hm
      rw [Nat.mul_comm b a] at e3
      omega
    · obtain ⟨rfl, rfl⟩ := hq
      refine ⟨?_, rfl⟩
      show some (vI (nI (Nat.gcd b (a % b)))) = some (vI (nI (Nat.gcd a b)))
      rw [Nat.gcd_comm b, ← Nat.gcd_rec b a, Nat.gcd_comm b a]
  · have hb0 : b = 0 := (nI_eq (b := 0) (by omega) (by omega)).mp c
    refine ⟨?_, rfl⟩
    show some (vI (nI a)) = some (vI (nI (Nat.gcd a b)))
    rw [hb0, Nat.gcd_zero_right]
theorem i_X11_common : ∀ dd : Nat, zM yX11_common cX11_common 2 (some .int) (rmd_X11_common dd) ((ca_X11_common, fun x h => cp_X11_common x h ∧ cd_X11_common dd x, cq_X11_common) : zC (Nat × Nat))
  | 0 => fun l Y sz x h hF hok hP => ((fun (x : Nat × Nat) h hP => by
    obtain ⟨a, b⟩ := x
    obtain ⟨h1, h2⟩ := hP
    exact absurd h2.1 (Nat.lt_irrefl 0) : ∀ (x : Nat × Nat) (h : zH), cp_X11_common x h ∧ cd_X11_common 0 x → False) x h hP).elim
  | dd + 1 => s_X11_common dd (i_X11_common dd)
theorem m_X11_common : zM yX11_common cX11_common 2 (some .int) ({ frames := 30, cells := 0, slots := 0, locals := 630 } : Room) ((ca_X11_common, cp_X11_common, cq_X11_common) : zC (Nat × Nat)) := fun l Y sz x h hF hok hP => i_X11_common 30 l Y sz x h hF hok ⟨hP, (fun (x : Nat × Nat) h hP => by
    obtain ⟨a, b⟩ := x
    obtain ⟨h1, h2, h3⟩ := hP
    have h2 : a ≤ 2 ^ 14 := h2
    have h3 : b ≤ a := h3
    refine ⟨by decide, ?_⟩
    have h4 : a * b ≤ 2 ^ 14 * 2 ^ 14 := Nat.mul_le_mul h2 (by omega)
    show 2 * (a * b) < 2 ^ 30
    omega : ∀ (x : Nat × Nat) (h : zH), cp_X11_common x h → cd_X11_common 30 x) x h hP⟩
/-- draws that give another bit -/
def omB (S : zD) (p : Nat) (te : Int32) (k j : Nat) : Bool := odB S p te k j ^^ decide (pb S p = 1)
def om1 (S : zD) (p : Nat) (te : Int32) (k : Nat) : Nat := fb_ct (omB S p te k) (2 * zN S (dS S p) + 1)
theorem om_e (S : zD) (p : Nat) (te : Int32) (k j : Nat) : bby (spd S (dF S p) te + (-dZ S (dF S p) + nI k)) (spd S (dS S p) te + (-dZ S (dS S p) + nI j)) (dF S p) (dS S p) = pb S p ↔ omB S p te k j = false := by
  rw [← Int32.add_assoc, ← Int32.add_assoc, ← Int32.sub_eq_add_neg, ← Int32.sub_eq_add_neg]
  unfold omB odB
  have h1 := bby_01 (spd S (dF S p) te - dZ S (dF S p) + nI k) (spd S (dS S p) te - dZ S (dS S p) + nI j) (dF S p) (dS S p)
  have h2 : pb S p = 0 ∨ pb S p = 1 := bby_01 _ _ _ _
  generalize bby (spd S (dF S p) te - dZ S (dF S p) + nI k) (spd S (dS S p) te - dZ S (dS S p) + nI j) (dF S p) (dS S p) = u at h1
  rcases h1 with h1 | h1 <;> rcases h2 with h2 | h2 <;> rw [h1, h2] <;> decide
theorem om_sum (S : zD) (p : Nat) (te : Int32) : fb_sm (om1 S p te) (2 * zN S (dF S p) + 1) = otN S p te := by
  unfold otN
  by_cases hp : pb S p = 1
  · rw [if_pos hp]
    have h1 : ∀ k, om1 S p te k + od1 S p te k = 2 * zN S (dS S p) + 1 := by
      intro k
      have h2 := fb_ct_not (odB S p te k) (2 * zN S (dS S p) + 1)
      have h3 : om1 S p te k = fb_ct (fun j => !odB S p te k j) (2 * zN S (dS S p) + 1) := fb_ct_cong (fun j _ => by unfold omB; rw [decide_eq_true hp, Bool.xor_true])
      rw [h3]
      unfold od1
      omega
    have h4 := fb_sm_add (om1 S p te) (od1 S p te) (2 * zN S (dF S p) + 1)
    rw [fb_sm_cong (g := fun _ => 2 * zN S (dS S p) + 1) (fun k _ => h1 k), fb_sm_const] at h4
    unfold alN onN
    omega
  · rw [if_neg hp]
    refine fb_sm_cong (fun k _ => fb_ct_cong (fun j _ => ?_))
    unfold omB
    rw [decide_eq_false hp, Bool.xor_false]
theorem mz_gt {z : Int32} {n j : Nat} (hz : z = nI n) (hn : n ≤ 50) (hj : j ≤ 2 * n + 1) : z < -z + nI j ↔ 2 * n + 1 ≤ j := by
  have e1 : z.toInt = n := by rw [hz]; exact nI_toInt (by omega)
  have e2 : (-z).toInt = -(n : Int) := by rw [fb_negI (by omega), e1]
  have e3 : (-z + nI j).toInt = -(n : Int) + j := by
    rw [fb_addI (by rw [e2, nI_toInt (by omega)]; omega) (by rw [e2, nI_toInt (by omega)]; omega), e2, nI_toInt (by omega)]
  rw [fa_lt, e1, e3]
  omega
def ca_X11_odds : (zD × Nat × Int32 × Int32 × Int32) → List zV := fun (S, y, i, te, lo) => [vR 20 0 y, vI i, vI te, vI lo]
def cp_X11_odds : (zD × Nat × Int32 × Int32 × Int32) → zH → Prop := fun (S, y, i, te, lo) h => rmS S h y ∧ vS S
def cq_X11_odds : (zD × Nat × Int32 × Int32 × Int32) → zH → Option zV → zH → Prop := fun (S, y, i, te, lo) h r h' => fq y h h' ∧ ((gC i (dP S) ∧ gR te (-40) 125 ∧ rok y h h' ∧ r = some (vI (odv S (cN i) te lo))) ∨ (¬ gC i (dP S) ∧ rno y 1 0 h h' ∧ r = some (vI 0)) ∨ (gC i (dP S) ∧ ¬ gR te (-40) 125 ∧ rno y 2 1 h h' ∧ r = some (vI 0)))
theorem rc_X11_odds : ∀ x : (zD × Nat × Int32 × Int32 × Int32), ∃ (j a : Nat) (As : List zV), ca_X11_odds x = vR (10 + 10) j a :: As := by
  rintro ⟨S, y, i, te, lo⟩
  exact ⟨_, _, _, rfl⟩
set_option maxHeartbeats 4000000 in
set_option maxRecDepth 100000 in
theorem m_X11_odds : zM yX11_odds cX11_odds 9 (some .int) ({ frames := 31, cells := 0, slots := 0, locals := 651 } : Room) ((ca_X11_odds, cp_X11_odds, cq_X11_odds) : zC (zD × Nat × Int32 × Int32 × Int32)) := by
  refine zM_of (by decide) ?_
  rintro X Y ⟨S, y, i, te, lo⟩ h ⟨hS, hv⟩ O E hR
  have hS : rmS S h y := hS
  have hv : vS S := hv
  have hS0 := rmS_0 hS
  have hP28 := hS.2.1.2
  have hN10 := hS.1.2
  have B_188 := zr_ireturn (X := X) (Y := Y) (u := 0) (v := 0) O E (Nat.le_refl _) (Nat.le_refl _) dX11_odds_188
  have B_183 := zr_iload (X := X) (Y := Y) (u := 0) (v := 0) O dX11_odds_183 (zr_iload O dX11_odds_185 (zr_idiv O dX11_odds_187 (B_188)))
  have B_147 := zr_iconst (X := X) (Y := Y) (u := 0) (v := 0) (x := 2) O dX11_odds_147 rfl (zr_iload O dX11_odds_148 (zr_imul O dX11_odds_150 (zr_iconst (x := 1) O dX11_odds_151 rfl (zr_iadd O dX11_odds_152 (zr_iconst (x := 2) O dX11_odds_153 rfl (zr_iload O dX11_odds_154 (zr_imul O dX11_odds_156 (zr_iconst (x := 1) O dX11_odds_157 rfl (zr_iadd O dX11_odds_158 (zr_imul O dX11_odds_159 (zr_istore O dX11_odds_160 (zr_iload O dX11_odds_162 (zr_iload O dX11_odds_164 (zr_cS (n := 2) O m_X11_common (bn_X11_common _ ⟨rfl, rfl⟩) tw_1576 tw_1575 (zrm hR rfl rfl) dX11_odds_166 (zr_istore O dX11_odds_169 (zr_iload_n O dX11_odds_171 rfl (zr_ifeq (tgt := 183) O dX11_odds_172 rfl B_183 (zr_iload O dX11_odds_175 (zr_iload O dX11_odds_177 (zr_idiv O dX11_odds_179 (zr_goto (tgt := 188) O dX11_odds_180 rfl B_188)))))))))))))))))))))
  have L_55 : ∀ nn : Nat, zSd X Y 0 0 55 ((fun d ls st h1 => ∃ (p k : Nat) (z7 u : Int32) (y8 : Option zV), d = 2 * zN S (dF S p) + 1 - k ∧ k ≤ 2 * zN S (dF S p) + 1 ∧ gC i (dP S) ∧ gR te (-40) 125 ∧ i = nI p ∧ p < dP S ∧ ls = [some (vR 20 0 y), some (vI i), some (vI te), some (vI lo), some (vI (dZ S (dF S p))), some (vI (dZ S (dS S p))), some (vI u), some (vI z7), y8] ∧ u = nI (fb_sm (om1 S p te) k) ∧ z7 = -dZ S (dF S p) + nI k ∧ st = [] ∧ h1 = zsI h y 0 0 : Nat → zT) nn) := by
    refine zSd_loop (fun nn ih => ?_)
    have B_141 := zr_iinc (X := X) (Y := Y) (u := 0) (v := 0) (c := 1) O dX11_odds_141 rfl (zr_goto (tgt := 55) O dX11_odds_144 rfl ih)
    have L_67 : ∀ nn67 : Nat, zSd X Y 0 0 67 ((fun d ls st h1 => ∃ (p k j : Nat) (z7 z8 u : Int32), d = 2 * zN S (dS S p) + 1 - j ∧ j ≤ 2 * zN S (dS S p) + 1 ∧ nn = 2 * zN S (dF S p) + 1 - k ∧ k < 2 * zN S (dF S p) + 1 ∧ gC i (dP S) ∧ gR te (-40) 125 ∧ i = nI p ∧ p < dP S ∧ ls = [some (vR 20 0 y), some (vI i), some (vI te), some (vI lo), some (vI (dZ S (dF S p))), some (vI (dZ S (dS S p))), some (vI u), some (vI z7), some (vI z8)] ∧ u = nI (fb_sm (om1 S p te) k + fb_ct (omB S p te k) j) ∧ z7 = -dZ S (dF S p) + nI k ∧ z8 = -dZ S (dS S p) + nI j ∧ st = [] ∧ h1 = zsI h y 0 0 : Nat → zT) nn67) := by
      refine zSd_loop (fun nn67 ih67 => ?_)
      have B_132 := zr_iadd (X := X) (Y := Y) (u := 0) (v := 0) O dX11_odds_132 (zr_istore O dX11_odds_133 (zr_iinc (c := 1) O dX11_odds_135 rfl (zr_goto (tgt := 67) O dX11_odds_138 rfl ih67)))
      have B_131 := zr_iconst (X := X) (Y := Y) (u := 0) (v := 0) (x := 1) O dX11_odds_131 rfl (B_132)
      have B_67 := zr_iload (X := X) (Y := Y) (u := 0) (v := 0) O dX11_odds_67 (zr_iload O dX11_odds_69 (zr_icgt (tgt := 141) O dX11_odds_71 rfl B_141 (zr_iload O dX11_odds_74 (zr_aload_n O dX11_odds_76 rfl (zr_aload_n O dX11_odds_77 rfl (zr_gS (ci := 10) (j := 5) (off := 5) (t := 1) (n := 28) O zc_10 (by decide) rfl tw_1192 dX11_odds_78 (zr_iload_n O dX11_odds_81 rfl (zr_iald O dX11_odds_82 (zr_iload_n O dX11_odds_83 rfl (zr_cI (zr_cV (ci := 10) (n := 2) O m_X11_speedOf (bn_X11_speedOf _ ⟨rfl, rfl⟩) vw_X11_speedOf tw_1415 rc_X11_speedOf (zrm hR rfl rfl) dX11_odds_84 (zr_iload O dX11_odds_87 (zr_iadd O dX11_odds_89 (zr_aload_n O dX11_odds_90 rfl (zr_aload_n O dX11_odds_91 rfl (zr_gS (ci := 10) (j := 6) (off := 6) (t := 1) (n := 28) O zc_10 (by decide) rfl tw_1193 dX11_odds_92 (zr_iload_n O dX11_odds_95 rfl (zr_iald O dX11_odds_96 (zr_iload_n O dX11_odds_97 rfl (zr_cI (zr_cV (ci := 10) (n := 2) O m_X11_speedOf (bn_X11_speedOf _ ⟨rfl, rfl⟩) vw_X11_speedOf tw_1415 rc_X11_speedOf (zrm hR rfl rfl) dX11_odds_98 (zr_iload O dX11_odds_101 (zr_iadd O dX11_odds_103 (zr_aload_n O dX11_odds_104 rfl (zr_gS (ci := 10) (j := 5) (off := 5) (t := 1) (n := 28) O zc_10 (by decide) rfl tw_1192 dX11_odds_105 (zr_iload_n O dX11_odds_108 rfl (zr_iald O dX11_odds_109 (zr_aload_n O dX11_odds_110 rfl (zr_gS (ci := 10) (j := 6) (off := 6) (t := 1) (n := 28) O zc_10 (by decide) rfl tw_1193 dX11_odds_111 (zr_iload_n O dX11_odds_114 rfl (zr_iald O dX11_odds_115 (zr_cI (zr_cS (n := 4) O m_X11_bitBy (bn_X11_bitBy _ ⟨rfl, rfl⟩) tw_1428 tw_1427 (zrm hR rfl rfl) dX11_odds_116 (zr_aload_n O dX11_odds_119 rfl (zr_iload_n O dX11_odds_120 rfl (zr_cI (zr_cV (ci := 10) (n := 1) O m_X11_bitOf (bn_X11_bitOf _ ⟨rfl, rfl⟩) vw_X11_bitOf tw_1419 rc_X11_bitOf (zrm hR rfl rfl) dX11_odds_121 (zr_icne (tgt := 131) O dX11_odds_124 rfl B_131 (zr_iconst (x := 0) O dX11_odds_127 rfl (zr_goto (tgt := 132) O dX11_odds_128 rfl B_132))))))))))))))))))))))))))))))))))))))))
      refine zSd_weak B_67 (fun ls st h1 t => ?_)
      obtain ⟨p, k, j, z7, z8, u, rfl, hj, en, hk, g1, g2, ei, hp, rfl, rfl, rfl, rfl, rfl, rfl⟩ := t
      obtain ⟨⟨f1, f2⟩, s1, s2⟩ := hS0.2.2.2.1 p hp
      have hp28 : p < 28 := by omega
      obtain ⟨zb, zb2, -⟩ := zN_e hv s2
      rw [ei]
      refine ⟨fun c => ?_, fun c => ?_⟩
      · have hj2 := (mz_gt zb zb2 hj).mp c
        have hj3 : j = 2 * zN S (dS S p) + 1 := by omega
        refine ⟨2 * zN S (dF S p) + 1 - (k + 1), by omega, p, k + 1, _, _, _, rfl, by omega, ei ▸ g1, g2, rfl, hp, rfl, ?_, ?_, rfl, rfl⟩
        · rw [hj3]; rfl
        · rw [Int32.add_assoc, nI_1]
      · have hj2 : j < 2 * zN S (dS S p) + 1 := Nat.not_le.mp (fun z => c ((mz_gt zb zb2 hj).mpr z))
        have key := om_e S p te k j
        refine ⟨p, rfl, hp28, (S, y, dF S p, te), by rw [f1]; rfl, ⟨hS0, f2⟩, p, rfl, hp28, (S, y, dS S p, te), by rw [s1]; rfl, ⟨hS0, s2⟩, p, rfl, hp28, p, rfl, hp28, (spd S (dF S p) te + (-dZ S (dF S p) + nI k), spd S (dS S p) te + (-dZ S (dS S p) + nI j), dF S p, dS S p), by rw [f1, s1]; rfl, ⟨by omega, by omega⟩, (S, y, p), rfl, ⟨hS0, hp⟩, fun c2 => ?_, fun c2 => ?_⟩
        · replace c2 : ¬ bby (spd S (dF S p) te + (-dZ S (dF S p) + nI k)) (spd S (dS S p) te + (-dZ S (dS S p) + nI j)) (dF S p) (dS S p) = pb S p := c2
          have e : omB S p te k j = true := by
            cases hz : omB S p te k j with
            | true => rfl
            | false => exact absurd (key.mpr hz) c2
          refine ⟨2 * zN S (dS S p) + 1 - (j + 1), by omega, p, k, j + 1, _, _, _, rfl, by omega, en, hk, ei ▸ g1, g2, rfl, hp, rfl, ?_, rfl, ?_, rfl, rfl⟩
          · rw [fb_ct_succ, e, ← Nat.add_assoc]; exact nI_1 _
          · rw [Int32.add_assoc, nI_1]
        · replace c2 : bby (spd S (dF S p) te + (-dZ S (dF S p) + nI k)) (spd S (dS S p) te + (-dZ S (dS S p) + nI j)) (dF S p) (dS S p) = pb S p := c2
          have e := key.mp c2
          refine ⟨2 * zN S (dS S p) + 1 - (j + 1), by omega, p, k, j + 1, _, _, _, rfl, by omega, en, hk, ei ▸ g1, g2, rfl, hp, rfl, ?_, rfl, ?_, rfl, rfl⟩
          · rw [fb_ct_succ, e]; exact Int32.add_zero _
          · rw [Int32.add_assoc, nI_1]
    have B_67 := zSd_any L_67
    have B_55 := zr_iload (X := X) (Y := Y) (u := 0) (v := 0) O dX11_odds_55 (zr_iload O dX11_odds_57 (zr_icgt (tgt := 147) O dX11_odds_59 rfl B_147 (zr_iload O dX11_odds_62 (zr_ineg O dX11_odds_64 (zr_istore O dX11_odds_65 (B_67))))))
    refine zSd_weak B_55 (fun ls st h1 t => ?_)
    obtain ⟨p, k, z7, u, y8, rfl, hk, g1, g2, ei, hp, rfl, rfl, rfl, rfl, rfl⟩ := t
    have ep : cN i = p := by rw [ei]; exact nI_clamp (by omega)
    obtain ⟨⟨f1, f2⟩, s1, s2⟩ := hS0.2.2.2.1 p hp
    obtain ⟨za, za2, -⟩ := zN_e hv f2
    obtain ⟨zb, zb2, -⟩ := zN_e hv s2
    have hal := al_b hv f2 s2
    have hot : otN S p te ≤ alN S p := by
      unfold otN
      have := on_le (S := S) (p := p) (te := te)
      split <;> omega
    have hg0 : 0 < Nat.gcd (alN S p) (otN S p te) := Nat.gcd_pos_of_pos_left _ (by omega)
    have hg1 : Nat.gcd (alN S p) (otN S p te) ≤ alN S p := Nat.gcd_le_left _ (by omega)
    refine ⟨fun c => ?_, fun c => ?_⟩
    · have hk2 := (mz_gt za za2 hk).mp c
      have hk3 : k = 2 * zN S (dF S p) + 1 := by omega
      have eal : (2 * dZ S (dF S p) + 1) * (2 * dZ S (dS S p) + 1) = nI (alN S p) := by
        rw [za, zb, show (2 : Int32) = nI 2 from rfl, nI_mul, nI_mul, nI_1, nI_1, nI_mul]; rfl
      have eot : fb_sm (om1 S p te) k = otN S p te := by rw [hk3]; exact om_sum S p te
      refine ⟨(alN S p, otN S p te), by rw [eal, eot]; rfl, ⟨hal.1, hal.2, hot⟩, fun r h2 hq => ?_⟩
      obtain ⟨rfl, rfl⟩ := hq
      refine ⟨fun c2 => ⟨nI_ne0 hg0 (by omega), (fq_0 y h).1, Or.inl ⟨g1, g2, (fq_0 y h).2, zri ?_⟩⟩, fun c2 => ⟨nI_ne0 hg0 (by omega), (fq_0 y h).1, Or.inl ⟨g1, g2, (fq_0 y h).2, zri ?_⟩⟩⟩
      · rw [ep, odv, if_pos c2, eot]; exact pk_div (by omega) hg0 (by omega)
      · rw [ep, odv, if_neg c2, eal]; exact pk_div (by omega) hg0 (by omega)
    · have hk2 : k < 2 * zN S (dF S p) + 1 := Nat.not_le.mp (fun z => c ((mz_gt za za2 hk).mpr z))
      exact ⟨2 * zN S (dS S p) + 1 - 0, p, k, 0, _, _, _, rfl, Nat.zero_le _, rfl, hk2, g1, g2, ei, hp, rfl, rfl, rfl, (Int32.add_zero _).symm, rfl, rfl⟩
  have B_55 := zSd_any L_55
  have B_23 := zr_aload_n (X := X) (Y := Y) (u := 0) (v := 0) O dX11_odds_23 rfl (zr_aload_n O dX11_odds_24 rfl (zr_gS (ci := 10) (j := 5) (off := 5) (t := 1) (n := 28) O zc_10 (by decide) rfl tw_1192 dX11_odds_25 (zr_iload_n O dX11_odds_28 rfl (zr_iald O dX11_odds_29 (zr_cI (zr_cV (ci := 10) (n := 1) O m_X11_noiseOf (bn_X11_noiseOf _ ⟨rfl, rfl⟩) vw_X11_noiseOf tw_1430 rc_X11_noiseOf (zrm hR rfl rfl) dX11_odds_30 (zr_istore O dX11_odds_33 (zr_aload_n O dX11_odds_35 rfl (zr_aload_n O dX11_odds_36 rfl (zr_gS (ci := 10) (j := 6) (off := 6) (t := 1) (n := 28) O zc_10 (by decide) rfl tw_1193 dX11_odds_37 (zr_iload_n O dX11_odds_40 rfl (zr_iald O dX11_odds_41 (zr_cI (zr_cV (ci := 10) (n := 1) O m_X11_noiseOf (bn_X11_noiseOf _ ⟨rfl, rfl⟩) vw_X11_noiseOf tw_1430 rc_X11_noiseOf (zrm hR rfl rfl) dX11_odds_42 (zr_istore O dX11_odds_45 (zr_iconst (x := 0) O dX11_odds_47 rfl (zr_istore O dX11_odds_48 (zr_iload O dX11_odds_50 (zr_ineg O dX11_odds_52 (zr_istore O dX11_odds_53 (B_55)))))))))))))))))))))
  have B_21 := zr_iconst (X := X) (Y := Y) (u := 0) (v := 0) (x := 0) O dX11_odds_21 rfl (zr_ireturn O E (Nat.le_refl _) (Nat.le_refl _) dX11_odds_22)
  have B_0 := zr_aload_n (X := X) (Y := Y) (u := 0) (v := 0) O dX11_odds_0 rfl (zr_iconst (x := 0) O dX11_odds_1 rfl (zr_pI (ci := 10) (j := 0) O zc_10 (by decide) rfl rfl rfl tw_1187 dX11_odds_2 (zr_aload_n O dX11_odds_5 rfl (zr_iload_n O dX11_odds_6 rfl (zr_cH (zr_cV (ci := 10) (n := 1) O m_X11_isPair (bn_X11_isPair _ ⟨rfl, rfl⟩) vw_X11_isPair tw_1459 rc_X11_isPair (zrm hR rfl rfl) dX11_odds_7 (zr_ifeq (tgt := 21) O dX11_odds_10 rfl B_21 (zr_aload_n O dX11_odds_13 rfl (zr_iload_n O dX11_odds_14 rfl (zr_cH (zr_cV (ci := 10) (n := 1) O m_X11_isHeat (bn_X11_isHeat _ ⟨rfl, rfl⟩) vw_X11_isHeat tw_1515 rc_X11_isHeat (zrm hR rfl rfl) dX11_odds_15 (zr_ifne (tgt := 23) O dX11_odds_18 rfl B_23 (B_21)))))))))))))
  refine ⟨rfl, Nat.le_of_ble_eq_true rfl, _, B_0, ?_⟩
  refine ⟨(S, y, i), rfl, ⟨hS0, t0 h y⟩, fun d => ?_, fun d => ?_⟩
  · obtain ⟨g, e⟩ := pair_no d
    rw [e]
    exact ⟨(fq_rf 1 (fq_0 y h)).1, Or.inr (Or.inl ⟨g, (fq_rf 1 (fq_0 y h)).2, rfl⟩)⟩
  · obtain ⟨g1, e⟩ := pair_ok d
    rw [e]
    refine ⟨(y, te), rfl, t0 h y, fun d => ?_, fun d => ?_⟩
    · obtain ⟨g2, e⟩ := heat_ok d
      rw [e]
      obtain ⟨p, rfl, hp, ep⟩ := cntx (by omega) g1
      obtain ⟨⟨f1, f2⟩, s1, s2⟩ := hS0.2.2.2.1 p hp
      have hp28 : p < 28 := by omega
      refine ⟨p, rfl, hp28, (S, y, dF S p), by rw [f1]; rfl, ⟨hS0, f2⟩, p, rfl, hp28, (S, y, dS S p), by rw [s1]; rfl, ⟨hS0, s2⟩, 2 * zN S (dF S p) + 1 - 0, p, 0, _, _, _, rfl, Nat.zero_le _, g1, g2, rfl, hp, rfl, rfl, (Int32.add_zero _).symm, rfl, rfl⟩
    · obtain ⟨g2, e⟩ := heat_no d
      rw [e]
      exact ⟨(fq_rf 2 (fq_0 y h)).1, Or.inr (Or.inr ⟨g1, g2, (fq_rf 2 (fq_0 y h)).2, rfl⟩)⟩

