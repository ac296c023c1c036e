theorem dX2_putBlock_128 : decode cX2_putBlock 128 = .ok (.iconst 1, 1) := by decide +kernel
theorem dX2_putBlock_129 : decode cX2_putBlock 129 = .ok (.ireturn, 1) := by decide +kernel
theorem dX2_putBlock_112 : decode cX2_putBlock 112 = .ok (.aload 5, 2) := by decide +kernel
theorem dX2_putBlock_114 : decode cX2_putBlock 114 = .ok (.aload_n 1, 1) := by decide +kernel
theorem dX2_putBlock_115 : decode cX2_putBlock 115 = .ok (.iload 9, 2) := by decide +kernel
theorem dX2_putBlock_117 : decode cX2_putBlock 117 = .ok (.iload 10, 2) := by decide +kernel
theorem dX2_putBlock_119 : decode cX2_putBlock 119 = .ok (.invokevirtual 92, 3) := by decide +kernel
theorem dX2_putBlock_122 : decode cX2_putBlock 122 = .ok (.iinc 8 1, 3) := by decide +kernel
theorem dX2_putBlock_125 : decode cX2_putBlock 125 = .ok (.goto (-71), 3) := by decide +kernel
theorem dX2_putBlock_54 : decode cX2_putBlock 54 = .ok (.iload 8, 2) := by decide +kernel
theorem dX2_putBlock_56 : decode cX2_putBlock 56 = .ok (.iload 6, 2) := by decide +kernel
theorem dX2_putBlock_58 : decode cX2_putBlock 58 = .ok (.if_icmp .ge 70, 3) := by decide +kernel
theorem dX2_putBlock_61 : decode cX2_putBlock 61 = .ok (.aload_n 2, 1) := by decide +kernel
theorem dX2_putBlock_62 : decode cX2_putBlock 62 = .ok (.getfield 74, 3) := by decide +kernel
theorem dX2_putBlock_65 : decode cX2_putBlock 65 = .ok (.iload_n 3, 1) := by decide +kernel
theorem dX2_putBlock_66 : decode cX2_putBlock 66 = .ok (.iload 6, 2) := by decide +kernel
theorem dX2_putBlock_68 : decode cX2_putBlock 68 = .ok (.imul, 1) := by decide +kernel
theorem dX2_putBlock_69 : decode cX2_putBlock 69 = .ok (.iload 8, 2) := by decide +kernel
theorem dX2_putBlock_71 : decode cX2_putBlock 71 = .ok (.iadd, 1) := by decide +kernel
theorem dX2_putBlock_72 : decode cX2_putBlock 72 = .ok (.iaload, 1) := by decide +kernel
theorem dX2_putBlock_73 : decode cX2_putBlock 73 = .ok (.istore 9, 2) := by decide +kernel
theorem dX2_putBlock_75 : decode cX2_putBlock 75 = .ok (.iload 7, 2) := by decide +kernel
theorem dX2_putBlock_77 : decode cX2_putBlock 77 = .ok (.iload 8, 2) := by decide +kernel
theorem dX2_putBlock_79 : decode cX2_putBlock 79 = .ok (.invokestatic 78, 3) := by decide +kernel
theorem dX2_putBlock_82 : decode cX2_putBlock 82 = .ok (.istore 10, 2) := by decide +kernel
theorem dX2_putBlock_84 : decode cX2_putBlock 84 = .ok (.aload 5, 2) := by decide +kernel
theorem dX2_putBlock_86 : decode cX2_putBlock 86 = .ok (.aload_n 1, 1) := by decide +kernel
theorem dX2_putBlock_87 : decode cX2_putBlock 87 = .ok (.getfield 81, 3) := by decide +kernel
theorem dX2_putBlock_90 : decode cX2_putBlock 90 = .ok (.iload 9, 2) := by decide +kernel
theorem dX2_putBlock_92 : decode cX2_putBlock 92 = .ok (.iaload, 1) := by decide +kernel
theorem dX2_putBlock_93 : decode cX2_putBlock 93 = .ok (.aload_n 1, 1) := by decide +kernel
theorem dX2_putBlock_94 : decode cX2_putBlock 94 = .ok (.getfield 86, 3) := by decide +kernel
theorem dX2_putBlock_97 : decode cX2_putBlock 97 = .ok (.iload 9, 2) := by decide +kernel
theorem dX2_putBlock_99 : decode cX2_putBlock 99 = .ok (.iaload, 1) := by decide +kernel
theorem dX2_putBlock_100 : decode cX2_putBlock 100 = .ok (.invokevirtual 89, 3) := by decide +kernel
theorem dX2_putBlock_103 : decode cX2_putBlock 103 = .ok (.iconst 1, 1) := by decide +kernel
theorem dX2_putBlock_104 : decode cX2_putBlock 104 = .ok (.iload 10, 2) := by decide +kernel
theorem dX2_putBlock_106 : decode cX2_putBlock 106 = .ok (.isub, 1) := by decide +kernel
theorem dX2_putBlock_107 : decode cX2_putBlock 107 = .ok (.if_icmp .ne 5, 3) := by decide +kernel
theorem dX2_putBlock_110 : decode cX2_putBlock 110 = .ok (.iconst 0, 1) := by decide +kernel
theorem dX2_putBlock_111 : decode cX2_putBlock 111 = .ok (.ireturn, 1) := by decide +kernel
theorem dX2_putBlock_0 : decode cX2_putBlock 0 = .ok (.aload_n 0, 1) := by decide +kernel
theorem dX2_putBlock_1 : decode cX2_putBlock 1 = .ok (.getfield 11, 3) := by decide +kernel
theorem dX2_putBlock_4 : decode cX2_putBlock 4 = .ok (.iload_n 3, 1) := by decide +kernel
theorem dX2_putBlock_5 : decode cX2_putBlock 5 = .ok (.iconst 1, 1) := by decide +kernel
theorem dX2_putBlock_6 : decode cX2_putBlock 6 = .ok (.iadd, 1) := by decide +kernel
theorem dX2_putBlock_7 : decode cX2_putBlock 7 = .ok (.aaload, 1) := by decide +kernel
theorem dX2_putBlock_8 : decode cX2_putBlock 8 = .ok (.astore 5, 2) := by decide +kernel
theorem dX2_putBlock_10 : decode cX2_putBlock 10 = .ok (.aload 5, 2) := by decide +kernel
theorem dX2_putBlock_12 : decode cX2_putBlock 12 = .ok (.aload_n 0, 1) := by decide +kernel
theorem dX2_putBlock_13 : decode cX2_putBlock 13 = .ok (.getfield 11, 3) := by decide +kernel
theorem dX2_putBlock_16 : decode cX2_putBlock 16 = .ok (.iload_n 3, 1) := by decide +kernel
theorem dX2_putBlock_17 : decode cX2_putBlock 17 = .ok (.aaload, 1) := by decide +kernel
theorem dX2_putBlock_18 : decode cX2_putBlock 18 = .ok (.invokevirtual 22, 3) := by decide +kernel
theorem dX2_putBlock_21 : decode cX2_putBlock 21 = .ok (.aload_n 2, 1) := by decide +kernel
theorem dX2_putBlock_22 : decode cX2_putBlock 22 = .ok (.getfield 39, 3) := by decide +kernel
theorem dX2_putBlock_25 : decode cX2_putBlock 25 = .ok (.invokestatic 64, 3) := by decide +kernel
theorem dX2_putBlock_28 : decode cX2_putBlock 28 = .ok (.istore 6, 2) := by decide +kernel
theorem dX2_putBlock_30 : decode cX2_putBlock 30 = .ok (.aload_n 2, 1) := by decide +kernel
theorem dX2_putBlock_31 : decode cX2_putBlock 31 = .ok (.getfield 39, 3) := by decide +kernel
theorem dX2_putBlock_34 : decode cX2_putBlock 34 = .ok (.iload 4, 2) := by decide +kernel
theorem dX2_putBlock_36 : decode cX2_putBlock 36 = .ok (.invokestatic 67, 3) := by decide +kernel
theorem dX2_putBlock_39 : decode cX2_putBlock 39 = .ok (.aload_n 2, 1) := by decide +kernel
theorem dX2_putBlock_40 : decode cX2_putBlock 40 = .ok (.getfield 71, 3) := by decide +kernel
theorem dX2_putBlock_43 : decode cX2_putBlock 43 = .ok (.iload_n 3, 1) := by decide +kernel
theorem dX2_putBlock_44 : decode cX2_putBlock 44 = .ok (.iload 6, 2) := by decide +kernel
theorem dX2_putBlock_46 : decode cX2_putBlock 46 = .ok (.imul, 1) := by decide +kernel
theorem dX2_putBlock_47 : decode cX2_putBlock 47 = .ok (.ishr, 1) := by decide +kernel
theorem dX2_putBlock_48 : decode cX2_putBlock 48 = .ok (.ixor, 1) := by decide +kernel
theorem dX2_putBlock_49 : decode cX2_putBlock 49 = .ok (.istore 7, 2) := by decide +kernel
theorem dX2_putBlock_51 : decode cX2_putBlock 51 = .ok (.iconst 0, 1) := by decide +kernel
theorem dX2_putBlock_52 : decode cX2_putBlock 52 = .ok (.istore 8, 2) := by decide +kernel
/-! secrets that are left: a block's bits put into the next order -/
def rpC (h : zH) (c : Nat) : Prop := ∀ j, j < 17 → h.2.2 (c + 1) j = c + 2 + 2 * j
theorem rpC_sm {h h' : zH} {c a n : Nat} (s : sm a n h h') (hC : rpC h c) : rpC h' c := by
  intro j hj
  rw [s.2]
  exact hC j hj
/-- the bits of a block with its helper, for some data -/
def pbW (K : zE) (b x : Nat) : Nat := wdN (eR K) x ^^^ (eH K / 2 ^ (b * lnR (eR K)))
def pbk (S : zD) (K : zE) (b x : Nat) (B : Nat → Nat) : Nat → Option (Nat → Nat)
  | 0 => some B
  | i + 1 => match pbk S K b x B i with
    | none => none
    | some C => if otl C (dF S (eP K (b * lnR (eR K) + i))) (dS S (eP K (b * lnR (eR K) + i))) = 1 - bI ((pbW K b x).testBit i) then none else some (oputP S C (eP K (b * lnR (eR K) + i)) ((pbW K b x).testBit i))
theorem pbk_none {S : zD} {K : zE} {b x : Nat} {B : Nat → Nat} {i : Nat} (h : pbk S K b x B i = none) : ∀ n, pbk S K b x B (i + n) = none
  | 0 => h
  | n + 1 => by
    show pbk S K b x B (i + n + 1) = none
    rw [pbk, pbk_none h n]
def ca_X2_putBlock : (zD × zE × (Nat → Nat) × Nat × Nat × Nat × Nat × Nat) → List zV := fun (S, K, B, w, a, e, b, x) => [vR 11 0 w, vR 15 0 a, vR 10 0 e, vI (nI b), vI (nI x)]
def cp_X2_putBlock : (zD × zE × (Nat → Nat) × Nat × Nat × Nat × Nat × Nat) → zH → Prop := fun (S, K, B, w, a, e, b, x) h => rpS S h a ∧ rpE K h e ∧ 0 < eN K ∧ (∀ i, i < eN K → eP K i < dP S) ∧ rpC h w ∧ b < eK K ∧ x < 2 ^ btR (eR K) ∧ rpO B h (w + 2 + 2 * b) ∧ (w + 36 ≤ a ∨ a + 7 ≤ w) ∧ (w + 36 ≤ e ∨ e + 2 ≤ w)
def cq_X2_putBlock : (zD × zE × (Nat → Nat) × Nat × Nat × Nat × Nat × Nat) → zH → Option zV → zH → Prop := fun (S, K, B, w, a, e, b, x) h r h' => r = some (vI (bI (pbk S K b x B (lnR (eR K))).isSome)) ∧ sm (w + 2 + 2 * (b + 1)) 2 h h' ∧ ∀ C, pbk S K b x B (lnR (eR K)) = some C → rpO C h' (w + 2 + 2 * (b + 1))
theorem rc_X2_putBlock : ∀ x : (zD × zE × (Nat → Nat) × Nat × Nat × Nat × Nat × Nat), ∃ (j a : Nat) (As : List zV), ca_X2_putBlock x = vR (10 + 1) j a :: As := by
  rintro ⟨S, K, B, w, a, e, b, x⟩
  exact ⟨_, _, _, rfl⟩
set_option maxHeartbeats 4000000 in
set_option maxRecDepth 100000 in
theorem m_X2_putBlock : zM yX2_putBlock cX2_putBlock 11 (some .boolean) ({ frames := 3, cells := 0, slots := 0, locals := 81 } : Room) ((ca_X2_putBlock, cp_X2_putBlock, cq_X2_putBlock) : zC (zD × zE × (Nat → Nat) × Nat × Nat × Nat × Nat × Nat)) := by
  refine zM_of (by decide) ?_
  rintro X Y ⟨S, K, B, w, a, e, b, x⟩ h ⟨hS, hE, h0, hP, hC, hb, hx, hO, hd1, hd2⟩ O E hR
  have hS : rpS S h a := hS
  have hE : rpE K h e := hE
  have hC : rpC h w := hC
  have hO : rpO B h (w + 2 + 2 * b) := hO
  have hb : b < eK K := hb
  have hx : x < 2 ^ btR (eR K) := hx
  have hd1 : w + 36 ≤ a ∨ a + 7 ≤ w := hd1
  have hd2 : w + 36 ≤ e ∨ e + 2 ≤ w := hd2
  have h0 : 0 < eN K := h0
  have hP : ∀ i, i < eN K → eP K i < dP S := hP
  have hN : dN S ≤ 10 := hS.1.2
  have hP28 : dP S ≤ 28 := hS.2.1.2
  obtain ⟨p1, ⟨a1, a2⟩, ⟨a3, a4, a5⟩, a6, a7⟩ := hE.2.2 h0
  obtain ⟨v1, v2, v3, v4, v5, ⟨q1, q2, q3, q4⟩, v6⟩ := vE_b hE.2.1 h0
  obtain ⟨-, hr, hn, hn2, -⟩ := hE.2.1.2 h0
  have h28 : eN K ≤ 28 := hE.2.1.1
  have hbl : b * lnR (eR K) + lnR (eR K) ≤ eK K * lnR (eR K) := by rw [← Nat.succ_mul]; exact Nat.mul_le_mul_right _ hb
  have lW : pbW K b x < 2 ^ 28 := Nat.xor_lt_two_pow (Nat.lt_of_lt_of_le (wdN_lt hr) (Nat.pow_le_pow_right (by omega) (by omega))) (Nat.lt_of_le_of_lt (Nat.div_le_self _ _) v2)
  have B_128 := zr_iconst (X := X) (Y := Y) (u := 0) (v := 0) (x := 1) O dX2_putBlock_128 rfl (zr_zreturn O E (Nat.le_refl _) (Nat.le_refl _) dX2_putBlock_129)
  have L_54 : ∀ nn : Nat, zSd X Y 0 0 54 ((fun k ls st h1 => ∃ (i : Nat) (z : Int32) (C : Nat → Nat) (y9 y10 : Option zV), k = lnR (eR K) - i ∧ i ≤ lnR (eR K) ∧ pbk S K b x B i = some C ∧ (∀ r, r < 10 → C r < 1024) ∧ ls = [some (vR 11 0 w), some (vR 15 0 a), some (vR 10 0 e), some (vI (nI b)), some (vI (nI x)), some (vR 13 0 (w + 2 + 2 * (b + 1))), some (vI (nI (lnR (eR K)))), some (vI (nI (pbW K b x))), some (vI z), y9, y10] ∧ z = nI i ∧ st = [] ∧ oW C h (w + 2 + 2 * (b + 1)) h1 : Nat → zT) nn) := by
    refine zSd_loop (fun nn ih => ?_)
    have B_112 := zr_aload (X := X) (Y := Y) (u := 0) (v := 0) O dX2_putBlock_112 (zr_aload_n O dX2_putBlock_114 rfl (zr_iload O dX2_putBlock_115 (zr_iload O dX2_putBlock_117 (zr_cV (ci := 3) (n := 3) O m_X4_putPair (bn_X4_putPair _ ⟨rfl, rfl⟩) vw_X4_putPair tw_1151 rc_X4_putPair (zrm hR rfl rfl) dX2_putBlock_119 (zr_iinc (c := 1) O dX2_putBlock_122 rfl (zr_goto (tgt := 54) O dX2_putBlock_125 rfl ih))))))
    have B_54 := zr_iload (X := X) (Y := Y) (u := 0) (v := 0) O dX2_putBlock_54 (zr_iload O dX2_putBlock_56 (zr_icge (tgt := 128) O dX2_putBlock_58 rfl B_128 (zr_aload_n O dX2_putBlock_61 rfl (zr_gS (ci := 0) (j := 1) (off := 1) (t := 1) (n := 28) O zc_0 (by decide) rfl tw_106 dX2_putBlock_62 (zr_iload_n O dX2_putBlock_65 rfl (zr_iload O dX2_putBlock_66 (zr_imul O dX2_putBlock_68 (zr_iload O dX2_putBlock_69 (zr_iadd O dX2_putBlock_71 (zr_iald O dX2_putBlock_72 (zr_istore O dX2_putBlock_73 (zr_iload O dX2_putBlock_75 (zr_iload O dX2_putBlock_77 (zr_cI (zr_cSN (n := 2) O m_X10_bitIn (bn_X10_bitIn _ ⟨rfl, rfl⟩) tw_374 wn_RX2_78 (zrm hR rfl rfl) dX2_putBlock_79 (zr_istore O dX2_putBlock_82 (zr_aload O dX2_putBlock_84 (zr_aload_n O dX2_putBlock_86 rfl (zr_gS (ci := 5) (j := 5) (off := 4) (t := 1) (n := 28) O zc_5 (by decide) rfl tw_62 dX2_putBlock_87 (zr_iload O dX2_putBlock_90 (zr_iald O dX2_putBlock_92 (zr_aload_n O dX2_putBlock_93 rfl (zr_gS (ci := 5) (j := 6) (off := 5) (t := 1) (n := 28) O zc_5 (by decide) rfl tw_69 dX2_putBlock_94 (zr_iload O dX2_putBlock_97 (zr_iald O dX2_putBlock_99 (zr_cI (zr_cV (ci := 3) (n := 2) O m_X4_bitTold (bn_X4_bitTold _ ⟨rfl, rfl⟩) vw_X4_bitTold tw_1150 rc_X4_bitTold (zrm hR rfl rfl) dX2_putBlock_100 (zr_iconst (x := 1) O dX2_putBlock_103 rfl (zr_iload O dX2_putBlock_104 (zr_isub O dX2_putBlock_106 (zr_icne (tgt := 112) O dX2_putBlock_107 rfl B_112 (zr_iconst (x := 0) O dX2_putBlock_110 rfl (zr_zreturn O E (Nat.le_refl _) (Nat.le_refl _) dX2_putBlock_111)))))))))))))))))))))))))))))))))
    refine zSd_weak B_54 (fun ls st h1 t => ?_)
    obtain ⟨i, z, C, y9, y10, rfl, hi, hpb, hC10, rfl, rfl, rfl, hw⟩ := t
    have sm1 := oW_sm hw
    have hS2 : rpS S h1 a := rpS_sm sm1 (by omega) hS
    have hE2 : rpE K h1 e := rpE_sm sm1 (by omega) hE
    have hO2 : rpO C h1 (w + 2 + 2 * (b + 1)) := oW_rp hw hC10
    refine ⟨fun cq => ?_, fun cq => ?_⟩
    · have := (nI_leI (by omega) (by omega)).mp cq
      have hii : i = lnR (eR K) := by omega
      rw [hii] at hpb
      refine ⟨Or.inr rfl, ?_, sm1, fun C' hC' => ?_⟩
      · rw [hpb]; rfl
      · rw [hpb] at hC'
        cases hC'
        exact hO2
    · have hi2 : i < lnR (eR K) := Nat.not_le.mp (fun z => cq ((nI_leI (by omega) (by omega)).mpr z))
      have hj : b * lnR (eR K) + i < eN K := by omega
      have ej := (hE2.2.2 h0).1 _ hj
      have hp := hP _ hj
      obtain ⟨⟨f1, f2⟩, s1, s2⟩ := hS2.2.2.2.1 _ hp
      have eb : (nI (pbW K b x) >>> (nI i &&& 31)) &&& 1 = bI ((pbW K b x).testBit i) := bI_in (by omega) (by omega)
      refine ⟨b * lnR (eR K) + i, by rw [pk_mul, nI_add], by omega, (nI (pbW K b x), nI i), rfl, trivial, eP K (b * lnR (eR K) + i), ej, by omega, eP K (b * lnR (eR K) + i), ej, by omega, (C, w + 2 + 2 * (b + 1), dF S (eP K (b * lnR (eR K) + i)), dS S (eP K (b * lnR (eR K) + i))), by rw [f1, s1]; rfl, ⟨hO2, by omega, by omega⟩, fun dq => ?_, fun dq => ?_⟩
      · replace dq : ¬ otl C (dF S (eP K (b * lnR (eR K) + i))) (dS S (eP K (b * lnR (eR K) + i))) = 1 - ((nI (pbW K b x) >>> (nI i &&& 31)) &&& 1) := dq
        rw [eb] at dq
        refine ⟨(S, C, w + 2 + 2 * (b + 1), a, eP K (b * lnR (eR K) + i), (pbW K b x).testBit i), ?_, ⟨hO2, hS2, hp⟩, fun r h' hq => ?_⟩
        · rw [ej]
          show [_, _, _, vI ((nI (pbW K b x) >>> (nI i &&& 31)) &&& 1)] = _
          rw [eb]
          rfl
        · obtain ⟨rfl, hq⟩ := hq
          refine ⟨lnR (eR K) - (i + 1), by omega, i + 1, _, oputP S C (eP K (b * lnR (eR K) + i)) ((pbW K b x).testBit i), _, _, rfl, by omega, ?_, oputP_lt hC10 (by omega) (by omega), rfl, nI_1 i, rfl, oW_tr hw hq⟩
          rw [pbk, hpb]
          show (if _ then _ else _) = _
          rw [if_neg dq]
      · replace dq : otl C (dF S (eP K (b * lnR (eR K) + i))) (dS S (eP K (b * lnR (eR K) + i))) = 1 - ((nI (pbW K b x) >>> (nI i &&& 31)) &&& 1) := dq
        rw [eb] at dq
        have hz : pbk S K b x B (i + 1) = none := by
          rw [pbk, hpb]
          show (if _ then _ else _) = _
          rw [if_pos dq]
        have hz2 : pbk S K b x B (lnR (eR K)) = none := by
          have := pbk_none hz (lnR (eR K) - (i + 1))
          rw [show i + 1 + (lnR (eR K) - (i + 1)) = lnR (eR K) by omega] at this
          exact this
        refine ⟨Or.inl rfl, ?_, sm1, fun C' hC' => ?_⟩
        · rw [hz2]; rfl
        · rw [hz2] at hC'; cases hC'
  have B_54 := zSd_any L_54
  have B_0 := zr_aload_n (X := X) (Y := Y) (u := 0) (v := 0) O dX2_putBlock_0 rfl (zr_gS (ci := 1) (j := 0) (off := 1) (t := 5) (n := 17) O zc_1 (by decide) rfl tw_283 dX2_putBlock_1 (zr_iload_n O dX2_putBlock_4 rfl (zr_iconst (x := 1) O dX2_putBlock_5 rfl (zr_iadd O dX2_putBlock_6 (zr_aald5 O dX2_putBlock_7 (zr_astore O dX2_putBlock_8 (zr_aload O dX2_putBlock_10 (zr_aload_n O dX2_putBlock_12 rfl (zr_gS (ci := 1) (j := 0) (off := 1) (t := 5) (n := 17) O zc_1 (by decide) rfl tw_283 dX2_putBlock_13 (zr_iload_n O dX2_putBlock_16 rfl (zr_aald5 O dX2_putBlock_17 (zr_cV (ci := 3) (n := 1) O m_X4_copyFrom (bn_X4_copyFrom _ ⟨rfl, rfl⟩) vw_X4_copyFrom tw_1131 rc_X4_copyFrom (zrm hR rfl rfl) dX2_putBlock_18 (zr_aload_n O dX2_putBlock_21 rfl (zr_gI (ci := 0) (j := 2) O zc_0 (by decide) rfl tw_109 dX2_putBlock_22 (zr_cI (zr_cS (n := 1) O m_X0_lengthOf (bn_X0_lengthOf _ ⟨rfl, rfl⟩) tw_773 tw_1147 (zrm hR rfl rfl) dX2_putBlock_25 (zr_istore O dX2_putBlock_28 (zr_aload_n O dX2_putBlock_30 rfl (zr_gI (ci := 0) (j := 2) O zc_0 (by decide) rfl tw_109 dX2_putBlock_31 (zr_iload O dX2_putBlock_34 (zr_cI (zr_cS (n := 2) O m_X0_wordOf (bn_X0_wordOf _ ⟨rfl, rfl⟩) tw_823 tw_1148 (zrm hR rfl rfl) dX2_putBlock_36 (zr_aload_n O dX2_putBlock_39 rfl (zr_gI (ci := 0) (j := 5) O zc_0 (by decide) rfl tw_118 dX2_putBlock_40 (zr_iload_n O dX2_putBlock_43 rfl (zr_iload O dX2_putBlock_44 (zr_imul O dX2_putBlock_46 (zr_ishr O dX2_putBlock_47 (zr_ixor O dX2_putBlock_48 (zr_istore O dX2_putBlock_49 (zr_iconst (x := 0) O dX2_putBlock_51 rfl (zr_istore O dX2_putBlock_52 (B_54)))))))))))))))))))))))))))))))))
  refine ⟨rfl, Nat.le_of_ble_eq_true rfl, _, B_0, ?_⟩
  have c1 := hC (b + 1) (by omega)
  have c2 := hC b (by omega)
  have eW : nI (wdN (eR K) x) ^^^ (nI (eH K) >>> ((nI b * nI (lnR (eR K))) &&& 31)) = nI (pbW K b x) := by
    rw [pk_mul, shrI (by omega) (by omega), fb_xorI]
    rfl
  refine ⟨b + 1, nI_1 b, by omega, b, rfl, by omega, (B, w + 2 + 2 * (b + 1), w + 2 + 2 * b), by rw [c1, c2]; rfl, hO, fun r h' hq => ?_⟩
  obtain ⟨rfl, hq⟩ := hq
  have sm1 : sm (w + 2 + 2 * (b + 1)) 2 h h' := oW_sm hq
  have hE2 : rpE K h' e := rpE_sm sm1 (by omega) hE
  obtain ⟨-, ⟨g1, g2⟩, ⟨g3, g4, g5⟩, -⟩ := hE2.2.2 h0
  refine ⟨eR K, by rw [g1]; rfl, hr, (eR K, x), by rw [g1]; rfl, ⟨hr, hx⟩, lnR (eR K) - 0, 0, _, B, none, none, rfl, Nat.zero_le _, rfl, fun r hr => (hO r hr).2, ?_, rfl, rfl, hq⟩
  rw [g4, c1]
  show [_, _, _, _, _, _, some (vI (nI (lnR (eR K)))), some (vI (nI (wdN (eR K) x) ^^^ (nI (eH K) >>> ((nI b * nI (lnR (eR K))) &&& 31)))), _, _, _] = _
  rw [eW]
  rfl

