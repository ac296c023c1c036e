theorem dX2_countFrom_125 : decode cX2_countFrom 125 = .ok (.iload 7, 2) := by decide +kernel
theorem dX2_countFrom_127 : decode cX2_countFrom 127 = .ok (.ireturn, 1) := by decide +kernel
theorem dX2_countFrom_119 : decode cX2_countFrom 119 = .ok (.iinc 8 1, 3) := by decide +kernel
theorem dX2_countFrom_122 : decode cX2_countFrom 122 = .ok (.goto (-65), 3) := by decide +kernel
theorem dX2_countFrom_57 : decode cX2_countFrom 57 = .ok (.iload 8, 2) := by decide +kernel
theorem dX2_countFrom_59 : decode cX2_countFrom 59 = .ok (.iconst 1, 1) := by decide +kernel
theorem dX2_countFrom_60 : decode cX2_countFrom 60 = .ok (.iload 5, 2) := by decide +kernel
theorem dX2_countFrom_62 : decode cX2_countFrom 62 = .ok (.ishl, 1) := by decide +kernel
theorem dX2_countFrom_63 : decode cX2_countFrom 63 = .ok (.if_icmp .ge 62, 3) := by decide +kernel
theorem dX2_countFrom_66 : decode cX2_countFrom 66 = .ok (.iload 4, 2) := by decide +kernel
theorem dX2_countFrom_68 : decode cX2_countFrom 68 = .ok (.iload 8, 2) := by decide +kernel
theorem dX2_countFrom_70 : decode cX2_countFrom 70 = .ok (.iload 5, 2) := by decide +kernel
theorem dX2_countFrom_72 : decode cX2_countFrom 72 = .ok (.invokestatic 52, 3) := by decide +kernel
theorem dX2_countFrom_75 : decode cX2_countFrom 75 = .ok (.istore 9, 2) := by decide +kernel
theorem dX2_countFrom_77 : decode cX2_countFrom 77 = .ok (.iload 9, 2) := by decide +kernel
theorem dX2_countFrom_79 : decode cX2_countFrom 79 = .ok (.iload 6, 2) := by decide +kernel
theorem dX2_countFrom_81 : decode cX2_countFrom 81 = .ok (.aload_n 2, 1) := by decide +kernel
theorem dX2_countFrom_82 : decode cX2_countFrom 82 = .ok (.getfield 36, 3) := by decide +kernel
theorem dX2_countFrom_85 : decode cX2_countFrom 85 = .ok (.invokestatic 56, 3) := by decide +kernel
theorem dX2_countFrom_88 : decode cX2_countFrom 88 = .ok (.ifCond .eq 31, 3) := by decide +kernel
theorem dX2_countFrom_91 : decode cX2_countFrom 91 = .ok (.aload_n 0, 1) := by decide +kernel
theorem dX2_countFrom_92 : decode cX2_countFrom 92 = .ok (.aload_n 1, 1) := by decide +kernel
theorem dX2_countFrom_93 : decode cX2_countFrom 93 = .ok (.aload_n 2, 1) := by decide +kernel
theorem dX2_countFrom_94 : decode cX2_countFrom 94 = .ok (.iload_n 3, 1) := by decide +kernel
theorem dX2_countFrom_95 : decode cX2_countFrom 95 = .ok (.iload 8, 2) := by decide +kernel
theorem dX2_countFrom_97 : decode cX2_countFrom 97 = .ok (.invokevirtual 60, 3) := by decide +kernel
theorem dX2_countFrom_100 : decode cX2_countFrom 100 = .ok (.ifCond .eq 19, 3) := by decide +kernel
theorem dX2_countFrom_103 : decode cX2_countFrom 103 = .ok (.iload 7, 2) := by decide +kernel
theorem dX2_countFrom_105 : decode cX2_countFrom 105 = .ok (.aload_n 0, 1) := by decide +kernel
theorem dX2_countFrom_106 : decode cX2_countFrom 106 = .ok (.aload_n 1, 1) := by decide +kernel
theorem dX2_countFrom_107 : decode cX2_countFrom 107 = .ok (.aload_n 2, 1) := by decide +kernel
theorem dX2_countFrom_108 : decode cX2_countFrom 108 = .ok (.iload_n 3, 1) := by decide +kernel
theorem dX2_countFrom_109 : decode cX2_countFrom 109 = .ok (.iconst 1, 1) := by decide +kernel
theorem dX2_countFrom_110 : decode cX2_countFrom 110 = .ok (.iadd, 1) := by decide +kernel
theorem dX2_countFrom_111 : decode cX2_countFrom 111 = .ok (.iload 9, 2) := by decide +kernel
theorem dX2_countFrom_113 : decode cX2_countFrom 113 = .ok (.invokevirtual 26, 3) := by decide +kernel
theorem dX2_countFrom_116 : decode cX2_countFrom 116 = .ok (.iadd, 1) := by decide +kernel
theorem dX2_countFrom_117 : decode cX2_countFrom 117 = .ok (.istore 7, 2) := by decide +kernel
theorem dX2_countFrom_29 : decode cX2_countFrom 29 = .ok (.aload_n 2, 1) := by decide +kernel
theorem dX2_countFrom_30 : decode cX2_countFrom 30 = .ok (.getfield 39, 3) := by decide +kernel
theorem dX2_countFrom_33 : decode cX2_countFrom 33 = .ok (.invokestatic 42, 3) := by decide +kernel
theorem dX2_countFrom_36 : decode cX2_countFrom 36 = .ok (.istore 5, 2) := by decide +kernel
theorem dX2_countFrom_38 : decode cX2_countFrom 38 = .ok (.aload_n 2, 1) := by decide +kernel
theorem dX2_countFrom_39 : decode cX2_countFrom 39 = .ok (.invokevirtual 48, 3) := by decide +kernel
theorem dX2_countFrom_42 : decode cX2_countFrom 42 = .ok (.iload_n 3, 1) := by decide +kernel
theorem dX2_countFrom_43 : decode cX2_countFrom 43 = .ok (.iconst 1, 1) := by decide +kernel
theorem dX2_countFrom_44 : decode cX2_countFrom 44 = .ok (.iadd, 1) := by decide +kernel
theorem dX2_countFrom_45 : decode cX2_countFrom 45 = .ok (.iload 5, 2) := by decide +kernel
theorem dX2_countFrom_47 : decode cX2_countFrom 47 = .ok (.imul, 1) := by decide +kernel
theorem dX2_countFrom_48 : decode cX2_countFrom 48 = .ok (.isub, 1) := by decide +kernel
theorem dX2_countFrom_49 : decode cX2_countFrom 49 = .ok (.istore 6, 2) := by decide +kernel
theorem dX2_countFrom_51 : decode cX2_countFrom 51 = .ok (.iconst 0, 1) := by decide +kernel
theorem dX2_countFrom_52 : decode cX2_countFrom 52 = .ok (.istore 7, 2) := by decide +kernel
theorem dX2_countFrom_54 : decode cX2_countFrom 54 = .ok (.iconst 0, 1) := by decide +kernel
theorem dX2_countFrom_55 : decode cX2_countFrom 55 = .ok (.istore 8, 2) := by decide +kernel
theorem dX2_countFrom_28 : decode cX2_countFrom 28 = .ok (.ireturn, 1) := by decide +kernel
theorem dX2_countFrom_27 : decode cX2_countFrom 27 = .ok (.iconst 0, 1) := by decide +kernel
theorem dX2_countFrom_14 : decode cX2_countFrom 14 = .ok (.iload 4, 2) := by decide +kernel
theorem dX2_countFrom_16 : decode cX2_countFrom 16 = .ok (.aload_n 2, 1) := by decide +kernel
theorem dX2_countFrom_17 : decode cX2_countFrom 17 = .ok (.getfield 36, 3) := by decide +kernel
theorem dX2_countFrom_20 : decode cX2_countFrom 20 = .ok (.if_icmp .ne 7, 3) := by decide +kernel
theorem dX2_countFrom_23 : decode cX2_countFrom 23 = .ok (.iconst 1, 1) := by decide +kernel
theorem dX2_countFrom_24 : decode cX2_countFrom 24 = .ok (.goto 4, 3) := by decide +kernel
theorem dX2_countFrom_0 : decode cX2_countFrom 0 = .ok (.iload_n 3, 1) := by decide +kernel
theorem dX2_countFrom_1 : decode cX2_countFrom 1 = .ok (.aload_n 2, 1) := by decide +kernel
theorem dX2_countFrom_2 : decode cX2_countFrom 2 = .ok (.getfield 30, 3) := by decide +kernel
theorem dX2_countFrom_5 : decode cX2_countFrom 5 = .ok (.if_icmp .ge 9, 3) := by decide +kernel
theorem dX2_countFrom_8 : decode cX2_countFrom 8 = .ok (.iload_n 3, 1) := by decide +kernel
theorem dX2_countFrom_9 : decode cX2_countFrom 9 = .ok (.bipush 16, 2) := by decide +kernel
theorem dX2_countFrom_11 : decode cX2_countFrom 11 = .ok (.if_icmp .lt 18, 3) := by decide +kernel
theorem dX2_count_9 : decode cX2_count 9 = .ok (.aload_n 0, 1) := by decide +kernel
theorem dX2_count_10 : decode cX2_count 10 = .ok (.getfield 11, 3) := by decide +kernel
theorem dX2_count_13 : decode cX2_count 13 = .ok (.iconst 0, 1) := by decide +kernel
theorem dX2_count_14 : decode cX2_count 14 = .ok (.aaload, 1) := by decide +kernel
theorem dX2_count_15 : decode cX2_count 15 = .ok (.aload_n 3, 1) := by decide +kernel
theorem dX2_count_16 : decode cX2_count 16 = .ok (.invokevirtual 22, 3) := by decide +kernel
theorem dX2_count_19 : decode cX2_count 19 = .ok (.aload_n 0, 1) := by decide +kernel
theorem dX2_count_20 : decode cX2_count 20 = .ok (.aload_n 1, 1) := by decide +kernel
theorem dX2_count_21 : decode cX2_count 21 = .ok (.aload_n 2, 1) := by decide +kernel
theorem dX2_count_22 : decode cX2_count 22 = .ok (.iconst 0, 1) := by decide +kernel
theorem dX2_count_23 : decode cX2_count 23 = .ok (.iconst 0, 1) := by decide +kernel
theorem dX2_count_24 : decode cX2_count 24 = .ok (.invokevirtual 26, 3) := by decide +kernel
theorem dX2_count_27 : decode cX2_count 27 = .ok (.ireturn, 1) := by decide +kernel
theorem dX2_count_0 : decode cX2_count 0 = .ok (.aload_n 3, 1) := by decide +kernel
theorem dX2_count_1 : decode cX2_count 1 = .ok (.invokevirtual 18, 3) := by decide +kernel
theorem dX2_count_4 : decode cX2_count 4 = .ok (.ifCond .eq 5, 3) := by decide +kernel
theorem dX2_count_7 : decode cX2_count 7 = .ok (.iconst 0, 1) := by decide +kernel
theorem dX2_count_8 : decode cX2_count 8 = .ok (.ireturn, 1) := by decide +kernel
/-! secrets left, block by block -/
def cfS (g : Nat → Nat) : Nat → Nat
  | 0 => 0
  | n + 1 => cfS g n + g n
def cfN (S : zD) (K : zE) : Nat → Nat → (Nat → Nat) → Nat → Nat
  | 0, _, _, ck => if ck = eC K then 1 else 0
  | f + 1, b, B, ck => cfS (fun x => if cbN (ckW ck x (btR (eR K))) (eK K * btR (eR K) - (b + 1) * btR (eR K)) (eC K) then (match pbk S K b x B (lnR (eR K)) with
      | none => 0
      | some C => cfN S K f (b + 1) C (ckW ck x (btR (eR K)))) else 0) (2 ^ btR (eR K))
def cfG (S : zD) (K : zE) (f b : Nat) (B : Nat → Nat) (ck x : Nat) : Nat := if cbN (ckW ck x (btR (eR K))) (eK K * btR (eR K) - (b + 1) * btR (eR K)) (eC K) then (match pbk S K b x B (lnR (eR K)) with
      | none => 0
      | some C => cfN S K f (b + 1) C (ckW ck x (btR (eR K)))) else 0
theorem cfN_s (S : zD) (K : zE) (f b : Nat) (B : Nat → Nat) (ck : Nat) : cfN S K (f + 1) b B ck = cfS (cfG S K f b B ck) (2 ^ btR (eR K)) := rfl
def pX2 (S : zD) (K : zE) (B : Nat → Nat) (w a e b ck : Nat) (h : zH) : Prop := rpS S h a ∧ rpE K h e ∧ 0 < eN K ∧ (∀ i, i < eN K → eP K i < dP S) ∧ rpC h w ∧ b ≤ eK K ∧ ck < 16 ∧ rpO B h (w + 2 + 2 * b) ∧ (w + 36 ≤ a ∨ a + 7 ≤ w) ∧ (w + 36 ≤ e ∨ e + 2 ≤ w)
def ca_X2_countFrom : (zD × zE × (Nat → Nat) × Nat × Nat × Nat × Nat × Nat) → List zV := fun (S, K, B, w, a, e, b, ck) => [vR 11 0 w, vR 15 0 a, vR 10 0 e, vI (nI b), vI (nI ck)]
def cp_X2_countFrom : (zD × zE × (Nat → Nat) × Nat × Nat × Nat × Nat × Nat) → zH → Prop := fun (S, K, B, w, a, e, b, ck) h => pX2 S K B w a e b ck h
def cq_X2_countFrom : (zD × zE × (Nat → Nat) × Nat × Nat × Nat × Nat × Nat) → zH → Option zV → zH → Prop := fun (S, K, B, w, a, e, b, ck) h r h' => r = some (vI (nI (cfN S K (eK K - b) b B ck))) ∧ sm (w + 2 + 2 * (b + 1)) (2 * (16 - b)) h h'
theorem rc_X2_countFrom : ∀ x : (zD × zE × (Nat → Nat) × Nat × Nat × Nat × Nat × Nat), ∃ (j a : Nat) (As : List zV), ca_X2_countFrom x = vR (10 + 1) j a :: As := by
  rintro ⟨S, K, B, w, a, e, b, ck⟩
  exact ⟨_, _, _, rfl⟩
def rmd_X2_countFrom (dd : Nat) : Room := { frames := 4 + dd, cells := 0, slots := 0, locals := 111 + dd * 29 }
def cd_X2_countFrom : Nat → (zD × zE × (Nat → Nat) × Nat × Nat × Nat × Nat × Nat) → Prop := fun dd (S, K, B, w, a, e, b, ck) => eK K < b + dd
theorem zrx_X2_countFrom {X : zX} {dd a b : Nat} (hR : xR X = rmd_X2_countFrom (dd + 1)) (h1 : Nat.ble a 4 = true) (h2 : Nat.ble b 111 = true) : a ≤ (xR X).frames ∧ b ≤ (xR X).locals ∧ 0 ≤ (xR X).cells ∧ 0 ≤ (xR X).slots := by
  have e1 := Nat.le_of_ble_eq_true h1
  have e2 := Nat.le_of_ble_eq_true h2
  rw [hR]
  refine ⟨?_, ?_, Nat.zero_le _, Nat.zero_le _⟩
  · show a ≤ 4 + (dd + 1)
    omega
  · show b ≤ 111 + (dd + 1) * 29
    omega
theorem zrs_X2_countFrom {X : zX} {dd : Nat} (hR : xR X = rmd_X2_countFrom (dd + 1)) : (rmd_X2_countFrom dd).frames + 1 ≤ (xR X).frames ∧ 8 + (10 + 11) + (rmd_X2_countFrom dd).locals ≤ (xR X).locals ∧ 0 ≤ (xR X).cells ∧ 0 ≤ (xR X).slots := by
  rw [hR]
  refine ⟨?_, ?_, Nat.zero_le _, Nat.zero_le _⟩
  · show 4 + dd + 1 ≤ 4 + (dd + 1)
    omega
  · show 8 + (10 + 11) + (111 + dd * 29) ≤ 111 + (dd + 1) * 29
    omega
set_option maxHeartbeats 4000000 in
set_option maxRecDepth 100000 in
theorem s_X2_countFrom (dd : Nat) (hrec : zM yX2_countFrom cX2_countFrom 10 (some .int) (rmd_X2_countFrom dd) ((ca_X2_countFrom, fun x h => cp_X2_countFrom x h ∧ cd_X2_countFrom dd x, cq_X2_countFrom) : zC (zD × zE × (Nat → Nat) × Nat × Nat × Nat × Nat × Nat))) : zM yX2_countFrom cX2_countFrom 10 (some .int) (rmd_X2_countFrom (dd + 1)) ((ca_X2_countFrom, fun x h => cp_X2_countFrom x h ∧ cd_X2_countFrom (dd + 1) x, cq_X2_countFrom) : zC (zD × zE × (Nat → Nat) × Nat × Nat × Nat × Nat × Nat)) := by
  refine zM_of (by decide) ?_
  rintro X Y ⟨S, K, B, w, a, e, b, ck⟩ h ⟨⟨hS, hE, h0, hP, hC, hb, hck, hO, hd1, hd2⟩, hdd⟩ O E hR
  have hS : rpS S h a := hS
  have hE : rpE K h e := hE
  have hC : rpC h w := hC
  have hO : rpO B h (w + 2 + 2 * b) := hO
  have hdd : eK K < b + (dd + 1) := hdd
  obtain ⟨p1, ⟨a1, a2⟩, ⟨a3, a4, a5⟩, a6, a7⟩ := hE.2.2 h0
  obtain ⟨v1, v2, v3, v4, v5, ⟨q1, q2, q3, q4⟩, v6⟩ := vE_b hE.2.1 h0
  obtain ⟨-, hr, hn, hn2, -, -, hC16⟩ := hE.2.1.2 h0
  have lbt : (2 : Nat) ^ btR (eR K) ≤ 2 ^ 4 := Nat.pow_le_pow_right (by omega) (by omega)
  have B_125 := zr_iload (X := X) (Y := Y) (u := 0) (v := 0) O dX2_countFrom_125 (zr_ireturn O E (Nat.le_refl _) (Nat.le_refl _) dX2_countFrom_127)
  have L_57 : ∀ nn : Nat, zSd X Y 0 0 57 ((fun k ls st h1 => ∃ (x : Nat) (z y : Int32) (y9 : Option zV), b < eK K ∧ k = 2 ^ btR (eR K) - x ∧ x ≤ 2 ^ btR (eR K) ∧ ls = [some (vR 11 0 w), some (vR 15 0 a), some (vR 10 0 e), some (vI (nI b)), some (vI (nI ck)), some (vI (nI (btR (eR K)))), some (vI (nI (eK K * btR (eR K) - (b + 1) * btR (eR K)))), some (vI y), some (vI z), y9] ∧ z = nI x ∧ y = nI (cfS (cfG S K (eK K - (b + 1)) b B ck) x) ∧ st = [] ∧ sm (w + 2 + 2 * (b + 1)) (2 * (16 - b)) h h1 : Nat → zT) nn) := by
    refine zSd_loop (fun nn ih => ?_)
    have B_119 := zr_iinc (X := X) (Y := Y) (u := 0) (v := 0) (c := 1) O dX2_countFrom_119 rfl (zr_goto (tgt := 57) O dX2_countFrom_122 rfl ih)
    have B_57 := zr_iload (X := X) (Y := Y) (u := 0) (v := 0) O dX2_countFrom_57 (zr_iconst (x := 1) O dX2_countFrom_59 rfl (zr_iload O dX2_countFrom_60 (zr_ishl O dX2_countFrom_62 (zr_icge (tgt := 125) O dX2_countFrom_63 rfl B_125 (zr_iload O dX2_countFrom_66 (zr_iload O dX2_countFrom_68 (zr_iload O dX2_countFrom_70 (zr_cI (zr_cS (n := 3) O m_X0_checkWith (bn_X0_checkWith _ ⟨rfl, rfl⟩) tw_812 tw_1138 (zrx_X2_countFrom hR rfl rfl) dX2_countFrom_72 (zr_istore O dX2_countFrom_75 (zr_iload O dX2_countFrom_77 (zr_iload O dX2_countFrom_79 (zr_aload_n O dX2_countFrom_81 rfl (zr_gI (ci := 0) (j := 8) O zc_0 (by decide) rfl tw_124 dX2_countFrom_82 (zr_cI (zr_cS (n := 3) O m_X0_canBecome (bn_X0_canBecome _ ⟨rfl, rfl⟩) tw_1140 tw_1139 (zrx_X2_countFrom hR rfl rfl) dX2_countFrom_85 (zr_ifeq (tgt := 119) O dX2_countFrom_88 rfl B_119 (zr_aload_n O dX2_countFrom_91 rfl (zr_aload_n O dX2_countFrom_92 rfl (zr_aload_n O dX2_countFrom_93 rfl (zr_iload_n O dX2_countFrom_94 rfl (zr_iload O dX2_countFrom_95 (zr_cV (ci := 1) (n := 4) O m_X2_putBlock (bn_X2_putBlock _ ⟨rfl, rfl⟩) vw_X2_putBlock tw_1143 rc_X2_putBlock (zrx_X2_countFrom hR rfl rfl) dX2_countFrom_97 (zr_ifeq (tgt := 119) O dX2_countFrom_100 rfl B_119 (zr_iload O dX2_countFrom_103 (zr_aload_n O dX2_countFrom_105 rfl (zr_aload_n O dX2_countFrom_106 rfl (zr_aload_n O dX2_countFrom_107 rfl (zr_iload_n O dX2_countFrom_108 rfl (zr_iconst (x := 1) O dX2_countFrom_109 rfl (zr_iadd O dX2_countFrom_110 (zr_iload O dX2_countFrom_111 (zr_cV (ci := 1) (n := 4) O hrec (bn_X2_countFrom _ ⟨rfl, rfl⟩) vw_X2_countFrom tw_1132 rc_X2_countFrom (zrs_X2_countFrom hR) dX2_countFrom_113 (zr_iadd O dX2_countFrom_116 (zr_istore O dX2_countFrom_117 (B_119))))))))))))))))))))))))))))))))))))
    refine zSd_weak B_57 (fun ls st h1 t => ?_)
    obtain ⟨x, z, y, y9, hb2, rfl, hx, rfl, rfl, rfl, rfl, s1⟩ := t
    have hS1 : rpS S h1 a := rpS_sm s1 (by omega) hS
    have hE1 : rpE K h1 e := rpE_sm s1 (by omega) hE
    have hC1 : rpC h1 w := rpC_sm s1 hC
    have hO1 : rpO B h1 (w + 2 + 2 * b) := rpO_sm s1 (by omega) hO
    have ef : eK K - b = (eK K - (b + 1)) + 1 := by omega
    have hbb : (b + 1) * btR (eR K) ≤ eK K * btR (eR K) := Nat.mul_le_mul_right _ hb2
    refine ⟨fun cq => ?_, fun cq => ?_⟩
    · rw [nI_pow (by omega)] at cq
      have := (nI_leI (by omega) (by omega)).mp cq
      have hxx : x = 2 ^ btR (eR K) := by omega
      refine ⟨zri ?_, s1⟩
      rw [ef, cfN_s, hxx]
    · rw [nI_pow (by omega)] at cq
      have hx2 : x < 2 ^ btR (eR K) := Nat.not_le.mp (fun z => cq ((nI_leI (by omega) (by omega)).mpr z))
      have c8 : h1.1 e 8 = nI (eC K) := (hE1.2.2 h0).2.2.2.2
      have lck := ckW_lt hck x (btR (eR K))
      refine ⟨(ck, x, btR (eR K)), rfl, ⟨hck, by omega, by omega⟩, (ckW ck x (btR (eR K)), eK K * btR (eR K) - (b + 1) * btR (eR K), eC K), by rw [c8]; rfl, ⟨lck, by omega, hC16⟩, fun dq => ?_, fun dq => ?_⟩
      · have hz : cbN (ckW ck x (btR (eR K))) (eK K * btR (eR K) - (b + 1) * btR (eR K)) (eC K) = false := (bI_0 _).mp dq
        have eg : cfG S K (eK K - (b + 1)) b B ck x = 0 := by rw [cfG, hz]; rfl
        exact ⟨2 ^ btR (eR K) - (x + 1), by omega, x + 1, _, _, _, hb2, rfl, by omega, rfl, nI_1 x, by rw [cfS, eg]; rfl, rfl, s1⟩
      · have hz : cbN (ckW ck x (btR (eR K))) (eK K * btR (eR K) - (b + 1) * btR (eR K)) (eC K) = true := by
          cases hz : cbN (ckW ck x (btR (eR K))) (eK K * btR (eR K) - (b + 1) * btR (eR K)) (eC K) with
          | true => rfl
          | false => exact absurd ((bI_0 _).mpr hz) dq
        refine ⟨(S, K, B, w, a, e, b, x), rfl, ⟨hS1, hE1, h0, hP, hC1, hb2, hx2, hO1, hd1, hd2⟩, fun r h2 hq => ?_⟩
        obtain ⟨rfl, s2, hq2⟩ := hq
        have s2 : sm (w + 2 + 2 * (b + 1)) 2 h1 h2 := s2
        have hq2 : ∀ C, pbk S K b x B (lnR (eR K)) = some C → rpO C h2 (w + 2 + 2 * (b + 1)) := hq2
        have s3 : sm (w + 2 + 2 * (b + 1)) (2 * (16 - b)) h h2 := sm_tr s1 (sm_mo s2 (by omega) (by omega))
        cases hpb : pbk S K b x B (lnR (eR K)) with
        | none =>
          have eg : cfG S K (eK K - (b + 1)) b B ck x = 0 := by rw [cfG, hz, hpb]; rfl
          exact ⟨fun _ => ⟨2 ^ btR (eR K) - (x + 1), by omega, x + 1, _, _, _, hb2, rfl, by omega, rfl, nI_1 x, by rw [cfS, eg]; rfl, rfl, s3⟩, fun eq => absurd rfl eq⟩
        | some C =>
          have eg : cfG S K (eK K - (b + 1)) b B ck x = cfN S K (eK K - (b + 1)) (b + 1) C (ckW ck x (btR (eR K))) := by rw [cfG, hz, hpb]; rfl
          refine ⟨fun eq => absurd eq (show ¬ (1 : Int32) = 0 by decide), fun _ => ⟨(S, K, C, w, a, e, b + 1, ckW ck x (btR (eR K))), ?_, ⟨⟨rpS_sm s3 (by omega) hS, rpE_sm s3 (by omega) hE, h0, hP, rpC_sm s3 hC, hb2, lck, hq2 C hpb, hd1, hd2⟩, ?_⟩, fun r3 h3 hq3 => ?_⟩⟩
          · rw [nI_1]; rfl
          · show eK K < b + 1 + dd
            omega
          · obtain ⟨rfl, s4⟩ := hq3
            have s4 : sm (w + 2 + 2 * (b + 1 + 1)) (2 * (16 - (b + 1))) h2 h3 := s4
            refine ⟨2 ^ btR (eR K) - (x + 1), by omega, x + 1, _, _, _, hb2, rfl, by omega, rfl, nI_1 x, ?_, rfl, sm_tr s3 (sm_mo s4 (by omega) (by omega))⟩
            rw [cfS, eg, ← nI_add]
  have B_57 := zSd_any L_57
  have B_29 := zr_aload_n (X := X) (Y := Y) (u := 0) (v := 0) O dX2_countFrom_29 rfl (zr_gI (ci := 0) (j := 2) O zc_0 (by decide) rfl tw_109 dX2_countFrom_30 (zr_cI (zr_cS (n := 1) O m_X0_bitsOf (bn_X0_bitsOf _ ⟨rfl, rfl⟩) tw_779 tw_1136 (zrx_X2_countFrom hR rfl rfl) dX2_countFrom_33 (zr_istore O dX2_countFrom_36 (zr_aload_n O dX2_countFrom_38 rfl (zr_cI (zr_cV (ci := 0) (n := 0) O m_X1_secretBits (bn_X1_secretBits _ ⟨rfl, rfl⟩) vw_X1_secretBits tw_1137 rc_X1_secretBits (zrx_X2_countFrom hR rfl rfl) dX2_countFrom_39 (zr_iload_n O dX2_countFrom_42 rfl (zr_iconst (x := 1) O dX2_countFrom_43 rfl (zr_iadd O dX2_countFrom_44 (zr_iload O dX2_countFrom_45 (zr_imul O dX2_countFrom_47 (zr_isub O dX2_countFrom_48 (zr_istore O dX2_countFrom_49 (zr_iconst (x := 0) O dX2_countFrom_51 rfl (zr_istore O dX2_countFrom_52 (zr_iconst (x := 0) O dX2_countFrom_54 rfl (zr_istore O dX2_countFrom_55 (B_57)))))))))))))))))))
  have B_28 := zr_ireturn (X := X) (Y := Y) (u := 0) (v := 0) O E (Nat.le_refl _) (Nat.le_refl _) dX2_countFrom_28
  have B_27 := zr_iconst (X := X) (Y := Y) (u := 0) (v := 0) (x := 0) O dX2_countFrom_27 rfl (B_28)
  have B_14 := zr_iload (X := X) (Y := Y) (u := 0) (v := 0) O dX2_countFrom_14 (zr_aload_n O dX2_countFrom_16 rfl (zr_gI (ci := 0) (j := 8) O zc_0 (by decide) rfl tw_124 dX2_countFrom_17 (zr_icne (tgt := 27) O dX2_countFrom_20 rfl B_27 (zr_iconst (x := 1) O dX2_countFrom_23 rfl (zr_goto (tgt := 28) O dX2_countFrom_24 rfl B_28)))))
  have B_0 := zr_iload_n (X := X) (Y := Y) (u := 0) (v := 0) O dX2_countFrom_0 rfl (zr_aload_n O dX2_countFrom_1 rfl (zr_gI (ci := 0) (j := 3) O zc_0 (by decide) rfl tw_112 dX2_countFrom_2 (zr_icge (tgt := 14) O dX2_countFrom_5 rfl B_14 (zr_iload_n O dX2_countFrom_8 rfl (zr_bipush (x := (16)) O dX2_countFrom_9 (by decide) (zr_iclt (tgt := 29) O dX2_countFrom_11 rfl B_29 (B_14)))))))
  refine ⟨rfl, Nat.le_of_ble_eq_true rfl, _, B_0, ?_⟩
  refine ⟨fun cq => ?_, fun cq => ⟨fun dq => ?_, fun dq => ?_⟩⟩
  · rw [a2] at cq
    have := (nI_leI (by omega) (by omega)).mp cq
    have hbb : eK K - b = 0 := by omega
    refine ⟨fun dq => ⟨zri ?_, sm_refl _ _ _⟩, fun dq => ⟨zri ?_, sm_refl _ _ _⟩⟩
    · rw [a7] at dq
      rw [hbb, cfN, if_neg (fun z => dq (by rw [z]))]
      rfl
    · rw [a7] at dq
      rw [hbb, cfN, if_pos ((nI_eq (by omega) (by omega)).mp dq)]
      rfl
  · rw [a2] at cq
    have hb2 : b < eK K := Nat.not_le.mp (fun z => cq ((nI_leI (by omega) (by omega)).mpr z))
    have hbb : (b + 1) * btR (eR K) ≤ eK K * btR (eR K) := Nat.mul_le_mul_right _ hb2
    refine ⟨eR K, by rw [a1]; rfl, hr, (e, eR K, eK K), rfl, ⟨a1, a2, hr⟩, 2 ^ btR (eR K) - 0, 0, _, _, none, hb2, rfl, Nat.zero_le _, ?_, rfl, rfl, rfl, sm_refl _ _ _⟩
    show [_, _, _, _, _, _, some (vI (nI (eK K * btR (eR K)) - (nI b + 1) * nI (btR (eR K)))), _, _, _] = _
    rw [nI_1, pk_mul, pk_sub hbb]
    rfl
  · rw [a2] at cq
    have hb2 : b < eK K := Nat.not_le.mp (fun z => cq ((nI_leI (by omega) (by omega)).mpr z))
    exact absurd ((nI_ltI (b := 16) (by omega) (by omega)).mpr (by omega)) dq
theorem i_X2_countFrom : ∀ dd : Nat, zM yX2_countFrom cX2_countFrom 10 (some .int) (rmd_X2_countFrom dd) ((ca_X2_countFrom, fun x h => cp_X2_countFrom x h ∧ cd_X2_countFrom dd x, cq_X2_countFrom) : zC (zD × zE × (Nat → Nat) × Nat × Nat × Nat × Nat × Nat))
  | 0 => fun l Y sz x h hF hok hP => ((fun (x : zD × zE × (Nat → Nat) × Nat × Nat × Nat × Nat × Nat) h hP => by
    obtain ⟨S, K, B, w, a, e, b, ck⟩ := x
    obtain ⟨h1, h2⟩ := hP
    have h3 : b ≤ eK K := h1.2.2.2.2.2.1
    have h4 : eK K < b + 0 := h2
    exact absurd h4 (by omega) : ∀ (x : zD × zE × (Nat → Nat) × Nat × Nat × Nat × Nat × Nat) (h : zH), cp_X2_countFrom x h ∧ cd_X2_countFrom 0 x → False) x h hP).elim
  | dd + 1 => s_X2_countFrom dd (i_X2_countFrom dd)
theorem m_X2_countFrom : zM yX2_countFrom cX2_countFrom 10 (some .int) ({ frames := 21, cells := 0, slots := 0, locals := 604 } : Room) ((ca_X2_countFrom, cp_X2_countFrom, cq_X2_countFrom) : zC (zD × zE × (Nat → Nat) × Nat × Nat × Nat × Nat × Nat)) := fun l Y sz x h hF hok hP => i_X2_countFrom 17 l Y sz x h hF hok ⟨hP, (fun (x : zD × zE × (Nat → Nat) × Nat × Nat × Nat × Nat × Nat) h hP => by
    obtain ⟨S, K, B, w, a, e, b, ck⟩ := x
    have h1 : pX2 S K B w a e b ck h := hP
    have h2 := (vE_b h1.2.1.2.1 h1.2.2.1).2.2.2.2.1
    show eK K < b + 17
    omega : ∀ (x : zD × zE × (Nat → Nat) × Nat × Nat × Nat × Nat × Nat) (h : zH), cp_X2_countFrom x h → cd_X2_countFrom 17 x) x h hP⟩
/-- all secrets left -/
def lft (S : zD) (K : zE) (B : Nat → Nat) : Nat := if obk B then 0 else cfN S K (eK K) 0 B 0
def ca_X2_count : (zD × zE × (Nat → Nat) × Nat × Nat × Nat × Nat) → List zV := fun (S, K, B, w, a, e, o) => [vR 11 0 w, vR 15 0 a, vR 10 0 e, vR 13 0 o]
def cp_X2_count : (zD × zE × (Nat → Nat) × Nat × Nat × Nat × Nat) → zH → Prop := fun (S, K, B, w, a, e, o) h => rpS S h a ∧ rpE K h e ∧ 0 < eN K ∧ (∀ i, i < eN K → eP K i < dP S) ∧ rpC h w ∧ rpO B h o ∧ (w + 36 ≤ a ∨ a + 7 ≤ w) ∧ (w + 36 ≤ e ∨ e + 2 ≤ w)
def cq_X2_count : (zD × zE × (Nat → Nat) × Nat × Nat × Nat × Nat) → zH → Option zV → zH → Prop := fun (S, K, B, w, a, e, o) h r h' => r = some (vI (nI (lft S K B))) ∧ sm (w + 2) 34 h h'
theorem rc_X2_count : ∀ x : (zD × zE × (Nat → Nat) × Nat × Nat × Nat × Nat), ∃ (j a : Nat) (As : List zV), ca_X2_count x = vR (10 + 1) j a :: As := by
  rintro ⟨S, K, B, w, a, e, o⟩
  exact ⟨_, _, _, rfl⟩
set_option maxHeartbeats 4000000 in
set_option maxRecDepth 100000 in
theorem m_X2_count : zM yX2_count cX2_count 4 (some .int) ({ frames := 22, cells := 0, slots := 0, locals := 633 } : Room) ((ca_X2_count, cp_X2_count, cq_X2_count) : zC (zD × zE × (Nat → Nat) × Nat × Nat × Nat × Nat)) := by
  refine zM_of (by decide) ?_
  rintro X Y ⟨S, K, B, w, a, e, o⟩ h ⟨hS, hE, h0, hP, hC, hO, hd1, hd2⟩ O E hR
  have B_9 := zr_aload_n (X := X) (Y := Y) (u := 0) (v := 0) O dX2_count_9 rfl (zr_gS (ci := 1) (j := 0) (off := 1) (t := 5) (n := 17) O zc_1 (by decide) rfl tw_283 dX2_count_10 (zr_iconst (x := 0) O dX2_count_13 rfl (zr_aald5 O dX2_count_14 (zr_aload_n O dX2_count_15 rfl (zr_cV (ci := 3) (n := 1) O m_X4_copyFrom (bn_X4_copyFrom _ ⟨rfl, rfl⟩) vw_X4_copyFrom tw_1131 rc_X4_copyFrom (zrm hR rfl rfl) dX2_count_16 (zr_aload_n O dX2_count_19 rfl (zr_aload_n O dX2_count_20 rfl (zr_aload_n O dX2_count_21 rfl (zr_iconst (x := 0) O dX2_count_22 rfl (zr_iconst (x := 0) O dX2_count_23 rfl (zr_cV (ci := 1) (n := 4) O m_X2_countFrom (bn_X2_countFrom _ ⟨rfl, rfl⟩) vw_X2_countFrom tw_1132 rc_X2_countFrom (zrm hR rfl rfl) dX2_count_24 (zr_ireturn O E (Nat.le_refl _) (Nat.le_refl _) dX2_count_27))))))))))))
  have B_0 := zr_aload_n (X := X) (Y := Y) (u := 0) (v := 0) O dX2_count_0 rfl (zr_cI (zr_cV (ci := 3) (n := 0) O m_X4_isBroken (bn_X4_isBroken _ ⟨rfl, rfl⟩) vw_X4_isBroken tw_1127 rc_X4_isBroken (zrm hR rfl rfl) dX2_count_1 (zr_ifeq (tgt := 9) O dX2_count_4 rfl B_9 (zr_iconst (x := 0) O dX2_count_7 rfl (zr_ireturn O E (Nat.le_refl _) (Nat.le_refl _) dX2_count_8)))))
  refine ⟨rfl, Nat.le_of_ble_eq_true rfl, _, B_0, ?_⟩
  have hC : rpC h w := hC
  have hS : rpS S h a := hS
  have hE : rpE K h e := hE
  have hO : rpO B h o := hO
  refine ⟨(B, o), rfl, hO, fun cq => ?_, fun cq => ⟨zri ?_, sm_refl _ _ _⟩⟩
  · have hz : obk B = false := (bI_0 _).mp cq
    have c0 := hC 0 (by decide)
    refine ⟨0, rfl, by decide, (B, w + 2, o), by rw [c0]; rfl, hO, fun r h1 hq => ?_⟩
    obtain ⟨rfl, hq⟩ := hq
    have s1 : sm (w + 2) 2 h h1 := oW_sm hq
    have hO1 : rpO B h1 (w + 2 + 2 * 0) := oW_rp hq (fun i hi => (hO i hi).2)
    refine ⟨(S, K, B, w, a, e, 0, 0), rfl, ⟨rpS_sm s1 (by omega) hS, rpE_sm s1 (by omega) hE, h0, hP, rpC_sm s1 hC, Nat.zero_le _, by decide, hO1, hd1, hd2⟩, fun r2 h2 hq2 => ?_⟩
    obtain ⟨rfl, s2⟩ := hq2
    have s2 : sm (w + 2 + 2 * (0 + 1)) (2 * (16 - 0)) h1 h2 := s2
    refine ⟨zri ?_, sm_tr (sm_mo s1 (by omega) (by omega)) (sm_mo s2 (by omega) (by omega))⟩
    rw [lft, hz]
    rfl
  · have hz : obk B = true := by
      cases hz : obk B with
      | true => rfl
      | false => exact absurd ((bI_0 _).mpr hz) cq
    rw [lft, hz]
    rfl

