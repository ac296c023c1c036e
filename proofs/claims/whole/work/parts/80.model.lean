theorem dX11_canBe_151 : decode cX11_canBe 151 = .ok (.ireturn, 1) := by decide +kernel
theorem dX11_canBe_150 : decode cX11_canBe 150 = .ok (.iconst 0, 1) := by decide +kernel
theorem dX11_canBe_135 : decode cX11_canBe 135 = .ok (.aload_n 0, 1) := by decide +kernel
theorem dX11_canBe_136 : decode cX11_canBe 136 = .ok (.invokevirtual 340, 3) := by decide +kernel
theorem dX11_canBe_139 : decode cX11_canBe 139 = .ok (.aload_n 0, 1) := by decide +kernel
theorem dX11_canBe_140 : decode cX11_canBe 140 = .ok (.invokevirtual 366, 3) := by decide +kernel
theorem dX11_canBe_143 : decode cX11_canBe 143 = .ok (.ifCond .ne 7, 3) := by decide +kernel
theorem dX11_canBe_146 : decode cX11_canBe 146 = .ok (.iconst 1, 1) := by decide +kernel
theorem dX11_canBe_147 : decode cX11_canBe 147 = .ok (.goto 4, 3) := by decide +kernel
theorem dX11_canBe_127 : decode cX11_canBe 127 = .ok (.iload_n 2, 1) := by decide +kernel
theorem dX11_canBe_128 : decode cX11_canBe 128 = .ok (.ifCond .eq 7, 3) := by decide +kernel
theorem dX11_canBe_131 : decode cX11_canBe 131 = .ok (.aload_n 0, 1) := by decide +kernel
theorem dX11_canBe_132 : decode cX11_canBe 132 = .ok (.invokevirtual 337, 3) := by decide +kernel
theorem dX11_canBe_121 : decode cX11_canBe 121 = .ok (.iinc 5 1, 3) := by decide +kernel
theorem dX11_canBe_124 : decode cX11_canBe 124 = .ok (.goto (-94), 3) := by decide +kernel
theorem dX11_canBe_67 : decode cX11_canBe 67 = .ok (.iload 6, 2) := by decide +kernel
theorem dX11_canBe_69 : decode cX11_canBe 69 = .ok (.iload_n 3, 1) := by decide +kernel
theorem dX11_canBe_70 : decode cX11_canBe 70 = .ok (.if_icmp .ge 51, 3) := by decide +kernel
theorem dX11_canBe_73 : decode cX11_canBe 73 = .ok (.aload_n 0, 1) := by decide +kernel
theorem dX11_canBe_74 : decode cX11_canBe 74 = .ok (.aload_n 0, 1) := by decide +kernel
theorem dX11_canBe_75 : decode cX11_canBe 75 = .ok (.getfield 17, 3) := by decide +kernel
theorem dX11_canBe_78 : decode cX11_canBe 78 = .ok (.bipush 49, 2) := by decide +kernel
theorem dX11_canBe_80 : decode cX11_canBe 80 = .ok (.iload_n 3, 1) := by decide +kernel
theorem dX11_canBe_81 : decode cX11_canBe 81 = .ok (.iload 5, 2) := by decide +kernel
theorem dX11_canBe_83 : decode cX11_canBe 83 = .ok (.imul, 1) := by decide +kernel
theorem dX11_canBe_84 : decode cX11_canBe 84 = .ok (.iadd, 1) := by decide +kernel
theorem dX11_canBe_85 : decode cX11_canBe 85 = .ok (.iload 6, 2) := by decide +kernel
theorem dX11_canBe_87 : decode cX11_canBe 87 = .ok (.iadd, 1) := by decide +kernel
theorem dX11_canBe_88 : decode cX11_canBe 88 = .ok (.iaload, 1) := by decide +kernel
theorem dX11_canBe_89 : decode cX11_canBe 89 = .ok (.aload_n 0, 1) := by decide +kernel
theorem dX11_canBe_90 : decode cX11_canBe 90 = .ok (.getfield 17, 3) := by decide +kernel
theorem dX11_canBe_93 : decode cX11_canBe 93 = .ok (.bipush 105, 2) := by decide +kernel
theorem dX11_canBe_95 : decode cX11_canBe 95 = .ok (.iload_n 3, 1) := by decide +kernel
theorem dX11_canBe_96 : decode cX11_canBe 96 = .ok (.iload 5, 2) := by decide +kernel
theorem dX11_canBe_98 : decode cX11_canBe 98 = .ok (.imul, 1) := by decide +kernel
theorem dX11_canBe_99 : decode cX11_canBe 99 = .ok (.iadd, 1) := by decide +kernel
theorem dX11_canBe_100 : decode cX11_canBe 100 = .ok (.iload 6, 2) := by decide +kernel
theorem dX11_canBe_102 : decode cX11_canBe 102 = .ok (.iadd, 1) := by decide +kernel
theorem dX11_canBe_103 : decode cX11_canBe 103 = .ok (.iaload, 1) := by decide +kernel
theorem dX11_canBe_104 : decode cX11_canBe 104 = .ok (.aload_n 0, 1) := by decide +kernel
theorem dX11_canBe_105 : decode cX11_canBe 105 = .ok (.getfield 44, 3) := by decide +kernel
theorem dX11_canBe_108 : decode cX11_canBe 108 = .ok (.iload 6, 2) := by decide +kernel
theorem dX11_canBe_110 : decode cX11_canBe 110 = .ok (.iaload, 1) := by decide +kernel
theorem dX11_canBe_111 : decode cX11_canBe 111 = .ok (.ixor, 1) := by decide +kernel
theorem dX11_canBe_112 : decode cX11_canBe 112 = .ok (.invokevirtual 332, 3) := by decide +kernel
theorem dX11_canBe_115 : decode cX11_canBe 115 = .ok (.iinc 6 1, 3) := by decide +kernel
theorem dX11_canBe_118 : decode cX11_canBe 118 = .ok (.goto (-51), 3) := by decide +kernel
theorem dX11_canBe_30 : decode cX11_canBe 30 = .ok (.iload 5, 2) := by decide +kernel
theorem dX11_canBe_32 : decode cX11_canBe 32 = .ok (.aload_n 0, 1) := by decide +kernel
theorem dX11_canBe_33 : decode cX11_canBe 33 = .ok (.invokevirtual 323, 3) := by decide +kernel
theorem dX11_canBe_36 : decode cX11_canBe 36 = .ok (.if_icmp .ge 91, 3) := by decide +kernel
theorem dX11_canBe_39 : decode cX11_canBe 39 = .ok (.aload_n 0, 1) := by decide +kernel
theorem dX11_canBe_40 : decode cX11_canBe 40 = .ok (.aload_n 0, 1) := by decide +kernel
theorem dX11_canBe_41 : decode cX11_canBe 41 = .ok (.getfield 17, 3) := by decide +kernel
theorem dX11_canBe_44 : decode cX11_canBe 44 = .ok (.bipush 46, 2) := by decide +kernel
theorem dX11_canBe_46 : decode cX11_canBe 46 = .ok (.iaload, 1) := by decide +kernel
theorem dX11_canBe_47 : decode cX11_canBe 47 = .ok (.iload_n 1, 1) := by decide +kernel
theorem dX11_canBe_48 : decode cX11_canBe 48 = .ok (.iload 4, 2) := by decide +kernel
theorem dX11_canBe_50 : decode cX11_canBe 50 = .ok (.iload 5, 2) := by decide +kernel
theorem dX11_canBe_52 : decode cX11_canBe 52 = .ok (.imul, 1) := by decide +kernel
theorem dX11_canBe_53 : decode cX11_canBe 53 = .ok (.ishr, 1) := by decide +kernel
theorem dX11_canBe_54 : decode cX11_canBe 54 = .ok (.iconst 1, 1) := by decide +kernel
theorem dX11_canBe_55 : decode cX11_canBe 55 = .ok (.iload 4, 2) := by decide +kernel
theorem dX11_canBe_57 : decode cX11_canBe 57 = .ok (.ishl, 1) := by decide +kernel
theorem dX11_canBe_58 : decode cX11_canBe 58 = .ok (.iconst 1, 1) := by decide +kernel
theorem dX11_canBe_59 : decode cX11_canBe 59 = .ok (.isub, 1) := by decide +kernel
theorem dX11_canBe_60 : decode cX11_canBe 60 = .ok (.iand, 1) := by decide +kernel
theorem dX11_canBe_61 : decode cX11_canBe 61 = .ok (.invokevirtual 245, 3) := by decide +kernel
theorem dX11_canBe_64 : decode cX11_canBe 64 = .ok (.iconst 0, 1) := by decide +kernel
theorem dX11_canBe_65 : decode cX11_canBe 65 = .ok (.istore 6, 2) := by decide +kernel
theorem dX11_canBe_0 : decode cX11_canBe 0 = .ok (.aload_n 0, 1) := by decide +kernel
theorem dX11_canBe_1 : decode cX11_canBe 1 = .ok (.getfield 17, 3) := by decide +kernel
theorem dX11_canBe_4 : decode cX11_canBe 4 = .ok (.bipush 46, 2) := by decide +kernel
theorem dX11_canBe_6 : decode cX11_canBe 6 = .ok (.iaload, 1) := by decide +kernel
theorem dX11_canBe_7 : decode cX11_canBe 7 = .ok (.invokestatic 114, 3) := by decide +kernel
theorem dX11_canBe_10 : decode cX11_canBe 10 = .ok (.istore_n 3, 1) := by decide +kernel
theorem dX11_canBe_11 : decode cX11_canBe 11 = .ok (.aload_n 0, 1) := by decide +kernel
theorem dX11_canBe_12 : decode cX11_canBe 12 = .ok (.getfield 17, 3) := by decide +kernel
theorem dX11_canBe_15 : decode cX11_canBe 15 = .ok (.bipush 46, 2) := by decide +kernel
theorem dX11_canBe_17 : decode cX11_canBe 17 = .ok (.iaload, 1) := by decide +kernel
theorem dX11_canBe_18 : decode cX11_canBe 18 = .ok (.invokestatic 117, 3) := by decide +kernel
theorem dX11_canBe_21 : decode cX11_canBe 21 = .ok (.istore 4, 2) := by decide +kernel
theorem dX11_canBe_23 : decode cX11_canBe 23 = .ok (.aload_n 0, 1) := by decide +kernel
theorem dX11_canBe_24 : decode cX11_canBe 24 = .ok (.invokevirtual 334, 3) := by decide +kernel
theorem dX11_canBe_27 : decode cX11_canBe 27 = .ok (.iconst 0, 1) := by decide +kernel
theorem dX11_canBe_28 : decode cX11_canBe 28 = .ok (.istore 5, 2) := by decide +kernel
theorem dX11_left_58 : decode cX11_left 58 = .ok (.iload_n 3, 1) := by decide +kernel
theorem dX11_left_59 : decode cX11_left 59 = .ok (.ireturn, 1) := by decide +kernel
theorem dX11_left_50 : decode cX11_left 50 = .ok (.iadd, 1) := by decide +kernel
theorem dX11_left_51 : decode cX11_left 51 = .ok (.istore_n 3, 1) := by decide +kernel
theorem dX11_left_52 : decode cX11_left 52 = .ok (.iinc 4 1, 3) := by decide +kernel
theorem dX11_left_55 : decode cX11_left 55 = .ok (.goto (-45), 3) := by decide +kernel
theorem dX11_left_49 : decode cX11_left 49 = .ok (.iconst 0, 1) := by decide +kernel
theorem dX11_left_10 : decode cX11_left 10 = .ok (.iload 4, 2) := by decide +kernel
theorem dX11_left_12 : decode cX11_left 12 = .ok (.iconst 1, 1) := by decide +kernel
theorem dX11_left_13 : decode cX11_left 13 = .ok (.iload_n 2, 1) := by decide +kernel
theorem dX11_left_14 : decode cX11_left 14 = .ok (.ishl, 1) := by decide +kernel
theorem dX11_left_15 : decode cX11_left 15 = .ok (.if_icmp .ge 43, 3) := by decide +kernel
theorem dX11_left_18 : decode cX11_left 18 = .ok (.iload_n 3, 1) := by decide +kernel
theorem dX11_left_19 : decode cX11_left 19 = .ok (.iload 4, 2) := by decide +kernel
theorem dX11_left_21 : decode cX11_left 21 = .ok (.iload_n 2, 1) := by decide +kernel
theorem dX11_left_22 : decode cX11_left 22 = .ok (.invokestatic 248, 3) := by decide +kernel
theorem dX11_left_25 : decode cX11_left 25 = .ok (.aload_n 0, 1) := by decide +kernel
theorem dX11_left_26 : decode cX11_left 26 = .ok (.getfield 17, 3) := by decide +kernel
theorem dX11_left_29 : decode cX11_left 29 = .ok (.bipush 48, 2) := by decide +kernel
theorem dX11_left_31 : decode cX11_left 31 = .ok (.iaload, 1) := by decide +kernel
theorem dX11_left_32 : decode cX11_left 32 = .ok (.if_icmp .ne 17, 3) := by decide +kernel
theorem dX11_left_35 : decode cX11_left 35 = .ok (.aload_n 0, 1) := by decide +kernel
theorem dX11_left_36 : decode cX11_left 36 = .ok (.iload 4, 2) := by decide +kernel
theorem dX11_left_38 : decode cX11_left 38 = .ok (.iload_n 1, 1) := by decide +kernel
theorem dX11_left_39 : decode cX11_left 39 = .ok (.invokevirtual 369, 3) := by decide +kernel
theorem dX11_left_42 : decode cX11_left 42 = .ok (.ifCond .eq 7, 3) := by decide +kernel
theorem dX11_left_45 : decode cX11_left 45 = .ok (.iconst 1, 1) := by decide +kernel
theorem dX11_left_46 : decode cX11_left 46 = .ok (.goto 4, 3) := by decide +kernel
theorem dX11_left_0 : decode cX11_left 0 = .ok (.aload_n 0, 1) := by decide +kernel
theorem dX11_left_1 : decode cX11_left 1 = .ok (.invokevirtual 270, 3) := by decide +kernel
theorem dX11_left_4 : decode cX11_left 4 = .ok (.istore_n 2, 1) := by decide +kernel
theorem dX11_left_5 : decode cX11_left 5 = .ok (.iconst 0, 1) := by decide +kernel
theorem dX11_left_6 : decode cX11_left 6 = .ok (.istore_n 3, 1) := by decide +kernel
theorem dX11_left_7 : decode cX11_left 7 = .ok (.iconst 0, 1) := by decide +kernel
theorem dX11_left_8 : decode cX11_left 8 = .ok (.istore 4, 2) := by decide +kernel
theorem dX11_leak_91 : decode cX11_leak 91 = .ok (.invokevirtual 379, 3) := by decide +kernel
theorem dX11_leak_94 : decode cX11_leak 94 = .ok (.ireturn, 1) := by decide +kernel
theorem dX11_leak_90 : decode cX11_leak 90 = .ok (.iconst 0, 1) := by decide +kernel
theorem dX11_leak_80 : decode cX11_leak 80 = .ok (.aload_n 0, 1) := by decide +kernel
theorem dX11_leak_81 : decode cX11_leak 81 = .ok (.iload_n 1, 1) := by decide +kernel
theorem dX11_leak_82 : decode cX11_leak 82 = .ok (.iconst 4, 1) := by decide +kernel
theorem dX11_leak_83 : decode cX11_leak 83 = .ok (.if_icmp .ne 7, 3) := by decide +kernel
theorem dX11_leak_86 : decode cX11_leak 86 = .ok (.iconst 1, 1) := by decide +kernel
theorem dX11_leak_87 : decode cX11_leak 87 = .ok (.goto 4, 3) := by decide +kernel
theorem dX11_leak_66 : decode cX11_leak 66 = .ok (.iconst 0, 1) := by decide +kernel
theorem dX11_leak_67 : decode cX11_leak 67 = .ok (.aload_n 0, 1) := by decide +kernel
theorem dX11_leak_68 : decode cX11_leak 68 = .ok (.invokevirtual 373, 3) := by decide +kernel
theorem dX11_leak_71 : decode cX11_leak 71 = .ok (.aload_n 0, 1) := by decide +kernel
theorem dX11_leak_72 : decode cX11_leak 72 = .ok (.invokevirtual 376, 3) := by decide +kernel
theorem dX11_leak_75 : decode cX11_leak 75 = .ok (.isub, 1) := by decide +kernel
theorem dX11_leak_76 : decode cX11_leak 76 = .ok (.invokestatic 317, 3) := by decide +kernel
theorem dX11_leak_79 : decode cX11_leak 79 = .ok (.ireturn, 1) := by decide +kernel
theorem dX11_leak_61 : decode cX11_leak 61 = .ok (.aload_n 0, 1) := by decide +kernel
theorem dX11_leak_62 : decode cX11_leak 62 = .ok (.invokevirtual 376, 3) := by decide +kernel
theorem dX11_leak_65 : decode cX11_leak 65 = .ok (.ireturn, 1) := by decide +kernel
theorem dX11_leak_56 : decode cX11_leak 56 = .ok (.aload_n 0, 1) := by decide +kernel
theorem dX11_leak_57 : decode cX11_leak 57 = .ok (.invokevirtual 373, 3) := by decide +kernel
theorem dX11_leak_60 : decode cX11_leak 60 = .ok (.ireturn, 1) := by decide +kernel
theorem dX11_leak_29 : decode cX11_leak 29 = .ok (.iload_n 1, 1) := by decide +kernel
theorem dX11_leak_30 : decode cX11_leak 30 = .ok (.tableswitch 50 0 2 #[26, 31, 36], 26) := by decide +kernel
theorem dX11_leak_27 : decode cX11_leak 27 = .ok (.iconst 0, 1) := by decide +kernel
theorem dX11_leak_28 : decode cX11_leak 28 = .ok (.ireturn, 1) := by decide +kernel
theorem dX11_leak_0 : decode cX11_leak 0 = .ok (.aload_n 0, 1) := by decide +kernel
theorem dX11_leak_1 : decode cX11_leak 1 = .ok (.iconst 0, 1) := by decide +kernel
theorem dX11_leak_2 : decode cX11_leak 2 = .ok (.putfield 1, 3) := by decide +kernel
theorem dX11_leak_5 : decode cX11_leak 5 = .ok (.aload_n 0, 1) := by decide +kernel
theorem dX11_leak_6 : decode cX11_leak 6 = .ok (.invokevirtual 263, 3) := by decide +kernel
theorem dX11_leak_9 : decode cX11_leak 9 = .ok (.ifCond .eq 18, 3) := by decide +kernel
theorem dX11_leak_12 : decode cX11_leak 12 = .ok (.aload_n 0, 1) := by decide +kernel
theorem dX11_leak_13 : decode cX11_leak 13 = .ok (.iload_n 1, 1) := by decide +kernel
theorem dX11_leak_14 : decode cX11_leak 14 = .ok (.iconst 0, 1) := by decide +kernel
theorem dX11_leak_15 : decode cX11_leak 15 = .ok (.iconst 4, 1) := by decide +kernel
theorem dX11_leak_16 : decode cX11_leak 16 = .ok (.invokestatic 173, 3) := by decide +kernel
theorem dX11_leak_19 : decode cX11_leak 19 = .ok (.iconst 2, 1) := by decide +kernel
theorem dX11_leak_20 : decode cX11_leak 20 = .ok (.iconst 1, 1) := by decide +kernel
theorem dX11_leak_21 : decode cX11_leak 21 = .ok (.invokevirtual 217, 3) := by decide +kernel
theorem dX11_leak_24 : decode cX11_leak 24 = .ok (.ifCond .ne 5, 3) := by decide +kernel
/-! the reference: secrets that can be, secrets left, leaks -/
theorem kb_d {K : zE} (s b k : Nat) (hk : k < lnR (eR K)) : kbt K s (b * lnR (eR K) + k) = ((eH K).testBit (b * lnR (eR K) + k) ^^ (wdN (eR K) (sbk (eR K) s b)).testBit k) := by
  have e1 : (b * lnR (eR K) + k) / lnR (eR K) = b := by rw [Nat.add_comm, Nat.add_mul_div_right _ _ (by omega), Nat.div_eq_of_lt hk, Nat.zero_add]
  have e2 : (b * lnR (eR K) + k) % lnR (eR K) = k := by rw [Nat.add_comm, Nat.add_mul_mod_self_right, Nat.mod_eq_of_lt hk]
  rw [kbt, e1, e2]
def cbv (S : zD) (K : zE) (M : zG) (s : Nat) (wh : Bool) : Bool := !mrd (dN S) (mcl (dN S) (if wh then mhr S M (mkp S K s (eN K)) (gN M) else mkp S K s (eN K)) (dN S))
def ca_X11_canBe : (zD × zE × zG × Nat × Nat × Bool) → List zV := fun (S, K, M, y, s, wh) => [vR 20 0 y, vI (nI s), vI (bI wh)]
def cp_X11_canBe : (zD × zE × zG × Nat × Nat × Bool) → zH → Prop := fun (S, K, M, y, s, wh) h => rmS S h y ∧ rmE K (h.1 (y + 2)) ∧ rmL M (h.1 (y + 2)) ∧ 0 < eN K ∧ (∀ i, i < eN K → eP K i < dP S) ∧ (∀ i, i < gN M → gP M i < dP S) ∧ s < 2 ^ 16
def cq_X11_canBe : (zD × zE × zG × Nat × Nat × Bool) → zH → Option zV → zH → Prop := fun (S, K, M, y, s, wh) h r h' => r = some (vI (bI (cbv S K M s wh))) ∧ fm y h h'
theorem rc_X11_canBe : ∀ x : (zD × zE × zG × Nat × Nat × Bool), ∃ (j a : Nat) (As : List zV), ca_X11_canBe x = vR (10 + 10) j a :: As := by
  rintro ⟨S, K, M, y, s, wh⟩
  exact ⟨_, _, _, rfl⟩
set_option maxHeartbeats 4000000 in
set_option maxRecDepth 100000 in
theorem m_X11_canBe : zM yX11_canBe cX11_canBe 7 (some .boolean) ({ frames := 2, cells := 0, slots := 0, locals := 45 } : Room) ((ca_X11_canBe, cp_X11_canBe, cq_X11_canBe) : zC (zD × zE × zG × Nat × Nat × Bool)) := by
  refine zM_of (by decide) ?_
  rintro X Y ⟨S, K, M, y, s, wh⟩ h ⟨hS, hE, hL, h0, hP, hG, hs⟩ O E hR
  have hS : rmS S h y := hS
  have hE : rmE K (h.1 (y + 2)) := hE
  have hL : rmL M (h.1 (y + 2)) := hL
  have h0 : 0 < eN K := h0
  have hP : ∀ i, i < eN K → eP K i < dP S := hP
  have hG : ∀ i, i < gN M → gP M i < dP S := hG
  have hs : s < 2 ^ 16 := hs
  have h28 := hE.2.1.1
  obtain ⟨⟨a1, -⟩, ha⟩ := hE.2.2 h0
  obtain ⟨-, hr, hn, hb16, -⟩ := hE.2.1.2 h0
  have hln := lnR_pos hr
  have hr8 := vRp_8 hr
  have m1 : ∀ {h1 : zH}, fm y h h1 → h1.1 (y + 2) = h.1 (y + 2) := fun f => f.2.2.2 2 (by omega)
  have hk28 : eK K ≤ 28 := by
    have : eK K * 1 ≤ eK K * lnR (eR K) := Nat.mul_le_mul_left _ hln.1
    omega
  have B_151 := zr_zreturn (X := X) (Y := Y) (u := 0) (v := 0) O E (Nat.le_refl _) (Nat.le_refl _) dX11_canBe_151
  have B_150 := zr_iconst (X := X) (Y := Y) (u := 0) (v := 0) (x := 0) O dX11_canBe_150 rfl (B_151)
  have B_135 := zr_aload_n (X := X) (Y := Y) (u := 0) (v := 0) O dX11_canBe_135 rfl (zr_cV (ci := 10) (n := 0) O m_X11_closes (bn_X11_closes _ ⟨rfl, rfl⟩) vw_X11_closes tw_1555 rc_X11_closes (zrm hR rfl rfl) dX11_canBe_136 (zr_aload_n O dX11_canBe_139 rfl (zr_cI (zr_cV (ci := 10) (n := 0) O m_X11_isRound (bn_X11_isRound _ ⟨rfl, rfl⟩) vw_X11_isRound tw_1680 rc_X11_isRound (zrm hR rfl rfl) dX11_canBe_140 (zr_ifne (tgt := 150) O dX11_canBe_143 rfl B_150 (zr_iconst (x := 1) O dX11_canBe_146 rfl (zr_goto (tgt := 151) O dX11_canBe_147 rfl B_151)))))))
  have C_135 : zSd X Y 0 0 135 (fun ls st h1 => ∃ (C : Nat → Nat) (l3 l4 l5 l6 : Option zV), ls = [some (vR 20 0 y), some (vI (nI s)), some (vI (bI wh)), l3, l4, l5, l6] ∧ st = [] ∧ fm y h h1 ∧ rmo C h1 y ∧ C = (if wh then mhr S M (mkp S K s (eN K)) (gN M) else mkp S K s (eN K))) := by
    refine zSd_weak B_135 (fun ls st h1 t => ?_)
    obtain ⟨C, l3, l4, l5, l6, rfl, rfl, f1, hB1, eC2⟩ := t
    refine ⟨(S, C, y), rfl, ⟨rmS_fm f1 hS, hB1⟩, fun r h2 hq => ?_⟩
    obtain ⟨rfl, o2⟩ := hq
    have f2 := fm_t f1 (oM_f o2)
    refine ⟨(S, mcl (dN S) C (dN S), y), rfl, ⟨rmS_fm f2 hS, oM_o o2⟩, fun c => ⟨Or.inl rfl, zri ?_, f2⟩, fun c => ⟨Or.inr rfl, zri ?_, f2⟩⟩
    · replace c : ¬ bI (mrd (dN S) (mcl (dN S) C (dN S))) = 0 := c
      have e : mrd (dN S) (mcl (dN S) C (dN S)) = true := by
        cases hz : mrd (dN S) (mcl (dN S) C (dN S)) with
        | true => rfl
        | false => exact absurd ((bI_0 _).mpr hz) c
      rw [cbv, ← eC2, e]; rfl
    · replace c : bI (mrd (dN S) (mcl (dN S) C (dN S))) = 0 := c
      rw [cbv, ← eC2, (bI_0 _).mp c]; rfl
  have B_127 := zr_iload_n (X := X) (Y := Y) (u := 0) (v := 0) O dX11_canBe_127 rfl (zr_ifeq (tgt := 135) O dX11_canBe_128 rfl C_135 (zr_aload_n O dX11_canBe_131 rfl (zr_cV (ci := 10) (n := 0) O m_X11_putsHeard (bn_X11_putsHeard _ ⟨rfl, rfl⟩) vw_X11_putsHeard tw_1547 rc_X11_putsHeard (zrm hR rfl rfl) dX11_canBe_132 (C_135))))
  have L_30 : ∀ nn : Nat, zSd X Y 0 0 30 ((fun d ls st h1 => ∃ (b : Nat) (z : Int32) (y6 : Option zV), d = eK K - b ∧ b ≤ eK K ∧ ls = [some (vR 20 0 y), some (vI (nI s)), some (vI (bI wh)), some (vI (nI (lnR (eR K)))), some (vI (nI (btR (eR K)))), some (vI z), y6] ∧ z = nI b ∧ st = [] ∧ fm y h h1 ∧ rmo (mkp S K s (b * lnR (eR K))) h1 y : Nat → zT) nn) := by
    refine zSd_loop (fun nn ih => ?_)
    have B_121 := zr_iinc (X := X) (Y := Y) (u := 0) (v := 0) (c := 1) O dX11_canBe_121 rfl (zr_goto (tgt := 30) O dX11_canBe_124 rfl ih)
    have L_67 : ∀ nn67 : Nat, zSd X Y 0 0 67 ((fun d ls st h1 => ∃ (b k : Nat) (z u : Int32), d = lnR (eR K) - k ∧ k ≤ lnR (eR K) ∧ nn = eK K - b ∧ b < eK K ∧ ls = [some (vR 20 0 y), some (vI (nI s)), some (vI (bI wh)), some (vI (nI (lnR (eR K)))), some (vI (nI (btR (eR K)))), some (vI z), some (vI u)] ∧ z = nI b ∧ u = nI k ∧ st = [] ∧ fm y h h1 ∧ rmo (mkp S K s (b * lnR (eR K) + k)) h1 y ∧ btw (lnR (eR K)) (wdN (eR K) (sbk (eR K) s b)) (h1.1 (y + 11)) : Nat → zT) nn67) := by
      refine zSd_loop (fun nn67 ih67 => ?_)
      have B_67 := zr_iload (X := X) (Y := Y) (u := 0) (v := 0) O dX11_canBe_67 (zr_iload_n O dX11_canBe_69 rfl (zr_icge (tgt := 121) O dX11_canBe_70 rfl B_121 (zr_aload_n O dX11_canBe_73 rfl (zr_aload_n O dX11_canBe_74 rfl (zr_gS (ci := 10) (j := 2) (off := 2) (t := 1) (n := 218) O zc_10 (by decide) rfl tw_1189 dX11_canBe_75 (zr_bipush (x := (49)) O dX11_canBe_78 (by decide) (zr_iload_n O dX11_canBe_80 rfl (zr_iload O dX11_canBe_81 (zr_imul O dX11_canBe_83 (zr_iadd O dX11_canBe_84 (zr_iload O dX11_canBe_85 (zr_iadd O dX11_canBe_87 (zr_iald O dX11_canBe_88 (zr_aload_n O dX11_canBe_89 rfl (zr_gS (ci := 10) (j := 2) (off := 2) (t := 1) (n := 218) O zc_10 (by decide) rfl tw_1189 dX11_canBe_90 (zr_bipush (x := (105)) O dX11_canBe_93 (by decide) (zr_iload_n O dX11_canBe_95 rfl (zr_iload O dX11_canBe_96 (zr_imul O dX11_canBe_98 (zr_iadd O dX11_canBe_99 (zr_iload O dX11_canBe_100 (zr_iadd O dX11_canBe_102 (zr_iald O dX11_canBe_103 (zr_aload_n O dX11_canBe_104 rfl (zr_gS (ci := 10) (j := 14) (off := 11) (t := 1) (n := 7) O zc_10 (by decide) rfl tw_1201 dX11_canBe_105 (zr_iload O dX11_canBe_108 (zr_iald O dX11_canBe_110 (zr_ixor O dX11_canBe_111 (zr_cV (ci := 10) (n := 2) O m_X11_puts_ (bn_X11_puts_ _ ⟨rfl, rfl⟩) vw_X11_puts_ tw_1551 rc_X11_puts_ (zrm hR rfl rfl) dX11_canBe_112 (zr_iinc (c := 1) O dX11_canBe_115 rfl (zr_goto (tgt := 67) O dX11_canBe_118 rfl ih67)))))))))))))))))))))))))))))))
      refine zSd_weak B_67 (fun ls st h1 t => ?_)
      obtain ⟨b, k, z, u, rfl, hk, en, hb, rfl, rfl, rfl, rfl, f1, hB1, hw⟩ := t
      have hbl : b * lnR (eR K) + lnR (eR K) ≤ eN K := by rw [hn, ← Nat.succ_mul]; exact Nat.mul_le_mul_right _ hb
      refine ⟨fun c => ?_, fun c => ?_⟩
      · have := (nI_leI (by omega) (by omega)).mp c
        have hk2 : k = lnR (eR K) := by omega
        refine ⟨eK K - (b + 1), by omega, b + 1, _, _, rfl, hb, rfl, nI_1 b, rfl, f1, ?_⟩
        rw [Nat.succ_mul, ← hk2]
        rw [hk2] at hB1 ⊢
        exact hB1
      · have hk2 : k < lnR (eR K) := Nat.not_le.mp (fun z => c ((nI_leI (by omega) (by omega)).mpr z))
        have hat : b * lnR (eR K) + k < eN K := by omega
        obtain ⟨g1, -, g3, -⟩ := ha _ hat
        have e1 : (49 : Int32) + nI (lnR (eR K)) * nI b + nI k = nI (49 + (b * lnR (eR K) + k)) := by
          rw [nI_mul, show (49 : Int32) = nI 49 from rfl, nI_add, nI_add, Nat.mul_comm, Nat.add_assoc]
        have e2 : (105 : Int32) + nI (lnR (eR K)) * nI b + nI k = nI (105 + (b * lnR (eR K) + k)) := by
          rw [nI_mul, show (105 : Int32) = nI 105 from rfl, nI_add, nI_add, Nat.mul_comm, Nat.add_assoc]
        refine ⟨49 + (b * lnR (eR K) + k), e1, by omega, 105 + (b * lnR (eR K) + k), e2, by omega, k, rfl, by omega, (S, mkp S K s (b * lnR (eR K) + k), y, eP K (b * lnR (eR K) + k), kbt K s (b * lnR (eR K) + k)), ?_, ⟨rmS_fm f1 hS, hB1, hP _ hat⟩, fun r h2 hq => ?_⟩
        · rw [m1 f1, g1, g3, hw k hk2, bI_xor, kb_d s b k hk2]; rfl
        · obtain ⟨rfl, o2⟩ := hq
          replace o2 : oM (mkp S K s (b * lnR (eR K) + k + 1)) h1 y h2 := o2
          refine ⟨lnR (eR K) - (k + 1), by omega, b, k + 1, _, _, rfl, by omega, en, hb, rfl, rfl, nI_1 k, rfl, fm_t f1 (oM_f o2), oM_o o2, ?_⟩
          obtain ⟨f, e3, -⟩ := o2
          rw [e3, zsW_n _ _ (by omega)]
          exact hw
    have B_67 := zSd_any L_67
    have B_30 := zr_iload (X := X) (Y := Y) (u := 0) (v := 0) O dX11_canBe_30 (zr_aload_n O dX11_canBe_32 rfl (zr_cI (zr_cV (ci := 10) (n := 0) O m_X11_keptBlocks (bn_X11_keptBlocks _ ⟨rfl, rfl⟩) vw_X11_keptBlocks tw_1617 rc_X11_keptBlocks (zrm hR rfl rfl) dX11_canBe_33 (zr_icge (tgt := 127) O dX11_canBe_36 rfl B_127 (zr_aload_n O dX11_canBe_39 rfl (zr_aload_n O dX11_canBe_40 rfl (zr_gS (ci := 10) (j := 2) (off := 2) (t := 1) (n := 218) O zc_10 (by decide) rfl tw_1189 dX11_canBe_41 (zr_bipush (x := (46)) O dX11_canBe_44 (by decide) (zr_iald O dX11_canBe_46 (zr_iload_n O dX11_canBe_47 rfl (zr_iload O dX11_canBe_48 (zr_iload O dX11_canBe_50 (zr_imul O dX11_canBe_52 (zr_ishr O dX11_canBe_53 (zr_iconst (x := 1) O dX11_canBe_54 rfl (zr_iload O dX11_canBe_55 (zr_ishl O dX11_canBe_57 (zr_iconst (x := 1) O dX11_canBe_58 rfl (zr_isub O dX11_canBe_59 (zr_iand O dX11_canBe_60 (zr_cV (ci := 10) (n := 2) O m_X11_words (bn_X11_words _ ⟨rfl, rfl⟩) vw_X11_words tw_1448 rc_X11_words (zrm hR rfl rfl) dX11_canBe_61 (zr_iconst (x := 0) O dX11_canBe_64 rfl (zr_istore O dX11_canBe_65 (B_67))))))))))))))))))))))))
    refine zSd_weak B_30 (fun ls st h1 t => ?_)
    obtain ⟨b, z, y6, rfl, hb, rfl, rfl, rfl, f1, hB1⟩ := t
    have hE1 : rmE K (h1.1 (y + 2)) := by rw [m1 f1]; exact hE
    refine ⟨(K, y), rfl, ⟨hE1, h0⟩, fun c => ?_, fun c => ?_⟩
    · replace c : nI (eK K) ≤ nI b := c
      have := (nI_leI (by omega) (by omega)).mp c
      have hb2 : b = eK K := by omega
      rw [hb2, ← hn] at hB1
      refine ⟨fun c2 => ?_, fun c2 => ?_⟩
      · have hz : wh = false := (bI_0 _).mp c2
        exact ⟨mkp S K s (eN K), _, _, _, _, rfl, rfl, f1, hB1, by rw [hz]; rfl⟩
      · have hz : wh = true := by
          cases hz : wh with
          | true => rfl
          | false => exact absurd ((bI_0 _).mpr hz) c2
        refine ⟨(S, M, mkp S K s (eN K), y), rfl, ⟨rmS_fm f1 hS, by rw [m1 f1]; exact hL, hB1, hG⟩, fun r h2 hq => ?_⟩
        obtain ⟨rfl, o2⟩ := hq
        exact ⟨_, _, _, _, _, rfl, rfl, fm_t f1 (oM_f o2), oM_o o2, by rw [hz]; rfl⟩
    · replace c : ¬ nI (eK K) ≤ nI b := c
      have hb2 : b < eK K := Nat.not_le.mp (fun z => c ((nI_leI (by omega) (by omega)).mpr z))
      have hbb : b * btR (eR K) + btR (eR K) ≤ eK K * btR (eR K) := by rw [← Nat.succ_mul]; exact Nat.mul_le_mul_right _ hb2
      have e1 : (nI s >>> ((nI (btR (eR K)) * nI b) &&& 31)) &&& ((1 : Int32) <<< (nI (btR (eR K)) &&& 31) - 1) = nI (sbk (eR K) s b) := by
        rw [nI_mul, Nat.mul_comm, shrI (by omega) (by omega), mskI (by omega)]
        rfl
      have hlt : sbk (eR K) s b < 2 ^ btR (eR K) := Nat.mod_lt _ (Nat.two_pow_pos _)
      refine ⟨46, rfl, by decide, (y, eR K, sbk (eR K) s b), by rw [m1 f1, a1, e1]; rfl, ⟨hr, hlt⟩, fun r h2 hq => ?_⟩
      obtain ⟨rfl, u, e2, hu⟩ := hq
      replace e2 : h2 = zsW h1 (y + 11) u := e2
      subst e2
      refine ⟨lnR (eR K) - 0, b, 0, _, _, rfl, Nat.zero_le _, rfl, hb2, rfl, rfl, rfl, rfl, fm_t f1 (fm_W (j := 11) _ _ (by decide)), fun i hi => by rw [zsW_n _ _ (by omega)]; exact hB1 i hi, by rw [zsW_s]; exact hu⟩
  have B_30 := zSd_any L_30
  have B_0 := zr_aload_n (X := X) (Y := Y) (u := 0) (v := 0) O dX11_canBe_0 rfl (zr_gS (ci := 10) (j := 2) (off := 2) (t := 1) (n := 218) O zc_10 (by decide) rfl tw_1189 dX11_canBe_1 (zr_bipush (x := (46)) O dX11_canBe_4 (by decide) (zr_iald O dX11_canBe_6 (zr_cI (zr_cS (n := 1) O m_X11_wideBy (bn_X11_wideBy _ ⟨rfl, rfl⟩) tw_1439 tw_1438 (zrm hR rfl rfl) dX11_canBe_7 (zr_istore_n O dX11_canBe_10 rfl (zr_aload_n O dX11_canBe_11 rfl (zr_gS (ci := 10) (j := 2) (off := 2) (t := 1) (n := 218) O zc_10 (by decide) rfl tw_1189 dX11_canBe_12 (zr_bipush (x := (46)) O dX11_canBe_15 (by decide) (zr_iald O dX11_canBe_17 (zr_cI (zr_cS (n := 1) O m_X11_givesBy (bn_X11_givesBy _ ⟨rfl, rfl⟩) tw_1442 tw_1441 (zrm hR rfl rfl) dX11_canBe_18 (zr_istore O dX11_canBe_21 (zr_aload_n O dX11_canBe_23 rfl (zr_cV (ci := 10) (n := 0) O m_X11_noOrder (bn_X11_noOrder _ ⟨rfl, rfl⟩) vw_X11_noOrder tw_1543 rc_X11_noOrder (zrm hR rfl rfl) dX11_canBe_24 (zr_iconst (x := 0) O dX11_canBe_27 rfl (zr_istore O dX11_canBe_28 (B_30))))))))))))))))))
  refine ⟨rfl, Nat.le_of_ble_eq_true rfl, _, B_0, ?_⟩
  refine ⟨46, rfl, by decide, eR K, by rw [a1]; rfl, hr8, 46, rfl, by decide, eR K, by rw [a1]; rfl, hr8, y, rfl, trivial, fun r h1 hq => ?_⟩
  obtain ⟨rfl, o1⟩ := hq
  replace o1 : oM (fun _ => 0) h y h1 := o1
  exact ⟨eK K - 0, 0, _, _, rfl, Nat.zero_le _, rfl, rfl, rfl, oM_f o1, by rw [Nat.zero_mul]; exact oM_o o1⟩
def ca_X11_left : (zD × zE × zG × Nat × Bool) → List zV := fun (S, K, M, y, wh) => [vR 20 0 y, vI (bI wh)]
def cp_X11_left : (zD × zE × zG × Nat × Bool) → zH → Prop := fun (S, K, M, y, wh) h => rmS S h y ∧ rmE K (h.1 (y + 2)) ∧ rmL M (h.1 (y + 2)) ∧ 0 < eN K ∧ (∀ i, i < eN K → eP K i < dP S) ∧ (∀ i, i < gN M → gP M i < dP S)
def cq_X11_left : (zD × zE × zG × Nat × Bool) → zH → Option zV → zH → Prop := fun (S, K, M, y, wh) h r h' => r = some (vI (nI (fb_ct (lfp S K M wh) (2 ^ (eK K * btR (eR K)))))) ∧ fm y h h'
theorem rc_X11_left : ∀ x : (zD × zE × zG × Nat × Bool), ∃ (j a : Nat) (As : List zV), ca_X11_left x = vR (10 + 10) j a :: As := by
  rintro ⟨S, K, M, y, wh⟩
  exact ⟨_, _, _, rfl⟩
set_option maxHeartbeats 4000000 in
set_option maxRecDepth 100000 in
theorem m_X11_left : zM yX11_left cX11_left 5 (some .int) ({ frames := 3, cells := 0, slots := 0, locals := 71 } : Room) ((ca_X11_left, cp_X11_left, cq_X11_left) : zC (zD × zE × zG × Nat × Bool)) := by
  refine zM_of (by decide) ?_
  rintro X Y ⟨S, K, M, y, wh⟩ h ⟨hS, hE, hL, h0, hP, hG⟩ O E hR
  have hS : rmS S h y := hS
  have hE : rmE K (h.1 (y + 2)) := hE
  have hL : rmL M (h.1 (y + 2)) := hL
  have h0 : 0 < eN K := h0
  have hP : ∀ i, i < eN K → eP K i < dP S := hP
  have hG : ∀ i, i < gN M → gP M i < dP S := hG
  obtain ⟨⟨-, -, a3⟩, -⟩ := hE.2.2 h0
  obtain ⟨-, hr, hn, hb16, -, -, hC16⟩ := hE.2.1.2 h0
  have m1 : ∀ {h1 : zH}, fm y h h1 → h1.1 (y + 2) = h.1 (y + 2) := fun f => f.2.2.2 2 (by omega)
  have hp16 : 2 ^ (eK K * btR (eR K)) ≤ 2 ^ 16 := Nat.pow_le_pow_right (by decide) hb16
  have B_58 := zr_iload_n (X := X) (Y := Y) (u := 0) (v := 0) O dX11_left_58 rfl (zr_ireturn O E (Nat.le_refl _) (Nat.le_refl _) dX11_left_59)
  have L_10 : ∀ nn : Nat, zSd X Y 0 0 10 ((fun d ls st h1 => ∃ (s : Nat) (u z : Int32), d = 2 ^ (eK K * btR (eR K)) - s ∧ s ≤ 2 ^ (eK K * btR (eR K)) ∧ ls = [some (vR 20 0 y), some (vI (bI wh)), some (vI (nI (eK K * btR (eR K)))), some (vI u), some (vI z)] ∧ u = nI (fb_ct (lfp S K M wh) s) ∧ z = nI s ∧ st = [] ∧ fm y h h1 : Nat → zT) nn) := by
    refine zSd_loop (fun nn ih => ?_)
    have B_50 := zr_iadd (X := X) (Y := Y) (u := 0) (v := 0) O dX11_left_50 (zr_istore_n O dX11_left_51 rfl (zr_iinc (c := 1) O dX11_left_52 rfl (zr_goto (tgt := 10) O dX11_left_55 rfl ih)))
    have B_49 := zr_iconst (X := X) (Y := Y) (u := 0) (v := 0) (x := 0) O dX11_left_49 rfl (B_50)
    have B_10 := zr_iload (X := X) (Y := Y) (u := 0) (v := 0) O dX11_left_10 (zr_iconst (x := 1) O dX11_left_12 rfl (zr_iload_n O dX11_left_13 rfl (zr_ishl O dX11_left_14 (zr_icge (tgt := 58) O dX11_left_15 rfl B_58 (zr_iload_n O dX11_left_18 rfl (zr_iload O dX11_left_19 (zr_iload_n O dX11_left_21 rfl (zr_cI (zr_cS (n := 2) O m_X11_checkOf (bn_X11_checkOf _ ⟨rfl, rfl⟩) tw_1453 tw_1452 (zrm hR rfl rfl) dX11_left_22 (zr_aload_n O dX11_left_25 rfl (zr_gS (ci := 10) (j := 2) (off := 2) (t := 1) (n := 218) O zc_10 (by decide) rfl tw_1189 dX11_left_26 (zr_bipush (x := (48)) O dX11_left_29 (by decide) (zr_iald O dX11_left_31 (zr_icne (tgt := 49) O dX11_left_32 rfl B_49 (zr_aload_n O dX11_left_35 rfl (zr_iload O dX11_left_36 (zr_iload_n O dX11_left_38 rfl (zr_cV (ci := 10) (n := 2) O m_X11_canBe (bn_X11_canBe _ ⟨rfl, rfl⟩) vw_X11_canBe tw_1676 rc_X11_canBe (zrm hR rfl rfl) dX11_left_39 (zr_ifeq (tgt := 49) O dX11_left_42 rfl B_49 (zr_iconst (x := 1) O dX11_left_45 rfl (zr_goto (tgt := 50) O dX11_left_46 rfl B_50)))))))))))))))))))))
    refine zSd_weak B_10 (fun ls st h1 t => ?_)
    obtain ⟨s, u, z, rfl, hs, rfl, rfl, rfl, rfl, f1⟩ := t
    refine ⟨fun c => ⟨zri ?_, f1⟩, fun c => ?_⟩
    · rw [nI_pow (by omega)] at c
      have := (nI_leI (by omega) (by omega)).mp c
      have hs2 : s = 2 ^ (eK K * btR (eR K)) := by omega
      rw [← hs2]
    · rw [nI_pow (by omega)] at c
      have hs2 : s < 2 ^ (eK K * btR (eR K)) := Nat.not_le.mp (fun z => c ((nI_leI (by omega) (by omega)).mpr z))
      have hck := ckW_lt (c := 0) (by decide) s (eK K * btR (eR K))
      refine ⟨(s, eK K * btR (eR K)), rfl, ⟨by show s < 2 ^ 31; omega, hb16⟩, 48, rfl, by decide, fun c2 => ?_, fun c2 => ?_⟩
      · replace c2 : ¬ nI (ckW 0 s (eK K * btR (eR K))) = h1.1 (y + 2) 48 := c2
        rw [m1 f1, a3] at c2
        refine ⟨2 ^ (eK K * btR (eR K)) - (s + 1), by omega, s + 1, _, _, rfl, by omega, rfl, ?_, nI_1 s, rfl, f1⟩
        have e : lfp S K M wh s = false := by rw [lfp, decide_eq_false (fun z => c2 (by rw [z]))]; rfl
        rw [fb_ct_succ, e]; exact Int32.add_zero _
      · replace c2 : nI (ckW 0 s (eK K * btR (eR K))) = h1.1 (y + 2) 48 := c2
        rw [m1 f1, a3] at c2
        have hc := (nI_eq (by omega) (by omega)).mp c2
        refine ⟨(S, K, M, y, s, wh), rfl, ⟨rmS_fm f1 hS, by rw [m1 f1]; exact hE, by rw [m1 f1]; exact hL, h0, hP, hG, by show s < 2 ^ 16; omega⟩, fun r h2 hq => ?_⟩
        obtain ⟨rfl, f2⟩ := hq
        replace f2 : fm y h1 h2 := f2
        have el : lfp S K M wh s = cbv S K M s wh := by rw [lfp, decide_eq_true hc, Bool.true_and]; rfl
        refine ⟨fun c3 => ⟨2 ^ (eK K * btR (eR K)) - (s + 1), by omega, s + 1, _, _, rfl, by omega, rfl, ?_, nI_1 s, rfl, fm_t f1 f2⟩, fun c3 => ⟨2 ^ (eK K * btR (eR K)) - (s + 1), by omega, s + 1, _, _, rfl, by omega, rfl, ?_, nI_1 s, rfl, fm_t f1 f2⟩⟩
        · replace c3 : bI (cbv S K M s wh) = 0 := c3
          rw [fb_ct_succ, el, (bI_0 _).mp c3]; exact Int32.add_zero _
        · replace c3 : ¬ bI (cbv S K M s wh) = 0 := c3
          have e : cbv S K M s wh = true := by
            cases hz : cbv S K M s wh with
            | true => rfl
            | false => exact absurd ((bI_0 _).mpr hz) c3
          rw [fb_ct_succ, el, e]; exact nI_1 _
  have B_10 := zSd_any L_10
  have B_0 := zr_aload_n (X := X) (Y := Y) (u := 0) (v := 0) O dX11_left_0 rfl (zr_cI (zr_cV (ci := 10) (n := 0) O m_X11_keptBits (bn_X11_keptBits _ ⟨rfl, rfl⟩) vw_X11_keptBits tw_1499 rc_X11_keptBits (zrm hR rfl rfl) dX11_left_1 (zr_istore_n O dX11_left_4 rfl (zr_iconst (x := 0) O dX11_left_5 rfl (zr_istore_n O dX11_left_6 rfl (zr_iconst (x := 0) O dX11_left_7 rfl (zr_istore O dX11_left_8 (B_10))))))))
  refine ⟨rfl, Nat.le_of_ble_eq_true rfl, _, B_0, ?_⟩
  exact ⟨(K, y), rfl, ⟨hE, h0⟩, 2 ^ (eK K * btR (eR K)) - 0, 0, _, _, rfl, Nat.zero_le _, rfl, rfl, rfl, rfl, fm_r y h⟩
def ca_X11_leak : (zQ × Nat × Int32) → List zV := fun (Q, y, w) => [vR 20 0 y, vI w]
def cp_X11_leak : (zQ × Nat × Int32) → zH → Prop := fun (Q, y, w) h => rmS Q.1 h y ∧ rmE Q.2.1 (h.1 (y + 2)) ∧ rmL Q.2.2 (h.1 (y + 2)) ∧ vS Q.1 ∧ (∀ i, i < eN Q.2.1 → eP Q.2.1 i < dP Q.1) ∧ (∀ i, i < gN Q.2.2 → gP Q.2.2 i < dP Q.1)
def cq_X11_leak : (zQ × Nat × Int32) → zH → Option zV → zH → Prop := fun (Q, y, w) h r h' => fq y h h' ∧ ((0 < eN Q.2.1 ∧ gR w 0 4 ∧ rok y h h' ∧ r = some (vI (lkv Q.1 Q.2.1 Q.2.2 (cN w)))) ∨ (eN Q.2.1 = 0 ∧ rno y 1 2 h h' ∧ r = some (vI 0)) ∨ (0 < eN Q.2.1 ∧ ¬ gR w 0 4 ∧ rno y 2 1 h h' ∧ r = some (vI 0)))
theorem rc_X11_leak : ∀ x : (zQ × Nat × Int32), ∃ (j a : Nat) (As : List zV), ca_X11_leak x = vR (10 + 10) j a :: As := by
  rintro ⟨⟨S, K, M⟩, y, w⟩
  exact ⟨_, _, _, rfl⟩
set_option maxHeartbeats 4000000 in
set_option maxRecDepth 100000 in
theorem m_X11_leak : zM yX11_leak cX11_leak 2 (some .int) ({ frames := 10, cells := 0, slots := 0, locals := 224 } : Room) ((ca_X11_leak, cp_X11_leak, cq_X11_leak) : zC (zQ × Nat × Int32)) := by
  refine zM_of (by decide) ?_
  rintro X Y ⟨⟨S, K, M⟩, y, w⟩ h ⟨hS, hE, hL, hv, hP, hG⟩ O E hR
  have B_91 := zr_cV (X := X) (Y := Y) (u := 0) (v := 0) (ci := 10) (n := 1) O m_X11_left (bn_X11_left _ ⟨rfl, rfl⟩) vw_X11_left tw_1672 rc_X11_left (zrm hR rfl rfl) dX11_leak_91 (zr_ireturn O E (Nat.le_refl _) (Nat.le_refl _) dX11_leak_94)
  have B_90 := zr_iconst (X := X) (Y := Y) (u := 0) (v := 0) (x := 0) O dX11_leak_90 rfl (B_91)
  have B_80 := zr_aload_n (X := X) (Y := Y) (u := 0) (v := 0) O dX11_leak_80 rfl (zr_iload_n O dX11_leak_81 rfl (zr_iconst (x := 4) O dX11_leak_82 rfl (zr_icne (tgt := 90) O dX11_leak_83 rfl B_90 (zr_iconst (x := 1) O dX11_leak_86 rfl (zr_goto (tgt := 91) O dX11_leak_87 rfl B_91)))))
  have B_66 := zr_iconst (X := X) (Y := Y) (u := 0) (v := 0) (x := 0) O dX11_leak_66 rfl (zr_aload_n O dX11_leak_67 rfl (zr_cV (ci := 10) (n := 0) O m_X11_sure (bn_X11_sure _ ⟨rfl, rfl⟩) vw_X11_sure tw_1664 rc_X11_sure (zrm hR rfl rfl) dX11_leak_68 (zr_aload_n O dX11_leak_71 rfl (zr_cI (zr_cV (ci := 10) (n := 0) O m_X11_leaks (bn_X11_leaks _ ⟨rfl, rfl⟩) vw_X11_leaks tw_1668 rc_X11_leaks (zrm hR rfl rfl) dX11_leak_72 (zr_isub O dX11_leak_75 (zr_max O zwm tw_1608 (zrm hR rfl rfl) dX11_leak_76 (zr_ireturn O E (Nat.le_refl _) (Nat.le_refl _) dX11_leak_79))))))))
  have B_61 := zr_aload_n (X := X) (Y := Y) (u := 0) (v := 0) O dX11_leak_61 rfl (zr_cI (zr_cV (ci := 10) (n := 0) O m_X11_leaks (bn_X11_leaks _ ⟨rfl, rfl⟩) vw_X11_leaks tw_1668 rc_X11_leaks (zrm hR rfl rfl) dX11_leak_62 (zr_ireturn O E (Nat.le_refl _) (Nat.le_refl _) dX11_leak_65)))
  have B_56 := zr_aload_n (X := X) (Y := Y) (u := 0) (v := 0) O dX11_leak_56 rfl (zr_cV (ci := 10) (n := 0) O m_X11_sure (bn_X11_sure _ ⟨rfl, rfl⟩) vw_X11_sure tw_1664 rc_X11_sure (zrm hR rfl rfl) dX11_leak_57 (zr_ireturn O E (Nat.le_refl _) (Nat.le_refl _) dX11_leak_60))
  have B_29 := zr_iload_n (X := X) (Y := Y) (u := 0) (v := 0) O dX11_leak_29 rfl (zr_switch2 (tgt := 80) (ks := [_, _, _]) O dX11_leak_30 rfl rfl B_80 ⟨⟨_, 56, rfl, rfl, B_56⟩, ⟨_, 61, rfl, rfl, B_61⟩, ⟨_, 66, rfl, rfl, B_66⟩, trivial⟩)
  have B_27 := zr_iconst (X := X) (Y := Y) (u := 0) (v := 0) (x := 0) O dX11_leak_27 rfl (zr_ireturn O E (Nat.le_refl _) (Nat.le_refl _) dX11_leak_28)
  have B_0 := zr_aload_n (X := X) (Y := Y) (u := 0) (v := 0) O dX11_leak_0 rfl (zr_iconst (x := 0) O dX11_leak_1 rfl (zr_pI (ci := 10) (j := 0) O zc_10 (by decide) rfl rfl rfl tw_1187 dX11_leak_2 (zr_aload_n O dX11_leak_5 rfl (zr_cH (zr_cV (ci := 10) (n := 0) O m_X11_isKept (bn_X11_isKept _ ⟨rfl, rfl⟩) vw_X11_isKept tw_1483 rc_X11_isKept (zrm hR rfl rfl) dX11_leak_6 (zr_ifeq (tgt := 27) O dX11_leak_9 rfl B_27 (zr_aload_n O dX11_leak_12 rfl (zr_iload_n O dX11_leak_13 rfl (zr_iconst (x := 0) O dX11_leak_14 rfl (zr_iconst (x := 4) O dX11_leak_15 rfl (zr_cI (zr_cS (n := 3) O m_X11_within (bn_X11_within _ ⟨rfl, rfl⟩) tw_1306 tw_1305 (zrm hR rfl rfl) dX11_leak_16 (zr_iconst (x := 2) O dX11_leak_19 rfl (zr_iconst (x := 1) O dX11_leak_20 rfl (zr_cH (zr_cV (ci := 10) (n := 3) O m_X11_isFine (bn_X11_isFine _ ⟨rfl, rfl⟩) vw_X11_isFine tw_1308 rc_X11_isFine (zrm hR rfl rfl) dX11_leak_21 (zr_ifne (tgt := 29) O dX11_leak_24 rfl B_29 (B_27))))))))))))))))))
  refine ⟨rfl, Nat.le_of_ble_eq_true rfl, _, B_0, ?_⟩
  have hS : rmS S h y := hS
  have hE : rmE K (h.1 (y + 2)) := hE
  have hL : rmL M (h.1 (y + 2)) := hL
  have hv : vS S := hv
  have hP : ∀ i, i < eN K → eP K i < dP S := hP
  have hG : ∀ i, i < gN M → gP M i < dP S := hG
  have hS0 := rmS_0 hS
  have hE0 : rmE K ((zsI h y 0 0).1 (y + 2)) := by rw [m_0 _ _ (by omega)]; exact hE
  have hL0 : rmL M ((zsI h y 0 0).1 (y + 2)) := by rw [m_0 _ _ (by omega)]; exact hL
  refine ⟨(K, y), rfl, ⟨hE0, t0 h y⟩, fun d => ?_, fun d => ?_⟩
  · obtain ⟨g, e⟩ := kept_no d
    rw [e]
    exact ⟨(fq_rf 1 (fq_0 y h)).1, Or.inr (Or.inl ⟨g, (fq_rf 1 (fq_0 y h)).2, rfl⟩)⟩
  · obtain ⟨h0, e⟩ := kept_ok d
    rw [e]
    refine ⟨(w, 0, 4), rfl, trivial, (y, decide (0 ≤ w ∧ w ≤ 4), 2, 1), rfl, ⟨by decide, by decide⟩, fun d => ?_, fun d => ?_⟩
    · obtain ⟨g2, e⟩ := fine_ok (t0 h y) d
      rw [e]
      obtain ⟨q, rfl, hq, eq⟩ := rngx (n := 4) (by decide) g2
      have ewt : (nI q).toInt = q := nI_toInt (by omega)
      have fin : ∀ (v : Int32) (h2 : zH), v = lkv S K M q → fm y (zsI h y 0 0) h2 → fq y h h2 ∧ ((0 < eN K ∧ gR (nI q) 0 4 ∧ rok y h h2 ∧ some (vI v) = some (vI (lkv S K M (cN (nI q))))) ∨ (eN K = 0 ∧ rno y 1 2 h h2 ∧ some (vI v) = some (vI 0)) ∨ (0 < eN K ∧ ¬ gR (nI q) 0 4 ∧ rno y 2 1 h h2 ∧ some (vI v) = some (vI 0))) := fun v h2 e f => ⟨(fq_fm (fq_0 y h) f).1, Or.inl ⟨h0, g2, (fq_fm (fq_0 y h) f).2, zri (by rw [eq]; exact e)⟩⟩
      have el : ∀ wh : Bool, fb_ct (lfp S K M wh) (2 ^ (eK K * btR (eR K))) = lft S K (if wh then lod S M (gN M) else fun _ => 0) := lft_e hS.1.2 hE.2.1 h0 (fun p hp => ⟨(hS.2.2.2.1 p hp).1.2, (hS.2.2.2.1 p hp).2.2⟩) hv.2.1 hP hG
      refine zsw_of ⟨fun e => ?_, fun e => ?_, fun e => ?_, trivial⟩ (fun e => ?_)
      · have e : q = 0 := by omega
        refine ⟨(S, K, y), rfl, ⟨hS0, hE0, hv, hP⟩, fun r h2 hq => ?_⟩
        obtain ⟨rfl, f2⟩ := hq
        exact fin _ _ (by rw [lkv, if_pos e]) f2
      · have e : q = 1 := by omega
        exact ⟨(K, y), rfl, ⟨hE0, h0⟩, fin _ _ (by rw [lkv, if_neg (by omega), if_pos e]; rfl) (fm_r _ _)⟩
      · have e : q = 2 := by omega
        refine ⟨(S, K, y), rfl, ⟨hS0, hE0, hv, hP⟩, fun r h2 hq => ?_⟩
        obtain ⟨rfl, f2⟩ := hq
        replace f2 : fm y (zsI h y 0 0) h2 := f2
        refine ⟨(K, y), rfl, ⟨by rw [f2.2.2.2 2 (by omega)]; exact hE0, h0⟩, fin _ _ ?_ f2⟩
        have ev : lkv S K M q = mx2 0 (nI (sur (wys S (psN K (eN K)))) - nI (lkN K)) := by rw [lkv, if_neg (by omega), if_neg (by omega), if_pos e]
        rw [ev]; rfl
      · have e : (nI q).toInt < 0 ∨ (0 : Int) + 3 ≤ (nI q).toInt := e
        refine ⟨fun c => ?_, fun c => ?_⟩
        · have e : q = 3 := by
            rcases Nat.lt_or_ge q 4 with z | z
            · omega
            · have : q = 4 := by omega
              exact absurd (by rw [this]; rfl) c
          refine ⟨(S, K, M, y, false), rfl, ⟨hS0, hE0, hL0, h0, hP, hG⟩, fun r h2 hq => ?_⟩
          obtain ⟨rfl, f2⟩ := hq
          refine fin _ _ ?_ f2
          show nI (fb_ct (lfp S K M false) (2 ^ (eK K * btR (eR K)))) = _
          rw [show lkv S K M q = nI (lft S K (fun _ => 0)) from by rw [lkv, if_neg (by omega), if_neg (by omega), if_neg (by omega), if_pos e], el false]; rfl
        · have e : q = 4 := (nI_eq (b := 4) (by omega) (by decide)).mp c
          refine ⟨(S, K, M, y, true), rfl, ⟨hS0, hE0, hL0, h0, hP, hG⟩, fun r h2 hq => ?_⟩
          obtain ⟨rfl, f2⟩ := hq
          refine fin _ _ ?_ f2
          show nI (fb_ct (lfp S K M true) (2 ^ (eK K * btR (eR K)))) = _
          rw [show lkv S K M q = nI (lft S K (lod S M (gN M))) from by rw [lkv, if_neg (by omega), if_neg (by omega), if_neg (by omega), if_neg (by omega)], el true]; rfl
    · obtain ⟨g2, e⟩ := fine_no (t0 h y) d
      rw [e]
      exact ⟨(fq_rf 2 (fq_0 y h)).1, Or.inr (Or.inr ⟨h0, g2, (fq_rf 2 (fq_0 y h)).2, rfl⟩)⟩

