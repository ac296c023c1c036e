theorem dX11_print_49 : decode cX11_print 49 = .ok (.lload_n 1, 1) := by decide +kernel
theorem dX11_print_50 : decode cX11_print 50 = .ok (.lreturn, 1) := by decide +kernel
theorem dX11_print_9 : decode cX11_print 9 = .ok (.iload_n 3, 1) := by decide +kernel
theorem dX11_print_10 : decode cX11_print 10 = .ok (.aload_n 0, 1) := by decide +kernel
theorem dX11_print_11 : decode cX11_print 11 = .ok (.getfield 103, 3) := by decide +kernel
theorem dX11_print_14 : decode cX11_print 14 = .ok (.if_icmp .ge 35, 3) := by decide +kernel
theorem dX11_print_17 : decode cX11_print 17 = .ok (.ldc2_w 392, 3) := by decide +kernel
theorem dX11_print_20 : decode cX11_print 20 = .ok (.lload_n 1, 1) := by decide +kernel
theorem dX11_print_21 : decode cX11_print 21 = .ok (.lmul, 1) := by decide +kernel
theorem dX11_print_22 : decode cX11_print 22 = .ok (.aload_n 0, 1) := by decide +kernel
theorem dX11_print_23 : decode cX11_print 23 = .ok (.iload_n 3, 1) := by decide +kernel
theorem dX11_print_24 : decode cX11_print 24 = .ok (.invokevirtual 85, 3) := by decide +kernel
theorem dX11_print_27 : decode cX11_print 27 = .ok (.i2l, 1) := by decide +kernel
theorem dX11_print_28 : decode cX11_print 28 = .ok (.ladd, 1) := by decide +kernel
theorem dX11_print_29 : decode cX11_print 29 = .ok (.lstore_n 1, 1) := by decide +kernel
theorem dX11_print_30 : decode cX11_print 30 = .ok (.ldc2_w 392, 3) := by decide +kernel
theorem dX11_print_33 : decode cX11_print 33 = .ok (.lload_n 1, 1) := by decide +kernel
theorem dX11_print_34 : decode cX11_print 34 = .ok (.lmul, 1) := by decide +kernel
theorem dX11_print_35 : decode cX11_print 35 = .ok (.aload_n 0, 1) := by decide +kernel
theorem dX11_print_36 : decode cX11_print 36 = .ok (.iload_n 3, 1) := by decide +kernel
theorem dX11_print_37 : decode cX11_print 37 = .ok (.invokevirtual 100, 3) := by decide +kernel
theorem dX11_print_40 : decode cX11_print 40 = .ok (.i2l, 1) := by decide +kernel
theorem dX11_print_41 : decode cX11_print 41 = .ok (.ladd, 1) := by decide +kernel
theorem dX11_print_42 : decode cX11_print 42 = .ok (.lstore_n 1, 1) := by decide +kernel
theorem dX11_print_43 : decode cX11_print 43 = .ok (.iinc 3 1, 3) := by decide +kernel
theorem dX11_print_46 : decode cX11_print 46 = .ok (.goto (-37), 3) := by decide +kernel
theorem dX11_print_0 : decode cX11_print 0 = .ok (.aload_n 0, 1) := by decide +kernel
theorem dX11_print_1 : decode cX11_print 1 = .ok (.iconst 0, 1) := by decide +kernel
theorem dX11_print_2 : decode cX11_print 2 = .ok (.putfield 1, 3) := by decide +kernel
theorem dX11_print_5 : decode cX11_print 5 = .ok (.lconst 0, 1) := by decide +kernel
theorem dX11_print_6 : decode cX11_print 6 = .ok (.lstore_n 1, 1) := by decide +kernel
theorem dX11_print_7 : decode cX11_print 7 = .ok (.iconst 0, 1) := by decide +kernel
theorem dX11_print_8 : decode cX11_print 8 = .ok (.istore_n 3, 1) := by decide +kernel
theorem dX11_block_67 : decode cX11_block 67 = .ok (.ireturn, 1) := by decide +kernel
theorem dX11_block_66 : decode cX11_block 66 = .ok (.iconst (-1), 1) := by decide +kernel
theorem dX11_block_27 : decode cX11_block 27 = .ok (.aload_n 0, 1) := by decide +kernel
theorem dX11_block_28 : decode cX11_block 28 = .ok (.getfield 17, 3) := by decide +kernel
theorem dX11_block_31 : decode cX11_block 31 = .ok (.iconst 4, 1) := by decide +kernel
theorem dX11_block_32 : decode cX11_block 32 = .ok (.iaload, 1) := by decide +kernel
theorem dX11_block_33 : decode cX11_block 33 = .ok (.invokestatic 114, 3) := by decide +kernel
theorem dX11_block_36 : decode cX11_block 36 = .ok (.istore_n 3, 1) := by decide +kernel
theorem dX11_block_37 : decode cX11_block 37 = .ok (.aload_n 0, 1) := by decide +kernel
theorem dX11_block_38 : decode cX11_block 38 = .ok (.invokevirtual 120, 3) := by decide +kernel
theorem dX11_block_41 : decode cX11_block 41 = .ok (.pop, 1) := by decide +kernel
theorem dX11_block_42 : decode cX11_block 42 = .ok (.iload_n 2, 1) := by decide +kernel
theorem dX11_block_43 : decode cX11_block 43 = .ok (.iconst 0, 1) := by decide +kernel
theorem dX11_block_44 : decode cX11_block 44 = .ok (.iload_n 3, 1) := by decide +kernel
theorem dX11_block_45 : decode cX11_block 45 = .ok (.iconst 1, 1) := by decide +kernel
theorem dX11_block_46 : decode cX11_block 46 = .ok (.isub, 1) := by decide +kernel
theorem dX11_block_47 : decode cX11_block 47 = .ok (.invokestatic 173, 3) := by decide +kernel
theorem dX11_block_50 : decode cX11_block 50 = .ok (.ifCond .eq 16, 3) := by decide +kernel
theorem dX11_block_53 : decode cX11_block 53 = .ok (.aload_n 0, 1) := by decide +kernel
theorem dX11_block_54 : decode cX11_block 54 = .ok (.getfield 38, 3) := by decide +kernel
theorem dX11_block_57 : decode cX11_block 57 = .ok (.iload_n 3, 1) := by decide +kernel
theorem dX11_block_58 : decode cX11_block 58 = .ok (.iload_n 1, 1) := by decide +kernel
theorem dX11_block_59 : decode cX11_block 59 = .ok (.imul, 1) := by decide +kernel
theorem dX11_block_60 : decode cX11_block 60 = .ok (.iload_n 2, 1) := by decide +kernel
theorem dX11_block_61 : decode cX11_block 61 = .ok (.iadd, 1) := by decide +kernel
theorem dX11_block_62 : decode cX11_block 62 = .ok (.iaload, 1) := by decide +kernel
theorem dX11_block_63 : decode cX11_block 63 = .ok (.goto 4, 3) := by decide +kernel
theorem dX11_block_0 : decode cX11_block 0 = .ok (.aload_n 0, 1) := by decide +kernel
theorem dX11_block_1 : decode cX11_block 1 = .ok (.iconst 0, 1) := by decide +kernel
theorem dX11_block_2 : decode cX11_block 2 = .ok (.putfield 1, 3) := by decide +kernel
theorem dX11_block_5 : decode cX11_block 5 = .ok (.aload_n 0, 1) := by decide +kernel
theorem dX11_block_6 : decode cX11_block 6 = .ok (.iload_n 1, 1) := by decide +kernel
theorem dX11_block_7 : decode cX11_block 7 = .ok (.iconst 0, 1) := by decide +kernel
theorem dX11_block_8 : decode cX11_block 8 = .ok (.aload_n 0, 1) := by decide +kernel
theorem dX11_block_9 : decode cX11_block 9 = .ok (.invokevirtual 239, 3) := by decide +kernel
theorem dX11_block_12 : decode cX11_block 12 = .ok (.iconst 1, 1) := by decide +kernel
theorem dX11_block_13 : decode cX11_block 13 = .ok (.isub, 1) := by decide +kernel
theorem dX11_block_14 : decode cX11_block 14 = .ok (.invokestatic 173, 3) := by decide +kernel
theorem dX11_block_17 : decode cX11_block 17 = .ok (.iconst 1, 1) := by decide +kernel
theorem dX11_block_18 : decode cX11_block 18 = .ok (.iconst 0, 1) := by decide +kernel
theorem dX11_block_19 : decode cX11_block 19 = .ok (.invokevirtual 217, 3) := by decide +kernel
theorem dX11_block_22 : decode cX11_block 22 = .ok (.ifCond .ne 5, 3) := by decide +kernel
theorem dX11_block_25 : decode cX11_block 25 = .ok (.iconst 0, 1) := by decide +kernel
theorem dX11_block_26 : decode cX11_block 26 = .ok (.ireturn, 1) := by decide +kernel
theorem dX11_success_177 : decode cX11_success 177 = .ok (.iload_n 2, 1) := by decide +kernel
theorem dX11_success_178 : decode cX11_success 178 = .ok (.ireturn, 1) := by decide +kernel
theorem dX11_success_169 : decode cX11_success 169 = .ok (.iadd, 1) := by decide +kernel
theorem dX11_success_170 : decode cX11_success 170 = .ok (.istore_n 2, 1) := by decide +kernel
theorem dX11_success_171 : decode cX11_success 171 = .ok (.iinc 3 1, 3) := by decide +kernel
theorem dX11_success_174 : decode cX11_success 174 = .ok (.goto (-144), 3) := by decide +kernel
theorem dX11_success_168 : decode cX11_success 168 = .ok (.iconst 0, 1) := by decide +kernel
theorem dX11_success_156 : decode cX11_success 156 = .ok (.istore 5, 2) := by decide +kernel
theorem dX11_success_158 : decode cX11_success 158 = .ok (.iload_n 2, 1) := by decide +kernel
theorem dX11_success_159 : decode cX11_success 159 = .ok (.iload 5, 2) := by decide +kernel
theorem dX11_success_161 : decode cX11_success 161 = .ok (.ifCond .eq 7, 3) := by decide +kernel
theorem dX11_success_164 : decode cX11_success 164 = .ok (.iconst 1, 1) := by decide +kernel
theorem dX11_success_165 : decode cX11_success 165 = .ok (.goto 4, 3) := by decide +kernel
theorem dX11_success_155 : decode cX11_success 155 = .ok (.iconst 0, 1) := by decide +kernel
theorem dX11_success_136 : decode cX11_success 136 = .ok (.aload_n 0, 1) := by decide +kernel
theorem dX11_success_137 : decode cX11_success 137 = .ok (.iload_n 3, 1) := by decide +kernel
theorem dX11_success_138 : decode cX11_success 138 = .ok (.invokevirtual 346, 3) := by decide +kernel
theorem dX11_success_141 : decode cX11_success 141 = .ok (.iconst 1, 1) := by decide +kernel
theorem dX11_success_142 : decode cX11_success 142 = .ok (.aload_n 0, 1) := by decide +kernel
theorem dX11_success_143 : decode cX11_success 143 = .ok (.iload_n 3, 1) := by decide +kernel
theorem dX11_success_144 : decode cX11_success 144 = .ok (.invokevirtual 85, 3) := by decide +kernel
theorem dX11_success_147 : decode cX11_success 147 = .ok (.isub, 1) := by decide +kernel
theorem dX11_success_148 : decode cX11_success 148 = .ok (.if_icmp .ne 7, 3) := by decide +kernel
theorem dX11_success_151 : decode cX11_success 151 = .ok (.iconst 1, 1) := by decide +kernel
theorem dX11_success_152 : decode cX11_success 152 = .ok (.goto 4, 3) := by decide +kernel
theorem dX11_success_132 : decode cX11_success 132 = .ok (.iconst 0, 1) := by decide +kernel
theorem dX11_success_133 : decode cX11_success 133 = .ok (.goto 23, 3) := by decide +kernel
theorem dX11_success_98 : decode cX11_success 98 = .ok (.iload_n 1, 1) := by decide +kernel
theorem dX11_success_99 : decode cX11_success 99 = .ok (.iconst 2, 1) := by decide +kernel
theorem dX11_success_100 : decode cX11_success 100 = .ok (.if_icmp .ne 36, 3) := by decide +kernel
theorem dX11_success_103 : decode cX11_success 103 = .ok (.iload 4, 2) := by decide +kernel
theorem dX11_success_105 : decode cX11_success 105 = .ok (.iconst (-1), 1) := by decide +kernel
theorem dX11_success_106 : decode cX11_success 106 = .ok (.if_icmp .eq 26, 3) := by decide +kernel
theorem dX11_success_109 : decode cX11_success 109 = .ok (.aload_n 0, 1) := by decide +kernel
theorem dX11_success_110 : decode cX11_success 110 = .ok (.iload_n 3, 1) := by decide +kernel
theorem dX11_success_111 : decode cX11_success 111 = .ok (.invokevirtual 257, 3) := by decide +kernel
theorem dX11_success_114 : decode cX11_success 114 = .ok (.aload_n 0, 1) := by decide +kernel
theorem dX11_success_115 : decode cX11_success 115 = .ok (.getfield 17, 3) := by decide +kernel
theorem dX11_success_118 : decode cX11_success 118 = .ok (.sipush 190, 3) := by decide +kernel
theorem dX11_success_121 : decode cX11_success 121 = .ok (.iload 4, 2) := by decide +kernel
theorem dX11_success_123 : decode cX11_success 123 = .ok (.iadd, 1) := by decide +kernel
theorem dX11_success_124 : decode cX11_success 124 = .ok (.iaload, 1) := by decide +kernel
theorem dX11_success_125 : decode cX11_success 125 = .ok (.if_icmp .ne 7, 3) := by decide +kernel
theorem dX11_success_128 : decode cX11_success 128 = .ok (.iconst 1, 1) := by decide +kernel
theorem dX11_success_129 : decode cX11_success 129 = .ok (.goto 27, 3) := by decide +kernel
theorem dX11_success_94 : decode cX11_success 94 = .ok (.iconst 0, 1) := by decide +kernel
theorem dX11_success_95 : decode cX11_success 95 = .ok (.goto 61, 3) := by decide +kernel
theorem dX11_success_66 : decode cX11_success 66 = .ok (.iload_n 1, 1) := by decide +kernel
theorem dX11_success_67 : decode cX11_success 67 = .ok (.iconst 1, 1) := by decide +kernel
theorem dX11_success_68 : decode cX11_success 68 = .ok (.if_icmp .ne 30, 3) := by decide +kernel
theorem dX11_success_71 : decode cX11_success 71 = .ok (.iload 4, 2) := by decide +kernel
theorem dX11_success_73 : decode cX11_success 73 = .ok (.iconst (-1), 1) := by decide +kernel
theorem dX11_success_74 : decode cX11_success 74 = .ok (.if_icmp .ne 20, 3) := by decide +kernel
theorem dX11_success_77 : decode cX11_success 77 = .ok (.aload_n 0, 1) := by decide +kernel
theorem dX11_success_78 : decode cX11_success 78 = .ok (.iload_n 3, 1) := by decide +kernel
theorem dX11_success_79 : decode cX11_success 79 = .ok (.invokevirtual 257, 3) := by decide +kernel
theorem dX11_success_82 : decode cX11_success 82 = .ok (.aload_n 0, 1) := by decide +kernel
theorem dX11_success_83 : decode cX11_success 83 = .ok (.iload_n 3, 1) := by decide +kernel
theorem dX11_success_84 : decode cX11_success 84 = .ok (.invokevirtual 85, 3) := by decide +kernel
theorem dX11_success_87 : decode cX11_success 87 = .ok (.if_icmp .ne 7, 3) := by decide +kernel
theorem dX11_success_90 : decode cX11_success 90 = .ok (.iconst 1, 1) := by decide +kernel
theorem dX11_success_91 : decode cX11_success 91 = .ok (.goto 65, 3) := by decide +kernel
theorem dX11_success_62 : decode cX11_success 62 = .ok (.iconst 0, 1) := by decide +kernel
theorem dX11_success_63 : decode cX11_success 63 = .ok (.goto 93, 3) := by decide +kernel
theorem dX11_success_30 : decode cX11_success 30 = .ok (.iload_n 3, 1) := by decide +kernel
theorem dX11_success_31 : decode cX11_success 31 = .ok (.aload_n 0, 1) := by decide +kernel
theorem dX11_success_32 : decode cX11_success 32 = .ok (.getfield 103, 3) := by decide +kernel
theorem dX11_success_35 : decode cX11_success 35 = .ok (.if_icmp .ge 142, 3) := by decide +kernel
theorem dX11_success_38 : decode cX11_success 38 = .ok (.aload_n 0, 1) := by decide +kernel
theorem dX11_success_39 : decode cX11_success 39 = .ok (.iload_n 3, 1) := by decide +kernel
theorem dX11_success_40 : decode cX11_success 40 = .ok (.invokevirtual 254, 3) := by decide +kernel
theorem dX11_success_43 : decode cX11_success 43 = .ok (.istore 4, 2) := by decide +kernel
theorem dX11_success_45 : decode cX11_success 45 = .ok (.iload_n 1, 1) := by decide +kernel
theorem dX11_success_46 : decode cX11_success 46 = .ok (.ifCond .ne 20, 3) := by decide +kernel
theorem dX11_success_49 : decode cX11_success 49 = .ok (.aload_n 0, 1) := by decide +kernel
theorem dX11_success_50 : decode cX11_success 50 = .ok (.iload_n 3, 1) := by decide +kernel
theorem dX11_success_51 : decode cX11_success 51 = .ok (.invokevirtual 346, 3) := by decide +kernel
theorem dX11_success_54 : decode cX11_success 54 = .ok (.iconst (-1), 1) := by decide +kernel
theorem dX11_success_55 : decode cX11_success 55 = .ok (.if_icmp .eq 7, 3) := by decide +kernel
theorem dX11_success_58 : decode cX11_success 58 = .ok (.iconst 1, 1) := by decide +kernel
theorem dX11_success_59 : decode cX11_success 59 = .ok (.goto 97, 3) := by decide +kernel
theorem dX11_success_22 : decode cX11_success 22 = .ok (.aload_n 0, 1) := by decide +kernel
theorem dX11_success_23 : decode cX11_success 23 = .ok (.invokevirtual 343, 3) := by decide +kernel
theorem dX11_success_26 : decode cX11_success 26 = .ok (.iconst 0, 1) := by decide +kernel
theorem dX11_success_27 : decode cX11_success 27 = .ok (.istore_n 2, 1) := by decide +kernel
theorem dX11_success_28 : decode cX11_success 28 = .ok (.iconst 0, 1) := by decide +kernel
theorem dX11_success_29 : decode cX11_success 29 = .ok (.istore_n 3, 1) := by decide +kernel
theorem dX11_success_0 : decode cX11_success 0 = .ok (.aload_n 0, 1) := by decide +kernel
theorem dX11_success_1 : decode cX11_success 1 = .ok (.iconst 0, 1) := by decide +kernel
theorem dX11_success_2 : decode cX11_success 2 = .ok (.putfield 1, 3) := by decide +kernel
theorem dX11_success_5 : decode cX11_success 5 = .ok (.aload_n 0, 1) := by decide +kernel
theorem dX11_success_6 : decode cX11_success 6 = .ok (.iload_n 1, 1) := by decide +kernel
theorem dX11_success_7 : decode cX11_success 7 = .ok (.iconst 0, 1) := by decide +kernel
theorem dX11_success_8 : decode cX11_success 8 = .ok (.iconst 3, 1) := by decide +kernel
theorem dX11_success_9 : decode cX11_success 9 = .ok (.invokestatic 173, 3) := by decide +kernel
theorem dX11_success_12 : decode cX11_success 12 = .ok (.iconst 1, 1) := by decide +kernel
theorem dX11_success_13 : decode cX11_success 13 = .ok (.iconst 1, 1) := by decide +kernel
theorem dX11_success_14 : decode cX11_success 14 = .ok (.invokevirtual 217, 3) := by decide +kernel
theorem dX11_success_17 : decode cX11_success 17 = .ok (.ifCond .ne 5, 3) := by decide +kernel
theorem dX11_success_20 : decode cX11_success 20 = .ok (.iconst 0, 1) := by decide +kernel
theorem dX11_success_21 : decode cX11_success 21 = .ok (.ireturn, 1) := by decide +kernel
/-! the reference: success, block, print -/
def ca_X11_print : (zD × Nat) → List zV := fun (S, y) => [vR 20 0 y]
def cp_X11_print : (zD × Nat) → zH → Prop := fun (S, y) h => rmS S h y ∧ vS S
def cq_X11_print : (zD × Nat) → zH → Option zV → zH → Prop := fun (S, y) h r h' => r = some (vL (prn S (dP S))) ∧ fq y h h' ∧ rok y h h'
theorem rc_X11_print : ∀ x : (zD × Nat), ∃ (j a : Nat) (As : List zV), ca_X11_print x = vR (10 + 10) j a :: As := by
  rintro ⟨S, y⟩
  exact ⟨_, _, _, rfl⟩
set_option maxHeartbeats 4000000 in
set_option maxRecDepth 100000 in
theorem m_X11_print : zM yX11_print cX11_print 4 (some .long) ({ frames := 5, cells := 0, slots := 0, locals := 112 } : Room) ((ca_X11_print, cp_X11_print, cq_X11_print) : zC (zD × Nat)) := by
  refine zM_of (by decide) ?_
  rintro X Y ⟨S, y⟩ h ⟨hS, hv⟩ O E hR
  have hS : rmS S h y := hS
  have hv : vS S := hv
  have hS0 := rmS_0 hS
  have hP28 := hS.2.1.2
  have B_49 := zr_lload_n (X := X) (Y := Y) (u := 0) (v := 0) O dX11_print_49 rfl (zr_lreturn O E (Nat.le_refl _) (Nat.le_refl _) dX11_print_50)
  have L_9 : ∀ nn : Nat, zSd X Y 0 0 9 ((fun d ls st h1 => ∃ (k : Nat) (v : Int64) (z : Int32) (y2 : Option zV), d = dP S - k ∧ k ≤ dP S ∧ ls = [some (vR 20 0 y), some (vL v), y2, some (vI z)] ∧ v = prn S k ∧ z = nI k ∧ st = [] ∧ h1 = zsI h y 0 0 : Nat → zT) nn) := by
    refine zSd_loop (fun nn ih => ?_)
    have B_9 := zr_iload_n (X := X) (Y := Y) (u := 0) (v := 0) O dX11_print_9 rfl (zr_aload_n O dX11_print_10 rfl (zr_gI (ci := 10) (j := 11) O zc_10 (by decide) rfl tw_1198 dX11_print_11 (zr_icge (tgt := 49) O dX11_print_14 rfl B_49 (zr_ldc2 (x := (31)) O dX11_print_17 tw_1716 (zr_lload_n O dX11_print_20 rfl (zr_lmul O dX11_print_21 (zr_aload_n O dX11_print_22 rfl (zr_iload_n O dX11_print_23 rfl (zr_cI (zr_cV (ci := 10) (n := 1) O m_X11_bitOf (bn_X11_bitOf _ ⟨rfl, rfl⟩) vw_X11_bitOf tw_1419 rc_X11_bitOf (zrm hR rfl rfl) dX11_print_24 (zr_i2l O dX11_print_27 (zr_ladd O dX11_print_28 (zr_lstore_n O dX11_print_29 rfl (zr_ldc2 (x := (31)) O dX11_print_30 tw_1716 (zr_lload_n O dX11_print_33 rfl (zr_lmul O dX11_print_34 (zr_aload_n O dX11_print_35 rfl (zr_iload_n O dX11_print_36 rfl (zr_cI (zr_cV (ci := 10) (n := 1) O m_X11_marginOf (bn_X11_marginOf _ ⟨rfl, rfl⟩) vw_X11_marginOf tw_1407 rc_X11_marginOf (zrm hR rfl rfl) dX11_print_37 (zr_i2l O dX11_print_40 (zr_ladd O dX11_print_41 (zr_lstore_n O dX11_print_42 rfl (zr_iinc (c := 1) O dX11_print_43 rfl (zr_goto (tgt := 9) O dX11_print_46 rfl ih)))))))))))))))))))))))))
    refine zSd_weak B_9 (fun ls st h1 t => ?_)
    obtain ⟨k, v, z, y2, rfl, hk, rfl, rfl, rfl, rfl, rfl⟩ := t
    refine ⟨fun cq => ⟨?_, (fq_0 y h).1, (fq_0 y h).2⟩, fun cq => ?_⟩
    · rw [hS0.2.1.1] at cq
      have := (nI_leI (by omega) (by omega)).mp cq
      have hk2 : k = dP S := by omega
      rw [hk2]
    · rw [hS0.2.1.1] at cq
      have hk2 : k < dP S := Nat.not_le.mp (fun z => cq ((nI_leI (by omega) (by omega)).mpr z))
      exact ⟨(S, y, k), rfl, ⟨hS0, hk2⟩, (S, y, k), rfl, ⟨hS0, hk2, hv⟩, dP S - (k + 1), by omega, k + 1, _, _, _, rfl, by omega, rfl, rfl, nI_1 k, rfl, rfl⟩
  have B_9 := zSd_any L_9
  have B_0 := zr_aload_n (X := X) (Y := Y) (u := 0) (v := 0) O dX11_print_0 rfl (zr_iconst (x := 0) O dX11_print_1 rfl (zr_pI (ci := 10) (j := 0) O zc_10 (by decide) rfl rfl rfl tw_1187 dX11_print_2 (zr_lconst (x := 0) O dX11_print_5 rfl (zr_lstore_n O dX11_print_6 rfl (zr_iconst (x := 0) O dX11_print_7 rfl (zr_istore_n O dX11_print_8 rfl (B_9)))))))
  refine ⟨rfl, Nat.le_of_ble_eq_true rfl, _, B_0, ?_⟩
  exact ⟨dP S - 0, 0, _, _, _, rfl, Nat.zero_le _, rfl, rfl, rfl, rfl, rfl⟩
def ca_X11_block : (zD × Nat × Int32 × Int32) → List zV := fun (S, y, i, k) => [vR 20 0 y, vI i, vI k]
def cp_X11_block : (zD × Nat × Int32 × Int32) → zH → Prop := fun (S, y, i, k) h => rmS S h y ∧ vS S
def cq_X11_block : (zD × Nat × Int32 × Int32) → zH → Option zV → zH → Prop := fun (S, y, i, k) h r h' => fq y h h' ∧ ((gC i (nbk S) ∧ rok y h h' ∧ r = some (vI (bkv S (cN i) k))) ∨ (¬ gC i (nbk S) ∧ rno y 1 0 h h' ∧ r = some (vI 0)))
theorem rc_X11_block : ∀ x : (zD × Nat × Int32 × Int32), ∃ (j a : Nat) (As : List zV), ca_X11_block x = vR (10 + 10) j a :: As := by
  rintro ⟨S, y, i, k⟩
  exact ⟨_, _, _, rfl⟩
set_option maxHeartbeats 4000000 in
set_option maxRecDepth 100000 in
theorem m_X11_block : zM yX11_block cX11_block 4 (some .int) ({ frames := 9, cells := 0, slots := 0, locals := 198 } : Room) ((ca_X11_block, cp_X11_block, cq_X11_block) : zC (zD × Nat × Int32 × Int32)) := by
  refine zM_of (by decide) ?_
  rintro X Y ⟨S, y, i, k⟩ h ⟨hS, hv⟩ O E hR
  have B_67 := zr_ireturn (X := X) (Y := Y) (u := 0) (v := 0) O E (Nat.le_refl _) (Nat.le_refl _) dX11_block_67
  have B_66 := zr_iconst (X := X) (Y := Y) (u := 0) (v := 0) (x := (-1)) O dX11_block_66 rfl (B_67)
  have B_27 := zr_aload_n (X := X) (Y := Y) (u := 0) (v := 0) O dX11_block_27 rfl (zr_gS (ci := 10) (j := 2) (off := 2) (t := 1) (n := 218) O zc_10 (by decide) rfl tw_1189 dX11_block_28 (zr_iconst (x := 4) O dX11_block_31 rfl (zr_iald O dX11_block_32 (zr_cI (zr_cS (n := 1) O m_X11_wideBy (bn_X11_wideBy _ ⟨rfl, rfl⟩) tw_1439 tw_1438 (zrm hR rfl rfl) dX11_block_33 (zr_istore_n O dX11_block_36 rfl (zr_aload_n O dX11_block_37 rfl (zr_cV (ci := 10) (n := 0) O m_X11_usedNow (bn_X11_usedNow _ ⟨rfl, rfl⟩) vw_X11_usedNow tw_1395 rc_X11_usedNow (zrm hR rfl rfl) dX11_block_38 (zr_pop O dX11_block_41 (zr_iload_n O dX11_block_42 rfl (zr_iconst (x := 0) O dX11_block_43 rfl (zr_iload_n O dX11_block_44 rfl (zr_iconst (x := 1) O dX11_block_45 rfl (zr_isub O dX11_block_46 (zr_cI (zr_cS (n := 3) O m_X11_within (bn_X11_within _ ⟨rfl, rfl⟩) tw_1306 tw_1305 (zrm hR rfl rfl) dX11_block_47 (zr_ifeq (tgt := 66) O dX11_block_50 rfl B_66 (zr_aload_n O dX11_block_53 rfl (zr_gS (ci := 10) (j := 12) (off := 9) (t := 1) (n := 28) O zc_10 (by decide) rfl tw_1199 dX11_block_54 (zr_iload_n O dX11_block_57 rfl (zr_iload_n O dX11_block_58 rfl (zr_imul O dX11_block_59 (zr_iload_n O dX11_block_60 rfl (zr_iadd O dX11_block_61 (zr_iald O dX11_block_62 (zr_goto (tgt := 67) O dX11_block_63 rfl B_67))))))))))))))))))))))))))
  have B_0 := zr_aload_n (X := X) (Y := Y) (u := 0) (v := 0) O dX11_block_0 rfl (zr_iconst (x := 0) O dX11_block_1 rfl (zr_pI (ci := 10) (j := 0) O zc_10 (by decide) rfl rfl rfl tw_1187 dX11_block_2 (zr_aload_n O dX11_block_5 rfl (zr_iload_n O dX11_block_6 rfl (zr_iconst (x := 0) O dX11_block_7 rfl (zr_aload_n O dX11_block_8 rfl (zr_cV (ci := 10) (n := 0) O m_X11_blocks (bn_X11_blocks _ ⟨rfl, rfl⟩) vw_X11_blocks tw_1391 rc_X11_blocks (zrm hR rfl rfl) dX11_block_9 (zr_iconst (x := 1) O dX11_block_12 rfl (zr_isub O dX11_block_13 (zr_cI (zr_cS (n := 3) O m_X11_within (bn_X11_within _ ⟨rfl, rfl⟩) tw_1306 tw_1305 (zrm hR rfl rfl) dX11_block_14 (zr_iconst (x := 1) O dX11_block_17 rfl (zr_iconst (x := 0) O dX11_block_18 rfl (zr_cH (zr_cV (ci := 10) (n := 3) O m_X11_isFine (bn_X11_isFine _ ⟨rfl, rfl⟩) vw_X11_isFine tw_1308 rc_X11_isFine (zrm hR rfl rfl) dX11_block_19 (zr_ifne (tgt := 27) O dX11_block_22 rfl B_27 (zr_iconst (x := 0) O dX11_block_25 rfl (zr_ireturn O E (Nat.le_refl _) (Nat.le_refl _) dX11_block_26))))))))))))))))))
  refine ⟨rfl, Nat.le_of_ble_eq_true rfl, _, B_0, ?_⟩
  have hS : rmS S h y := hS
  have hv : vS S := hv
  have hS0 := rmS_0 hS
  have hP28 := hS.2.1.2
  obtain ⟨nb1, nb2, nb3⟩ := nbk_le hv
  have hct := fb_ct_le (us S) (dP S)
  have hln := lnR_pos hv.2.2.2.2.2.2
  have hr8 := vRp_8 hv.2.2.2.2.2.2
  have eb : decide (0 ≤ i ∧ i ≤ nI (nbk S) - 1) = decide (0 ≤ i ∧ i < nI (nbk S)) := decide_eq_decide.mpr (gC_w (by omega))
  refine ⟨(S, y), rfl, ⟨hS0, hv⟩, fun r h1 hq => ?_⟩
  obtain ⟨rfl, u, e1, hu⟩ := hq
  replace e1 : h1 = zsW (zsI h y 0 0) (y + 9) u := e1
  have f1 : fq y h h1 ∧ rok y h h1 := by rw [e1]; exact fq_fm (fq_0 y h) (fm_W (j := 9) _ _ (by decide))
  have hS1 : rmS S h1 y := by rw [e1]; exact rmS_fr (by omega) (by omega) (by omega) (by omega) hS0
  refine ⟨(i, 0, nI (nbk S) - 1), rfl, trivial, (y, decide (0 ≤ i ∧ i < nI (nbk S)), 1, 0), ?_, ⟨by decide, by decide⟩, fun d => ?_, fun d => ?_⟩
  · show [vR 20 0 y, vI (bI (decide (0 ≤ i ∧ i ≤ nI (nbk S) - 1))), vI 1, vI 0] = _
    rw [eb]; rfl
  · obtain ⟨g, e⟩ := fine_ok f1.2.1 d
    rw [e]
    obtain ⟨p, rfl, hp, ep⟩ := cntx (by omega) g
    have t4 : h1.1 (y + 2) 4 = nI (dR S) := by rw [hS1.2.2.2.2 4 (by decide)]; exact hv.2.2.2.2.2.1
    refine ⟨4, rfl, by decide, dR S, by rw [t4]; rfl, hr8, (S, y), rfl, ⟨hS1, hv⟩, fun r h2 hq => ?_⟩
    obtain ⟨rfl, u2, e2, hu2⟩ := hq
    replace e2 : h2 = zsW h1 (y + 9) u2 := e2
    have f2 : fq y h h2 ∧ rok y h h2 := by rw [e2]; exact fq_fm f1 (fm_W (j := 9) _ _ (by decide))
    have ek : decide (0 ≤ k ∧ k ≤ nI (lnR (dR S)) - 1) = decide (0 ≤ k ∧ k < nI (lnR (dR S))) := decide_eq_decide.mpr (gC_w (by omega))
    refine ⟨(k, 0, nI (lnR (dR S)) - 1), rfl, trivial, fun c => ⟨f2.1, Or.inl ⟨g, f2.2, zri ?_⟩⟩, fun c => ?_⟩
    · have g2 := gno (p := 0 ≤ k ∧ k ≤ nI (lnR (dR S)) - 1) c
      rw [bkv, if_neg (fun z => g2 ((gC_w (by omega)).mpr z))]
    · have g2 : gC k (lnR (dR S)) := (gC_w (by omega)).mp (gok (p := 0 ≤ k ∧ k ≤ nI (lnR (dR S)) - 1) c)
      obtain ⟨q, rfl, hq, eq⟩ := cntx (by omega) g2
      have hpl : p * lnR (dR S) + lnR (dR S) ≤ nbk S * lnR (dR S) := by rw [← Nat.succ_mul]; exact Nat.mul_le_mul_right _ hp
      refine ⟨p * lnR (dR S) + q, ?_, by omega, f2.1, Or.inl ⟨g, f2.2, zri ?_⟩⟩
      · show nI (lnR (dR S)) * nI p + nI q = _
        rw [nI_mul, nI_add, Nat.mul_comm]
      · rw [e2, zsW_s, hu2 _ (by omega), bkv, if_pos (show 0 ≤ nI q ∧ nI q < nI (lnR (dR S)) from g2), ep, eq, kAt, if_pos (by omega)]
  · obtain ⟨g, e⟩ := fine_no f1.2.1 d
    rw [e]
    exact ⟨(fq_rf 1 f1).1, Or.inr ⟨g, (fq_rf 1 f1).2, rfl⟩⟩
def ca_X11_success : (zQ × Nat × Int32) → List zV := fun (Q, y, w) => [vR 20 0 y, vI w]
def cp_X11_success : (zQ × Nat × Int32) → zH → Prop := fun (Q, y, w) h => rmS Q.1 h y ∧ rmL Q.2.2 (h.1 (y + 2)) ∧ ∀ i, i < gN Q.2.2 → gP Q.2.2 i < dP Q.1
def cq_X11_success : (zQ × Nat × Int32) → zH → Option zV → zH → Prop := fun (Q, y, w) h r h' => fq y h h' ∧ ((gR w 0 3 ∧ rok y h h' ∧ r = some (vI (nI (fb_ct (scc Q.1 Q.2.2 (cN w)) (dP Q.1))))) ∨ (¬ gR w 0 3 ∧ rno y 1 1 h h' ∧ r = some (vI 0)))
theorem rc_X11_success : ∀ x : (zQ × Nat × Int32), ∃ (j a : Nat) (As : List zV), ca_X11_success x = vR (10 + 10) j a :: As := by
  rintro ⟨⟨S, K, M⟩, y, w⟩
  exact ⟨_, _, _, rfl⟩
set_option maxHeartbeats 4000000 in
set_option maxRecDepth 100000 in
theorem m_X11_success : zM yX11_success cX11_success 6 (some .int) ({ frames := 3, cells := 0, slots := 0, locals := 66 } : Room) ((ca_X11_success, cp_X11_success, cq_X11_success) : zC (zQ × Nat × Int32)) := by
  refine zM_of (by decide) ?_
  rintro X Y ⟨⟨S, K, M⟩, y, w⟩ h ⟨hS, hL, hG⟩ O E hR
  have hS : rmS S h y := hS
  have hL : rmL M (h.1 (y + 2)) := hL
  have hG : ∀ i, i < gN M → gP M i < dP S := hG
  have hS0 := rmS_0 hS
  have hL0 : rmL M ((zsI h y 0 0).1 (y + 2)) := by rw [m_0 _ _ (by omega)]; exact hL
  have hP28 := hS.2.1.2
  have g28 := hL.1.2
  obtain ⟨B, eB2⟩ : ∃ B : Nat → Nat, B = lod S M (gN M) := ⟨_, rfl⟩
  have B_177 := zr_iload_n (X := X) (Y := Y) (u := 0) (v := 0) O dX11_success_177 rfl (zr_ireturn O E (Nat.le_refl _) (Nat.le_refl _) dX11_success_178)
  have L_30 : ∀ nn : Nat, zSd X Y 0 0 30 ((fun d ls st h1 => ∃ (k q : Nat) (u z : Int32) (y4 y5 : Option zV), d = dP S - k ∧ k ≤ dP S ∧ gR w 0 3 ∧ w = nI q ∧ q ≤ 3 ∧ ls = [some (vR 20 0 y), some (vI w), some (vI u), some (vI z), y4, y5] ∧ u = nI (fb_ct (scc S M q) k) ∧ z = nI k ∧ st = [] ∧ oM B (zsI h y 0 0) y h1 : Nat → zT) nn) := by
    refine zSd_loop (fun nn ih => ?_)
    have B_169 := zr_iadd (X := X) (Y := Y) (u := 0) (v := 0) O dX11_success_169 (zr_istore_n O dX11_success_170 rfl (zr_iinc (c := 1) O dX11_success_171 rfl (zr_goto (tgt := 30) O dX11_success_174 rfl ih)))
    have B_168 := zr_iconst (X := X) (Y := Y) (u := 0) (v := 0) (x := 0) O dX11_success_168 rfl (B_169)
    have B_156 := zr_istore (X := X) (Y := Y) (u := 0) (v := 0) O dX11_success_156 (zr_iload_n O dX11_success_158 rfl (zr_iload O dX11_success_159 (zr_ifeq (tgt := 168) O dX11_success_161 rfl B_168 (zr_iconst (x := 1) O dX11_success_164 rfl (zr_goto (tgt := 169) O dX11_success_165 rfl B_169)))))
    have C_156 : zSd X Y 0 0 156 (fun ls st h1 => ∃ (k q : Nat) (u z y4 : Int32) (y5 : Option zV) (v : Int32), nn = dP S - k ∧ k < dP S ∧ gR w 0 3 ∧ w = nI q ∧ q ≤ 3 ∧ ls = [some (vR 20 0 y), some (vI w), some (vI u), some (vI z), some (vI y4), y5] ∧ u = nI (fb_ct (scc S M q) k) ∧ z = nI k ∧ st = [vI v] ∧ v = bI (scc S M q k) ∧ oM B (zsI h y 0 0) y h1) := by
      refine zSd_weak B_156 (fun ls st h1 t => ?_)
      obtain ⟨k, q, u, z, y4, y5, v, en, hk, g2, ew, hq, rfl, rfl, rfl, rfl, rfl, ho⟩ := t
      refine ⟨fun c => ⟨dP S - (k + 1), by omega, k + 1, q, _, _, _, _, rfl, by omega, g2, ew, hq, rfl, ?_, nI_1 k, rfl, ho⟩, fun c => ⟨dP S - (k + 1), by omega, k + 1, q, _, _, _, _, rfl, by omega, g2, ew, hq, rfl, ?_, nI_1 k, rfl, ho⟩⟩
      · rw [fb_ct_succ, (bI_0 _).mp c]; exact Int32.add_zero _
      · have hb : scc S M q k = true := by
          cases hz : scc S M q k with
          | true => rfl
          | false => exact absurd ((bI_0 _).mpr hz) c
        rw [fb_ct_succ, hb]; exact nI_1 _
    have B_155 := zr_iconst (X := X) (Y := Y) (u := 0) (v := 0) (x := 0) O dX11_success_155 rfl (C_156)
    have B_136 := zr_aload_n (X := X) (Y := Y) (u := 0) (v := 0) O dX11_success_136 rfl (zr_iload_n O dX11_success_137 rfl (zr_cI (zr_cV (ci := 10) (n := 1) O m_X11_follows (bn_X11_follows _ ⟨rfl, rfl⟩) vw_X11_follows tw_1559 rc_X11_follows (zrm hR rfl rfl) dX11_success_138 (zr_iconst (x := 1) O dX11_success_141 rfl (zr_aload_n O dX11_success_142 rfl (zr_iload_n O dX11_success_143 rfl (zr_cI (zr_cV (ci := 10) (n := 1) O m_X11_bitOf (bn_X11_bitOf _ ⟨rfl, rfl⟩) vw_X11_bitOf tw_1419 rc_X11_bitOf (zrm hR rfl rfl) dX11_success_144 (zr_isub O dX11_success_147 (zr_icne (tgt := 155) O dX11_success_148 rfl B_155 (zr_iconst (x := 1) O dX11_success_151 rfl (zr_goto (tgt := 156) O dX11_success_152 rfl C_156))))))))))))
    have B_132 := zr_iconst (X := X) (Y := Y) (u := 0) (v := 0) (x := 0) O dX11_success_132 rfl (zr_goto (tgt := 156) O dX11_success_133 rfl C_156)
    have B_98 := zr_iload_n (X := X) (Y := Y) (u := 0) (v := 0) O dX11_success_98 rfl (zr_iconst (x := 2) O dX11_success_99 rfl (zr_icne (tgt := 136) O dX11_success_100 rfl B_136 (zr_iload O dX11_success_103 (zr_iconst (x := (-1)) O dX11_success_105 rfl (zr_iceq (tgt := 132) O dX11_success_106 rfl B_132 (zr_aload_n O dX11_success_109 rfl (zr_iload_n O dX11_success_110 rfl (zr_cI (zr_cV (ci := 10) (n := 1) O m_X11_guessOf (bn_X11_guessOf _ ⟨rfl, rfl⟩) vw_X11_guessOf tw_1475 rc_X11_guessOf (zrm hR rfl rfl) dX11_success_111 (zr_aload_n O dX11_success_114 rfl (zr_gS (ci := 10) (j := 2) (off := 2) (t := 1) (n := 218) O zc_10 (by decide) rfl tw_1189 dX11_success_115 (zr_sipush (x := (190)) O dX11_success_118 (by decide) (zr_iload O dX11_success_121 (zr_iadd O dX11_success_123 (zr_iald O dX11_success_124 (zr_icne (tgt := 132) O dX11_success_125 rfl B_132 (zr_iconst (x := 1) O dX11_success_128 rfl (zr_goto (tgt := 156) O dX11_success_129 rfl C_156))))))))))))))))))
    have B_94 := zr_iconst (X := X) (Y := Y) (u := 0) (v := 0) (x := 0) O dX11_success_94 rfl (zr_goto (tgt := 156) O dX11_success_95 rfl C_156)
    have B_66 := zr_iload_n (X := X) (Y := Y) (u := 0) (v := 0) O dX11_success_66 rfl (zr_iconst (x := 1) O dX11_success_67 rfl (zr_icne (tgt := 98) O dX11_success_68 rfl B_98 (zr_iload O dX11_success_71 (zr_iconst (x := (-1)) O dX11_success_73 rfl (zr_icne (tgt := 94) O dX11_success_74 rfl B_94 (zr_aload_n O dX11_success_77 rfl (zr_iload_n O dX11_success_78 rfl (zr_cI (zr_cV (ci := 10) (n := 1) O m_X11_guessOf (bn_X11_guessOf _ ⟨rfl, rfl⟩) vw_X11_guessOf tw_1475 rc_X11_guessOf (zrm hR rfl rfl) dX11_success_79 (zr_aload_n O dX11_success_82 rfl (zr_iload_n O dX11_success_83 rfl (zr_cI (zr_cV (ci := 10) (n := 1) O m_X11_bitOf (bn_X11_bitOf _ ⟨rfl, rfl⟩) vw_X11_bitOf tw_1419 rc_X11_bitOf (zrm hR rfl rfl) dX11_success_84 (zr_icne (tgt := 94) O dX11_success_87 rfl B_94 (zr_iconst (x := 1) O dX11_success_90 rfl (zr_goto (tgt := 156) O dX11_success_91 rfl C_156))))))))))))))))
    have B_62 := zr_iconst (X := X) (Y := Y) (u := 0) (v := 0) (x := 0) O dX11_success_62 rfl (zr_goto (tgt := 156) O dX11_success_63 rfl C_156)
    have B_30 := zr_iload_n (X := X) (Y := Y) (u := 0) (v := 0) O dX11_success_30 rfl (zr_aload_n O dX11_success_31 rfl (zr_gI (ci := 10) (j := 11) O zc_10 (by decide) rfl tw_1198 dX11_success_32 (zr_icge (tgt := 177) O dX11_success_35 rfl B_177 (zr_aload_n O dX11_success_38 rfl (zr_iload_n O dX11_success_39 rfl (zr_cI (zr_cV (ci := 10) (n := 1) O m_X11_heardAt (bn_X11_heardAt _ ⟨rfl, rfl⟩) vw_X11_heardAt tw_1463 rc_X11_heardAt (zrm hR rfl rfl) dX11_success_40 (zr_istore O dX11_success_43 (zr_iload_n O dX11_success_45 rfl (zr_ifne (tgt := 66) O dX11_success_46 rfl B_66 (zr_aload_n O dX11_success_49 rfl (zr_iload_n O dX11_success_50 rfl (zr_cI (zr_cV (ci := 10) (n := 1) O m_X11_follows (bn_X11_follows _ ⟨rfl, rfl⟩) vw_X11_follows tw_1559 rc_X11_follows (zrm hR rfl rfl) dX11_success_51 (zr_iconst (x := (-1)) O dX11_success_54 rfl (zr_iceq (tgt := 62) O dX11_success_55 rfl B_62 (zr_iconst (x := 1) O dX11_success_58 rfl (zr_goto (tgt := 156) O dX11_success_59 rfl C_156))))))))))))))))))
    refine zSd_weak B_30 (fun ls st h1 t => ?_)
    obtain ⟨k, q, u, z, y4, y5, rfl, hk, g2, rfl, hq, rfl, rfl, rfl, rfl, ho⟩ := t
    have eq : cN (nI q) = q := nI_clamp (by omega)
    have f1 := oM_f ho
    have hS1 := rmS_fm f1 hS0
    have hL1 : rmL M (h1.1 (y + 2)) := by rw [f1.2.2.2 2 (by omega)]; exact hL0
    refine ⟨fun cq => ?_, fun cq => ?_⟩
    · rw [hS1.2.1.1] at cq
      have := (nI_leI (by omega) (by omega)).mp cq
      have hk2 : k = dP S := by omega
      have f3 := fq_fm (fq_0 y h) f1
      exact ⟨f3.1, Or.inl ⟨g2, f3.2, zri (by rw [eq, hk2])⟩⟩
    · rw [hS1.2.1.1] at cq
      have hk2 : k < dP S := Nat.not_le.mp (fun z => cq ((nI_leI (by omega) (by omega)).mpr z))
      have fin : ∀ (y4 : Int32) (y5 : Option zV) (v : Bool), v = scc S M q k → ∃ (k_1 q_1 : Nat) (u z y4_1 : Int32) (y5_1 : Option zV) (v_1 : Int32), dP S - k = dP S - k_1 ∧ k_1 < dP S ∧ gR (nI q) 0 3 ∧ nI q = nI q_1 ∧ q_1 ≤ 3 ∧ ([some (vR 20 0 y), some (vI (nI q)), some (vI (nI (fb_ct (scc S M q) k))), some (vI (nI k)), some (vI y4), y5] : zL) = [some (vR 20 0 y), some (vI (nI q)), some (vI u), some (vI z), some (vI y4_1), y5_1] ∧ u = nI (fb_ct (scc S M q_1) k_1) ∧ z = nI k_1 ∧ [vI (bI v)] = [vI v_1] ∧ v_1 = bI (scc S M q_1 k_1) ∧ oM B (zsI h y 0 0) y h1 := fun y4 y5 v ev => ⟨k, q, _, _, y4, y5, bI v, rfl, hk2, g2, rfl, hq, rfl, rfl, rfl, rfl, by rw [ev], ho⟩
      have hx : (hxI M k = -1 ↔ gH M k = false) ∧ (gH M k = true → hxI M k = nI (gIx M k) ∧ h1.1 (y + 2) (190 + gIx M k) = ghb M k ∧ gIx M k < 28) := by
        constructor
        · cases hz : gH M k with
          | false => rw [hxI, hz]; exact ⟨fun _ => rfl, fun _ => rfl⟩
          | true =>
            have := (gIx_yes hz).1
            rw [hxI, hz]
            exact ⟨fun c => absurd c (nI_nm1 (by omega)), fun c => by cases c⟩
        · intro hz
          have x1 := (gIx_yes hz).1
          refine ⟨by rw [hxI, hz]; rfl, ?_, by omega⟩
          rw [ghb, if_pos hz]; exact (hL1.2.1 _ x1).2
      refine ⟨(M, y, k), rfl, ⟨hL1, by show k < 28; omega⟩, fun c0 => ⟨fun c1 => ⟨fun c2 => ?_, fun c2 => ?_⟩, fun c1 => ?_⟩, fun c0 => ?_⟩
      · have q0 : ¬ q = 0 := fun z => c0 (by rw [z]; rfl)
        have q1 : ¬ q = 1 := fun z => c1 (by rw [z]; rfl)
        have q2 : ¬ q = 2 := fun z => c2 (by rw [z]; rfl)
        have ev : scc S M q k = (decide (¬ otl B (dF S k) (dS S k) = -1) && decide (¬ otl B (dF S k) (dS S k) = pb S k)) := by rw [scc, if_neg q0, if_neg q1, if_neg q2, ← eB2]
        have key : (otl B (dF S k) (dS S k) = 1 - pb S k) ↔ scc S M q k = true := by
          rw [ev, Bool.and_eq_true, decide_eq_true_iff, decide_eq_true_iff]
          have hp : pb S k = 0 ∨ pb S k = 1 := bby_01 _ _ _ _
          have ho3 : otl B (dF S k) (dS S k) = -1 ∨ otl B (dF S k) (dS S k) = 0 ∨ otl B (dF S k) (dS S k) = 1 := by
            unfold otl
            split
            · exact Or.inl rfl
            · cases (B (dF S k)).testBit (dS S k) with
              | true => exact Or.inr (Or.inr rfl)
              | false => exact Or.inr (Or.inl rfl)
          rcases hp with hp | hp <;> rcases ho3 with z | z | z <;> rw [hp, z] <;> decide
        refine ⟨(S, B, y, k), rfl, ⟨hS1, oM_o ho, hk2⟩, (S, y, k), rfl, ⟨hS1, hk2⟩, fun c => fin _ _ false ?_, fun c => fin _ _ true ?_⟩
        · replace c : ¬ otl B (dF S k) (dS S k) = 1 - pb S k := c
          cases hz : scc S M q k with
          | true => exact absurd (key.mpr hz) c
          | false => rfl
        · replace c : otl B (dF S k) (dS S k) = 1 - pb S k := c
          exact (key.mp c).symm
      · have q2 : q = 2 := (nI_eq (b := 2) (by omega) (by omega)).mp c2
        have ev : scc S M q k = (gH M k && decide (gss S (gW M) k = ghb M k)) := by rw [scc, if_neg (by omega), if_neg (by omega), if_pos q2]
        refine ⟨fun c => fin _ _ false ?_, fun c => ?_⟩
        · have := hx.1.mp c
          rw [ev, this]; rfl
        · have hh : gH M k = true := by
            cases hz : gH M k with
            | true => rfl
            | false => exact absurd (hx.1.mpr hz) c
          obtain ⟨x1, x2, x3⟩ := hx.2 hh
          refine ⟨(S, M, y, k), rfl, ⟨hS1, hL1.2.2, hk2⟩, 190 + gIx M k, by show _ + hxI M k = _; rw [x1]; exact lI 190 _, by omega, fun c3 => fin _ _ false ?_, fun c3 => fin _ _ true ?_⟩
          · replace c3 : ¬ gss S (gW M) k = h1.1 (y + 2) (190 + gIx M k) := c3
            rw [x2] at c3
            rw [ev, decide_eq_false c3, Bool.and_false]
          · replace c3 : gss S (gW M) k = h1.1 (y + 2) (190 + gIx M k) := c3
            rw [x2] at c3
            rw [ev, hh, decide_eq_true c3]; rfl
      · have q1 : q = 1 := (nI_eq (b := 1) (by omega) (by omega)).mp c1
        have ev : scc S M q k = ((!gH M k) && decide (gss S (gW M) k = pb S k)) := by rw [scc, if_neg (by omega), if_pos q1]
        refine ⟨fun c => fin _ _ false ?_, fun c => ?_⟩
        · have hh : gH M k = true := by
            cases hz : gH M k with
            | true => rfl
            | false => exact absurd (hx.1.mpr hz) c
          rw [ev, hh]; rfl
        · have hh := hx.1.mp c
          refine ⟨(S, M, y, k), rfl, ⟨hS1, hL1.2.2, hk2⟩, (S, y, k), rfl, ⟨hS1, hk2⟩, fun c3 => fin _ _ false ?_, fun c3 => fin _ _ true ?_⟩
          · replace c3 : ¬ gss S (gW M) k = pb S k := c3
            rw [ev, decide_eq_false c3, Bool.and_false]
          · replace c3 : gss S (gW M) k = pb S k := c3
            rw [ev, hh, decide_eq_true c3]; rfl
      · have q0 : q = 0 := (nI_eq (b := 0) (by omega) (by omega)).mp c0
        have ev : scc S M q k = decide (¬ otl B (dF S k) (dS S k) = -1) := by rw [scc, if_pos q0, ← eB2]
        refine ⟨(S, B, y, k), rfl, ⟨hS1, oM_o ho, hk2⟩, fun c => fin _ _ false ?_, fun c => fin _ _ true ?_⟩
        · replace c : otl B (dF S k) (dS S k) = -1 := c
          rw [ev, decide_eq_false (fun z => z c)]
        · replace c : ¬ otl B (dF S k) (dS S k) = -1 := c
          rw [ev, decide_eq_true c]
  have B_30 := zSd_any L_30
  have B_22 := zr_aload_n (X := X) (Y := Y) (u := 0) (v := 0) O dX11_success_22 rfl (zr_cV (ci := 10) (n := 0) O m_X11_laysHeard (bn_X11_laysHeard _ ⟨rfl, rfl⟩) vw_X11_laysHeard tw_1539 rc_X11_laysHeard (zrm hR rfl rfl) dX11_success_23 (zr_iconst (x := 0) O dX11_success_26 rfl (zr_istore_n O dX11_success_27 rfl (zr_iconst (x := 0) O dX11_success_28 rfl (zr_istore_n O dX11_success_29 rfl (B_30))))))
  have B_0 := zr_aload_n (X := X) (Y := Y) (u := 0) (v := 0) O dX11_success_0 rfl (zr_iconst (x := 0) O dX11_success_1 rfl (zr_pI (ci := 10) (j := 0) O zc_10 (by decide) rfl rfl rfl tw_1187 dX11_success_2 (zr_aload_n O dX11_success_5 rfl (zr_iload_n O dX11_success_6 rfl (zr_iconst (x := 0) O dX11_success_7 rfl (zr_iconst (x := 3) O dX11_success_8 rfl (zr_cI (zr_cS (n := 3) O m_X11_within (bn_X11_within _ ⟨rfl, rfl⟩) tw_1306 tw_1305 (zrm hR rfl rfl) dX11_success_9 (zr_iconst (x := 1) O dX11_success_12 rfl (zr_iconst (x := 1) O dX11_success_13 rfl (zr_cH (zr_cV (ci := 10) (n := 3) O m_X11_isFine (bn_X11_isFine _ ⟨rfl, rfl⟩) vw_X11_isFine tw_1308 rc_X11_isFine (zrm hR rfl rfl) dX11_success_14 (zr_ifne (tgt := 22) O dX11_success_17 rfl B_22 (zr_iconst (x := 0) O dX11_success_20 rfl (zr_ireturn O E (Nat.le_refl _) (Nat.le_refl _) dX11_success_21)))))))))))))))
  refine ⟨rfl, Nat.le_of_ble_eq_true rfl, _, B_0, ?_⟩
  refine ⟨(w, 0, 3), rfl, trivial, (y, decide (0 ≤ w ∧ w ≤ 3), 1, 1), rfl, ⟨by decide, by decide⟩, fun d => ?_, fun d => ?_⟩
  · obtain ⟨g2, e⟩ := fine_ok (t0 h y) d
    rw [e]
    obtain ⟨q, rfl, hq, eq⟩ := rngx (n := 3) (by decide) g2
    refine ⟨(S, M, y), rfl, ⟨hS0, hL0, hG⟩, fun r h1 hq1 => ?_⟩
    obtain ⟨rfl, o1⟩ := hq1
    replace o1 : oM (mhd S M) (zsI h y 0 0) y h1 := o1
    rw [mhd_lod (hGd hS hG), ← eB2] at o1
    exact ⟨dP S - 0, 0, q, _, _, _, _, rfl, Nat.zero_le _, g2, rfl, hq, rfl, rfl, rfl, rfl, o1⟩
  · obtain ⟨g2, e⟩ := fine_no (t0 h y) d
    rw [e]
    exact ⟨(fq_rf 1 (fq_0 y h)).1, Or.inr ⟨g2, (fq_rf 1 (fq_0 y h)).2, rfl⟩⟩

