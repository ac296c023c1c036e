theorem dX11_wouldFollow_0 : decode cX11_wouldFollow 0 = .ok (.aload_n 0, 1) := by decide +kernel
theorem dX11_wouldFollow_1 : decode cX11_wouldFollow 1 = .ok (.invokevirtual 334, 3) := by decide +kernel
theorem dX11_wouldFollow_4 : decode cX11_wouldFollow 4 = .ok (.aload_n 0, 1) := by decide +kernel
theorem dX11_wouldFollow_5 : decode cX11_wouldFollow 5 = .ok (.invokevirtual 337, 3) := by decide +kernel
theorem dX11_wouldFollow_8 : decode cX11_wouldFollow 8 = .ok (.aload_n 0, 1) := by decide +kernel
theorem dX11_wouldFollow_9 : decode cX11_wouldFollow 9 = .ok (.iload_n 1, 1) := by decide +kernel
theorem dX11_wouldFollow_10 : decode cX11_wouldFollow 10 = .ok (.iload_n 2, 1) := by decide +kernel
theorem dX11_wouldFollow_11 : decode cX11_wouldFollow 11 = .ok (.invokevirtual 332, 3) := by decide +kernel
theorem dX11_wouldFollow_14 : decode cX11_wouldFollow 14 = .ok (.aload_n 0, 1) := by decide +kernel
theorem dX11_wouldFollow_15 : decode cX11_wouldFollow 15 = .ok (.invokevirtual 340, 3) := by decide +kernel
theorem dX11_wouldFollow_18 : decode cX11_wouldFollow 18 = .ok (.aload_n 0, 1) := by decide +kernel
theorem dX11_wouldFollow_19 : decode cX11_wouldFollow 19 = .ok (.invokevirtual 383, 3) := by decide +kernel
theorem dX11_wouldFollow_22 : decode cX11_wouldFollow 22 = .ok (.ireturn, 1) := by decide +kernel
theorem dX11_nextNow_72 : decode cX11_nextNow 72 = .ok (.iload_n 1, 1) := by decide +kernel
theorem dX11_nextNow_73 : decode cX11_nextNow 73 = .ok (.ireturn, 1) := by decide +kernel
theorem dX11_nextNow_66 : decode cX11_nextNow 66 = .ok (.iinc 3 1, 3) := by decide +kernel
theorem dX11_nextNow_69 : decode cX11_nextNow 69 = .ok (.goto (-63), 3) := by decide +kernel
theorem dX11_nextNow_61 : decode cX11_nextNow 61 = .ok (.iload_n 3, 1) := by decide +kernel
theorem dX11_nextNow_62 : decode cX11_nextNow 62 = .ok (.istore_n 1, 1) := by decide +kernel
theorem dX11_nextNow_63 : decode cX11_nextNow 63 = .ok (.iload 4, 2) := by decide +kernel
theorem dX11_nextNow_65 : decode cX11_nextNow 65 = .ok (.istore_n 2, 1) := by decide +kernel
theorem dX11_nextNow_35 : decode cX11_nextNow 35 = .ok (.aload_n 0, 1) := by decide +kernel
theorem dX11_nextNow_36 : decode cX11_nextNow 36 = .ok (.iload_n 3, 1) := by decide +kernel
theorem dX11_nextNow_37 : decode cX11_nextNow 37 = .ok (.iconst 0, 1) := by decide +kernel
theorem dX11_nextNow_38 : decode cX11_nextNow 38 = .ok (.invokevirtual 386, 3) := by decide +kernel
theorem dX11_nextNow_41 : decode cX11_nextNow 41 = .ok (.aload_n 0, 1) := by decide +kernel
theorem dX11_nextNow_42 : decode cX11_nextNow 42 = .ok (.iload_n 3, 1) := by decide +kernel
theorem dX11_nextNow_43 : decode cX11_nextNow 43 = .ok (.iconst 1, 1) := by decide +kernel
theorem dX11_nextNow_44 : decode cX11_nextNow 44 = .ok (.invokevirtual 386, 3) := by decide +kernel
theorem dX11_nextNow_47 : decode cX11_nextNow 47 = .ok (.invokestatic 95, 3) := by decide +kernel
theorem dX11_nextNow_50 : decode cX11_nextNow 50 = .ok (.istore 4, 2) := by decide +kernel
theorem dX11_nextNow_52 : decode cX11_nextNow 52 = .ok (.iload 4, 2) := by decide +kernel
theorem dX11_nextNow_54 : decode cX11_nextNow 54 = .ok (.iload_n 2, 1) := by decide +kernel
theorem dX11_nextNow_55 : decode cX11_nextNow 55 = .ok (.if_icmp .gt 6, 3) := by decide +kernel
theorem dX11_nextNow_58 : decode cX11_nextNow 58 = .ok (.goto 8, 3) := by decide +kernel
theorem dX11_nextNow_6 : decode cX11_nextNow 6 = .ok (.iload_n 3, 1) := by decide +kernel
theorem dX11_nextNow_7 : decode cX11_nextNow 7 = .ok (.aload_n 0, 1) := by decide +kernel
theorem dX11_nextNow_8 : decode cX11_nextNow 8 = .ok (.getfield 103, 3) := by decide +kernel
theorem dX11_nextNow_11 : decode cX11_nextNow 11 = .ok (.if_icmp .ge 61, 3) := by decide +kernel
theorem dX11_nextNow_14 : decode cX11_nextNow 14 = .ok (.aload_n 0, 1) := by decide +kernel
theorem dX11_nextNow_15 : decode cX11_nextNow 15 = .ok (.iload_n 3, 1) := by decide +kernel
theorem dX11_nextNow_16 : decode cX11_nextNow 16 = .ok (.invokevirtual 254, 3) := by decide +kernel
theorem dX11_nextNow_19 : decode cX11_nextNow 19 = .ok (.iconst (-1), 1) := by decide +kernel
theorem dX11_nextNow_20 : decode cX11_nextNow 20 = .ok (.if_icmp .ne 46, 3) := by decide +kernel
theorem dX11_nextNow_23 : decode cX11_nextNow 23 = .ok (.aload_n 0, 1) := by decide +kernel
theorem dX11_nextNow_24 : decode cX11_nextNow 24 = .ok (.iload_n 3, 1) := by decide +kernel
theorem dX11_nextNow_25 : decode cX11_nextNow 25 = .ok (.invokevirtual 285, 3) := by decide +kernel
theorem dX11_nextNow_28 : decode cX11_nextNow 28 = .ok (.iconst (-1), 1) := by decide +kernel
theorem dX11_nextNow_29 : decode cX11_nextNow 29 = .ok (.if_icmp .eq 6, 3) := by decide +kernel
theorem dX11_nextNow_32 : decode cX11_nextNow 32 = .ok (.goto 34, 3) := by decide +kernel
theorem dX11_nextNow_0 : decode cX11_nextNow 0 = .ok (.iconst (-1), 1) := by decide +kernel
theorem dX11_nextNow_1 : decode cX11_nextNow 1 = .ok (.istore_n 1, 1) := by decide +kernel
theorem dX11_nextNow_2 : decode cX11_nextNow 2 = .ok (.iconst (-1), 1) := by decide +kernel
theorem dX11_nextNow_3 : decode cX11_nextNow 3 = .ok (.istore_n 2, 1) := by decide +kernel
theorem dX11_nextNow_4 : decode cX11_nextNow 4 = .ok (.iconst 0, 1) := by decide +kernel
theorem dX11_nextNow_5 : decode cX11_nextNow 5 = .ok (.istore_n 3, 1) := by decide +kernel
theorem dX11_nextPair_0 : decode cX11_nextPair 0 = .ok (.aload_n 0, 1) := by decide +kernel
theorem dX11_nextPair_1 : decode cX11_nextPair 1 = .ok (.iconst 0, 1) := by decide +kernel
theorem dX11_nextPair_2 : decode cX11_nextPair 2 = .ok (.putfield 1, 3) := by decide +kernel
theorem dX11_nextPair_5 : decode cX11_nextPair 5 = .ok (.aload_n 0, 1) := by decide +kernel
theorem dX11_nextPair_6 : decode cX11_nextPair 6 = .ok (.invokevirtual 389, 3) := by decide +kernel
theorem dX11_nextPair_9 : decode cX11_nextPair 9 = .ok (.ireturn, 1) := by decide +kernel
theorem dX11_pair_225 : decode cX11_pair 225 = .ok (.ireturn, 1) := by decide +kernel
theorem dX11_pair_215 : decode cX11_pair 215 = .ok (.aload_n 0, 1) := by decide +kernel
theorem dX11_pair_216 : decode cX11_pair 216 = .ok (.getfield 17, 3) := by decide +kernel
theorem dX11_pair_219 : decode cX11_pair 219 = .ok (.bipush 77, 2) := by decide +kernel
theorem dX11_pair_221 : decode cX11_pair 221 = .ok (.iload 4, 2) := by decide +kernel
theorem dX11_pair_223 : decode cX11_pair 223 = .ok (.iadd, 1) := by decide +kernel
theorem dX11_pair_224 : decode cX11_pair 224 = .ok (.iaload, 1) := by decide +kernel
theorem dX11_pair_205 : decode cX11_pair 205 = .ok (.iload 4, 2) := by decide +kernel
theorem dX11_pair_207 : decode cX11_pair 207 = .ok (.iconst (-1), 1) := by decide +kernel
theorem dX11_pair_208 : decode cX11_pair 208 = .ok (.if_icmp .ne 7, 3) := by decide +kernel
theorem dX11_pair_211 : decode cX11_pair 211 = .ok (.iconst (-1), 1) := by decide +kernel
theorem dX11_pair_212 : decode cX11_pair 212 = .ok (.goto 13, 3) := by decide +kernel
theorem dX11_pair_204 : decode cX11_pair 204 = .ok (.ireturn, 1) := by decide +kernel
theorem dX11_pair_194 : decode cX11_pair 194 = .ok (.aload_n 0, 1) := by decide +kernel
theorem dX11_pair_195 : decode cX11_pair 195 = .ok (.getfield 17, 3) := by decide +kernel
theorem dX11_pair_198 : decode cX11_pair 198 = .ok (.bipush 105, 2) := by decide +kernel
theorem dX11_pair_200 : decode cX11_pair 200 = .ok (.iload 4, 2) := by decide +kernel
theorem dX11_pair_202 : decode cX11_pair 202 = .ok (.iadd, 1) := by decide +kernel
theorem dX11_pair_203 : decode cX11_pair 203 = .ok (.iaload, 1) := by decide +kernel
theorem dX11_pair_184 : decode cX11_pair 184 = .ok (.iload 4, 2) := by decide +kernel
theorem dX11_pair_186 : decode cX11_pair 186 = .ok (.iconst (-1), 1) := by decide +kernel
theorem dX11_pair_187 : decode cX11_pair 187 = .ok (.if_icmp .ne 7, 3) := by decide +kernel
theorem dX11_pair_190 : decode cX11_pair 190 = .ok (.iconst (-1), 1) := by decide +kernel
theorem dX11_pair_191 : decode cX11_pair 191 = .ok (.goto 13, 3) := by decide +kernel
theorem dX11_pair_178 : decode cX11_pair 178 = .ok (.aload_n 0, 1) := by decide +kernel
theorem dX11_pair_179 : decode cX11_pair 179 = .ok (.iload_n 1, 1) := by decide +kernel
theorem dX11_pair_180 : decode cX11_pair 180 = .ok (.invokevirtual 257, 3) := by decide +kernel
theorem dX11_pair_183 : decode cX11_pair 183 = .ok (.ireturn, 1) := by decide +kernel
theorem dX11_pair_172 : decode cX11_pair 172 = .ok (.aload_n 0, 1) := by decide +kernel
theorem dX11_pair_173 : decode cX11_pair 173 = .ok (.iload_n 1, 1) := by decide +kernel
theorem dX11_pair_174 : decode cX11_pair 174 = .ok (.invokevirtual 285, 3) := by decide +kernel
theorem dX11_pair_177 : decode cX11_pair 177 = .ok (.ireturn, 1) := by decide +kernel
theorem dX11_pair_171 : decode cX11_pair 171 = .ok (.ireturn, 1) := by decide +kernel
theorem dX11_pair_161 : decode cX11_pair 161 = .ok (.aload_n 0, 1) := by decide +kernel
theorem dX11_pair_162 : decode cX11_pair 162 = .ok (.getfield 17, 3) := by decide +kernel
theorem dX11_pair_165 : decode cX11_pair 165 = .ok (.sipush 190, 3) := by decide +kernel
theorem dX11_pair_168 : decode cX11_pair 168 = .ok (.iload_n 3, 1) := by decide +kernel
theorem dX11_pair_169 : decode cX11_pair 169 = .ok (.iadd, 1) := by decide +kernel
theorem dX11_pair_170 : decode cX11_pair 170 = .ok (.iaload, 1) := by decide +kernel
theorem dX11_pair_152 : decode cX11_pair 152 = .ok (.iload_n 3, 1) := by decide +kernel
theorem dX11_pair_153 : decode cX11_pair 153 = .ok (.iconst (-1), 1) := by decide +kernel
theorem dX11_pair_154 : decode cX11_pair 154 = .ok (.if_icmp .ne 7, 3) := by decide +kernel
theorem dX11_pair_157 : decode cX11_pair 157 = .ok (.iconst (-1), 1) := by decide +kernel
theorem dX11_pair_158 : decode cX11_pair 158 = .ok (.goto 13, 3) := by decide +kernel
theorem dX11_pair_146 : decode cX11_pair 146 = .ok (.aload_n 0, 1) := by decide +kernel
theorem dX11_pair_147 : decode cX11_pair 147 = .ok (.iload_n 1, 1) := by decide +kernel
theorem dX11_pair_148 : decode cX11_pair 148 = .ok (.invokevirtual 282, 3) := by decide +kernel
theorem dX11_pair_151 : decode cX11_pair 151 = .ok (.ireturn, 1) := by decide +kernel
theorem dX11_pair_145 : decode cX11_pair 145 = .ok (.ireturn, 1) := by decide +kernel
theorem dX11_pair_144 : decode cX11_pair 144 = .ok (.iconst 0, 1) := by decide +kernel
theorem dX11_pair_126 : decode cX11_pair 126 = .ok (.aload_n 0, 1) := by decide +kernel
theorem dX11_pair_127 : decode cX11_pair 127 = .ok (.iload_n 1, 1) := by decide +kernel
theorem dX11_pair_128 : decode cX11_pair 128 = .ok (.aload_n 0, 1) := by decide +kernel
theorem dX11_pair_129 : decode cX11_pair 129 = .ok (.getfield 17, 3) := by decide +kernel
theorem dX11_pair_132 : decode cX11_pair 132 = .ok (.iconst 0, 1) := by decide +kernel
theorem dX11_pair_133 : decode cX11_pair 133 = .ok (.iaload, 1) := by decide +kernel
theorem dX11_pair_134 : decode cX11_pair 134 = .ok (.invokevirtual 106, 3) := by decide +kernel
theorem dX11_pair_137 : decode cX11_pair 137 = .ok (.ifCond .eq 7, 3) := by decide +kernel
theorem dX11_pair_140 : decode cX11_pair 140 = .ok (.iconst 1, 1) := by decide +kernel
theorem dX11_pair_141 : decode cX11_pair 141 = .ok (.goto 4, 3) := by decide +kernel
theorem dX11_pair_120 : decode cX11_pair 120 = .ok (.aload_n 0, 1) := by decide +kernel
theorem dX11_pair_121 : decode cX11_pair 121 = .ok (.iload_n 1, 1) := by decide +kernel
theorem dX11_pair_122 : decode cX11_pair 122 = .ok (.invokevirtual 100, 3) := by decide +kernel
theorem dX11_pair_125 : decode cX11_pair 125 = .ok (.ireturn, 1) := by decide +kernel
theorem dX11_pair_114 : decode cX11_pair 114 = .ok (.aload_n 0, 1) := by decide +kernel
theorem dX11_pair_115 : decode cX11_pair 115 = .ok (.iload_n 1, 1) := by decide +kernel
theorem dX11_pair_116 : decode cX11_pair 116 = .ok (.invokevirtual 85, 3) := by decide +kernel
theorem dX11_pair_119 : decode cX11_pair 119 = .ok (.ireturn, 1) := by decide +kernel
theorem dX11_pair_107 : decode cX11_pair 107 = .ok (.aload_n 0, 1) := by decide +kernel
theorem dX11_pair_108 : decode cX11_pair 108 = .ok (.getfield 29, 3) := by decide +kernel
theorem dX11_pair_111 : decode cX11_pair 111 = .ok (.iload_n 1, 1) := by decide +kernel
theorem dX11_pair_112 : decode cX11_pair 112 = .ok (.iaload, 1) := by decide +kernel
theorem dX11_pair_113 : decode cX11_pair 113 = .ok (.ireturn, 1) := by decide +kernel
theorem dX11_pair_100 : decode cX11_pair 100 = .ok (.aload_n 0, 1) := by decide +kernel
theorem dX11_pair_101 : decode cX11_pair 101 = .ok (.getfield 26, 3) := by decide +kernel
theorem dX11_pair_104 : decode cX11_pair 104 = .ok (.iload_n 1, 1) := by decide +kernel
theorem dX11_pair_105 : decode cX11_pair 105 = .ok (.iaload, 1) := by decide +kernel
theorem dX11_pair_106 : decode cX11_pair 106 = .ok (.ireturn, 1) := by decide +kernel
theorem dX11_pair_31 : decode cX11_pair 31 = .ok (.aload_n 0, 1) := by decide +kernel
theorem dX11_pair_32 : decode cX11_pair 32 = .ok (.iload_n 1, 1) := by decide +kernel
theorem dX11_pair_33 : decode cX11_pair 33 = .ok (.invokevirtual 254, 3) := by decide +kernel
theorem dX11_pair_36 : decode cX11_pair 36 = .ok (.istore_n 3, 1) := by decide +kernel
theorem dX11_pair_37 : decode cX11_pair 37 = .ok (.aload_n 0, 1) := by decide +kernel
theorem dX11_pair_38 : decode cX11_pair 38 = .ok (.iload_n 1, 1) := by decide +kernel
theorem dX11_pair_39 : decode cX11_pair 39 = .ok (.invokevirtual 279, 3) := by decide +kernel
theorem dX11_pair_42 : decode cX11_pair 42 = .ok (.istore 4, 2) := by decide +kernel
theorem dX11_pair_44 : decode cX11_pair 44 = .ok (.iload_n 2, 1) := by decide +kernel
theorem dX11_pair_45 : decode cX11_pair 45 = .ok (.tableswitch 160 0 9 #[55, 62, 69, 75, 81, 101, 107, 127, 133, 139], 55) := by decide +kernel
theorem dX11_pair_29 : decode cX11_pair 29 = .ok (.iconst 0, 1) := by decide +kernel
theorem dX11_pair_30 : decode cX11_pair 30 = .ok (.ireturn, 1) := by decide +kernel
theorem dX11_pair_0 : decode cX11_pair 0 = .ok (.aload_n 0, 1) := by decide +kernel
theorem dX11_pair_1 : decode cX11_pair 1 = .ok (.iconst 0, 1) := by decide +kernel
theorem dX11_pair_2 : decode cX11_pair 2 = .ok (.putfield 1, 3) := by decide +kernel
theorem dX11_pair_5 : decode cX11_pair 5 = .ok (.aload_n 0, 1) := by decide +kernel
theorem dX11_pair_6 : decode cX11_pair 6 = .ok (.iload_n 1, 1) := by decide +kernel
theorem dX11_pair_7 : decode cX11_pair 7 = .ok (.invokevirtual 251, 3) := by decide +kernel
theorem dX11_pair_10 : decode cX11_pair 10 = .ok (.ifCond .eq 19, 3) := by decide +kernel
theorem dX11_pair_13 : decode cX11_pair 13 = .ok (.aload_n 0, 1) := by decide +kernel
theorem dX11_pair_14 : decode cX11_pair 14 = .ok (.iload_n 2, 1) := by decide +kernel
theorem dX11_pair_15 : decode cX11_pair 15 = .ok (.iconst 0, 1) := by decide +kernel
theorem dX11_pair_16 : decode cX11_pair 16 = .ok (.bipush 10, 2) := by decide +kernel
theorem dX11_pair_18 : decode cX11_pair 18 = .ok (.invokestatic 173, 3) := by decide +kernel
theorem dX11_pair_21 : decode cX11_pair 21 = .ok (.iconst 2, 1) := by decide +kernel
theorem dX11_pair_22 : decode cX11_pair 22 = .ok (.iconst 1, 1) := by decide +kernel
theorem dX11_pair_23 : decode cX11_pair 23 = .ok (.invokevirtual 217, 3) := by decide +kernel
theorem dX11_pair_26 : decode cX11_pair 26 = .ok (.ifCond .ne 5, 3) := by decide +kernel
/-! the reference: what would follow, the next pair, the print -/
theorem hGd {S : zD} {M : zG} {h : zH} {y : Nat} (hS : rmS S h y) (hG : ∀ i, i < gN M → gP M i < dP S) : ∀ i, i < gN M → dF S (gP M i) < dN S ∧ dS S (gP M i) < dN S := fun i hi => ⟨(hS.2.2.2.1 _ (hG i hi)).1.2, (hS.2.2.2.1 _ (hG i hi)).2.2⟩
def ca_X11_wouldFollow : (zD × zG × Nat × Nat × Bool) → List zV := fun (S, M, y, p, w) => [vR 20 0 y, vI (nI p), vI (bI w)]
def cp_X11_wouldFollow : (zD × zG × Nat × Nat × Bool) → zH → Prop := fun (S, M, y, p, w) h => rmS S h y ∧ rmL M (h.1 (y + 2)) ∧ (∀ i, i < gN M → gP M i < dP S) ∧ p < dP S
def cq_X11_wouldFollow : (zD × zG × Nat × Nat × Bool) → zH → Option zV → zH → Prop := fun (S, M, y, p, w) h r h' => r = some (vI (nI (flw S (oputP S (lod S M (gN M)) p w)))) ∧ fm y h h'
theorem rc_X11_wouldFollow : ∀ x : (zD × zG × Nat × Nat × Bool), ∃ (j a : Nat) (As : List zV), ca_X11_wouldFollow x = vR (10 + 10) j a :: As := by
  rintro ⟨S, M, y, p, w⟩
  exact ⟨_, _, _, rfl⟩
set_option maxHeartbeats 4000000 in
set_option maxRecDepth 100000 in
theorem m_X11_wouldFollow : zM yX11_wouldFollow cX11_wouldFollow 3 (some .int) ({ frames := 2, cells := 0, slots := 0, locals := 45 } : Room) ((ca_X11_wouldFollow, cp_X11_wouldFollow, cq_X11_wouldFollow) : zC (zD × zG × Nat × Nat × Bool)) := by
  refine zM_of (by decide) ?_
  rintro X Y ⟨S, M, y, p, w⟩ h ⟨hS, hL, hG, hp⟩ O E hR
  have B_0 := zr_aload_n (X := X) (Y := Y) (u := 0) (v := 0) O dX11_wouldFollow_0 rfl (zr_cV (ci := 10) (n := 0) O m_X11_noOrder (bn_X11_noOrder _ ⟨rfl, rfl⟩) vw_X11_noOrder tw_1543 rc_X11_noOrder (zrm hR rfl rfl) dX11_wouldFollow_1 (zr_aload_n O dX11_wouldFollow_4 rfl (zr_cV (ci := 10) (n := 0) O m_X11_putsHeard (bn_X11_putsHeard _ ⟨rfl, rfl⟩) vw_X11_putsHeard tw_1547 rc_X11_putsHeard (zrm hR rfl rfl) dX11_wouldFollow_5 (zr_aload_n O dX11_wouldFollow_8 rfl (zr_iload_n O dX11_wouldFollow_9 rfl (zr_iload_n O dX11_wouldFollow_10 rfl (zr_cV (ci := 10) (n := 2) O m_X11_puts_ (bn_X11_puts_ _ ⟨rfl, rfl⟩) vw_X11_puts_ tw_1551 rc_X11_puts_ (zrm hR rfl rfl) dX11_wouldFollow_11 (zr_aload_n O dX11_wouldFollow_14 rfl (zr_cV (ci := 10) (n := 0) O m_X11_closes (bn_X11_closes _ ⟨rfl, rfl⟩) vw_X11_closes tw_1555 rc_X11_closes (zrm hR rfl rfl) dX11_wouldFollow_15 (zr_aload_n O dX11_wouldFollow_18 rfl (zr_cI (zr_cV (ci := 10) (n := 0) O m_X11_followMany (bn_X11_followMany _ ⟨rfl, rfl⟩) vw_X11_followMany tw_1704 rc_X11_followMany (zrm hR rfl rfl) dX11_wouldFollow_19 (zr_ireturn O E (Nat.le_refl _) (Nat.le_refl _) dX11_wouldFollow_22)))))))))))))
  refine ⟨rfl, Nat.le_of_ble_eq_true rfl, _, B_0, ?_⟩
  have hS : rmS S h y := hS
  have hL : rmL M (h.1 (y + 2)) := hL
  have hG : ∀ i, i < gN M → gP M i < dP S := hG
  have hp : p < dP S := hp
  refine ⟨y, rfl, trivial, fun r h1 hq => ?_⟩
  obtain ⟨rfl, o1⟩ := hq
  have f1 := oM_f o1
  refine ⟨(S, M, fun _ => 0, y), rfl, ⟨rmS_fm f1 hS, by rw [f1.2.2.2 2 (by omega)]; exact hL, oM_o o1, hG⟩, fun r h2 hq => ?_⟩
  obtain ⟨rfl, o2⟩ := hq
  have o3 := oM_t o1 o2
  refine ⟨(S, mhr S M (fun _ => 0) (gN M), y, p, w), rfl, ⟨rmS_fm (oM_f o3) hS, oM_o o3, hp⟩, fun r h3 hq => ?_⟩
  obtain ⟨rfl, o4⟩ := hq
  have o5 := oM_t o3 o4
  refine ⟨(S, mpuP S (mhr S M (fun _ => 0) (gN M)) p w, y), rfl, ⟨rmS_fm (oM_f o5) hS, oM_o o5⟩, fun r h4 hq => ?_⟩
  obtain ⟨rfl, o6⟩ := hq
  have o7 := oM_t o5 o6
  obtain ⟨⟨-, d1⟩, -, d2⟩ := hS.2.2.2.1 p hp
  have em : mcl (dN S) (mpuP S (mhr S M (fun _ => 0) (gN M)) p w) (dN S) = oputP S (lod S M (gN M)) p w := mhd_one (hGd hS hG) d1 d2
  refine ⟨(S, mcl (dN S) (mpuP S (mhr S M (fun _ => 0) (gN M)) p w) (dN S), y), rfl, ⟨rmS_fm (oM_f o7) hS, oM_o o7⟩, zri ?_, oM_f o7⟩
  rw [← em]; rfl
theorem mn2_c {a b : Nat} (ha : a < 2 ^ 31) (hb : b < 2 ^ 31) : mn2 (nI a) (nI b) = mn2 (nI b) (nI a) := by rw [mn2_n ha hb, mn2_n hb ha, Nat.min_comm]
def ca_X11_nextNow : (zD × zG × Nat) → List zV := fun (S, M, y) => [vR 20 0 y]
def cp_X11_nextNow : (zD × zG × Nat) → zH → Prop := fun (S, M, y) h => rmS S h y ∧ rmL M (h.1 (y + 2)) ∧ ∀ i, i < gN M → gP M i < dP S
def cq_X11_nextNow : (zD × zG × Nat) → zH → Option zV → zH → Prop := fun (S, M, y) h r h' => r = some (vI (nx1 S M)) ∧ fm y h h'
theorem rc_X11_nextNow : ∀ x : (zD × zG × Nat), ∃ (j a : Nat) (As : List zV), ca_X11_nextNow x = vR (10 + 10) j a :: As := by
  rintro ⟨S, M, y⟩
  exact ⟨_, _, _, rfl⟩
set_option maxHeartbeats 4000000 in
set_option maxRecDepth 100000 in
theorem m_X11_nextNow : zM yX11_nextNow cX11_nextNow 5 (some .int) ({ frames := 4, cells := 0, slots := 0, locals := 86 } : Room) ((ca_X11_nextNow, cp_X11_nextNow, cq_X11_nextNow) : zC (zD × zG × Nat)) := by
  refine zM_of (by decide) ?_
  rintro X Y ⟨S, M, y⟩ h ⟨hS, hL, hG⟩ O E hR
  have hS : rmS S h y := hS
  have hL : rmL M (h.1 (y + 2)) := hL
  have hG : ∀ i, i < gN M → gP M i < dP S := hG
  have hP28 := hS.2.1.2
  have em := mhd_lod (hGd hS hG)
  obtain ⟨B, eB2⟩ : ∃ B : Nat → Nat, B = lod S M (gN M) := ⟨_, rfl⟩
  have B_72 := zr_iload_n (X := X) (Y := Y) (u := 0) (v := 0) O dX11_nextNow_72 rfl (zr_ireturn O E (Nat.le_refl _) (Nat.le_refl _) dX11_nextNow_73)
  have L_6 : ∀ nn : Nat, zSd X Y 0 0 6 ((fun d ls st h1 => ∃ (k : Nat) (b m z : Int32) (y4 : Option zV), d = dP S - k ∧ k ≤ dP S ∧ ls = [some (vR 20 0 y), some (vI b), some (vI m), some (vI z), y4] ∧ b = (nxt S M B k).1 ∧ m = (nxt S M B k).2 ∧ z = nI k ∧ st = [] ∧ fm y h h1 : Nat → zT) nn) := by
    refine zSd_loop (fun nn ih => ?_)
    have B_66 := zr_iinc (X := X) (Y := Y) (u := 0) (v := 0) (c := 1) O dX11_nextNow_66 rfl (zr_goto (tgt := 6) O dX11_nextNow_69 rfl ih)
    have B_61 := zr_iload_n (X := X) (Y := Y) (u := 0) (v := 0) O dX11_nextNow_61 rfl (zr_istore_n O dX11_nextNow_62 rfl (zr_iload O dX11_nextNow_63 (zr_istore_n O dX11_nextNow_65 rfl (B_66))))
    have B_35 := zr_aload_n (X := X) (Y := Y) (u := 0) (v := 0) O dX11_nextNow_35 rfl (zr_iload_n O dX11_nextNow_36 rfl (zr_iconst (x := 0) O dX11_nextNow_37 rfl (zr_cV (ci := 10) (n := 2) O m_X11_wouldFollow (bn_X11_wouldFollow _ ⟨rfl, rfl⟩) vw_X11_wouldFollow tw_1700 rc_X11_wouldFollow (zrm hR rfl rfl) dX11_nextNow_38 (zr_aload_n O dX11_nextNow_41 rfl (zr_iload_n O dX11_nextNow_42 rfl (zr_iconst (x := 1) O dX11_nextNow_43 rfl (zr_cV (ci := 10) (n := 2) O m_X11_wouldFollow (bn_X11_wouldFollow _ ⟨rfl, rfl⟩) vw_X11_wouldFollow tw_1700 rc_X11_wouldFollow (zrm hR rfl rfl) dX11_nextNow_44 (zr_min O zwm tw_1339 (zrm hR rfl rfl) dX11_nextNow_47 (zr_istore O dX11_nextNow_50 (zr_iload O dX11_nextNow_52 (zr_iload_n O dX11_nextNow_54 rfl (zr_icgt (tgt := 61) O dX11_nextNow_55 rfl B_61 (zr_goto (tgt := 66) O dX11_nextNow_58 rfl B_66)))))))))))))
    have B_6 := zr_iload_n (X := X) (Y := Y) (u := 0) (v := 0) O dX11_nextNow_6 rfl (zr_aload_n O dX11_nextNow_7 rfl (zr_gI (ci := 10) (j := 11) O zc_10 (by decide) rfl tw_1198 dX11_nextNow_8 (zr_icge (tgt := 72) O dX11_nextNow_11 rfl B_72 (zr_aload_n O dX11_nextNow_14 rfl (zr_iload_n O dX11_nextNow_15 rfl (zr_cI (zr_cV (ci := 10) (n := 1) O m_X11_heardAt (bn_X11_heardAt _ ⟨rfl, rfl⟩) vw_X11_heardAt tw_1463 rc_X11_heardAt (zrm hR rfl rfl) dX11_nextNow_16 (zr_iconst (x := (-1)) O dX11_nextNow_19 rfl (zr_icne (tgt := 66) O dX11_nextNow_20 rfl B_66 (zr_aload_n O dX11_nextNow_23 rfl (zr_iload_n O dX11_nextNow_24 rfl (zr_cV (ci := 10) (n := 1) O m_X11_followsNow (bn_X11_followsNow _ ⟨rfl, rfl⟩) vw_X11_followsNow tw_1535 rc_X11_followsNow (zrm hR rfl rfl) dX11_nextNow_25 (zr_iconst (x := (-1)) O dX11_nextNow_28 rfl (zr_iceq (tgt := 35) O dX11_nextNow_29 rfl B_35 (zr_goto (tgt := 66) O dX11_nextNow_32 rfl B_66)))))))))))))))
    refine zSd_weak B_6 (fun ls st h1 t => ?_)
    obtain ⟨k, b, m, z, y4, rfl, hk, rfl, eb, em2, rfl, rfl, f1⟩ := t
    have hS1 := rmS_fm f1 hS
    refine ⟨fun cq => ⟨zri ?_, f1⟩, fun cq => ?_⟩
    · rw [hS1.2.1.1] at cq
      have := (nI_leI (by omega) (by omega)).mp cq
      have hk2 : k = dP S := by omega
      rw [nx1, ← eB2, ← hk2]; exact eb
    · rw [hS1.2.1.1] at cq
      have hk2 : k < dP S := Nat.not_le.mp (fun z => cq ((nI_leI (by omega) (by omega)).mpr z))
      have hL1 : rmL M (h1.1 (y + 2)) := by rw [f1.2.2.2 2 (by omega)]; exact hL
      have same : ∀ (h2 : zH) (y4 : Option zV), fm y h h2 → nxt S M B (k + 1) = nxt S M B k → ∃ d, d < dP S - k ∧ ∃ (k_1 : Nat) (b_1 m_1 z : Int32) (y4_1 : Option zV), d = dP S - k_1 ∧ k_1 ≤ dP S ∧ ([some (vR 20 0 y), some (vI b), some (vI m), some (vI (nI k + 1)), y4] : zL) = [some (vR 20 0 y), some (vI b_1), some (vI m_1), some (vI z), y4_1] ∧ b_1 = (nxt S M B k_1).1 ∧ m_1 = (nxt S M B k_1).2 ∧ z = nI k_1 ∧ ([] : List zV) = [] ∧ fm y h h2 := fun h2 y4 f2 e => ⟨dP S - (k + 1), by omega, k + 1, b, m, _, y4, rfl, by omega, rfl, by rw [e]; exact eb, by rw [e]; exact em2, nI_1 k, rfl, f2⟩
      refine ⟨(M, y, k), rfl, ⟨hL1, by show k < 28; omega⟩, fun c => ?_, fun c => ?_⟩
      · replace c : ¬ hxI M k = -1 := c
        refine same h1 _ f1 ?_
        rw [nxt, if_neg]
        rintro ⟨z, -⟩
        exact c (by rw [hxI, z]; rfl)
      · replace c : hxI M k = -1 := c
        have hh : gH M k = false := by
          cases hz : gH M k with
          | false => rfl
          | true =>
            rw [hxI, hz] at c
            have := (gIx_yes hz).1
            have := hL.1.2
            exact absurd c (nI_nm1 (by omega))
        refine ⟨(S, M, y, k), rfl, ⟨hS1, hL1, hG, hk2⟩, fun r h2 hq => ?_⟩
        obtain ⟨rfl, o2⟩ := hq
        have f2 := fm_t f1 (oM_f o2)
        rw [em, ← eB2]
        refine ⟨fun c2 => ?_, fun c2 => ?_⟩
        · refine ⟨(S, M, y, k, false), rfl, ⟨rmS_fm f2 hS, by rw [f2.2.2.2 2 (by omega)]; exact hL, hG, hk2⟩, fun r h3 hq => ?_⟩
          obtain ⟨rfl, f3⟩ := hq
          replace f3 : fm y h2 h3 := f3
          have f4 := fm_t f2 f3
          refine ⟨(S, M, y, k, true), rfl, ⟨rmS_fm f4 hS, by rw [f4.2.2.2 2 (by omega)]; exact hL, hG, hk2⟩, fun r h4 hq => ?_⟩
          obtain ⟨rfl, f5⟩ := hq
          replace f5 : fm y h3 h4 := f5
          have f6 := fm_t f4 f5
          have l1 : flw S (oput B (dF S k) (dS S k)) ≤ dP S := fb_ct_le _ _
          have l2 : flw S (oput B (dS S k) (dF S k)) ≤ dP S := fb_ct_le _ _
          have es : mn2 (nI (flw S (oputP S (lod S M (gN M)) k false))) (nI (flw S (oputP S (lod S M (gN M)) k true))) = nxs S B k := by
            rw [← eB2, nxs]
            show mn2 (nI (flw S (oput B (dS S k) (dF S k)))) (nI (flw S (oput B (dF S k) (dS S k)))) = _
            exact mn2_c (by omega) (by omega)
          obtain ⟨v, ev⟩ : ∃ v : Int32, v = nxs S B k := ⟨_, rfl⟩
          rw [← ev] at es
          show zi_ist _ _ _ (.inl (mn2 (nI (flw S (oputP S (lod S M (gN M)) k false))) (nI (flw S (oputP S (lod S M (gN M)) k true)))) :: _) _
          rw [es]
          refine ⟨fun c3 => ?_, fun c3 => ?_⟩
          · have e : nxt S M B (k + 1) = (nI k, nxs S B k) := by
              rw [nxt, if_pos ⟨hh, c2, by rw [← em2, ← ev]; exact c3⟩]
            exact ⟨dP S - (k + 1), by omega, k + 1, _, _, _, _, rfl, by omega, rfl, by rw [e], by rw [e]; exact ev, nI_1 k, rfl, f6⟩
          · refine same h4 _ f6 ?_
            rw [nxt, if_neg]
            rintro ⟨-, -, z⟩
            exact c3 (by rw [← em2, ← ev] at z; exact z)
        · refine same h2 _ f2 ?_
          rw [nxt, if_neg]
          rintro ⟨-, z, -⟩
          exact c2 z
  have B_6 := zSd_any L_6
  have B_0 := zr_iconst (X := X) (Y := Y) (u := 0) (v := 0) (x := (-1)) O dX11_nextNow_0 rfl (zr_istore_n O dX11_nextNow_1 rfl (zr_iconst (x := (-1)) O dX11_nextNow_2 rfl (zr_istore_n O dX11_nextNow_3 rfl (zr_iconst (x := 0) O dX11_nextNow_4 rfl (zr_istore_n O dX11_nextNow_5 rfl (B_6))))))
  refine ⟨rfl, Nat.le_of_ble_eq_true rfl, _, B_0, ?_⟩
  exact ⟨dP S - 0, 0, _, _, _, none, rfl, Nat.zero_le _, rfl, rfl, rfl, rfl, rfl, fm_r y h⟩
def ca_X11_nextPair : (zD × zG × Nat) → List zV := fun (S, M, y) => [vR 20 0 y]
def cp_X11_nextPair : (zD × zG × Nat) → zH → Prop := fun (S, M, y) h => rmS S h y ∧ rmL M (h.1 (y + 2)) ∧ ∀ i, i < gN M → gP M i < dP S
def cq_X11_nextPair : (zD × zG × Nat) → zH → Option zV → zH → Prop := fun (S, M, y) h r h' => r = some (vI (nx1 S M)) ∧ fq y h h' ∧ rok y h h'
theorem rc_X11_nextPair : ∀ x : (zD × zG × Nat), ∃ (j a : Nat) (As : List zV), ca_X11_nextPair x = vR (10 + 10) j a :: As := by
  rintro ⟨S, M, y⟩
  exact ⟨_, _, _, rfl⟩
set_option maxHeartbeats 4000000 in
set_option maxRecDepth 100000 in
theorem m_X11_nextPair : zM yX11_nextPair cX11_nextPair 1 (some .int) ({ frames := 5, cells := 0, slots := 0, locals := 110 } : Room) ((ca_X11_nextPair, cp_X11_nextPair, cq_X11_nextPair) : zC (zD × zG × Nat)) := by
  refine zM_of (by decide) ?_
  rintro X Y ⟨S, M, y⟩ h ⟨hS, hL, hG⟩ O E hR
  have B_0 := zr_aload_n (X := X) (Y := Y) (u := 0) (v := 0) O dX11_nextPair_0 rfl (zr_iconst (x := 0) O dX11_nextPair_1 rfl (zr_pI (ci := 10) (j := 0) O zc_10 (by decide) rfl rfl rfl tw_1187 dX11_nextPair_2 (zr_aload_n O dX11_nextPair_5 rfl (zr_cV (ci := 10) (n := 0) O m_X11_nextNow (bn_X11_nextNow _ ⟨rfl, rfl⟩) vw_X11_nextNow tw_1696 rc_X11_nextNow (zrm hR rfl rfl) dX11_nextPair_6 (zr_ireturn O E (Nat.le_refl _) (Nat.le_refl _) dX11_nextPair_9)))))
  refine ⟨rfl, Nat.le_of_ble_eq_true rfl, _, B_0, ?_⟩
  refine ⟨(S, M, y), rfl, ⟨rmS_0 hS, by rw [m_0 _ _ (by omega)]; exact hL, hG⟩, fun r h1 hq => ?_⟩
  obtain ⟨rfl, f1⟩ := hq
  exact ⟨rfl, (fq_fm (fq_0 y h) f1).1, (fq_fm (fq_0 y h) f1).2⟩
def ca_X11_pair : (zQ × Nat × Int32 × Int32) → List zV := fun (Q, y, i, w) => [vR 20 0 y, vI i, vI w]
def cp_X11_pair : (zQ × Nat × Int32 × Int32) → zH → Prop := fun (Q, y, i, w) h => rmS Q.1 h y ∧ rmE Q.2.1 (h.1 (y + 2)) ∧ rmL Q.2.2 (h.1 (y + 2)) ∧ vS Q.1 ∧ ∀ i, i < gN Q.2.2 → gP Q.2.2 i < dP Q.1
def cq_X11_pair : (zQ × Nat × Int32 × Int32) → zH → Option zV → zH → Prop := fun (Q, y, i, w) h r h' => fq y h h' ∧ ((gC i (dP Q.1) ∧ gR w 0 10 ∧ rok y h h' ∧ r = some (vI (prv Q (cN i) (cN w)))) ∨ (¬ gC i (dP Q.1) ∧ rno y 1 0 h h' ∧ r = some (vI 0)) ∨ (gC i (dP Q.1) ∧ ¬ gR w 0 10 ∧ rno y 2 1 h h' ∧ r = some (vI 0)))
theorem rc_X11_pair : ∀ x : (zQ × Nat × Int32 × Int32), ∃ (j a : Nat) (As : List zV), ca_X11_pair x = vR (10 + 10) j a :: As := by
  rintro ⟨⟨S, K, M⟩, y, i, w⟩
  exact ⟨_, _, _, rfl⟩
set_option maxHeartbeats 4000000 in
set_option maxRecDepth 100000 in
theorem m_X11_pair : zM yX11_pair cX11_pair 5 (some .int) ({ frames := 10, cells := 0, slots := 0, locals := 221 } : Room) ((ca_X11_pair, cp_X11_pair, cq_X11_pair) : zC (zQ × Nat × Int32 × Int32)) := by
  refine zM_of (by decide) ?_
  rintro X Y ⟨⟨S, K, M⟩, y, i, w⟩ h ⟨hS, hE, hL, hv, hG⟩ O E hR
  have hS : rmS S h y := hS
  have hE : rmE K (h.1 (y + 2)) := hE
  have hL : rmL M (h.1 (y + 2)) := hL
  have hv : vS S := hv
  have hG : ∀ i, i < gN M → gP M i < dP S := hG
  have hS0 := rmS_0 hS
  have hE0 : rmE K ((zsI h y 0 0).1 (y + 2)) := by rw [m_0 _ _ (by omega)]; exact hE
  have hL0 : rmL M ((zsI h y 0 0).1 (y + 2)) := by rw [m_0 _ _ (by omega)]; exact hL
  have hP28 := hS.2.1.2
  have h28 := hE.2.1.1
  have g28 := hL.1.2
  have B_225 := zr_ireturn (X := X) (Y := Y) (u := 0) (v := 0) O E (Nat.le_refl _) (Nat.le_refl _) dX11_pair_225
  have B_215 := zr_aload_n (X := X) (Y := Y) (u := 0) (v := 0) O dX11_pair_215 rfl (zr_gS (ci := 10) (j := 2) (off := 2) (t := 1) (n := 218) O zc_10 (by decide) rfl tw_1189 dX11_pair_216 (zr_bipush (x := (77)) O dX11_pair_219 (by decide) (zr_iload O dX11_pair_221 (zr_iadd O dX11_pair_223 (zr_iald O dX11_pair_224 (B_225))))))
  have B_205 := zr_iload (X := X) (Y := Y) (u := 0) (v := 0) O dX11_pair_205 (zr_iconst (x := (-1)) O dX11_pair_207 rfl (zr_icne (tgt := 215) O dX11_pair_208 rfl B_215 (zr_iconst (x := (-1)) O dX11_pair_211 rfl (zr_goto (tgt := 225) O dX11_pair_212 rfl B_225))))
  have B_204 := zr_ireturn (X := X) (Y := Y) (u := 0) (v := 0) O E (Nat.le_refl _) (Nat.le_refl _) dX11_pair_204
  have B_194 := zr_aload_n (X := X) (Y := Y) (u := 0) (v := 0) O dX11_pair_194 rfl (zr_gS (ci := 10) (j := 2) (off := 2) (t := 1) (n := 218) O zc_10 (by decide) rfl tw_1189 dX11_pair_195 (zr_bipush (x := (105)) O dX11_pair_198 (by decide) (zr_iload O dX11_pair_200 (zr_iadd O dX11_pair_202 (zr_iald O dX11_pair_203 (B_204))))))
  have B_184 := zr_iload (X := X) (Y := Y) (u := 0) (v := 0) O dX11_pair_184 (zr_iconst (x := (-1)) O dX11_pair_186 rfl (zr_icne (tgt := 194) O dX11_pair_187 rfl B_194 (zr_iconst (x := (-1)) O dX11_pair_190 rfl (zr_goto (tgt := 204) O dX11_pair_191 rfl B_204))))
  have B_178 := zr_aload_n (X := X) (Y := Y) (u := 0) (v := 0) O dX11_pair_178 rfl (zr_iload_n O dX11_pair_179 rfl (zr_cI (zr_cV (ci := 10) (n := 1) O m_X11_guessOf (bn_X11_guessOf _ ⟨rfl, rfl⟩) vw_X11_guessOf tw_1475 rc_X11_guessOf (zrm hR rfl rfl) dX11_pair_180 (zr_ireturn O E (Nat.le_refl _) (Nat.le_refl _) dX11_pair_183))))
  have B_172 := zr_aload_n (X := X) (Y := Y) (u := 0) (v := 0) O dX11_pair_172 rfl (zr_iload_n O dX11_pair_173 rfl (zr_cV (ci := 10) (n := 1) O m_X11_followsNow (bn_X11_followsNow _ ⟨rfl, rfl⟩) vw_X11_followsNow tw_1535 rc_X11_followsNow (zrm hR rfl rfl) dX11_pair_174 (zr_ireturn O E (Nat.le_refl _) (Nat.le_refl _) dX11_pair_177)))
  have B_171 := zr_ireturn (X := X) (Y := Y) (u := 0) (v := 0) O E (Nat.le_refl _) (Nat.le_refl _) dX11_pair_171
  have B_161 := zr_aload_n (X := X) (Y := Y) (u := 0) (v := 0) O dX11_pair_161 rfl (zr_gS (ci := 10) (j := 2) (off := 2) (t := 1) (n := 218) O zc_10 (by decide) rfl tw_1189 dX11_pair_162 (zr_sipush (x := (190)) O dX11_pair_165 (by decide) (zr_iload_n O dX11_pair_168 rfl (zr_iadd O dX11_pair_169 (zr_iald O dX11_pair_170 (B_171))))))
  have B_152 := zr_iload_n (X := X) (Y := Y) (u := 0) (v := 0) O dX11_pair_152 rfl (zr_iconst (x := (-1)) O dX11_pair_153 rfl (zr_icne (tgt := 161) O dX11_pair_154 rfl B_161 (zr_iconst (x := (-1)) O dX11_pair_157 rfl (zr_goto (tgt := 171) O dX11_pair_158 rfl B_171))))
  have B_146 := zr_aload_n (X := X) (Y := Y) (u := 0) (v := 0) O dX11_pair_146 rfl (zr_iload_n O dX11_pair_147 rfl (zr_cV (ci := 10) (n := 1) O m_X11_blockOf (bn_X11_blockOf _ ⟨rfl, rfl⟩) vw_X11_blockOf tw_1531 rc_X11_blockOf (zrm hR rfl rfl) dX11_pair_148 (zr_ireturn O E (Nat.le_refl _) (Nat.le_refl _) dX11_pair_151)))
  have B_145 := zr_ireturn (X := X) (Y := Y) (u := 0) (v := 0) O E (Nat.le_refl _) (Nat.le_refl _) dX11_pair_145
  have B_144 := zr_iconst (X := X) (Y := Y) (u := 0) (v := 0) (x := 0) O dX11_pair_144 rfl (B_145)
  have B_126 := zr_aload_n (X := X) (Y := Y) (u := 0) (v := 0) O dX11_pair_126 rfl (zr_iload_n O dX11_pair_127 rfl (zr_aload_n O dX11_pair_128 rfl (zr_gS (ci := 10) (j := 2) (off := 2) (t := 1) (n := 218) O zc_10 (by decide) rfl tw_1189 dX11_pair_129 (zr_iconst (x := 0) O dX11_pair_132 rfl (zr_iald O dX11_pair_133 (zr_cI (zr_cV (ci := 10) (n := 2) O m_X11_isSteady (bn_X11_isSteady _ ⟨rfl, rfl⟩) vw_X11_isSteady tw_1403 rc_X11_isSteady (zrm hR rfl rfl) dX11_pair_134 (zr_ifeq (tgt := 144) O dX11_pair_137 rfl B_144 (zr_iconst (x := 1) O dX11_pair_140 rfl (zr_goto (tgt := 145) O dX11_pair_141 rfl B_145))))))))))
  have B_120 := zr_aload_n (X := X) (Y := Y) (u := 0) (v := 0) O dX11_pair_120 rfl (zr_iload_n O dX11_pair_121 rfl (zr_cI (zr_cV (ci := 10) (n := 1) O m_X11_marginOf (bn_X11_marginOf _ ⟨rfl, rfl⟩) vw_X11_marginOf tw_1407 rc_X11_marginOf (zrm hR rfl rfl) dX11_pair_122 (zr_ireturn O E (Nat.le_refl _) (Nat.le_refl _) dX11_pair_125))))
  have B_114 := zr_aload_n (X := X) (Y := Y) (u := 0) (v := 0) O dX11_pair_114 rfl (zr_iload_n O dX11_pair_115 rfl (zr_cI (zr_cV (ci := 10) (n := 1) O m_X11_bitOf (bn_X11_bitOf _ ⟨rfl, rfl⟩) vw_X11_bitOf tw_1419 rc_X11_bitOf (zrm hR rfl rfl) dX11_pair_116 (zr_ireturn O E (Nat.le_refl _) (Nat.le_refl _) dX11_pair_119))))
  have B_107 := zr_aload_n (X := X) (Y := Y) (u := 0) (v := 0) O dX11_pair_107 rfl (zr_gS (ci := 10) (j := 6) (off := 6) (t := 1) (n := 28) O zc_10 (by decide) rfl tw_1193 dX11_pair_108 (zr_iload_n O dX11_pair_111 rfl (zr_iald O dX11_pair_112 (zr_ireturn O E (Nat.le_refl _) (Nat.le_refl _) dX11_pair_113))))
  have B_100 := zr_aload_n (X := X) (Y := Y) (u := 0) (v := 0) O dX11_pair_100 rfl (zr_gS (ci := 10) (j := 5) (off := 5) (t := 1) (n := 28) O zc_10 (by decide) rfl tw_1192 dX11_pair_101 (zr_iload_n O dX11_pair_104 rfl (zr_iald O dX11_pair_105 (zr_ireturn O E (Nat.le_refl _) (Nat.le_refl _) dX11_pair_106))))
  have B_31 := zr_aload_n (X := X) (Y := Y) (u := 0) (v := 0) O dX11_pair_31 rfl (zr_iload_n O dX11_pair_32 rfl (zr_cI (zr_cV (ci := 10) (n := 1) O m_X11_heardAt (bn_X11_heardAt _ ⟨rfl, rfl⟩) vw_X11_heardAt tw_1463 rc_X11_heardAt (zrm hR rfl rfl) dX11_pair_33 (zr_istore_n O dX11_pair_36 rfl (zr_aload_n O dX11_pair_37 rfl (zr_iload_n O dX11_pair_38 rfl (zr_cI (zr_cV (ci := 10) (n := 1) O m_X11_keptAt (bn_X11_keptAt _ ⟨rfl, rfl⟩) vw_X11_keptAt tw_1527 rc_X11_keptAt (zrm hR rfl rfl) dX11_pair_39 (zr_istore O dX11_pair_42 (zr_iload_n O dX11_pair_44 rfl (zr_switch2 (tgt := 205) (ks := [_, _, _, _, _, _, _, _, _, _]) O dX11_pair_45 rfl rfl B_205 ⟨⟨_, 100, rfl, rfl, B_100⟩, ⟨_, 107, rfl, rfl, B_107⟩, ⟨_, 114, rfl, rfl, B_114⟩, ⟨_, 120, rfl, rfl, B_120⟩, ⟨_, 126, rfl, rfl, B_126⟩, ⟨_, 146, rfl, rfl, B_146⟩, ⟨_, 152, rfl, rfl, B_152⟩, ⟨_, 172, rfl, rfl, B_172⟩, ⟨_, 178, rfl, rfl, B_178⟩, ⟨_, 184, rfl, rfl, B_184⟩, trivial⟩)))))))))))
  have B_29 := zr_iconst (X := X) (Y := Y) (u := 0) (v := 0) (x := 0) O dX11_pair_29 rfl (zr_ireturn O E (Nat.le_refl _) (Nat.le_refl _) dX11_pair_30)
  have B_0 := zr_aload_n (X := X) (Y := Y) (u := 0) (v := 0) O dX11_pair_0 rfl (zr_iconst (x := 0) O dX11_pair_1 rfl (zr_pI (ci := 10) (j := 0) O zc_10 (by decide) rfl rfl rfl tw_1187 dX11_pair_2 (zr_aload_n O dX11_pair_5 rfl (zr_iload_n O dX11_pair_6 rfl (zr_cH (zr_cV (ci := 10) (n := 1) O m_X11_isPair (bn_X11_isPair _ ⟨rfl, rfl⟩) vw_X11_isPair tw_1459 rc_X11_isPair (zrm hR rfl rfl) dX11_pair_7 (zr_ifeq (tgt := 29) O dX11_pair_10 rfl B_29 (zr_aload_n O dX11_pair_13 rfl (zr_iload_n O dX11_pair_14 rfl (zr_iconst (x := 0) O dX11_pair_15 rfl (zr_bipush (x := (10)) O dX11_pair_16 (by decide) (zr_cI (zr_cS (n := 3) O m_X11_within (bn_X11_within _ ⟨rfl, rfl⟩) tw_1306 tw_1305 (zrm hR rfl rfl) dX11_pair_18 (zr_iconst (x := 2) O dX11_pair_21 rfl (zr_iconst (x := 1) O dX11_pair_22 rfl (zr_cH (zr_cV (ci := 10) (n := 3) O m_X11_isFine (bn_X11_isFine _ ⟨rfl, rfl⟩) vw_X11_isFine tw_1308 rc_X11_isFine (zrm hR rfl rfl) dX11_pair_23 (zr_ifne (tgt := 31) O dX11_pair_26 rfl B_31 (B_29)))))))))))))))))))
  refine ⟨rfl, Nat.le_of_ble_eq_true rfl, _, B_0, ?_⟩
  refine ⟨(S, y, i), rfl, ⟨hS0, t0 h y⟩, fun d => ?_, fun d => ?_⟩
  · obtain ⟨g, e⟩ := pair_no d
    rw [e]
    exact ⟨(fq_rf 1 (fq_0 y h)).1, Or.inr (Or.inl ⟨g, (fq_rf 1 (fq_0 y h)).2, rfl⟩)⟩
  · obtain ⟨g1, e⟩ := pair_ok d
    rw [e]
    refine ⟨(w, 0, 10), rfl, trivial, (y, decide (0 ≤ w ∧ w ≤ 10), 2, 1), rfl, ⟨by decide, by decide⟩, fun d => ?_, fun d => ?_⟩
    · obtain ⟨g2, e⟩ := fine_ok (t0 h y) d
      rw [e]
      obtain ⟨p, rfl, hp, ep⟩ := cntx (by omega) g1
      obtain ⟨q, rfl, hq, eq⟩ := rngx (n := 10) (by decide) g2
      have ewt : (nI q).toInt = q := nI_toInt (by omega)
      have hp28 : p < 28 := by omega
      obtain ⟨⟨f1, f2⟩, s1, s2⟩ := hS0.2.2.2.1 p hp
      have fin : ∀ (v : Int32) (h2 : zH), v = prv (S, K, M) p q → fm y (zsI h y 0 0) h2 → fq y h h2 ∧ ((gC (nI p) (dP S) ∧ gR (nI q) 0 10 ∧ rok y h h2 ∧ some (vI v) = some (vI (prv (S, K, M) (cN (nI p)) (cN (nI q))))) ∨ (¬ gC (nI p) (dP S) ∧ rno y 1 0 h h2 ∧ some (vI v) = some (vI 0)) ∨ (gC (nI p) (dP S) ∧ ¬ gR (nI q) 0 10 ∧ rno y 2 1 h h2 ∧ some (vI v) = some (vI 0))) := fun v h2 e f => ⟨(fq_fm (fq_0 y h) f).1, Or.inl ⟨g1, g2, (fq_fm (fq_0 y h) f).2, by rw [ep, eq, e]⟩⟩
      have f0 := fm_r y (zsI h y 0 0)
      have t00 : (zsI h y 0 0).1 (y + 2) 0 = dT S 0 := hS0.2.2.2.2 0 (by decide)
      refine ⟨(M, y, p), rfl, ⟨hL0, hp28⟩, (K, y, p), rfl, ⟨hE0, hp28⟩, ?_⟩
      show zi_sw _ _ _ [some (vR 20 0 y), some (vI (nI p)), some (vI (nI q)), some (vI (hxI M p)), some (vI (plI K p))] (.inl (nI q) :: _) _
      refine zsw_of ⟨fun e => ?_, fun e => ?_, fun e => ?_, fun e => ?_, fun e => ?_, fun e => ?_, fun e => ?_, fun e => ?_, fun e => ?_, fun e => ?_, trivial⟩ (fun e => ?_)
      · have e : q = 0 := by omega
        refine ⟨p, rfl, hp28, fin _ _ ?_ f0⟩
        rw [prv, if_pos e]; exact f1
      · have e : q = 1 := by omega
        refine ⟨p, rfl, hp28, fin _ _ ?_ f0⟩
        rw [prv, if_neg (by omega), if_pos e]; exact s1
      · have e : q = 2 := by omega
        refine ⟨(S, y, p), rfl, ⟨hS0, hp⟩, fin _ _ ?_ f0⟩
        rw [prv, if_neg (by omega), if_neg (by omega), if_pos e]; rfl
      · have e : q = 3 := by omega
        refine ⟨(S, y, p), rfl, ⟨hS0, hp, hv⟩, fin _ _ ?_ f0⟩
        rw [prv, if_neg (by omega), if_neg (by omega), if_neg (by omega), if_pos e]; rfl
      · have e : q = 4 := by omega
        have ev : prv (S, K, M) p q = bI (decide (dT S 0 < mrg S p)) := by rw [prv, if_neg (by omega), if_neg (by omega), if_neg (by omega), if_neg (by omega), if_pos e]; rfl
        refine ⟨0, rfl, by decide, (S, y, p, dT S 0), by rw [t00]; rfl, ⟨hS0, hp, hv⟩, fun c => fin _ _ ?_ f0, fun c => fin _ _ ?_ f0⟩
        · rw [ev, decide_eq_false (gno (p := dT S 0 < mrg S p) c)]; rfl
        · rw [ev, decide_eq_true (gok (p := dT S 0 < mrg S p) c)]; rfl
      · have e : q = 5 := by omega
        refine ⟨(S, y, p), rfl, ⟨hS0, hv, hp⟩, fun r h2 hq => ?_⟩
        obtain ⟨rfl, u, e2⟩ := hq
        replace e2 : h2 = zsW (zsI h y 0 0) (y + 9) u := e2
        refine fin _ _ ?_ (by rw [e2]; exact fm_W (j := 9) _ _ (by decide))
        rw [prv, if_neg (by omega), if_neg (by omega), if_neg (by omega), if_neg (by omega), if_neg (by omega), if_pos e]
      · have e : q = 6 := by omega
        have ev : prv (S, K, M) p q = ghb M p := by rw [prv, if_neg (by omega), if_neg (by omega), if_neg (by omega), if_neg (by omega), if_neg (by omega), if_neg (by omega), if_pos e]
        refine ⟨fun c => ?_, fun c => fin _ _ ?_ f0⟩
        · have hh : gH M p = true := by
            cases hz : gH M p with
            | true => rfl
            | false => rw [hxI, hz] at c; exact absurd rfl c
          have hx : hxI M p = nI (gIx M p) := by rw [hxI, hh]; rfl
          obtain ⟨x1, x2⟩ := gIx_yes hh
          refine ⟨190 + gIx M p, by rw [hx]; exact lI 190 _, by omega, fin _ _ ?_ f0⟩
          rw [ev, ghb, if_pos hh]; exact (hL0.2.1 _ x1).2
        · have hh : gH M p = false := by
            cases hz : gH M p with
            | false => rfl
            | true =>
              rw [hxI, hz] at c
              have := (gIx_yes hz).1
              exact absurd c (nI_nm1 (by omega))
          rw [ev, ghb, hh]; rfl
      · have e : q = 7 := by omega
        refine ⟨(S, M, y, p), rfl, ⟨hS0, hL0, hG, hp⟩, fun r h2 hq => ?_⟩
        obtain ⟨rfl, o2⟩ := hq
        refine fin _ _ ?_ (oM_f o2)
        rw [prv, if_neg (by omega), if_neg (by omega), if_neg (by omega), if_neg (by omega), if_neg (by omega), if_neg (by omega), if_neg (by omega), if_pos e]
        show otl (mhd S M) (dF S p) (dS S p) = _
        rw [mhd_lod (hGd hS hG)]
      · have e : q = 8 := by omega
        refine ⟨(S, M, y, p), rfl, ⟨hS0, hL0.2.2, hp⟩, fin _ _ ?_ f0⟩
        rw [prv, if_neg (by omega), if_neg (by omega), if_neg (by omega), if_neg (by omega), if_neg (by omega), if_neg (by omega), if_neg (by omega), if_neg (by omega), if_pos e]; rfl
      · have e : q = 9 := by omega
        have ev : prv (S, K, M) p q = kpb K (eH K) p := by rw [prv, if_neg (by omega), if_neg (by omega), if_neg (by omega), if_neg (by omega), if_neg (by omega), if_neg (by omega), if_neg (by omega), if_neg (by omega), if_neg (by omega), if_pos e]
        refine ⟨fun c => ?_, fun c => fin _ _ ?_ f0⟩
        · have hh : plc K p < eN K := Decidable.byContradiction (fun z => c (by rw [plI, if_neg z]))
          have hx : plI K p = nI (plc K p) := by rw [plI, if_pos hh]
          refine ⟨105 + plc K p, by rw [hx]; exact lI 105 _, by omega, fin _ _ ?_ f0⟩
          rw [ev, kpb, if_pos hh]; exact ((hE0.2.2 (by omega)).2 _ hh).2.2.1
        · have hh : ¬ plc K p < eN K := fun z => by rw [plI, if_pos z] at c; exact nI_nm1 (by omega) c
          rw [ev, kpb, if_neg hh]
      · have e : (nI q).toInt < 0 ∨ (0 : Int) + 10 ≤ (nI q).toInt := e
        have e : q = 10 := by omega
        have ev : prv (S, K, M) p q = kpb K (eB K) p := by rw [prv, if_neg (by omega), if_neg (by omega), if_neg (by omega), if_neg (by omega), if_neg (by omega), if_neg (by omega), if_neg (by omega), if_neg (by omega), if_neg (by omega), if_neg (by omega)]
        refine ⟨fun c => ?_, fun c => fin _ _ ?_ f0⟩
        · have hh : plc K p < eN K := Decidable.byContradiction (fun z => c (by rw [plI, if_neg z]))
          have hx : plI K p = nI (plc K p) := by rw [plI, if_pos hh]
          refine ⟨77 + plc K p, by rw [hx]; exact lI 77 _, by omega, fin _ _ ?_ f0⟩
          rw [ev, kpb, if_pos hh]; exact ((hE0.2.2 (by omega)).2 _ hh).2.1
        · have hh : ¬ plc K p < eN K := fun z => by rw [plI, if_pos z] at c; exact nI_nm1 (by omega) c
          rw [ev, kpb, if_neg hh]
    · obtain ⟨g2, e⟩ := fine_no (t0 h y) d
      rw [e]
      exact ⟨(fq_rf 2 (fq_0 y h)).1, Or.inr (Or.inr ⟨g1, g2, (fq_rf 2 (fq_0 y h)).2, rfl⟩)⟩

