theorem dX7_copyFrom_0 : decode cX7_copyFrom 0 = .ok (.aload_n 0, 1) := by decide +kernel
theorem dX7_copyFrom_1 : decode cX7_copyFrom 1 = .ok (.getfield 10, 3) := by decide +kernel
theorem dX7_copyFrom_4 : decode cX7_copyFrom 4 = .ok (.aload_n 1, 1) := by decide +kernel
theorem dX7_copyFrom_5 : decode cX7_copyFrom 5 = .ok (.getfield 10, 3) := by decide +kernel
theorem dX7_copyFrom_8 : decode cX7_copyFrom 8 = .ok (.invokevirtual 30, 3) := by decide +kernel
theorem dX7_copyFrom_11 : decode cX7_copyFrom 11 = .ok (.aload_n 0, 1) := by decide +kernel
theorem dX7_copyFrom_12 : decode cX7_copyFrom 12 = .ok (.getfield 19, 3) := by decide +kernel
theorem dX7_copyFrom_15 : decode cX7_copyFrom 15 = .ok (.aload_n 1, 1) := by decide +kernel
theorem dX7_copyFrom_16 : decode cX7_copyFrom 16 = .ok (.getfield 19, 3) := by decide +kernel
theorem dX7_copyFrom_19 : decode cX7_copyFrom 19 = .ok (.invokevirtual 34, 3) := by decide +kernel
theorem dX7_copyFrom_22 : decode cX7_copyFrom 22 = .ok (.aload_n 0, 1) := by decide +kernel
theorem dX7_copyFrom_23 : decode cX7_copyFrom 23 = .ok (.getfield 26, 3) := by decide +kernel
theorem dX7_copyFrom_26 : decode cX7_copyFrom 26 = .ok (.aload_n 1, 1) := by decide +kernel
theorem dX7_copyFrom_27 : decode cX7_copyFrom 27 = .ok (.getfield 26, 3) := by decide +kernel
theorem dX7_copyFrom_30 : decode cX7_copyFrom 30 = .ok (.invokevirtual 37, 3) := by decide +kernel
theorem dX7_copyFrom_33 : decode cX7_copyFrom 33 = .ok (.return_, 1) := by decide +kernel
theorem dX1_keep_139 : decode cX1_keep 139 = .ok (.aload_n 0, 1) := by decide +kernel
theorem dX1_keep_140 : decode cX1_keep 140 = .ok (.aload_n 0, 1) := by decide +kernel
theorem dX1_keep_141 : decode cX1_keep 141 = .ok (.getfield 31, 3) := by decide +kernel
theorem dX1_keep_144 : decode cX1_keep 144 = .ok (.aload_n 0, 1) := by decide +kernel
theorem dX1_keep_145 : decode cX1_keep 145 = .ok (.getfield 28, 3) := by decide +kernel
theorem dX1_keep_148 : decode cX1_keep 148 = .ok (.aload_n 0, 1) := by decide +kernel
theorem dX1_keep_149 : decode cX1_keep 149 = .ok (.getfield 19, 3) := by decide +kernel
theorem dX1_keep_152 : decode cX1_keep 152 = .ok (.aload_n 0, 1) := by decide +kernel
theorem dX1_keep_153 : decode cX1_keep 153 = .ok (.getfield 40, 3) := by decide +kernel
theorem dX1_keep_156 : decode cX1_keep 156 = .ok (.invokestatic 74, 3) := by decide +kernel
theorem dX1_keep_159 : decode cX1_keep 159 = .ok (.ixor, 1) := by decide +kernel
theorem dX1_keep_160 : decode cX1_keep 160 = .ok (.putfield 37, 3) := by decide +kernel
theorem dX1_keep_163 : decode cX1_keep 163 = .ok (.aload_n 0, 1) := by decide +kernel
theorem dX1_keep_164 : decode cX1_keep 164 = .ok (.aload_n 0, 1) := by decide +kernel
theorem dX1_keep_165 : decode cX1_keep 165 = .ok (.getfield 37, 3) := by decide +kernel
theorem dX1_keep_168 : decode cX1_keep 168 = .ok (.putfield 34, 3) := by decide +kernel
theorem dX1_keep_171 : decode cX1_keep 171 = .ok (.return_, 1) := by decide +kernel
theorem dX1_keep_133 : decode cX1_keep 133 = .ok (.iinc 6 1, 3) := by decide +kernel
theorem dX1_keep_136 : decode cX1_keep 136 = .ok (.goto (-72), 3) := by decide +kernel
theorem dX1_keep_64 : decode cX1_keep 64 = .ok (.iload 6, 2) := by decide +kernel
theorem dX1_keep_66 : decode cX1_keep 66 = .ok (.aload_n 1, 1) := by decide +kernel
theorem dX1_keep_67 : decode cX1_keep 67 = .ok (.getfield 65, 3) := by decide +kernel
theorem dX1_keep_70 : decode cX1_keep 70 = .ok (.if_icmp .ge 69, 3) := by decide +kernel
theorem dX1_keep_73 : decode cX1_keep 73 = .ok (.aload_n 0, 1) := by decide +kernel
theorem dX1_keep_74 : decode cX1_keep 74 = .ok (.getfield 15, 3) := by decide +kernel
theorem dX1_keep_77 : decode cX1_keep 77 = .ok (.iload 5, 2) := by decide +kernel
theorem dX1_keep_79 : decode cX1_keep 79 = .ok (.if_icmp .ge 60, 3) := by decide +kernel
theorem dX1_keep_82 : decode cX1_keep 82 = .ok (.iload_n 2, 1) := by decide +kernel
theorem dX1_keep_83 : decode cX1_keep 83 = .ok (.iload 6, 2) := by decide +kernel
theorem dX1_keep_85 : decode cX1_keep 85 = .ok (.invokestatic 67, 3) := by decide +kernel
theorem dX1_keep_88 : decode cX1_keep 88 = .ok (.iconst 1, 1) := by decide +kernel
theorem dX1_keep_89 : decode cX1_keep 89 = .ok (.if_icmp .ne 44, 3) := by decide +kernel
theorem dX1_keep_92 : decode cX1_keep 92 = .ok (.aload_n 0, 1) := by decide +kernel
theorem dX1_keep_93 : decode cX1_keep 93 = .ok (.getfield 9, 3) := by decide +kernel
theorem dX1_keep_96 : decode cX1_keep 96 = .ok (.aload_n 0, 1) := by decide +kernel
theorem dX1_keep_97 : decode cX1_keep 97 = .ok (.getfield 15, 3) := by decide +kernel
theorem dX1_keep_100 : decode cX1_keep 100 = .ok (.iload 6, 2) := by decide +kernel
theorem dX1_keep_102 : decode cX1_keep 102 = .ok (.iastore, 1) := by decide +kernel
theorem dX1_keep_103 : decode cX1_keep 103 = .ok (.aload_n 0, 1) := by decide +kernel
theorem dX1_keep_104 : decode cX1_keep 104 = .ok (.dup, 1) := by decide +kernel
theorem dX1_keep_105 : decode cX1_keep 105 = .ok (.getfield 31, 3) := by decide +kernel
theorem dX1_keep_108 : decode cX1_keep 108 = .ok (.aload_n 1, 1) := by decide +kernel
theorem dX1_keep_109 : decode cX1_keep 109 = .ok (.iload 6, 2) := by decide +kernel
theorem dX1_keep_111 : decode cX1_keep 111 = .ok (.invokevirtual 71, 3) := by decide +kernel
theorem dX1_keep_114 : decode cX1_keep 114 = .ok (.aload_n 0, 1) := by decide +kernel
theorem dX1_keep_115 : decode cX1_keep 115 = .ok (.getfield 15, 3) := by decide +kernel
theorem dX1_keep_118 : decode cX1_keep 118 = .ok (.ishl, 1) := by decide +kernel
theorem dX1_keep_119 : decode cX1_keep 119 = .ok (.ior, 1) := by decide +kernel
theorem dX1_keep_120 : decode cX1_keep 120 = .ok (.putfield 31, 3) := by decide +kernel
theorem dX1_keep_123 : decode cX1_keep 123 = .ok (.aload_n 0, 1) := by decide +kernel
theorem dX1_keep_124 : decode cX1_keep 124 = .ok (.dup, 1) := by decide +kernel
theorem dX1_keep_125 : decode cX1_keep 125 = .ok (.getfield 15, 3) := by decide +kernel
theorem dX1_keep_128 : decode cX1_keep 128 = .ok (.iconst 1, 1) := by decide +kernel
theorem dX1_keep_129 : decode cX1_keep 129 = .ok (.iadd, 1) := by decide +kernel
theorem dX1_keep_130 : decode cX1_keep 130 = .ok (.putfield 15, 3) := by decide +kernel
theorem dX1_keep_0 : decode cX1_keep 0 = .ok (.aload_n 0, 1) := by decide +kernel
theorem dX1_keep_1 : decode cX1_keep 1 = .ok (.aload_n 1, 1) := by decide +kernel
theorem dX1_keep_2 : decode cX1_keep 2 = .ok (.getfield 46, 3) := by decide +kernel
theorem dX1_keep_5 : decode cX1_keep 5 = .ok (.iconst 4, 1) := by decide +kernel
theorem dX1_keep_6 : decode cX1_keep 6 = .ok (.iaload, 1) := by decide +kernel
theorem dX1_keep_7 : decode cX1_keep 7 = .ok (.putfield 28, 3) := by decide +kernel
theorem dX1_keep_10 : decode cX1_keep 10 = .ok (.aload_n 0, 1) := by decide +kernel
theorem dX1_keep_11 : decode cX1_keep 11 = .ok (.iload_n 3, 1) := by decide +kernel
theorem dX1_keep_12 : decode cX1_keep 12 = .ok (.putfield 19, 3) := by decide +kernel
theorem dX1_keep_15 : decode cX1_keep 15 = .ok (.aload_n 0, 1) := by decide +kernel
theorem dX1_keep_16 : decode cX1_keep 16 = .ok (.iload 4, 2) := by decide +kernel
theorem dX1_keep_18 : decode cX1_keep 18 = .ok (.putfield 40, 3) := by decide +kernel
theorem dX1_keep_21 : decode cX1_keep 21 = .ok (.aload_n 0, 1) := by decide +kernel
theorem dX1_keep_22 : decode cX1_keep 22 = .ok (.iconst 0, 1) := by decide +kernel
theorem dX1_keep_23 : decode cX1_keep 23 = .ok (.aload_n 0, 1) := by decide +kernel
theorem dX1_keep_24 : decode cX1_keep 24 = .ok (.getfield 40, 3) := by decide +kernel
theorem dX1_keep_27 : decode cX1_keep 27 = .ok (.aload_n 0, 1) := by decide +kernel
theorem dX1_keep_28 : decode cX1_keep 28 = .ok (.invokevirtual 51, 3) := by decide +kernel
theorem dX1_keep_31 : decode cX1_keep 31 = .ok (.invokestatic 55, 3) := by decide +kernel
theorem dX1_keep_34 : decode cX1_keep 34 = .ok (.putfield 43, 3) := by decide +kernel
theorem dX1_keep_37 : decode cX1_keep 37 = .ok (.aload_n 0, 1) := by decide +kernel
theorem dX1_keep_38 : decode cX1_keep 38 = .ok (.getfield 19, 3) := by decide +kernel
theorem dX1_keep_41 : decode cX1_keep 41 = .ok (.aload_n 0, 1) := by decide +kernel
theorem dX1_keep_42 : decode cX1_keep 42 = .ok (.getfield 28, 3) := by decide +kernel
theorem dX1_keep_45 : decode cX1_keep 45 = .ok (.invokestatic 61, 3) := by decide +kernel
theorem dX1_keep_48 : decode cX1_keep 48 = .ok (.imul, 1) := by decide +kernel
theorem dX1_keep_49 : decode cX1_keep 49 = .ok (.istore 5, 2) := by decide +kernel
theorem dX1_keep_51 : decode cX1_keep 51 = .ok (.aload_n 0, 1) := by decide +kernel
theorem dX1_keep_52 : decode cX1_keep 52 = .ok (.iconst 0, 1) := by decide +kernel
theorem dX1_keep_53 : decode cX1_keep 53 = .ok (.putfield 15, 3) := by decide +kernel
theorem dX1_keep_56 : decode cX1_keep 56 = .ok (.aload_n 0, 1) := by decide +kernel
theorem dX1_keep_57 : decode cX1_keep 57 = .ok (.iconst 0, 1) := by decide +kernel
theorem dX1_keep_58 : decode cX1_keep 58 = .ok (.putfield 31, 3) := by decide +kernel
theorem dX1_keep_61 : decode cX1_keep 61 = .ok (.iconst 0, 1) := by decide +kernel
theorem dX1_keep_62 : decode cX1_keep 62 = .ok (.istore 6, 2) := by decide +kernel
theorem dX5_noisySpeed_24 : decode cX5_noisySpeed 24 = .ok (.aload_n 0, 1) := by decide +kernel
theorem dX5_noisySpeed_25 : decode cX5_noisySpeed 25 = .ok (.bipush 75, 2) := by decide +kernel
theorem dX5_noisySpeed_27 : decode cX5_noisySpeed 27 = .ok (.aload_n 0, 1) := by decide +kernel
theorem dX5_noisySpeed_28 : decode cX5_noisySpeed 28 = .ok (.getfield 97, 3) := by decide +kernel
theorem dX5_noisySpeed_31 : decode cX5_noisySpeed 31 = .ok (.imul, 1) := by decide +kernel
theorem dX5_noisySpeed_32 : decode cX5_noisySpeed 32 = .ok (.bipush 74, 2) := by decide +kernel
theorem dX5_noisySpeed_34 : decode cX5_noisySpeed 34 = .ok (.iadd, 1) := by decide +kernel
theorem dX5_noisySpeed_35 : decode cX5_noisySpeed 35 = .ok (.ldc 100, 2) := by decide +kernel
theorem dX5_noisySpeed_37 : decode cX5_noisySpeed 37 = .ok (.irem, 1) := by decide +kernel
theorem dX5_noisySpeed_38 : decode cX5_noisySpeed 38 = .ok (.putfield 97, 3) := by decide +kernel
theorem dX5_noisySpeed_41 : decode cX5_noisySpeed 41 = .ok (.iload 4, 2) := by decide +kernel
theorem dX5_noisySpeed_43 : decode cX5_noisySpeed 43 = .ok (.aload_n 0, 1) := by decide +kernel
theorem dX5_noisySpeed_44 : decode cX5_noisySpeed 44 = .ok (.getfield 97, 3) := by decide +kernel
theorem dX5_noisySpeed_47 : decode cX5_noisySpeed 47 = .ok (.iconst 2, 1) := by decide +kernel
theorem dX5_noisySpeed_48 : decode cX5_noisySpeed 48 = .ok (.iload 5, 2) := by decide +kernel
theorem dX5_noisySpeed_50 : decode cX5_noisySpeed 50 = .ok (.imul, 1) := by decide +kernel
theorem dX5_noisySpeed_51 : decode cX5_noisySpeed 51 = .ok (.iconst 1, 1) := by decide +kernel
theorem dX5_noisySpeed_52 : decode cX5_noisySpeed 52 = .ok (.iadd, 1) := by decide +kernel
theorem dX5_noisySpeed_53 : decode cX5_noisySpeed 53 = .ok (.irem, 1) := by decide +kernel
theorem dX5_noisySpeed_54 : decode cX5_noisySpeed 54 = .ok (.iadd, 1) := by decide +kernel
theorem dX5_noisySpeed_55 : decode cX5_noisySpeed 55 = .ok (.iload 5, 2) := by decide +kernel
theorem dX5_noisySpeed_57 : decode cX5_noisySpeed 57 = .ok (.isub, 1) := by decide +kernel
theorem dX5_noisySpeed_58 : decode cX5_noisySpeed 58 = .ok (.ireturn, 1) := by decide +kernel
theorem dX5_noisySpeed_0 : decode cX5_noisySpeed 0 = .ok (.aload_n 1, 1) := by decide +kernel
theorem dX5_noisySpeed_1 : decode cX5_noisySpeed 1 = .ok (.iload_n 2, 1) := by decide +kernel
theorem dX5_noisySpeed_2 : decode cX5_noisySpeed 2 = .ok (.iload_n 3, 1) := by decide +kernel
theorem dX5_noisySpeed_3 : decode cX5_noisySpeed 3 = .ok (.invokevirtual 90, 3) := by decide +kernel
theorem dX5_noisySpeed_6 : decode cX5_noisySpeed 6 = .ok (.istore 4, 2) := by decide +kernel
theorem dX5_noisySpeed_8 : decode cX5_noisySpeed 8 = .ok (.aload_n 1, 1) := by decide +kernel
theorem dX5_noisySpeed_9 : decode cX5_noisySpeed 9 = .ok (.getfield 94, 3) := by decide +kernel
theorem dX5_noisySpeed_12 : decode cX5_noisySpeed 12 = .ok (.iload_n 2, 1) := by decide +kernel
theorem dX5_noisySpeed_13 : decode cX5_noisySpeed 13 = .ok (.iaload, 1) := by decide +kernel
theorem dX5_noisySpeed_14 : decode cX5_noisySpeed 14 = .ok (.istore 5, 2) := by decide +kernel
theorem dX5_noisySpeed_16 : decode cX5_noisySpeed 16 = .ok (.iload 5, 2) := by decide +kernel
theorem dX5_noisySpeed_18 : decode cX5_noisySpeed 18 = .ok (.ifCond .gt 6, 3) := by decide +kernel
theorem dX5_noisySpeed_21 : decode cX5_noisySpeed 21 = .ok (.iload 4, 2) := by decide +kernel
theorem dX5_noisySpeed_23 : decode cX5_noisySpeed 23 = .ok (.ireturn, 1) := by decide +kernel
/-! all that undo takes back -/
abbrev zQ : Type := zD × zE × zG
def rpQ (Q : zQ) (h : zH) (s : Nat) : Prop := rpS Q.1 h (s + 1) ∧ rpE Q.2.1 h (s + 8) ∧ rpL Q.2.2 h (s + 10)
theorem rpQ_sm {Q : zQ} {h h' : zH} {s b n : Nat} (z : sm b n h h') (hd : s + 13 ≤ b ∨ b + n ≤ s + 1) (hQ : rpQ Q h s) : rpQ Q h' s := ⟨rpS_sm z (by omega) hQ.1, rpE_sm z (by omega) hQ.2.1, rpL_sm z (by omega) hQ.2.2⟩
def ca_X7_copyFrom : (zQ × Nat × Nat) → List zV := fun (Q, s, q) => [vR 16 0 s, vR 16 0 q]
def cp_X7_copyFrom : (zQ × Nat × Nat) → zH → Prop := fun (Q, s, q) h => rpQ Q h q ∧ (s + 13 ≤ q ∨ q + 13 ≤ s)
def cq_X7_copyFrom : (zQ × Nat × Nat) → zH → Option zV → zH → Prop := fun (Q, s, q) h r h' => r = none ∧ sm (s + 1) 12 h h' ∧ rpQ Q h' s
theorem rc_X7_copyFrom : ∀ x : (zQ × Nat × Nat), ∃ (j a : Nat) (As : List zV), ca_X7_copyFrom x = vR (10 + 6) j a :: As := by
  rintro ⟨Q, s, q⟩
  exact ⟨_, _, _, rfl⟩
set_option maxHeartbeats 4000000 in
set_option maxRecDepth 100000 in
theorem m_X7_copyFrom : zM yX7_copyFrom cX7_copyFrom 2 none ({ frames := 2, cells := 0, slots := 0, locals := 81 } : Room) ((ca_X7_copyFrom, cp_X7_copyFrom, cq_X7_copyFrom) : zC (zQ × Nat × Nat)) := by
  refine zM_of (by decide) ?_
  rintro X Y ⟨Q, s, q⟩ h ⟨hQ, hd⟩ O E hR
  have B_0 := zr_aload_n (X := X) (Y := Y) (u := 0) (v := 0) O dX7_copyFrom_0 rfl (zr_gS (ci := 6) (j := 0) (off := 1) (t := 15) (n := 0) O zc_6 (by decide) rfl tw_170 dX7_copyFrom_1 (zr_aload_n O dX7_copyFrom_4 rfl (zr_gS (ci := 6) (j := 0) (off := 1) (t := 15) (n := 0) O zc_6 (by decide) rfl tw_170 dX7_copyFrom_5 (zr_cV (ci := 5) (n := 1) O m_X6_copyFrom (bn_X6_copyFrom _ ⟨rfl, rfl⟩) vw_X6_copyFrom tw_694 rc_X6_copyFrom (zrm hR rfl rfl) dX7_copyFrom_8 (zr_aload_n O dX7_copyFrom_11 rfl (zr_gS (ci := 6) (j := 1) (off := 8) (t := 10) (n := 0) O zc_6 (by decide) rfl tw_173 dX7_copyFrom_12 (zr_aload_n O dX7_copyFrom_15 rfl (zr_gS (ci := 6) (j := 1) (off := 8) (t := 10) (n := 0) O zc_6 (by decide) rfl tw_173 dX7_copyFrom_16 (zr_cV (ci := 0) (n := 1) O m_X1_copyFrom (bn_X1_copyFrom _ ⟨rfl, rfl⟩) vw_X1_copyFrom tw_695 rc_X1_copyFrom (zrm hR rfl rfl) dX7_copyFrom_19 (zr_aload_n O dX7_copyFrom_22 rfl (zr_gS (ci := 6) (j := 2) (off := 10) (t := 12) (n := 0) O zc_6 (by decide) rfl tw_176 dX7_copyFrom_23 (zr_aload_n O dX7_copyFrom_26 rfl (zr_gS (ci := 6) (j := 2) (off := 10) (t := 12) (n := 0) O zc_6 (by decide) rfl tw_176 dX7_copyFrom_27 (zr_cV (ci := 2) (n := 1) O m_X3_copyFrom (bn_X3_copyFrom _ ⟨rfl, rfl⟩) vw_X3_copyFrom tw_700 rc_X3_copyFrom (zrm hR rfl rfl) dX7_copyFrom_30 (zr_return O E (Nat.le_refl _) (Nat.le_refl _) dX7_copyFrom_33)))))))))))))))
  refine ⟨rfl, Nat.le_of_ble_eq_true rfl, _, B_0, ?_⟩
  have hQ : rpQ Q h q := hQ
  refine ⟨(Q.1, s + 1, q + 1), rfl, ⟨hQ.1, by omega⟩, fun r1 h1 hq1 => ?_⟩
  obtain ⟨rfl, z1, w1⟩ := hq1
  replace z1 : sm (s + 1) 7 h h1 := z1
  refine ⟨(Q.2.1, s + 8, q + 8), rfl, ⟨rpE_sm z1 (by omega) hQ.2.1, by omega⟩, fun r2 h2 hq2 => ?_⟩
  obtain ⟨rfl, z2, w2⟩ := hq2
  replace z2 : sm (s + 8) 2 h1 h2 := z2
  refine ⟨(Q.2.2, s + 10, q + 10), rfl, ⟨rpL_sm z2 (by omega) (rpL_sm z1 (by omega) hQ.2.2), by omega⟩, fun r3 h3 hq3 => ?_⟩
  obtain ⟨rfl, z3, w3⟩ := hq3
  replace z3 : sm (s + 10) 3 h2 h3 := z3
  exact ⟨rfl, sm_tr (sm_tr (sm_mo z1 (by omega) (by omega)) (sm_mo z2 (by omega) (by omega))) (sm_mo z3 (by omega) (by omega)), rpS_sm z3 (by omega) (rpS_sm z2 (by omega) w1), rpE_sm z3 (by omega) w2, w3⟩
/-- what enrolling keeps -/
def enP (S : zD) (k : Nat) : Nat := sel (us S) k (dP S)
def enB (S : zD) (k : Nat) : Bool := decide (pb S (enP S k) = 1)
def enr (S : zD) (s : Nat) : zE := (nbk S * lnR (dR S), enP S, dR S, nbk S, mk (enB S) (nbk S * lnR (dR S)), mk (enB S) (nbk S * lnR (dR S)) ^^^ wsN (dR S) s (nbk S), mk (enB S) (nbk S * lnR (dR S)) ^^^ wsN (dR S) s (nbk S), s, ckW 0 s (nbk S * btR (dR S)))
theorem enP_lt {S : zD} (hv : vS S) {k : Nat} (hk : k < nbk S * lnR (dR S)) : enP S k < dP S ∧ us S (enP S k) = true := by
  have := (nbk_le hv).2.2
  have := sel_spec (f := us S) (k := k) (dP S) (by omega)
  exact ⟨this.1, this.2.1⟩
theorem vE_enr {S : zD} (hv : vS S) (hP : dP S ≤ 28) {s : Nat} (hs : s < 2 ^ (nbk S * btR (dR S))) : vE (enr S s) := by
  obtain ⟨n1, n2, n3⟩ := nbk_le hv
  have n4 := fb_ct_le (us S) (dP S)
  refine ⟨by show nbk S * lnR (dR S) ≤ 28; omega, fun _ => ⟨fun i hi => ?_, hv.2.2.2.2.2.2, rfl, n2, ⟨mk_lt _ _, ?_, ?_⟩, hs, ckW_lt (by decide) _ _⟩⟩
  · have := (enP_lt hv (k := i) hi).1
    show enP S i < 28
    omega
  · exact Nat.xor_lt_two_pow (mk_lt _ _) (wsN_lt hv.2.2.2.2.2.2 _)
  · exact Nat.xor_lt_two_pow (mk_lt _ _) (wsN_lt hv.2.2.2.2.2.2 _)
theorem pb_b (S : zD) (p : Nat) : pb S p = bI (decide (pb S p = 1)) := by
  rcases bby_01 (dB S (dF S p)) (dB S (dS S p)) (dF S p) (dS S p) with z | z
  · have z : pb S p = 0 := z
    rw [z]; rfl
  · have z : pb S p = 1 := z
    rw [z]; rfl
theorem bI_shl {b : Bool} {i : Nat} (hi : i < 31) : bI b <<< (nI i &&& 31) = nI (if b then 2 ^ i else 0) := by
  cases b with
  | true => exact nI_pow hi
  | false =>
    show nI 0 <<< (nI i &&& 31) = nI 0
    rw [shlI (by omega) (by omega), Nat.zero_mul]
theorem zsW_c (h : zH) {a b : Nat} (f g : Nat → Int32) (hab : a ≠ b) : zsW (zsW h b g) a f = zsW (zsW h a f) b g := by
  refine Prod.ext ?_ rfl
  funext q
  by_cases hq : q = a
  · rw [hq, zsW_s, zsW_n _ _ hab, zsW_s]
  · rw [zsW_n _ _ hq]
    by_cases hq2 : q = b
    · rw [hq2, zsW_s, zsW_s]
    · rw [zsW_n _ _ hq2, zsW_n _ _ hq2, zsW_n _ _ hq]
def ca_X1_keep : (zD × Nat × Nat × Nat) → List zV := fun (S, e, a, s) => [vR 10 0 e, vR 15 0 a, vI (nI (usd S)), vI (nI (nbk S)), vI (nI s)]
def cp_X1_keep : (zD × Nat × Nat × Nat) → zH → Prop := fun (S, e, a, s) h => rpS S h a ∧ vS S ∧ 0 < nbk S ∧ s < 2 ^ (nbk S * btR (dR S)) ∧ (e + 2 ≤ a ∨ a + 7 ≤ e)
def cq_X1_keep : (zD × Nat × Nat × Nat) → zH → Option zV → zH → Prop := fun (S, e, a, s) h r h' => r = none ∧ sm e 2 h h' ∧ rpE (enr S s) h' e
theorem rc_X1_keep : ∀ x : (zD × Nat × Nat × Nat), ∃ (j a : Nat) (As : List zV), ca_X1_keep x = vR (10 + 0) j a :: As := by
  rintro ⟨S, e, a, s⟩
  exact ⟨_, _, _, rfl⟩
set_option maxHeartbeats 4000000 in
set_option maxRecDepth 100000 in
theorem m_X1_keep : zM yX1_keep cX1_keep 7 none ({ frames := 3, cells := 0, slots := 0, locals := 69 } : Room) ((ca_X1_keep, cp_X1_keep, cq_X1_keep) : zC (zD × Nat × Nat × Nat)) := by
  refine zM_of (by decide) ?_
  rintro X Y ⟨S, e, a, s⟩ h ⟨hS, hv, hn0, hs, hd⟩ O E hR
  have hS : rpS S h a := hS
  obtain ⟨n1, n2, n3⟩ := nbk_le hv
  have hr : vRp (dR S) := hv.2.2.2.2.2.2
  obtain ⟨q1, q2, q3, q4⟩ := lnR_pos hr
  have n4 := fb_ct_le (us S) (dP S)
  have hP := hS.2.1.2
  have hs16 : s < 2 ^ 16 := Nat.lt_of_lt_of_le hs (Nat.pow_le_pow_right (by omega) n2)
  have B_139 := zr_aload_n (X := X) (Y := Y) (u := 0) (v := 0) O dX1_keep_139 rfl (zr_aload_n O dX1_keep_140 rfl (zr_gI (ci := 0) (j := 4) O zc_0 (by decide) rfl tw_114 dX1_keep_141 (zr_aload_n O dX1_keep_144 rfl (zr_gI (ci := 0) (j := 2) O zc_0 (by decide) rfl tw_108 dX1_keep_145 (zr_aload_n O dX1_keep_148 rfl (zr_gI (ci := 0) (j := 3) O zc_0 (by decide) rfl tw_110 dX1_keep_149 (zr_aload_n O dX1_keep_152 rfl (zr_gI (ci := 0) (j := 7) O zc_0 (by decide) rfl tw_121 dX1_keep_153 (zr_cI (zr_cS (n := 3) O m_X0_wordsOf (bn_X0_wordsOf _ ⟨rfl, rfl⟩) tw_819 tw_818 (zrm hR rfl rfl) dX1_keep_156 (zr_ixor O dX1_keep_159 (zr_pI (ci := 0) (j := 6) O zc_0 (by decide) rfl rfl rfl tw_120 dX1_keep_160 (zr_aload_n O dX1_keep_163 rfl (zr_aload_n O dX1_keep_164 rfl (zr_gI (ci := 0) (j := 6) O zc_0 (by decide) rfl tw_120 dX1_keep_165 (zr_pI (ci := 0) (j := 5) O zc_0 (by decide) rfl rfl rfl tw_117 dX1_keep_168 (zr_return O E (Nat.le_refl _) (Nat.le_refl _) dX1_keep_171)))))))))))))))))
  have L_64 : ∀ nn : Nat, zSd X Y 0 0 64 ((fun k ls st h1 => ∃ (i : Nat) (z : Int32) (f g : Nat → Int32), k = dP S - i ∧ i ≤ dP S ∧ fb_ct (us S) i ≤ nbk S * lnR (dR S) ∧ ls = [some (vR 10 0 e), some (vR 15 0 a), some (vI (nI (usd S))), some (vI (nI (nbk S))), some (vI (nI s)), some (vI (nI (nbk S * lnR (dR S)))), some (vI z)] ∧ z = nI i ∧ st = [] ∧ h1 = zsW (zsW h (e + 1) g) e f ∧ (∀ k, k < fb_ct (us S) i → g k = nI (enP S k)) ∧ f 0 = nI (fb_ct (us S) i) ∧ f 2 = nI (dR S) ∧ f 3 = nI (nbk S) ∧ f 4 = nI (mk (enB S) (fb_ct (us S) i)) ∧ f 7 = nI s ∧ f 8 = nI (ckW 0 s (nbk S * btR (dR S))) : Nat → zT) nn) := by
    refine zSd_loop (fun nn ih => ?_)
    have B_133 := zr_iinc (X := X) (Y := Y) (u := 0) (v := 0) (c := 1) O dX1_keep_133 rfl (zr_goto (tgt := 64) O dX1_keep_136 rfl ih)
    have B_64 := zr_iload (X := X) (Y := Y) (u := 0) (v := 0) O dX1_keep_64 (zr_aload_n O dX1_keep_66 rfl (zr_gI (ci := 5) (j := 4) O zc_5 (by decide) rfl tw_57 dX1_keep_67 (zr_icge (tgt := 139) O dX1_keep_70 rfl B_139 (zr_aload_n O dX1_keep_73 rfl (zr_gI (ci := 0) (j := 0) O zc_0 (by decide) rfl tw_101 dX1_keep_74 (zr_iload O dX1_keep_77 (zr_icge (tgt := 139) O dX1_keep_79 rfl B_139 (zr_iload_n O dX1_keep_82 rfl (zr_iload O dX1_keep_83 (zr_cI (zr_cSN (n := 2) O m_X10_bitIn (bn_X10_bitIn _ ⟨rfl, rfl⟩) tw_374 wn_RX1_67 (zrm hR rfl rfl) dX1_keep_85 (zr_iconst (x := 1) O dX1_keep_88 rfl (zr_icne (tgt := 133) O dX1_keep_89 rfl B_133 (zr_aload_n O dX1_keep_92 rfl (zr_gS (ci := 0) (j := 1) (off := 1) (t := 1) (n := 28) O zc_0 (by decide) rfl tw_104 dX1_keep_93 (zr_aload_n O dX1_keep_96 rfl (zr_gI (ci := 0) (j := 0) O zc_0 (by decide) rfl tw_101 dX1_keep_97 (zr_iload O dX1_keep_100 (zr_iast O dX1_keep_102 (zr_aload_n O dX1_keep_103 rfl (zr_dup O dX1_keep_104 (zr_gI (ci := 0) (j := 4) O zc_0 (by decide) rfl tw_114 dX1_keep_105 (zr_aload_n O dX1_keep_108 rfl (zr_iload O dX1_keep_109 (zr_cI (zr_cV (ci := 5) (n := 1) O m_X6_bitOf (bn_X6_bitOf _ ⟨rfl, rfl⟩) vw_X6_bitOf tw_817 rc_X6_bitOf (zrm hR rfl rfl) dX1_keep_111 (zr_aload_n O dX1_keep_114 rfl (zr_gI (ci := 0) (j := 0) O zc_0 (by decide) rfl tw_101 dX1_keep_115 (zr_ishl O dX1_keep_118 (zr_ior O dX1_keep_119 (zr_pI (ci := 0) (j := 4) O zc_0 (by decide) rfl rfl rfl tw_114 dX1_keep_120 (zr_aload_n O dX1_keep_123 rfl (zr_dup O dX1_keep_124 (zr_gI (ci := 0) (j := 0) O zc_0 (by decide) rfl tw_101 dX1_keep_125 (zr_iconst (x := 1) O dX1_keep_128 rfl (zr_iadd O dX1_keep_129 (zr_pI (ci := 0) (j := 0) O zc_0 (by decide) rfl rfl rfl tw_101 dX1_keep_130 (B_133))))))))))))))))))))))))))))))))))))))
    refine zSd_weak B_64 (fun ls st h1 t => ?_)
    obtain ⟨i, z, f, g, rfl, hi, hc, rfl, rfl, rfl, rfl, hg, f0, f2, f3, f4, f7, f8⟩ := t
    have hS2 : rpS S (zsW (zsW h (e + 1) g) e f) a := rpS_fr (by omega) (rpS_fr (by omega) hS)
    have ci := fb_ct_le (us S) i
    have fin : ∀ x y : Int32, fb_ct (us S) i = nbk S * lnR (dR S) → x = nI (eG (enr S s)) → y = nI (eG (enr S s)) → sm e 2 h (zsI (zsI (zsW (zsW h (e + 1) g) e f) e 6 x) e 5 y) ∧ rpE (enr S s) (zsI (zsI (zsW (zsW h (e + 1) g) e f) e 6 x) e 5 y) e := by
      intro x y hz hx hy
      rw [hz] at f0 f4 hg
      have e5 : e + 1 ≠ e := by omega
      refine ⟨?_, ?_, vE_enr hv hP hs, fun _ => ?_⟩
      · simp only [zsI_W]
        exact sm_tr (sm_tr (sm_tr (sm_W _ _ (by omega) (by omega)) (sm_W _ _ (by omega) (by omega))) (sm_W _ _ (by omega) (by omega))) (sm_W _ _ (by omega) (by omega))
      · simp only [zsI_W, zsW_s]
        exact f0
      · simp only [zsI_W, zsW_s, zsW_n _ _ e5]
        exact ⟨hg, ⟨f2, f3⟩, ⟨f4, hy, hx⟩, f7, f8⟩
    have ee : e + 1 ≠ e := by omega
    have eH0 : (zsW (zsW h (e + 1) g) e f).1 e = f := zsW_s _ _ _
    have eH1 : (zsW (zsW h (e + 1) g) e f).1 (e + 1) = g := by rw [zsW_n _ _ ee, zsW_s]
    have eG0 : fb_ct (us S) i = nbk S * lnR (dR S) → nI (mk (enB S) (fb_ct (us S) i)) ^^^ nI (wsN (dR S) s (nbk S)) = nI (eG (enr S s)) := by
      intro hz
      rw [hz, fb_xorI]
      rfl
    refine ⟨fun cq => ?_, fun cq => ⟨fun dq => ?_, fun dq => ?_⟩⟩
    · rw [hS2.2.1.1] at cq
      have := (nI_leI (by omega) (by omega)).mp cq
      have hz : fb_ct (us S) i = nbk S * lnR (dR S) := by
        have : i = dP S := by omega
        rw [this] at hc ⊢
        omega
      refine ⟨(dR S, nbk S, s), by rw [eH0, f2, f3, f7]; rfl, ⟨hr, by omega, n2, hs16⟩, rfl, fin _ _ hz ?_ ?_⟩
      · rw [eH0, f4]; exact eG0 hz
      · rw [zsI_W, zsW_s, eH0, f4, zup_s]; exact eG0 hz
    · rw [eH0, f0] at dq
      have := (nI_leI (by omega) (by omega)).mp dq
      have hz : fb_ct (us S) i = nbk S * lnR (dR S) := by omega
      refine ⟨(dR S, nbk S, s), by rw [eH0, f2, f3, f7]; rfl, ⟨hr, by omega, n2, hs16⟩, rfl, fin _ _ hz ?_ ?_⟩
      · rw [eH0, f4]; exact eG0 hz
      · rw [zsI_W, zsW_s, eH0, f4, zup_s]; exact eG0 hz
    · rw [hS2.2.1.1] at cq
      have hi2 : i < dP S := Nat.not_le.mp (fun z => cq ((nI_leI (by omega) (by omega)).mpr z))
      rw [eH0, f0] at dq
      have hc2 : fb_ct (us S) i < nbk S * lnR (dR S) := Nat.not_le.mp (fun z => dq ((nI_leI (by omega) (by omega)).mpr z))
      have hul := usd_lt hP
      have eb : (nI (usd S) >>> (nI i &&& 31)) &&& 1 = bI (us S i) := by
        rw [bI_in (by omega) (by omega), usd, mk_bit, decide_eq_true hi2, Bool.true_and]
      refine ⟨(nI (usd S), nI i), rfl, trivial, fun eq => ?_, fun eq => ?_⟩
      · replace eq : ¬ (nI (usd S) >>> (nI i &&& 31)) &&& 1 = 1 := eq
        rw [eb, bI_1] at eq
        have hu : us S i = false := by simpa using eq
        have ec : fb_ct (us S) (i + 1) = fb_ct (us S) i := by rw [fb_ct_succ, hu]; rfl
        exact ⟨dP S - (i + 1), by omega, i + 1, _, f, g, rfl, by omega, by rw [ec]; exact hc, rfl, nI_1 i, rfl, rfl, by rw [ec]; exact hg, by rw [ec]; exact f0, f2, f3, by rw [ec]; exact f4, f7, f8⟩
      · replace eq : (nI (usd S) >>> (nI i &&& 31)) &&& 1 = 1 := eq
        rw [eb, bI_1] at eq
        have ec : fb_ct (us S) (i + 1) = fb_ct (us S) i + 1 := by rw [fb_ct_succ, eq]; rfl
        have es : enP S (fb_ct (us S) i) = i := (sel_at eq rfl (dP S) hi2).2
        have eB2 : enB S (fb_ct (us S) i) = decide (pb S i = 1) := by rw [enB, es]
        refine ⟨fb_ct (us S) i, by rw [eH0]; exact f0, by omega, (S, a, i), rfl, ⟨rpS_fr (by omega) hS2, hi2⟩, dP S - (i + 1), by omega, i + 1, _, va_up (va_up f 4 (nI (mk (enB S) (fb_ct (us S) i + 1)))) 0 (nI (fb_ct (us S) i + 1)), va_up g (fb_ct (us S) i) (nI i), rfl, by omega, by omega, rfl, nI_1 i, rfl, ?_, ?_, ?_, f2, f3, ?_, f7, f8⟩
        · simp only [zsI_W, zsW_s, zsW_n _ _ ee, zsW_n _ _ ee.symm, zsW_W, f0, f4]
          rw [zsW_c _ _ _ ee, zsW_W]
          show zsW _ e (va_up (va_up f 4 (nI (mk (enB S) (fb_ct (us S) i)) ||| (pb S i <<< (nI (fb_ct (us S) i) &&& 31)))) 0 (f 0 + 1)) = _
          rw [pb_b, bI_shl (by omega), fa_or, f0, nI_1, mk, eB2, zsW_W]
        · intro k hk
          by_cases hki : k = fb_ct (us S) i
          · rw [hki, zup_s, es]
          · rw [zup_n _ _ hki]; exact hg k (by omega)
        · rw [zup_s, ec]
        · rw [zup_n _ _ (by decide : (4 : Nat) ≠ 0), zup_s, ec]
  have B_64 := zSd_any L_64
  have B_0 := zr_aload_n (X := X) (Y := Y) (u := 0) (v := 0) O dX1_keep_0 rfl (zr_aload_n O dX1_keep_1 rfl (zr_gS (ci := 5) (j := 7) (off := 6) (t := 1) (n := 5) O zc_5 (by decide) rfl tw_74 dX1_keep_2 (zr_iconst (x := 4) O dX1_keep_5 rfl (zr_iald O dX1_keep_6 (zr_pI (ci := 0) (j := 2) O zc_0 (by decide) rfl rfl rfl tw_108 dX1_keep_7 (zr_aload_n O dX1_keep_10 rfl (zr_iload_n O dX1_keep_11 rfl (zr_pI (ci := 0) (j := 3) O zc_0 (by decide) rfl rfl rfl tw_110 dX1_keep_12 (zr_aload_n O dX1_keep_15 rfl (zr_iload O dX1_keep_16 (zr_pI (ci := 0) (j := 7) O zc_0 (by decide) rfl rfl rfl tw_121 dX1_keep_18 (zr_aload_n O dX1_keep_21 rfl (zr_iconst (x := 0) O dX1_keep_22 rfl (zr_aload_n O dX1_keep_23 rfl (zr_gI (ci := 0) (j := 7) O zc_0 (by decide) rfl tw_121 dX1_keep_24 (zr_aload_n O dX1_keep_27 rfl (zr_cI (zr_cV (ci := 0) (n := 0) O m_X1_secretBits (bn_X1_secretBits _ ⟨rfl, rfl⟩) vw_X1_secretBits tw_806 rc_X1_secretBits (zrm hR rfl rfl) dX1_keep_28 (zr_cI (zr_cS (n := 3) O m_X0_checkWith (bn_X0_checkWith _ ⟨rfl, rfl⟩) tw_812 tw_811 (zrm hR rfl rfl) dX1_keep_31 (zr_pI (ci := 0) (j := 8) O zc_0 (by decide) rfl rfl rfl tw_125 dX1_keep_34 (zr_aload_n O dX1_keep_37 rfl (zr_gI (ci := 0) (j := 3) O zc_0 (by decide) rfl tw_110 dX1_keep_38 (zr_aload_n O dX1_keep_41 rfl (zr_gI (ci := 0) (j := 2) O zc_0 (by decide) rfl tw_108 dX1_keep_42 (zr_cI (zr_cS (n := 1) O m_X0_lengthOf (bn_X0_lengthOf _ ⟨rfl, rfl⟩) tw_773 tw_815 (zrm hR rfl rfl) dX1_keep_45 (zr_imul O dX1_keep_48 (zr_istore O dX1_keep_49 (zr_aload_n O dX1_keep_51 rfl (zr_iconst (x := 0) O dX1_keep_52 rfl (zr_pI (ci := 0) (j := 0) O zc_0 (by decide) rfl rfl rfl tw_101 dX1_keep_53 (zr_aload_n O dX1_keep_56 rfl (zr_iconst (x := 0) O dX1_keep_57 rfl (zr_pI (ci := 0) (j := 4) O zc_0 (by decide) rfl rfl rfl tw_114 dX1_keep_58 (zr_iconst (x := 0) O dX1_keep_61 rfl (zr_istore O dX1_keep_62 (B_64))))))))))))))))))))))))))))))))))))))
  refine ⟨rfl, Nat.le_of_ble_eq_true rfl, _, B_0, ?_⟩
  have e4 := hS.2.2.2.2 4 (by decide)
  rw [hv.2.2.2.2.2.1] at e4
  refine ⟨4, rfl, by decide, (e, dR S, nbk S), rfl, ⟨by simp only [zsI_W, zsW_s]; exact e4, by simp only [zsI_W, zsW_s]; rfl, hr⟩, (0, s, nbk S * btR (dR S)), by simp only [zsI_W, zsW_s]; rfl, ⟨by decide, by omega, n2⟩, dR S, ?_, hr, dP S - 0, 0, _, va_up (va_up (va_up (va_up (va_up (va_up (h.1 e) 2 (nI (dR S))) 3 (nI (nbk S))) 7 (nI s)) 8 (nI (ckW 0 s (nbk S * btR (dR S))))) 0 0) 4 0, h.1 (e + 1), rfl, Nat.zero_le _, Nat.zero_le _, ?_, rfl, rfl, ?_, fun k hk => absurd hk (Nat.not_lt_zero _), rfl, rfl, rfl, rfl, rfl, rfl⟩
  · simp only [zsI_W, zsW_s]
    exact congrArg (fun z => [vI z]) e4
  · simp only [zsI_W, zsW_s]
    show [_, _, _, _, _, some (vI (nI (nbk S) * nI (lnR (dR S)))), _] = _
    rw [pk_mul]
    rfl
  · simp only [zsI_W, zsW_s, zsW_W, e4, zsW_self]
    rfl
/-! a reading -/
theorem zup_self {α : Type} (f : Nat → α) (j : Nat) : va_up f j (f j) = f := by
  funext q
  by_cases h : q = j
  · rw [h, zup_s]
  · rw [zup_n _ _ h]
def irm (x y : Int32) : Int32 := x - x / y * y
theorem nI_z {z : Int32} {n : Nat} (h0 : 0 ≤ z.toInt) (h1 : z.toInt ≤ n) (hn : n < 2 ^ 31) : ∃ k, k ≤ n ∧ z = nI k := by
  refine ⟨z.toInt.toNat, by omega, ?_⟩
  rw [fa_eq, nI_toInt (by omega)]
  omega
theorem nz_odd : ∀ k, k ≤ 50 → ¬ (2 : Int32) * nI k + 1 = 0 := by decide +kernel
/-- the seed that comes after, the speed read -/
def sdn (x : Int32) : Int32 := irm (75 * x + 74) 65537
def rdS (S : zD) (r : Nat) (x : Int32) : Int32 := if 0 < dZ S r then sdn x else x
def rdV (S : zD) (r : Nat) (te x : Int32) : Int32 := if 0 < dZ S r then spd S r te + irm (sdn x) (2 * dZ S r + 1) - dZ S r else spd S r te
def ca_X5_noisySpeed : (zD × Nat × Nat × Nat × Int32) → List zV := fun (S, b, a, r, te) => [vR 14 0 b, vR 15 0 a, vI (nI r), vI te]
def cp_X5_noisySpeed : (zD × Nat × Nat × Nat × Int32) → zH → Prop := fun (S, b, a, r, te) h => rpS S h a ∧ r < dN S ∧ vS S
def cf_X5_noisySpeed : (zD × Nat × Nat × Nat × Int32) → zH → Int32 := fun (S, b, a, r, te) h => rdV S r te (h.1 b 0)
def cg_X5_noisySpeed : (zD × Nat × Nat × Nat × Int32) → zH → zH := fun (S, b, a, r, te) h => zsI h b 0 (rdS S r (h.1 b 0))
theorem rc_X5_noisySpeed : ∀ x : (zD × Nat × Nat × Nat × Int32), ∃ (j a : Nat) (As : List zV), ca_X5_noisySpeed x = vR (10 + 4) j a :: As := by
  rintro ⟨S, b, a, r, te⟩
  exact ⟨_, _, _, rfl⟩
set_option maxHeartbeats 4000000 in
set_option maxRecDepth 100000 in
theorem m_X5_noisySpeed : zM yX5_noisySpeed cX5_noisySpeed 6 (some .int) ({ frames := 1, cells := 0, slots := 0, locals := 22 } : Room) (zcH ca_X5_noisySpeed cp_X5_noisySpeed cf_X5_noisySpeed cg_X5_noisySpeed) := by
  refine zM_of (by decide) ?_
  rintro X Y ⟨S, b, a, r, te⟩ h ⟨hS, hr, hv⟩ O E hR
  have B_24 := zr_aload_n (X := X) (Y := Y) (u := 0) (v := 0) O dX5_noisySpeed_24 rfl (zr_bipush (x := (75)) O dX5_noisySpeed_25 (by decide) (zr_aload_n O dX5_noisySpeed_27 rfl (zr_gI (ci := 4) (j := 0) O zc_4 (by decide) rfl tw_228 dX5_noisySpeed_28 (zr_imul O dX5_noisySpeed_31 (zr_bipush (x := (74)) O dX5_noisySpeed_32 (by decide) (zr_iadd O dX5_noisySpeed_34 (zr_ldc (x := (65537)) O dX5_noisySpeed_35 tw_1003 (zr_irem O dX5_noisySpeed_37 (zr_pI (ci := 4) (j := 0) O zc_4 (by decide) rfl rfl rfl tw_228 dX5_noisySpeed_38 (zr_iload O dX5_noisySpeed_41 (zr_aload_n O dX5_noisySpeed_43 rfl (zr_gI (ci := 4) (j := 0) O zc_4 (by decide) rfl tw_228 dX5_noisySpeed_44 (zr_iconst (x := 2) O dX5_noisySpeed_47 rfl (zr_iload O dX5_noisySpeed_48 (zr_imul O dX5_noisySpeed_50 (zr_iconst (x := 1) O dX5_noisySpeed_51 rfl (zr_iadd O dX5_noisySpeed_52 (zr_irem O dX5_noisySpeed_53 (zr_iadd O dX5_noisySpeed_54 (zr_iload O dX5_noisySpeed_55 (zr_isub O dX5_noisySpeed_57 (zr_ireturn O E (Nat.le_refl _) (Nat.le_refl _) dX5_noisySpeed_58))))))))))))))))))))))
  have B_0 := zr_aload_n (X := X) (Y := Y) (u := 0) (v := 0) O dX5_noisySpeed_0 rfl (zr_iload_n O dX5_noisySpeed_1 rfl (zr_iload_n O dX5_noisySpeed_2 rfl (zr_cI (zr_cV (ci := 5) (n := 2) O m_X6_speedOf (bn_X6_speedOf _ ⟨rfl, rfl⟩) vw_X6_speedOf tw_1002 rc_X6_speedOf (zrm hR rfl rfl) dX5_noisySpeed_3 (zr_istore O dX5_noisySpeed_6 (zr_aload_n O dX5_noisySpeed_8 rfl (zr_gS (ci := 5) (j := 3) (off := 3) (t := 1) (n := 10) O zc_5 (by decide) rfl tw_53 dX5_noisySpeed_9 (zr_iload_n O dX5_noisySpeed_12 rfl (zr_iald O dX5_noisySpeed_13 (zr_istore O dX5_noisySpeed_14 (zr_iload O dX5_noisySpeed_16 (zr_ifgt (tgt := 24) O dX5_noisySpeed_18 rfl B_24 (zr_iload O dX5_noisySpeed_21 (zr_ireturn O E (Nat.le_refl _) (Nat.le_refl _) dX5_noisySpeed_23))))))))))))))
  refine ⟨rfl, Nat.le_of_ble_eq_true rfl, _, B_0, ?_⟩
  have hS : rpS S h a := hS
  have hN := hS.1.2
  have e3 := (hS.2.2.1 r hr).2.2
  have hz := (hv.1 r hr).2.2
  obtain ⟨k, k1, k2⟩ := nI_z (n := 50) hz.1 hz.2 (by decide)
  have nz := nz_odd k k1
  rw [← k2] at nz
  refine ⟨(S, a, r, te), rfl, ⟨hS, hr⟩, r, rfl, by omega, fun cq => ⟨by decide, ?_, zri ?_, ?_⟩, fun cq => ⟨zri ?_, ?_⟩⟩
  · rw [e3]; exact nz
  · replace cq : 0 < h.1 (a + 3) r := cq
    rw [e3] at cq ⊢
    show _ = rdV S r te (h.1 b 0)
    rw [rdV, if_pos cq, zsI_W, zsW_s, zup_s]
    rfl
  · replace cq : 0 < h.1 (a + 3) r := cq
    rw [e3] at cq
    show _ = zsI h b 0 (rdS S r (h.1 b 0))
    rw [rdS, if_pos cq]
    rfl
  · replace cq : ¬ 0 < h.1 (a + 3) r := cq
    rw [e3] at cq
    show _ = rdV S r te (h.1 b 0)
    rw [rdV, if_neg cq]
    rfl
  · replace cq : ¬ 0 < h.1 (a + 3) r := cq
    rw [e3] at cq
    show _ = zsI h b 0 (rdS S r (h.1 b 0))
    rw [rdS, if_neg cq, zsI_W, zup_self, zsW_self]
/-- seed and bits after some pairs were read -/
def rdP (S : zD) (te : Int32) (p : Nat) (x : Int32) : Int32 × Bool := (rdS S (dS S p) (rdS S (dF S p) x), decide (bby (rdV S (dF S p) te x) (rdV S (dS S p) te (rdS S (dF S p) x)) (dF S p) (dS S p) = 1))
def rdN (S : zD) (K : zE) (te x : Int32) : Nat → Int32 × Nat
  | 0 => (x, 0)
  | i + 1 => ((rdP S te (eP K i) (rdN S K te x i).1).1, (rdN S K te x i).2 ||| (if (rdP S te (eP K i) (rdN S K te x i).1).2 then 2 ^ i else 0))
theorem rdN_lt {S : zD} {K : zE} {te x : Int32} : ∀ n, (rdN S K te x n).2 < 2 ^ n
  | 0 => (by decide : (0 : Nat) < 2 ^ 0)
  | n + 1 => by
    have h1 := rdN_lt (S := S) (K := K) (te := te) (x := x) n
    have h2 : (2 : Nat) ^ n < 2 ^ (n + 1) := Nat.pow_lt_pow_right (by omega) (by omega)
    exact or_lt (Nat.lt_trans h1 h2) (by split <;> omega)

