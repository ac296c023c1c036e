theorem dX10_nextFor_117 : decode cX10_nextFor 117 = .ok (.iload_n 3, 1) := by decide +kernel
theorem dX10_nextFor_118 : decode cX10_nextFor 118 = .ok (.ireturn, 1) := by decide +kernel
theorem dX10_nextFor_111 : decode cX10_nextFor 111 = .ok (.iinc 5 1, 3) := by decide +kernel
theorem dX10_nextFor_114 : decode cX10_nextFor 114 = .ok (.goto (-89), 3) := by decide +kernel
theorem dX10_nextFor_25 : decode cX10_nextFor 25 = .ok (.iload 5, 2) := by decide +kernel
theorem dX10_nextFor_27 : decode cX10_nextFor 27 = .ok (.aload_n 2, 1) := by decide +kernel
theorem dX10_nextFor_28 : decode cX10_nextFor 28 = .ok (.getfield 114, 3) := by decide +kernel
theorem dX10_nextFor_31 : decode cX10_nextFor 31 = .ok (.if_icmp .ge 86, 3) := by decide +kernel
theorem dX10_nextFor_34 : decode cX10_nextFor 34 = .ok (.aload_n 2, 1) := by decide +kernel
theorem dX10_nextFor_35 : decode cX10_nextFor 35 = .ok (.getfield 217, 3) := by decide +kernel
theorem dX10_nextFor_38 : decode cX10_nextFor 38 = .ok (.iload 5, 2) := by decide +kernel
theorem dX10_nextFor_40 : decode cX10_nextFor 40 = .ok (.iaload, 1) := by decide +kernel
theorem dX10_nextFor_41 : decode cX10_nextFor 41 = .ok (.istore 6, 2) := by decide +kernel
theorem dX10_nextFor_43 : decode cX10_nextFor 43 = .ok (.aload_n 2, 1) := by decide +kernel
theorem dX10_nextFor_44 : decode cX10_nextFor 44 = .ok (.getfield 220, 3) := by decide +kernel
theorem dX10_nextFor_47 : decode cX10_nextFor 47 = .ok (.iload 5, 2) := by decide +kernel
theorem dX10_nextFor_49 : decode cX10_nextFor 49 = .ok (.iaload, 1) := by decide +kernel
theorem dX10_nextFor_50 : decode cX10_nextFor 50 = .ok (.istore 7, 2) := by decide +kernel
theorem dX10_nextFor_52 : decode cX10_nextFor 52 = .ok (.aload_n 1, 1) := by decide +kernel
theorem dX10_nextFor_53 : decode cX10_nextFor 53 = .ok (.iload 5, 2) := by decide +kernel
theorem dX10_nextFor_55 : decode cX10_nextFor 55 = .ok (.invokevirtual 333, 3) := by decide +kernel
theorem dX10_nextFor_58 : decode cX10_nextFor 58 = .ok (.ifCond .ne 53, 3) := by decide +kernel
theorem dX10_nextFor_61 : decode cX10_nextFor 61 = .ok (.aload_n 0, 1) := by decide +kernel
theorem dX10_nextFor_62 : decode cX10_nextFor 62 = .ok (.getfield 37, 3) := by decide +kernel
theorem dX10_nextFor_65 : decode cX10_nextFor 65 = .ok (.iload 6, 2) := by decide +kernel
theorem dX10_nextFor_67 : decode cX10_nextFor 67 = .ok (.iload 7, 2) := by decide +kernel
theorem dX10_nextFor_69 : decode cX10_nextFor 69 = .ok (.invokevirtual 236, 3) := by decide +kernel
theorem dX10_nextFor_72 : decode cX10_nextFor 72 = .ok (.iconst (-1), 1) := by decide +kernel
theorem dX10_nextFor_73 : decode cX10_nextFor 73 = .ok (.if_icmp .ne 38, 3) := by decide +kernel
theorem dX10_nextFor_76 : decode cX10_nextFor 76 = .ok (.aload_n 0, 1) := by decide +kernel
theorem dX10_nextFor_77 : decode cX10_nextFor 77 = .ok (.iload 6, 2) := by decide +kernel
theorem dX10_nextFor_79 : decode cX10_nextFor 79 = .ok (.iload 7, 2) := by decide +kernel
theorem dX10_nextFor_81 : decode cX10_nextFor 81 = .ok (.invokevirtual 397, 3) := by decide +kernel
theorem dX10_nextFor_84 : decode cX10_nextFor 84 = .ok (.aload_n 0, 1) := by decide +kernel
theorem dX10_nextFor_85 : decode cX10_nextFor 85 = .ok (.iload 7, 2) := by decide +kernel
theorem dX10_nextFor_87 : decode cX10_nextFor 87 = .ok (.iload 6, 2) := by decide +kernel
theorem dX10_nextFor_89 : decode cX10_nextFor 89 = .ok (.invokevirtual 397, 3) := by decide +kernel
theorem dX10_nextFor_92 : decode cX10_nextFor 92 = .ok (.invokestatic 249, 3) := by decide +kernel
theorem dX10_nextFor_95 : decode cX10_nextFor 95 = .ok (.istore 8, 2) := by decide +kernel
theorem dX10_nextFor_97 : decode cX10_nextFor 97 = .ok (.iload 8, 2) := by decide +kernel
theorem dX10_nextFor_99 : decode cX10_nextFor 99 = .ok (.iload 4, 2) := by decide +kernel
theorem dX10_nextFor_101 : decode cX10_nextFor 101 = .ok (.if_icmp .le 10, 3) := by decide +kernel
theorem dX10_nextFor_104 : decode cX10_nextFor 104 = .ok (.iload 8, 2) := by decide +kernel
theorem dX10_nextFor_106 : decode cX10_nextFor 106 = .ok (.istore 4, 2) := by decide +kernel
theorem dX10_nextFor_108 : decode cX10_nextFor 108 = .ok (.iload 5, 2) := by decide +kernel
theorem dX10_nextFor_110 : decode cX10_nextFor 110 = .ok (.istore_n 3, 1) := by decide +kernel
theorem dX10_nextFor_0 : decode cX10_nextFor 0 = .ok (.aload_n 0, 1) := by decide +kernel
theorem dX10_nextFor_1 : decode cX10_nextFor 1 = .ok (.getfield 10, 3) := by decide +kernel
theorem dX10_nextFor_4 : decode cX10_nextFor 4 = .ok (.getfield 85, 3) := by decide +kernel
theorem dX10_nextFor_7 : decode cX10_nextFor 7 = .ok (.astore_n 2, 1) := by decide +kernel
theorem dX10_nextFor_8 : decode cX10_nextFor 8 = .ok (.aload_n 1, 1) := by decide +kernel
theorem dX10_nextFor_9 : decode cX10_nextFor 9 = .ok (.aload_n 0, 1) := by decide +kernel
theorem dX10_nextFor_10 : decode cX10_nextFor 10 = .ok (.getfield 37, 3) := by decide +kernel
theorem dX10_nextFor_13 : decode cX10_nextFor 13 = .ok (.aload_n 2, 1) := by decide +kernel
theorem dX10_nextFor_14 : decode cX10_nextFor 14 = .ok (.invokevirtual 232, 3) := by decide +kernel
theorem dX10_nextFor_17 : decode cX10_nextFor 17 = .ok (.iconst (-1), 1) := by decide +kernel
theorem dX10_nextFor_18 : decode cX10_nextFor 18 = .ok (.istore_n 3, 1) := by decide +kernel
theorem dX10_nextFor_19 : decode cX10_nextFor 19 = .ok (.iconst (-1), 1) := by decide +kernel
theorem dX10_nextFor_20 : decode cX10_nextFor 20 = .ok (.istore 4, 2) := by decide +kernel
theorem dX10_nextFor_22 : decode cX10_nextFor 22 = .ok (.iconst 0, 1) := by decide +kernel
theorem dX10_nextFor_23 : decode cX10_nextFor 23 = .ok (.istore 5, 2) := by decide +kernel
theorem dX10_epochsToLearn_30 : decode cX10_epochsToLearn 30 = .ok (.bipush 50, 2) := by decide +kernel
theorem dX10_epochsToLearn_32 : decode cX10_epochsToLearn 32 = .ok (.ireturn, 1) := by decide +kernel
theorem dX10_epochsToLearn_24 : decode cX10_epochsToLearn 24 = .ok (.iinc 2 1, 3) := by decide +kernel
theorem dX10_epochsToLearn_27 : decode cX10_epochsToLearn 27 = .ok (.goto (-25), 3) := by decide +kernel
theorem dX10_epochsToLearn_2 : decode cX10_epochsToLearn 2 = .ok (.iload_n 2, 1) := by decide +kernel
theorem dX10_epochsToLearn_3 : decode cX10_epochsToLearn 3 = .ok (.bipush 50, 2) := by decide +kernel
theorem dX10_epochsToLearn_5 : decode cX10_epochsToLearn 5 = .ok (.if_icmp .gt 25, 3) := by decide +kernel
theorem dX10_epochsToLearn_8 : decode cX10_epochsToLearn 8 = .ok (.aload_n 1, 1) := by decide +kernel
theorem dX10_epochsToLearn_9 : decode cX10_epochsToLearn 9 = .ok (.aload_n 0, 1) := by decide +kernel
theorem dX10_epochsToLearn_10 : decode cX10_epochsToLearn 10 = .ok (.getfield 10, 3) := by decide +kernel
theorem dX10_epochsToLearn_13 : decode cX10_epochsToLearn 13 = .ok (.getfield 85, 3) := by decide +kernel
theorem dX10_epochsToLearn_16 : decode cX10_epochsToLearn 16 = .ok (.invokevirtual 167, 3) := by decide +kernel
theorem dX10_epochsToLearn_19 : decode cX10_epochsToLearn 19 = .ok (.ifCond .ne 5, 3) := by decide +kernel
theorem dX10_epochsToLearn_22 : decode cX10_epochsToLearn 22 = .ok (.iload_n 2, 1) := by decide +kernel
theorem dX10_epochsToLearn_23 : decode cX10_epochsToLearn 23 = .ok (.ireturn, 1) := by decide +kernel
theorem dX10_epochsToLearn_0 : decode cX10_epochsToLearn 0 = .ok (.iconst 1, 1) := by decide +kernel
theorem dX10_epochsToLearn_1 : decode cX10_epochsToLearn 1 = .ok (.istore_n 2, 1) := by decide +kernel
/-! the next pair to hear -/
def nxs (S : zD) (B : Nat → Nat) (i : Nat) : Int32 := mn2 (nI (flw S (oput B (dF S i) (dS S i)))) (nI (flw S (oput B (dS S i) (dF S i))))
def nxt (S : zD) (L : zG) (B : Nat → Nat) : Nat → Int32 × Int32
  | 0 => (-1, -1)
  | i + 1 => if gH L i = false ∧ otl B (dF S i) (dS S i) = -1 ∧ (nxt S L B i).2 < nxs S B i then (nI i, nxs S B i) else nxt S L B i
def ca_X10_nextFor : (zQ × zG × Nat × Nat) → List zV := fun (Q, L, x, l) => [vR 19 0 x, vR 12 0 l]
def cp_X10_nextFor : (zQ × zG × Nat × Nat) → zH → Prop := fun (Q, L, x, l) h => rpN Q h x ∧ rpL L h l ∧ gInj L ∧ (∀ i, i < gN L → gP L i < dP Q.1) ∧ (l + 3 ≤ x + 181 ∨ x + 185 ≤ l)
def cq_X10_nextFor : (zQ × zG × Nat × Nat) → zH → Option zV → zH → Prop := fun (Q, L, x, l) h r h' => r = some (vI (nxt Q.1 L (lod Q.1 L (gN L)) (dP Q.1)).1) ∧ sm (x + 181) 4 h h'
theorem rc_X10_nextFor : ∀ x : (zQ × zG × Nat × Nat), ∃ (j a : Nat) (As : List zV), ca_X10_nextFor x = vR (10 + 9) j a :: As := by
  rintro ⟨⟨S, K, M⟩, L, x, l⟩
  exact ⟨_, _, _, rfl⟩
set_option maxHeartbeats 4000000 in
set_option maxRecDepth 100000 in
theorem m_X10_nextFor : zM yX10_nextFor cX10_nextFor 9 (some .int) ({ frames := 4, cells := 0, slots := 0, locals := 105 } : Room) ((ca_X10_nextFor, cp_X10_nextFor, cq_X10_nextFor) : zC (zQ × zG × Nat × Nat)) := by
  refine zM_of (by decide) ?_
  rintro X Y ⟨⟨S, K, M⟩, L, x, l⟩ h ⟨hN, hL, hj, hP, hd⟩ O E hR
  have hN : rpN (S, K, M) h x := hN
  have hL : rpL L h l := hL
  have hP : ∀ i, i < gN L → gP L i < dP S := hP
  have hd : l + 3 ≤ x + 181 ∨ x + 185 ≤ l := hd
  have hS : rpS S h (h.2.2 x 0 + 1) := hN.1.1
  have hP28 : dP S ≤ 28 := hS.2.1.2
  have hN10 : dN S ≤ 10 := hS.1.2
  have hs1 := hN.2.1
  have hs2 := hN.2.2
  have hr : ∀ i, i < gN L → dF S (gP L i) < dN S ∧ dS S (gP L i) < dN S := fun i hi => ⟨(hS.2.2.2.1 _ (hP i hi)).1.2, (hS.2.2.2.1 _ (hP i hi)).2.2⟩
  have B_117 := zr_iload_n (X := X) (Y := Y) (u := 0) (v := 0) O dX10_nextFor_117 rfl (zr_ireturn O E (Nat.le_refl _) (Nat.le_refl _) dX10_nextFor_118)
  have L_25 : ∀ nn : Nat, zSd X Y 0 0 25 ((fun k ls st h1 => ∃ (i : Nat) (u v z : Int32) (y6 y7 y8 : Option zV), k = dP S - i ∧ i ≤ dP S ∧ ls = [some (vR 19 0 x), some (vR 12 0 l), some (vR 15 0 (h.2.2 x 0 + 1)), some (vI u), some (vI v), some (vI z), y6, y7, y8] ∧ z = nI i ∧ u = (nxt S L (lod S L (gN L)) i).1 ∧ v = (nxt S L (lod S L (gN L)) i).2 ∧ st = [] ∧ sm (x + 181) 4 h h1 ∧ rpO (lod S L (gN L)) h1 (x + 181) : Nat → zT) nn) := by
    refine zSd_loop (fun nn ih => ?_)
    have B_111 := zr_iinc (X := X) (Y := Y) (u := 0) (v := 0) (c := 1) O dX10_nextFor_111 rfl (zr_goto (tgt := 25) O dX10_nextFor_114 rfl ih)
    have B_25 := zr_iload (X := X) (Y := Y) (u := 0) (v := 0) O dX10_nextFor_25 (zr_aload_n O dX10_nextFor_27 rfl (zr_gI (ci := 5) (j := 4) O zc_5 (by decide) rfl tw_55 dX10_nextFor_28 (zr_icge (tgt := 117) O dX10_nextFor_31 rfl B_117 (zr_aload_n O dX10_nextFor_34 rfl (zr_gS (ci := 5) (j := 5) (off := 4) (t := 1) (n := 28) O zc_5 (by decide) rfl tw_65 dX10_nextFor_35 (zr_iload O dX10_nextFor_38 (zr_iald O dX10_nextFor_40 (zr_istore O dX10_nextFor_41 (zr_aload_n O dX10_nextFor_43 rfl (zr_gS (ci := 5) (j := 6) (off := 5) (t := 1) (n := 28) O zc_5 (by decide) rfl tw_72 dX10_nextFor_44 (zr_iload O dX10_nextFor_47 (zr_iald O dX10_nextFor_49 (zr_istore O dX10_nextFor_50 (zr_aload_n O dX10_nextFor_52 rfl (zr_iload O dX10_nextFor_53 (zr_cI (zr_cV (ci := 2) (n := 1) O m_X3_hasHeard (bn_X3_hasHeard _ ⟨rfl, rfl⟩) vw_X3_hasHeard tw_385 rc_X3_hasHeard (zrm hR rfl rfl) dX10_nextFor_55 (zr_ifne (tgt := 111) O dX10_nextFor_58 rfl B_111 (zr_aload_n O dX10_nextFor_61 rfl (zr_gS (ci := 9) (j := 9) (off := 181) (t := 13) (n := 0) O zc_9 (by decide) rfl tw_296 dX10_nextFor_62 (zr_iload O dX10_nextFor_65 (zr_iload O dX10_nextFor_67 (zr_cI (zr_cV (ci := 3) (n := 2) O m_X4_bitTold (bn_X4_bitTold _ ⟨rfl, rfl⟩) vw_X4_bitTold tw_386 rc_X4_bitTold (zrm hR rfl rfl) dX10_nextFor_69 (zr_iconst (x := (-1)) O dX10_nextFor_72 rfl (zr_icne (tgt := 111) O dX10_nextFor_73 rfl B_111 (zr_aload_n O dX10_nextFor_76 rfl (zr_iload O dX10_nextFor_77 (zr_iload O dX10_nextFor_79 (zr_cV (ci := 9) (n := 2) O m_X10_followersIf (bn_X10_followersIf _ ⟨rfl, rfl⟩) vw_X10_followersIf tw_394 rc_X10_followersIf (zrm hR rfl rfl) dX10_nextFor_81 (zr_aload_n O dX10_nextFor_84 rfl (zr_iload O dX10_nextFor_85 (zr_iload O dX10_nextFor_87 (zr_cV (ci := 9) (n := 2) O m_X10_followersIf (bn_X10_followersIf _ ⟨rfl, rfl⟩) vw_X10_followersIf tw_394 rc_X10_followersIf (zrm hR rfl rfl) dX10_nextFor_89 (zr_min O zwm tw_406 (zrm hR rfl rfl) dX10_nextFor_92 (zr_istore O dX10_nextFor_95 (zr_iload O dX10_nextFor_97 (zr_iload O dX10_nextFor_99 (zr_icle (tgt := 111) O dX10_nextFor_101 rfl B_111 (zr_iload O dX10_nextFor_104 (zr_istore O dX10_nextFor_106 (zr_iload O dX10_nextFor_108 (zr_istore_n O dX10_nextFor_110 rfl (B_111))))))))))))))))))))))))))))))))))))))))))))
    refine zSd_weak B_25 (fun ls st h1 t => ?_)
    obtain ⟨i, u, v, z, y6, y7, y8, rfl, hi, rfl, rfl, rfl, rfl, rfl, s1, hO⟩ := t
    have hS1 : rpS S h1 (h.2.2 x 0 + 1) := rpS_sm s1 (by omega) hS
    have hL1 : rpL L h1 l := rpL_sm s1 (by omega) hL
    have hN1 : rpN (S, K, M) h1 x := rpN_sm s1 (by omega) hN
    refine ⟨fun cq => ⟨zri ?_, s1⟩, fun cq => ?_⟩
    · rw [hS1.2.1.1] at cq
      have := (nI_leI (by omega) (by omega)).mp cq
      rw [show i = dP S by omega]
    · rw [hS1.2.1.1] at cq
      have hi2 : i < dP S := Nat.not_le.mp (fun z => cq ((nI_leI (by omega) (by omega)).mpr z))
      obtain ⟨⟨f1, f2⟩, g1, g2⟩ := hS1.2.2.2.1 i hi2
      have hF : dF S i < 10 := by omega
      have hS10 : dS S i < 10 := by omega
      have same : ¬ (gH L i = false ∧ otl (lod S L (gN L)) (dF S i) (dS S i) = -1 ∧ (nxt S L (lod S L (gN L)) i).2 < nxs S (lod S L (gN L)) i) → nxt S L (lod S L (gN L)) (i + 1) = nxt S L (lod S L (gN L)) i := fun hz => by rw [nxt, if_neg hz]
      refine ⟨i, rfl, by omega, i, rfl, by omega, (L, l, i), rfl, ⟨hL1, by omega⟩, fun dq => ?_, fun dq => ⟨(lod S L (gN L), x + 181, dF S i, dS S i), by rw [f1, g1]; rfl, ⟨hO, hF, hS10⟩, fun eq => ?_, fun eq => ?_⟩⟩
      · have hz : gH L i = true := by
          cases hz : gH L i with
          | true => rfl
          | false => exact absurd ((bI_0 _).mpr hz) dq
        have es := same (fun z => by rw [hz] at z; cases z.1)
        exact ⟨dP S - (i + 1), by omega, i + 1, _, _, _, _, _, _, rfl, by omega, rfl, nI_1 i, by rw [es], by rw [es], rfl, s1, hO⟩
      · have es := same (fun z => eq z.2.1)
        exact ⟨dP S - (i + 1), by omega, i + 1, _, _, _, _, _, _, rfl, by omega, rfl, nI_1 i, by rw [es], by rw [es], rfl, s1, hO⟩
      · have hz : gH L i = false := (bI_0 _).mp dq
        have hz2 : otl (lod S L (gN L)) (dF S i) (dS S i) = -1 := eq
        refine ⟨((S, K, M), lod S L (gN L), x, dF S i, dS S i), by rw [f1, g1]; rfl, ⟨hN1, hO, hF, hS10⟩, fun r2 h2 hq2 => ?_⟩
        obtain ⟨rfl, s2⟩ := hq2
        have s2 : sm (x + 183) 2 h1 h2 := s2
        have hO2 : rpO (lod S L (gN L)) h2 (x + 181) := rpO_sm s2 (by omega) hO
        refine ⟨((S, K, M), lod S L (gN L), x, dS S i, dF S i), by rw [f1, g1]; rfl, ⟨rpN_sm s2 (by omega) hN1, hO2, hS10, hF⟩, fun r3 h3 hq3 => ?_⟩
        obtain ⟨rfl, s3⟩ := hq3
        have s3 : sm (x + 183) 2 h2 h3 := s3
        have hO3 : rpO (lod S L (gN L)) h3 (x + 181) := rpO_sm s3 (by omega) hO2
        have s4 : sm (x + 181) 4 h h3 := sm_tr s1 (sm_tr (sm_mo s2 (by omega) (by omega)) (sm_mo s3 (by omega) (by omega)))
        refine ⟨fun fq => ?_, fun fq => ?_⟩
        · replace fq : nxs S (lod S L (gN L)) i ≤ (nxt S L (lod S L (gN L)) i).2 := fq
          have es := same (fun z => Int32.not_le.mpr z.2.2 fq)
          exact ⟨dP S - (i + 1), by omega, i + 1, _, _, _, _, _, _, rfl, by omega, rfl, nI_1 i, by rw [es], by rw [es], rfl, s4, hO3⟩
        · replace fq : ¬ nxs S (lod S L (gN L)) i ≤ (nxt S L (lod S L (gN L)) i).2 := fq
          have es : nxt S L (lod S L (gN L)) (i + 1) = (nI i, nxs S (lod S L (gN L)) i) := by rw [nxt, if_pos ⟨hz, hz2, Int32.not_le.mp fq⟩]
          exact ⟨dP S - (i + 1), by omega, i + 1, _, _, _, _, _, _, rfl, by omega, rfl, nI_1 i, by rw [es], by rw [es]; rfl, rfl, s4, hO3⟩
  have B_25 := zSd_any L_25
  have B_0 := zr_aload_n (X := X) (Y := Y) (u := 0) (v := 0) O dX10_nextFor_0 rfl (zr_gR (ci := 9) (j := 0) (off := 0) (t := 16) (n := 0) O zc_9 (by decide) rfl tw_287 dX10_nextFor_1 (zr_gS (ci := 6) (j := 0) (off := 1) (t := 15) (n := 0) O zc_6 (by decide) rfl tw_172 dX10_nextFor_4 (zr_astore_n O dX10_nextFor_7 rfl (zr_aload_n O dX10_nextFor_8 rfl (zr_aload_n O dX10_nextFor_9 rfl (zr_gS (ci := 9) (j := 9) (off := 181) (t := 13) (n := 0) O zc_9 (by decide) rfl tw_296 dX10_nextFor_10 (zr_aload_n O dX10_nextFor_13 rfl (zr_cV (ci := 2) (n := 2) O m_X3_putInto (bn_X3_putInto _ ⟨rfl, rfl⟩) vw_X3_putInto tw_357 rc_X3_putInto (zrm hR rfl rfl) dX10_nextFor_14 (zr_iconst (x := (-1)) O dX10_nextFor_17 rfl (zr_istore_n O dX10_nextFor_18 rfl (zr_iconst (x := (-1)) O dX10_nextFor_19 rfl (zr_istore O dX10_nextFor_20 (zr_iconst (x := 0) O dX10_nextFor_22 rfl (zr_istore O dX10_nextFor_23 (B_25)))))))))))))))
  refine ⟨rfl, Nat.le_of_ble_eq_true rfl, _, B_0, ?_⟩
  refine ⟨(S, L, l, x + 181, h.2.2 x 0 + 1), rfl, ⟨hL, hj, hS, hP, by omega, by omega⟩, fun r h1 hq => ?_⟩
  obtain ⟨rfl, hq⟩ := hq
  have hq : oW (lod S L (gN L)) h (x + 181) h1 := hq
  exact ⟨dP S - 0, 0, _, _, _, none, none, none, rfl, Nat.zero_le _, rfl, rfl, rfl, rfl, rfl, sm_mo (oW_sm hq) (by omega) (by omega), oW_rp hq (lod_lt hN10 _ hr)⟩
/-- a listener after some epochs, and how many guesses were wrong in the next -/
def lrW (S : zD) (L : zG) : Nat → zG
  | 0 => L
  | n + 1 => (gN L, gP L, gB L, (lrn S (lrW S L n) (gN L)).1)
theorem lrW_3 (S : zD) (L : zG) : ∀ n, gN (lrW S L n) = gN L ∧ gP (lrW S L n) = gP L ∧ gB (lrW S L n) = gB L
  | 0 => ⟨rfl, rfl, rfl⟩
  | _ + 1 => ⟨rfl, rfl, rfl⟩
def lrw (S : zD) (L : zG) (n : Nat) : Nat := (lrn S (lrW S L n) (gN L)).2
def epN (S : zD) (L : zG) : Nat := if fa_first (fun n => decide (lrw S L n = 0)) 50 < 50 then fa_first (fun n => decide (lrw S L n = 0)) 50 + 1 else 50
theorem rpL_w {L M : zG} {h : zH} {l : Nat} {f : Nat → Int32} (e1 : gN M = gN L) (e2 : gP M = gP L) (e3 : gB M = gB L) (hf : ∀ r, r < 10 → f r = gW M r) (hL : rpL L h l) : rpL M (zsW h (l + 2) f) l := by
  obtain ⟨mN, mP, mB, mW⟩ := M
  have e1 : mN = gN L := e1
  have e2 : mP = gP L := e2
  have e3 : mB = gB L := e3
  subst e1 e2 e3
  exact rpL_of (h.1 l) (h.1 (l + 1)) f (zsW_n _ _ (by omega)) (zsW_n _ _ (by omega)) (zsW_s _ _ _) ⟨hL.1, hL.2.1, hL.2.2.1, hf⟩
def ca_X10_epochsToLearn : (zQ × zG × Nat × Nat) → List zV := fun (Q, L, x, l) => [vR 19 0 x, vR 12 0 l]
def cp_X10_epochsToLearn : (zQ × zG × Nat × Nat) → zH → Prop := fun (Q, L, x, l) h => rpN Q h x ∧ rpL L h l ∧ gInj L ∧ (∀ i, i < gN L → gP L i < dP Q.1) ∧ x + 171 ≤ l
def cq_X10_epochsToLearn : (zQ × zG × Nat × Nat) → zH → Option zV → zH → Prop := fun (Q, L, x, l) h r h' => r = some (vI (nI (epN Q.1 L))) ∧ ∃ f : Nat → Int32, h' = zsW h (l + 2) f ∧ ∀ r, r < 10 → f r = gW (lrW Q.1 L (epN Q.1 L)) r
theorem rc_X10_epochsToLearn : ∀ x : (zQ × zG × Nat × Nat), ∃ (j a : Nat) (As : List zV), ca_X10_epochsToLearn x = vR (10 + 9) j a :: As := by
  rintro ⟨⟨S, K, M⟩, L, x, l⟩
  exact ⟨_, _, _, rfl⟩
set_option maxHeartbeats 4000000 in
set_option maxRecDepth 100000 in
theorem m_X10_epochsToLearn : zM yX10_epochsToLearn cX10_epochsToLearn 3 (some .int) ({ frames := 4, cells := 0, slots := 0, locals := 89 } : Room) ((ca_X10_epochsToLearn, cp_X10_epochsToLearn, cq_X10_epochsToLearn) : zC (zQ × zG × Nat × Nat)) := by
  refine zM_of (by decide) ?_
  rintro X Y ⟨⟨S, K, M⟩, L, x, l⟩ h ⟨hN, hL, hj, hP, hd⟩ O E hR
  have hN : rpN (S, K, M) h x := hN
  have hL : rpL L h l := hL
  have hP : ∀ i, i < gN L → gP L i < dP S := hP
  have hd : x + 171 ≤ l := hd
  have hS : rpS S h (h.2.2 x 0 + 1) := hN.1.1
  have hs1 := hN.2.1
  have hs2 := hN.2.2
  have B_30 := zr_bipush (X := X) (Y := Y) (u := 0) (v := 0) (x := (50)) O dX10_epochsToLearn_30 (by decide) (zr_ireturn O E (Nat.le_refl _) (Nat.le_refl _) dX10_epochsToLearn_32)
  have L_2 : ∀ nn : Nat, zSd X Y 0 0 2 ((fun k ls st h1 => ∃ (n : Nat) (z : Int32) (f : Nat → Int32), k = 50 - n ∧ n ≤ 50 ∧ ls = [some (vR 19 0 x), some (vR 12 0 l), some (vI z)] ∧ z = nI (n + 1) ∧ st = [] ∧ h1 = zsW h (l + 2) f ∧ (∀ r, r < 10 → f r = gW (lrW S L n) r) ∧ ∀ j, j < n → decide (lrw S L j = 0) = false : Nat → zT) nn) := by
    refine zSd_loop (fun nn ih => ?_)
    have B_24 := zr_iinc (X := X) (Y := Y) (u := 0) (v := 0) (c := 1) O dX10_epochsToLearn_24 rfl (zr_goto (tgt := 2) O dX10_epochsToLearn_27 rfl ih)
    have B_2 := zr_iload_n (X := X) (Y := Y) (u := 0) (v := 0) O dX10_epochsToLearn_2 rfl (zr_bipush (x := (50)) O dX10_epochsToLearn_3 (by decide) (zr_icgt (tgt := 30) O dX10_epochsToLearn_5 rfl B_30 (zr_aload_n O dX10_epochsToLearn_8 rfl (zr_aload_n O dX10_epochsToLearn_9 rfl (zr_gR (ci := 9) (j := 0) (off := 0) (t := 16) (n := 0) O zc_9 (by decide) rfl tw_287 dX10_epochsToLearn_10 (zr_gS (ci := 6) (j := 0) (off := 1) (t := 15) (n := 0) O zc_6 (by decide) rfl tw_172 dX10_epochsToLearn_13 (zr_cV (ci := 2) (n := 1) O m_X3_learn (bn_X3_learn _ ⟨rfl, rfl⟩) vw_X3_learn tw_843 rc_X3_learn (zrm hR rfl rfl) dX10_epochsToLearn_16 (zr_ifne (tgt := 24) O dX10_epochsToLearn_19 rfl B_24 (zr_iload_n O dX10_epochsToLearn_22 rfl (zr_ireturn O E (Nat.le_refl _) (Nat.le_refl _) dX10_epochsToLearn_23))))))))))
    refine zSd_weak B_2 (fun ls st h1 t => ?_)
    obtain ⟨n, z, f, rfl, hn, rfl, rfl, rfl, rfl, hf, hb⟩ := t
    refine ⟨fun cq => ?_, fun cq => ?_⟩
    · have := (nI_ltI (a := 50) (by omega) (by omega)).mp cq
      have hn5 : n = 50 := by omega
      subst hn5
      have ep : epN S L = 50 := by rw [epN, if_neg (first_none hb)]
      refine ⟨zri ?_, f, rfl, ?_⟩
      · rw [ep]; rfl
      · rw [ep]; exact hf
    · have hn2 : n < 50 := Nat.not_le.mp (fun z => cq ((nI_ltI (a := 50) (by omega) (by omega)).mpr (by omega)))
      obtain ⟨w1, w2, w3⟩ := lrW_3 S L n
      have hL1 : rpL (lrW S L n) (zsW h (l + 2) f) l := rpL_w w1 w2 w3 hf hL
      have hS1 : rpS S (zsW h (l + 2) f) (h.2.2 x 0 + 1) := rpS_fr (by omega) hS
      have hj1 : gInj (lrW S L n) := by unfold gInj; rw [w1, w2]; exact hj
      have lw := lrn_le S (lrW S L n) (gN L)
      have h28 := hL.1.2
      refine ⟨(S, lrW S L n, l, h.2.2 x 0 + 1), rfl, ⟨hL1, hj1, hS1, by rw [w1, w2]; exact hP, by omega⟩, fun r h2 hq => ?_⟩
      obtain ⟨rfl, f2, rfl, hf2⟩ := hq
      replace hf2 : ∀ r, r < 10 → f2 r = (lrn S (lrW S L n) (gN (lrW S L n))).1 r := hf2
      rw [w1] at hf2
      refine ⟨fun dq => ?_, fun dq => ?_⟩
      · replace dq : ¬ nI (lrn S (lrW S L n) (gN (lrW S L n))).2 = 0 := dq
        rw [w1] at dq
        have hz : lrw S L n ≠ 0 := fun z => dq (by show nI (lrw S L n) = 0; rw [z]; rfl)
        refine ⟨50 - (n + 1), by omega, n + 1, _, f2, rfl, by omega, rfl, nI_1 (n + 1), rfl, zsW_W _ _ _ _, hf2, fun j hj => ?_⟩
        by_cases hjn : j = n
        · rw [hjn]; exact decide_eq_false hz
        · exact hb j (by omega)
      · replace dq : nI (lrn S (lrW S L n) (gN (lrW S L n))).2 = 0 := dq
        rw [w1] at dq
        have hz : lrw S L n = 0 := (nI_eq (b := 0) (by show (lrn S (lrW S L n) (gN L)).2 < _; omega) (by omega)).mp dq
        have ef : fa_first (fun n => decide (lrw S L n = 0)) 50 = n := first_at hn2 (decide_eq_true hz) hb
        have ep : epN S L = n + 1 := by rw [epN, ef, if_pos hn2]
        refine ⟨zri ?_, f2, zsW_W _ _ _ _, ?_⟩
        · rw [ep]
        · rw [ep]; exact hf2
  have B_2 := zSd_any L_2
  have B_0 := zr_iconst (X := X) (Y := Y) (u := 0) (v := 0) (x := 1) O dX10_epochsToLearn_0 rfl (zr_istore_n O dX10_epochsToLearn_1 rfl (B_2))
  refine ⟨rfl, Nat.le_of_ble_eq_true rfl, _, B_0, ?_⟩
  exact ⟨50 - 0, 0, _, h.1 (l + 2), rfl, Nat.zero_le _, rfl, rfl, rfl, (zsW_self h (l + 2)).symm, hL.2.2.2, fun j hj => absurd hj (by omega)⟩

