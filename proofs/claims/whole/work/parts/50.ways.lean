theorem dX10_guardFor_137 : decode cX10_guardFor 137 = .ok (.iload 5, 2) := by decide +kernel
theorem dX10_guardFor_139 : decode cX10_guardFor 139 = .ok (.sipush 999, 3) := by decide +kernel
theorem dX10_guardFor_142 : decode cX10_guardFor 142 = .ok (.invokestatic 249, 3) := by decide +kernel
theorem dX10_guardFor_145 : decode cX10_guardFor 145 = .ok (.ireturn, 1) := by decide +kernel
theorem dX10_guardFor_131 : decode cX10_guardFor 131 = .ok (.iinc 6 1, 3) := by decide +kernel
theorem dX10_guardFor_134 : decode cX10_guardFor 134 = .ok (.goto (-53), 3) := by decide +kernel
theorem dX10_guardFor_81 : decode cX10_guardFor 81 = .ok (.iload 6, 2) := by decide +kernel
theorem dX10_guardFor_83 : decode cX10_guardFor 83 = .ok (.aload_n 2, 1) := by decide +kernel
theorem dX10_guardFor_84 : decode cX10_guardFor 84 = .ok (.getfield 114, 3) := by decide +kernel
theorem dX10_guardFor_87 : decode cX10_guardFor 87 = .ok (.if_icmp .ge 50, 3) := by decide +kernel
theorem dX10_guardFor_90 : decode cX10_guardFor 90 = .ok (.aload_n 0, 1) := by decide +kernel
theorem dX10_guardFor_91 : decode cX10_guardFor 91 = .ok (.getfield 65, 3) := by decide +kernel
theorem dX10_guardFor_94 : decode cX10_guardFor 94 = .ok (.iload 6, 2) := by decide +kernel
theorem dX10_guardFor_96 : decode cX10_guardFor 96 = .ok (.iaload, 1) := by decide +kernel
theorem dX10_guardFor_97 : decode cX10_guardFor 97 = .ok (.iconst 1, 1) := by decide +kernel
theorem dX10_guardFor_98 : decode cX10_guardFor 98 = .ok (.isub, 1) := by decide +kernel
theorem dX10_guardFor_99 : decode cX10_guardFor 99 = .ok (.iload 5, 2) := by decide +kernel
theorem dX10_guardFor_101 : decode cX10_guardFor 101 = .ok (.if_icmp .le 30, 3) := by decide +kernel
theorem dX10_guardFor_104 : decode cX10_guardFor 104 = .ok (.aload_n 0, 1) := by decide +kernel
theorem dX10_guardFor_105 : decode cX10_guardFor 105 = .ok (.aload_n 0, 1) := by decide +kernel
theorem dX10_guardFor_106 : decode cX10_guardFor 106 = .ok (.getfield 65, 3) := by decide +kernel
theorem dX10_guardFor_109 : decode cX10_guardFor 109 = .ok (.iload 6, 2) := by decide +kernel
theorem dX10_guardFor_111 : decode cX10_guardFor 111 = .ok (.iaload, 1) := by decide +kernel
theorem dX10_guardFor_112 : decode cX10_guardFor 112 = .ok (.invokevirtual 307, 3) := by decide +kernel
theorem dX10_guardFor_115 : decode cX10_guardFor 115 = .ok (.iload 4, 2) := by decide +kernel
theorem dX10_guardFor_117 : decode cX10_guardFor 117 = .ok (.if_icmp .lt 14, 3) := by decide +kernel
theorem dX10_guardFor_120 : decode cX10_guardFor 120 = .ok (.aload_n 0, 1) := by decide +kernel
theorem dX10_guardFor_121 : decode cX10_guardFor 121 = .ok (.getfield 65, 3) := by decide +kernel
theorem dX10_guardFor_124 : decode cX10_guardFor 124 = .ok (.iload 6, 2) := by decide +kernel
theorem dX10_guardFor_126 : decode cX10_guardFor 126 = .ok (.iaload, 1) := by decide +kernel
theorem dX10_guardFor_127 : decode cX10_guardFor 127 = .ok (.iconst 1, 1) := by decide +kernel
theorem dX10_guardFor_128 : decode cX10_guardFor 128 = .ok (.isub, 1) := by decide +kernel
theorem dX10_guardFor_129 : decode cX10_guardFor 129 = .ok (.istore 5, 2) := by decide +kernel
theorem dX10_guardFor_67 : decode cX10_guardFor 67 = .ok (.iload_n 1, 1) := by decide +kernel
theorem dX10_guardFor_68 : decode cX10_guardFor 68 = .ok (.iload_n 3, 1) := by decide +kernel
theorem dX10_guardFor_69 : decode cX10_guardFor 69 = .ok (.invokestatic 263, 3) := by decide +kernel
theorem dX10_guardFor_72 : decode cX10_guardFor 72 = .ok (.imul, 1) := by decide +kernel
theorem dX10_guardFor_73 : decode cX10_guardFor 73 = .ok (.istore 4, 2) := by decide +kernel
theorem dX10_guardFor_75 : decode cX10_guardFor 75 = .ok (.iconst (-1), 1) := by decide +kernel
theorem dX10_guardFor_76 : decode cX10_guardFor 76 = .ok (.istore 5, 2) := by decide +kernel
theorem dX10_guardFor_78 : decode cX10_guardFor 78 = .ok (.iconst 0, 1) := by decide +kernel
theorem dX10_guardFor_79 : decode cX10_guardFor 79 = .ok (.istore 6, 2) := by decide +kernel
theorem dX10_guardFor_39 : decode cX10_guardFor 39 = .ok (.iload 4, 2) := by decide +kernel
theorem dX10_guardFor_41 : decode cX10_guardFor 41 = .ok (.aload_n 2, 1) := by decide +kernel
theorem dX10_guardFor_42 : decode cX10_guardFor 42 = .ok (.getfield 114, 3) := by decide +kernel
theorem dX10_guardFor_45 : decode cX10_guardFor 45 = .ok (.if_icmp .ge 22, 3) := by decide +kernel
theorem dX10_guardFor_48 : decode cX10_guardFor 48 = .ok (.aload_n 0, 1) := by decide +kernel
theorem dX10_guardFor_49 : decode cX10_guardFor 49 = .ok (.getfield 65, 3) := by decide +kernel
theorem dX10_guardFor_52 : decode cX10_guardFor 52 = .ok (.iload 4, 2) := by decide +kernel
theorem dX10_guardFor_54 : decode cX10_guardFor 54 = .ok (.aload_n 2, 1) := by decide +kernel
theorem dX10_guardFor_55 : decode cX10_guardFor 55 = .ok (.iload 4, 2) := by decide +kernel
theorem dX10_guardFor_57 : decode cX10_guardFor 57 = .ok (.invokevirtual 223, 3) := by decide +kernel
theorem dX10_guardFor_60 : decode cX10_guardFor 60 = .ok (.iastore, 1) := by decide +kernel
theorem dX10_guardFor_61 : decode cX10_guardFor 61 = .ok (.iinc 4 1, 3) := by decide +kernel
theorem dX10_guardFor_64 : decode cX10_guardFor 64 = .ok (.goto (-25), 3) := by decide +kernel
theorem dX10_guardFor_36 : decode cX10_guardFor 36 = .ok (.iconst 0, 1) := by decide +kernel
theorem dX10_guardFor_37 : decode cX10_guardFor 37 = .ok (.istore 4, 2) := by decide +kernel
theorem dX10_guardFor_0 : decode cX10_guardFor 0 = .ok (.aload_n 0, 1) := by decide +kernel
theorem dX10_guardFor_1 : decode cX10_guardFor 1 = .ok (.iload_n 1, 1) := by decide +kernel
theorem dX10_guardFor_2 : decode cX10_guardFor 2 = .ok (.iconst 1, 1) := by decide +kernel
theorem dX10_guardFor_3 : decode cX10_guardFor 3 = .ok (.bipush 28, 2) := by decide +kernel
theorem dX10_guardFor_5 : decode cX10_guardFor 5 = .ok (.invokevirtual 77, 3) := by decide +kernel
theorem dX10_guardFor_8 : decode cX10_guardFor 8 = .ok (.aload_n 0, 1) := by decide +kernel
theorem dX10_guardFor_9 : decode cX10_guardFor 9 = .ok (.getfield 10, 3) := by decide +kernel
theorem dX10_guardFor_12 : decode cX10_guardFor 12 = .ok (.getfield 85, 3) := by decide +kernel
theorem dX10_guardFor_15 : decode cX10_guardFor 15 = .ok (.astore_n 2, 1) := by decide +kernel
theorem dX10_guardFor_16 : decode cX10_guardFor 16 = .ok (.aload_n 2, 1) := by decide +kernel
theorem dX10_guardFor_17 : decode cX10_guardFor 17 = .ok (.getfield 127, 3) := by decide +kernel
theorem dX10_guardFor_20 : decode cX10_guardFor 20 = .ok (.iconst 4, 1) := by decide +kernel
theorem dX10_guardFor_21 : decode cX10_guardFor 21 = .ok (.iaload, 1) := by decide +kernel
theorem dX10_guardFor_22 : decode cX10_guardFor 22 = .ok (.istore_n 3, 1) := by decide +kernel
theorem dX10_guardFor_23 : decode cX10_guardFor 23 = .ok (.iload_n 1, 1) := by decide +kernel
theorem dX10_guardFor_24 : decode cX10_guardFor 24 = .ok (.iload_n 3, 1) := by decide +kernel
theorem dX10_guardFor_25 : decode cX10_guardFor 25 = .ok (.invokestatic 153, 3) := by decide +kernel
theorem dX10_guardFor_28 : decode cX10_guardFor 28 = .ok (.imul, 1) := by decide +kernel
theorem dX10_guardFor_29 : decode cX10_guardFor 29 = .ok (.bipush 16, 2) := by decide +kernel
theorem dX10_guardFor_31 : decode cX10_guardFor 31 = .ok (.if_icmp .le 5, 3) := by decide +kernel
theorem dX10_guardFor_34 : decode cX10_guardFor 34 = .ok (.iconst (-1), 1) := by decide +kernel
theorem dX10_guardFor_35 : decode cX10_guardFor 35 = .ok (.ireturn, 1) := by decide +kernel
theorem dX10_ways_81 : decode cX10_ways 81 = .ok (.istore_n 2, 1) := by decide +kernel
theorem dX10_ways_82 : decode cX10_ways 82 = .ok (.aload_n 0, 1) := by decide +kernel
theorem dX10_ways_83 : decode cX10_ways 83 = .ok (.getfield 54, 3) := by decide +kernel
theorem dX10_ways_86 : decode cX10_ways 86 = .ok (.aload_n 0, 1) := by decide +kernel
theorem dX10_ways_87 : decode cX10_ways 87 = .ok (.getfield 10, 3) := by decide +kernel
theorem dX10_ways_90 : decode cX10_ways 90 = .ok (.getfield 85, 3) := by decide +kernel
theorem dX10_ways_93 : decode cX10_ways 93 = .ok (.iload_n 2, 1) := by decide +kernel
theorem dX10_ways_94 : decode cX10_ways 94 = .ok (.invokevirtual 317, 3) := by decide +kernel
theorem dX10_ways_97 : decode cX10_ways 97 = .ok (.lreturn, 1) := by decide +kernel
theorem dX10_ways_71 : decode cX10_ways 71 = .ok (.aload_n 0, 1) := by decide +kernel
theorem dX10_ways_72 : decode cX10_ways 72 = .ok (.getfield 10, 3) := by decide +kernel
theorem dX10_ways_75 : decode cX10_ways 75 = .ok (.getfield 85, 3) := by decide +kernel
theorem dX10_ways_78 : decode cX10_ways 78 = .ok (.invokevirtual 143, 3) := by decide +kernel
theorem dX10_ways_54 : decode cX10_ways 54 = .ok (.iload_n 1, 1) := by decide +kernel
theorem dX10_ways_55 : decode cX10_ways 55 = .ok (.ifCond .ne 16, 3) := by decide +kernel
theorem dX10_ways_58 : decode cX10_ways 58 = .ok (.aload_n 0, 1) := by decide +kernel
theorem dX10_ways_59 : decode cX10_ways 59 = .ok (.getfield 10, 3) := by decide +kernel
theorem dX10_ways_62 : decode cX10_ways 62 = .ok (.getfield 85, 3) := by decide +kernel
theorem dX10_ways_65 : decode cX10_ways 65 = .ok (.invokevirtual 320, 3) := by decide +kernel
theorem dX10_ways_68 : decode cX10_ways 68 = .ok (.goto 13, 3) := by decide +kernel
theorem dX10_ways_53 : decode cX10_ways 53 = .ok (.lreturn, 1) := by decide +kernel
theorem dX10_ways_29 : decode cX10_ways 29 = .ok (.aload_n 0, 1) := by decide +kernel
theorem dX10_ways_30 : decode cX10_ways 30 = .ok (.getfield 54, 3) := by decide +kernel
theorem dX10_ways_33 : decode cX10_ways 33 = .ok (.aload_n 0, 1) := by decide +kernel
theorem dX10_ways_34 : decode cX10_ways 34 = .ok (.getfield 10, 3) := by decide +kernel
theorem dX10_ways_37 : decode cX10_ways 37 = .ok (.getfield 85, 3) := by decide +kernel
theorem dX10_ways_40 : decode cX10_ways 40 = .ok (.aload_n 0, 1) := by decide +kernel
theorem dX10_ways_41 : decode cX10_ways 41 = .ok (.getfield 10, 3) := by decide +kernel
theorem dX10_ways_44 : decode cX10_ways 44 = .ok (.getfield 98, 3) := by decide +kernel
theorem dX10_ways_47 : decode cX10_ways 47 = .ok (.invokevirtual 314, 3) := by decide +kernel
theorem dX10_ways_50 : decode cX10_ways 50 = .ok (.invokevirtual 317, 3) := by decide +kernel
theorem dX10_ways_0 : decode cX10_ways 0 = .ok (.aload_n 0, 1) := by decide +kernel
theorem dX10_ways_1 : decode cX10_ways 1 = .ok (.iload_n 1, 1) := by decide +kernel
theorem dX10_ways_2 : decode cX10_ways 2 = .ok (.iconst 0, 1) := by decide +kernel
theorem dX10_ways_3 : decode cX10_ways 3 = .ok (.iconst 2, 1) := by decide +kernel
theorem dX10_ways_4 : decode cX10_ways 4 = .ok (.invokevirtual 77, 3) := by decide +kernel
theorem dX10_ways_7 : decode cX10_ways 7 = .ok (.iload_n 1, 1) := by decide +kernel
theorem dX10_ways_8 : decode cX10_ways 8 = .ok (.iconst 2, 1) := by decide +kernel
theorem dX10_ways_9 : decode cX10_ways 9 = .ok (.if_icmp .ne 45, 3) := by decide +kernel
theorem dX10_ways_12 : decode cX10_ways 12 = .ok (.aload_n 0, 1) := by decide +kernel
theorem dX10_ways_13 : decode cX10_ways 13 = .ok (.getfield 10, 3) := by decide +kernel
theorem dX10_ways_16 : decode cX10_ways 16 = .ok (.getfield 98, 3) := by decide +kernel
theorem dX10_ways_19 : decode cX10_ways 19 = .ok (.invokevirtual 310, 3) := by decide +kernel
theorem dX10_ways_22 : decode cX10_ways 22 = .ok (.ifCond .eq 7, 3) := by decide +kernel
theorem dX10_ways_25 : decode cX10_ways 25 = .ok (.lconst 0, 1) := by decide +kernel
theorem dX10_ways_26 : decode cX10_ways 26 = .ok (.goto 27, 3) := by decide +kernel
theorem dX10_leak_113 : decode cX10_leak 113 = .ok (.aload_n 0, 1) := by decide +kernel
theorem dX10_leak_114 : decode cX10_leak 114 = .ok (.getfield 10, 3) := by decide +kernel
theorem dX10_leak_117 : decode cX10_leak 117 = .ok (.getfield 107, 3) := by decide +kernel
theorem dX10_leak_120 : decode cX10_leak 120 = .ok (.aload_n 0, 1) := by decide +kernel
theorem dX10_leak_121 : decode cX10_leak 121 = .ok (.getfield 37, 3) := by decide +kernel
theorem dX10_leak_124 : decode cX10_leak 124 = .ok (.aload_n 0, 1) := by decide +kernel
theorem dX10_leak_125 : decode cX10_leak 125 = .ok (.getfield 10, 3) := by decide +kernel
theorem dX10_leak_128 : decode cX10_leak 128 = .ok (.getfield 85, 3) := by decide +kernel
theorem dX10_leak_131 : decode cX10_leak 131 = .ok (.invokevirtual 232, 3) := by decide +kernel
theorem dX10_leak_134 : decode cX10_leak 134 = .ok (.aload_n 0, 1) := by decide +kernel
theorem dX10_leak_135 : decode cX10_leak 135 = .ok (.getfield 61, 3) := by decide +kernel
theorem dX10_leak_138 : decode cX10_leak 138 = .ok (.aload_n 0, 1) := by decide +kernel
theorem dX10_leak_139 : decode cX10_leak 139 = .ok (.getfield 10, 3) := by decide +kernel
theorem dX10_leak_142 : decode cX10_leak 142 = .ok (.getfield 85, 3) := by decide +kernel
theorem dX10_leak_145 : decode cX10_leak 145 = .ok (.aload_n 0, 1) := by decide +kernel
theorem dX10_leak_146 : decode cX10_leak 146 = .ok (.getfield 10, 3) := by decide +kernel
theorem dX10_leak_149 : decode cX10_leak 149 = .ok (.getfield 98, 3) := by decide +kernel
theorem dX10_leak_152 : decode cX10_leak 152 = .ok (.aload_n 0, 1) := by decide +kernel
theorem dX10_leak_153 : decode cX10_leak 153 = .ok (.getfield 37, 3) := by decide +kernel
theorem dX10_leak_156 : decode cX10_leak 156 = .ok (.invokevirtual 330, 3) := by decide +kernel
theorem dX10_leak_159 : decode cX10_leak 159 = .ok (.ireturn, 1) := by decide +kernel
theorem dX10_leak_80 : decode cX10_leak 80 = .ok (.aload_n 0, 1) := by decide +kernel
theorem dX10_leak_81 : decode cX10_leak 81 = .ok (.getfield 37, 3) := by decide +kernel
theorem dX10_leak_84 : decode cX10_leak 84 = .ok (.invokevirtual 329, 3) := by decide +kernel
theorem dX10_leak_87 : decode cX10_leak 87 = .ok (.aload_n 0, 1) := by decide +kernel
theorem dX10_leak_88 : decode cX10_leak 88 = .ok (.getfield 61, 3) := by decide +kernel
theorem dX10_leak_91 : decode cX10_leak 91 = .ok (.aload_n 0, 1) := by decide +kernel
theorem dX10_leak_92 : decode cX10_leak 92 = .ok (.getfield 10, 3) := by decide +kernel
theorem dX10_leak_95 : decode cX10_leak 95 = .ok (.getfield 85, 3) := by decide +kernel
theorem dX10_leak_98 : decode cX10_leak 98 = .ok (.aload_n 0, 1) := by decide +kernel
theorem dX10_leak_99 : decode cX10_leak 99 = .ok (.getfield 10, 3) := by decide +kernel
theorem dX10_leak_102 : decode cX10_leak 102 = .ok (.getfield 98, 3) := by decide +kernel
theorem dX10_leak_105 : decode cX10_leak 105 = .ok (.aload_n 0, 1) := by decide +kernel
theorem dX10_leak_106 : decode cX10_leak 106 = .ok (.getfield 37, 3) := by decide +kernel
theorem dX10_leak_109 : decode cX10_leak 109 = .ok (.invokevirtual 330, 3) := by decide +kernel
theorem dX10_leak_112 : decode cX10_leak 112 = .ok (.ireturn, 1) := by decide +kernel
theorem dX10_leak_60 : decode cX10_leak 60 = .ok (.iconst 0, 1) := by decide +kernel
theorem dX10_leak_61 : decode cX10_leak 61 = .ok (.aload_n 0, 1) := by decide +kernel
theorem dX10_leak_62 : decode cX10_leak 62 = .ok (.invokevirtual 323, 3) := by decide +kernel
theorem dX10_leak_65 : decode cX10_leak 65 = .ok (.aload_n 0, 1) := by decide +kernel
theorem dX10_leak_66 : decode cX10_leak 66 = .ok (.getfield 10, 3) := by decide +kernel
theorem dX10_leak_69 : decode cX10_leak 69 = .ok (.getfield 98, 3) := by decide +kernel
theorem dX10_leak_72 : decode cX10_leak 72 = .ok (.invokevirtual 326, 3) := by decide +kernel
theorem dX10_leak_75 : decode cX10_leak 75 = .ok (.isub, 1) := by decide +kernel
theorem dX10_leak_76 : decode cX10_leak 76 = .ok (.invokestatic 291, 3) := by decide +kernel
theorem dX10_leak_79 : decode cX10_leak 79 = .ok (.ireturn, 1) := by decide +kernel
theorem dX10_leak_49 : decode cX10_leak 49 = .ok (.aload_n 0, 1) := by decide +kernel
theorem dX10_leak_50 : decode cX10_leak 50 = .ok (.getfield 10, 3) := by decide +kernel
theorem dX10_leak_53 : decode cX10_leak 53 = .ok (.getfield 98, 3) := by decide +kernel
theorem dX10_leak_56 : decode cX10_leak 56 = .ok (.invokevirtual 326, 3) := by decide +kernel
theorem dX10_leak_59 : decode cX10_leak 59 = .ok (.ireturn, 1) := by decide +kernel
theorem dX10_leak_44 : decode cX10_leak 44 = .ok (.aload_n 0, 1) := by decide +kernel
theorem dX10_leak_45 : decode cX10_leak 45 = .ok (.invokevirtual 323, 3) := by decide +kernel
theorem dX10_leak_48 : decode cX10_leak 48 = .ok (.ireturn, 1) := by decide +kernel
theorem dX10_leak_0 : decode cX10_leak 0 = .ok (.aload_n 0, 1) := by decide +kernel
theorem dX10_leak_1 : decode cX10_leak 1 = .ok (.invokevirtual 171, 3) := by decide +kernel
theorem dX10_leak_4 : decode cX10_leak 4 = .ok (.aload_n 0, 1) := by decide +kernel
theorem dX10_leak_5 : decode cX10_leak 5 = .ok (.iload_n 1, 1) := by decide +kernel
theorem dX10_leak_6 : decode cX10_leak 6 = .ok (.iconst 0, 1) := by decide +kernel
theorem dX10_leak_7 : decode cX10_leak 7 = .ok (.iconst 4, 1) := by decide +kernel
theorem dX10_leak_8 : decode cX10_leak 8 = .ok (.invokevirtual 77, 3) := by decide +kernel
theorem dX10_leak_11 : decode cX10_leak 11 = .ok (.iload_n 1, 1) := by decide +kernel
theorem dX10_leak_12 : decode cX10_leak 12 = .ok (.tableswitch 101 0 3 #[32, 37, 48, 68], 32) := by decide +kernel
/-! guards, ways, leaks -/
def gdb (S : zD) (wn : Nat) : Nat → Int32
  | 0 => -1
  | i + 1 => if ¬ mrg S i - 1 ≤ gdb S wn i ∧ wn ≤ fb_ct (fun j => decide (mrg S i ≤ mrg S j)) (dP S) then mrg S i - 1 else gdb S wn i
def gdf (S : zD) (b : Nat) : Int32 := if 16 < b * btR (dR S) then -1 else mn2 (gdb S (b * lnR (dR S)) (dP S)) 999
def ca_X10_guardFor : (zQ × Nat × Int32) → List zV := fun (Q, x, b) => [vR 19 0 x, vI b]
def cp_X10_guardFor : (zQ × Nat × Int32) → zH → Prop := fun (Q, x, b) h => rpN Q h x ∧ vS Q.1
def cq_X10_guardFor : (zQ × Nat × Int32) → zH → Option zV → zH → Prop := fun (Q, x, b) h r h' => gR b 1 28 ∧ r = some (vI (gdf Q.1 (cN b))) ∧ qf x h h'
def cx_X10_guardFor : (zQ × Nat × Int32) → zH → String → zH → Prop := fun (Q, x, b) h E h' => ¬ gR b 1 28 ∧ xIA x h E h'
theorem rc_X10_guardFor : ∀ x : (zQ × Nat × Int32), ∃ (j a : Nat) (As : List zV), ca_X10_guardFor x = vR (10 + 9) j a :: As := by
  rintro ⟨⟨S, K, M⟩, x, b⟩
  exact ⟨_, _, _, rfl⟩
set_option maxHeartbeats 4000000 in
set_option maxRecDepth 100000 in
theorem m_X10_guardFor : zMx yX10_guardFor cX10_guardFor 7 (some .int) ({ frames := 8, cells := 1, slots := 6, locals := 125 } : Room) ((ca_X10_guardFor, cp_X10_guardFor, cq_X10_guardFor) : zC (zQ × Nat × Int32)) cx_X10_guardFor := by
  refine zMx_of (by decide) ?_
  rintro X Y ⟨⟨S, K, M⟩, x, b⟩ h ⟨hN, hv⟩ O Ex hR
  have E := zEx_E Ex
  have hN : rpN (S, K, M) h x := hN
  have hS : rpS S h (h.2.2 x 0 + 1) := hN.1.1
  have hv : vS S := hv
  have hP28 := hS.2.1.2
  have hs1 : x < h.2.2 x 0 := hN.2.1
  have hs2 : h.2.2 x 0 + 13 ≤ x + 171 := hN.2.2
  have hln := lnR_pos hv.2.2.2.2.2.2
  have t4 : h.1 (h.2.2 x 0 + 1 + 6) 4 = nI (dR S) := by rw [hS.2.2.2.2 4 (by decide)]; exact hv.2.2.2.2.2.1
  have B_137 := zr_iload (X := X) (Y := Y) (u := 1) (v := 6) O dX10_guardFor_137 (zr_sipush (x := (999)) O dX10_guardFor_139 (by decide) (zr_min O zwm tw_406 (zrx hR rfl rfl rfl rfl) dX10_guardFor_142 (zr_ireturn O E (Nat.le_of_ble_eq_true rfl) (Nat.le_of_ble_eq_true rfl) dX10_guardFor_145)))
  have L_81 : ∀ nn : Nat, zSd X Y 1 6 81 ((fun k ls st h1 => ∃ (i q : Nat) (y5 y6 : Int32) (f : Nat → Int32), k = dP S - i ∧ i ≤ dP S ∧ ls = [some (vR 19 0 x), some (vI b), some (vR 15 0 (h.2.2 x 0 + 1)), some (vI (nI (dR S))), some (vI (nI (q * lnR (dR S)))), some (vI y5), some (vI y6)] ∧ y5 = gdb S (q * lnR (dR S)) i ∧ y6 = nI i ∧ st = [] ∧ h1 = zsW h (x + 228) f ∧ (∀ j, j < dP S → f j = mrg S j) ∧ (b = nI q ∧ 1 ≤ q ∧ q ≤ 28) ∧ ¬ 16 < q * btR (dR S) : Nat → zT) nn) := by
    refine zSd_loop (fun nn ih => ?_)
    have B_131 := zr_iinc (X := X) (Y := Y) (u := 1) (v := 6) (c := 1) O dX10_guardFor_131 rfl (zr_goto (tgt := 81) O dX10_guardFor_134 rfl ih)
    have B_81 := zr_iload (X := X) (Y := Y) (u := 1) (v := 6) O dX10_guardFor_81 (zr_aload_n O dX10_guardFor_83 rfl (zr_gI (ci := 5) (j := 4) O zc_5 (by decide) rfl tw_55 dX10_guardFor_84 (zr_icge (tgt := 137) O dX10_guardFor_87 rfl B_137 (zr_aload_n O dX10_guardFor_90 rfl (zr_gS (ci := 9) (j := 14) (off := 228) (t := 1) (n := 28) O zc_9 (by decide) rfl tw_301 dX10_guardFor_91 (zr_iload O dX10_guardFor_94 (zr_iald O dX10_guardFor_96 (zr_iconst (x := 1) O dX10_guardFor_97 rfl (zr_isub O dX10_guardFor_98 (zr_iload O dX10_guardFor_99 (zr_icle (tgt := 131) O dX10_guardFor_101 rfl B_131 (zr_aload_n O dX10_guardFor_104 rfl (zr_aload_n O dX10_guardFor_105 rfl (zr_gS (ci := 9) (j := 14) (off := 228) (t := 1) (n := 28) O zc_9 (by decide) rfl tw_301 dX10_guardFor_106 (zr_iload O dX10_guardFor_109 (zr_iald O dX10_guardFor_111 (zr_cI (zr_cV (ci := 9) (n := 1) O m_X10_marginsFrom (bn_X10_marginsFrom _ ⟨rfl, rfl⟩) vw_X10_marginsFrom tw_1077 rc_X10_marginsFrom (zrx hR rfl rfl rfl rfl) dX10_guardFor_112 (zr_iload O dX10_guardFor_115 (zr_iclt (tgt := 131) O dX10_guardFor_117 rfl B_131 (zr_aload_n O dX10_guardFor_120 rfl (zr_gS (ci := 9) (j := 14) (off := 228) (t := 1) (n := 28) O zc_9 (by decide) rfl tw_301 dX10_guardFor_121 (zr_iload O dX10_guardFor_124 (zr_iald O dX10_guardFor_126 (zr_iconst (x := 1) O dX10_guardFor_127 rfl (zr_isub O dX10_guardFor_128 (zr_istore O dX10_guardFor_129 (B_131))))))))))))))))))))))))))))
    refine zSd_weak B_81 (fun ls st h1 t => ?_)
    obtain ⟨i, q, y5, y6, f, rfl, hi, rfl, rfl, rfl, rfl, rfl, hf, ⟨rfl, hq1, hq2⟩, hb⟩ := t
    have eq : cN (nI q) = q := nI_clamp (by omega)
    have g1 : gR (nI q) 1 28 := ⟨nI_le (a := 1) hq1 (by omega), nI_le (b := 28) hq2 (by decide)⟩
    have hS1 : rpS S (zsW h (x + 228) f) (h.2.2 x 0 + 1) := rpS_fr (by omega) hS
    have hN1 : rpN (S, K, M) (zsW h (x + 228) f) x := rpN_sm (sm_W h f (Nat.le_refl _) (by omega : x + 228 < x + 228 + 1)) (by omega) hN
    have ef : (zsW h (x + 228) f).1 (x + 228) = f := zsW_s _ _ _
    have s1 : qf x h (zsW h (x + 228) f) := sn_sm (sm_W h f (Nat.le_refl _) (by omega : x + 228 < x + 228 + 1)) (by omega) (by omega)
    have hm : q * lnR (dR S) ≤ 28 * 7 := Nat.mul_le_mul (by omega) (by omega)
    refine ⟨fun c => ⟨g1, zri ?_, s1⟩, fun c => ?_⟩
    · rw [hS1.2.1.1] at c
      have := (nI_leI (by omega) (by omega)).mp c
      have hi2 : i = dP S := by omega
      subst hi2
      rw [eq, gdf, if_neg hb]; rfl
    · rw [hS1.2.1.1] at c
      have hi2 : i < dP S := Nat.not_le.mp (fun z => c ((nI_leI (by omega) (by omega)).mpr z))
      have fi := hf i hi2
      have ect : fb_ct (fun j => decide (f i ≤ (zsW h (x + 228) f).1 (x + 228) j)) (dP S) = fb_ct (fun j => decide (mrg S i ≤ mrg S j)) (dP S) := fb_ct_cong (fun j hj => by rw [ef, fi, hf j hj])
      have hcl : fb_ct (fun j => decide (mrg S i ≤ mrg S j)) (dP S) ≤ dP S := fb_ct_le _ _
      have same : ¬ (¬ mrg S i - 1 ≤ gdb S (q * lnR (dR S)) i ∧ q * lnR (dR S) ≤ fb_ct (fun j => decide (mrg S i ≤ mrg S j)) (dP S)) → gdb S (q * lnR (dR S)) (i + 1) = gdb S (q * lnR (dR S)) i := fun z => by rw [gdb, if_neg z]
      refine ⟨i, rfl, by omega, fun d => ?_, fun d => ⟨i, rfl, by omega, ((S, K, M), x, f i), by rw [ef]; rfl, hN1, fun e => ?_, fun e => ⟨i, rfl, by omega, ?_⟩⟩⟩
      · rw [ef, fi] at d
        exact ⟨dP S - (i + 1), by omega, i + 1, q, _, _, f, rfl, by omega, rfl, (same (fun z => z.1 d)).symm, nI_1 i, rfl, rfl, hf, ⟨rfl, hq1, hq2⟩, hb⟩
      · rw [ef, fi] at d
        replace e : nI (fb_ct (fun j => decide (f i ≤ (zsW h (x + 228) f).1 (x + 228) j)) (dP S)) < nI (q * lnR (dR S)) := e
        rw [ect] at e
        have e2 := (nI_ltI (by omega) (by omega)).mp e
        exact ⟨dP S - (i + 1), by omega, i + 1, q, _, _, f, rfl, by omega, rfl, (same (fun z => absurd z.2 (by omega))).symm, nI_1 i, rfl, rfl, hf, ⟨rfl, hq1, hq2⟩, hb⟩
      · rw [ef, fi] at d
        replace e : ¬ nI (fb_ct (fun j => decide (f i ≤ (zsW h (x + 228) f).1 (x + 228) j)) (dP S)) < nI (q * lnR (dR S)) := e
        rw [ect] at e
        have e2 : ¬ fb_ct (fun j => decide (mrg S i ≤ mrg S j)) (dP S) < q * lnR (dR S) := fun z => e ((nI_ltI (by omega) (by omega)).mpr z)
        refine ⟨dP S - (i + 1), by omega, i + 1, q, _, _, f, rfl, by omega, rfl, ?_, nI_1 i, rfl, rfl, hf, ⟨rfl, hq1, hq2⟩, hb⟩
        rw [ef, fi, gdb, if_pos ⟨d, by omega⟩]
  have B_81 := zSd_any L_81
  have B_67 := zr_iload_n (X := X) (Y := Y) (u := 1) (v := 6) O dX10_guardFor_67 rfl (zr_iload_n O dX10_guardFor_68 rfl (zr_cI (zr_cS (n := 1) O m_X0_lengthOf (bn_X0_lengthOf _ ⟨rfl, rfl⟩) tw_773 tw_981 (zrx hR rfl rfl rfl rfl) dX10_guardFor_69 (zr_imul O dX10_guardFor_72 (zr_istore O dX10_guardFor_73 (zr_iconst (x := (-1)) O dX10_guardFor_75 rfl (zr_istore O dX10_guardFor_76 (zr_iconst (x := 0) O dX10_guardFor_78 rfl (zr_istore O dX10_guardFor_79 (B_81))))))))))
  have L_39 : ∀ nn : Nat, zSd X Y 1 6 39 ((fun k ls st h1 => ∃ (i q : Nat) (y4 : Int32) (f : Nat → Int32), k = dP S - i ∧ i ≤ dP S ∧ ls = [some (vR 19 0 x), some (vI b), some (vR 15 0 (h.2.2 x 0 + 1)), some (vI (nI (dR S))), some (vI y4), none, none] ∧ y4 = nI i ∧ st = [] ∧ h1 = zsW h (x + 228) f ∧ (∀ j, j < i → f j = mrg S j) ∧ (b = nI q ∧ 1 ≤ q ∧ q ≤ 28) ∧ ¬ 16 < q * btR (dR S) : Nat → zT) nn) := by
    refine zSd_loop (fun nn ih => ?_)
    have B_39 := zr_iload (X := X) (Y := Y) (u := 1) (v := 6) O dX10_guardFor_39 (zr_aload_n O dX10_guardFor_41 rfl (zr_gI (ci := 5) (j := 4) O zc_5 (by decide) rfl tw_55 dX10_guardFor_42 (zr_icge (tgt := 67) O dX10_guardFor_45 rfl B_67 (zr_aload_n O dX10_guardFor_48 rfl (zr_gS (ci := 9) (j := 14) (off := 228) (t := 1) (n := 28) O zc_9 (by decide) rfl tw_301 dX10_guardFor_49 (zr_iload O dX10_guardFor_52 (zr_aload_n O dX10_guardFor_54 rfl (zr_iload O dX10_guardFor_55 (zr_cI (zr_cV (ci := 5) (n := 1) O m_X6_marginOf (bn_X6_marginOf _ ⟨rfl, rfl⟩) vw_X6_marginOf tw_435 rc_X6_marginOf (zrx hR rfl rfl rfl rfl) dX10_guardFor_57 (zr_iast O dX10_guardFor_60 (zr_iinc (c := 1) O dX10_guardFor_61 rfl (zr_goto (tgt := 39) O dX10_guardFor_64 rfl ih)))))))))))))
    refine zSd_weak B_39 (fun ls st h1 t => ?_)
    obtain ⟨i, q, y4, f, rfl, hi, rfl, rfl, rfl, rfl, hf, ⟨rfl, hq1, hq2⟩, hb⟩ := t
    have hS1 : rpS S (zsW h (x + 228) f) (h.2.2 x 0 + 1) := rpS_fr (by omega) hS
    refine ⟨fun c => ?_, fun c => ?_⟩
    · rw [hS1.2.1.1] at c
      have := (nI_leI (by omega) (by omega)).mp c
      have hi2 : i = dP S := by omega
      subst hi2
      refine ⟨dR S, rfl, hv.2.2.2.2.2.2, dP S - 0, 0, q, _, _, f, rfl, Nat.zero_le _, ?_, rfl, rfl, rfl, rfl, hf, ⟨rfl, hq1, hq2⟩, hb⟩
      show [_, _, _, _, some (vI (nI q * nI (lnR (dR S)))), _, _] = _
      rw [nI_mul]
      rfl
    · rw [hS1.2.1.1] at c
      have hi2 : i < dP S := Nat.not_le.mp (fun z => c ((nI_leI (by omega) (by omega)).mpr z))
      refine ⟨(S, h.2.2 x 0 + 1, i), rfl, ⟨hS1, hi2, hv⟩, i, rfl, by omega, dP S - (i + 1), by omega, i + 1, q, _, va_up f i (mrg S i), rfl, by omega, rfl, nI_1 i, rfl, ?_, fun j hj => ?_, ⟨rfl, hq1, hq2⟩, hb⟩
      · rw [zsI_W, zsW_s, zsW_W]; rfl
      · by_cases e : j = i
        · rw [e, zup_s]
        · rw [zup_n _ _ e]; exact hf j (by omega)
  have B_39 := zSd_any L_39
  have B_36 := zr_iconst (X := X) (Y := Y) (u := 1) (v := 6) (x := 0) O dX10_guardFor_36 rfl (zr_istore O dX10_guardFor_37 (B_39))
  have B_0 := zr_aload_n (X := X) (Y := Y) (u := 0) (v := 0) O dX10_guardFor_0 rfl (zr_iload_n O dX10_guardFor_1 rfl (zr_iconst (x := 1) O dX10_guardFor_2 rfl (zr_bipush (x := (28)) O dX10_guardFor_3 (by decide) (zr_xV (u' := 1) (v' := 6) (ci := 9) (n := 3) O Ex m_X10_needBetween (bn_X10_needBetween { frames := 0, cells := 0, slots := 0, locals := 0 } ⟨rfl, rfl⟩) vw_X10_needBetween tw_457 rc_X10_needBetween (zrx hR rfl rfl rfl rfl) (Nat.le_of_ble_eq_true rfl) (Nat.le_of_ble_eq_true rfl) (Nat.le_of_ble_eq_true rfl) (Nat.le_of_ble_eq_true rfl) dX10_guardFor_5 (zr_aload_n O dX10_guardFor_8 rfl (zr_gR (ci := 9) (j := 0) (off := 0) (t := 16) (n := 0) O zc_9 (by decide) rfl tw_287 dX10_guardFor_9 (zr_gS (ci := 6) (j := 0) (off := 1) (t := 15) (n := 0) O zc_6 (by decide) rfl tw_172 dX10_guardFor_12 (zr_astore_n O dX10_guardFor_15 rfl (zr_aload_n O dX10_guardFor_16 rfl (zr_gS (ci := 5) (j := 7) (off := 6) (t := 1) (n := 5) O zc_5 (by decide) rfl tw_75 dX10_guardFor_17 (zr_iconst (x := 4) O dX10_guardFor_20 rfl (zr_iald O dX10_guardFor_21 (zr_istore_n O dX10_guardFor_22 rfl (zr_iload_n O dX10_guardFor_23 rfl (zr_iload_n O dX10_guardFor_24 rfl (zr_cI (zr_cS (n := 1) O m_X0_bitsOf (bn_X0_bitsOf _ ⟨rfl, rfl⟩) tw_779 tw_801 (zrx hR rfl rfl rfl rfl) dX10_guardFor_25 (zr_imul O dX10_guardFor_28 (zr_bipush (x := (16)) O dX10_guardFor_29 (by decide) (zr_icle (tgt := 36) O dX10_guardFor_31 rfl B_36 (zr_iconst (x := (-1)) O dX10_guardFor_34 rfl (zr_ireturn O E (Nat.le_of_ble_eq_true rfl) (Nat.le_of_ble_eq_true rfl) dX10_guardFor_35))))))))))))))))))))))
  refine ⟨rfl, Nat.le_of_ble_eq_true rfl, _, B_0, ?_⟩
  refine ⟨(x, b, 1, 28), rfl, trivial, fun E h' hd => hd, fun r h1 hq => ?_⟩
  obtain ⟨rfl, eh, g1⟩ := hq
  obtain rfl := eh.symm
  have g1 : gR b 1 28 := g1
  have g0 : gR b 0 (nI 28) := ⟨Int32.le_trans (by decide) g1.1, g1.2⟩
  obtain ⟨q, rfl, hq2, eq⟩ := rngx (n := 28) (by decide) g0
  have hq1 : 1 ≤ q := (nI_leI (a := 1) (by omega) (by omega)).mp g1.1
  have hm : q * btR (dR S) ≤ 28 * 4 := Nat.mul_le_mul (by omega) (by omega)
  refine ⟨4, rfl, by decide, dR S, by rw [t4]; rfl, hv.2.2.2.2.2.2, fun c => ?_, fun c => ⟨g1, zri ?_, qf_r _ _⟩⟩
  · replace c : nI q * nI (btR (dR S)) ≤ 16 := c
    rw [nI_mul] at c
    have hb := (nI_leI (b := 16) (by omega) (by omega)).mp c
    refine ⟨dP S - 0, 0, q, _, h.1 (x + 228), rfl, Nat.zero_le _, ?_, rfl, rfl, (zsW_self _ _).symm, fun j hj => absurd hj (by omega), ⟨rfl, hq1, hq2⟩, by omega⟩
    show [_, _, _, some (vI (h.1 (h.2.2 x 0 + 1 + 6) 4)), _, _, _] = _
    rw [t4]
    rfl
  · replace c : ¬ nI q * nI (btR (dR S)) ≤ 16 := c
    rw [nI_mul] at c
    have hb : ¬ q * btR (dR S) ≤ 16 := fun z => c ((nI_leI (b := 16) (by omega) (by omega)).mpr z)
    show (-1 : Int32) = gdf S (cN (nI q))
    rw [eq, gdf, if_pos (Nat.lt_of_not_le hb)]
/-- how many answers there can be -/
def wav (Q : zQ) (w : Nat) : Int64 := if w = 2 then (if eN Q.2.1 = 0 then 0 else wys Q.1 (psN Q.2.1 (eN Q.2.1))) else if w = 0 then wys Q.1 (2 ^ dP Q.1 - 1) else wys Q.1 (usd Q.1)
def ca_X10_ways : (zQ × Nat × Int32) → List zV := fun (Q, x, w) => [vR 19 0 x, vI w]
def cp_X10_ways : (zQ × Nat × Int32) → zH → Prop := fun (Q, x, w) h => rpN Q h x ∧ vS Q.1
def cq_X10_ways : (zQ × Nat × Int32) → zH → Option zV → zH → Prop := fun (Q, x, w) h r h' => gR w 0 2 ∧ r = some (vL (wav Q (cN w))) ∧ qf x h h'
def cx_X10_ways : (zQ × Nat × Int32) → zH → String → zH → Prop := fun (Q, x, w) h E h' => ¬ gR w 0 2 ∧ xIA x h E h'
theorem rc_X10_ways : ∀ x : (zQ × Nat × Int32), ∃ (j a : Nat) (As : List zV), ca_X10_ways x = vR (10 + 9) j a :: As := by
  rintro ⟨⟨S, K, M⟩, x, w⟩
  exact ⟨_, _, _, rfl⟩
set_option maxHeartbeats 4000000 in
set_option maxRecDepth 100000 in
theorem m_X10_ways : zMx yX10_ways cX10_ways 3 (some .long) ({ frames := 8, cells := 1, slots := 6, locals := 125 } : Room) ((ca_X10_ways, cp_X10_ways, cq_X10_ways) : zC (zQ × Nat × Int32)) cx_X10_ways := by
  refine zMx_of (by decide) ?_
  rintro X Y ⟨⟨S, K, M⟩, x, w⟩ h ⟨hN, hv⟩ O Ex hR
  have E := zEx_E Ex
  have B_81 := zr_istore_n (X := X) (Y := Y) (u := 1) (v := 6) O dX10_ways_81 rfl (zr_aload_n O dX10_ways_82 rfl (zr_gS (ci := 9) (j := 12) (off := 188) (t := 18) (n := 0) O zc_9 (by decide) rfl tw_299 dX10_ways_83 (zr_aload_n O dX10_ways_86 rfl (zr_gR (ci := 9) (j := 0) (off := 0) (t := 16) (n := 0) O zc_9 (by decide) rfl tw_287 dX10_ways_87 (zr_gS (ci := 6) (j := 0) (off := 1) (t := 15) (n := 0) O zc_6 (by decide) rfl tw_172 dX10_ways_90 (zr_iload_n O dX10_ways_93 rfl (zr_cV (ci := 8) (n := 2) O m_X9_count (bn_X9_count _ ⟨rfl, rfl⟩) vw_X9_count tw_1092 rc_X9_count (zrx hR rfl rfl rfl rfl) dX10_ways_94 (zr_lreturn O E (Nat.le_of_ble_eq_true rfl) (Nat.le_of_ble_eq_true rfl) dX10_ways_97))))))))
  have B_71 := zr_aload_n (X := X) (Y := Y) (u := 1) (v := 6) O dX10_ways_71 rfl (zr_gR (ci := 9) (j := 0) (off := 0) (t := 16) (n := 0) O zc_9 (by decide) rfl tw_287 dX10_ways_72 (zr_gS (ci := 6) (j := 0) (off := 1) (t := 15) (n := 0) O zc_6 (by decide) rfl tw_172 dX10_ways_75 (zr_cI (zr_cV (ci := 5) (n := 0) O m_X6_usedPairs (bn_X6_usedPairs _ ⟨rfl, rfl⟩) vw_X6_usedPairs tw_749 rc_X6_usedPairs (zrx hR rfl rfl rfl rfl) dX10_ways_78 (B_81)))))
  have B_54 := zr_iload_n (X := X) (Y := Y) (u := 1) (v := 6) O dX10_ways_54 rfl (zr_ifne (tgt := 71) O dX10_ways_55 rfl B_71 (zr_aload_n O dX10_ways_58 rfl (zr_gR (ci := 9) (j := 0) (off := 0) (t := 16) (n := 0) O zc_9 (by decide) rfl tw_287 dX10_ways_59 (zr_gS (ci := 6) (j := 0) (off := 1) (t := 15) (n := 0) O zc_6 (by decide) rfl tw_172 dX10_ways_62 (zr_cI (zr_cV (ci := 5) (n := 0) O m_X6_allPairs (bn_X6_allPairs _ ⟨rfl, rfl⟩) vw_X6_allPairs tw_1105 rc_X6_allPairs (zrx hR rfl rfl rfl rfl) dX10_ways_65 (zr_goto (tgt := 81) O dX10_ways_68 rfl B_81)))))))
  have B_53 := zr_lreturn (X := X) (Y := Y) (u := 1) (v := 6) O E (Nat.le_of_ble_eq_true rfl) (Nat.le_of_ble_eq_true rfl) dX10_ways_53
  have B_29 := zr_aload_n (X := X) (Y := Y) (u := 1) (v := 6) O dX10_ways_29 rfl (zr_gS (ci := 9) (j := 12) (off := 188) (t := 18) (n := 0) O zc_9 (by decide) rfl tw_299 dX10_ways_30 (zr_aload_n O dX10_ways_33 rfl (zr_gR (ci := 9) (j := 0) (off := 0) (t := 16) (n := 0) O zc_9 (by decide) rfl tw_287 dX10_ways_34 (zr_gS (ci := 6) (j := 0) (off := 1) (t := 15) (n := 0) O zc_6 (by decide) rfl tw_172 dX10_ways_37 (zr_aload_n O dX10_ways_40 rfl (zr_gR (ci := 9) (j := 0) (off := 0) (t := 16) (n := 0) O zc_9 (by decide) rfl tw_287 dX10_ways_41 (zr_gS (ci := 6) (j := 1) (off := 8) (t := 10) (n := 0) O zc_6 (by decide) rfl tw_175 dX10_ways_44 (zr_cI (zr_cV (ci := 0) (n := 0) O m_X1_pairsAsSet (bn_X1_pairsAsSet _ ⟨rfl, rfl⟩) vw_X1_pairsAsSet tw_1088 rc_X1_pairsAsSet (zrx hR rfl rfl rfl rfl) dX10_ways_47 (zr_cV (ci := 8) (n := 2) O m_X9_count (bn_X9_count _ ⟨rfl, rfl⟩) vw_X9_count tw_1092 rc_X9_count (zrx hR rfl rfl rfl rfl) dX10_ways_50 (B_53)))))))))))
  have B_0 := zr_aload_n (X := X) (Y := Y) (u := 0) (v := 0) O dX10_ways_0 rfl (zr_iload_n O dX10_ways_1 rfl (zr_iconst (x := 0) O dX10_ways_2 rfl (zr_iconst (x := 2) O dX10_ways_3 rfl (zr_xV (u' := 1) (v' := 6) (ci := 9) (n := 3) O Ex m_X10_needBetween (bn_X10_needBetween { frames := 0, cells := 0, slots := 0, locals := 0 } ⟨rfl, rfl⟩) vw_X10_needBetween tw_457 rc_X10_needBetween (zrx hR rfl rfl rfl rfl) (Nat.le_of_ble_eq_true rfl) (Nat.le_of_ble_eq_true rfl) (Nat.le_of_ble_eq_true rfl) (Nat.le_of_ble_eq_true rfl) dX10_ways_4 (zr_iload_n O dX10_ways_7 rfl (zr_iconst (x := 2) O dX10_ways_8 rfl (zr_icne (tgt := 54) O dX10_ways_9 rfl B_54 (zr_aload_n O dX10_ways_12 rfl (zr_gR (ci := 9) (j := 0) (off := 0) (t := 16) (n := 0) O zc_9 (by decide) rfl tw_287 dX10_ways_13 (zr_gS (ci := 6) (j := 1) (off := 8) (t := 10) (n := 0) O zc_6 (by decide) rfl tw_175 dX10_ways_16 (zr_cI (zr_cV (ci := 0) (n := 0) O m_X1_isEmpty (bn_X1_isEmpty _ ⟨rfl, rfl⟩) vw_X1_isEmpty tw_863 rc_X1_isEmpty (zrx hR rfl rfl rfl rfl) dX10_ways_19 (zr_ifeq (tgt := 29) O dX10_ways_22 rfl B_29 (zr_lconst (x := 0) O dX10_ways_25 rfl (zr_goto (tgt := 53) O dX10_ways_26 rfl B_53)))))))))))))))
  refine ⟨rfl, Nat.le_of_ble_eq_true rfl, _, B_0, ?_⟩
  have hN : rpN (S, K, M) h x := hN
  have hS : rpS S h (h.2.2 x 0 + 1) := hN.1.1
  have hE : rpE K h (h.2.2 x 0 + 8) := hN.1.2.1
  have hv : vS S := hv
  have hP28 := hS.2.1.2
  have hs1 : x < h.2.2 x 0 := hN.2.1
  have hs2 : h.2.2 x 0 + 13 ≤ x + 171 := hN.2.2
  refine ⟨(x, w, 0, 2), rfl, trivial, fun E h' hd => hd, fun r h1 hq => ?_⟩
  obtain ⟨rfl, eh, g1⟩ := hq
  obtain rfl := eh.symm
  obtain ⟨q, rfl, hq, eq⟩ := rngx (n := 2) (by decide) g1
  have fin : ∀ (v : Int64) (h2 : zH), v = wav (S, K, M) q → sn (x + 188) 4 h h2 → gR (nI q) 0 2 ∧ some (vL v) = some (vL (wav (S, K, M) (cN (nI q)))) ∧ qf x h h2 := fun v h2 e s => ⟨g1, zrl (by rw [eq]; exact e), sn_mo s (by omega) (by omega)⟩
  have lp : 2 ^ dP S - 1 < 2 ^ 28 := by
    have h1 : 2 ^ dP S ≤ 2 ^ 28 := Nat.pow_le_pow_right (by omega) hP28
    have h2 : 0 < 2 ^ dP S := Nat.two_pow_pos _
    omega
  refine ⟨fun c => ⟨fun d => ⟨(S, h.2.2 x 0 + 1), rfl, ⟨hS, hv⟩, (S, x + 188, h.2.2 x 0 + 1, usd S), rfl, ⟨hS, hv, usd_lt hP28, by omega⟩, fun r h2 hq => ?_⟩, fun d => ⟨(S, h.2.2 x 0 + 1), rfl, hS, (S, x + 188, h.2.2 x 0 + 1, 2 ^ dP S - 1), rfl, ⟨hS, hv, lp, by omega⟩, fun r h2 hq => ?_⟩⟩, fun c => ⟨(h.2.2 x 0 + 8, eN K), rfl, ⟨hE.1, hE.2.1.1⟩, fun d => ⟨(K, h.2.2 x 0 + 8), rfl, hE, (S, x + 188, h.2.2 x 0 + 1, psN K (eN K)), rfl, ⟨hS, hv, ?_, by omega⟩, fun r h2 hq => ?_⟩, fun d => fin _ _ ?_ (sn_refl _ _ _)⟩⟩
  · obtain ⟨rfl, s2⟩ := hq
    have c1 : ¬ q = 2 := fun z => c (by rw [z]; rfl)
    have d1 : ¬ q = 0 := fun z => d (by rw [z]; rfl)
    exact fin _ _ (by rw [wav, if_neg c1, if_neg d1]) s2
  · obtain ⟨rfl, s2⟩ := hq
    have c1 : ¬ q = 2 := fun z => c (by rw [z]; rfl)
    have d1 : q = 0 := (nI_eq (b := 0) (by omega) (by omega)).mp d
    exact fin _ _ (by rw [wav, if_neg c1, if_pos d1]) s2
  · have hz : ¬ eN K = 0 := of_decide_eq_false ((bI_0 _).mp d)
    exact psN_lt (K := K) (eN K) (hE.2.1.2 (Nat.pos_of_ne_zero hz)).1
  · obtain ⟨rfl, s2⟩ := hq
    have c1 : q = 2 := (nI_eq (b := 2) (by omega) (by omega)).mp c
    have hz : ¬ eN K = 0 := of_decide_eq_false ((bI_0 _).mp d)
    exact fin _ _ (by rw [wav, if_pos c1, if_neg hz]) s2
  · have c1 : q = 2 := (nI_eq (b := 2) (by omega) (by omega)).mp c
    have hz : eN K = 0 := by
      rcases Nat.eq_zero_or_pos (eN K) with z | z
      · exact z
      · exact absurd ((bI_0 _).mpr (decide_eq_false (by omega))) d
    rw [wav, if_pos c1, if_pos hz]
def lkN (K : zE) : Nat := eK K * (lnR (eR K) - btR (eR K)) + 4
def lkv (S : zD) (K : zE) (M : zG) (w : Nat) : Int32 := if w = 0 then nI (sur (wys S (psN K (eN K)))) else if w = 1 then nI (lkN K) else if w = 2 then mx2 0 (nI (sur (wys S (psN K (eN K)))) - nI (lkN K)) else if w = 3 then nI (lft S K (fun _ => 0)) else nI (lft S K (lod S M (gN M)))
def ca_X10_leak : (zQ × Nat × Int32) → List zV := fun (Q, x, w) => [vR 19 0 x, vI w]
def cp_X10_leak : (zQ × Nat × Int32) → zH → Prop := fun (Q, x, w) h => rpN Q h x ∧ vQ Q ∧ rpC h (x + 192)
def cq_X10_leak : (zQ × Nat × Int32) → zH → Option zV → zH → Prop := fun (Q, x, w) h r h' => 0 < eN Q.2.1 ∧ gR w 0 4 ∧ r = some (vI (lkv Q.1 Q.2.1 Q.2.2 (cN w))) ∧ qf x h h'
def cx_X10_leak : (zQ × Nat × Int32) → zH → String → zH → Prop := fun (Q, x, w) h E h' => (eN Q.2.1 = 0 ∧ xIS x h E h') ∨ (0 < eN Q.2.1 ∧ ¬ gR w 0 4 ∧ xIA x h E h')
theorem rc_X10_leak : ∀ x : (zQ × Nat × Int32), ∃ (j a : Nat) (As : List zV), ca_X10_leak x = vR (10 + 9) j a :: As := by
  rintro ⟨⟨S, K, M⟩, x, w⟩
  exact ⟨_, _, _, rfl⟩
set_option maxHeartbeats 4000000 in
set_option maxRecDepth 100000 in
theorem m_X10_leak : zMx yX10_leak cX10_leak 2 (some .int) ({ frames := 23, cells := 2, slots := 12, locals := 656 } : Room) ((ca_X10_leak, cp_X10_leak, cq_X10_leak) : zC (zQ × Nat × Int32)) cx_X10_leak := by
  refine zMx_of (by decide) ?_
  rintro X Y ⟨⟨S, K, M⟩, x, w⟩ h ⟨hN, ⟨hv, hP, hj, hG⟩, hC⟩ O Ex hR
  have E := zEx_E Ex
  have B_113 := zr_aload_n (X := X) (Y := Y) (u := 2) (v := 12) O dX10_leak_113 rfl (zr_gR (ci := 9) (j := 0) (off := 0) (t := 16) (n := 0) O zc_9 (by decide) rfl tw_287 dX10_leak_114 (zr_gS (ci := 6) (j := 2) (off := 10) (t := 12) (n := 0) O zc_6 (by decide) rfl tw_177 dX10_leak_117 (zr_aload_n O dX10_leak_120 rfl (zr_gS (ci := 9) (j := 9) (off := 181) (t := 13) (n := 0) O zc_9 (by decide) rfl tw_296 dX10_leak_121 (zr_aload_n O dX10_leak_124 rfl (zr_gR (ci := 9) (j := 0) (off := 0) (t := 16) (n := 0) O zc_9 (by decide) rfl tw_287 dX10_leak_125 (zr_gS (ci := 6) (j := 0) (off := 1) (t := 15) (n := 0) O zc_6 (by decide) rfl tw_172 dX10_leak_128 (zr_cV (ci := 2) (n := 2) O m_X3_putInto (bn_X3_putInto _ ⟨rfl, rfl⟩) vw_X3_putInto tw_357 rc_X3_putInto (zrx hR rfl rfl rfl rfl) dX10_leak_131 (zr_aload_n O dX10_leak_134 rfl (zr_gS (ci := 9) (j := 13) (off := 192) (t := 11) (n := 0) O zc_9 (by decide) rfl tw_300 dX10_leak_135 (zr_aload_n O dX10_leak_138 rfl (zr_gR (ci := 9) (j := 0) (off := 0) (t := 16) (n := 0) O zc_9 (by decide) rfl tw_287 dX10_leak_139 (zr_gS (ci := 6) (j := 0) (off := 1) (t := 15) (n := 0) O zc_6 (by decide) rfl tw_172 dX10_leak_142 (zr_aload_n O dX10_leak_145 rfl (zr_gR (ci := 9) (j := 0) (off := 0) (t := 16) (n := 0) O zc_9 (by decide) rfl tw_287 dX10_leak_146 (zr_gS (ci := 6) (j := 1) (off := 8) (t := 10) (n := 0) O zc_6 (by decide) rfl tw_175 dX10_leak_149 (zr_aload_n O dX10_leak_152 rfl (zr_gS (ci := 9) (j := 9) (off := 181) (t := 13) (n := 0) O zc_9 (by decide) rfl tw_296 dX10_leak_153 (zr_cV (ci := 1) (n := 3) O m_X2_count (bn_X2_count _ ⟨rfl, rfl⟩) vw_X2_count tw_1123 rc_X2_count (zrx hR rfl rfl rfl rfl) dX10_leak_156 (zr_ireturn O E (Nat.le_of_ble_eq_true rfl) (Nat.le_of_ble_eq_true rfl) dX10_leak_159))))))))))))))))))))
  have B_80 := zr_aload_n (X := X) (Y := Y) (u := 2) (v := 12) O dX10_leak_80 rfl (zr_gS (ci := 9) (j := 9) (off := 181) (t := 13) (n := 0) O zc_9 (by decide) rfl tw_296 dX10_leak_81 (zr_cV (ci := 3) (n := 0) O m_X4_clear (bn_X4_clear _ ⟨rfl, rfl⟩) vw_X4_clear tw_1122 rc_X4_clear (zrx hR rfl rfl rfl rfl) dX10_leak_84 (zr_aload_n O dX10_leak_87 rfl (zr_gS (ci := 9) (j := 13) (off := 192) (t := 11) (n := 0) O zc_9 (by decide) rfl tw_300 dX10_leak_88 (zr_aload_n O dX10_leak_91 rfl (zr_gR (ci := 9) (j := 0) (off := 0) (t := 16) (n := 0) O zc_9 (by decide) rfl tw_287 dX10_leak_92 (zr_gS (ci := 6) (j := 0) (off := 1) (t := 15) (n := 0) O zc_6 (by decide) rfl tw_172 dX10_leak_95 (zr_aload_n O dX10_leak_98 rfl (zr_gR (ci := 9) (j := 0) (off := 0) (t := 16) (n := 0) O zc_9 (by decide) rfl tw_287 dX10_leak_99 (zr_gS (ci := 6) (j := 1) (off := 8) (t := 10) (n := 0) O zc_6 (by decide) rfl tw_175 dX10_leak_102 (zr_aload_n O dX10_leak_105 rfl (zr_gS (ci := 9) (j := 9) (off := 181) (t := 13) (n := 0) O zc_9 (by decide) rfl tw_296 dX10_leak_106 (zr_cV (ci := 1) (n := 3) O m_X2_count (bn_X2_count _ ⟨rfl, rfl⟩) vw_X2_count tw_1123 rc_X2_count (zrx hR rfl rfl rfl rfl) dX10_leak_109 (zr_ireturn O E (Nat.le_of_ble_eq_true rfl) (Nat.le_of_ble_eq_true rfl) dX10_leak_112))))))))))))))
  have B_60 := zr_iconst (X := X) (Y := Y) (u := 2) (v := 12) (x := 0) O dX10_leak_60 rfl (zr_aload_n O dX10_leak_61 rfl (zr_cV (ci := 9) (n := 0) O m_X10_sureOfEnrolled (bn_X10_sureOfEnrolled _ ⟨rfl, rfl⟩) vw_X10_sureOfEnrolled tw_1113 rc_X10_sureOfEnrolled (zrx hR rfl rfl rfl rfl) dX10_leak_62 (zr_aload_n O dX10_leak_65 rfl (zr_gR (ci := 9) (j := 0) (off := 0) (t := 16) (n := 0) O zc_9 (by decide) rfl tw_287 dX10_leak_66 (zr_gS (ci := 6) (j := 1) (off := 8) (t := 10) (n := 0) O zc_6 (by decide) rfl tw_175 dX10_leak_69 (zr_cI (zr_cV (ci := 0) (n := 0) O m_X1_leaked (bn_X1_leaked _ ⟨rfl, rfl⟩) vw_X1_leaked tw_1118 rc_X1_leaked (zrx hR rfl rfl rfl rfl) dX10_leak_72 (zr_isub O dX10_leak_75 (zr_max O zwm tw_973 (zrx hR rfl rfl rfl rfl) dX10_leak_76 (zr_ireturn O E (Nat.le_of_ble_eq_true rfl) (Nat.le_of_ble_eq_true rfl) dX10_leak_79))))))))))
  have B_49 := zr_aload_n (X := X) (Y := Y) (u := 2) (v := 12) O dX10_leak_49 rfl (zr_gR (ci := 9) (j := 0) (off := 0) (t := 16) (n := 0) O zc_9 (by decide) rfl tw_287 dX10_leak_50 (zr_gS (ci := 6) (j := 1) (off := 8) (t := 10) (n := 0) O zc_6 (by decide) rfl tw_175 dX10_leak_53 (zr_cI (zr_cV (ci := 0) (n := 0) O m_X1_leaked (bn_X1_leaked _ ⟨rfl, rfl⟩) vw_X1_leaked tw_1118 rc_X1_leaked (zrx hR rfl rfl rfl rfl) dX10_leak_56 (zr_ireturn O E (Nat.le_of_ble_eq_true rfl) (Nat.le_of_ble_eq_true rfl) dX10_leak_59)))))
  have B_44 := zr_aload_n (X := X) (Y := Y) (u := 2) (v := 12) O dX10_leak_44 rfl (zr_cV (ci := 9) (n := 0) O m_X10_sureOfEnrolled (bn_X10_sureOfEnrolled _ ⟨rfl, rfl⟩) vw_X10_sureOfEnrolled tw_1113 rc_X10_sureOfEnrolled (zrx hR rfl rfl rfl rfl) dX10_leak_45 (zr_ireturn O E (Nat.le_of_ble_eq_true rfl) (Nat.le_of_ble_eq_true rfl) dX10_leak_48))
  have B_0 := zr_aload_n (X := X) (Y := Y) (u := 0) (v := 0) O dX10_leak_0 rfl (zr_xV (u' := 1) (v' := 6) (ci := 9) (n := 0) O Ex m_X10_needEnrolled (bn_X10_needEnrolled { frames := 0, cells := 0, slots := 0, locals := 0 } ⟨rfl, rfl⟩) vw_X10_needEnrolled tw_859 rc_X10_needEnrolled (zrx hR rfl rfl rfl rfl) (Nat.le_of_ble_eq_true rfl) (Nat.le_of_ble_eq_true rfl) (Nat.le_of_ble_eq_true rfl) (Nat.le_of_ble_eq_true rfl) dX10_leak_1 (zr_aload_n O dX10_leak_4 rfl (zr_iload_n O dX10_leak_5 rfl (zr_iconst (x := 0) O dX10_leak_6 rfl (zr_iconst (x := 4) O dX10_leak_7 rfl (zr_xV (u' := 2) (v' := 12) (ci := 9) (n := 3) O Ex m_X10_needBetween (bn_X10_needBetween { frames := 0, cells := 0, slots := 0, locals := 0 } ⟨rfl, rfl⟩) vw_X10_needBetween tw_457 rc_X10_needBetween (zrx hR rfl rfl rfl rfl) (Nat.le_of_ble_eq_true rfl) (Nat.le_of_ble_eq_true rfl) (Nat.le_of_ble_eq_true rfl) (Nat.le_of_ble_eq_true rfl) dX10_leak_8 (zr_iload_n O dX10_leak_11 rfl (zr_switch2 (tgt := 113) (ks := [_, _, _, _]) O dX10_leak_12 rfl rfl B_113 ⟨⟨_, 44, rfl, rfl, B_44⟩, ⟨_, 49, rfl, rfl, B_49⟩, ⟨_, 60, rfl, rfl, B_60⟩, ⟨_, 80, rfl, rfl, B_80⟩, trivial⟩))))))))
  refine ⟨rfl, Nat.le_of_ble_eq_true rfl, _, B_0, ?_⟩
  have hN : rpN (S, K, M) h x := hN
  have hS : rpS S h (h.2.2 x 0 + 1) := hN.1.1
  have hE : rpE K h (h.2.2 x 0 + 8) := hN.1.2.1
  have hL : rpL M h (h.2.2 x 0 + 10) := hN.1.2.2
  have hv : vS S := hv
  have hP : ∀ i, i < eN K → eP K i < dP S := hP
  have hG : ∀ i, i < gN M → gP M i < dP S := hG
  have hC : rpC h (x + 192) := hC
  have hN10 := hS.1.2
  have hs1 : x < h.2.2 x 0 := hN.2.1
  have hs2 : h.2.2 x 0 + 13 ≤ x + 171 := hN.2.2
  refine ⟨((S, K, M), x), rfl, hN, fun E h' hd => Or.inl hd, fun r h1 hq => ?_⟩
  obtain ⟨rfl, eh, h0⟩ := hq
  obtain rfl := eh.symm
  have h0 : 0 < eN K := h0
  refine ⟨(x, w, 0, 4), rfl, trivial, fun E h' hd => Or.inr ⟨h0, hd.1, hd.2⟩, fun r h1 hq => ?_⟩
  obtain ⟨rfl, eh, g1⟩ := hq
  obtain rfl := eh.symm
  obtain ⟨q, rfl, hq, eq⟩ := rngx (n := 4) (by decide) g1
  have ewt : (nI q).toInt = q := nI_toInt (by omega)
  have fin : ∀ (v : Int32) (h2 : zH), v = lkv S K M q → sn (x + 180) 49 h h2 → 0 < eN K ∧ gR (nI q) 0 4 ∧ some (vI v) = some (vI (lkv S K M (cN (nI q)))) ∧ qf x h h2 := fun v h2 e s => ⟨h0, g1, zri (by rw [eq]; exact e), s⟩
  obtain ⟨p1, ⟨a1, a2⟩, ⟨a3, a4, a5⟩, a6, a7⟩ := hE.2.2 h0
  obtain ⟨-, hr, -⟩ := hE.2.1.2 h0
  refine zsw_of ⟨fun e => ?_, fun e => ?_, fun e => ?_, fun e => ?_, trivial⟩ (fun e => ?_)
  · have e : q = 0 := by omega
    refine ⟨((S, K, M), x), rfl, ⟨hN, hv, h0⟩, fun r h2 hq => ?_⟩
    obtain ⟨rfl, s2⟩ := hq
    exact fin _ _ (by rw [lkv, if_pos e]) (sn_mo s2 (by omega) (by omega))
  · have e : q = 1 := by omega
    exact ⟨(h.2.2 x 0 + 8, eR K, eK K), rfl, ⟨a1, a2, hr⟩, fin _ _ (by rw [lkv, if_neg (by omega), if_pos e]; rfl) (sn_refl _ _ _)⟩
  · have e : q = 2 := by omega
    refine ⟨((S, K, M), x), rfl, ⟨hN, hv, h0⟩, fun r h2 hq => ?_⟩
    obtain ⟨rfl, s2⟩ := hq
    replace s2 : sn (x + 188) 4 h h2 := s2
    have er : h2.2.2 = h.2.2 := s2.2
    have e8 : h2.1 (h.2.2 x 0 + 8) = h.1 (h.2.2 x 0 + 8) := (s2.1 _ (by omega)).1
    refine ⟨(h.2.2 x 0 + 8, eR K, eK K), by rw [er]; rfl, ⟨by rw [e8]; exact a1, by rw [e8]; exact a2, hr⟩, fin _ _ ?_ (sn_mo s2 (by omega) (by omega))⟩
    have ev : lkv S K M q = mx2 0 (nI (sur (wys S (psN K (eN K)))) - nI (lkN K)) := by rw [lkv, if_neg (by omega), if_neg (by omega), if_pos e]
    rw [ev]; rfl
  · have e : q = 3 := by omega
    refine ⟨x + 181, rfl, trivial, fun r h2 hq => ?_⟩
    obtain ⟨rfl, w2⟩ := hq
    replace w2 : oW (fun _ => 0) h (x + 181) h2 := w2
    have s2 := oW_sm w2
    have er : h2.2.2 = h.2.2 := by rw [s2.2]
    have hQ2 := rpQ_sm s2 (by omega) hN.1
    refine ⟨(S, K, fun _ => 0, x + 192, h.2.2 x 0 + 1, h.2.2 x 0 + 8, x + 181), by rw [er]; rfl, ⟨hQ2.1, hQ2.2.1, h0, hP, fun j hj => by rw [er]; exact hC j hj, oW_rp w2 (fun i hi => by decide), by omega, by omega⟩, fun r h3 hq => ?_⟩
    obtain ⟨rfl, s3⟩ := hq
    replace s3 : sm (x + 192 + 2) 34 h2 h3 := s3
    exact fin _ _ (by rw [lkv, if_neg (by omega), if_neg (by omega), if_neg (by omega), if_pos e]) (sn_tr (sn_sm s2 (by omega) (by omega)) (sn_sm s3 (by omega) (by omega)))
  · have e : (nI q).toInt < 0 ∨ (0 : Int) + 4 ≤ (nI q).toInt := e
    have e : q = 4 := by omega
    refine ⟨(S, M, h.2.2 x 0 + 10, x + 181, h.2.2 x 0 + 1), rfl, ⟨hL, hj, hS, hG, by omega, by omega⟩, fun r h2 hq => ?_⟩
    obtain ⟨rfl, w2⟩ := hq
    replace w2 : oW (lod S M (gN M)) h (x + 181) h2 := w2
    have s2 := oW_sm w2
    have er : h2.2.2 = h.2.2 := by rw [s2.2]
    have hQ2 := rpQ_sm s2 (by omega) hN.1
    have hrr : ∀ i, i < gN M → dF S (gP M i) < dN S ∧ dS S (gP M i) < dN S := fun i hi => ⟨(hS.2.2.2.1 _ (hG i hi)).1.2, (hS.2.2.2.1 _ (hG i hi)).2.2⟩
    refine ⟨(S, K, lod S M (gN M), x + 192, h.2.2 x 0 + 1, h.2.2 x 0 + 8, x + 181), by rw [er]; rfl, ⟨hQ2.1, hQ2.2.1, h0, hP, fun j hj => by rw [er]; exact hC j hj, oW_rp w2 (lod_lt hN10 _ hrr), by omega, by omega⟩, fun r h3 hq => ?_⟩
    obtain ⟨rfl, s3⟩ := hq
    replace s3 : sm (x + 192 + 2) 34 h2 h3 := s3
    exact fin _ _ (by rw [lkv, if_neg (by omega), if_neg (by omega), if_neg (by omega), if_neg (by omega)]) (sn_tr (sn_sm s2 (by omega) (by omega)) (sn_sm s3 (by omega) (by omega)))

