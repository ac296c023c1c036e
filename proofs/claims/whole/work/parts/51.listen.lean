theorem dX10_success_214 : decode cX10_success 214 = .ok (.iload 4, 2) := by decide +kernel
theorem dX10_success_216 : decode cX10_success 216 = .ok (.ireturn, 1) := by decide +kernel
theorem dX10_success_205 : decode cX10_success 205 = .ok (.iadd, 1) := by decide +kernel
theorem dX10_success_206 : decode cX10_success 206 = .ok (.istore 4, 2) := by decide +kernel
theorem dX10_success_208 : decode cX10_success 208 = .ok (.iinc 5 1, 3) := by decide +kernel
theorem dX10_success_211 : decode cX10_success 211 = .ok (.goto (-173), 3) := by decide +kernel
theorem dX10_success_204 : decode cX10_success 204 = .ok (.iconst 0, 1) := by decide +kernel
theorem dX10_success_193 : decode cX10_success 193 = .ok (.iload 4, 2) := by decide +kernel
theorem dX10_success_195 : decode cX10_success 195 = .ok (.iload 8, 2) := by decide +kernel
theorem dX10_success_197 : decode cX10_success 197 = .ok (.ifCond .eq 7, 3) := by decide +kernel
theorem dX10_success_200 : decode cX10_success 200 = .ok (.iconst 1, 1) := by decide +kernel
theorem dX10_success_201 : decode cX10_success 201 = .ok (.goto 4, 3) := by decide +kernel
theorem dX10_success_191 : decode cX10_success 191 = .ok (.istore 8, 2) := by decide +kernel
theorem dX10_success_190 : decode cX10_success 190 = .ok (.iconst 0, 1) := by decide +kernel
theorem dX10_success_169 : decode cX10_success 169 = .ok (.iload 7, 2) := by decide +kernel
theorem dX10_success_171 : decode cX10_success 171 = .ok (.iconst (-1), 1) := by decide +kernel
theorem dX10_success_172 : decode cX10_success 172 = .ok (.if_icmp .eq 18, 3) := by decide +kernel
theorem dX10_success_175 : decode cX10_success 175 = .ok (.iload 7, 2) := by decide +kernel
theorem dX10_success_177 : decode cX10_success 177 = .ok (.aload_n 2, 1) := by decide +kernel
theorem dX10_success_178 : decode cX10_success 178 = .ok (.iload 5, 2) := by decide +kernel
theorem dX10_success_180 : decode cX10_success 180 = .ok (.invokevirtual 162, 3) := by decide +kernel
theorem dX10_success_183 : decode cX10_success 183 = .ok (.if_icmp .eq 7, 3) := by decide +kernel
theorem dX10_success_186 : decode cX10_success 186 = .ok (.iconst 1, 1) := by decide +kernel
theorem dX10_success_187 : decode cX10_success 187 = .ok (.goto 4, 3) := by decide +kernel
theorem dX10_success_164 : decode cX10_success 164 = .ok (.istore 8, 2) := by decide +kernel
theorem dX10_success_166 : decode cX10_success 166 = .ok (.goto 27, 3) := by decide +kernel
theorem dX10_success_163 : decode cX10_success 163 = .ok (.iconst 0, 1) := by decide +kernel
theorem dX10_success_134 : decode cX10_success 134 = .ok (.iload_n 1, 1) := by decide +kernel
theorem dX10_success_135 : decode cX10_success 135 = .ok (.iconst 2, 1) := by decide +kernel
theorem dX10_success_136 : decode cX10_success 136 = .ok (.if_icmp .ne 33, 3) := by decide +kernel
theorem dX10_success_139 : decode cX10_success 139 = .ok (.aload_n 3, 1) := by decide +kernel
theorem dX10_success_140 : decode cX10_success 140 = .ok (.iload 5, 2) := by decide +kernel
theorem dX10_success_142 : decode cX10_success 142 = .ok (.invokevirtual 333, 3) := by decide +kernel
theorem dX10_success_145 : decode cX10_success 145 = .ok (.ifCond .eq 18, 3) := by decide +kernel
theorem dX10_success_148 : decode cX10_success 148 = .ok (.iload 6, 2) := by decide +kernel
theorem dX10_success_150 : decode cX10_success 150 = .ok (.aload_n 3, 1) := by decide +kernel
theorem dX10_success_151 : decode cX10_success 151 = .ok (.iload 5, 2) := by decide +kernel
theorem dX10_success_153 : decode cX10_success 153 = .ok (.invokevirtual 229, 3) := by decide +kernel
theorem dX10_success_156 : decode cX10_success 156 = .ok (.if_icmp .ne 7, 3) := by decide +kernel
theorem dX10_success_159 : decode cX10_success 159 = .ok (.iconst 1, 1) := by decide +kernel
theorem dX10_success_160 : decode cX10_success 160 = .ok (.goto 4, 3) := by decide +kernel
theorem dX10_success_129 : decode cX10_success 129 = .ok (.istore 8, 2) := by decide +kernel
theorem dX10_success_131 : decode cX10_success 131 = .ok (.goto 62, 3) := by decide +kernel
theorem dX10_success_128 : decode cX10_success 128 = .ok (.iconst 0, 1) := by decide +kernel
theorem dX10_success_99 : decode cX10_success 99 = .ok (.iload_n 1, 1) := by decide +kernel
theorem dX10_success_100 : decode cX10_success 100 = .ok (.iconst 1, 1) := by decide +kernel
theorem dX10_success_101 : decode cX10_success 101 = .ok (.if_icmp .ne 33, 3) := by decide +kernel
theorem dX10_success_104 : decode cX10_success 104 = .ok (.aload_n 3, 1) := by decide +kernel
theorem dX10_success_105 : decode cX10_success 105 = .ok (.iload 5, 2) := by decide +kernel
theorem dX10_success_107 : decode cX10_success 107 = .ok (.invokevirtual 333, 3) := by decide +kernel
theorem dX10_success_110 : decode cX10_success 110 = .ok (.ifCond .ne 18, 3) := by decide +kernel
theorem dX10_success_113 : decode cX10_success 113 = .ok (.iload 6, 2) := by decide +kernel
theorem dX10_success_115 : decode cX10_success 115 = .ok (.aload_n 2, 1) := by decide +kernel
theorem dX10_success_116 : decode cX10_success 116 = .ok (.iload 5, 2) := by decide +kernel
theorem dX10_success_118 : decode cX10_success 118 = .ok (.invokevirtual 162, 3) := by decide +kernel
theorem dX10_success_121 : decode cX10_success 121 = .ok (.if_icmp .ne 7, 3) := by decide +kernel
theorem dX10_success_124 : decode cX10_success 124 = .ok (.iconst 1, 1) := by decide +kernel
theorem dX10_success_125 : decode cX10_success 125 = .ok (.goto 4, 3) := by decide +kernel
theorem dX10_success_94 : decode cX10_success 94 = .ok (.istore 8, 2) := by decide +kernel
theorem dX10_success_96 : decode cX10_success 96 = .ok (.goto 97, 3) := by decide +kernel
theorem dX10_success_93 : decode cX10_success 93 = .ok (.iconst 0, 1) := by decide +kernel
theorem dX10_success_38 : decode cX10_success 38 = .ok (.iload 5, 2) := by decide +kernel
theorem dX10_success_40 : decode cX10_success 40 = .ok (.aload_n 2, 1) := by decide +kernel
theorem dX10_success_41 : decode cX10_success 41 = .ok (.getfield 114, 3) := by decide +kernel
theorem dX10_success_44 : decode cX10_success 44 = .ok (.if_icmp .ge 170, 3) := by decide +kernel
theorem dX10_success_47 : decode cX10_success 47 = .ok (.aload_n 3, 1) := by decide +kernel
theorem dX10_success_48 : decode cX10_success 48 = .ok (.aload_n 2, 1) := by decide +kernel
theorem dX10_success_49 : decode cX10_success 49 = .ok (.iload 5, 2) := by decide +kernel
theorem dX10_success_51 : decode cX10_success 51 = .ok (.invokevirtual 239, 3) := by decide +kernel
theorem dX10_success_54 : decode cX10_success 54 = .ok (.istore 6, 2) := by decide +kernel
theorem dX10_success_56 : decode cX10_success 56 = .ok (.aload_n 0, 1) := by decide +kernel
theorem dX10_success_57 : decode cX10_success 57 = .ok (.getfield 37, 3) := by decide +kernel
theorem dX10_success_60 : decode cX10_success 60 = .ok (.aload_n 2, 1) := by decide +kernel
theorem dX10_success_61 : decode cX10_success 61 = .ok (.getfield 217, 3) := by decide +kernel
theorem dX10_success_64 : decode cX10_success 64 = .ok (.iload 5, 2) := by decide +kernel
theorem dX10_success_66 : decode cX10_success 66 = .ok (.iaload, 1) := by decide +kernel
theorem dX10_success_67 : decode cX10_success 67 = .ok (.aload_n 2, 1) := by decide +kernel
theorem dX10_success_68 : decode cX10_success 68 = .ok (.getfield 220, 3) := by decide +kernel
theorem dX10_success_71 : decode cX10_success 71 = .ok (.iload 5, 2) := by decide +kernel
theorem dX10_success_73 : decode cX10_success 73 = .ok (.iaload, 1) := by decide +kernel
theorem dX10_success_74 : decode cX10_success 74 = .ok (.invokevirtual 236, 3) := by decide +kernel
theorem dX10_success_77 : decode cX10_success 77 = .ok (.istore 7, 2) := by decide +kernel
theorem dX10_success_79 : decode cX10_success 79 = .ok (.iload_n 1, 1) := by decide +kernel
theorem dX10_success_80 : decode cX10_success 80 = .ok (.ifCond .ne 19, 3) := by decide +kernel
theorem dX10_success_83 : decode cX10_success 83 = .ok (.iload 7, 2) := by decide +kernel
theorem dX10_success_85 : decode cX10_success 85 = .ok (.iconst (-1), 1) := by decide +kernel
theorem dX10_success_86 : decode cX10_success 86 = .ok (.if_icmp .eq 7, 3) := by decide +kernel
theorem dX10_success_89 : decode cX10_success 89 = .ok (.iconst 1, 1) := by decide +kernel
theorem dX10_success_90 : decode cX10_success 90 = .ok (.goto 4, 3) := by decide +kernel
theorem dX10_success_0 : decode cX10_success 0 = .ok (.aload_n 0, 1) := by decide +kernel
theorem dX10_success_1 : decode cX10_success 1 = .ok (.iload_n 1, 1) := by decide +kernel
theorem dX10_success_2 : decode cX10_success 2 = .ok (.iconst 0, 1) := by decide +kernel
theorem dX10_success_3 : decode cX10_success 3 = .ok (.iconst 3, 1) := by decide +kernel
theorem dX10_success_4 : decode cX10_success 4 = .ok (.invokevirtual 77, 3) := by decide +kernel
theorem dX10_success_7 : decode cX10_success 7 = .ok (.aload_n 0, 1) := by decide +kernel
theorem dX10_success_8 : decode cX10_success 8 = .ok (.getfield 10, 3) := by decide +kernel
theorem dX10_success_11 : decode cX10_success 11 = .ok (.getfield 85, 3) := by decide +kernel
theorem dX10_success_14 : decode cX10_success 14 = .ok (.astore_n 2, 1) := by decide +kernel
theorem dX10_success_15 : decode cX10_success 15 = .ok (.aload_n 0, 1) := by decide +kernel
theorem dX10_success_16 : decode cX10_success 16 = .ok (.getfield 10, 3) := by decide +kernel
theorem dX10_success_19 : decode cX10_success 19 = .ok (.getfield 107, 3) := by decide +kernel
theorem dX10_success_22 : decode cX10_success 22 = .ok (.astore_n 3, 1) := by decide +kernel
theorem dX10_success_23 : decode cX10_success 23 = .ok (.aload_n 3, 1) := by decide +kernel
theorem dX10_success_24 : decode cX10_success 24 = .ok (.aload_n 0, 1) := by decide +kernel
theorem dX10_success_25 : decode cX10_success 25 = .ok (.getfield 37, 3) := by decide +kernel
theorem dX10_success_28 : decode cX10_success 28 = .ok (.aload_n 2, 1) := by decide +kernel
theorem dX10_success_29 : decode cX10_success 29 = .ok (.invokevirtual 232, 3) := by decide +kernel
theorem dX10_success_32 : decode cX10_success 32 = .ok (.iconst 0, 1) := by decide +kernel
theorem dX10_success_33 : decode cX10_success 33 = .ok (.istore 4, 2) := by decide +kernel
theorem dX10_success_35 : decode cX10_success 35 = .ok (.iconst 0, 1) := by decide +kernel
theorem dX10_success_36 : decode cX10_success 36 = .ok (.istore 5, 2) := by decide +kernel
theorem dX10_curve_106 : decode cX10_curve 106 = .ok (.ireturn, 1) := by decide +kernel
theorem dX10_curve_100 : decode cX10_curve 100 = .ok (.aload_n 0, 1) := by decide +kernel
theorem dX10_curve_101 : decode cX10_curve 101 = .ok (.iconst 0, 1) := by decide +kernel
theorem dX10_curve_102 : decode cX10_curve 102 = .ok (.iload_n 1, 1) := by decide +kernel
theorem dX10_curve_103 : decode cX10_curve 103 = .ok (.invokevirtual 340, 3) := by decide +kernel
theorem dX10_curve_77 : decode cX10_curve 77 = .ok (.iload_n 2, 1) := by decide +kernel
theorem dX10_curve_78 : decode cX10_curve 78 = .ok (.iconst 1, 1) := by decide +kernel
theorem dX10_curve_79 : decode cX10_curve 79 = .ok (.if_icmp .ne 21, 3) := by decide +kernel
theorem dX10_curve_82 : decode cX10_curve 82 = .ok (.aload_n 0, 1) := by decide +kernel
theorem dX10_curve_83 : decode cX10_curve 83 = .ok (.iload_n 1, 1) := by decide +kernel
theorem dX10_curve_84 : decode cX10_curve 84 = .ok (.aload_n 0, 1) := by decide +kernel
theorem dX10_curve_85 : decode cX10_curve 85 = .ok (.getfield 10, 3) := by decide +kernel
theorem dX10_curve_88 : decode cX10_curve 88 = .ok (.getfield 85, 3) := by decide +kernel
theorem dX10_curve_91 : decode cX10_curve 91 = .ok (.getfield 114, 3) := by decide +kernel
theorem dX10_curve_94 : decode cX10_curve 94 = .ok (.invokevirtual 340, 3) := by decide +kernel
theorem dX10_curve_97 : decode cX10_curve 97 = .ok (.goto 9, 3) := by decide +kernel
theorem dX10_curve_62 : decode cX10_curve 62 = .ok (.aload_n 0, 1) := by decide +kernel
theorem dX10_curve_63 : decode cX10_curve 63 = .ok (.aload_n 0, 1) := by decide +kernel
theorem dX10_curve_64 : decode cX10_curve 64 = .ok (.getfield 47, 3) := by decide +kernel
theorem dX10_curve_67 : decode cX10_curve 67 = .ok (.invokevirtual 336, 3) := by decide +kernel
theorem dX10_curve_70 : decode cX10_curve 70 = .ok (.istore_n 3, 1) := by decide +kernel
theorem dX10_curve_71 : decode cX10_curve 71 = .ok (.iload_n 2, 1) := by decide +kernel
theorem dX10_curve_72 : decode cX10_curve 72 = .ok (.ifCond .ne 5, 3) := by decide +kernel
theorem dX10_curve_75 : decode cX10_curve 75 = .ok (.iload_n 3, 1) := by decide +kernel
theorem dX10_curve_76 : decode cX10_curve 76 = .ok (.ireturn, 1) := by decide +kernel
theorem dX10_curve_32 : decode cX10_curve 32 = .ok (.iload_n 3, 1) := by decide +kernel
theorem dX10_curve_33 : decode cX10_curve 33 = .ok (.iload_n 1, 1) := by decide +kernel
theorem dX10_curve_34 : decode cX10_curve 34 = .ok (.if_icmp .ge 28, 3) := by decide +kernel
theorem dX10_curve_37 : decode cX10_curve 37 = .ok (.aload_n 0, 1) := by decide +kernel
theorem dX10_curve_38 : decode cX10_curve 38 = .ok (.getfield 47, 3) := by decide +kernel
theorem dX10_curve_41 : decode cX10_curve 41 = .ok (.iload_n 3, 1) := by decide +kernel
theorem dX10_curve_42 : decode cX10_curve 42 = .ok (.aload_n 0, 1) := by decide +kernel
theorem dX10_curve_43 : decode cX10_curve 43 = .ok (.getfield 10, 3) := by decide +kernel
theorem dX10_curve_46 : decode cX10_curve 46 = .ok (.getfield 85, 3) := by decide +kernel
theorem dX10_curve_49 : decode cX10_curve 49 = .ok (.iload_n 3, 1) := by decide +kernel
theorem dX10_curve_50 : decode cX10_curve 50 = .ok (.invokevirtual 162, 3) := by decide +kernel
theorem dX10_curve_53 : decode cX10_curve 53 = .ok (.invokevirtual 165, 3) := by decide +kernel
theorem dX10_curve_56 : decode cX10_curve 56 = .ok (.iinc 3 1, 3) := by decide +kernel
theorem dX10_curve_59 : decode cX10_curve 59 = .ok (.goto (-27), 3) := by decide +kernel
theorem dX10_curve_0 : decode cX10_curve 0 = .ok (.aload_n 0, 1) := by decide +kernel
theorem dX10_curve_1 : decode cX10_curve 1 = .ok (.iload_n 1, 1) := by decide +kernel
theorem dX10_curve_2 : decode cX10_curve 2 = .ok (.iconst 0, 1) := by decide +kernel
theorem dX10_curve_3 : decode cX10_curve 3 = .ok (.aload_n 0, 1) := by decide +kernel
theorem dX10_curve_4 : decode cX10_curve 4 = .ok (.getfield 10, 3) := by decide +kernel
theorem dX10_curve_7 : decode cX10_curve 7 = .ok (.getfield 85, 3) := by decide +kernel
theorem dX10_curve_10 : decode cX10_curve 10 = .ok (.getfield 114, 3) := by decide +kernel
theorem dX10_curve_13 : decode cX10_curve 13 = .ok (.invokevirtual 77, 3) := by decide +kernel
theorem dX10_curve_16 : decode cX10_curve 16 = .ok (.aload_n 0, 1) := by decide +kernel
theorem dX10_curve_17 : decode cX10_curve 17 = .ok (.iload_n 2, 1) := by decide +kernel
theorem dX10_curve_18 : decode cX10_curve 18 = .ok (.iconst 0, 1) := by decide +kernel
theorem dX10_curve_19 : decode cX10_curve 19 = .ok (.iconst 2, 1) := by decide +kernel
theorem dX10_curve_20 : decode cX10_curve 20 = .ok (.invokevirtual 77, 3) := by decide +kernel
theorem dX10_curve_23 : decode cX10_curve 23 = .ok (.aload_n 0, 1) := by decide +kernel
theorem dX10_curve_24 : decode cX10_curve 24 = .ok (.getfield 47, 3) := by decide +kernel
theorem dX10_curve_27 : decode cX10_curve 27 = .ok (.invokevirtual 110, 3) := by decide +kernel
theorem dX10_curve_30 : decode cX10_curve 30 = .ok (.iconst 0, 1) := by decide +kernel
theorem dX10_curve_31 : decode cX10_curve 31 = .ok (.istore_n 3, 1) := by decide +kernel
theorem dX10_needs_63 : decode cX10_needs 63 = .ok (.bipush 28, 2) := by decide +kernel
theorem dX10_needs_65 : decode cX10_needs 65 = .ok (.ireturn, 1) := by decide +kernel
theorem dX10_needs_38 : decode cX10_needs 38 = .ok (.aload_n 0, 1) := by decide +kernel
theorem dX10_needs_39 : decode cX10_needs 39 = .ok (.getfield 47, 3) := by decide +kernel
theorem dX10_needs_42 : decode cX10_needs 42 = .ok (.iload_n 2, 1) := by decide +kernel
theorem dX10_needs_43 : decode cX10_needs 43 = .ok (.aload_n 0, 1) := by decide +kernel
theorem dX10_needs_44 : decode cX10_needs 44 = .ok (.getfield 10, 3) := by decide +kernel
theorem dX10_needs_47 : decode cX10_needs 47 = .ok (.getfield 85, 3) := by decide +kernel
theorem dX10_needs_50 : decode cX10_needs 50 = .ok (.iload_n 2, 1) := by decide +kernel
theorem dX10_needs_51 : decode cX10_needs 51 = .ok (.invokevirtual 162, 3) := by decide +kernel
theorem dX10_needs_54 : decode cX10_needs 54 = .ok (.invokevirtual 165, 3) := by decide +kernel
theorem dX10_needs_57 : decode cX10_needs 57 = .ok (.iinc 1 1, 3) := by decide +kernel
theorem dX10_needs_60 : decode cX10_needs 60 = .ok (.goto (-44), 3) := by decide +kernel
theorem dX10_needs_16 : decode cX10_needs 16 = .ok (.iload_n 1, 1) := by decide +kernel
theorem dX10_needs_17 : decode cX10_needs 17 = .ok (.bipush 28, 2) := by decide +kernel
theorem dX10_needs_19 : decode cX10_needs 19 = .ok (.if_icmp .ge 44, 3) := by decide +kernel
theorem dX10_needs_22 : decode cX10_needs 22 = .ok (.aload_n 0, 1) := by decide +kernel
theorem dX10_needs_23 : decode cX10_needs 23 = .ok (.aload_n 0, 1) := by decide +kernel
theorem dX10_needs_24 : decode cX10_needs 24 = .ok (.getfield 47, 3) := by decide +kernel
theorem dX10_needs_27 : decode cX10_needs 27 = .ok (.invokevirtual 343, 3) := by decide +kernel
theorem dX10_needs_30 : decode cX10_needs 30 = .ok (.istore_n 2, 1) := by decide +kernel
theorem dX10_needs_31 : decode cX10_needs 31 = .ok (.iload_n 2, 1) := by decide +kernel
theorem dX10_needs_32 : decode cX10_needs 32 = .ok (.iconst (-1), 1) := by decide +kernel
theorem dX10_needs_33 : decode cX10_needs 33 = .ok (.if_icmp .ne 5, 3) := by decide +kernel
theorem dX10_needs_36 : decode cX10_needs 36 = .ok (.iload_n 1, 1) := by decide +kernel
theorem dX10_needs_37 : decode cX10_needs 37 = .ok (.ireturn, 1) := by decide +kernel
theorem dX10_needs_0 : decode cX10_needs 0 = .ok (.aload_n 0, 1) := by decide +kernel
theorem dX10_needs_1 : decode cX10_needs 1 = .ok (.getfield 47, 3) := by decide +kernel
theorem dX10_needs_4 : decode cX10_needs 4 = .ok (.aload_n 0, 1) := by decide +kernel
theorem dX10_needs_5 : decode cX10_needs 5 = .ok (.getfield 10, 3) := by decide +kernel
theorem dX10_needs_8 : decode cX10_needs 8 = .ok (.getfield 107, 3) := by decide +kernel
theorem dX10_needs_11 : decode cX10_needs 11 = .ok (.invokevirtual 346, 3) := by decide +kernel
theorem dX10_needs_14 : decode cX10_needs 14 = .ok (.iconst 0, 1) := by decide +kernel
theorem dX10_needs_15 : decode cX10_needs 15 = .ok (.istore_n 1, 1) := by decide +kernel
/-! one who listens -/
def scc (S : zD) (M : zG) (w i : Nat) : Bool := if w = 0 then decide (¬ otl (lod S M (gN M)) (dF S i) (dS S i) = -1) else if w = 1 then (!gH M i) && decide (gss S (gW M) i = pb S i) else if w = 2 then gH M i && decide (gss S (gW M) i = ghb M i) else decide (¬ otl (lod S M (gN M)) (dF S i) (dS S i) = -1) && decide (¬ otl (lod S M (gN M)) (dF S i) (dS S i) = pb S i)
def ca_X10_success : (zQ × Nat × Int32) → List zV := fun (Q, x, w) => [vR 19 0 x, vI w]
def cp_X10_success : (zQ × Nat × Int32) → zH → Prop := fun (Q, x, w) h => rpN Q h x ∧ vQ Q
def cq_X10_success : (zQ × Nat × Int32) → zH → Option zV → zH → Prop := fun (Q, x, w) h r h' => gR w 0 3 ∧ r = some (vI (nI (fb_ct (scc Q.1 Q.2.2 (cN w)) (dP Q.1)))) ∧ qf x h h'
def cx_X10_success : (zQ × Nat × Int32) → zH → String → zH → Prop := fun (Q, x, w) h E h' => ¬ gR w 0 3 ∧ xIA x h E h'
theorem rc_X10_success : ∀ x : (zQ × Nat × Int32), ∃ (j a : Nat) (As : List zV), ca_X10_success x = vR (10 + 9) j a :: As := by
  rintro ⟨⟨S, K, M⟩, x, w⟩
  exact ⟨_, _, _, rfl⟩
set_option maxHeartbeats 4000000 in
set_option maxRecDepth 100000 in
theorem m_X10_success : zMx yX10_success cX10_success 9 (some .int) ({ frames := 8, cells := 1, slots := 6, locals := 125 } : Room) ((ca_X10_success, cp_X10_success, cq_X10_success) : zC (zQ × Nat × Int32)) cx_X10_success := by
  refine zMx_of (by decide) ?_
  rintro X Y ⟨⟨S, K, M⟩, x, w⟩ h ⟨hN, hv, -, hj, hG⟩ O Ex hR
  have E := zEx_E Ex
  have hN : rpN (S, K, M) h x := hN
  have hS : rpS S h (h.2.2 x 0 + 1) := hN.1.1
  have hL : rpL M h (h.2.2 x 0 + 10) := hN.1.2.2
  have hv : vS S := hv
  have hG : ∀ i, i < gN M → gP M i < dP S := hG
  have hP28 := hS.2.1.2
  have hN10 := hS.1.2
  have hs1 : x < h.2.2 x 0 := hN.2.1
  have hs2 : h.2.2 x 0 + 13 ≤ x + 171 := hN.2.2
  have hrr : ∀ i, i < gN M → dF S (gP M i) < dN S ∧ dS S (gP M i) < dN S := fun i hi => ⟨(hS.2.2.2.1 _ (hG i hi)).1.2, (hS.2.2.2.1 _ (hG i hi)).2.2⟩
  have B_214 := zr_iload (X := X) (Y := Y) (u := 1) (v := 6) O dX10_success_214 (zr_ireturn O E (Nat.le_of_ble_eq_true rfl) (Nat.le_of_ble_eq_true rfl) dX10_success_216)
  have L_38 : ∀ nn : Nat, zSd X Y 1 6 38 ((fun k ls st h1 => ∃ (i q : Nat) (y4 y5 : Int32) (y6 y7 y8 : Option zV), k = dP S - i ∧ i ≤ dP S ∧ ls = [some (vR 19 0 x), some (vI w), some (vR 15 0 (h.2.2 x 0 + 1)), some (vR 12 0 (h.2.2 x 0 + 10)), some (vI y4), some (vI y5), y6, y7, y8] ∧ y4 = nI (fb_ct (scc S M q) i) ∧ y5 = nI i ∧ st = [] ∧ oW (lod S M (gN M)) h (x + 181) h1 ∧ w = nI q ∧ q ≤ 3 : Nat → zT) nn) := by
    refine zSd_loop (fun nn ih => ?_)
    have B_205 := zr_iadd (X := X) (Y := Y) (u := 1) (v := 6) O dX10_success_205 (zr_istore O dX10_success_206 (zr_iinc (c := 1) O dX10_success_208 rfl (zr_goto (tgt := 38) O dX10_success_211 rfl ih)))
    have B_204 := zr_iconst (X := X) (Y := Y) (u := 1) (v := 6) (x := 0) O dX10_success_204 rfl (B_205)
    have B_193 := zr_iload (X := X) (Y := Y) (u := 1) (v := 6) O dX10_success_193 (zr_iload O dX10_success_195 (zr_ifeq (tgt := 204) O dX10_success_197 rfl B_204 (zr_iconst (x := 1) O dX10_success_200 rfl (zr_goto (tgt := 205) O dX10_success_201 rfl B_205))))
    have C_193 : zSd X Y 1 6 193 (fun ls st h1 => ∃ (i q : Nat) (y4 y5 y8 : Int32) (y6 y7 : Option zV), i < dP S ∧ nn = dP S - i ∧ ls = [some (vR 19 0 x), some (vI w), some (vR 15 0 (h.2.2 x 0 + 1)), some (vR 12 0 (h.2.2 x 0 + 10)), some (vI y4), some (vI y5), y6, y7, some (vI y8)] ∧ y4 = nI (fb_ct (scc S M q) i) ∧ y5 = nI i ∧ y8 = bI (scc S M q i) ∧ st = [] ∧ oW (lod S M (gN M)) h (x + 181) h1 ∧ w = nI q ∧ q ≤ 3) := by
      refine zSd_weak B_193 (fun ls st h1 t => ?_)
      obtain ⟨i, q, y4, y5, y8, y6, y7, hi, en, rfl, rfl, rfl, rfl, rfl, hw, ew, hq⟩ := t
      refine zmg (k := _) (c := bI (scc S M q i) = 0) (x := 0) (y := 1) ?_
      refine ⟨dP S - (i + 1), by omega, i + 1, q, _, _, _, _, _, rfl, by omega, rfl, ?_, nI_1 i, rfl, hw, ew, hq⟩
      rw [fb_ct_succ]
      cases hb : scc S M q i with
      | true => exact nI_1 _
      | false => exact Int32.add_zero _
    have B_191 := zr_istore (X := X) (Y := Y) (u := 1) (v := 6) O dX10_success_191 (C_193)
    have B_190 := zr_iconst (X := X) (Y := Y) (u := 1) (v := 6) (x := 0) O dX10_success_190 rfl (B_191)
    have B_169 := zr_iload (X := X) (Y := Y) (u := 1) (v := 6) O dX10_success_169 (zr_iconst (x := (-1)) O dX10_success_171 rfl (zr_iceq (tgt := 190) O dX10_success_172 rfl B_190 (zr_iload O dX10_success_175 (zr_aload_n O dX10_success_177 rfl (zr_iload O dX10_success_178 (zr_cI (zr_cV (ci := 5) (n := 1) O m_X6_bitOf (bn_X6_bitOf _ ⟨rfl, rfl⟩) vw_X6_bitOf tw_418 rc_X6_bitOf (zrx hR rfl rfl rfl rfl) dX10_success_180 (zr_iceq (tgt := 190) O dX10_success_183 rfl B_190 (zr_iconst (x := 1) O dX10_success_186 rfl (zr_goto (tgt := 191) O dX10_success_187 rfl B_191))))))))))
    have B_164 := zr_istore (X := X) (Y := Y) (u := 1) (v := 6) O dX10_success_164 (zr_goto (tgt := 193) O dX10_success_166 rfl C_193)
    have B_163 := zr_iconst (X := X) (Y := Y) (u := 1) (v := 6) (x := 0) O dX10_success_163 rfl (B_164)
    have B_134 := zr_iload_n (X := X) (Y := Y) (u := 1) (v := 6) O dX10_success_134 rfl (zr_iconst (x := 2) O dX10_success_135 rfl (zr_icne (tgt := 169) O dX10_success_136 rfl B_169 (zr_aload_n O dX10_success_139 rfl (zr_iload O dX10_success_140 (zr_cI (zr_cV (ci := 2) (n := 1) O m_X3_hasHeard (bn_X3_hasHeard _ ⟨rfl, rfl⟩) vw_X3_hasHeard tw_385 rc_X3_hasHeard (zrx hR rfl rfl rfl rfl) dX10_success_142 (zr_ifeq (tgt := 163) O dX10_success_145 rfl B_163 (zr_iload O dX10_success_148 (zr_aload_n O dX10_success_150 rfl (zr_iload O dX10_success_151 (zr_cI (zr_cV (ci := 2) (n := 1) O m_X3_heardBitOf (bn_X3_heardBitOf _ ⟨rfl, rfl⟩) vw_X3_heardBitOf tw_934 rc_X3_heardBitOf (zrx hR rfl rfl rfl rfl) dX10_success_153 (zr_icne (tgt := 163) O dX10_success_156 rfl B_163 (zr_iconst (x := 1) O dX10_success_159 rfl (zr_goto (tgt := 164) O dX10_success_160 rfl B_164)))))))))))))))
    have B_129 := zr_istore (X := X) (Y := Y) (u := 1) (v := 6) O dX10_success_129 (zr_goto (tgt := 193) O dX10_success_131 rfl C_193)
    have B_128 := zr_iconst (X := X) (Y := Y) (u := 1) (v := 6) (x := 0) O dX10_success_128 rfl (B_129)
    have B_99 := zr_iload_n (X := X) (Y := Y) (u := 1) (v := 6) O dX10_success_99 rfl (zr_iconst (x := 1) O dX10_success_100 rfl (zr_icne (tgt := 134) O dX10_success_101 rfl B_134 (zr_aload_n O dX10_success_104 rfl (zr_iload O dX10_success_105 (zr_cI (zr_cV (ci := 2) (n := 1) O m_X3_hasHeard (bn_X3_hasHeard _ ⟨rfl, rfl⟩) vw_X3_hasHeard tw_385 rc_X3_hasHeard (zrx hR rfl rfl rfl rfl) dX10_success_107 (zr_ifne (tgt := 128) O dX10_success_110 rfl B_128 (zr_iload O dX10_success_113 (zr_aload_n O dX10_success_115 rfl (zr_iload O dX10_success_116 (zr_cI (zr_cV (ci := 5) (n := 1) O m_X6_bitOf (bn_X6_bitOf _ ⟨rfl, rfl⟩) vw_X6_bitOf tw_418 rc_X6_bitOf (zrx hR rfl rfl rfl rfl) dX10_success_118 (zr_icne (tgt := 128) O dX10_success_121 rfl B_128 (zr_iconst (x := 1) O dX10_success_124 rfl (zr_goto (tgt := 129) O dX10_success_125 rfl B_129)))))))))))))))
    have B_94 := zr_istore (X := X) (Y := Y) (u := 1) (v := 6) O dX10_success_94 (zr_goto (tgt := 193) O dX10_success_96 rfl C_193)
    have B_93 := zr_iconst (X := X) (Y := Y) (u := 1) (v := 6) (x := 0) O dX10_success_93 rfl (B_94)
    have B_38 := zr_iload (X := X) (Y := Y) (u := 1) (v := 6) O dX10_success_38 (zr_aload_n O dX10_success_40 rfl (zr_gI (ci := 5) (j := 4) O zc_5 (by decide) rfl tw_55 dX10_success_41 (zr_icge (tgt := 214) O dX10_success_44 rfl B_214 (zr_aload_n O dX10_success_47 rfl (zr_aload_n O dX10_success_48 rfl (zr_iload O dX10_success_49 (zr_cI (zr_cV (ci := 2) (n := 2) O m_X3_guessOf (bn_X3_guessOf _ ⟨rfl, rfl⟩) vw_X3_guessOf tw_935 rc_X3_guessOf (zrx hR rfl rfl rfl rfl) dX10_success_51 (zr_istore O dX10_success_54 (zr_aload_n O dX10_success_56 rfl (zr_gS (ci := 9) (j := 9) (off := 181) (t := 13) (n := 0) O zc_9 (by decide) rfl tw_296 dX10_success_57 (zr_aload_n O dX10_success_60 rfl (zr_gS (ci := 5) (j := 5) (off := 4) (t := 1) (n := 28) O zc_5 (by decide) rfl tw_65 dX10_success_61 (zr_iload O dX10_success_64 (zr_iald O dX10_success_66 (zr_aload_n O dX10_success_67 rfl (zr_gS (ci := 5) (j := 6) (off := 5) (t := 1) (n := 28) O zc_5 (by decide) rfl tw_72 dX10_success_68 (zr_iload O dX10_success_71 (zr_iald O dX10_success_73 (zr_cI (zr_cV (ci := 3) (n := 2) O m_X4_bitTold (bn_X4_bitTold _ ⟨rfl, rfl⟩) vw_X4_bitTold tw_386 rc_X4_bitTold (zrx hR rfl rfl rfl rfl) dX10_success_74 (zr_istore O dX10_success_77 (zr_iload_n O dX10_success_79 rfl (zr_ifne (tgt := 99) O dX10_success_80 rfl B_99 (zr_iload O dX10_success_83 (zr_iconst (x := (-1)) O dX10_success_85 rfl (zr_iceq (tgt := 93) O dX10_success_86 rfl B_93 (zr_iconst (x := 1) O dX10_success_89 rfl (zr_goto (tgt := 94) O dX10_success_90 rfl B_94)))))))))))))))))))))))))))))
    refine zSd_weak B_38 (fun ls st h1 t => ?_)
    obtain ⟨i, q, y4, y5, y6, y7, y8, rfl, hi, rfl, rfl, rfl, rfl, hw, rfl, hq⟩ := t
    have eq : cN (nI q) = q := nI_clamp (by omega)
    have g1 : gR (nI q) 0 3 := ⟨nI_pos' (by omega), nI_le (b := 3) hq (by decide)⟩
    have s1 := oW_sm hw
    have hQ1 := rpQ_sm s1 (by omega) hN.1
    have hS1 : rpS S h1 (h.2.2 x 0 + 1) := hQ1.1
    have hL1 : rpL M h1 (h.2.2 x 0 + 10) := hQ1.2.2
    refine ⟨fun c => ⟨g1, zri ?_, sn_sm s1 (by omega) (by omega)⟩, fun c => ?_⟩
    · rw [hS1.2.1.1] at c
      have := (nI_leI (by omega) (by omega)).mp c
      have hi2 : i = dP S := by omega
      subst hi2
      rw [eq]
    · rw [hS1.2.1.1] at c
      have hi2 : i < dP S := Nat.not_le.mp (fun z => c ((nI_leI (by omega) (by omega)).mpr z))
      obtain ⟨⟨b1, b2⟩, b3, b4⟩ := hS1.2.2.2.1 i hi2
      refine ⟨(S, M, h.2.2 x 0 + 10, h.2.2 x 0 + 1, i), rfl, ⟨hS1, hL1.2.2.2, hi2⟩, i, rfl, by omega, i, rfl, by omega, (lod S M (gN M), x + 181, dF S i, dS S i), by rw [b1, b3]; rfl, ⟨oW_rp hw (lod_lt hN10 _ hrr), by omega, by omega⟩, ?_⟩
      have fin : ∀ (v : Int32) (a6 a7 : Option zV), v = bI (scc S M q i) → ∃ (i_1 q_1 : Nat) (y4 y5 y8 : Int32) (y6 y7 : Option zV), i_1 < dP S ∧ dP S - i = dP S - i_1 ∧ ([some (vR 19 0 x), some (vI (nI q)), some (vR 15 0 (h.2.2 x 0 + 1)), some (vR 12 0 (h.2.2 x 0 + 10)), some (vI (nI (fb_ct (scc S M q) i))), some (vI (nI i)), a6, a7, some (vI v)] : zL) = [some (vR 19 0 x), some (vI (nI q)), some (vR 15 0 (h.2.2 x 0 + 1)), some (vR 12 0 (h.2.2 x 0 + 10)), some (vI y4), some (vI y5), y6, y7, some (vI y8)] ∧ y4 = nI (fb_ct (scc S M q_1) i_1) ∧ y5 = nI i_1 ∧ y8 = bI (scc S M q_1 i_1) ∧ ([] : List zV) = [] ∧ oW (lod S M (gN M)) h (x + 181) h1 ∧ nI q = nI q_1 ∧ q_1 ≤ 3 := fun v a6 a7 e => ⟨i, q, _, _, _, _, _, hi2, rfl, rfl, rfl, rfl, e, rfl, hw, rfl, hq⟩
      refine ⟨fun d => ⟨fun f => ⟨fun g => ⟨fun z1 => fin _ _ _ ?_, fun z1 => ⟨(S, h.2.2 x 0 + 1, i), rfl, ⟨hS1, hi2⟩, fun z2 => fin _ _ _ ?_, fun z2 => fin _ _ _ ?_⟩⟩, fun g => ⟨(M, h.2.2 x 0 + 10, i), rfl, ⟨hL1, by omega⟩, fun z1 => fin _ _ _ ?_, fun z1 => ⟨(M, h.2.2 x 0 + 10, i), rfl, ⟨hL1, by omega⟩, fun z2 => fin _ _ _ ?_, fun z2 => fin _ _ _ ?_⟩⟩⟩, fun f => ⟨(M, h.2.2 x 0 + 10, i), rfl, ⟨hL1, by omega⟩, fun z1 => fin _ _ _ ?_, fun z1 => ⟨(S, h.2.2 x 0 + 1, i), rfl, ⟨hS1, hi2⟩, fun z2 => fin _ _ _ ?_, fun z2 => fin _ _ _ ?_⟩⟩⟩, fun d => ⟨fun z1 => fin _ _ _ ?_, fun z1 => fin _ _ _ ?_⟩⟩
      · have q0 : ¬ q = 0 := fun z => d (by rw [z]; rfl)
        have q1 : ¬ q = 1 := fun z => f (by rw [z]; rfl)
        have q2 : ¬ q = 2 := fun z => g (by rw [z]; rfl)
        replace z1 : otl (lod S M (gN M)) (dF S i) (dS S i) = -1 := z1
        rw [scc, if_neg q0, if_neg q1, if_neg q2, decide_eq_false (fun z => z z1)]; rfl
      · have q0 : ¬ q = 0 := fun z => d (by rw [z]; rfl)
        have q1 : ¬ q = 1 := fun z => f (by rw [z]; rfl)
        have q2 : ¬ q = 2 := fun z => g (by rw [z]; rfl)
        replace z2 : otl (lod S M (gN M)) (dF S i) (dS S i) = pb S i := z2
        rw [scc, if_neg q0, if_neg q1, if_neg q2, decide_eq_false (p := ¬ otl (lod S M (gN M)) (dF S i) (dS S i) = pb S i) (fun z => z z2), Bool.and_false]; rfl
      · have q0 : ¬ q = 0 := fun z => d (by rw [z]; rfl)
        have q1 : ¬ q = 1 := fun z => f (by rw [z]; rfl)
        have q2 : ¬ q = 2 := fun z => g (by rw [z]; rfl)
        replace z1 : ¬ otl (lod S M (gN M)) (dF S i) (dS S i) = -1 := z1
        replace z2 : ¬ otl (lod S M (gN M)) (dF S i) (dS S i) = pb S i := z2
        rw [scc, if_neg q0, if_neg q1, if_neg q2, decide_eq_true z1, decide_eq_true z2]; rfl
      · have q0 : ¬ q = 0 := fun z => d (by rw [z]; rfl)
        have q1 : ¬ q = 1 := fun z => f (by rw [z]; rfl)
        have q2 : q = 2 := (nI_eq (b := 2) (by omega) (by omega)).mp g
        replace z1 : bI (gH M i) = 0 := z1
        rw [scc, if_neg q0, if_neg q1, if_pos q2, (bI_0 _).mp z1]; rfl
      · have q0 : ¬ q = 0 := fun z => d (by rw [z]; rfl)
        have q1 : ¬ q = 1 := fun z => f (by rw [z]; rfl)
        have q2 : q = 2 := (nI_eq (b := 2) (by omega) (by omega)).mp g
        replace z2 : ¬ gss S (gW M) i = ghb M i := z2
        rw [scc, if_neg q0, if_neg q1, if_pos q2, decide_eq_false z2, Bool.and_false]; rfl
      · have q0 : ¬ q = 0 := fun z => d (by rw [z]; rfl)
        have q1 : ¬ q = 1 := fun z => f (by rw [z]; rfl)
        have q2 : q = 2 := (nI_eq (b := 2) (by omega) (by omega)).mp g
        replace z1 : ¬ bI (gH M i) = 0 := z1
        replace z2 : gss S (gW M) i = ghb M i := z2
        have hh : gH M i = true := by
          cases hb : gH M i with
          | true => rfl
          | false => exact absurd ((bI_0 _).mpr hb) z1
        rw [scc, if_neg q0, if_neg q1, if_pos q2, decide_eq_true z2, hh]; rfl
      · have q0 : ¬ q = 0 := fun z => d (by rw [z]; rfl)
        have q1 : q = 1 := (nI_eq (b := 1) (by omega) (by omega)).mp f
        replace z1 : ¬ bI (gH M i) = 0 := z1
        have hh : gH M i = true := by
          cases hb : gH M i with
          | true => rfl
          | false => exact absurd ((bI_0 _).mpr hb) z1
        rw [scc, if_neg q0, if_pos q1, hh]; rfl
      · have q0 : ¬ q = 0 := fun z => d (by rw [z]; rfl)
        have q1 : q = 1 := (nI_eq (b := 1) (by omega) (by omega)).mp f
        replace z2 : ¬ gss S (gW M) i = pb S i := z2
        rw [scc, if_neg q0, if_pos q1, decide_eq_false z2, Bool.and_false]; rfl
      · have q0 : ¬ q = 0 := fun z => d (by rw [z]; rfl)
        have q1 : q = 1 := (nI_eq (b := 1) (by omega) (by omega)).mp f
        replace z1 : bI (gH M i) = 0 := z1
        replace z2 : gss S (gW M) i = pb S i := z2
        rw [scc, if_neg q0, if_pos q1, decide_eq_true z2, (bI_0 _).mp z1]; rfl
      · have q0 : q = 0 := (nI_eq (b := 0) (by omega) (by omega)).mp d
        replace z1 : otl (lod S M (gN M)) (dF S i) (dS S i) = -1 := z1
        rw [scc, if_pos q0, decide_eq_false (fun z => z z1)]; rfl
      · have q0 : q = 0 := (nI_eq (b := 0) (by omega) (by omega)).mp d
        replace z1 : ¬ otl (lod S M (gN M)) (dF S i) (dS S i) = -1 := z1
        rw [scc, if_pos q0, decide_eq_true z1]; rfl
  have B_38 := zSd_any L_38
  have B_0 := zr_aload_n (X := X) (Y := Y) (u := 0) (v := 0) O dX10_success_0 rfl (zr_iload_n O dX10_success_1 rfl (zr_iconst (x := 0) O dX10_success_2 rfl (zr_iconst (x := 3) O dX10_success_3 rfl (zr_xV (u' := 1) (v' := 6) (ci := 9) (n := 3) O Ex m_X10_needBetween (bn_X10_needBetween { frames := 0, cells := 0, slots := 0, locals := 0 } ⟨rfl, rfl⟩) vw_X10_needBetween tw_457 rc_X10_needBetween (zrx hR rfl rfl rfl rfl) (Nat.le_of_ble_eq_true rfl) (Nat.le_of_ble_eq_true rfl) (Nat.le_of_ble_eq_true rfl) (Nat.le_of_ble_eq_true rfl) dX10_success_4 (zr_aload_n O dX10_success_7 rfl (zr_gR (ci := 9) (j := 0) (off := 0) (t := 16) (n := 0) O zc_9 (by decide) rfl tw_287 dX10_success_8 (zr_gS (ci := 6) (j := 0) (off := 1) (t := 15) (n := 0) O zc_6 (by decide) rfl tw_172 dX10_success_11 (zr_astore_n O dX10_success_14 rfl (zr_aload_n O dX10_success_15 rfl (zr_gR (ci := 9) (j := 0) (off := 0) (t := 16) (n := 0) O zc_9 (by decide) rfl tw_287 dX10_success_16 (zr_gS (ci := 6) (j := 2) (off := 10) (t := 12) (n := 0) O zc_6 (by decide) rfl tw_177 dX10_success_19 (zr_astore_n O dX10_success_22 rfl (zr_aload_n O dX10_success_23 rfl (zr_aload_n O dX10_success_24 rfl (zr_gS (ci := 9) (j := 9) (off := 181) (t := 13) (n := 0) O zc_9 (by decide) rfl tw_296 dX10_success_25 (zr_aload_n O dX10_success_28 rfl (zr_cV (ci := 2) (n := 2) O m_X3_putInto (bn_X3_putInto _ ⟨rfl, rfl⟩) vw_X3_putInto tw_357 rc_X3_putInto (zrx hR rfl rfl rfl rfl) dX10_success_29 (zr_iconst (x := 0) O dX10_success_32 rfl (zr_istore O dX10_success_33 (zr_iconst (x := 0) O dX10_success_35 rfl (zr_istore O dX10_success_36 (B_38))))))))))))))))))))))
  refine ⟨rfl, Nat.le_of_ble_eq_true rfl, _, B_0, ?_⟩
  refine ⟨(x, w, 0, 3), rfl, trivial, fun E h' hd => hd, fun r h1 hq => ?_⟩
  obtain ⟨rfl, eh, g1⟩ := hq
  obtain rfl := eh.symm
  obtain ⟨q, rfl, hq, eq⟩ := rngx (n := 3) (by decide) g1
  refine ⟨(S, M, h.2.2 x 0 + 10, x + 181, h.2.2 x 0 + 1), rfl, ⟨hL, hj, hS, hG, by omega, by omega⟩, fun r h2 hq2 => ?_⟩
  obtain ⟨rfl, w2⟩ := hq2
  exact ⟨dP S - 0, 0, q, _, _, none, none, none, rfl, Nat.zero_le _, rfl, rfl, rfl, rfl, w2, rfl, hq⟩
/-- a listener that has heard the first pairs -/
def cvL (S : zD) : Nat → zG
  | 0 => gZ
  | i + 1 => gkp (cvL S i) i (decide (pb S i = 1))
theorem cvL_n (S : zD) : ∀ n, gN (cvL S n) = n ∧ ∀ i, i < n → gP (cvL S n) i = i
  | 0 => ⟨rfl, fun i hi => absurd hi (by omega)⟩
  | n + 1 => by
    obtain ⟨h1, h2⟩ := cvL_n S n
    have hH : gH (cvL S n) n = false := by
      unfold gH gIx
      rw [h1]
      exact decide_eq_false (first_none (fun j hj => decide_eq_false (by rw [h2 j hj]; omega)))
    have e : cvL S (n + 1) = (gN (cvL S n) + 1, va_up (gP (cvL S n)) (gN (cvL S n)) n, va_up (gB (cvL S n)) (gN (cvL S n)) (decide (pb S n = 1)), gW (cvL S n)) := by
      rw [cvL, gkp, if_neg (by rw [hH]; exact Bool.false_ne_true)]
    rw [e]
    refine ⟨by show gN (cvL S n) + 1 = _; rw [h1], fun i hi => ?_⟩
    show va_up (gP (cvL S n)) (gN (cvL S n)) n i = i
    rw [h1]
    by_cases c : i = n
    · rw [c, zup_s]
    · rw [zup_n _ _ c]; exact h2 i (by omega)
theorem pb_bb (S : zD) (p : Nat) : pb S p = bI (decide (pb S p = 1)) := bby_b _ _ _ _
def crv (S : zD) (n w : Nat) : Int32 := if w = 0 then nI (epN S (cvL S n)) else if w = 1 then nI (fb_ct (grt S (gW (lrW S (cvL S n) (epN S (cvL S n)))) n) (dP S)) else nI (fb_ct (grt S (gW (lrW S (cvL S n) (epN S (cvL S n)))) 0) n)
def ca_X10_curve : (zQ × Nat × Int32 × Int32) → List zV := fun (Q, x, m, w) => [vR 19 0 x, vI m, vI w]
def cp_X10_curve : (zQ × Nat × Int32 × Int32) → zH → Prop := fun (Q, x, m, w) h => rpN Q h x
def cq_X10_curve : (zQ × Nat × Int32 × Int32) → zH → Option zV → zH → Prop := fun (Q, x, m, w) h r h' => (gR m 0 (nI (dP Q.1)) ∧ gR w 0 2) ∧ r = some (vI (crv Q.1 (cN m) (cN w))) ∧ qf x h h'
def cx_X10_curve : (zQ × Nat × Int32 × Int32) → zH → String → zH → Prop := fun (Q, x, m, w) h E h' => ¬ (gR m 0 (nI (dP Q.1)) ∧ gR w 0 2) ∧ xIA x h E h'
theorem rc_X10_curve : ∀ x : (zQ × Nat × Int32 × Int32), ∃ (j a : Nat) (As : List zV), ca_X10_curve x = vR (10 + 9) j a :: As := by
  rintro ⟨⟨S, K, M⟩, x, m, w⟩
  exact ⟨_, _, _, rfl⟩
set_option maxHeartbeats 4000000 in
set_option maxRecDepth 100000 in
theorem m_X10_curve : zMx yX10_curve cX10_curve 4 (some .int) ({ frames := 8, cells := 2, slots := 12, locals := 125 } : Room) ((ca_X10_curve, cp_X10_curve, cq_X10_curve) : zC (zQ × Nat × Int32 × Int32)) cx_X10_curve := by
  refine zMx_of (by decide) ?_
  rintro X Y ⟨⟨S, K, M⟩, x, m, w⟩ h hN O Ex hR
  have E := zEx_E Ex
  have hN : rpN (S, K, M) h x := hN
  have hS : rpS S h (h.2.2 x 0 + 1) := hN.1.1
  have hP28 := hS.2.1.2
  have hs1 : x < h.2.2 x 0 := hN.2.1
  have hs2 : h.2.2 x 0 + 13 ≤ x + 171 := hN.2.2
  have B_106 := zr_ireturn (X := X) (Y := Y) (u := 2) (v := 12) O E (Nat.le_of_ble_eq_true rfl) (Nat.le_of_ble_eq_true rfl) dX10_curve_106
  have B_100 := zr_aload_n (X := X) (Y := Y) (u := 2) (v := 12) O dX10_curve_100 rfl (zr_iconst (x := 0) O dX10_curve_101 rfl (zr_iload_n O dX10_curve_102 rfl (zr_cI (zr_cV (ci := 9) (n := 2) O m_X10_guessedRight (bn_X10_guessedRight _ ⟨rfl, rfl⟩) vw_X10_guessedRight tw_1170 rc_X10_guessedRight (zrx hR rfl rfl rfl rfl) dX10_curve_103 (B_106)))))
  have B_77 := zr_iload_n (X := X) (Y := Y) (u := 2) (v := 12) O dX10_curve_77 rfl (zr_iconst (x := 1) O dX10_curve_78 rfl (zr_icne (tgt := 100) O dX10_curve_79 rfl B_100 (zr_aload_n O dX10_curve_82 rfl (zr_iload_n O dX10_curve_83 rfl (zr_aload_n O dX10_curve_84 rfl (zr_gR (ci := 9) (j := 0) (off := 0) (t := 16) (n := 0) O zc_9 (by decide) rfl tw_287 dX10_curve_85 (zr_gS (ci := 6) (j := 0) (off := 1) (t := 15) (n := 0) O zc_6 (by decide) rfl tw_172 dX10_curve_88 (zr_gI (ci := 5) (j := 4) O zc_5 (by decide) rfl tw_55 dX10_curve_91 (zr_cI (zr_cV (ci := 9) (n := 2) O m_X10_guessedRight (bn_X10_guessedRight _ ⟨rfl, rfl⟩) vw_X10_guessedRight tw_1170 rc_X10_guessedRight (zrx hR rfl rfl rfl rfl) dX10_curve_94 (zr_goto (tgt := 106) O dX10_curve_97 rfl B_106)))))))))))
  have B_62 := zr_aload_n (X := X) (Y := Y) (u := 2) (v := 12) O dX10_curve_62 rfl (zr_aload_n O dX10_curve_63 rfl (zr_gS (ci := 9) (j := 11) (off := 185) (t := 12) (n := 0) O zc_9 (by decide) rfl tw_298 dX10_curve_64 (zr_cV (ci := 9) (n := 1) O m_X10_epochsToLearn (bn_X10_epochsToLearn _ ⟨rfl, rfl⟩) vw_X10_epochsToLearn tw_1166 rc_X10_epochsToLearn (zrx hR rfl rfl rfl rfl) dX10_curve_67 (zr_istore_n O dX10_curve_70 rfl (zr_iload_n O dX10_curve_71 rfl (zr_ifne (tgt := 77) O dX10_curve_72 rfl B_77 (zr_iload_n O dX10_curve_75 rfl (zr_ireturn O E (Nat.le_of_ble_eq_true rfl) (Nat.le_of_ble_eq_true rfl) dX10_curve_76))))))))
  have L_32 : ∀ nn : Nat, zSd X Y 2 12 32 ((fun k ls st h1 => ∃ (i n q : Nat) (y3 : Int32), k = n - i ∧ i ≤ n ∧ ls = [some (vR 19 0 x), some (vI m), some (vI w), some (vI y3)] ∧ y3 = nI i ∧ st = [] ∧ sm (x + 185) 3 h h1 ∧ rpL (cvL S i) h1 (x + 185) ∧ (m = nI n ∧ n ≤ dP S) ∧ w = nI q ∧ q ≤ 2 : Nat → zT) nn) := by
    refine zSd_loop (fun nn ih => ?_)
    have B_32 := zr_iload_n (X := X) (Y := Y) (u := 2) (v := 12) O dX10_curve_32 rfl (zr_iload_n O dX10_curve_33 rfl (zr_icge (tgt := 62) O dX10_curve_34 rfl B_62 (zr_aload_n O dX10_curve_37 rfl (zr_gS (ci := 9) (j := 11) (off := 185) (t := 12) (n := 0) O zc_9 (by decide) rfl tw_298 dX10_curve_38 (zr_iload_n O dX10_curve_41 rfl (zr_aload_n O dX10_curve_42 rfl (zr_gR (ci := 9) (j := 0) (off := 0) (t := 16) (n := 0) O zc_9 (by decide) rfl tw_287 dX10_curve_43 (zr_gS (ci := 6) (j := 0) (off := 1) (t := 15) (n := 0) O zc_6 (by decide) rfl tw_172 dX10_curve_46 (zr_iload_n O dX10_curve_49 rfl (zr_cI (zr_cV (ci := 5) (n := 1) O m_X6_bitOf (bn_X6_bitOf _ ⟨rfl, rfl⟩) vw_X6_bitOf tw_418 rc_X6_bitOf (zrx hR rfl rfl rfl rfl) dX10_curve_50 (zr_cV (ci := 2) (n := 2) O m_X3_keep (bn_X3_keep _ ⟨rfl, rfl⟩) vw_X3_keep tw_426 rc_X3_keep (zrx hR rfl rfl rfl rfl) dX10_curve_53 (zr_iinc (c := 1) O dX10_curve_56 rfl (zr_goto (tgt := 32) O dX10_curve_59 rfl ih))))))))))))))
    refine zSd_weak B_32 (fun ls st h1 t => ?_)
    obtain ⟨i, n, q, y3, rfl, hi, rfl, rfl, rfl, s1, hL1, ⟨rfl, hn⟩, rfl, hq⟩ := t
    have en : cN (nI n) = n := nI_clamp (by omega)
    have eq : cN (nI q) = q := nI_clamp (by omega)
    have g1 : gR (nI n) 0 (nI (dP S)) := ⟨nI_pos' (by omega), nI_le hn (by omega)⟩
    have g2 : gR (nI q) 0 2 := ⟨nI_pos' (by omega), nI_le (b := 2) hq (by decide)⟩
    have r1 : h1.2.2 = h.2.2 := by rw [s1.2]
    have hN1 : rpN (S, K, M) h1 x := rpN_sm s1 (by omega) hN
    have hS1 : rpS S h1 (h.2.2 x 0 + 1) := rpS_sm s1 (by omega) hS
    refine ⟨fun c => ?_, fun c => ?_⟩
    · have := (nI_leI (by omega) (by omega)).mp c
      have hi2 : i = n := by omega
      subst hi2
      obtain ⟨c1, c2⟩ := cvL_n S i
      refine ⟨((S, K, M), cvL S i, x, x + 185), rfl, ⟨hN1, hL1, fun a b ha hb e => by rw [c1] at ha hb; rw [c2 a ha, c2 b hb] at e; exact e, fun a ha => by rw [c1] at ha; rw [c2 a ha]; show a < dP S; omega, by show x + 171 ≤ x + 185; omega⟩, fun r h2 hq2 => ?_⟩
      obtain ⟨rfl, f, e2, hf⟩ := hq2
      replace e2 : h2 = zsW h1 (x + 187) f := e2
      generalize eW : lrW (S, K, M).1 (cvL S i) (epN (S, K, M).1 (cvL S i)) = W0 at hf
      have eW : lrW S (cvL S i) (epN S (cvL S i)) = W0 := eW
      have s2 : sm (x + 185) 3 h h2 := by rw [e2]; exact sm_tr s1 (sm_W _ _ (by omega) (by omega))
      have hN2 : rpN (S, K, M) h2 x := rpN_sm s2 (by omega) hN
      have hS2 : rpS S h2 (h.2.2 x 0 + 1) := rpS_sm s2 (by omega) hS
      have r2 : h2.2.2 = h.2.2 := by rw [s2.2]
      have hf2 : ∀ r, r < 10 → h2.1 (x + 187) r = gW W0 r := fun r hr => by rw [e2, zsW_s]; exact hf r hr
      have fin : ∀ v : Int32, v = crv S i q → (gR (nI i) 0 (nI (dP S)) ∧ gR (nI q) 0 2) ∧ some (vI v) = some (vI (crv S (cN (nI i)) (cN (nI q)))) ∧ qf x h h2 := fun v e => ⟨⟨g1, g2⟩, zri (by rw [en, eq]; exact e), sn_sm s2 (by omega) (by omega)⟩
      refine ⟨fun d => ⟨fun f => ⟨((S, K, M), W0, x, 0, i), rfl, ⟨hN2, hf2, Nat.zero_le _, hn⟩, fin _ ?_⟩, fun f => ⟨((S, K, M), W0, x, i, dP S), ?_, ⟨hN2, hf2, hn, Nat.le_refl _⟩, fin _ ?_⟩⟩, fun d => fin _ ?_⟩
      · have q0 : ¬ q = 0 := fun z => d (by rw [z]; rfl)
        have q1 : ¬ q = 1 := fun z => f (by rw [z]; rfl)
        rw [crv, if_neg q0, if_neg q1, eW]; rfl
      · show [vR 19 0 x, vI (nI i), vI (h2.1 (h2.2.2 x 0 + 1) 4)] = _
        rw [r2, hS2.2.1.1]; rfl
      · have q0 : ¬ q = 0 := fun z => d (by rw [z]; rfl)
        have q1 : q = 1 := (nI_eq (b := 1) (by omega) (by omega)).mp f
        rw [crv, if_neg q0, if_pos q1, eW]; rfl
      · have q0 : q = 0 := (nI_eq (b := 0) (by omega) (by omega)).mp d
        rw [crv, if_pos q0]
    · have hi2 : i < n := Nat.not_le.mp (fun z => c ((nI_leI (by omega) (by omega)).mpr z))
      obtain ⟨c1, c2⟩ := cvL_n S i
      refine ⟨(S, h.2.2 x 0 + 1, i), by rw [r1]; rfl, ⟨hS1, by show i < dP S; omega⟩, (cvL S i, x + 185, i, decide (pb S i = 1)), ?_, ⟨hL1, by show i < 28; omega, Or.inr (by rw [c1]; show i < 28; omega)⟩, fun r h2 hq2 => ?_⟩
      · show [vR 12 0 (x + 185), vI (nI i), vI (pb S i)] = [vR 12 0 (x + 185), vI (nI i), vI (bI (decide (pb S i = 1)))]
        rw [← pb_bb]
      · obtain ⟨rfl, ⟨f, g, e2⟩, hL2⟩ := hq2
        replace e2 : h2 = zsW (zsW h1 (x + 185 + 1) g) (x + 185) f := e2
        exact ⟨n - (i + 1), by omega, i + 1, n, q, _, rfl, by omega, rfl, nI_1 i, rfl, by rw [e2]; exact sm_tr s1 (sm_tr (sm_W _ _ (by omega) (by omega)) (sm_W _ _ (by omega) (by omega))), hL2, ⟨rfl, hn⟩, rfl, hq⟩
  have B_32 := zSd_any L_32
  have B_0 := zr_aload_n (X := X) (Y := Y) (u := 0) (v := 0) O dX10_curve_0 rfl (zr_iload_n O dX10_curve_1 rfl (zr_iconst (x := 0) O dX10_curve_2 rfl (zr_aload_n O dX10_curve_3 rfl (zr_gR (ci := 9) (j := 0) (off := 0) (t := 16) (n := 0) O zc_9 (by decide) rfl tw_287 dX10_curve_4 (zr_gS (ci := 6) (j := 0) (off := 1) (t := 15) (n := 0) O zc_6 (by decide) rfl tw_172 dX10_curve_7 (zr_gI (ci := 5) (j := 4) O zc_5 (by decide) rfl tw_55 dX10_curve_10 (zr_xV (u' := 1) (v' := 6) (ci := 9) (n := 3) O Ex m_X10_needBetween (bn_X10_needBetween { frames := 0, cells := 0, slots := 0, locals := 0 } ⟨rfl, rfl⟩) vw_X10_needBetween tw_457 rc_X10_needBetween (zrx hR rfl rfl rfl rfl) (Nat.le_of_ble_eq_true rfl) (Nat.le_of_ble_eq_true rfl) (Nat.le_of_ble_eq_true rfl) (Nat.le_of_ble_eq_true rfl) dX10_curve_13 (zr_aload_n O dX10_curve_16 rfl (zr_iload_n O dX10_curve_17 rfl (zr_iconst (x := 0) O dX10_curve_18 rfl (zr_iconst (x := 2) O dX10_curve_19 rfl (zr_xV (u' := 2) (v' := 12) (ci := 9) (n := 3) O Ex m_X10_needBetween (bn_X10_needBetween { frames := 0, cells := 0, slots := 0, locals := 0 } ⟨rfl, rfl⟩) vw_X10_needBetween tw_457 rc_X10_needBetween (zrx hR rfl rfl rfl rfl) (Nat.le_of_ble_eq_true rfl) (Nat.le_of_ble_eq_true rfl) (Nat.le_of_ble_eq_true rfl) (Nat.le_of_ble_eq_true rfl) dX10_curve_20 (zr_aload_n O dX10_curve_23 rfl (zr_gS (ci := 9) (j := 11) (off := 185) (t := 12) (n := 0) O zc_9 (by decide) rfl tw_298 dX10_curve_24 (zr_cV (ci := 2) (n := 0) O m_X3_clear (bn_X3_clear _ ⟨rfl, rfl⟩) vw_X3_clear tw_670 rc_X3_clear (zrx hR rfl rfl rfl rfl) dX10_curve_27 (zr_iconst (x := 0) O dX10_curve_30 rfl (zr_istore_n O dX10_curve_31 rfl (B_32))))))))))))))))))
  refine ⟨rfl, Nat.le_of_ble_eq_true rfl, _, B_0, ?_⟩
  refine ⟨(x, m, 0, nI (dP S)), by rw [hS.2.1.1]; rfl, trivial, fun E h' hd => ⟨fun z => hd.1 z.1, hd.2⟩, fun r h1 hq => ?_⟩
  obtain ⟨rfl, eh, g1⟩ := hq
  obtain rfl := eh.symm
  refine ⟨(x, w, 0, 2), rfl, trivial, fun E h' hd => ⟨fun z => hd.1 z.2, hd.2⟩, fun r h1 hq => ?_⟩
  obtain ⟨rfl, eh, g2⟩ := hq
  obtain rfl := eh.symm
  obtain ⟨n, rfl, hn, en⟩ := rngx (by omega) g1
  obtain ⟨q, rfl, hq, eq⟩ := rngx (n := 2) (by decide) g2
  refine ⟨x + 185, rfl, trivial, fun r h2 hq2 => ?_⟩
  obtain ⟨rfl, s2, hL2⟩ := hq2
  exact ⟨n - 0, 0, n, q, _, rfl, Nat.zero_le _, rfl, rfl, rfl, s2, hL2, ⟨rfl, hn⟩, rfl, hq⟩
/-- what to hear next, and a listener that hears so -/
def nx1 (S : zD) (L : zG) : Int32 := (nxt S L (lod S L (gN L)) (dP S)).1
def ndL (S : zD) (L : zG) : Nat → zG
  | 0 => L
  | j + 1 => if nx1 S (ndL S L j) = -1 then ndL S L j else gkp (ndL S L j) (cN (nx1 S (ndL S L j))) (decide (pb S (cN (nx1 S (ndL S L j))) = 1))
def ndN (S : zD) (L : zG) : Nat := fa_first (fun j => decide (nx1 S (ndL S L j) = -1)) 28
theorem nxt_ok (S : zD) (L : zG) (B : Nat → Nat) : ∀ n, (nxt S L B n).1 = -1 ∨ ∃ i, i < n ∧ (nxt S L B n).1 = nI i ∧ gH L i = false
  | 0 => Or.inl rfl
  | n + 1 => by
    rw [nxt]
    split
    · rename_i hc
      exact Or.inr ⟨n, by omega, rfl, hc.1⟩
    · rcases nxt_ok S L B n with z | ⟨i, h1, h2, h3⟩
      · exact Or.inl z
      · exact Or.inr ⟨i, by omega, h2, h3⟩
theorem gH_no {L : zG} {p : Nat} (h : gH L p = false) : ∀ i, i < gN L → gP L i ≠ p := by
  intro i hi e
  have h1 : ¬ gIx L p < gN L := of_decide_eq_false h
  have h2 := fa_first_le (fun i => decide (gP L i = p)) (gN L)
  have h3 : gIx L p = gN L := by unfold gIx at h1 ⊢; omega
  have h4 := fa_first_no (fun i => decide (gP L i = p)) (gN L) i (by unfold gIx at h3; rw [h3]; exact hi)
  exact of_decide_eq_false h4 e
theorem g_more {L : zG} {n p : Nat} (hj : gInj L) (hG : ∀ i, i < gN L → gP L i < n) (hp : p < n) (hH : gH L p = false) : gN L < n := by
  have := fb_holes n (gN L + 1) (fun i => if i = gN L then p else gP L i) (fun i hi => by
    show (if i = gN L then p else gP L i) < n
    split
    · exact hp
    · exact hG i (by omega)) (fun i j hij hjn => by
    show ¬ (if i = gN L then p else gP L i) = (if j = gN L then p else gP L j)
    rw [if_neg (by omega : ¬ i = gN L)]
    split
    · exact gH_no hH i (by omega)
    · exact fun e => absurd (hj i j (by omega) (by omega) e) (by omega))
  omega
theorem gkp_P {L : zG} {n p : Nat} {b : Bool} (hG : ∀ i, i < gN L → gP L i < n) (hp : p < n) : ∀ i, i < gN (gkp L p b) → gP (gkp L p b) i < n := by
  unfold gkp
  split
  · exact hG
  · intro i hi
    have hi : i < gN L + 1 := hi
    show va_up (gP L) (gN L) p i < n
    by_cases c : i = gN L
    · rw [c, zup_s]; exact hp
    · rw [zup_n _ _ c]; exact hG i (by omega)
def ca_X10_needs : (zQ × Nat) → List zV := fun (Q, x) => [vR 19 0 x]
def cp_X10_needs : (zQ × Nat) → zH → Prop := fun (Q, x) h => rpN Q h x ∧ vQ Q
def cq_X10_needs : (zQ × Nat) → zH → Option zV → zH → Prop := fun (Q, x) h r h' => r = some (vI (nI (ndN Q.1 Q.2.2))) ∧ qf x h h'
theorem rc_X10_needs : ∀ x : (zQ × Nat), ∃ (j a : Nat) (As : List zV), ca_X10_needs x = vR (10 + 9) j a :: As := by
  rintro ⟨⟨S, K, M⟩, x⟩
  exact ⟨_, _, _, rfl⟩
set_option maxHeartbeats 4000000 in
set_option maxRecDepth 100000 in
theorem m_X10_needs : zM yX10_needs cX10_needs 3 (some .int) ({ frames := 5, cells := 0, slots := 0, locals := 133 } : Room) ((ca_X10_needs, cp_X10_needs, cq_X10_needs) : zC (zQ × Nat)) := by
  refine zM_of (by decide) ?_
  rintro X Y ⟨⟨S, K, M⟩, x⟩ h ⟨hN, hv, -, hj, hG⟩ O E hR
  have hN : rpN (S, K, M) h x := hN
  have hS : rpS S h (h.2.2 x 0 + 1) := hN.1.1
  have hL : rpL M h (h.2.2 x 0 + 10) := hN.1.2.2
  have hG : ∀ i, i < gN M → gP M i < dP S := hG
  have hP28 := hS.2.1.2
  have hs1 : x < h.2.2 x 0 := hN.2.1
  have hs2 : h.2.2 x 0 + 13 ≤ x + 171 := hN.2.2
  have B_63 := zr_bipush (X := X) (Y := Y) (u := 0) (v := 0) (x := (28)) O dX10_needs_63 (by decide) (zr_ireturn O E (Nat.le_refl _) (Nat.le_refl _) dX10_needs_65)
  have L_16 : ∀ nn : Nat, zSd X Y 0 0 16 ((fun k ls st h1 => ∃ (n : Nat) (y1 : Int32) (y2 : Option zV), k = 28 - n ∧ n ≤ 28 ∧ ls = [some (vR 19 0 x), some (vI y1), y2] ∧ y1 = nI n ∧ st = [] ∧ sm (x + 181) 7 h h1 ∧ rpL (ndL S M n) h1 (x + 185) ∧ gInj (ndL S M n) ∧ (∀ i, i < gN (ndL S M n) → gP (ndL S M n) i < dP S) ∧ ∀ j, j < n → decide (nx1 S (ndL S M j) = -1) = false : Nat → zT) nn) := by
    refine zSd_loop (fun nn ih => ?_)
    have B_38 := zr_aload_n (X := X) (Y := Y) (u := 0) (v := 0) O dX10_needs_38 rfl (zr_gS (ci := 9) (j := 11) (off := 185) (t := 12) (n := 0) O zc_9 (by decide) rfl tw_298 dX10_needs_39 (zr_iload_n O dX10_needs_42 rfl (zr_aload_n O dX10_needs_43 rfl (zr_gR (ci := 9) (j := 0) (off := 0) (t := 16) (n := 0) O zc_9 (by decide) rfl tw_287 dX10_needs_44 (zr_gS (ci := 6) (j := 0) (off := 1) (t := 15) (n := 0) O zc_6 (by decide) rfl tw_172 dX10_needs_47 (zr_iload_n O dX10_needs_50 rfl (zr_cI (zr_cV (ci := 5) (n := 1) O m_X6_bitOf (bn_X6_bitOf _ ⟨rfl, rfl⟩) vw_X6_bitOf tw_418 rc_X6_bitOf (zrm hR rfl rfl) dX10_needs_51 (zr_cV (ci := 2) (n := 2) O m_X3_keep (bn_X3_keep _ ⟨rfl, rfl⟩) vw_X3_keep tw_426 rc_X3_keep (zrm hR rfl rfl) dX10_needs_54 (zr_iinc (c := 1) O dX10_needs_57 rfl (zr_goto (tgt := 16) O dX10_needs_60 rfl ih)))))))))))
    have B_16 := zr_iload_n (X := X) (Y := Y) (u := 0) (v := 0) O dX10_needs_16 rfl (zr_bipush (x := (28)) O dX10_needs_17 (by decide) (zr_icge (tgt := 63) O dX10_needs_19 rfl B_63 (zr_aload_n O dX10_needs_22 rfl (zr_aload_n O dX10_needs_23 rfl (zr_gS (ci := 9) (j := 11) (off := 185) (t := 12) (n := 0) O zc_9 (by decide) rfl tw_298 dX10_needs_24 (zr_cV (ci := 9) (n := 1) O m_X10_nextFor (bn_X10_nextFor _ ⟨rfl, rfl⟩) vw_X10_nextFor tw_353 rc_X10_nextFor (zrm hR rfl rfl) dX10_needs_27 (zr_istore_n O dX10_needs_30 rfl (zr_iload_n O dX10_needs_31 rfl (zr_iconst (x := (-1)) O dX10_needs_32 rfl (zr_icne (tgt := 38) O dX10_needs_33 rfl B_38 (zr_iload_n O dX10_needs_36 rfl (zr_ireturn O E (Nat.le_refl _) (Nat.le_refl _) dX10_needs_37))))))))))))
    refine zSd_weak B_16 (fun ls st h1 t => ?_)
    obtain ⟨n, y1, y2, rfl, hn, rfl, rfl, rfl, s1, hL1, hj1, hG1, hb⟩ := t
    have s1' : qf x h h1 := sn_sm s1 (by omega) (by omega)
    have hN1 : rpN (S, K, M) h1 x := rpN_sm s1 (by omega) hN
    refine ⟨fun c => ⟨zri ?_, s1'⟩, fun c => ?_⟩
    · have := (nI_leI (a := 28) (by omega) (by omega)).mp c
      have hn2 : n = 28 := by omega
      subst hn2
      show (28 : Int32) = nI (ndN S M)
      rw [ndN, first_end hb]; rfl
    · have hn2 : n < 28 := Nat.not_le.mp (fun z => c ((nI_leI (a := 28) (by omega) (by omega)).mpr z))
      refine ⟨((S, K, M), ndL S M n, x, x + 185), rfl, ⟨hN1, hL1, hj1, hG1, by omega⟩, fun r h2 hq => ?_⟩
      obtain ⟨rfl, s2⟩ := hq
      replace s2 : sm (x + 181) 4 h1 h2 := s2
      have s3 : sm (x + 181) 7 h h2 := sm_tr s1 (sm_mo s2 (by omega) (by omega))
      refine ⟨fun d => ?_, fun d => ⟨zri ?_, sn_sm s3 (by omega) (by omega)⟩⟩
      · replace d : ¬ nx1 S (ndL S M n) = -1 := d
        rcases nxt_ok S (ndL S M n) (lod S (ndL S M n) (gN (ndL S M n))) (dP S) with z | ⟨p, hp, ep, hH⟩
        · exact absurd z d
        · have ep : nx1 S (ndL S M n) = nI p := ep
          have ec : cN (nx1 S (ndL S M n)) = p := by rw [ep]; exact nI_clamp (by omega)
          have hS2 : rpS S h2 (h.2.2 x 0 + 1) := rpS_sm s3 (by omega) hS
          have r2 : h2.2.2 = h.2.2 := by rw [s3.2]
          have hlt := g_more hj1 hG1 hp hH
          have hL2 : rpL (ndL S M n) h2 (x + 185) := rpL_sm s2 (by omega) hL1
          have en : ndL S M (n + 1) = gkp (ndL S M n) p (decide (pb S p = 1)) := by rw [ndL, if_neg d, ec]
          refine ⟨(S, h.2.2 x 0 + 1, p), ?_, ⟨hS2, hp⟩, (ndL S M n, x + 185, p, decide (pb S p = 1)), ?_, ⟨hL2, by show p < 28; omega, Or.inr (by show gN (ndL S M n) < 28; omega)⟩, fun r h4 hq2 => ?_⟩
          · show [vR 15 0 (h2.2.2 x 0 + 1), vI (nx1 S (ndL S M n))] = _
            rw [r2, ep]; rfl
          · show [vR 12 0 (x + 185), vI (nx1 S (ndL S M n)), vI (pb S p)] = [vR 12 0 (x + 185), vI (nI p), vI (bI (decide (pb S p = 1)))]
            rw [ep, ← pb_bb]
          · obtain ⟨rfl, ⟨f, g, e2⟩, hL4⟩ := hq2
            replace e2 : h4 = zsW (zsW h2 (x + 185 + 1) g) (x + 185) f := e2
            refine ⟨28 - (n + 1), by omega, n + 1, _, _, rfl, by omega, rfl, nI_1 n, rfl, by rw [e2]; exact sm_tr s3 (sm_tr (sm_W _ _ (by omega) (by omega)) (sm_W _ _ (by omega) (by omega))), by rw [en]; exact hL4, by rw [en]; exact gkp_inj hj1, by rw [en]; exact gkp_P hG1 hp, fun j hj => ?_⟩
            by_cases e : j = n
            · rw [e]; exact decide_eq_false d
            · exact hb j (by omega)
      · replace d : nx1 S (ndL S M n) = -1 := d
        show nI n = nI (ndN S M)
        rw [ndN, first_at hn2 (decide_eq_true d) hb]
  have B_16 := zSd_any L_16
  have B_0 := zr_aload_n (X := X) (Y := Y) (u := 0) (v := 0) O dX10_needs_0 rfl (zr_gS (ci := 9) (j := 11) (off := 185) (t := 12) (n := 0) O zc_9 (by decide) rfl tw_298 dX10_needs_1 (zr_aload_n O dX10_needs_4 rfl (zr_gR (ci := 9) (j := 0) (off := 0) (t := 16) (n := 0) O zc_9 (by decide) rfl tw_287 dX10_needs_5 (zr_gS (ci := 6) (j := 2) (off := 10) (t := 12) (n := 0) O zc_6 (by decide) rfl tw_177 dX10_needs_8 (zr_cV (ci := 2) (n := 1) O m_X3_copyFrom (bn_X3_copyFrom _ ⟨rfl, rfl⟩) vw_X3_copyFrom tw_413 rc_X3_copyFrom (zrm hR rfl rfl) dX10_needs_11 (zr_iconst (x := 0) O dX10_needs_14 rfl (zr_istore_n O dX10_needs_15 rfl (B_16))))))))
  refine ⟨rfl, Nat.le_of_ble_eq_true rfl, _, B_0, ?_⟩
  refine ⟨(M, x + 185, h.2.2 x 0 + 10), rfl, ⟨hL, by show x + 185 + 3 ≤ _ ∨ _ + 3 ≤ x + 185; omega⟩, fun r h2 hq => ?_⟩
  obtain ⟨rfl, s2, hL2⟩ := hq
  replace s2 : sm (x + 185) 3 h h2 := s2
  exact ⟨28 - 0, 0, _, none, rfl, by omega, rfl, rfl, rfl, sm_mo s2 (by omega) (by omega), hL2, hj, hG, fun j hj => absurd hj (by omega)⟩

