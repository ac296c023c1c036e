theorem dX11_speedOf_0 : decode cX11_speedOf 0 = .ok (.aload_n 0, 1) := by decide +kernel
theorem dX11_speedOf_1 : decode cX11_speedOf 1 = .ok (.getfield 17, 3) := by decide +kernel
theorem dX11_speedOf_4 : decode cX11_speedOf 4 = .ok (.iconst 5, 1) := by decide +kernel
theorem dX11_speedOf_5 : decode cX11_speedOf 5 = .ok (.iconst 3, 1) := by decide +kernel
theorem dX11_speedOf_6 : decode cX11_speedOf 6 = .ok (.iload_n 1, 1) := by decide +kernel
theorem dX11_speedOf_7 : decode cX11_speedOf 7 = .ok (.imul, 1) := by decide +kernel
theorem dX11_speedOf_8 : decode cX11_speedOf 8 = .ok (.iadd, 1) := by decide +kernel
theorem dX11_speedOf_9 : decode cX11_speedOf 9 = .ok (.iaload, 1) := by decide +kernel
theorem dX11_speedOf_10 : decode cX11_speedOf 10 = .ok (.aload_n 0, 1) := by decide +kernel
theorem dX11_speedOf_11 : decode cX11_speedOf 11 = .ok (.getfield 17, 3) := by decide +kernel
theorem dX11_speedOf_14 : decode cX11_speedOf 14 = .ok (.iconst 5, 1) := by decide +kernel
theorem dX11_speedOf_15 : decode cX11_speedOf 15 = .ok (.iconst 3, 1) := by decide +kernel
theorem dX11_speedOf_16 : decode cX11_speedOf 16 = .ok (.iload_n 1, 1) := by decide +kernel
theorem dX11_speedOf_17 : decode cX11_speedOf 17 = .ok (.imul, 1) := by decide +kernel
theorem dX11_speedOf_18 : decode cX11_speedOf 18 = .ok (.iadd, 1) := by decide +kernel
theorem dX11_speedOf_19 : decode cX11_speedOf 19 = .ok (.iconst 1, 1) := by decide +kernel
theorem dX11_speedOf_20 : decode cX11_speedOf 20 = .ok (.iadd, 1) := by decide +kernel
theorem dX11_speedOf_21 : decode cX11_speedOf 21 = .ok (.iaload, 1) := by decide +kernel
theorem dX11_speedOf_22 : decode cX11_speedOf 22 = .ok (.iload_n 2, 1) := by decide +kernel
theorem dX11_speedOf_23 : decode cX11_speedOf 23 = .ok (.bipush 20, 2) := by decide +kernel
theorem dX11_speedOf_25 : decode cX11_speedOf 25 = .ok (.isub, 1) := by decide +kernel
theorem dX11_speedOf_26 : decode cX11_speedOf 26 = .ok (.imul, 1) := by decide +kernel
theorem dX11_speedOf_27 : decode cX11_speedOf 27 = .ok (.bipush 10, 2) := by decide +kernel
theorem dX11_speedOf_29 : decode cX11_speedOf 29 = .ok (.idiv, 1) := by decide +kernel
theorem dX11_speedOf_30 : decode cX11_speedOf 30 = .ok (.iadd, 1) := by decide +kernel
theorem dX11_speedOf_31 : decode cX11_speedOf 31 = .ok (.ireturn, 1) := by decide +kernel
theorem dX11_noiseOf_0 : decode cX11_noiseOf 0 = .ok (.aload_n 0, 1) := by decide +kernel
theorem dX11_noiseOf_1 : decode cX11_noiseOf 1 = .ok (.getfield 17, 3) := by decide +kernel
theorem dX11_noiseOf_4 : decode cX11_noiseOf 4 = .ok (.iconst 5, 1) := by decide +kernel
theorem dX11_noiseOf_5 : decode cX11_noiseOf 5 = .ok (.iconst 3, 1) := by decide +kernel
theorem dX11_noiseOf_6 : decode cX11_noiseOf 6 = .ok (.iload_n 1, 1) := by decide +kernel
theorem dX11_noiseOf_7 : decode cX11_noiseOf 7 = .ok (.imul, 1) := by decide +kernel
theorem dX11_noiseOf_8 : decode cX11_noiseOf 8 = .ok (.iadd, 1) := by decide +kernel
theorem dX11_noiseOf_9 : decode cX11_noiseOf 9 = .ok (.iconst 2, 1) := by decide +kernel
theorem dX11_noiseOf_10 : decode cX11_noiseOf 10 = .ok (.iadd, 1) := by decide +kernel
theorem dX11_noiseOf_11 : decode cX11_noiseOf 11 = .ok (.iaload, 1) := by decide +kernel
theorem dX11_noiseOf_12 : decode cX11_noiseOf 12 = .ok (.ireturn, 1) := by decide +kernel
theorem dX11_bitBy_20 : decode cX11_bitBy 20 = .ok (.ireturn, 1) := by decide +kernel
theorem dX11_bitBy_19 : decode cX11_bitBy 19 = .ok (.iconst 0, 1) := by decide +kernel
theorem dX11_bitBy_15 : decode cX11_bitBy 15 = .ok (.iconst 1, 1) := by decide +kernel
theorem dX11_bitBy_16 : decode cX11_bitBy 16 = .ok (.goto 4, 3) := by decide +kernel
theorem dX11_bitBy_0 : decode cX11_bitBy 0 = .ok (.iload_n 0, 1) := by decide +kernel
theorem dX11_bitBy_1 : decode cX11_bitBy 1 = .ok (.iload_n 1, 1) := by decide +kernel
theorem dX11_bitBy_2 : decode cX11_bitBy 2 = .ok (.if_icmp .gt 13, 3) := by decide +kernel
theorem dX11_bitBy_5 : decode cX11_bitBy 5 = .ok (.iload_n 0, 1) := by decide +kernel
theorem dX11_bitBy_6 : decode cX11_bitBy 6 = .ok (.iload_n 1, 1) := by decide +kernel
theorem dX11_bitBy_7 : decode cX11_bitBy 7 = .ok (.if_icmp .ne 12, 3) := by decide +kernel
theorem dX11_bitBy_10 : decode cX11_bitBy 10 = .ok (.iload_n 2, 1) := by decide +kernel
theorem dX11_bitBy_11 : decode cX11_bitBy 11 = .ok (.iload_n 3, 1) := by decide +kernel
theorem dX11_bitBy_12 : decode cX11_bitBy 12 = .ok (.if_icmp .ge 7, 3) := by decide +kernel
theorem dX11_bitAt_0 : decode cX11_bitAt 0 = .ok (.aload_n 0, 1) := by decide +kernel
theorem dX11_bitAt_1 : decode cX11_bitAt 1 = .ok (.aload_n 0, 1) := by decide +kernel
theorem dX11_bitAt_2 : decode cX11_bitAt 2 = .ok (.getfield 26, 3) := by decide +kernel
theorem dX11_bitAt_5 : decode cX11_bitAt 5 = .ok (.iload_n 1, 1) := by decide +kernel
theorem dX11_bitAt_6 : decode cX11_bitAt 6 = .ok (.iaload, 1) := by decide +kernel
theorem dX11_bitAt_7 : decode cX11_bitAt 7 = .ok (.iload_n 2, 1) := by decide +kernel
theorem dX11_bitAt_8 : decode cX11_bitAt 8 = .ok (.invokevirtual 74, 3) := by decide +kernel
theorem dX11_bitAt_11 : decode cX11_bitAt 11 = .ok (.aload_n 0, 1) := by decide +kernel
theorem dX11_bitAt_12 : decode cX11_bitAt 12 = .ok (.aload_n 0, 1) := by decide +kernel
theorem dX11_bitAt_13 : decode cX11_bitAt 13 = .ok (.getfield 29, 3) := by decide +kernel
theorem dX11_bitAt_16 : decode cX11_bitAt 16 = .ok (.iload_n 1, 1) := by decide +kernel
theorem dX11_bitAt_17 : decode cX11_bitAt 17 = .ok (.iaload, 1) := by decide +kernel
theorem dX11_bitAt_18 : decode cX11_bitAt 18 = .ok (.iload_n 2, 1) := by decide +kernel
theorem dX11_bitAt_19 : decode cX11_bitAt 19 = .ok (.invokevirtual 74, 3) := by decide +kernel
theorem dX11_bitAt_22 : decode cX11_bitAt 22 = .ok (.aload_n 0, 1) := by decide +kernel
theorem dX11_bitAt_23 : decode cX11_bitAt 23 = .ok (.getfield 26, 3) := by decide +kernel
theorem dX11_bitAt_26 : decode cX11_bitAt 26 = .ok (.iload_n 1, 1) := by decide +kernel
theorem dX11_bitAt_27 : decode cX11_bitAt 27 = .ok (.iaload, 1) := by decide +kernel
theorem dX11_bitAt_28 : decode cX11_bitAt 28 = .ok (.aload_n 0, 1) := by decide +kernel
theorem dX11_bitAt_29 : decode cX11_bitAt 29 = .ok (.getfield 29, 3) := by decide +kernel
theorem dX11_bitAt_32 : decode cX11_bitAt 32 = .ok (.iload_n 1, 1) := by decide +kernel
theorem dX11_bitAt_33 : decode cX11_bitAt 33 = .ok (.iaload, 1) := by decide +kernel
theorem dX11_bitAt_34 : decode cX11_bitAt 34 = .ok (.invokestatic 78, 3) := by decide +kernel
theorem dX11_bitAt_37 : decode cX11_bitAt 37 = .ok (.ireturn, 1) := by decide +kernel
theorem dX11_bitOf_0 : decode cX11_bitOf 0 = .ok (.aload_n 0, 1) := by decide +kernel
theorem dX11_bitOf_1 : decode cX11_bitOf 1 = .ok (.iload_n 1, 1) := by decide +kernel
theorem dX11_bitOf_2 : decode cX11_bitOf 2 = .ok (.bipush 20, 2) := by decide +kernel
theorem dX11_bitOf_4 : decode cX11_bitOf 4 = .ok (.invokevirtual 82, 3) := by decide +kernel
theorem dX11_bitOf_7 : decode cX11_bitOf 7 = .ok (.ireturn, 1) := by decide +kernel
theorem dX11_apart_39 : decode cX11_apart 39 = .ok (.aload_n 0, 1) := by decide +kernel
theorem dX11_apart_40 : decode cX11_apart 40 = .ok (.aload_n 0, 1) := by decide +kernel
theorem dX11_apart_41 : decode cX11_apart 41 = .ok (.getfield 26, 3) := by decide +kernel
theorem dX11_apart_44 : decode cX11_apart 44 = .ok (.iload_n 1, 1) := by decide +kernel
theorem dX11_apart_45 : decode cX11_apart 45 = .ok (.iaload, 1) := by decide +kernel
theorem dX11_apart_46 : decode cX11_apart 46 = .ok (.invokevirtual 89, 3) := by decide +kernel
theorem dX11_apart_49 : decode cX11_apart 49 = .ok (.isub, 1) := by decide +kernel
theorem dX11_apart_50 : decode cX11_apart 50 = .ok (.aload_n 0, 1) := by decide +kernel
theorem dX11_apart_51 : decode cX11_apart 51 = .ok (.aload_n 0, 1) := by decide +kernel
theorem dX11_apart_52 : decode cX11_apart 52 = .ok (.getfield 29, 3) := by decide +kernel
theorem dX11_apart_55 : decode cX11_apart 55 = .ok (.iload_n 1, 1) := by decide +kernel
theorem dX11_apart_56 : decode cX11_apart 56 = .ok (.iaload, 1) := by decide +kernel
theorem dX11_apart_57 : decode cX11_apart 57 = .ok (.invokevirtual 89, 3) := by decide +kernel
theorem dX11_apart_60 : decode cX11_apart 60 = .ok (.isub, 1) := by decide +kernel
theorem dX11_apart_61 : decode cX11_apart 61 = .ok (.ireturn, 1) := by decide +kernel
theorem dX11_apart_37 : decode cX11_apart 37 = .ok (.iload_n 3, 1) := by decide +kernel
theorem dX11_apart_38 : decode cX11_apart 38 = .ok (.ineg, 1) := by decide +kernel
theorem dX11_apart_0 : decode cX11_apart 0 = .ok (.aload_n 0, 1) := by decide +kernel
theorem dX11_apart_1 : decode cX11_apart 1 = .ok (.aload_n 0, 1) := by decide +kernel
theorem dX11_apart_2 : decode cX11_apart 2 = .ok (.getfield 26, 3) := by decide +kernel
theorem dX11_apart_5 : decode cX11_apart 5 = .ok (.iload_n 1, 1) := by decide +kernel
theorem dX11_apart_6 : decode cX11_apart 6 = .ok (.iaload, 1) := by decide +kernel
theorem dX11_apart_7 : decode cX11_apart 7 = .ok (.iload_n 2, 1) := by decide +kernel
theorem dX11_apart_8 : decode cX11_apart 8 = .ok (.invokevirtual 74, 3) := by decide +kernel
theorem dX11_apart_11 : decode cX11_apart 11 = .ok (.aload_n 0, 1) := by decide +kernel
theorem dX11_apart_12 : decode cX11_apart 12 = .ok (.aload_n 0, 1) := by decide +kernel
theorem dX11_apart_13 : decode cX11_apart 13 = .ok (.getfield 29, 3) := by decide +kernel
theorem dX11_apart_16 : decode cX11_apart 16 = .ok (.iload_n 1, 1) := by decide +kernel
theorem dX11_apart_17 : decode cX11_apart 17 = .ok (.iaload, 1) := by decide +kernel
theorem dX11_apart_18 : decode cX11_apart 18 = .ok (.iload_n 2, 1) := by decide +kernel
theorem dX11_apart_19 : decode cX11_apart 19 = .ok (.invokevirtual 74, 3) := by decide +kernel
theorem dX11_apart_22 : decode cX11_apart 22 = .ok (.isub, 1) := by decide +kernel
theorem dX11_apart_23 : decode cX11_apart 23 = .ok (.istore_n 3, 1) := by decide +kernel
theorem dX11_apart_24 : decode cX11_apart 24 = .ok (.aload_n 0, 1) := by decide +kernel
theorem dX11_apart_25 : decode cX11_apart 25 = .ok (.iload_n 1, 1) := by decide +kernel
theorem dX11_apart_26 : decode cX11_apart 26 = .ok (.invokevirtual 85, 3) := by decide +kernel
theorem dX11_apart_29 : decode cX11_apart 29 = .ok (.iconst 1, 1) := by decide +kernel
theorem dX11_apart_30 : decode cX11_apart 30 = .ok (.if_icmp .ne 7, 3) := by decide +kernel
theorem dX11_apart_33 : decode cX11_apart 33 = .ok (.iload_n 3, 1) := by decide +kernel
theorem dX11_apart_34 : decode cX11_apart 34 = .ok (.goto 5, 3) := by decide +kernel
theorem dX11_marginOf_42 : decode cX11_marginOf 42 = .ok (.iload_n 2, 1) := by decide +kernel
theorem dX11_marginOf_43 : decode cX11_marginOf 43 = .ok (.ireturn, 1) := by decide +kernel
theorem dX11_marginOf_15 : decode cX11_marginOf 15 = .ok (.iload_n 3, 1) := by decide +kernel
theorem dX11_marginOf_16 : decode cX11_marginOf 16 = .ok (.aload_n 0, 1) := by decide +kernel
theorem dX11_marginOf_17 : decode cX11_marginOf 17 = .ok (.getfield 17, 3) := by decide +kernel
theorem dX11_marginOf_20 : decode cX11_marginOf 20 = .ok (.iconst 2, 1) := by decide +kernel
theorem dX11_marginOf_21 : decode cX11_marginOf 21 = .ok (.iaload, 1) := by decide +kernel
theorem dX11_marginOf_22 : decode cX11_marginOf 22 = .ok (.if_icmp .gt 20, 3) := by decide +kernel
theorem dX11_marginOf_25 : decode cX11_marginOf 25 = .ok (.iload_n 2, 1) := by decide +kernel
theorem dX11_marginOf_26 : decode cX11_marginOf 26 = .ok (.aload_n 0, 1) := by decide +kernel
theorem dX11_marginOf_27 : decode cX11_marginOf 27 = .ok (.iload_n 1, 1) := by decide +kernel
theorem dX11_marginOf_28 : decode cX11_marginOf 28 = .ok (.iload_n 3, 1) := by decide +kernel
theorem dX11_marginOf_29 : decode cX11_marginOf 29 = .ok (.invokevirtual 92, 3) := by decide +kernel
theorem dX11_marginOf_32 : decode cX11_marginOf 32 = .ok (.invokestatic 95, 3) := by decide +kernel
theorem dX11_marginOf_35 : decode cX11_marginOf 35 = .ok (.istore_n 2, 1) := by decide +kernel
theorem dX11_marginOf_36 : decode cX11_marginOf 36 = .ok (.iinc 3 1, 3) := by decide +kernel
theorem dX11_marginOf_39 : decode cX11_marginOf 39 = .ok (.goto (-24), 3) := by decide +kernel
theorem dX11_marginOf_0 : decode cX11_marginOf 0 = .ok (.aload_n 0, 1) := by decide +kernel
theorem dX11_marginOf_1 : decode cX11_marginOf 1 = .ok (.iload_n 1, 1) := by decide +kernel
theorem dX11_marginOf_2 : decode cX11_marginOf 2 = .ok (.bipush 20, 2) := by decide +kernel
theorem dX11_marginOf_4 : decode cX11_marginOf 4 = .ok (.invokevirtual 92, 3) := by decide +kernel
theorem dX11_marginOf_7 : decode cX11_marginOf 7 = .ok (.istore_n 2, 1) := by decide +kernel
theorem dX11_marginOf_8 : decode cX11_marginOf 8 = .ok (.aload_n 0, 1) := by decide +kernel
theorem dX11_marginOf_9 : decode cX11_marginOf 9 = .ok (.getfield 17, 3) := by decide +kernel
theorem dX11_marginOf_12 : decode cX11_marginOf 12 = .ok (.iconst 1, 1) := by decide +kernel
theorem dX11_marginOf_13 : decode cX11_marginOf 13 = .ok (.iaload, 1) := by decide +kernel
theorem dX11_marginOf_14 : decode cX11_marginOf 14 = .ok (.istore_n 3, 1) := by decide +kernel
theorem dX11_isSteady_14 : decode cX11_isSteady 14 = .ok (.ireturn, 1) := by decide +kernel
theorem dX11_isSteady_13 : decode cX11_isSteady 13 = .ok (.iconst 0, 1) := by decide +kernel
theorem dX11_isSteady_0 : decode cX11_isSteady 0 = .ok (.aload_n 0, 1) := by decide +kernel
theorem dX11_isSteady_1 : decode cX11_isSteady 1 = .ok (.iload_n 1, 1) := by decide +kernel
theorem dX11_isSteady_2 : decode cX11_isSteady 2 = .ok (.invokevirtual 100, 3) := by decide +kernel
theorem dX11_isSteady_5 : decode cX11_isSteady 5 = .ok (.iload_n 2, 1) := by decide +kernel
theorem dX11_isSteady_6 : decode cX11_isSteady 6 = .ok (.if_icmp .le 7, 3) := by decide +kernel
theorem dX11_isSteady_9 : decode cX11_isSteady 9 = .ok (.iconst 1, 1) := by decide +kernel
theorem dX11_isSteady_10 : decode cX11_isSteady 10 = .ok (.goto 4, 3) := by decide +kernel
theorem dX11_within_15 : decode cX11_within 15 = .ok (.ireturn, 1) := by decide +kernel
theorem dX11_within_14 : decode cX11_within 14 = .ok (.iconst 0, 1) := by decide +kernel
theorem dX11_within_0 : decode cX11_within 0 = .ok (.iload_n 0, 1) := by decide +kernel
theorem dX11_within_1 : decode cX11_within 1 = .ok (.iload_n 1, 1) := by decide +kernel
theorem dX11_within_2 : decode cX11_within 2 = .ok (.if_icmp .lt 12, 3) := by decide +kernel
theorem dX11_within_5 : decode cX11_within 5 = .ok (.iload_n 0, 1) := by decide +kernel
theorem dX11_within_6 : decode cX11_within 6 = .ok (.iload_n 2, 1) := by decide +kernel
theorem dX11_within_7 : decode cX11_within 7 = .ok (.if_icmp .gt 7, 3) := by decide +kernel
theorem dX11_within_10 : decode cX11_within 10 = .ok (.iconst 1, 1) := by decide +kernel
theorem dX11_within_11 : decode cX11_within 11 = .ok (.goto 4, 3) := by decide +kernel
theorem dX11_isFine_38 : decode cX11_isFine 38 = .ok (.ireturn, 1) := by decide +kernel
theorem dX11_isFine_37 : decode cX11_isFine 37 = .ok (.iconst 0, 1) := by decide +kernel
theorem dX11_isFine_26 : decode cX11_isFine 26 = .ok (.aload_n 0, 1) := by decide +kernel
theorem dX11_isFine_27 : decode cX11_isFine 27 = .ok (.getfield 1, 3) := by decide +kernel
theorem dX11_isFine_30 : decode cX11_isFine 30 = .ok (.ifCond .ne 7, 3) := by decide +kernel
theorem dX11_isFine_33 : decode cX11_isFine 33 = .ok (.iconst 1, 1) := by decide +kernel
theorem dX11_isFine_34 : decode cX11_isFine 34 = .ok (.goto 4, 3) := by decide +kernel
theorem dX11_isFine_0 : decode cX11_isFine 0 = .ok (.iload_n 1, 1) := by decide +kernel
theorem dX11_isFine_1 : decode cX11_isFine 1 = .ok (.ifCond .ne 25, 3) := by decide +kernel
theorem dX11_isFine_4 : decode cX11_isFine 4 = .ok (.aload_n 0, 1) := by decide +kernel
theorem dX11_isFine_5 : decode cX11_isFine 5 = .ok (.getfield 1, 3) := by decide +kernel
theorem dX11_isFine_8 : decode cX11_isFine 8 = .ok (.ifCond .ne 18, 3) := by decide +kernel
theorem dX11_isFine_11 : decode cX11_isFine 11 = .ok (.aload_n 0, 1) := by decide +kernel
theorem dX11_isFine_12 : decode cX11_isFine 12 = .ok (.iload_n 2, 1) := by decide +kernel
theorem dX11_isFine_13 : decode cX11_isFine 13 = .ok (.putfield 1, 3) := by decide +kernel
theorem dX11_isFine_16 : decode cX11_isFine 16 = .ok (.aload_n 0, 1) := by decide +kernel
theorem dX11_isFine_17 : decode cX11_isFine 17 = .ok (.getfield 7, 3) := by decide +kernel
theorem dX11_isFine_20 : decode cX11_isFine 20 = .ok (.iload_n 3, 1) := by decide +kernel
theorem dX11_isFine_21 : decode cX11_isFine 21 = .ok (.dup2, 1) := by decide +kernel
theorem dX11_isFine_22 : decode cX11_isFine 22 = .ok (.iaload, 1) := by decide +kernel
theorem dX11_isFine_23 : decode cX11_isFine 23 = .ok (.iconst 1, 1) := by decide +kernel
theorem dX11_isFine_24 : decode cX11_isFine 24 = .ok (.iadd, 1) := by decide +kernel
theorem dX11_isFine_25 : decode cX11_isFine 25 = .ok (.iastore, 1) := by decide +kernel
/-! the reference: its slip -/
def rmS (S : zD) (h : zH) (y : Nat) : Prop :=
  (h.1 y 10 = nI (dN S) ∧ dN S ≤ 10) ∧ (h.1 y 11 = nI (dP S) ∧ dP S ≤ 28) ∧ (∀ r, r < dN S → h.1 (y + 2) (5 + 3 * r) = dB S r ∧ h.1 (y + 2) (5 + 3 * r + 1) = dD S r ∧ h.1 (y + 2) (5 + 3 * r + 2) = dZ S r) ∧ (∀ p, p < dP S → (h.1 (y + 5) p = nI (dF S p) ∧ dF S p < dN S) ∧ h.1 (y + 6) p = nI (dS S p) ∧ dS S p < dN S) ∧ ∀ k, k < 5 → h.1 (y + 2) k = dT S k
theorem i53 (r : Nat) : (5 : Int32) + 3 * nI r = nI (5 + 3 * r) := by
  show nI 5 + nI 3 * nI r = _
  rw [nI_mul, nI_add]
def ca_X11_speedOf : (zD × Nat × Nat × Int32) → List zV := fun (S, y, r, t) => [vR 20 0 y, vI (nI r), vI t]
def cp_X11_speedOf : (zD × Nat × Nat × Int32) → zH → Prop := fun (S, y, r, t) h => rmS S h y ∧ r < dN S
def cf_X11_speedOf : (zD × Nat × Nat × Int32) → zH → Int32 := fun (S, y, r, t) _ => spd S r t
theorem rc_X11_speedOf : ∀ x : (zD × Nat × Nat × Int32), ∃ (j a : Nat) (As : List zV), ca_X11_speedOf x = vR (10 + 10) j a :: As := by
  rintro ⟨S, y, r, t⟩
  exact ⟨_, _, _, rfl⟩
set_option maxHeartbeats 4000000 in
set_option maxRecDepth 100000 in
theorem m_X11_speedOf : zM yX11_speedOf cX11_speedOf 3 (some .int) ({ frames := 0, cells := 0, slots := 0, locals := 0 } : Room) (zcI ca_X11_speedOf cp_X11_speedOf cf_X11_speedOf) := by
  refine zM_of (by decide) ?_
  rintro X Y ⟨S, y, r, t⟩ h ⟨hS, hr⟩ O E hR
  have B_0 := zr_aload_n (X := X) (Y := Y) (u := 0) (v := 0) O dX11_speedOf_0 rfl (zr_gS (ci := 10) (j := 2) (off := 2) (t := 1) (n := 218) O zc_10 (by decide) rfl tw_1189 dX11_speedOf_1 (zr_iconst (x := 5) O dX11_speedOf_4 rfl (zr_iconst (x := 3) O dX11_speedOf_5 rfl (zr_iload_n O dX11_speedOf_6 rfl (zr_imul O dX11_speedOf_7 (zr_iadd O dX11_speedOf_8 (zr_iald O dX11_speedOf_9 (zr_aload_n O dX11_speedOf_10 rfl (zr_gS (ci := 10) (j := 2) (off := 2) (t := 1) (n := 218) O zc_10 (by decide) rfl tw_1189 dX11_speedOf_11 (zr_iconst (x := 5) O dX11_speedOf_14 rfl (zr_iconst (x := 3) O dX11_speedOf_15 rfl (zr_iload_n O dX11_speedOf_16 rfl (zr_imul O dX11_speedOf_17 (zr_iadd O dX11_speedOf_18 (zr_iconst (x := 1) O dX11_speedOf_19 rfl (zr_iadd O dX11_speedOf_20 (zr_iald O dX11_speedOf_21 (zr_iload_n O dX11_speedOf_22 rfl (zr_bipush (x := (20)) O dX11_speedOf_23 (by decide) (zr_isub O dX11_speedOf_25 (zr_imul O dX11_speedOf_26 (zr_bipush (x := (10)) O dX11_speedOf_27 (by decide) (zr_idiv O dX11_speedOf_29 (zr_iadd O dX11_speedOf_30 (zr_ireturn O E (Nat.le_refl _) (Nat.le_refl _) dX11_speedOf_31)))))))))))))))))))))))))
  refine ⟨rfl, Nat.le_of_ble_eq_true rfl, _, B_0, ?_⟩
  have hN := hS.1.2
  have hr : r < dN S := hr
  obtain ⟨h1, h2, h3⟩ := hS.2.2.1 r hr
  refine ⟨5 + 3 * r, i53 r, by omega, 5 + 3 * r + 1, by rw [i53]; exact nI_1 _, by omega, by decide, zri ?_, rfl⟩
  rw [h1, h2]
  rfl
def ca_X11_noiseOf : (zD × Nat × Nat) → List zV := fun (S, y, r) => [vR 20 0 y, vI (nI r)]
def cp_X11_noiseOf : (zD × Nat × Nat) → zH → Prop := fun (S, y, r) h => rmS S h y ∧ r < dN S
def cf_X11_noiseOf : (zD × Nat × Nat) → zH → Int32 := fun (S, y, r) _ => dZ S r
theorem rc_X11_noiseOf : ∀ x : (zD × Nat × Nat), ∃ (j a : Nat) (As : List zV), ca_X11_noiseOf x = vR (10 + 10) j a :: As := by
  rintro ⟨S, y, r⟩
  exact ⟨_, _, _, rfl⟩
set_option maxHeartbeats 4000000 in
set_option maxRecDepth 100000 in
theorem m_X11_noiseOf : zM yX11_noiseOf cX11_noiseOf 2 (some .int) ({ frames := 0, cells := 0, slots := 0, locals := 0 } : Room) (zcI ca_X11_noiseOf cp_X11_noiseOf cf_X11_noiseOf) := by
  refine zM_of (by decide) ?_
  rintro X Y ⟨S, y, r⟩ h ⟨hS, hr⟩ O E hR
  have B_0 := zr_aload_n (X := X) (Y := Y) (u := 0) (v := 0) O dX11_noiseOf_0 rfl (zr_gS (ci := 10) (j := 2) (off := 2) (t := 1) (n := 218) O zc_10 (by decide) rfl tw_1189 dX11_noiseOf_1 (zr_iconst (x := 5) O dX11_noiseOf_4 rfl (zr_iconst (x := 3) O dX11_noiseOf_5 rfl (zr_iload_n O dX11_noiseOf_6 rfl (zr_imul O dX11_noiseOf_7 (zr_iadd O dX11_noiseOf_8 (zr_iconst (x := 2) O dX11_noiseOf_9 rfl (zr_iadd O dX11_noiseOf_10 (zr_iald O dX11_noiseOf_11 (zr_ireturn O E (Nat.le_refl _) (Nat.le_refl _) dX11_noiseOf_12))))))))))
  refine ⟨rfl, Nat.le_of_ble_eq_true rfl, _, B_0, ?_⟩
  have hN := hS.1.2
  have hr : r < dN S := hr
  obtain ⟨h1, h2, h3⟩ := hS.2.2.1 r hr
  exact ⟨5 + 3 * r + 2, by rw [i53]; exact nI_add _ 2, by omega, zri h3, rfl⟩
def ca_X11_bitBy : (Int32 × Int32 × Nat × Nat) → List zV := fun (u, v, a, b) => [vI u, vI v, vI (nI a), vI (nI b)]
def cp_X11_bitBy : (Int32 × Int32 × Nat × Nat) → zH → Prop := fun (u, v, a, b) _ => a < 10 ∧ b < 10
def cf_X11_bitBy : (Int32 × Int32 × Nat × Nat) → zH → Int32 := fun (u, v, a, b) _ => bby u v a b
set_option maxHeartbeats 4000000 in
set_option maxRecDepth 100000 in
theorem m_X11_bitBy : zM yX11_bitBy cX11_bitBy 4 (some .int) ({ frames := 0, cells := 0, slots := 0, locals := 0 } : Room) (zcI ca_X11_bitBy cp_X11_bitBy cf_X11_bitBy) := by
  refine zM_of (by decide) ?_
  rintro X Y ⟨u, v, a, b⟩ h ⟨ha, hb⟩ O E hR
  have B_20 := zr_ireturn (X := X) (Y := Y) (u := 0) (v := 0) O E (Nat.le_refl _) (Nat.le_refl _) dX11_bitBy_20
  have B_19 := zr_iconst (X := X) (Y := Y) (u := 0) (v := 0) (x := 0) O dX11_bitBy_19 rfl (B_20)
  have B_15 := zr_iconst (X := X) (Y := Y) (u := 0) (v := 0) (x := 1) O dX11_bitBy_15 rfl (zr_goto (tgt := 20) O dX11_bitBy_16 rfl B_20)
  have B_0 := zr_iload_n (X := X) (Y := Y) (u := 0) (v := 0) O dX11_bitBy_0 rfl (zr_iload_n O dX11_bitBy_1 rfl (zr_icgt (tgt := 15) O dX11_bitBy_2 rfl B_15 (zr_iload_n O dX11_bitBy_5 rfl (zr_iload_n O dX11_bitBy_6 rfl (zr_icne (tgt := 19) O dX11_bitBy_7 rfl B_19 (zr_iload_n O dX11_bitBy_10 rfl (zr_iload_n O dX11_bitBy_11 rfl (zr_icge (tgt := 19) O dX11_bitBy_12 rfl B_19 (B_15)))))))))
  refine ⟨rfl, Nat.le_of_ble_eq_true rfl, _, B_0, ?_⟩
  have ha : a < 10 := ha
  have hb : b < 10 := hb
  refine ⟨fun c => ⟨zri ?_, rfl⟩, fun c => ⟨fun d => ⟨zri ?_, rfl⟩, fun d => ⟨fun e => ⟨zri ?_, rfl⟩, fun e => ⟨zri ?_, rfl⟩⟩⟩⟩
  · exact (if_pos (Or.inl c)).symm
  · exact (if_neg (fun z => z.elim c (fun q => d q.1))).symm
  · exact (if_neg (fun z => z.elim c (fun q => absurd ((nI_leI (by omega) (by omega)).mp e) (by omega)))).symm
  · exact (if_pos (Or.inr ⟨d, Nat.not_le.mp (fun z => e ((nI_leI (by omega) (by omega)).mpr z))⟩)).symm
def ca_X11_bitAt : (zD × Nat × Nat × Int32) → List zV := fun (S, y, p, t) => [vR 20 0 y, vI (nI p), vI t]
def cp_X11_bitAt : (zD × Nat × Nat × Int32) → zH → Prop := fun (S, y, p, t) h => rmS S h y ∧ p < dP S
def cf_X11_bitAt : (zD × Nat × Nat × Int32) → zH → Int32 := fun (S, y, p, t) _ => pba S p t
theorem rc_X11_bitAt : ∀ x : (zD × Nat × Nat × Int32), ∃ (j a : Nat) (As : List zV), ca_X11_bitAt x = vR (10 + 10) j a :: As := by
  rintro ⟨S, y, p, t⟩
  exact ⟨_, _, _, rfl⟩
set_option maxHeartbeats 4000000 in
set_option maxRecDepth 100000 in
theorem m_X11_bitAt : zM yX11_bitAt cX11_bitAt 3 (some .int) ({ frames := 1, cells := 0, slots := 0, locals := 23 } : Room) (zcI ca_X11_bitAt cp_X11_bitAt cf_X11_bitAt) := by
  refine zM_of (by decide) ?_
  rintro X Y ⟨S, y, p, t⟩ h ⟨hS, hp⟩ O E hR
  have B_0 := zr_aload_n (X := X) (Y := Y) (u := 0) (v := 0) O dX11_bitAt_0 rfl (zr_aload_n O dX11_bitAt_1 rfl (zr_gS (ci := 10) (j := 5) (off := 5) (t := 1) (n := 28) O zc_10 (by decide) rfl tw_1192 dX11_bitAt_2 (zr_iload_n O dX11_bitAt_5 rfl (zr_iald O dX11_bitAt_6 (zr_iload_n O dX11_bitAt_7 rfl (zr_cI (zr_cV (ci := 10) (n := 2) O m_X11_speedOf (bn_X11_speedOf _ ⟨rfl, rfl⟩) vw_X11_speedOf tw_1415 rc_X11_speedOf (zrm hR rfl rfl) dX11_bitAt_8 (zr_aload_n O dX11_bitAt_11 rfl (zr_aload_n O dX11_bitAt_12 rfl (zr_gS (ci := 10) (j := 6) (off := 6) (t := 1) (n := 28) O zc_10 (by decide) rfl tw_1193 dX11_bitAt_13 (zr_iload_n O dX11_bitAt_16 rfl (zr_iald O dX11_bitAt_17 (zr_iload_n O dX11_bitAt_18 rfl (zr_cI (zr_cV (ci := 10) (n := 2) O m_X11_speedOf (bn_X11_speedOf _ ⟨rfl, rfl⟩) vw_X11_speedOf tw_1415 rc_X11_speedOf (zrm hR rfl rfl) dX11_bitAt_19 (zr_aload_n O dX11_bitAt_22 rfl (zr_gS (ci := 10) (j := 5) (off := 5) (t := 1) (n := 28) O zc_10 (by decide) rfl tw_1192 dX11_bitAt_23 (zr_iload_n O dX11_bitAt_26 rfl (zr_iald O dX11_bitAt_27 (zr_aload_n O dX11_bitAt_28 rfl (zr_gS (ci := 10) (j := 6) (off := 6) (t := 1) (n := 28) O zc_10 (by decide) rfl tw_1193 dX11_bitAt_29 (zr_iload_n O dX11_bitAt_32 rfl (zr_iald O dX11_bitAt_33 (zr_cI (zr_cS (n := 4) O m_X11_bitBy (bn_X11_bitBy _ ⟨rfl, rfl⟩) tw_1428 tw_1427 (zrm hR rfl rfl) dX11_bitAt_34 (zr_ireturn O E (Nat.le_refl _) (Nat.le_refl _) dX11_bitAt_37))))))))))))))))))))))))))
  refine ⟨rfl, Nat.le_of_ble_eq_true rfl, _, B_0, ?_⟩
  obtain ⟨⟨f1, f2⟩, s1, s2⟩ := hS.2.2.2.1 p hp
  have hN := hS.1.2
  have hp28 : p < 28 := Nat.lt_of_lt_of_le hp hS.2.1.2
  refine ⟨p, rfl, hp28, (S, y, dF S p, t), by rw [f1]; rfl, ⟨hS, f2⟩, p, rfl, hp28, (S, y, dS S p, t), by rw [s1]; rfl, ⟨hS, s2⟩, p, rfl, hp28, p, rfl, hp28, (spd S (dF S p) t, spd S (dS S p) t, dF S p, dS S p), by rw [f1, s1]; rfl, ⟨by omega, by omega⟩, rfl, rfl⟩
theorem pba_20 (S : zD) (p : Nat) : pba S p 20 = pb S p := by
  unfold pba pb
  rw [spd_20, spd_20]
def ca_X11_bitOf : (zD × Nat × Nat) → List zV := fun (S, y, p) => [vR 20 0 y, vI (nI p)]
def cp_X11_bitOf : (zD × Nat × Nat) → zH → Prop := fun (S, y, p) h => rmS S h y ∧ p < dP S
def cf_X11_bitOf : (zD × Nat × Nat) → zH → Int32 := fun (S, y, p) _ => pb S p
theorem rc_X11_bitOf : ∀ x : (zD × Nat × Nat), ∃ (j a : Nat) (As : List zV), ca_X11_bitOf x = vR (10 + 10) j a :: As := by
  rintro ⟨S, y, p⟩
  exact ⟨_, _, _, rfl⟩
set_option maxHeartbeats 4000000 in
set_option maxRecDepth 100000 in
theorem m_X11_bitOf : zM yX11_bitOf cX11_bitOf 2 (some .int) ({ frames := 2, cells := 0, slots := 0, locals := 45 } : Room) (zcI ca_X11_bitOf cp_X11_bitOf cf_X11_bitOf) := by
  refine zM_of (by decide) ?_
  rintro X Y ⟨S, y, p⟩ h ⟨hS, hp⟩ O E hR
  have B_0 := zr_aload_n (X := X) (Y := Y) (u := 0) (v := 0) O dX11_bitOf_0 rfl (zr_iload_n O dX11_bitOf_1 rfl (zr_bipush (x := (20)) O dX11_bitOf_2 (by decide) (zr_cI (zr_cV (ci := 10) (n := 2) O m_X11_bitAt (bn_X11_bitAt _ ⟨rfl, rfl⟩) vw_X11_bitAt tw_1423 rc_X11_bitAt (zrm hR rfl rfl) dX11_bitOf_4 (zr_ireturn O E (Nat.le_refl _) (Nat.le_refl _) dX11_bitOf_7)))))
  refine ⟨rfl, Nat.le_of_ble_eq_true rfl, _, B_0, ?_⟩
  exact ⟨(S, y, p, 20), rfl, ⟨hS, hp⟩, zri (pba_20 S p), rfl⟩
/-- how far apart -/
def apt (S : zD) (p : Nat) (te : Int32) : Int32 := (if pb S p = 1 then spd S (dF S p) te - spd S (dS S p) te else -(spd S (dF S p) te - spd S (dS S p) te)) - dZ S (dF S p) - dZ S (dS S p)
def ca_X11_apart : (zD × Nat × Nat × Int32) → List zV := fun (S, y, p, t) => [vR 20 0 y, vI (nI p), vI t]
def cp_X11_apart : (zD × Nat × Nat × Int32) → zH → Prop := fun (S, y, p, t) h => rmS S h y ∧ p < dP S
def cf_X11_apart : (zD × Nat × Nat × Int32) → zH → Int32 := fun (S, y, p, t) _ => apt S p t
theorem rc_X11_apart : ∀ x : (zD × Nat × Nat × Int32), ∃ (j a : Nat) (As : List zV), ca_X11_apart x = vR (10 + 10) j a :: As := by
  rintro ⟨S, y, p, te⟩
  exact ⟨_, _, _, rfl⟩
set_option maxHeartbeats 4000000 in
set_option maxRecDepth 100000 in
theorem m_X11_apart : zM yX11_apart cX11_apart 4 (some .int) ({ frames := 3, cells := 0, slots := 0, locals := 66 } : Room) (zcI ca_X11_apart cp_X11_apart cf_X11_apart) := by
  refine zM_of (by decide) ?_
  rintro X Y ⟨S, y, p, te⟩ h ⟨hS, hp⟩ O E hR
  have B_39 := zr_aload_n (X := X) (Y := Y) (u := 0) (v := 0) O dX11_apart_39 rfl (zr_aload_n O dX11_apart_40 rfl (zr_gS (ci := 10) (j := 5) (off := 5) (t := 1) (n := 28) O zc_10 (by decide) rfl tw_1192 dX11_apart_41 (zr_iload_n O dX11_apart_44 rfl (zr_iald O dX11_apart_45 (zr_cI (zr_cV (ci := 10) (n := 1) O m_X11_noiseOf (bn_X11_noiseOf _ ⟨rfl, rfl⟩) vw_X11_noiseOf tw_1430 rc_X11_noiseOf (zrm hR rfl rfl) dX11_apart_46 (zr_isub O dX11_apart_49 (zr_aload_n O dX11_apart_50 rfl (zr_aload_n O dX11_apart_51 rfl (zr_gS (ci := 10) (j := 6) (off := 6) (t := 1) (n := 28) O zc_10 (by decide) rfl tw_1193 dX11_apart_52 (zr_iload_n O dX11_apart_55 rfl (zr_iald O dX11_apart_56 (zr_cI (zr_cV (ci := 10) (n := 1) O m_X11_noiseOf (bn_X11_noiseOf _ ⟨rfl, rfl⟩) vw_X11_noiseOf tw_1430 rc_X11_noiseOf (zrm hR rfl rfl) dX11_apart_57 (zr_isub O dX11_apart_60 (zr_ireturn O E (Nat.le_refl _) (Nat.le_refl _) dX11_apart_61))))))))))))))))
  have C_39 : zSd X Y 0 0 39 (fun ls st h1 => ∃ y3 : Option zV, ls = [some (vR 20 0 y), some (vI (nI p)), some (vI te), y3] ∧ st = [vI (if pb S p = 1 then spd S (dF S p) te - spd S (dS S p) te else -(spd S (dF S p) te - spd S (dS S p) te))] ∧ h = h1) := by
    refine zSd_weak B_39 (fun ls st h1 t => ?_)
    obtain ⟨y3, rfl, rfl, rfl⟩ := t
    have hp : p < dP S := hp
    obtain ⟨⟨f1, f2⟩, s1, s2⟩ := hS.2.2.2.1 p hp
    have hN := hS.1.2
    have hp28 : p < 28 := Nat.lt_of_lt_of_le hp hS.2.1.2
    refine ⟨p, rfl, hp28, (S, y, dF S p), by rw [f1]; rfl, ⟨hS, f2⟩, p, rfl, hp28, (S, y, dS S p), by rw [s1]; rfl, ⟨hS, s2⟩, rfl, rfl⟩
  have B_37 := zr_iload_n (X := X) (Y := Y) (u := 0) (v := 0) O dX11_apart_37 rfl (zr_ineg O dX11_apart_38 (C_39))
  have B_0 := zr_aload_n (X := X) (Y := Y) (u := 0) (v := 0) O dX11_apart_0 rfl (zr_aload_n O dX11_apart_1 rfl (zr_gS (ci := 10) (j := 5) (off := 5) (t := 1) (n := 28) O zc_10 (by decide) rfl tw_1192 dX11_apart_2 (zr_iload_n O dX11_apart_5 rfl (zr_iald O dX11_apart_6 (zr_iload_n O dX11_apart_7 rfl (zr_cI (zr_cV (ci := 10) (n := 2) O m_X11_speedOf (bn_X11_speedOf _ ⟨rfl, rfl⟩) vw_X11_speedOf tw_1415 rc_X11_speedOf (zrm hR rfl rfl) dX11_apart_8 (zr_aload_n O dX11_apart_11 rfl (zr_aload_n O dX11_apart_12 rfl (zr_gS (ci := 10) (j := 6) (off := 6) (t := 1) (n := 28) O zc_10 (by decide) rfl tw_1193 dX11_apart_13 (zr_iload_n O dX11_apart_16 rfl (zr_iald O dX11_apart_17 (zr_iload_n O dX11_apart_18 rfl (zr_cI (zr_cV (ci := 10) (n := 2) O m_X11_speedOf (bn_X11_speedOf _ ⟨rfl, rfl⟩) vw_X11_speedOf tw_1415 rc_X11_speedOf (zrm hR rfl rfl) dX11_apart_19 (zr_isub O dX11_apart_22 (zr_istore_n O dX11_apart_23 rfl (zr_aload_n O dX11_apart_24 rfl (zr_iload_n O dX11_apart_25 rfl (zr_cI (zr_cV (ci := 10) (n := 1) O m_X11_bitOf (bn_X11_bitOf _ ⟨rfl, rfl⟩) vw_X11_bitOf tw_1419 rc_X11_bitOf (zrm hR rfl rfl) dX11_apart_26 (zr_iconst (x := 1) O dX11_apart_29 rfl (zr_icne (tgt := 37) O dX11_apart_30 rfl B_37 (zr_iload_n O dX11_apart_33 rfl (zr_goto (tgt := 39) O dX11_apart_34 rfl C_39)))))))))))))))))))))))))
  refine ⟨rfl, Nat.le_of_ble_eq_true rfl, _, B_0, ?_⟩
  obtain ⟨⟨f1, f2⟩, s1, s2⟩ := hS.2.2.2.1 p hp
  have hN := hS.1.2
  have hp28 : p < 28 := Nat.lt_of_lt_of_le hp hS.2.1.2
  refine ⟨p, rfl, hp28, (S, y, dF S p, te), by rw [f1]; rfl, ⟨hS, f2⟩, p, rfl, hp28, (S, y, dS S p, te), by rw [s1]; rfl, ⟨hS, s2⟩, (S, y, p), rfl, ⟨hS, hp⟩, fun c => ⟨_, rfl, ?_, rfl⟩, fun c => ⟨_, rfl, ?_, rfl⟩⟩
  · rw [if_neg (show ¬ pb S p = 1 from c)]; rfl
  · rw [if_pos (show pb S p = 1 from c)]; rfl
/-- margins, step by step -/
def mmg (S : zD) (p : Nat) : Nat → Int32
  | 0 => apt S p 20
  | n + 1 => mn2 (mmg S p n) (apt S p (dT S 1 + nI n))
theorem ht_ok {S : zD} (hv : vS S) {i : Nat} (hi : i < nH S) : okH (dT S 1 + nI i) := by
  have h6 := ht_i hv (Nat.le_of_lt hi)
  obtain ⟨-, -, -, ⟨l1, l2, l3⟩, -⟩ := hv
  unfold nH at hi
  unfold okH
  omega
theorem sub2 {a c d : Int32} (h1 : -20000 ≤ a.toInt) (h2 : a.toInt ≤ 20000) (h3 : 0 ≤ c.toInt) (h4 : c.toInt ≤ 50) (h5 : 0 ≤ d.toInt) (h6 : d.toInt ≤ 50) : (a - c - d).toInt = a.toInt - c.toInt - d.toInt := by
  have e : (a - c).toInt = a.toInt - c.toInt := fb_subI (by omega) (by omega)
  rw [fb_subI (by omega) (by omega), e]
theorem sg_mul (S : zD) (p : Nat) (u : Int32) : sg S p * u = if pb S p = 1 then u else -u := by
  unfold sg
  split
  · exact Int32.one_mul u
  · rw [Int32.neg_mul, Int32.one_mul]
theorem mgl_b {S : zD} (hv : vS S) {p : Nat} (hF : dF S p < dN S) (hS : dS S p < dN S) : ∀ n, n ≤ nH S → (-20000 ≤ (mgl S p n).toInt ∧ (mgl S p n).toInt ≤ 20000) ∧ mmg S p n = mgl S p n - dZ S (dF S p) - dZ S (dS S p) := by
  obtain ⟨-, -, z1, z2⟩ := hv.1 _ hF
  obtain ⟨-, -, z3, z4⟩ := hv.1 _ hS
  have key : ∀ te : Int32, okH te → (-20000 ≤ (sg S p * (spd S (dF S p) te - spd S (dS S p) te)).toInt ∧ (sg S p * (spd S (dF S p) te - spd S (dS S p) te)).toInt ≤ 20000) ∧ apt S p te = sg S p * (spd S (dF S p) te - spd S (dS S p) te) - dZ S (dF S p) - dZ S (dS S p) := by
    intro te ht
    obtain ⟨-, a1, a2⟩ := spd_i hv hF ht
    obtain ⟨-, b1, b2⟩ := spd_i hv hS ht
    have e : (spd S (dF S p) te - spd S (dS S p) te).toInt = (spd S (dF S p) te).toInt - (spd S (dS S p) te).toInt := fb_subI (by omega) (by omega)
    refine ⟨?_, by rw [apt, sg_mul]⟩
    rw [sg_mul]
    split
    · rw [e]; omega
    · rw [fb_negI (by rw [e]; omega), e]; omega
  intro n
  induction n with
  | zero =>
    intro _
    have k := key 20 (show okH 20 from ⟨by decide, by decide⟩)
    have e0 : mgl S p 0 = sg S p * (spd S (dF S p) 20 - spd S (dS S p) 20) := by rw [spd_20, spd_20]; rfl
    rw [e0]
    exact k
  | succ n ih =>
    intro hn
    obtain ⟨⟨i1, i2⟩, i3⟩ := ih (by omega)
    obtain ⟨⟨k1, k2⟩, k3⟩ := key (dT S 1 + nI n) (ht_ok hv (by omega))
    rw [mmg, mgl, i3, k3]
    generalize sg S p * (spd S (dF S p) (dT S 1 + nI n) - spd S (dS S p) (dT S 1 + nI n)) = u at k1 k2
    generalize mgl S p n = w at i1 i2
    have e1 := sub2 i1 i2 z1 z2 z3 z4
    have e2 := sub2 k1 k2 z1 z2 z3 z4
    unfold mn2
    by_cases c : u < w
    · rw [if_pos c, if_pos (by rw [fa_lt] at c ⊢; omega)]
      exact ⟨⟨k1, k2⟩, rfl⟩
    · rw [if_neg c, if_neg (by rw [fa_lt] at c ⊢; omega)]
      exact ⟨⟨i1, i2⟩, rfl⟩
def ca_X11_marginOf : (zD × Nat × Nat) → List zV := fun (S, y, p) => [vR 20 0 y, vI (nI p)]
def cp_X11_marginOf : (zD × Nat × Nat) → zH → Prop := fun (S, y, p) h => rmS S h y ∧ p < dP S ∧ vS S
def cf_X11_marginOf : (zD × Nat × Nat) → zH → Int32 := fun (S, y, p) _ => mrg S p
theorem rc_X11_marginOf : ∀ x : (zD × Nat × Nat), ∃ (j a : Nat) (As : List zV), ca_X11_marginOf x = vR (10 + 10) j a :: As := by
  rintro ⟨S, y, p⟩
  exact ⟨_, _, _, rfl⟩
set_option maxHeartbeats 4000000 in
set_option maxRecDepth 100000 in
theorem m_X11_marginOf : zM yX11_marginOf cX11_marginOf 4 (some .int) ({ frames := 4, cells := 0, slots := 0, locals := 89 } : Room) (zcI ca_X11_marginOf cp_X11_marginOf cf_X11_marginOf) := by
  refine zM_of (by decide) ?_
  rintro X Y ⟨S, y, p⟩ h ⟨hS, hp, hv⟩ O E hR
  have hp : p < dP S := hp
  have hS : rmS S h y := hS
  have hv : vS S := hv
  obtain ⟨⟨f1, f2⟩, s1, s2⟩ := hS.2.2.2.1 p hp
  have B_42 := zr_iload_n (X := X) (Y := Y) (u := 0) (v := 0) O dX11_marginOf_42 rfl (zr_ireturn O E (Nat.le_refl _) (Nat.le_refl _) dX11_marginOf_43)
  have L_15 : ∀ nn : Nat, zSd X Y 0 0 15 ((fun k ls st h1 => ∃ (i : Nat) (u z : Int32), k = nH S - i ∧ i ≤ nH S ∧ ls = [some (vR 20 0 y), some (vI (nI p)), some (vI u), some (vI z)] ∧ u = mmg S p i ∧ z = dT S 1 + nI i ∧ st = [] ∧ h = h1 : Nat → zT) nn) := by
    refine zSd_loop (fun nn ih => ?_)
    have B_15 := zr_iload_n (X := X) (Y := Y) (u := 0) (v := 0) O dX11_marginOf_15 rfl (zr_aload_n O dX11_marginOf_16 rfl (zr_gS (ci := 10) (j := 2) (off := 2) (t := 1) (n := 218) O zc_10 (by decide) rfl tw_1189 dX11_marginOf_17 (zr_iconst (x := 2) O dX11_marginOf_20 rfl (zr_iald O dX11_marginOf_21 (zr_icgt (tgt := 42) O dX11_marginOf_22 rfl B_42 (zr_iload_n O dX11_marginOf_25 rfl (zr_aload_n O dX11_marginOf_26 rfl (zr_iload_n O dX11_marginOf_27 rfl (zr_iload_n O dX11_marginOf_28 rfl (zr_cI (zr_cV (ci := 10) (n := 2) O m_X11_apart (bn_X11_apart _ ⟨rfl, rfl⟩) vw_X11_apart tw_1411 rc_X11_apart (zrm hR rfl rfl) dX11_marginOf_29 (zr_min O zwm tw_1339 (zrm hR rfl rfl) dX11_marginOf_32 (zr_istore_n O dX11_marginOf_35 rfl (zr_iinc (c := 1) O dX11_marginOf_36 rfl (zr_goto (tgt := 15) O dX11_marginOf_39 rfl ih)))))))))))))))
    refine zSd_weak B_15 (fun ls st h1 t => ?_)
    obtain ⟨i, u, z, rfl, hi, rfl, rfl, rfl, rfl, rfl⟩ := t
    refine ⟨2, rfl, by decide, fun c => ⟨zri ?_, rfl⟩, fun c => ?_⟩
    · rw [hS.2.2.2.2 2 (by decide)] at c
      have hi2 := (ht_gt hv hi).mp c
      have hi3 : i = nH S := by omega
      subst hi3
      exact (mgl_b hv f2 s2 _ (Nat.le_refl _)).2
    · rw [hS.2.2.2.2 2 (by decide)] at c
      have hi2 : i < nH S := Nat.not_le.mp (fun z => c ((ht_gt hv hi).mpr z))
      exact ⟨(S, y, p, dT S 1 + nI i), rfl, ⟨hS, hp⟩, nH S - (i + 1), by omega, i + 1, _, _, rfl, by omega, rfl, rfl, by rw [Int32.add_assoc, nI_1], rfl, rfl⟩
  have B_15 := zSd_any L_15
  have B_0 := zr_aload_n (X := X) (Y := Y) (u := 0) (v := 0) O dX11_marginOf_0 rfl (zr_iload_n O dX11_marginOf_1 rfl (zr_bipush (x := (20)) O dX11_marginOf_2 (by decide) (zr_cI (zr_cV (ci := 10) (n := 2) O m_X11_apart (bn_X11_apart _ ⟨rfl, rfl⟩) vw_X11_apart tw_1411 rc_X11_apart (zrm hR rfl rfl) dX11_marginOf_4 (zr_istore_n O dX11_marginOf_7 rfl (zr_aload_n O dX11_marginOf_8 rfl (zr_gS (ci := 10) (j := 2) (off := 2) (t := 1) (n := 218) O zc_10 (by decide) rfl tw_1189 dX11_marginOf_9 (zr_iconst (x := 1) O dX11_marginOf_12 rfl (zr_iald O dX11_marginOf_13 (zr_istore_n O dX11_marginOf_14 rfl (B_15)))))))))))
  refine ⟨rfl, Nat.le_of_ble_eq_true rfl, _, B_0, ?_⟩
  refine ⟨(S, y, p, 20), rfl, ⟨hS, hp⟩, 1, rfl, by decide, nH S - 0, 0, _, _, rfl, Nat.zero_le _, rfl, rfl, ?_, rfl, rfl⟩
  rw [hS.2.2.2.2 1 (by decide), nI_0, Int32.add_zero]
def ca_X11_isSteady : (zD × Nat × Nat × Int32) → List zV := fun (S, y, p, g) => [vR 20 0 y, vI (nI p), vI g]
def cp_X11_isSteady : (zD × Nat × Nat × Int32) → zH → Prop := fun (S, y, p, g) h => rmS S h y ∧ p < dP S ∧ vS S
def cf_X11_isSteady : (zD × Nat × Nat × Int32) → zH → Int32 := fun (S, y, p, g) _ => bI (decide (g < mrg S p))
theorem rc_X11_isSteady : ∀ x : (zD × Nat × Nat × Int32), ∃ (j a : Nat) (As : List zV), ca_X11_isSteady x = vR (10 + 10) j a :: As := by
  rintro ⟨S, y, p, g⟩
  exact ⟨_, _, _, rfl⟩
set_option maxHeartbeats 4000000 in
set_option maxRecDepth 100000 in
theorem m_X11_isSteady : zM yX11_isSteady cX11_isSteady 3 (some .boolean) ({ frames := 5, cells := 0, slots := 0, locals := 112 } : Room) (zcI ca_X11_isSteady cp_X11_isSteady cf_X11_isSteady) := by
  refine zM_of (by decide) ?_
  rintro X Y ⟨S, y, p, g⟩ h ⟨hS, hp, hv⟩ O E hR
  have B_14 := zr_zreturn (X := X) (Y := Y) (u := 0) (v := 0) O E (Nat.le_refl _) (Nat.le_refl _) dX11_isSteady_14
  have B_13 := zr_iconst (X := X) (Y := Y) (u := 0) (v := 0) (x := 0) O dX11_isSteady_13 rfl (B_14)
  have B_0 := zr_aload_n (X := X) (Y := Y) (u := 0) (v := 0) O dX11_isSteady_0 rfl (zr_iload_n O dX11_isSteady_1 rfl (zr_cI (zr_cV (ci := 10) (n := 1) O m_X11_marginOf (bn_X11_marginOf _ ⟨rfl, rfl⟩) vw_X11_marginOf tw_1407 rc_X11_marginOf (zrm hR rfl rfl) dX11_isSteady_2 (zr_iload_n O dX11_isSteady_5 rfl (zr_icle (tgt := 13) O dX11_isSteady_6 rfl B_13 (zr_iconst (x := 1) O dX11_isSteady_9 rfl (zr_goto (tgt := 14) O dX11_isSteady_10 rfl B_14)))))))
  refine ⟨rfl, Nat.le_of_ble_eq_true rfl, _, B_0, ?_⟩
  refine ⟨(S, y, p), rfl, ⟨hS, hp, hv⟩, fun c => ⟨Or.inl rfl, zri ?_, rfl⟩, fun c => ⟨Or.inr rfl, zri ?_, rfl⟩⟩
  · replace c : mrg S p ≤ g := c
    show (0 : Int32) = bI (decide (g < mrg S p))
    rw [decide_eq_false (Int32.not_lt.mpr c)]; rfl
  · replace c : ¬ mrg S p ≤ g := c
    show (1 : Int32) = bI (decide (g < mrg S p))
    rw [decide_eq_true (Int32.not_le.mp c)]; rfl
def ca_X11_within : (Int32 × Int32 × Int32) → List zV := fun (v, lo, up) => [vI v, vI lo, vI up]
def cp_X11_within : (Int32 × Int32 × Int32) → zH → Prop := fun _ _ => True
def cf_X11_within : (Int32 × Int32 × Int32) → zH → Int32 := fun (v, lo, up) _ => bI (decide (lo ≤ v ∧ v ≤ up))
set_option maxHeartbeats 4000000 in
set_option maxRecDepth 100000 in
theorem m_X11_within : zM yX11_within cX11_within 3 (some .boolean) ({ frames := 0, cells := 0, slots := 0, locals := 0 } : Room) (zcI ca_X11_within cp_X11_within cf_X11_within) := by
  refine zM_of (by decide) ?_
  rintro X Y ⟨v, lo, up⟩ h _ O E hR
  have B_15 := zr_zreturn (X := X) (Y := Y) (u := 0) (v := 0) O E (Nat.le_refl _) (Nat.le_refl _) dX11_within_15
  have B_14 := zr_iconst (X := X) (Y := Y) (u := 0) (v := 0) (x := 0) O dX11_within_14 rfl (B_15)
  have B_0 := zr_iload_n (X := X) (Y := Y) (u := 0) (v := 0) O dX11_within_0 rfl (zr_iload_n O dX11_within_1 rfl (zr_iclt (tgt := 14) O dX11_within_2 rfl B_14 (zr_iload_n O dX11_within_5 rfl (zr_iload_n O dX11_within_6 rfl (zr_icgt (tgt := 14) O dX11_within_7 rfl B_14 (zr_iconst (x := 1) O dX11_within_10 rfl (zr_goto (tgt := 15) O dX11_within_11 rfl B_15)))))))
  refine ⟨rfl, Nat.le_of_ble_eq_true rfl, _, B_0, ?_⟩
  refine ⟨fun c => ⟨Or.inl rfl, zri ?_, rfl⟩, fun c => ⟨fun d => ⟨Or.inl rfl, zri ?_, rfl⟩, fun d => ⟨Or.inr rfl, zri ?_, rfl⟩⟩⟩
  · show (0 : Int32) = bI (decide (lo ≤ v ∧ v ≤ up))
    rw [decide_eq_false (fun z => Int32.not_le.mpr c z.1)]; rfl
  · show (0 : Int32) = bI (decide (lo ≤ v ∧ v ≤ up))
    rw [decide_eq_false (fun z => Int32.not_le.mpr d z.2)]; rfl
  · show (1 : Int32) = bI (decide (lo ≤ v ∧ v ≤ up))
    rw [decide_eq_true ⟨Int32.not_lt.mp c, Int32.not_lt.mp d⟩]; rfl
/-- a refusal of the reference: the code, the count -/
def rfz (h : zH) (y : Nat) (c : Int32) (k : Nat) : zH := zsI (zsI h y 0 c) (y + 1) k (h.1 (y + 1) k + 1)
def ca_X11_isFine : (Nat × Bool × Int32 × Nat) → List zV := fun (y, b, c, k) => [vR 20 0 y, vI (bI b), vI c, vI (nI k)]
def cp_X11_isFine : (Nat × Bool × Int32 × Nat) → zH → Prop := fun (y, b, c, k) h => k < 3 ∧ ¬ c = 0
def cf_X11_isFine : (Nat × Bool × Int32 × Nat) → zH → Int32 := fun (y, b, c, k) h => bI (decide (b = true ∧ h.1 y 0 = 0))
def cg_X11_isFine : (Nat × Bool × Int32 × Nat) → zH → zH := fun (y, b, c, k) h => if b = false ∧ h.1 y 0 = 0 then rfz h y c k else h
theorem rc_X11_isFine : ∀ x : (Nat × Bool × Int32 × Nat), ∃ (j a : Nat) (As : List zV), ca_X11_isFine x = vR (10 + 10) j a :: As := by
  rintro ⟨y, b, c, k⟩
  exact ⟨_, _, _, rfl⟩
set_option maxHeartbeats 4000000 in
set_option maxRecDepth 100000 in
theorem m_X11_isFine : zM yX11_isFine cX11_isFine 4 (some .boolean) ({ frames := 0, cells := 0, slots := 0, locals := 0 } : Room) (zcH ca_X11_isFine cp_X11_isFine cf_X11_isFine cg_X11_isFine) := by
  refine zM_of (by decide) ?_
  rintro X Y ⟨y, b, c, k⟩ h ⟨hk, hc⟩ O E hR
  have B_38 := zr_zreturn (X := X) (Y := Y) (u := 0) (v := 0) O E (Nat.le_refl _) (Nat.le_refl _) dX11_isFine_38
  have B_37 := zr_iconst (X := X) (Y := Y) (u := 0) (v := 0) (x := 0) O dX11_isFine_37 rfl (B_38)
  have B_26 := zr_aload_n (X := X) (Y := Y) (u := 0) (v := 0) O dX11_isFine_26 rfl (zr_gI (ci := 10) (j := 0) O zc_10 (by decide) rfl tw_1187 dX11_isFine_27 (zr_ifne (tgt := 37) O dX11_isFine_30 rfl B_37 (zr_iconst (x := 1) O dX11_isFine_33 rfl (zr_goto (tgt := 38) O dX11_isFine_34 rfl B_38))))
  have C_26 : zSd X Y 0 0 26 (fun ls st h1 => ls = [some (vR 20 0 y), some (vI (bI b)), some (vI c), some (vI (nI k))] ∧ st = [] ∧ h1 = (if b = false ∧ h.1 y 0 = 0 then rfz h y c k else h)) := by
    refine zSd_weak B_26 (fun ls st h1 t => ?_)
    obtain ⟨rfl, rfl, rfl⟩ := t
    have hk : k < 3 := hk
    have hc : ¬ c = 0 := hc
    by_cases hz : b = false ∧ h.1 y 0 = 0
    · rw [if_pos hz]
      have e0 : (rfz h y c k).1 y 0 = c := by
        unfold rfz
        rw [zsI_W, zsW_n _ _ (by omega : y ≠ y + 1), zsI_W, zsW_s, zup_s]
      refine ⟨fun d => ⟨Or.inl rfl, zri ?_, ?_⟩, fun d => absurd (e0 ▸ d) hc⟩
      · show (0 : Int32) = bI (decide (b = true ∧ h.1 y 0 = 0))
        rw [decide_eq_false (fun z => by rw [hz.1] at z; cases z.1)]; rfl
      · exact (if_pos hz).symm
    · rw [if_neg hz]
      refine ⟨fun d => ⟨Or.inl rfl, zri ?_, (if_neg hz).symm⟩, fun d => ⟨Or.inr rfl, zri ?_, (if_neg hz).symm⟩⟩
      · show (0 : Int32) = bI (decide (b = true ∧ h.1 y 0 = 0))
        rw [decide_eq_false (fun z => d z.2)]; rfl
      · show (1 : Int32) = bI (decide (b = true ∧ h.1 y 0 = 0))
        have hb : b = true := by
          cases b with
          | true => rfl
          | false => exact absurd ⟨rfl, d⟩ hz
        rw [decide_eq_true ⟨hb, d⟩]; rfl
  have B_0 := zr_iload_n (X := X) (Y := Y) (u := 0) (v := 0) O dX11_isFine_0 rfl (zr_ifne (tgt := 26) O dX11_isFine_1 rfl C_26 (zr_aload_n O dX11_isFine_4 rfl (zr_gI (ci := 10) (j := 0) O zc_10 (by decide) rfl tw_1187 dX11_isFine_5 (zr_ifne (tgt := 26) O dX11_isFine_8 rfl C_26 (zr_aload_n O dX11_isFine_11 rfl (zr_iload_n O dX11_isFine_12 rfl (zr_pI (ci := 10) (j := 0) O zc_10 (by decide) rfl rfl rfl tw_1187 dX11_isFine_13 (zr_aload_n O dX11_isFine_16 rfl (zr_gS (ci := 10) (j := 1) (off := 1) (t := 1) (n := 3) O zc_10 (by decide) rfl tw_1188 dX11_isFine_17 (zr_iload_n O dX11_isFine_20 rfl (zr_dup2 O dX11_isFine_21 (zr_iald O dX11_isFine_22 (zr_iconst (x := 1) O dX11_isFine_23 rfl (zr_iadd O dX11_isFine_24 (zr_iast O dX11_isFine_25 (C_26))))))))))))))))
  refine ⟨rfl, Nat.le_of_ble_eq_true rfl, _, B_0, ?_⟩
  have hk : k < 3 := hk
  refine ⟨fun d => ⟨rfl, rfl, ?_⟩, fun d => ⟨fun e => ⟨rfl, rfl, ?_⟩, fun e => ⟨k, rfl, hk, k, rfl, hk, rfl, rfl, ?_⟩⟩⟩
  · rw [if_neg (fun z => d (by rw [z.1]; rfl))]
  · rw [if_neg (fun z => e z.2)]
  · have hb := (bI_0 _).mp d
    rw [if_pos ⟨hb, e⟩, rfz]
    rw [zsI_W (zsI h y 0 c), zsI_W (zsI h y 0 c), show (zsI h y 0 c).1 (y + 1) = h.1 (y + 1) from by rw [zsI_W]; exact zsW_n _ _ (by omega)]

