theorem dX6_hasPair_58 : decode cX6_hasPair 58 = .ok (.iconst 0, 1) := by decide +kernel
theorem dX6_hasPair_59 : decode cX6_hasPair 59 = .ok (.ireturn, 1) := by decide +kernel
theorem dX6_hasPair_52 : decode cX6_hasPair 52 = .ok (.iinc 3 1, 3) := by decide +kernel
theorem dX6_hasPair_55 : decode cX6_hasPair 55 = .ok (.goto (-53), 3) := by decide +kernel
theorem dX6_hasPair_50 : decode cX6_hasPair 50 = .ok (.iconst 1, 1) := by decide +kernel
theorem dX6_hasPair_51 : decode cX6_hasPair 51 = .ok (.ireturn, 1) := by decide +kernel
theorem dX6_hasPair_30 : decode cX6_hasPair 30 = .ok (.aload_n 0, 1) := by decide +kernel
theorem dX6_hasPair_31 : decode cX6_hasPair 31 = .ok (.getfield 21, 3) := by decide +kernel
theorem dX6_hasPair_34 : decode cX6_hasPair 34 = .ok (.iload_n 3, 1) := by decide +kernel
theorem dX6_hasPair_35 : decode cX6_hasPair 35 = .ok (.iaload, 1) := by decide +kernel
theorem dX6_hasPair_36 : decode cX6_hasPair 36 = .ok (.iload_n 2, 1) := by decide +kernel
theorem dX6_hasPair_37 : decode cX6_hasPair 37 = .ok (.if_icmp .ne 15, 3) := by decide +kernel
theorem dX6_hasPair_40 : decode cX6_hasPair 40 = .ok (.aload_n 0, 1) := by decide +kernel
theorem dX6_hasPair_41 : decode cX6_hasPair 41 = .ok (.getfield 24, 3) := by decide +kernel
theorem dX6_hasPair_44 : decode cX6_hasPair 44 = .ok (.iload_n 3, 1) := by decide +kernel
theorem dX6_hasPair_45 : decode cX6_hasPair 45 = .ok (.iaload, 1) := by decide +kernel
theorem dX6_hasPair_46 : decode cX6_hasPair 46 = .ok (.iload_n 1, 1) := by decide +kernel
theorem dX6_hasPair_47 : decode cX6_hasPair 47 = .ok (.if_icmp .ne 5, 3) := by decide +kernel
theorem dX6_hasPair_2 : decode cX6_hasPair 2 = .ok (.iload_n 3, 1) := by decide +kernel
theorem dX6_hasPair_3 : decode cX6_hasPair 3 = .ok (.aload_n 0, 1) := by decide +kernel
theorem dX6_hasPair_4 : decode cX6_hasPair 4 = .ok (.getfield 34, 3) := by decide +kernel
theorem dX6_hasPair_7 : decode cX6_hasPair 7 = .ok (.if_icmp .ge 51, 3) := by decide +kernel
theorem dX6_hasPair_10 : decode cX6_hasPair 10 = .ok (.aload_n 0, 1) := by decide +kernel
theorem dX6_hasPair_11 : decode cX6_hasPair 11 = .ok (.getfield 21, 3) := by decide +kernel
theorem dX6_hasPair_14 : decode cX6_hasPair 14 = .ok (.iload_n 3, 1) := by decide +kernel
theorem dX6_hasPair_15 : decode cX6_hasPair 15 = .ok (.iaload, 1) := by decide +kernel
theorem dX6_hasPair_16 : decode cX6_hasPair 16 = .ok (.iload_n 1, 1) := by decide +kernel
theorem dX6_hasPair_17 : decode cX6_hasPair 17 = .ok (.if_icmp .ne 13, 3) := by decide +kernel
theorem dX6_hasPair_20 : decode cX6_hasPair 20 = .ok (.aload_n 0, 1) := by decide +kernel
theorem dX6_hasPair_21 : decode cX6_hasPair 21 = .ok (.getfield 24, 3) := by decide +kernel
theorem dX6_hasPair_24 : decode cX6_hasPair 24 = .ok (.iload_n 3, 1) := by decide +kernel
theorem dX6_hasPair_25 : decode cX6_hasPair 25 = .ok (.iaload, 1) := by decide +kernel
theorem dX6_hasPair_26 : decode cX6_hasPair 26 = .ok (.iload_n 2, 1) := by decide +kernel
theorem dX6_hasPair_27 : decode cX6_hasPair 27 = .ok (.if_icmp .eq 23, 3) := by decide +kernel
theorem dX6_hasPair_0 : decode cX6_hasPair 0 = .ok (.iconst 0, 1) := by decide +kernel
theorem dX6_hasPair_1 : decode cX6_hasPair 1 = .ok (.istore_n 3, 1) := by decide +kernel
theorem dX6_addRing_49 : decode cX6_addRing 49 = .ok (.return_, 1) := by decide +kernel
theorem dX6_addRing_0 : decode cX6_addRing 0 = .ok (.aload_n 0, 1) := by decide +kernel
theorem dX6_addRing_1 : decode cX6_addRing 1 = .ok (.getfield 30, 3) := by decide +kernel
theorem dX6_addRing_4 : decode cX6_addRing 4 = .ok (.bipush 10, 2) := by decide +kernel
theorem dX6_addRing_6 : decode cX6_addRing 6 = .ok (.if_icmp .ge 43, 3) := by decide +kernel
theorem dX6_addRing_9 : decode cX6_addRing 9 = .ok (.aload_n 0, 1) := by decide +kernel
theorem dX6_addRing_10 : decode cX6_addRing 10 = .ok (.getfield 9, 3) := by decide +kernel
theorem dX6_addRing_13 : decode cX6_addRing 13 = .ok (.aload_n 0, 1) := by decide +kernel
theorem dX6_addRing_14 : decode cX6_addRing 14 = .ok (.getfield 30, 3) := by decide +kernel
theorem dX6_addRing_17 : decode cX6_addRing 17 = .ok (.iload_n 1, 1) := by decide +kernel
theorem dX6_addRing_18 : decode cX6_addRing 18 = .ok (.iastore, 1) := by decide +kernel
theorem dX6_addRing_19 : decode cX6_addRing 19 = .ok (.aload_n 0, 1) := by decide +kernel
theorem dX6_addRing_20 : decode cX6_addRing 20 = .ok (.getfield 15, 3) := by decide +kernel
theorem dX6_addRing_23 : decode cX6_addRing 23 = .ok (.aload_n 0, 1) := by decide +kernel
theorem dX6_addRing_24 : decode cX6_addRing 24 = .ok (.getfield 30, 3) := by decide +kernel
theorem dX6_addRing_27 : decode cX6_addRing 27 = .ok (.iload_n 2, 1) := by decide +kernel
theorem dX6_addRing_28 : decode cX6_addRing 28 = .ok (.iastore, 1) := by decide +kernel
theorem dX6_addRing_29 : decode cX6_addRing 29 = .ok (.aload_n 0, 1) := by decide +kernel
theorem dX6_addRing_30 : decode cX6_addRing 30 = .ok (.getfield 18, 3) := by decide +kernel
theorem dX6_addRing_33 : decode cX6_addRing 33 = .ok (.aload_n 0, 1) := by decide +kernel
theorem dX6_addRing_34 : decode cX6_addRing 34 = .ok (.getfield 30, 3) := by decide +kernel
theorem dX6_addRing_37 : decode cX6_addRing 37 = .ok (.iload_n 3, 1) := by decide +kernel
theorem dX6_addRing_38 : decode cX6_addRing 38 = .ok (.iastore, 1) := by decide +kernel
theorem dX6_addRing_39 : decode cX6_addRing 39 = .ok (.aload_n 0, 1) := by decide +kernel
theorem dX6_addRing_40 : decode cX6_addRing 40 = .ok (.dup, 1) := by decide +kernel
theorem dX6_addRing_41 : decode cX6_addRing 41 = .ok (.getfield 30, 3) := by decide +kernel
theorem dX6_addRing_44 : decode cX6_addRing 44 = .ok (.iconst 1, 1) := by decide +kernel
theorem dX6_addRing_45 : decode cX6_addRing 45 = .ok (.iadd, 1) := by decide +kernel
theorem dX6_addRing_46 : decode cX6_addRing 46 = .ok (.putfield 30, 3) := by decide +kernel
theorem dX6_addPair_39 : decode cX6_addPair 39 = .ok (.return_, 1) := by decide +kernel
theorem dX6_addPair_0 : decode cX6_addPair 0 = .ok (.aload_n 0, 1) := by decide +kernel
theorem dX6_addPair_1 : decode cX6_addPair 1 = .ok (.getfield 34, 3) := by decide +kernel
theorem dX6_addPair_4 : decode cX6_addPair 4 = .ok (.bipush 28, 2) := by decide +kernel
theorem dX6_addPair_6 : decode cX6_addPair 6 = .ok (.if_icmp .ge 33, 3) := by decide +kernel
theorem dX6_addPair_9 : decode cX6_addPair 9 = .ok (.aload_n 0, 1) := by decide +kernel
theorem dX6_addPair_10 : decode cX6_addPair 10 = .ok (.getfield 21, 3) := by decide +kernel
theorem dX6_addPair_13 : decode cX6_addPair 13 = .ok (.aload_n 0, 1) := by decide +kernel
theorem dX6_addPair_14 : decode cX6_addPair 14 = .ok (.getfield 34, 3) := by decide +kernel
theorem dX6_addPair_17 : decode cX6_addPair 17 = .ok (.iload_n 1, 1) := by decide +kernel
theorem dX6_addPair_18 : decode cX6_addPair 18 = .ok (.iastore, 1) := by decide +kernel
theorem dX6_addPair_19 : decode cX6_addPair 19 = .ok (.aload_n 0, 1) := by decide +kernel
theorem dX6_addPair_20 : decode cX6_addPair 20 = .ok (.getfield 24, 3) := by decide +kernel
theorem dX6_addPair_23 : decode cX6_addPair 23 = .ok (.aload_n 0, 1) := by decide +kernel
theorem dX6_addPair_24 : decode cX6_addPair 24 = .ok (.getfield 34, 3) := by decide +kernel
theorem dX6_addPair_27 : decode cX6_addPair 27 = .ok (.iload_n 2, 1) := by decide +kernel
theorem dX6_addPair_28 : decode cX6_addPair 28 = .ok (.iastore, 1) := by decide +kernel
theorem dX6_addPair_29 : decode cX6_addPair 29 = .ok (.aload_n 0, 1) := by decide +kernel
theorem dX6_addPair_30 : decode cX6_addPair 30 = .ok (.dup, 1) := by decide +kernel
theorem dX6_addPair_31 : decode cX6_addPair 31 = .ok (.getfield 34, 3) := by decide +kernel
theorem dX6_addPair_34 : decode cX6_addPair 34 = .ok (.iconst 1, 1) := by decide +kernel
theorem dX6_addPair_35 : decode cX6_addPair 35 = .ok (.iadd, 1) := by decide +kernel
theorem dX6_addPair_36 : decode cX6_addPair 36 = .ok (.putfield 34, 3) := by decide +kernel
theorem dX6_clear_0 : decode cX6_clear 0 = .ok (.aload_n 0, 1) := by decide +kernel
theorem dX6_clear_1 : decode cX6_clear 1 = .ok (.iconst 0, 1) := by decide +kernel
theorem dX6_clear_2 : decode cX6_clear 2 = .ok (.putfield 30, 3) := by decide +kernel
theorem dX6_clear_5 : decode cX6_clear 5 = .ok (.aload_n 0, 1) := by decide +kernel
theorem dX6_clear_6 : decode cX6_clear 6 = .ok (.iconst 0, 1) := by decide +kernel
theorem dX6_clear_7 : decode cX6_clear 7 = .ok (.putfield 34, 3) := by decide +kernel
theorem dX6_clear_10 : decode cX6_clear 10 = .ok (.aload_n 0, 1) := by decide +kernel
theorem dX6_clear_11 : decode cX6_clear 11 = .ok (.getfield 27, 3) := by decide +kernel
theorem dX6_clear_14 : decode cX6_clear 14 = .ok (.iconst 0, 1) := by decide +kernel
theorem dX6_clear_15 : decode cX6_clear 15 = .ok (.iconst 0, 1) := by decide +kernel
theorem dX6_clear_16 : decode cX6_clear 16 = .ok (.iastore, 1) := by decide +kernel
theorem dX6_clear_17 : decode cX6_clear 17 = .ok (.aload_n 0, 1) := by decide +kernel
theorem dX6_clear_18 : decode cX6_clear 18 = .ok (.getfield 27, 3) := by decide +kernel
theorem dX6_clear_21 : decode cX6_clear 21 = .ok (.iconst 1, 1) := by decide +kernel
theorem dX6_clear_22 : decode cX6_clear 22 = .ok (.bipush 20, 2) := by decide +kernel
theorem dX6_clear_24 : decode cX6_clear 24 = .ok (.iastore, 1) := by decide +kernel
theorem dX6_clear_25 : decode cX6_clear 25 = .ok (.aload_n 0, 1) := by decide +kernel
theorem dX6_clear_26 : decode cX6_clear 26 = .ok (.getfield 27, 3) := by decide +kernel
theorem dX6_clear_29 : decode cX6_clear 29 = .ok (.iconst 2, 1) := by decide +kernel
theorem dX6_clear_30 : decode cX6_clear 30 = .ok (.bipush 20, 2) := by decide +kernel
theorem dX6_clear_32 : decode cX6_clear 32 = .ok (.iastore, 1) := by decide +kernel
theorem dX6_clear_33 : decode cX6_clear 33 = .ok (.aload_n 0, 1) := by decide +kernel
theorem dX6_clear_34 : decode cX6_clear 34 = .ok (.getfield 27, 3) := by decide +kernel
theorem dX6_clear_37 : decode cX6_clear 37 = .ok (.iconst 3, 1) := by decide +kernel
theorem dX6_clear_38 : decode cX6_clear 38 = .ok (.iconst 0, 1) := by decide +kernel
theorem dX6_clear_39 : decode cX6_clear 39 = .ok (.iastore, 1) := by decide +kernel
theorem dX6_clear_40 : decode cX6_clear 40 = .ok (.aload_n 0, 1) := by decide +kernel
theorem dX6_clear_41 : decode cX6_clear 41 = .ok (.getfield 27, 3) := by decide +kernel
theorem dX6_clear_44 : decode cX6_clear 44 = .ok (.iconst 4, 1) := by decide +kernel
theorem dX6_clear_45 : decode cX6_clear 45 = .ok (.iconst 3, 1) := by decide +kernel
theorem dX6_clear_46 : decode cX6_clear 46 = .ok (.iastore, 1) := by decide +kernel
theorem dX6_clear_47 : decode cX6_clear 47 = .ok (.return_, 1) := by decide +kernel
theorem dX6_copyFrom_0 : decode cX6_copyFrom 0 = .ok (.aload_n 0, 1) := by decide +kernel
theorem dX6_copyFrom_1 : decode cX6_copyFrom 1 = .ok (.aload_n 1, 1) := by decide +kernel
theorem dX6_copyFrom_2 : decode cX6_copyFrom 2 = .ok (.getfield 30, 3) := by decide +kernel
theorem dX6_copyFrom_5 : decode cX6_copyFrom 5 = .ok (.putfield 30, 3) := by decide +kernel
theorem dX6_copyFrom_8 : decode cX6_copyFrom 8 = .ok (.aload_n 1, 1) := by decide +kernel
theorem dX6_copyFrom_9 : decode cX6_copyFrom 9 = .ok (.getfield 9, 3) := by decide +kernel
theorem dX6_copyFrom_12 : decode cX6_copyFrom 12 = .ok (.iconst 0, 1) := by decide +kernel
theorem dX6_copyFrom_13 : decode cX6_copyFrom 13 = .ok (.aload_n 0, 1) := by decide +kernel
theorem dX6_copyFrom_14 : decode cX6_copyFrom 14 = .ok (.getfield 9, 3) := by decide +kernel
theorem dX6_copyFrom_17 : decode cX6_copyFrom 17 = .ok (.iconst 0, 1) := by decide +kernel
theorem dX6_copyFrom_18 : decode cX6_copyFrom 18 = .ok (.bipush 10, 2) := by decide +kernel
theorem dX6_copyFrom_20 : decode cX6_copyFrom 20 = .ok (.invokestatic 37, 3) := by decide +kernel
theorem dX6_copyFrom_23 : decode cX6_copyFrom 23 = .ok (.aload_n 1, 1) := by decide +kernel
theorem dX6_copyFrom_24 : decode cX6_copyFrom 24 = .ok (.getfield 15, 3) := by decide +kernel
theorem dX6_copyFrom_27 : decode cX6_copyFrom 27 = .ok (.iconst 0, 1) := by decide +kernel
theorem dX6_copyFrom_28 : decode cX6_copyFrom 28 = .ok (.aload_n 0, 1) := by decide +kernel
theorem dX6_copyFrom_29 : decode cX6_copyFrom 29 = .ok (.getfield 15, 3) := by decide +kernel
theorem dX6_copyFrom_32 : decode cX6_copyFrom 32 = .ok (.iconst 0, 1) := by decide +kernel
theorem dX6_copyFrom_33 : decode cX6_copyFrom 33 = .ok (.bipush 10, 2) := by decide +kernel
theorem dX6_copyFrom_35 : decode cX6_copyFrom 35 = .ok (.invokestatic 37, 3) := by decide +kernel
theorem dX6_copyFrom_38 : decode cX6_copyFrom 38 = .ok (.aload_n 1, 1) := by decide +kernel
theorem dX6_copyFrom_39 : decode cX6_copyFrom 39 = .ok (.getfield 18, 3) := by decide +kernel
theorem dX6_copyFrom_42 : decode cX6_copyFrom 42 = .ok (.iconst 0, 1) := by decide +kernel
theorem dX6_copyFrom_43 : decode cX6_copyFrom 43 = .ok (.aload_n 0, 1) := by decide +kernel
theorem dX6_copyFrom_44 : decode cX6_copyFrom 44 = .ok (.getfield 18, 3) := by decide +kernel
theorem dX6_copyFrom_47 : decode cX6_copyFrom 47 = .ok (.iconst 0, 1) := by decide +kernel
theorem dX6_copyFrom_48 : decode cX6_copyFrom 48 = .ok (.bipush 10, 2) := by decide +kernel
theorem dX6_copyFrom_50 : decode cX6_copyFrom 50 = .ok (.invokestatic 37, 3) := by decide +kernel
theorem dX6_copyFrom_53 : decode cX6_copyFrom 53 = .ok (.aload_n 0, 1) := by decide +kernel
theorem dX6_copyFrom_54 : decode cX6_copyFrom 54 = .ok (.aload_n 1, 1) := by decide +kernel
theorem dX6_copyFrom_55 : decode cX6_copyFrom 55 = .ok (.getfield 34, 3) := by decide +kernel
theorem dX6_copyFrom_58 : decode cX6_copyFrom 58 = .ok (.putfield 34, 3) := by decide +kernel
theorem dX6_copyFrom_61 : decode cX6_copyFrom 61 = .ok (.aload_n 1, 1) := by decide +kernel
theorem dX6_copyFrom_62 : decode cX6_copyFrom 62 = .ok (.getfield 21, 3) := by decide +kernel
theorem dX6_copyFrom_65 : decode cX6_copyFrom 65 = .ok (.iconst 0, 1) := by decide +kernel
theorem dX6_copyFrom_66 : decode cX6_copyFrom 66 = .ok (.aload_n 0, 1) := by decide +kernel
theorem dX6_copyFrom_67 : decode cX6_copyFrom 67 = .ok (.getfield 21, 3) := by decide +kernel
theorem dX6_copyFrom_70 : decode cX6_copyFrom 70 = .ok (.iconst 0, 1) := by decide +kernel
theorem dX6_copyFrom_71 : decode cX6_copyFrom 71 = .ok (.bipush 28, 2) := by decide +kernel
theorem dX6_copyFrom_73 : decode cX6_copyFrom 73 = .ok (.invokestatic 37, 3) := by decide +kernel
theorem dX6_copyFrom_76 : decode cX6_copyFrom 76 = .ok (.aload_n 1, 1) := by decide +kernel
theorem dX6_copyFrom_77 : decode cX6_copyFrom 77 = .ok (.getfield 24, 3) := by decide +kernel
theorem dX6_copyFrom_80 : decode cX6_copyFrom 80 = .ok (.iconst 0, 1) := by decide +kernel
theorem dX6_copyFrom_81 : decode cX6_copyFrom 81 = .ok (.aload_n 0, 1) := by decide +kernel
theorem dX6_copyFrom_82 : decode cX6_copyFrom 82 = .ok (.getfield 24, 3) := by decide +kernel
theorem dX6_copyFrom_85 : decode cX6_copyFrom 85 = .ok (.iconst 0, 1) := by decide +kernel
theorem dX6_copyFrom_86 : decode cX6_copyFrom 86 = .ok (.bipush 28, 2) := by decide +kernel
theorem dX6_copyFrom_88 : decode cX6_copyFrom 88 = .ok (.invokestatic 37, 3) := by decide +kernel
theorem dX6_copyFrom_91 : decode cX6_copyFrom 91 = .ok (.aload_n 1, 1) := by decide +kernel
theorem dX6_copyFrom_92 : decode cX6_copyFrom 92 = .ok (.getfield 27, 3) := by decide +kernel
theorem dX6_copyFrom_95 : decode cX6_copyFrom 95 = .ok (.iconst 0, 1) := by decide +kernel
theorem dX6_copyFrom_96 : decode cX6_copyFrom 96 = .ok (.aload_n 0, 1) := by decide +kernel
theorem dX6_copyFrom_97 : decode cX6_copyFrom 97 = .ok (.getfield 27, 3) := by decide +kernel
theorem dX6_copyFrom_100 : decode cX6_copyFrom 100 = .ok (.iconst 0, 1) := by decide +kernel
theorem dX6_copyFrom_101 : decode cX6_copyFrom 101 = .ok (.iconst 5, 1) := by decide +kernel
theorem dX6_copyFrom_102 : decode cX6_copyFrom 102 = .ok (.invokestatic 37, 3) := by decide +kernel
theorem dX6_copyFrom_105 : decode cX6_copyFrom 105 = .ok (.return_, 1) := by decide +kernel
theorem dX6_traitRow_27 : decode cX6_traitRow 27 = .ok (.areturn, 1) := by decide +kernel
theorem dX6_traitRow_23 : decode cX6_traitRow 23 = .ok (.aload_n 0, 1) := by decide +kernel
theorem dX6_traitRow_24 : decode cX6_traitRow 24 = .ok (.getfield 18, 3) := by decide +kernel
theorem dX6_traitRow_11 : decode cX6_traitRow 11 = .ok (.iload_n 1, 1) := by decide +kernel
theorem dX6_traitRow_12 : decode cX6_traitRow 12 = .ok (.iconst 1, 1) := by decide +kernel
theorem dX6_traitRow_13 : decode cX6_traitRow 13 = .ok (.if_icmp .ne 10, 3) := by decide +kernel
theorem dX6_traitRow_16 : decode cX6_traitRow 16 = .ok (.aload_n 0, 1) := by decide +kernel
theorem dX6_traitRow_17 : decode cX6_traitRow 17 = .ok (.getfield 15, 3) := by decide +kernel
theorem dX6_traitRow_20 : decode cX6_traitRow 20 = .ok (.goto 7, 3) := by decide +kernel
theorem dX6_traitRow_0 : decode cX6_traitRow 0 = .ok (.iload_n 1, 1) := by decide +kernel
theorem dX6_traitRow_1 : decode cX6_traitRow 1 = .ok (.ifCond .ne 10, 3) := by decide +kernel
theorem dX6_traitRow_4 : decode cX6_traitRow 4 = .ok (.aload_n 0, 1) := by decide +kernel
theorem dX6_traitRow_5 : decode cX6_traitRow 5 = .ok (.getfield 9, 3) := by decide +kernel
theorem dX6_traitRow_8 : decode cX6_traitRow 8 = .ok (.goto 19, 3) := by decide +kernel
/-! the rest of Slip -/
def hpq (F G : Nat → Int32) (x y : Int32) (i : Nat) : Bool := decide (F i = x ∧ G i = y ∨ F i = y ∧ G i = x)
def hpr (F G : Nat → Int32) (x y : Int32) (n : Nat) : Bool := decide (0 < fb_ct (hpq F G x y) n)
def ca_X6_hasPair : (Nat × Nat × Int32 × Int32) → List zV := fun (a, n, x, y) => [vR 15 0 a, vI x, vI y]
def cp_X6_hasPair : (Nat × Nat × Int32 × Int32) → zH → Prop := fun (a, n, x, y) h => h.1 a 4 = nI n ∧ n ≤ 28
def cf_X6_hasPair : (Nat × Nat × Int32 × Int32) → zH → Int32 := fun (a, n, x, y) h => bI (hpr (h.1 (a + 4)) (h.1 (a + 5)) x y n)
theorem rc_X6_hasPair : ∀ x : (Nat × Nat × Int32 × Int32), ∃ (j a : Nat) (As : List zV), ca_X6_hasPair x = vR (10 + 5) j a :: As := by
  rintro ⟨a, n, x, y⟩
  exact ⟨_, _, _, rfl⟩
set_option maxHeartbeats 4000000 in
set_option maxRecDepth 100000 in
theorem m_X6_hasPair : zM yX6_hasPair cX6_hasPair 4 (some .boolean) ({ frames := 0, cells := 0, slots := 0, locals := 0 } : Room) (zcI ca_X6_hasPair cp_X6_hasPair cf_X6_hasPair) := by
  refine zM_of (by decide) ?_
  rintro X Y ⟨a, n, x, y⟩ h ⟨hn, hn2⟩ O E hR
  have B_58 := zr_iconst (X := X) (Y := Y) (u := 0) (v := 0) (x := 0) O dX6_hasPair_58 rfl (zr_zreturn O E (Nat.le_refl _) (Nat.le_refl _) dX6_hasPair_59)
  have L_2 : ∀ nn : Nat, zSd X Y 0 0 2 ((fun k ls st h1 => ∃ (i : Nat) (z : Int32), k = n - i ∧ i ≤ n ∧ ls = [some (vR 15 0 a), some (vI x), some (vI y), some (vI z)] ∧ z = nI i ∧ st = [] ∧ h = h1 ∧ fb_ct (hpq (h.1 (a + 4)) (h.1 (a + 5)) x y) i = 0 : Nat → zT) nn) := by
    refine zSd_loop (fun nn ih => ?_)
    have B_52 := zr_iinc (X := X) (Y := Y) (u := 0) (v := 0) (c := 1) O dX6_hasPair_52 rfl (zr_goto (tgt := 2) O dX6_hasPair_55 rfl ih)
    have B_50 := zr_iconst (X := X) (Y := Y) (u := 0) (v := 0) (x := 1) O dX6_hasPair_50 rfl (zr_zreturn O E (Nat.le_refl _) (Nat.le_refl _) dX6_hasPair_51)
    have B_30 := zr_aload_n (X := X) (Y := Y) (u := 0) (v := 0) O dX6_hasPair_30 rfl (zr_gS (ci := 5) (j := 5) (off := 4) (t := 1) (n := 28) O zc_5 (by decide) rfl tw_59 dX6_hasPair_31 (zr_iload_n O dX6_hasPair_34 rfl (zr_iald O dX6_hasPair_35 (zr_iload_n O dX6_hasPair_36 rfl (zr_icne (tgt := 52) O dX6_hasPair_37 rfl B_52 (zr_aload_n O dX6_hasPair_40 rfl (zr_gS (ci := 5) (j := 6) (off := 5) (t := 1) (n := 28) O zc_5 (by decide) rfl tw_66 dX6_hasPair_41 (zr_iload_n O dX6_hasPair_44 rfl (zr_iald O dX6_hasPair_45 (zr_iload_n O dX6_hasPair_46 rfl (zr_icne (tgt := 52) O dX6_hasPair_47 rfl B_52 (B_50))))))))))))
    have B_2 := zr_iload_n (X := X) (Y := Y) (u := 0) (v := 0) O dX6_hasPair_2 rfl (zr_aload_n O dX6_hasPair_3 rfl (zr_gI (ci := 5) (j := 4) O zc_5 (by decide) rfl tw_54 dX6_hasPair_4 (zr_icge (tgt := 58) O dX6_hasPair_7 rfl B_58 (zr_aload_n O dX6_hasPair_10 rfl (zr_gS (ci := 5) (j := 5) (off := 4) (t := 1) (n := 28) O zc_5 (by decide) rfl tw_59 dX6_hasPair_11 (zr_iload_n O dX6_hasPair_14 rfl (zr_iald O dX6_hasPair_15 (zr_iload_n O dX6_hasPair_16 rfl (zr_icne (tgt := 30) O dX6_hasPair_17 rfl B_30 (zr_aload_n O dX6_hasPair_20 rfl (zr_gS (ci := 5) (j := 6) (off := 5) (t := 1) (n := 28) O zc_5 (by decide) rfl tw_66 dX6_hasPair_21 (zr_iload_n O dX6_hasPair_24 rfl (zr_iald O dX6_hasPair_25 (zr_iload_n O dX6_hasPair_26 rfl (zr_iceq (tgt := 50) O dX6_hasPair_27 rfl B_50 (B_30))))))))))))))))
    refine zSd_weak B_2 (fun ls st h1 t => ?_)
    have hn : h.1 a 4 = nI n := hn
    have hn2 : n ≤ 28 := hn2
    obtain ⟨i, z, rfl, hi, rfl, rfl, rfl, rfl, hc⟩ := t
    refine ⟨fun cq => ⟨Or.inl rfl, zri ?_, rfl⟩, fun cq => ?_⟩
    · have cq : nI n ≤ nI i := by rw [← hn]; exact cq
      have := (nI_leI (by omega) (by omega)).mp cq
      rw [show i = n by omega] at hc
      show (0 : Int32) = bI (hpr _ _ x y n)
      rw [hpr, hc]
      rfl
    · have hi2 : i < n := Nat.not_le.mp (fun z => cq (by rw [hn]; exact (nI_leI (by omega) (by omega)).mpr z))
      have hi28 : i < 28 := by omega
      have yes : (h.1 (a + 4) i = x ∧ h.1 (a + 5) i = y ∨ h.1 (a + 4) i = y ∧ h.1 (a + 5) i = x) → (1 : Int32) = bI (hpr (h.1 (a + 4)) (h.1 (a + 5)) x y n) := by
        intro hy
        have h1 : 0 < fb_ct (hpq (h.1 (a + 4)) (h.1 (a + 5)) x y) n := fb_ct_pos.mpr ⟨i, hi2, decide_eq_true hy⟩
        rw [hpr, decide_eq_true h1]
        rfl
      have no : ¬ (h.1 (a + 4) i = x ∧ h.1 (a + 5) i = y ∨ h.1 (a + 4) i = y ∧ h.1 (a + 5) i = x) → fb_ct (hpq (h.1 (a + 4)) (h.1 (a + 5)) x y) (i + 1) = 0 := by
        intro hy
        rw [fb_ct_succ, hc, hpq, decide_eq_false hy]
        rfl
      refine ⟨i, rfl, hi28, fun dq => ⟨i, rfl, hi28, fun eq => ⟨n - (i + 1), by omega, i + 1, _, rfl, by omega, rfl, nI_1 i, rfl, rfl, no ?_⟩, fun eq => ⟨i, rfl, hi28, fun fq => ⟨n - (i + 1), by omega, i + 1, _, rfl, by omega, rfl, nI_1 i, rfl, rfl, no ?_⟩, fun fq => ⟨Or.inr rfl, zri (yes ?_), rfl⟩⟩⟩, fun dq => ⟨i, rfl, hi28, fun eq => ⟨Or.inr rfl, zri (yes ?_), rfl⟩, fun eq => ⟨i, rfl, hi28, fun fq => ⟨n - (i + 1), by omega, i + 1, _, rfl, by omega, rfl, nI_1 i, rfl, rfl, no ?_⟩, fun fq => ⟨i, rfl, hi28, fun gq => ⟨n - (i + 1), by omega, i + 1, _, rfl, by omega, rfl, nI_1 i, rfl, rfl, no ?_⟩, fun gq => ⟨Or.inr rfl, zri (yes ?_), rfl⟩⟩⟩⟩⟩
      · exact fun z => z.elim (fun z => dq z.1) (fun z => eq z.1)
      · exact fun z => z.elim (fun z => dq z.1) (fun z => fq z.2)
      · exact Or.inr ⟨eq, fq⟩
      · exact Or.inl ⟨dq, eq⟩
      · exact fun z => z.elim (fun z => eq z.2) (fun z => fq z.1)
      · exact fun z => z.elim (fun z => eq z.2) (fun z => gq z.2)
      · exact Or.inr ⟨fq, gq⟩
  have B_2 := zSd_any L_2
  have B_0 := zr_iconst (X := X) (Y := Y) (u := 0) (v := 0) (x := 0) O dX6_hasPair_0 rfl (zr_istore_n O dX6_hasPair_1 rfl (B_2))
  refine ⟨rfl, Nat.le_of_ble_eq_true rfl, _, B_0, ?_⟩
  exact ⟨n - 0, 0, _, rfl, Nat.zero_le _, rfl, rfl, rfl, rfl, rfl⟩
def ca_X6_addRing : (Nat × Nat × Int32 × Int32 × Int32) → List zV := fun (a, n, x, y, z) => [vR 15 0 a, vI x, vI y, vI z]
def cp_X6_addRing : (Nat × Nat × Int32 × Int32 × Int32) → zH → Prop := fun (a, n, x, y, z) h => h.1 a 0 = nI n ∧ n ≤ 10
def cg_X6_addRing : (Nat × Nat × Int32 × Int32 × Int32) → zH → zH := fun (a, n, x, y, z) h => if n < 10 then zsI (zsI (zsI (zsI h (a + 1) n x) (a + 2) n y) (a + 3) n z) a 0 (nI (n + 1)) else h
theorem rc_X6_addRing : ∀ x : (Nat × Nat × Int32 × Int32 × Int32), ∃ (j a : Nat) (As : List zV), ca_X6_addRing x = vR (10 + 5) j a :: As := by
  rintro ⟨a, n, x, y, z⟩
  exact ⟨_, _, _, rfl⟩
set_option maxHeartbeats 4000000 in
set_option maxRecDepth 100000 in
theorem m_X6_addRing : zM yX6_addRing cX6_addRing 4 none ({ frames := 0, cells := 0, slots := 0, locals := 0 } : Room) (zcV ca_X6_addRing cp_X6_addRing cg_X6_addRing) := by
  refine zM_of (by decide) ?_
  rintro X Y ⟨a, n, x, y, z⟩ h ⟨hn, hn2⟩ O E hR
  have B_49 := zr_return (X := X) (Y := Y) (u := 0) (v := 0) O E (Nat.le_refl _) (Nat.le_refl _) dX6_addRing_49
  have B_0 := zr_aload_n (X := X) (Y := Y) (u := 0) (v := 0) O dX6_addRing_0 rfl (zr_gI (ci := 5) (j := 0) O zc_5 (by decide) rfl tw_46 dX6_addRing_1 (zr_bipush (x := (10)) O dX6_addRing_4 (by decide) (zr_icge (tgt := 49) O dX6_addRing_6 rfl B_49 (zr_aload_n O dX6_addRing_9 rfl (zr_gS (ci := 5) (j := 1) (off := 1) (t := 1) (n := 10) O zc_5 (by decide) rfl tw_50 dX6_addRing_10 (zr_aload_n O dX6_addRing_13 rfl (zr_gI (ci := 5) (j := 0) O zc_5 (by decide) rfl tw_46 dX6_addRing_14 (zr_iload_n O dX6_addRing_17 rfl (zr_iast O dX6_addRing_18 (zr_aload_n O dX6_addRing_19 rfl (zr_gS (ci := 5) (j := 2) (off := 2) (t := 1) (n := 10) O zc_5 (by decide) rfl tw_51 dX6_addRing_20 (zr_aload_n O dX6_addRing_23 rfl (zr_gI (ci := 5) (j := 0) O zc_5 (by decide) rfl tw_46 dX6_addRing_24 (zr_iload_n O dX6_addRing_27 rfl (zr_iast O dX6_addRing_28 (zr_aload_n O dX6_addRing_29 rfl (zr_gS (ci := 5) (j := 3) (off := 3) (t := 1) (n := 10) O zc_5 (by decide) rfl tw_52 dX6_addRing_30 (zr_aload_n O dX6_addRing_33 rfl (zr_gI (ci := 5) (j := 0) O zc_5 (by decide) rfl tw_46 dX6_addRing_34 (zr_iload_n O dX6_addRing_37 rfl (zr_iast O dX6_addRing_38 (zr_aload_n O dX6_addRing_39 rfl (zr_dup O dX6_addRing_40 (zr_gI (ci := 5) (j := 0) O zc_5 (by decide) rfl tw_46 dX6_addRing_41 (zr_iconst (x := 1) O dX6_addRing_44 rfl (zr_iadd O dX6_addRing_45 (zr_pI (ci := 5) (j := 0) O zc_5 (by decide) rfl rfl rfl tw_46 dX6_addRing_46 (B_49))))))))))))))))))))))))))))
  refine ⟨rfl, Nat.le_of_ble_eq_true rfl, _, B_0, ?_⟩
  have hn : h.1 a 0 = nI n := hn
  have hn2 : n ≤ 10 := hn2
  refine ⟨fun cq => ?_, fun cq => ?_⟩
  · rw [hn] at cq
    have := (nI_leI (a := 10) (by omega) (by omega)).mp cq
    exact ⟨rfl, (if_neg (by omega)).symm⟩
  · rw [hn] at cq
    have hlt : n < 10 := Nat.not_le.mp (fun z => cq ((nI_leI (a := 10) (by omega) (by omega)).mpr z))
    refine ⟨n, hn, hlt, n, ?_, hlt, n, ?_, hlt, rfl, ?_⟩
    · rw [zsI_W, zsW_n _ _ (by omega)]; exact hn
    · rw [zsI_W, zsI_W, zsW_n _ _ (by omega), zsW_n _ _ (by omega)]; exact hn
    · show _ = if n < 10 then _ else _
      rw [if_pos hlt, ← nI_1]
      have e : (zsI (zsI (zsI h (a + 1) n x) (a + 2) n y) (a + 3) n z).1 a 0 = nI n := by rw [zsI_W, zsI_W, zsI_W, zsW_n _ _ (by omega), zsW_n _ _ (by omega), zsW_n _ _ (by omega)]; exact hn
      rw [e]
def ca_X6_addPair : (Nat × Nat × Int32 × Int32) → List zV := fun (a, n, x, y) => [vR 15 0 a, vI x, vI y]
def cp_X6_addPair : (Nat × Nat × Int32 × Int32) → zH → Prop := fun (a, n, x, y) h => h.1 a 4 = nI n ∧ n ≤ 28
def cg_X6_addPair : (Nat × Nat × Int32 × Int32) → zH → zH := fun (a, n, x, y) h => if n < 28 then zsI (zsI (zsI h (a + 4) n x) (a + 5) n y) a 4 (nI (n + 1)) else h
theorem rc_X6_addPair : ∀ x : (Nat × Nat × Int32 × Int32), ∃ (j a : Nat) (As : List zV), ca_X6_addPair x = vR (10 + 5) j a :: As := by
  rintro ⟨a, n, x, y⟩
  exact ⟨_, _, _, rfl⟩
set_option maxHeartbeats 4000000 in
set_option maxRecDepth 100000 in
theorem m_X6_addPair : zM yX6_addPair cX6_addPair 3 none ({ frames := 0, cells := 0, slots := 0, locals := 0 } : Room) (zcV ca_X6_addPair cp_X6_addPair cg_X6_addPair) := by
  refine zM_of (by decide) ?_
  rintro X Y ⟨a, n, x, y⟩ h ⟨hn, hn2⟩ O E hR
  have B_39 := zr_return (X := X) (Y := Y) (u := 0) (v := 0) O E (Nat.le_refl _) (Nat.le_refl _) dX6_addPair_39
  have B_0 := zr_aload_n (X := X) (Y := Y) (u := 0) (v := 0) O dX6_addPair_0 rfl (zr_gI (ci := 5) (j := 4) O zc_5 (by decide) rfl tw_54 dX6_addPair_1 (zr_bipush (x := (28)) O dX6_addPair_4 (by decide) (zr_icge (tgt := 39) O dX6_addPair_6 rfl B_39 (zr_aload_n O dX6_addPair_9 rfl (zr_gS (ci := 5) (j := 5) (off := 4) (t := 1) (n := 28) O zc_5 (by decide) rfl tw_59 dX6_addPair_10 (zr_aload_n O dX6_addPair_13 rfl (zr_gI (ci := 5) (j := 4) O zc_5 (by decide) rfl tw_54 dX6_addPair_14 (zr_iload_n O dX6_addPair_17 rfl (zr_iast O dX6_addPair_18 (zr_aload_n O dX6_addPair_19 rfl (zr_gS (ci := 5) (j := 6) (off := 5) (t := 1) (n := 28) O zc_5 (by decide) rfl tw_66 dX6_addPair_20 (zr_aload_n O dX6_addPair_23 rfl (zr_gI (ci := 5) (j := 4) O zc_5 (by decide) rfl tw_54 dX6_addPair_24 (zr_iload_n O dX6_addPair_27 rfl (zr_iast O dX6_addPair_28 (zr_aload_n O dX6_addPair_29 rfl (zr_dup O dX6_addPair_30 (zr_gI (ci := 5) (j := 4) O zc_5 (by decide) rfl tw_54 dX6_addPair_31 (zr_iconst (x := 1) O dX6_addPair_34 rfl (zr_iadd O dX6_addPair_35 (zr_pI (ci := 5) (j := 4) O zc_5 (by decide) rfl rfl rfl tw_54 dX6_addPair_36 (B_39))))))))))))))))))))))
  refine ⟨rfl, Nat.le_of_ble_eq_true rfl, _, B_0, ?_⟩
  have hn : h.1 a 4 = nI n := hn
  have hn2 : n ≤ 28 := hn2
  refine ⟨fun cq => ?_, fun cq => ?_⟩
  · rw [hn] at cq
    have := (nI_leI (a := 28) (by omega) (by omega)).mp cq
    exact ⟨rfl, (if_neg (by omega)).symm⟩
  · rw [hn] at cq
    have hlt : n < 28 := Nat.not_le.mp (fun z => cq ((nI_leI (a := 28) (by omega) (by omega)).mpr z))
    refine ⟨n, hn, hlt, n, ?_, hlt, rfl, ?_⟩
    · rw [zsI_W, zsW_n _ _ (by omega)]; exact hn
    · show _ = if n < 28 then _ else _
      rw [if_pos hlt, ← nI_1]
      have e : (zsI (zsI h (a + 4) n x) (a + 5) n y).1 a 4 = nI n := by rw [zsI_W, zsI_W, zsW_n _ _ (by omega), zsW_n _ _ (by omega)]; exact hn
      rw [e]
/-- a slip of nothing -/
def dE : zD := (0, 0, fun _ => 0, fun _ => 0, fun _ => 0, fun _ => 0, fun _ => 0, fun k => if k = 1 ∨ k = 2 then 20 else if k = 4 then 3 else 0)
theorem vS_dE : vS dE := ⟨fun r hr => absurd hr (Nat.not_lt_zero _), fun r hr => absurd hr (Nat.not_lt_zero _), by decide, by decide, Or.inl rfl, by decide, Or.inr (Or.inr (Or.inl (by decide)))⟩
def ca_X6_clear : (Nat) → List zV := fun a => [vR 15 0 a]
def cp_X6_clear : (Nat) → zH → Prop := fun _ _ => True
def cq_X6_clear : (Nat) → zH → Option zV → zH → Prop := fun a h r h' => r = none ∧ sm a 7 h h' ∧ rpS dE h' a
theorem rc_X6_clear : ∀ x : (Nat), ∃ (j a : Nat) (As : List zV), ca_X6_clear x = vR (10 + 5) j a :: As := by
  rintro a
  exact ⟨_, _, _, rfl⟩
set_option maxHeartbeats 4000000 in
set_option maxRecDepth 100000 in
theorem m_X6_clear : zM yX6_clear cX6_clear 1 none ({ frames := 0, cells := 0, slots := 0, locals := 0 } : Room) ((ca_X6_clear, cp_X6_clear, cq_X6_clear) : zC (Nat)) := by
  refine zM_of (by decide) ?_
  rintro X Y a h _ O E hR
  have B_0 := zr_aload_n (X := X) (Y := Y) (u := 0) (v := 0) O dX6_clear_0 rfl (zr_iconst (x := 0) O dX6_clear_1 rfl (zr_pI (ci := 5) (j := 0) O zc_5 (by decide) rfl rfl rfl tw_46 dX6_clear_2 (zr_aload_n O dX6_clear_5 rfl (zr_iconst (x := 0) O dX6_clear_6 rfl (zr_pI (ci := 5) (j := 4) O zc_5 (by decide) rfl rfl rfl tw_54 dX6_clear_7 (zr_aload_n O dX6_clear_10 rfl (zr_gS (ci := 5) (j := 7) (off := 6) (t := 1) (n := 5) O zc_5 (by decide) rfl tw_73 dX6_clear_11 (zr_iconst (x := 0) O dX6_clear_14 rfl (zr_iconst (x := 0) O dX6_clear_15 rfl (zr_iast O dX6_clear_16 (zr_aload_n O dX6_clear_17 rfl (zr_gS (ci := 5) (j := 7) (off := 6) (t := 1) (n := 5) O zc_5 (by decide) rfl tw_73 dX6_clear_18 (zr_iconst (x := 1) O dX6_clear_21 rfl (zr_bipush (x := (20)) O dX6_clear_22 (by decide) (zr_iast O dX6_clear_24 (zr_aload_n O dX6_clear_25 rfl (zr_gS (ci := 5) (j := 7) (off := 6) (t := 1) (n := 5) O zc_5 (by decide) rfl tw_73 dX6_clear_26 (zr_iconst (x := 2) O dX6_clear_29 rfl (zr_bipush (x := (20)) O dX6_clear_30 (by decide) (zr_iast O dX6_clear_32 (zr_aload_n O dX6_clear_33 rfl (zr_gS (ci := 5) (j := 7) (off := 6) (t := 1) (n := 5) O zc_5 (by decide) rfl tw_73 dX6_clear_34 (zr_iconst (x := 3) O dX6_clear_37 rfl (zr_iconst (x := 0) O dX6_clear_38 rfl (zr_iast O dX6_clear_39 (zr_aload_n O dX6_clear_40 rfl (zr_gS (ci := 5) (j := 7) (off := 6) (t := 1) (n := 5) O zc_5 (by decide) rfl tw_73 dX6_clear_41 (zr_iconst (x := 4) O dX6_clear_44 rfl (zr_iconst (x := 3) O dX6_clear_45 rfl (zr_iast O dX6_clear_46 (zr_return O E (Nat.le_refl _) (Nat.le_refl _) dX6_clear_47)))))))))))))))))))))))))))))))
  refine ⟨rfl, Nat.le_of_ble_eq_true rfl, _, B_0, ?_⟩
  refine ⟨0, rfl, by decide, 1, rfl, by decide, 2, rfl, by decide, 3, rfl, by decide, 4, rfl, by decide, rfl, ?_, ?_⟩
  · simp only [zsI_W]
    exact sm_tr (sm_tr (sm_tr (sm_tr (sm_tr (sm_tr (sm_W _ _ (by omega) (by omega)) (sm_W _ _ (by omega) (by omega))) (sm_W _ _ (by omega) (by omega))) (sm_W _ _ (by omega) (by omega))) (sm_W _ _ (by omega) (by omega))) (sm_W _ _ (by omega) (by omega))) (sm_W _ _ (by omega) (by omega))
  · simp only [zsI_W, zsW_W, zsW_s]
    refine ⟨⟨?_, by decide⟩, ⟨?_, by decide⟩, fun r hr => absurd hr (Nat.not_lt_zero _), fun r hr => absurd hr (Nat.not_lt_zero _), fun k hk => ?_⟩
    · rw [zsW_n _ _ (by omega), zsW_s]; rfl
    · rw [zsW_n _ _ (by omega), zsW_s]; rfl
    · rw [zsW_s]
      have : k = 0 ∨ k = 1 ∨ k = 2 ∨ k = 3 ∨ k = 4 := by omega
      rcases this with rfl | rfl | rfl | rfl | rfl <;> rfl
def ca_X6_copyFrom : (zD × Nat × Nat) → List zV := fun (S, a, q) => [vR 15 0 a, vR 15 0 q]
def cp_X6_copyFrom : (zD × Nat × Nat) → zH → Prop := fun (S, a, q) h => rpS S h q ∧ (a + 7 ≤ q ∨ q + 7 ≤ a)
def cq_X6_copyFrom : (zD × Nat × Nat) → zH → Option zV → zH → Prop := fun (S, a, q) h r h' => r = none ∧ sm a 7 h h' ∧ rpS S h' a
theorem rc_X6_copyFrom : ∀ x : (zD × Nat × Nat), ∃ (j a : Nat) (As : List zV), ca_X6_copyFrom x = vR (10 + 5) j a :: As := by
  rintro ⟨S, a, q⟩
  exact ⟨_, _, _, rfl⟩
set_option maxHeartbeats 4000000 in
set_option maxRecDepth 100000 in
theorem m_X6_copyFrom : zM yX6_copyFrom cX6_copyFrom 2 none ({ frames := 1, cells := 0, slots := 0, locals := 60 } : Room) ((ca_X6_copyFrom, cp_X6_copyFrom, cq_X6_copyFrom) : zC (zD × Nat × Nat)) := by
  refine zM_of (by decide) ?_
  rintro X Y ⟨S, a, q⟩ h ⟨hS, hd⟩ O E hR
  have B_0 := zr_aload_n (X := X) (Y := Y) (u := 0) (v := 0) O dX6_copyFrom_0 rfl (zr_aload_n O dX6_copyFrom_1 rfl (zr_gI (ci := 5) (j := 0) O zc_5 (by decide) rfl tw_46 dX6_copyFrom_2 (zr_pI (ci := 5) (j := 0) O zc_5 (by decide) rfl rfl rfl tw_46 dX6_copyFrom_5 (zr_aload_n O dX6_copyFrom_8 rfl (zr_gS (ci := 5) (j := 1) (off := 1) (t := 1) (n := 10) O zc_5 (by decide) rfl tw_50 dX6_copyFrom_9 (zr_iconst (x := 0) O dX6_copyFrom_12 rfl (zr_aload_n O dX6_copyFrom_13 rfl (zr_gS (ci := 5) (j := 1) (off := 1) (t := 1) (n := 10) O zc_5 (by decide) rfl tw_50 dX6_copyFrom_14 (zr_iconst (x := 0) O dX6_copyFrom_17 rfl (zr_bipush (x := (10)) O dX6_copyFrom_18 (by decide) (zr_cpy O tw_665 zwc ⟨(zrm (a := 1) (b := 60) hR rfl rfl).1, Nat.le_trans zwn (zrm (a := 1) (b := 60) hR rfl rfl).2.1⟩ dX6_copyFrom_20 (zr_aload_n O dX6_copyFrom_23 rfl (zr_gS (ci := 5) (j := 2) (off := 2) (t := 1) (n := 10) O zc_5 (by decide) rfl tw_51 dX6_copyFrom_24 (zr_iconst (x := 0) O dX6_copyFrom_27 rfl (zr_aload_n O dX6_copyFrom_28 rfl (zr_gS (ci := 5) (j := 2) (off := 2) (t := 1) (n := 10) O zc_5 (by decide) rfl tw_51 dX6_copyFrom_29 (zr_iconst (x := 0) O dX6_copyFrom_32 rfl (zr_bipush (x := (10)) O dX6_copyFrom_33 (by decide) (zr_cpy O tw_665 zwc ⟨(zrm (a := 1) (b := 60) hR rfl rfl).1, Nat.le_trans zwn (zrm (a := 1) (b := 60) hR rfl rfl).2.1⟩ dX6_copyFrom_35 (zr_aload_n O dX6_copyFrom_38 rfl (zr_gS (ci := 5) (j := 3) (off := 3) (t := 1) (n := 10) O zc_5 (by decide) rfl tw_52 dX6_copyFrom_39 (zr_iconst (x := 0) O dX6_copyFrom_42 rfl (zr_aload_n O dX6_copyFrom_43 rfl (zr_gS (ci := 5) (j := 3) (off := 3) (t := 1) (n := 10) O zc_5 (by decide) rfl tw_52 dX6_copyFrom_44 (zr_iconst (x := 0) O dX6_copyFrom_47 rfl (zr_bipush (x := (10)) O dX6_copyFrom_48 (by decide) (zr_cpy O tw_665 zwc ⟨(zrm (a := 1) (b := 60) hR rfl rfl).1, Nat.le_trans zwn (zrm (a := 1) (b := 60) hR rfl rfl).2.1⟩ dX6_copyFrom_50 (zr_aload_n O dX6_copyFrom_53 rfl (zr_aload_n O dX6_copyFrom_54 rfl (zr_gI (ci := 5) (j := 4) O zc_5 (by decide) rfl tw_54 dX6_copyFrom_55 (zr_pI (ci := 5) (j := 4) O zc_5 (by decide) rfl rfl rfl tw_54 dX6_copyFrom_58 (zr_aload_n O dX6_copyFrom_61 rfl (zr_gS (ci := 5) (j := 5) (off := 4) (t := 1) (n := 28) O zc_5 (by decide) rfl tw_59 dX6_copyFrom_62 (zr_iconst (x := 0) O dX6_copyFrom_65 rfl (zr_aload_n O dX6_copyFrom_66 rfl (zr_gS (ci := 5) (j := 5) (off := 4) (t := 1) (n := 28) O zc_5 (by decide) rfl tw_59 dX6_copyFrom_67 (zr_iconst (x := 0) O dX6_copyFrom_70 rfl (zr_bipush (x := (28)) O dX6_copyFrom_71 (by decide) (zr_cpy O tw_665 zwc ⟨(zrm (a := 1) (b := 60) hR rfl rfl).1, Nat.le_trans zwn (zrm (a := 1) (b := 60) hR rfl rfl).2.1⟩ dX6_copyFrom_73 (zr_aload_n O dX6_copyFrom_76 rfl (zr_gS (ci := 5) (j := 6) (off := 5) (t := 1) (n := 28) O zc_5 (by decide) rfl tw_66 dX6_copyFrom_77 (zr_iconst (x := 0) O dX6_copyFrom_80 rfl (zr_aload_n O dX6_copyFrom_81 rfl (zr_gS (ci := 5) (j := 6) (off := 5) (t := 1) (n := 28) O zc_5 (by decide) rfl tw_66 dX6_copyFrom_82 (zr_iconst (x := 0) O dX6_copyFrom_85 rfl (zr_bipush (x := (28)) O dX6_copyFrom_86 (by decide) (zr_cpy O tw_665 zwc ⟨(zrm (a := 1) (b := 60) hR rfl rfl).1, Nat.le_trans zwn (zrm (a := 1) (b := 60) hR rfl rfl).2.1⟩ dX6_copyFrom_88 (zr_aload_n O dX6_copyFrom_91 rfl (zr_gS (ci := 5) (j := 7) (off := 6) (t := 1) (n := 5) O zc_5 (by decide) rfl tw_73 dX6_copyFrom_92 (zr_iconst (x := 0) O dX6_copyFrom_95 rfl (zr_aload_n O dX6_copyFrom_96 rfl (zr_gS (ci := 5) (j := 7) (off := 6) (t := 1) (n := 5) O zc_5 (by decide) rfl tw_73 dX6_copyFrom_97 (zr_iconst (x := 0) O dX6_copyFrom_100 rfl (zr_iconst (x := 5) O dX6_copyFrom_101 rfl (zr_cpy O tw_665 zwc ⟨(zrm (a := 1) (b := 60) hR rfl rfl).1, Nat.le_trans zwn (zrm (a := 1) (b := 60) hR rfl rfl).2.1⟩ dX6_copyFrom_102 (zr_return O E (Nat.le_refl _) (Nat.le_refl _) dX6_copyFrom_105))))))))))))))))))))))))))))))))))))))))))))))))))))))))
  refine ⟨rfl, Nat.le_of_ble_eq_true rfl, _, B_0, ?_⟩
  have hS : rpS S h q := hS
  refine ⟨rfl, rfl, 10, rfl, by decide, by decide, rfl, rfl, 10, rfl, by decide, by decide, rfl, rfl, 10, rfl, by decide, by decide, rfl, rfl, 28, rfl, by decide, by decide, rfl, rfl, 28, rfl, by decide, by decide, rfl, rfl, 5, rfl, by decide, by decide, rfl, ?_, ?_⟩
  · simp only [zsI_W]
    exact sm_tr (sm_tr (sm_tr (sm_tr (sm_tr (sm_tr (sm_tr (sm_W _ _ (by omega) (by omega)) (sm_W _ _ (by omega) (by omega))) (sm_W _ _ (by omega) (by omega))) (sm_W _ _ (by omega) (by omega))) (sm_W _ _ (by omega) (by omega))) (sm_W _ _ (by omega) (by omega))) (sm_W _ _ (by omega) (by omega))) (sm_W _ _ (by omega) (by omega))
  · obtain ⟨⟨n1, n2⟩, ⟨p1, p2⟩, r1, f1, t1⟩ := hS
    simp only [zsI_W]
    refine ⟨⟨?_, n2⟩, ⟨?_, p2⟩, fun r hr => ⟨?_, ?_, ?_⟩, fun p hp => ⟨⟨?_, (f1 p hp).1.2⟩, ?_, (f1 p hp).2.2⟩, fun k hk => ?_⟩
    · simp (disch := omega) only [zsW_s, zsW_n]
      exact n1
    · simp (disch := omega) only [zsW_s, zsW_n]
      exact p1
    · simp (disch := omega) only [zsW_s, zsW_n]
      rw [if_pos (by omega)]
      exact (r1 r hr).1
    · simp (disch := omega) only [zsW_s, zsW_n]
      rw [if_pos (by omega)]
      exact (r1 r hr).2.1
    · simp (disch := omega) only [zsW_s, zsW_n]
      rw [if_pos (by omega)]
      exact (r1 r hr).2.2
    · simp (disch := omega) only [zsW_s, zsW_n]
      rw [if_pos (by omega)]
      exact (f1 p hp).1.1
    · simp (disch := omega) only [zsW_s, zsW_n]
      rw [if_pos (by omega)]
      exact (f1 p hp).2.1
    · simp (disch := omega) only [zsW_s, zsW_n]
      rw [if_pos (by omega)]
      exact t1 k hk
def ca_X6_traitRow : (Nat × Nat) → List zV := fun (a, w) => [vR 15 0 a, vI (nI w)]
def cp_X6_traitRow : (Nat × Nat) → zH → Prop := fun (a, w) _ => w < 3
def cq_X6_traitRow : (Nat × Nat) → zH → Option zV → zH → Prop := fun (a, w) h r h' => r = some (vR 1 10 (a + (w + 1))) ∧ h' = h
theorem rc_X6_traitRow : ∀ x : (Nat × Nat), ∃ (j a : Nat) (As : List zV), ca_X6_traitRow x = vR (10 + 5) j a :: As := by
  rintro ⟨a, w⟩
  exact ⟨_, _, _, rfl⟩
set_option maxHeartbeats 4000000 in
set_option maxRecDepth 100000 in
theorem m_X6_traitRow : zM yX6_traitRow cX6_traitRow 2 (some (.array .int)) ({ frames := 0, cells := 0, slots := 0, locals := 0 } : Room) ((ca_X6_traitRow, cp_X6_traitRow, cq_X6_traitRow) : zC (Nat × Nat)) := by
  refine zM_of (by decide) ?_
  rintro X Y ⟨a, w⟩ h hw O E hR
  have B_27 := zr_areturn (X := X) (Y := Y) (u := 0) (v := 0) O E (Or.inr ⟨_, rfl⟩) (Nat.le_refl _) (Nat.le_refl _) dX6_traitRow_27
  have B_23 := zr_aload_n (X := X) (Y := Y) (u := 0) (v := 0) O dX6_traitRow_23 rfl (zr_gS (ci := 5) (j := 3) (off := 3) (t := 1) (n := 10) O zc_5 (by decide) rfl tw_52 dX6_traitRow_24 (B_27))
  have B_11 := zr_iload_n (X := X) (Y := Y) (u := 0) (v := 0) O dX6_traitRow_11 rfl (zr_iconst (x := 1) O dX6_traitRow_12 rfl (zr_icne (tgt := 23) O dX6_traitRow_13 rfl B_23 (zr_aload_n O dX6_traitRow_16 rfl (zr_gS (ci := 5) (j := 2) (off := 2) (t := 1) (n := 10) O zc_5 (by decide) rfl tw_51 dX6_traitRow_17 (zr_goto (tgt := 27) O dX6_traitRow_20 rfl B_27)))))
  have B_0 := zr_iload_n (X := X) (Y := Y) (u := 0) (v := 0) O dX6_traitRow_0 rfl (zr_ifne (tgt := 11) O dX6_traitRow_1 rfl B_11 (zr_aload_n O dX6_traitRow_4 rfl (zr_gS (ci := 5) (j := 1) (off := 1) (t := 1) (n := 10) O zc_5 (by decide) rfl tw_50 dX6_traitRow_5 (zr_goto (tgt := 27) O dX6_traitRow_8 rfl B_27))))
  refine ⟨rfl, Nat.le_of_ble_eq_true rfl, _, B_0, ?_⟩
  have hw : w < 3 := hw
  have : w = 0 ∨ w = 1 ∨ w = 2 := by omega
  rcases this with rfl | rfl | rfl
  · exact ⟨fun cq => absurd rfl cq, fun _ => ⟨rfl, rfl⟩⟩
  · exact ⟨fun _ => ⟨fun cq => absurd rfl cq, fun _ => ⟨rfl, rfl⟩⟩, fun cq => absurd cq (by decide)⟩
  · exact ⟨fun _ => ⟨fun _ => ⟨rfl, rfl⟩, fun cq => absurd cq (by decide)⟩, fun cq => absurd cq (by decide)⟩

