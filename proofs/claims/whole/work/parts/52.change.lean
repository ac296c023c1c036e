theorem dX10_set_0 : decode cX10_set 0 = .ok (.aload_n 0, 1) := by decide +kernel
theorem dX10_set_1 : decode cX10_set 1 = .ok (.iload_n 1, 1) := by decide +kernel
theorem dX10_set_2 : decode cX10_set 2 = .ok (.iconst 0, 1) := by decide +kernel
theorem dX10_set_3 : decode cX10_set 3 = .ok (.iconst 4, 1) := by decide +kernel
theorem dX10_set_4 : decode cX10_set 4 = .ok (.invokevirtual 77, 3) := by decide +kernel
theorem dX10_set_7 : decode cX10_set 7 = .ok (.aload_n 0, 1) := by decide +kernel
theorem dX10_set_8 : decode cX10_set 8 = .ok (.iload_n 1, 1) := by decide +kernel
theorem dX10_set_9 : decode cX10_set 9 = .ok (.iload_n 2, 1) := by decide +kernel
theorem dX10_set_10 : decode cX10_set 10 = .ok (.invokevirtual 120, 3) := by decide +kernel
theorem dX10_set_13 : decode cX10_set 13 = .ok (.aload_n 0, 1) := by decide +kernel
theorem dX10_set_14 : decode cX10_set 14 = .ok (.invokevirtual 124, 3) := by decide +kernel
theorem dX10_set_17 : decode cX10_set 17 = .ok (.aload_n 0, 1) := by decide +kernel
theorem dX10_set_18 : decode cX10_set 18 = .ok (.getfield 10, 3) := by decide +kernel
theorem dX10_set_21 : decode cX10_set 21 = .ok (.getfield 85, 3) := by decide +kernel
theorem dX10_set_24 : decode cX10_set 24 = .ok (.getfield 127, 3) := by decide +kernel
theorem dX10_set_27 : decode cX10_set 27 = .ok (.iload_n 1, 1) := by decide +kernel
theorem dX10_set_28 : decode cX10_set 28 = .ok (.iaload, 1) := by decide +kernel
theorem dX10_set_29 : decode cX10_set 29 = .ok (.istore_n 3, 1) := by decide +kernel
theorem dX10_set_30 : decode cX10_set 30 = .ok (.aload_n 0, 1) := by decide +kernel
theorem dX10_set_31 : decode cX10_set 31 = .ok (.getfield 10, 3) := by decide +kernel
theorem dX10_set_34 : decode cX10_set 34 = .ok (.getfield 85, 3) := by decide +kernel
theorem dX10_set_37 : decode cX10_set 37 = .ok (.getfield 127, 3) := by decide +kernel
theorem dX10_set_40 : decode cX10_set 40 = .ok (.iload_n 1, 1) := by decide +kernel
theorem dX10_set_41 : decode cX10_set 41 = .ok (.iload_n 2, 1) := by decide +kernel
theorem dX10_set_42 : decode cX10_set 42 = .ok (.iastore, 1) := by decide +kernel
theorem dX10_set_43 : decode cX10_set 43 = .ok (.iload_n 3, 1) := by decide +kernel
theorem dX10_set_44 : decode cX10_set 44 = .ok (.ireturn, 1) := by decide +kernel
theorem dX10_wear_0 : decode cX10_wear 0 = .ok (.aload_n 0, 1) := by decide +kernel
theorem dX10_wear_1 : decode cX10_wear 1 = .ok (.iload_n 1, 1) := by decide +kernel
theorem dX10_wear_2 : decode cX10_wear 2 = .ok (.aload_n 0, 1) := by decide +kernel
theorem dX10_wear_3 : decode cX10_wear 3 = .ok (.getfield 10, 3) := by decide +kernel
theorem dX10_wear_6 : decode cX10_wear 6 = .ok (.getfield 85, 3) := by decide +kernel
theorem dX10_wear_9 : decode cX10_wear 9 = .ok (.getfield 130, 3) := by decide +kernel
theorem dX10_wear_12 : decode cX10_wear 12 = .ok (.invokevirtual 133, 3) := by decide +kernel
theorem dX10_wear_15 : decode cX10_wear 15 = .ok (.aload_n 0, 1) := by decide +kernel
theorem dX10_wear_16 : decode cX10_wear 16 = .ok (.iload_n 2, 1) := by decide +kernel
theorem dX10_wear_17 : decode cX10_wear 17 = .ok (.iconst 0, 1) := by decide +kernel
theorem dX10_wear_18 : decode cX10_wear 18 = .ok (.iconst 2, 1) := by decide +kernel
theorem dX10_wear_19 : decode cX10_wear 19 = .ok (.invokevirtual 77, 3) := by decide +kernel
theorem dX10_wear_22 : decode cX10_wear 22 = .ok (.aload_n 0, 1) := by decide +kernel
theorem dX10_wear_23 : decode cX10_wear 23 = .ok (.iload_n 2, 1) := by decide +kernel
theorem dX10_wear_24 : decode cX10_wear 24 = .ok (.iload_n 3, 1) := by decide +kernel
theorem dX10_wear_25 : decode cX10_wear 25 = .ok (.invokevirtual 136, 3) := by decide +kernel
theorem dX10_wear_28 : decode cX10_wear 28 = .ok (.aload_n 0, 1) := by decide +kernel
theorem dX10_wear_29 : decode cX10_wear 29 = .ok (.invokevirtual 124, 3) := by decide +kernel
theorem dX10_wear_32 : decode cX10_wear 32 = .ok (.aload_n 0, 1) := by decide +kernel
theorem dX10_wear_33 : decode cX10_wear 33 = .ok (.getfield 10, 3) := by decide +kernel
theorem dX10_wear_36 : decode cX10_wear 36 = .ok (.getfield 85, 3) := by decide +kernel
theorem dX10_wear_39 : decode cX10_wear 39 = .ok (.iload_n 2, 1) := by decide +kernel
theorem dX10_wear_40 : decode cX10_wear 40 = .ok (.invokevirtual 139, 3) := by decide +kernel
theorem dX10_wear_43 : decode cX10_wear 43 = .ok (.astore 4, 2) := by decide +kernel
theorem dX10_wear_45 : decode cX10_wear 45 = .ok (.aload 4, 2) := by decide +kernel
theorem dX10_wear_47 : decode cX10_wear 47 = .ok (.iload_n 1, 1) := by decide +kernel
theorem dX10_wear_48 : decode cX10_wear 48 = .ok (.iaload, 1) := by decide +kernel
theorem dX10_wear_49 : decode cX10_wear 49 = .ok (.istore 5, 2) := by decide +kernel
theorem dX10_wear_51 : decode cX10_wear 51 = .ok (.aload 4, 2) := by decide +kernel
theorem dX10_wear_53 : decode cX10_wear 53 = .ok (.iload_n 1, 1) := by decide +kernel
theorem dX10_wear_54 : decode cX10_wear 54 = .ok (.iload_n 3, 1) := by decide +kernel
theorem dX10_wear_55 : decode cX10_wear 55 = .ok (.iastore, 1) := by decide +kernel
theorem dX10_wear_56 : decode cX10_wear 56 = .ok (.iload 5, 2) := by decide +kernel
theorem dX10_wear_58 : decode cX10_wear 58 = .ok (.ireturn, 1) := by decide +kernel
theorem dX10_enrol_31 : decode cX10_enrol 31 = .ok (.iload_n 3, 1) := by decide +kernel
theorem dX10_enrol_32 : decode cX10_enrol 32 = .ok (.aload_n 0, 1) := by decide +kernel
theorem dX10_enrol_33 : decode cX10_enrol 33 = .ok (.getfield 10, 3) := by decide +kernel
theorem dX10_enrol_36 : decode cX10_enrol 36 = .ok (.getfield 85, 3) := by decide +kernel
theorem dX10_enrol_39 : decode cX10_enrol 39 = .ok (.getfield 127, 3) := by decide +kernel
theorem dX10_enrol_42 : decode cX10_enrol 42 = .ok (.iconst 4, 1) := by decide +kernel
theorem dX10_enrol_43 : decode cX10_enrol 43 = .ok (.iaload, 1) := by decide +kernel
theorem dX10_enrol_44 : decode cX10_enrol 44 = .ok (.invokestatic 153, 3) := by decide +kernel
theorem dX10_enrol_47 : decode cX10_enrol 47 = .ok (.imul, 1) := by decide +kernel
theorem dX10_enrol_48 : decode cX10_enrol 48 = .ok (.istore 4, 2) := by decide +kernel
theorem dX10_enrol_50 : decode cX10_enrol 50 = .ok (.aload_n 0, 1) := by decide +kernel
theorem dX10_enrol_51 : decode cX10_enrol 51 = .ok (.iload_n 1, 1) := by decide +kernel
theorem dX10_enrol_52 : decode cX10_enrol 52 = .ok (.iconst 0, 1) := by decide +kernel
theorem dX10_enrol_53 : decode cX10_enrol 53 = .ok (.iconst 1, 1) := by decide +kernel
theorem dX10_enrol_54 : decode cX10_enrol 54 = .ok (.iload 4, 2) := by decide +kernel
theorem dX10_enrol_56 : decode cX10_enrol 56 = .ok (.ishl, 1) := by decide +kernel
theorem dX10_enrol_57 : decode cX10_enrol 57 = .ok (.iconst 1, 1) := by decide +kernel
theorem dX10_enrol_58 : decode cX10_enrol 58 = .ok (.isub, 1) := by decide +kernel
theorem dX10_enrol_59 : decode cX10_enrol 59 = .ok (.invokevirtual 77, 3) := by decide +kernel
theorem dX10_enrol_62 : decode cX10_enrol 62 = .ok (.aload_n 0, 1) := by decide +kernel
theorem dX10_enrol_63 : decode cX10_enrol 63 = .ok (.invokevirtual 124, 3) := by decide +kernel
theorem dX10_enrol_66 : decode cX10_enrol 66 = .ok (.aload_n 0, 1) := by decide +kernel
theorem dX10_enrol_67 : decode cX10_enrol 67 = .ok (.getfield 10, 3) := by decide +kernel
theorem dX10_enrol_70 : decode cX10_enrol 70 = .ok (.getfield 98, 3) := by decide +kernel
theorem dX10_enrol_73 : decode cX10_enrol 73 = .ok (.aload_n 0, 1) := by decide +kernel
theorem dX10_enrol_74 : decode cX10_enrol 74 = .ok (.getfield 10, 3) := by decide +kernel
theorem dX10_enrol_77 : decode cX10_enrol 77 = .ok (.getfield 85, 3) := by decide +kernel
theorem dX10_enrol_80 : decode cX10_enrol 80 = .ok (.iload_n 2, 1) := by decide +kernel
theorem dX10_enrol_81 : decode cX10_enrol 81 = .ok (.iload_n 3, 1) := by decide +kernel
theorem dX10_enrol_82 : decode cX10_enrol 82 = .ok (.iload_n 1, 1) := by decide +kernel
theorem dX10_enrol_83 : decode cX10_enrol 83 = .ok (.invokevirtual 158, 3) := by decide +kernel
theorem dX10_enrol_86 : decode cX10_enrol 86 = .ok (.iload_n 3, 1) := by decide +kernel
theorem dX10_enrol_87 : decode cX10_enrol 87 = .ok (.ireturn, 1) := by decide +kernel
theorem dX10_enrol_0 : decode cX10_enrol 0 = .ok (.aload_n 0, 1) := by decide +kernel
theorem dX10_enrol_1 : decode cX10_enrol 1 = .ok (.getfield 10, 3) := by decide +kernel
theorem dX10_enrol_4 : decode cX10_enrol 4 = .ok (.getfield 85, 3) := by decide +kernel
theorem dX10_enrol_7 : decode cX10_enrol 7 = .ok (.invokevirtual 143, 3) := by decide +kernel
theorem dX10_enrol_10 : decode cX10_enrol 10 = .ok (.istore_n 2, 1) := by decide +kernel
theorem dX10_enrol_11 : decode cX10_enrol 11 = .ok (.aload_n 0, 1) := by decide +kernel
theorem dX10_enrol_12 : decode cX10_enrol 12 = .ok (.getfield 10, 3) := by decide +kernel
theorem dX10_enrol_15 : decode cX10_enrol 15 = .ok (.getfield 85, 3) := by decide +kernel
theorem dX10_enrol_18 : decode cX10_enrol 18 = .ok (.iload_n 2, 1) := by decide +kernel
theorem dX10_enrol_19 : decode cX10_enrol 19 = .ok (.invokevirtual 147, 3) := by decide +kernel
theorem dX10_enrol_22 : decode cX10_enrol 22 = .ok (.istore_n 3, 1) := by decide +kernel
theorem dX10_enrol_23 : decode cX10_enrol 23 = .ok (.iload_n 3, 1) := by decide +kernel
theorem dX10_enrol_24 : decode cX10_enrol 24 = .ok (.ifCond .ne 7, 3) := by decide +kernel
theorem dX10_enrol_27 : decode cX10_enrol 27 = .ok (.aload_n 0, 1) := by decide +kernel
theorem dX10_enrol_28 : decode cX10_enrol 28 = .ok (.invokevirtual 150, 3) := by decide +kernel
theorem dX10_hear_0 : decode cX10_hear 0 = .ok (.aload_n 0, 1) := by decide +kernel
theorem dX10_hear_1 : decode cX10_hear 1 = .ok (.iload_n 1, 1) := by decide +kernel
theorem dX10_hear_2 : decode cX10_hear 2 = .ok (.aload_n 0, 1) := by decide +kernel
theorem dX10_hear_3 : decode cX10_hear 3 = .ok (.getfield 10, 3) := by decide +kernel
theorem dX10_hear_6 : decode cX10_hear 6 = .ok (.getfield 85, 3) := by decide +kernel
theorem dX10_hear_9 : decode cX10_hear 9 = .ok (.getfield 114, 3) := by decide +kernel
theorem dX10_hear_12 : decode cX10_hear 12 = .ok (.invokevirtual 133, 3) := by decide +kernel
theorem dX10_hear_15 : decode cX10_hear 15 = .ok (.aload_n 0, 1) := by decide +kernel
theorem dX10_hear_16 : decode cX10_hear 16 = .ok (.invokevirtual 124, 3) := by decide +kernel
theorem dX10_hear_19 : decode cX10_hear 19 = .ok (.aload_n 0, 1) := by decide +kernel
theorem dX10_hear_20 : decode cX10_hear 20 = .ok (.getfield 10, 3) := by decide +kernel
theorem dX10_hear_23 : decode cX10_hear 23 = .ok (.getfield 85, 3) := by decide +kernel
theorem dX10_hear_26 : decode cX10_hear 26 = .ok (.iload_n 1, 1) := by decide +kernel
theorem dX10_hear_27 : decode cX10_hear 27 = .ok (.invokevirtual 162, 3) := by decide +kernel
theorem dX10_hear_30 : decode cX10_hear 30 = .ok (.istore_n 2, 1) := by decide +kernel
theorem dX10_hear_31 : decode cX10_hear 31 = .ok (.aload_n 0, 1) := by decide +kernel
theorem dX10_hear_32 : decode cX10_hear 32 = .ok (.getfield 10, 3) := by decide +kernel
theorem dX10_hear_35 : decode cX10_hear 35 = .ok (.getfield 107, 3) := by decide +kernel
theorem dX10_hear_38 : decode cX10_hear 38 = .ok (.iload_n 1, 1) := by decide +kernel
theorem dX10_hear_39 : decode cX10_hear 39 = .ok (.iload_n 2, 1) := by decide +kernel
theorem dX10_hear_40 : decode cX10_hear 40 = .ok (.invokevirtual 165, 3) := by decide +kernel
theorem dX10_hear_43 : decode cX10_hear 43 = .ok (.iload_n 2, 1) := by decide +kernel
theorem dX10_hear_44 : decode cX10_hear 44 = .ok (.ireturn, 1) := by decide +kernel
theorem dX10_train_45 : decode cX10_train 45 = .ok (.iload_n 2, 1) := by decide +kernel
theorem dX10_train_46 : decode cX10_train 46 = .ok (.ireturn, 1) := by decide +kernel
theorem dX10_train_16 : decode cX10_train 16 = .ok (.iload_n 3, 1) := by decide +kernel
theorem dX10_train_17 : decode cX10_train 17 = .ok (.iload_n 1, 1) := by decide +kernel
theorem dX10_train_18 : decode cX10_train 18 = .ok (.if_icmp .ge 27, 3) := by decide +kernel
theorem dX10_train_21 : decode cX10_train 21 = .ok (.aload_n 0, 1) := by decide +kernel
theorem dX10_train_22 : decode cX10_train 22 = .ok (.getfield 10, 3) := by decide +kernel
theorem dX10_train_25 : decode cX10_train 25 = .ok (.getfield 107, 3) := by decide +kernel
theorem dX10_train_28 : decode cX10_train 28 = .ok (.aload_n 0, 1) := by decide +kernel
theorem dX10_train_29 : decode cX10_train 29 = .ok (.getfield 10, 3) := by decide +kernel
theorem dX10_train_32 : decode cX10_train 32 = .ok (.getfield 85, 3) := by decide +kernel
theorem dX10_train_35 : decode cX10_train 35 = .ok (.invokevirtual 167, 3) := by decide +kernel
theorem dX10_train_38 : decode cX10_train 38 = .ok (.istore_n 2, 1) := by decide +kernel
theorem dX10_train_39 : decode cX10_train 39 = .ok (.iinc 3 1, 3) := by decide +kernel
theorem dX10_train_42 : decode cX10_train 42 = .ok (.goto (-26), 3) := by decide +kernel
theorem dX10_train_0 : decode cX10_train 0 = .ok (.aload_n 0, 1) := by decide +kernel
theorem dX10_train_1 : decode cX10_train 1 = .ok (.iload_n 1, 1) := by decide +kernel
theorem dX10_train_2 : decode cX10_train 2 = .ok (.iconst 1, 1) := by decide +kernel
theorem dX10_train_3 : decode cX10_train 3 = .ok (.bipush 50, 2) := by decide +kernel
theorem dX10_train_5 : decode cX10_train 5 = .ok (.invokevirtual 77, 3) := by decide +kernel
theorem dX10_train_8 : decode cX10_train 8 = .ok (.aload_n 0, 1) := by decide +kernel
theorem dX10_train_9 : decode cX10_train 9 = .ok (.invokevirtual 124, 3) := by decide +kernel
theorem dX10_train_12 : decode cX10_train 12 = .ok (.iconst 0, 1) := by decide +kernel
theorem dX10_train_13 : decode cX10_train 13 = .ok (.istore_n 2, 1) := by decide +kernel
theorem dX10_train_14 : decode cX10_train 14 = .ok (.iconst 0, 1) := by decide +kernel
theorem dX10_train_15 : decode cX10_train 15 = .ok (.istore_n 3, 1) := by decide +kernel
theorem dX10_turn_0 : decode cX10_turn 0 = .ok (.aload_n 0, 1) := by decide +kernel
theorem dX10_turn_1 : decode cX10_turn 1 = .ok (.invokevirtual 171, 3) := by decide +kernel
theorem dX10_turn_4 : decode cX10_turn 4 = .ok (.aload_n 0, 1) := by decide +kernel
theorem dX10_turn_5 : decode cX10_turn 5 = .ok (.iload_n 1, 1) := by decide +kernel
theorem dX10_turn_6 : decode cX10_turn 6 = .ok (.aload_n 0, 1) := by decide +kernel
theorem dX10_turn_7 : decode cX10_turn 7 = .ok (.getfield 10, 3) := by decide +kernel
theorem dX10_turn_10 : decode cX10_turn 10 = .ok (.getfield 98, 3) := by decide +kernel
theorem dX10_turn_13 : decode cX10_turn 13 = .ok (.getfield 174, 3) := by decide +kernel
theorem dX10_turn_16 : decode cX10_turn 16 = .ok (.invokevirtual 133, 3) := by decide +kernel
theorem dX10_turn_19 : decode cX10_turn 19 = .ok (.aload_n 0, 1) := by decide +kernel
theorem dX10_turn_20 : decode cX10_turn 20 = .ok (.invokevirtual 124, 3) := by decide +kernel
theorem dX10_turn_23 : decode cX10_turn 23 = .ok (.aload_n 0, 1) := by decide +kernel
theorem dX10_turn_24 : decode cX10_turn 24 = .ok (.getfield 10, 3) := by decide +kernel
theorem dX10_turn_27 : decode cX10_turn 27 = .ok (.getfield 98, 3) := by decide +kernel
theorem dX10_turn_30 : decode cX10_turn 30 = .ok (.dup, 1) := by decide +kernel
theorem dX10_turn_31 : decode cX10_turn 31 = .ok (.getfield 177, 3) := by decide +kernel
theorem dX10_turn_34 : decode cX10_turn 34 = .ok (.iconst 1, 1) := by decide +kernel
theorem dX10_turn_35 : decode cX10_turn 35 = .ok (.iload_n 1, 1) := by decide +kernel
theorem dX10_turn_36 : decode cX10_turn 36 = .ok (.ishl, 1) := by decide +kernel
theorem dX10_turn_37 : decode cX10_turn 37 = .ok (.ixor, 1) := by decide +kernel
theorem dX10_turn_38 : decode cX10_turn 38 = .ok (.putfield 177, 3) := by decide +kernel
theorem dX10_turn_41 : decode cX10_turn 41 = .ok (.aload_n 0, 1) := by decide +kernel
theorem dX10_turn_42 : decode cX10_turn 42 = .ok (.getfield 10, 3) := by decide +kernel
theorem dX10_turn_45 : decode cX10_turn 45 = .ok (.getfield 98, 3) := by decide +kernel
theorem dX10_turn_48 : decode cX10_turn 48 = .ok (.getfield 177, 3) := by decide +kernel
theorem dX10_turn_51 : decode cX10_turn 51 = .ok (.iload_n 1, 1) := by decide +kernel
theorem dX10_turn_52 : decode cX10_turn 52 = .ok (.invokestatic 180, 3) := by decide +kernel
theorem dX10_turn_55 : decode cX10_turn 55 = .ok (.ireturn, 1) := by decide +kernel
/-! calls that change -/
theorem rpZ_N {Q : zQ} {Hs : Nat → zQ} {c p k0 : Nat} {π : Nat → Nat} {x : Nat} {h : zH} (hZ : rpZ (Q, Hs, c, p, k0, π) x h) : rpN Q h x ∧ h.2.2 x 0 = stA x k0 := by
  obtain ⟨⟨n1, n2⟩, t1, t2, ⟨c1, c2⟩, ⟨p1, p2⟩, q1, q2⟩ := hZ
  have hin := stA_in x n2
  refine ⟨?_, n1⟩
  unfold rpN
  rw [n1]
  exact ⟨q1, hin⟩
theorem rpZ_upd {Q Q' : zQ} {Hs : Nat → zQ} {c p k0 : Nat} {π : Nat → Nat} {x : Nat} {h h' : zH} (hZ : rpZ (Q, Hs, c, p, k0, π) x h) (s : sm (stA x k0 + 1) 12 h h') (w : rpQ Q' h' (stA x k0)) : rpZ (Q', Hs, c, p, k0, π) x h' := by
  obtain ⟨⟨n1, n2⟩, t1, t2, ⟨c1, c2⟩, ⟨p1, p2⟩, q1, q2⟩ := hZ
  have hin := stA_in x n2
  have er : h'.2.2 = h.2.2 := by rw [s.2]
  have ex : h'.1 x = h.1 x := s.1 x (by omega)
  refine ⟨⟨by rw [er]; exact n1, n2⟩, fun j hj => ⟨by rw [er]; exact (t1 j hj).1, (t1 j hj).2⟩, t2, ⟨by rw [ex]; exact c1, c2⟩, ⟨by rw [ex]; exact p1, p2⟩, w, fun i hi => ?_⟩
  have hd := stA_d x (t1 ((p + 11 - i) % 12) (by omega)).2.2
  exact rpQ_sm s (by omega) (q2 i hi)
theorem rpZ_sm {Z : zP} {x b n : Nat} {h h' : zH} (hZ : rpZ Z x h) (s : sm b n h h') (hb : x + 171 ≤ b) : rpZ Z x h' := by
  obtain ⟨Q, Hs, c, p, k0, π⟩ := Z
  obtain ⟨⟨n1, n2⟩, t1, t2, ⟨c1, c2⟩, ⟨p1, p2⟩, q1, q2⟩ := hZ
  have hin := stA_in x n2
  have er : h'.2.2 = h.2.2 := by rw [s.2]
  have ex : h'.1 x = h.1 x := s.1 x (by omega)
  refine ⟨⟨by rw [er]; exact n1, n2⟩, fun j hj => ⟨by rw [er]; exact (t1 j hj).1, (t1 j hj).2⟩, t2, ⟨by rw [ex]; exact c1, c2⟩, ⟨by rw [ex]; exact p1, p2⟩, rpQ_sm s (by omega) q1, fun i hi => ?_⟩
  have hd := stA_in x (t1 ((p + 11 - i) % 12) (by omega)).2.1
  exact rpQ_sm s (by omega) (q2 i hi)
/-- what a change leaves: rows of the states, and two fields of the object -/
def mf (x : Nat) (h h' : zH) : Prop := sm x 171 h h' ∧ ∀ k, k ≠ 2 → k ≠ 3 → h'.1 x k = h.1 x k
theorem mf_in {x k0 : Nat} {h h1 h2 : zH} (m1 : mf x h h1) (hk : k0 < 13) (s : sm (stA x k0 + 1) 12 h1 h2) : mf x h h2 := by
  have hin := stA_in x hk
  refine ⟨sm_tr m1.1 (sm_mo s (by omega) (by omega)), fun k k2 k3 => ?_⟩
  rw [s.1 x (by omega)]
  exact m1.2 k k2 k3
def ca_X10_set : (zQ × (Nat → zQ) × Nat × Nat × Nat × (Nat → Nat) × Nat × Int32 × Int32) → List zV := fun (Q, Hs, c, p, k0, π, x, w, v) => [vR 19 0 x, vI w, vI v]
def cp_X10_set : (zQ × (Nat → zQ) × Nat × Nat × Nat × (Nat → Nat) × Nat × Int32 × Int32) → zH → Prop := fun (Q, Hs, c, p, k0, π, x, w, v) h => rpZ (Q, Hs, c, p, k0, π) x h
def cq_X10_set : (zQ × (Nat → zQ) × Nat × Nat × Nat × (Nat → Nat) × Nat × Int32 × Int32) → zH → Option zV → zH → Prop := fun (Q, Hs, c, p, k0, π, x, w, v) h r h' => (gR w 0 4 ∧ okS Q.1 w v) ∧ r = some (vI (dT Q.1 (cN w))) ∧ rpZ ((aSt Q.1 (cN w) v, Q.2.1, Q.2.2), hcn Q Hs, min (c + 1) 12, (p + 1) % 12, k0, π) x h' ∧ mf x h h'
def cx_X10_set : (zQ × (Nat → zQ) × Nat × Nat × Nat × (Nat → Nat) × Nat × Int32 × Int32) → zH → String → zH → Prop := fun (Q, Hs, c, p, k0, π, x, w, v) h E h' => ¬ (gR w 0 4 ∧ okS Q.1 w v) ∧ xIA x h E h'
theorem rc_X10_set : ∀ x : (zQ × (Nat → zQ) × Nat × Nat × Nat × (Nat → Nat) × Nat × Int32 × Int32), ∃ (j a : Nat) (As : List zV), ca_X10_set x = vR (10 + 9) j a :: As := by
  rintro ⟨⟨S, K, M⟩, Hs, c, p, k0, π, x, w, v⟩
  exact ⟨_, _, _, rfl⟩
set_option maxHeartbeats 4000000 in
set_option maxRecDepth 100000 in
theorem m_X10_set : zMx yX10_set cX10_set 4 (some .int) ({ frames := 9, cells := 2, slots := 12, locals := 147 } : Room) ((ca_X10_set, cp_X10_set, cq_X10_set) : zC (zQ × (Nat → zQ) × Nat × Nat × Nat × (Nat → Nat) × Nat × Int32 × Int32)) cx_X10_set := by
  refine zMx_of (by decide) ?_
  rintro X Y ⟨⟨S, K, M⟩, Hs, c, p, k0, π, x, w, v⟩ h hZ O Ex hR
  have E := zEx_E Ex
  have B_0 := zr_aload_n (X := X) (Y := Y) (u := 0) (v := 0) O dX10_set_0 rfl (zr_iload_n O dX10_set_1 rfl (zr_iconst (x := 0) O dX10_set_2 rfl (zr_iconst (x := 4) O dX10_set_3 rfl (zr_xV (u' := 1) (v' := 6) (ci := 9) (n := 3) O Ex m_X10_needBetween (bn_X10_needBetween { frames := 0, cells := 0, slots := 0, locals := 0 } ⟨rfl, rfl⟩) vw_X10_needBetween tw_457 rc_X10_needBetween (zrx hR rfl rfl rfl rfl) (Nat.le_of_ble_eq_true rfl) (Nat.le_of_ble_eq_true rfl) (Nat.le_of_ble_eq_true rfl) (Nat.le_of_ble_eq_true rfl) dX10_set_4 (zr_aload_n O dX10_set_7 rfl (zr_iload_n O dX10_set_8 rfl (zr_iload_n O dX10_set_9 rfl (zr_xV (u' := 2) (v' := 12) (ci := 9) (n := 2) O Ex m_X10_needSetting (bn_X10_needSetting { frames := 0, cells := 0, slots := 0, locals := 0 } ⟨rfl, rfl⟩) vw_X10_needSetting tw_681 rc_X10_needSetting (zrx hR rfl rfl rfl rfl) (Nat.le_of_ble_eq_true rfl) (Nat.le_of_ble_eq_true rfl) (Nat.le_of_ble_eq_true rfl) (Nat.le_of_ble_eq_true rfl) dX10_set_10 (zr_aload_n O dX10_set_13 rfl (zr_cV (ci := 9) (n := 0) O m_X10_remember (bn_X10_remember _ ⟨rfl, rfl⟩) vw_X10_remember tw_686 rc_X10_remember (zrx hR rfl rfl rfl rfl) dX10_set_14 (zr_aload_n O dX10_set_17 rfl (zr_gR (ci := 9) (j := 0) (off := 0) (t := 16) (n := 0) O zc_9 (by decide) rfl tw_287 dX10_set_18 (zr_gS (ci := 6) (j := 0) (off := 1) (t := 15) (n := 0) O zc_6 (by decide) rfl tw_172 dX10_set_21 (zr_gS (ci := 5) (j := 7) (off := 6) (t := 1) (n := 5) O zc_5 (by decide) rfl tw_75 dX10_set_24 (zr_iload_n O dX10_set_27 rfl (zr_iald O dX10_set_28 (zr_istore_n O dX10_set_29 rfl (zr_aload_n O dX10_set_30 rfl (zr_gR (ci := 9) (j := 0) (off := 0) (t := 16) (n := 0) O zc_9 (by decide) rfl tw_287 dX10_set_31 (zr_gS (ci := 6) (j := 0) (off := 1) (t := 15) (n := 0) O zc_6 (by decide) rfl tw_172 dX10_set_34 (zr_gS (ci := 5) (j := 7) (off := 6) (t := 1) (n := 5) O zc_5 (by decide) rfl tw_75 dX10_set_37 (zr_iload_n O dX10_set_40 rfl (zr_iload_n O dX10_set_41 rfl (zr_iast O dX10_set_42 (zr_iload_n O dX10_set_43 rfl (zr_ireturn O E (Nat.le_of_ble_eq_true rfl) (Nat.le_of_ble_eq_true rfl) dX10_set_44))))))))))))))))))))))))))
  refine ⟨rfl, Nat.le_of_ble_eq_true rfl, _, B_0, ?_⟩
  obtain ⟨hN, n0⟩ := rpZ_N hZ
  have hk0 : k0 < 13 := hZ.1.2
  refine ⟨(x, w, 0, 4), rfl, trivial, fun E h' hd => ⟨fun z => hd.1 z.1, hd.2⟩, fun r h1 hq => ?_⟩
  obtain ⟨rfl, eh, g1⟩ := hq
  obtain rfl := eh.symm
  refine ⟨((S, K, M), x, w, v), rfl, hN, fun E h' hd => ⟨fun z => hd.1 z.2, hd.2⟩, fun r h1 hq => ?_⟩
  obtain ⟨rfl, eh, g2⟩ := hq
  obtain rfl := eh.symm
  refine ⟨((S, K, M), Hs, c, p, k0, π, x), rfl, hZ, fun r h1 hq => ?_⟩
  obtain ⟨rfl, s1, x1, Z1⟩ := hq
  obtain ⟨q, rfl, hq, eq⟩ := rngx (n := 4) (by decide) g1
  obtain ⟨hN1, n1⟩ := rpZ_N Z1
  have hQ1 : rpQ (S, K, M) h1 (stA x k0) := by rw [← n1]; exact hN1.1
  refine ⟨q, rfl, by omega, q, rfl, by omega, ⟨g1, g2⟩, zri ?_, ?_, ?_⟩
  · rw [eq, n1]; exact hQ1.1.2.2.2.2 q (by omega)
  · rw [eq, n1]
    refine rpZ_upd Z1 (sm_I _ _ (by omega) (by omega)) ⟨?_, ?_, ?_⟩
    · exact rpS_set q v (fun j hj => by rw [zsI_W]; exact zsW_n _ _ (by omega)) (by rw [zsI_W]; exact zsW_s _ _ _) hQ1.1
    · exact rpE_cg (by rw [zsI_W]; exact zsW_n _ _ (by omega)) (by rw [zsI_W]; exact zsW_n _ _ (by omega)) hQ1.2.1
    · exact rpL_cg (by rw [zsI_W]; exact zsW_n _ _ (by omega)) (by rw [zsI_W]; exact zsW_n _ _ (by omega)) (by rw [zsI_W]; exact zsW_n _ _ (by omega)) hQ1.2.2
  · rw [n1]
    exact mf_in ⟨s1, x1⟩ hk0 (sm_I _ _ (by omega) (by omega))
/-- a ring worn -/
def aTr (S : zD) (w i : Nat) (v : Int32) : zD := (dN S, dP S, if w = 0 then va_up (dB S) i v else dB S, if w = 1 then va_up (dD S) i v else dD S, if w = 2 then va_up (dZ S) i v else dZ S, dF S, dS S, dT S)
theorem up_at (f : Nat → Int32) (c : Prop) [Decidable c] (i : Nat) (v : Int32) (r : Nat) : (if c then va_up f i v else f) r = if c ∧ r = i then v else f r := by
  by_cases hc : c
  · rw [if_pos hc]
    by_cases hr : r = i
    · rw [if_pos ⟨hc, hr⟩, hr, zup_s]
    · rw [if_neg (fun z => hr z.2), zup_n _ _ hr]
  · rw [if_neg hc, if_neg (fun z => hc z.1)]
theorem rpS_trait {S : zD} {h h' : zH} {a : Nat} (w i : Nat) (v : Int32) (hw : w < 3) (hr : ∀ j, j < 7 → j ≠ w + 1 → h'.1 (a + j) = h.1 (a + j)) (hw2 : h'.1 (a + (w + 1)) = va_up (h.1 (a + (w + 1))) i v) (hS : rpS S h a) : rpS (aTr S w i v) h' a := by
  obtain ⟨⟨a1, a2⟩, ⟨a3, a4⟩, a5, a6, a7⟩ := hS
  have r0 := hr 0 (by decide) (by omega)
  rw [Nat.add_zero] at r0
  have row : ∀ (j : Nat) (f : Nat → Int32), 1 ≤ j → j < 4 → (∀ r, r < dN S → h.1 (a + j) r = f r) → ∀ r, r < dN S → h'.1 (a + j) r = (if w = j - 1 then va_up f i v else f) r := by
    intro j f j1 j4 hf r hq
    rw [up_at]
    by_cases hj : j = w + 1
    · subst hj
      rw [hw2]
      by_cases hri : r = i
      · rw [if_pos ⟨by omega, hri⟩, hri, zup_s]
      · rw [if_neg (fun z => hri z.2), zup_n _ _ hri]; exact hf r hq
    · rw [hr j (by omega) hj, if_neg (fun z => hj (by omega))]; exact hf r hq
  refine ⟨⟨by rw [r0]; exact a1, a2⟩, ⟨by rw [r0]; exact a3, a4⟩, fun r hq => ⟨?_, ?_, ?_⟩, fun p hp => ?_, fun j hj => ?_⟩
  · exact row 1 (dB S) (by omega) (by omega) (fun r hr => (a5 r hr).1) r hq
  · exact row 2 (dD S) (by omega) (by omega) (fun r hr => (a5 r hr).2.1) r hq
  · exact row 3 (dZ S) (by omega) (by omega) (fun r hr => (a5 r hr).2.2) r hq
  · rw [hr 4 (by decide) (by omega), hr 5 (by decide) (by omega)]; exact a6 p hp
  · rw [hr 6 (by decide) (by omega)]; exact a7 j hj
def ca_X10_wear : (zQ × (Nat → zQ) × Nat × Nat × Nat × (Nat → Nat) × Nat × Int32 × Int32 × Int32) → List zV := fun (Q, Hs, c, p, k0, π, x, i, w, v) => [vR 19 0 x, vI i, vI w, vI v]
def cp_X10_wear : (zQ × (Nat → zQ) × Nat × Nat × Nat × (Nat → Nat) × Nat × Int32 × Int32 × Int32) → zH → Prop := fun (Q, Hs, c, p, k0, π, x, i, w, v) h => rpZ (Q, Hs, c, p, k0, π) x h
def cq_X10_wear : (zQ × (Nat → zQ) × Nat × Nat × Nat × (Nat → Nat) × Nat × Int32 × Int32 × Int32) → zH → Option zV → zH → Prop := fun (Q, Hs, c, p, k0, π, x, i, w, v) h r h' => gC i (dN Q.1) ∧ (gR w 0 2 ∧ okT w v) ∧ r = some (vI (rgv Q (cN i) (cN w))) ∧ rpZ ((aTr Q.1 (cN w) (cN i) v, Q.2.1, Q.2.2), hcn Q Hs, min (c + 1) 12, (p + 1) % 12, k0, π) x h' ∧ mf x h h'
def cx_X10_wear : (zQ × (Nat → zQ) × Nat × Nat × Nat × (Nat → Nat) × Nat × Int32 × Int32 × Int32) → zH → String → zH → Prop := fun (Q, Hs, c, p, k0, π, x, i, w, v) h E h' => (¬ gC i (dN Q.1) ∧ xNS x h E h') ∨ (gC i (dN Q.1) ∧ ¬ (gR w 0 2 ∧ okT w v) ∧ xIA x h E h')
theorem rc_X10_wear : ∀ x : (zQ × (Nat → zQ) × Nat × Nat × Nat × (Nat → Nat) × Nat × Int32 × Int32 × Int32), ∃ (j a : Nat) (As : List zV), ca_X10_wear x = vR (10 + 9) j a :: As := by
  rintro ⟨⟨S, K, M⟩, Hs, c, p, k0, π, x, i, w, v⟩
  exact ⟨_, _, _, rfl⟩
set_option maxHeartbeats 4000000 in
set_option maxRecDepth 100000 in
theorem m_X10_wear : zMx yX10_wear cX10_wear 6 (some .int) ({ frames := 9, cells := 3, slots := 18, locals := 147 } : Room) ((ca_X10_wear, cp_X10_wear, cq_X10_wear) : zC (zQ × (Nat → zQ) × Nat × Nat × Nat × (Nat → Nat) × Nat × Int32 × Int32 × Int32)) cx_X10_wear := by
  refine zMx_of (by decide) ?_
  rintro X Y ⟨⟨S, K, M⟩, Hs, c, p, k0, π, x, i, w, v⟩ h hZ O Ex hR
  have E := zEx_E Ex
  have B_0 := zr_aload_n (X := X) (Y := Y) (u := 0) (v := 0) O dX10_wear_0 rfl (zr_iload_n O dX10_wear_1 rfl (zr_aload_n O dX10_wear_2 rfl (zr_gR (ci := 9) (j := 0) (off := 0) (t := 16) (n := 0) O zc_9 (by decide) rfl tw_287 dX10_wear_3 (zr_gS (ci := 6) (j := 0) (off := 1) (t := 15) (n := 0) O zc_6 (by decide) rfl tw_172 dX10_wear_6 (zr_gI (ci := 5) (j := 0) O zc_5 (by decide) rfl tw_48 dX10_wear_9 (zr_xV (u' := 1) (v' := 6) (ci := 9) (n := 2) O Ex m_X10_needCounted (bn_X10_needCounted { frames := 0, cells := 0, slots := 0, locals := 0 } ⟨rfl, rfl⟩) vw_X10_needCounted tw_709 rc_X10_needCounted (zrx hR rfl rfl rfl rfl) (Nat.le_of_ble_eq_true rfl) (Nat.le_of_ble_eq_true rfl) (Nat.le_of_ble_eq_true rfl) (Nat.le_of_ble_eq_true rfl) dX10_wear_12 (zr_aload_n O dX10_wear_15 rfl (zr_iload_n O dX10_wear_16 rfl (zr_iconst (x := 0) O dX10_wear_17 rfl (zr_iconst (x := 2) O dX10_wear_18 rfl (zr_xV (u' := 2) (v' := 12) (ci := 9) (n := 3) O Ex m_X10_needBetween (bn_X10_needBetween { frames := 0, cells := 0, slots := 0, locals := 0 } ⟨rfl, rfl⟩) vw_X10_needBetween tw_457 rc_X10_needBetween (zrx hR rfl rfl rfl rfl) (Nat.le_of_ble_eq_true rfl) (Nat.le_of_ble_eq_true rfl) (Nat.le_of_ble_eq_true rfl) (Nat.le_of_ble_eq_true rfl) dX10_wear_19 (zr_aload_n O dX10_wear_22 rfl (zr_iload_n O dX10_wear_23 rfl (zr_iload_n O dX10_wear_24 rfl (zr_xV (u' := 3) (v' := 18) (ci := 9) (n := 2) O Ex m_X10_needTrait (bn_X10_needTrait { frames := 0, cells := 0, slots := 0, locals := 0 } ⟨rfl, rfl⟩) vw_X10_needTrait tw_733 rc_X10_needTrait (zrx hR rfl rfl rfl rfl) (Nat.le_of_ble_eq_true rfl) (Nat.le_of_ble_eq_true rfl) (Nat.le_of_ble_eq_true rfl) (Nat.le_of_ble_eq_true rfl) dX10_wear_25 (zr_aload_n O dX10_wear_28 rfl (zr_cV (ci := 9) (n := 0) O m_X10_remember (bn_X10_remember _ ⟨rfl, rfl⟩) vw_X10_remember tw_686 rc_X10_remember (zrx hR rfl rfl rfl rfl) dX10_wear_29 (zr_aload_n O dX10_wear_32 rfl (zr_gR (ci := 9) (j := 0) (off := 0) (t := 16) (n := 0) O zc_9 (by decide) rfl tw_287 dX10_wear_33 (zr_gS (ci := 6) (j := 0) (off := 1) (t := 15) (n := 0) O zc_6 (by decide) rfl tw_172 dX10_wear_36 (zr_iload_n O dX10_wear_39 rfl (zr_cV (ci := 5) (n := 1) O m_X6_traitRow (bn_X6_traitRow _ ⟨rfl, rfl⟩) vw_X6_traitRow tw_737 rc_X6_traitRow (zrx hR rfl rfl rfl rfl) dX10_wear_40 (zr_astore O dX10_wear_43 (zr_aload O dX10_wear_45 (zr_iload_n O dX10_wear_47 rfl (zr_iald O dX10_wear_48 (zr_istore O dX10_wear_49 (zr_aload O dX10_wear_51 (zr_iload_n O dX10_wear_53 rfl (zr_iload_n O dX10_wear_54 rfl (zr_iast O dX10_wear_55 (zr_iload O dX10_wear_56 (zr_ireturn O E (Nat.le_of_ble_eq_true rfl) (Nat.le_of_ble_eq_true rfl) dX10_wear_58)))))))))))))))))))))))))))))))))
  refine ⟨rfl, Nat.le_of_ble_eq_true rfl, _, B_0, ?_⟩
  obtain ⟨hN, n0⟩ := rpZ_N hZ
  have hk0 : k0 < 13 := hZ.1.2
  have hS : rpS S h (h.2.2 x 0 + 1) := hN.1.1
  have hN10 := hS.1.2
  refine ⟨(x, i, nI (dN S)), by rw [hS.1.1]; rfl, trivial, fun E h' hd => Or.inl hd, fun r h1 hq => ?_⟩
  obtain ⟨rfl, eh, g0⟩ := hq
  obtain rfl := eh.symm
  have g0 : gC i (dN S) := g0
  refine ⟨(x, w, 0, 2), rfl, trivial, fun E h' hd => Or.inr ⟨g0, fun z => hd.1 z.1, hd.2⟩, fun r h1 hq => ?_⟩
  obtain ⟨rfl, eh, g1⟩ := hq
  obtain rfl := eh.symm
  refine ⟨(x, w, v), rfl, trivial, fun E h' hd => Or.inr ⟨g0, fun z => hd.1 z.2, hd.2⟩, fun r h1 hq => ?_⟩
  obtain ⟨rfl, eh, g2⟩ := hq
  obtain rfl := eh.symm
  refine ⟨((S, K, M), Hs, c, p, k0, π, x), rfl, hZ, fun r h1 hq => ?_⟩
  obtain ⟨rfl, s1, x1, Z1⟩ := hq
  obtain ⟨a, rfl, ha, ea⟩ := cntx (by omega) g0
  obtain ⟨q, rfl, hq, eq⟩ := rngx (n := 2) (by decide) g1
  obtain ⟨hN1, n1⟩ := rpZ_N Z1
  have hQ1 : rpQ (S, K, M) h1 (stA x k0) := by rw [← n1]; exact hN1.1
  refine ⟨(stA x k0 + 1, q), by rw [n1]; rfl, by show q < 3; omega, fun r h2 hq2 => ?_⟩
  obtain ⟨rfl, eh⟩ := hq2
  obtain rfl := eh.symm
  obtain ⟨b1, b2, b3⟩ := hQ1.1.2.2.1 a ha
  refine ⟨a, rfl, by omega, a, rfl, by omega, g0, ⟨g1, g2⟩, zri ?_, ?_, ?_⟩
  · rw [ea, eq]
    show h1.1 (stA x k0 + 1 + (q + 1)) a = rgv (S, K, M) a q
    have hz : q = 0 ∨ q = 1 ∨ q = 2 := by omega
    rcases hz with e | e | e
    · rw [rgv, if_pos e, e]; exact b1
    · rw [rgv, if_neg (by omega), if_pos e, e]; exact b2
    · rw [rgv, if_neg (by omega), if_neg (by omega), if_pos e, e]; exact b3
  · rw [ea, eq]
    refine rpZ_upd Z1 (sm_I _ _ (by omega) (by omega)) ⟨?_, ?_, ?_⟩
    · exact rpS_trait q a v (by omega) (fun j hj hj2 => by rw [zsI_W]; exact zsW_n _ _ (by omega)) (by rw [zsI_W]; exact zsW_s _ _ _) hQ1.1
    · exact rpE_cg (by rw [zsI_W]; exact zsW_n _ _ (by omega)) (by rw [zsI_W]; exact zsW_n _ _ (by omega)) hQ1.2.1
    · exact rpL_cg (by rw [zsI_W]; exact zsW_n _ _ (by omega)) (by rw [zsI_W]; exact zsW_n _ _ (by omega)) (by rw [zsI_W]; exact zsW_n _ _ (by omega)) hQ1.2.2
  · exact mf_in ⟨s1, x1⟩ hk0 (sm_I _ _ (by omega) (by omega))
def ca_X10_enrol : (zQ × (Nat → zQ) × Nat × Nat × Nat × (Nat → Nat) × Nat × Int32) → List zV := fun (Q, Hs, c, p, k0, π, x, s) => [vR 19 0 x, vI s]
def cp_X10_enrol : (zQ × (Nat → zQ) × Nat × Nat × Nat × (Nat → Nat) × Nat × Int32) → zH → Prop := fun (Q, Hs, c, p, k0, π, x, s) h => rpZ (Q, Hs, c, p, k0, π) x h ∧ vS Q.1
def cq_X10_enrol : (zQ × (Nat → zQ) × Nat × Nat × Nat × (Nat → Nat) × Nat × Int32) → zH → Option zV → zH → Prop := fun (Q, Hs, c, p, k0, π, x, s) h r h' => 0 < nbk Q.1 ∧ gR s 0 (nI (2 ^ (nbk Q.1 * btR (dR Q.1)) - 1)) ∧ r = some (vI (nI (nbk Q.1))) ∧ rpZ ((Q.1, enr Q.1 (cN s), Q.2.2), hcn Q Hs, min (c + 1) 12, (p + 1) % 12, k0, π) x h' ∧ mf x h h'
def cx_X10_enrol : (zQ × (Nat → zQ) × Nat × Nat × Nat × (Nat → Nat) × Nat × Int32) → zH → String → zH → Prop := fun (Q, Hs, c, p, k0, π, x, s) h E h' => (nbk Q.1 = 0 ∧ xIS x h E h') ∨ (0 < nbk Q.1 ∧ ¬ gR s 0 (nI (2 ^ (nbk Q.1 * btR (dR Q.1)) - 1)) ∧ xIA x h E h')
theorem rc_X10_enrol : ∀ x : (zQ × (Nat → zQ) × Nat × Nat × Nat × (Nat → Nat) × Nat × Int32), ∃ (j a : Nat) (As : List zV), ca_X10_enrol x = vR (10 + 9) j a :: As := by
  rintro ⟨⟨S, K, M⟩, Hs, c, p, k0, π, x, s⟩
  exact ⟨_, _, _, rfl⟩
set_option maxHeartbeats 4000000 in
set_option maxRecDepth 100000 in
theorem m_X10_enrol : zMx yX10_enrol cX10_enrol 5 (some .int) ({ frames := 8, cells := 2, slots := 12, locals := 125 } : Room) ((ca_X10_enrol, cp_X10_enrol, cq_X10_enrol) : zC (zQ × (Nat → zQ) × Nat × Nat × Nat × (Nat → Nat) × Nat × Int32)) cx_X10_enrol := by
  refine zMx_of (by decide) ?_
  rintro X Y ⟨⟨S, K, M⟩, Hs, c, p, k0, π, x, s⟩ h ⟨hZ, hv⟩ O Ex hR
  have E := zEx_E Ex
  have hZ : rpZ ((S, K, M), Hs, c, p, k0, π) x h := hZ
  have hv : vS S := hv
  obtain ⟨hN, n0⟩ := rpZ_N hZ
  have hk0 : k0 < 13 := hZ.1.2
  have hS : rpS S h (h.2.2 x 0 + 1) := hN.1.1
  have hP28 := hS.2.1.2
  have hu := usd_lt hS.2.1.2
  have hb := nbk_le hv
  have t4 : h.1 (h.2.2 x 0 + 1 + 6) 4 = nI (dR S) := by rw [hS.2.2.2.2 4 (by decide)]; exact hv.2.2.2.2.2.1
  have epop : pop (usd S) = fb_ct (us S) (dP S) := pop_mk _ (by omega)
  have enb : bkc (dR S) (pop (usd S)) = nbk S := by rw [epop]; rfl
  have B_31 := zr_iload_n (X := X) (Y := Y) (u := 1) (v := 6) O dX10_enrol_31 rfl (zr_aload_n O dX10_enrol_32 rfl (zr_gR (ci := 9) (j := 0) (off := 0) (t := 16) (n := 0) O zc_9 (by decide) rfl tw_287 dX10_enrol_33 (zr_gS (ci := 6) (j := 0) (off := 1) (t := 15) (n := 0) O zc_6 (by decide) rfl tw_172 dX10_enrol_36 (zr_gS (ci := 5) (j := 7) (off := 6) (t := 1) (n := 5) O zc_5 (by decide) rfl tw_75 dX10_enrol_39 (zr_iconst (x := 4) O dX10_enrol_42 rfl (zr_iald O dX10_enrol_43 (zr_cI (zr_cS (n := 1) O m_X0_bitsOf (bn_X0_bitsOf _ ⟨rfl, rfl⟩) tw_779 tw_801 (zrx hR rfl rfl rfl rfl) dX10_enrol_44 (zr_imul O dX10_enrol_47 (zr_istore O dX10_enrol_48 (zr_aload_n O dX10_enrol_50 rfl (zr_iload_n O dX10_enrol_51 rfl (zr_iconst (x := 0) O dX10_enrol_52 rfl (zr_iconst (x := 1) O dX10_enrol_53 rfl (zr_iload O dX10_enrol_54 (zr_ishl O dX10_enrol_56 (zr_iconst (x := 1) O dX10_enrol_57 rfl (zr_isub O dX10_enrol_58 (zr_xV (u' := 2) (v' := 12) (ci := 9) (n := 3) O Ex m_X10_needBetween (bn_X10_needBetween { frames := 0, cells := 0, slots := 0, locals := 0 } ⟨rfl, rfl⟩) vw_X10_needBetween tw_457 rc_X10_needBetween (zrx hR rfl rfl rfl rfl) (Nat.le_of_ble_eq_true rfl) (Nat.le_of_ble_eq_true rfl) (Nat.le_of_ble_eq_true rfl) (Nat.le_of_ble_eq_true rfl) dX10_enrol_59 (zr_aload_n O dX10_enrol_62 rfl (zr_cV (ci := 9) (n := 0) O m_X10_remember (bn_X10_remember _ ⟨rfl, rfl⟩) vw_X10_remember tw_686 rc_X10_remember (zrx hR rfl rfl rfl rfl) dX10_enrol_63 (zr_aload_n O dX10_enrol_66 rfl (zr_gR (ci := 9) (j := 0) (off := 0) (t := 16) (n := 0) O zc_9 (by decide) rfl tw_287 dX10_enrol_67 (zr_gS (ci := 6) (j := 1) (off := 8) (t := 10) (n := 0) O zc_6 (by decide) rfl tw_175 dX10_enrol_70 (zr_aload_n O dX10_enrol_73 rfl (zr_gR (ci := 9) (j := 0) (off := 0) (t := 16) (n := 0) O zc_9 (by decide) rfl tw_287 dX10_enrol_74 (zr_gS (ci := 6) (j := 0) (off := 1) (t := 15) (n := 0) O zc_6 (by decide) rfl tw_172 dX10_enrol_77 (zr_iload_n O dX10_enrol_80 rfl (zr_iload_n O dX10_enrol_81 rfl (zr_iload_n O dX10_enrol_82 rfl (zr_cV (ci := 0) (n := 4) O m_X1_keep (bn_X1_keep _ ⟨rfl, rfl⟩) vw_X1_keep tw_802 rc_X1_keep (zrx hR rfl rfl rfl rfl) dX10_enrol_83 (zr_iload_n O dX10_enrol_86 rfl (zr_ireturn O E (Nat.le_of_ble_eq_true rfl) (Nat.le_of_ble_eq_true rfl) dX10_enrol_87)))))))))))))))))))))))))))))))))
  have C_31 : zSd X Y 1 6 31 (fun ls st h1 => ls = [some (vR 19 0 x), some (vI s), some (vI (nI (usd S))), some (vI (nI (nbk S))), none] ∧ st = [] ∧ h = h1 ∧ 0 < nbk S) := by
    refine zSd_weak B_31 (fun ls st h1 t => ?_)
    obtain ⟨rfl, rfl, rfl, h0⟩ := t
    have ebt : (1 : Int32) <<< (nI (nbk S) * nI (btR (dR S)) &&& 31) - 1 = nI (2 ^ (nbk S * btR (dR S)) - 1) := by
      rw [nI_mul]; exact nI_lo (by omega)
    refine ⟨4, rfl, by decide, dR S, by rw [t4]; rfl, hv.2.2.2.2.2.2, (x, s, 0, nI (2 ^ (nbk S * btR (dR S)) - 1)), ?_, trivial, fun E h' hd => Or.inr ⟨h0, hd.1, hd.2⟩, fun r h1 hq => ?_⟩
    · show [vR 19 0 x, vI s, vI 0, vI ((1 : Int32) <<< (nI (nbk S) * nI (btR (dR S)) &&& 31) - 1)] = _
      rw [ebt]; rfl
    obtain ⟨rfl, eh, g1⟩ := hq
    obtain rfl := eh.symm
    refine ⟨((S, K, M), Hs, c, p, k0, π, x), rfl, hZ, fun r h1 hq => ?_⟩
    obtain ⟨rfl, s1, x1, Z1⟩ := hq
    have hpw : 2 ^ (nbk S * btR (dR S)) ≤ 2 ^ 16 := Nat.pow_le_pow_right (by omega) hb.2.1
    have hp0 := Nat.two_pow_pos (nbk S * btR (dR S))
    obtain ⟨q, rfl, hq, eq⟩ := rngx (by omega) g1
    obtain ⟨hN1, n1⟩ := rpZ_N Z1
    have hQ1 : rpQ (S, K, M) h1 (stA x k0) := by rw [← n1]; exact hN1.1
    refine ⟨(S, stA x k0 + 8, stA x k0 + 1, q), by rw [n1]; rfl, ⟨hQ1.1, hv, h0, by show q < _; omega, by show stA x k0 + 8 + 2 ≤ stA x k0 + 1 ∨ stA x k0 + 1 + 7 ≤ stA x k0 + 8; omega⟩, fun r h2 hq2 => ?_⟩
    obtain ⟨rfl, s2, w2⟩ := hq2
    replace s2 : sm (stA x k0 + 8) 2 h1 h2 := s2
    refine ⟨h0, g1, rfl, ?_, ?_⟩
    · rw [eq]
      exact rpZ_upd Z1 (sm_mo s2 (by omega) (by omega)) ⟨rpS_sm s2 (by omega) hQ1.1, w2, rpL_sm s2 (by omega) hQ1.2.2⟩
    · exact mf_in ⟨s1, x1⟩ hk0 (sm_mo s2 (by omega) (by omega))
  have B_0 := zr_aload_n (X := X) (Y := Y) (u := 0) (v := 0) O dX10_enrol_0 rfl (zr_gR (ci := 9) (j := 0) (off := 0) (t := 16) (n := 0) O zc_9 (by decide) rfl tw_287 dX10_enrol_1 (zr_gS (ci := 6) (j := 0) (off := 1) (t := 15) (n := 0) O zc_6 (by decide) rfl tw_172 dX10_enrol_4 (zr_cI (zr_cV (ci := 5) (n := 0) O m_X6_usedPairs (bn_X6_usedPairs _ ⟨rfl, rfl⟩) vw_X6_usedPairs tw_749 rc_X6_usedPairs (zrx hR rfl rfl rfl rfl) dX10_enrol_7 (zr_istore_n O dX10_enrol_10 rfl (zr_aload_n O dX10_enrol_11 rfl (zr_gR (ci := 9) (j := 0) (off := 0) (t := 16) (n := 0) O zc_9 (by decide) rfl tw_287 dX10_enrol_12 (zr_gS (ci := 6) (j := 0) (off := 1) (t := 15) (n := 0) O zc_6 (by decide) rfl tw_172 dX10_enrol_15 (zr_iload_n O dX10_enrol_18 rfl (zr_cI (zr_cV (ci := 5) (n := 1) O m_X6_blockCount (bn_X6_blockCount _ ⟨rfl, rfl⟩) vw_X6_blockCount tw_762 rc_X6_blockCount (zrx hR rfl rfl rfl rfl) dX10_enrol_19 (zr_istore_n O dX10_enrol_22 rfl (zr_iload_n O dX10_enrol_23 rfl (zr_ifne (tgt := 31) O dX10_enrol_24 rfl (zSd_more C_31 (Nat.le_of_ble_eq_true rfl) (Nat.le_of_ble_eq_true rfl)) (zr_aload_n O dX10_enrol_27 rfl (zr_xV (u' := 1) (v' := 6) (ci := 9) (n := 0) O Ex m_X10_refuseState (bn_X10_refuseState { frames := 0, cells := 0, slots := 0, locals := 0 } ⟨rfl, rfl⟩) vw_X10_refuseState tw_781 rc_X10_refuseState (zrx hR rfl rfl rfl rfl) (Nat.le_of_ble_eq_true rfl) (Nat.le_of_ble_eq_true rfl) (Nat.le_of_ble_eq_true rfl) (Nat.le_of_ble_eq_true rfl) dX10_enrol_28 (C_31)))))))))))))))))
  refine ⟨rfl, Nat.le_of_ble_eq_true rfl, _, B_0, ?_⟩
  refine ⟨(S, h.2.2 x 0 + 1), rfl, ⟨hS, hv⟩, (S, h.2.2 x 0 + 1, usd S), rfl, ⟨hS, hv, by omega⟩, fun c => ?_, fun c => ?_⟩
  · replace c : ¬ nI (bkc (dR S) (pop (usd S))) = 0 := c
    rw [enb] at c
    refine ⟨?_, rfl, rfl, Nat.pos_of_ne_zero (fun z => c (by rw [z]; rfl))⟩
    show [_, _, _, some (vI (nI (bkc (dR S) (pop (usd S))))), _] = _
    rw [enb]; rfl
  · replace c : nI (bkc (dR S) (pop (usd S))) = 0 := c
    rw [enb] at c
    have hz := (nI_eq (b := 0) (by omega) (by omega)).mp c
    exact ⟨x, rfl, trivial, fun E h' hd => Or.inl ⟨hz, hd⟩, fun r h' hq => hq.elim⟩
def ca_X10_hear : (zQ × (Nat → zQ) × Nat × Nat × Nat × (Nat → Nat) × Nat × Int32) → List zV := fun (Q, Hs, c, p, k0, π, x, i) => [vR 19 0 x, vI i]
def cp_X10_hear : (zQ × (Nat → zQ) × Nat × Nat × Nat × (Nat → Nat) × Nat × Int32) → zH → Prop := fun (Q, Hs, c, p, k0, π, x, i) h => rpZ (Q, Hs, c, p, k0, π) x h ∧ vQ Q
def cq_X10_hear : (zQ × (Nat → zQ) × Nat × Nat × Nat × (Nat → Nat) × Nat × Int32) → zH → Option zV → zH → Prop := fun (Q, Hs, c, p, k0, π, x, i) h r h' => gC i (dP Q.1) ∧ r = some (vI (pb Q.1 (cN i))) ∧ rpZ ((Q.1, Q.2.1, gkp Q.2.2 (cN i) (decide (pb Q.1 (cN i) = 1))), hcn Q Hs, min (c + 1) 12, (p + 1) % 12, k0, π) x h' ∧ mf x h h'
def cx_X10_hear : (zQ × (Nat → zQ) × Nat × Nat × Nat × (Nat → Nat) × Nat × Int32) → zH → String → zH → Prop := fun (Q, Hs, c, p, k0, π, x, i) h E h' => ¬ gC i (dP Q.1) ∧ xNS x h E h'
theorem rc_X10_hear : ∀ x : (zQ × (Nat → zQ) × Nat × Nat × Nat × (Nat → Nat) × Nat × Int32), ∃ (j a : Nat) (As : List zV), ca_X10_hear x = vR (10 + 9) j a :: As := by
  rintro ⟨⟨S, K, M⟩, Hs, c, p, k0, π, x, i⟩
  exact ⟨_, _, _, rfl⟩
set_option maxHeartbeats 4000000 in
set_option maxRecDepth 100000 in
theorem m_X10_hear : zMx yX10_hear cX10_hear 3 (some .int) ({ frames := 8, cells := 1, slots := 6, locals := 124 } : Room) ((ca_X10_hear, cp_X10_hear, cq_X10_hear) : zC (zQ × (Nat → zQ) × Nat × Nat × Nat × (Nat → Nat) × Nat × Int32)) cx_X10_hear := by
  refine zMx_of (by decide) ?_
  rintro X Y ⟨⟨S, K, M⟩, Hs, c, p, k0, π, x, i⟩ h ⟨hZ, hv, -, hj, hG⟩ O Ex hR
  have E := zEx_E Ex
  have B_0 := zr_aload_n (X := X) (Y := Y) (u := 0) (v := 0) O dX10_hear_0 rfl (zr_iload_n O dX10_hear_1 rfl (zr_aload_n O dX10_hear_2 rfl (zr_gR (ci := 9) (j := 0) (off := 0) (t := 16) (n := 0) O zc_9 (by decide) rfl tw_287 dX10_hear_3 (zr_gS (ci := 6) (j := 0) (off := 1) (t := 15) (n := 0) O zc_6 (by decide) rfl tw_172 dX10_hear_6 (zr_gI (ci := 5) (j := 4) O zc_5 (by decide) rfl tw_55 dX10_hear_9 (zr_xV (u' := 1) (v' := 6) (ci := 9) (n := 2) O Ex m_X10_needCounted (bn_X10_needCounted { frames := 0, cells := 0, slots := 0, locals := 0 } ⟨rfl, rfl⟩) vw_X10_needCounted tw_709 rc_X10_needCounted (zrx hR rfl rfl rfl rfl) (Nat.le_of_ble_eq_true rfl) (Nat.le_of_ble_eq_true rfl) (Nat.le_of_ble_eq_true rfl) (Nat.le_of_ble_eq_true rfl) dX10_hear_12 (zr_aload_n O dX10_hear_15 rfl (zr_cV (ci := 9) (n := 0) O m_X10_remember (bn_X10_remember _ ⟨rfl, rfl⟩) vw_X10_remember tw_686 rc_X10_remember (zrx hR rfl rfl rfl rfl) dX10_hear_16 (zr_aload_n O dX10_hear_19 rfl (zr_gR (ci := 9) (j := 0) (off := 0) (t := 16) (n := 0) O zc_9 (by decide) rfl tw_287 dX10_hear_20 (zr_gS (ci := 6) (j := 0) (off := 1) (t := 15) (n := 0) O zc_6 (by decide) rfl tw_172 dX10_hear_23 (zr_iload_n O dX10_hear_26 rfl (zr_cI (zr_cV (ci := 5) (n := 1) O m_X6_bitOf (bn_X6_bitOf _ ⟨rfl, rfl⟩) vw_X6_bitOf tw_418 rc_X6_bitOf (zrx hR rfl rfl rfl rfl) dX10_hear_27 (zr_istore_n O dX10_hear_30 rfl (zr_aload_n O dX10_hear_31 rfl (zr_gR (ci := 9) (j := 0) (off := 0) (t := 16) (n := 0) O zc_9 (by decide) rfl tw_287 dX10_hear_32 (zr_gS (ci := 6) (j := 2) (off := 10) (t := 12) (n := 0) O zc_6 (by decide) rfl tw_177 dX10_hear_35 (zr_iload_n O dX10_hear_38 rfl (zr_iload_n O dX10_hear_39 rfl (zr_cV (ci := 2) (n := 2) O m_X3_keep (bn_X3_keep _ ⟨rfl, rfl⟩) vw_X3_keep tw_426 rc_X3_keep (zrx hR rfl rfl rfl rfl) dX10_hear_40 (zr_iload_n O dX10_hear_43 rfl (zr_ireturn O E (Nat.le_of_ble_eq_true rfl) (Nat.le_of_ble_eq_true rfl) dX10_hear_44)))))))))))))))))))))))
  refine ⟨rfl, Nat.le_of_ble_eq_true rfl, _, B_0, ?_⟩
  have hZ : rpZ ((S, K, M), Hs, c, p, k0, π) x h := hZ
  have hG : ∀ i, i < gN M → gP M i < dP S := hG
  obtain ⟨hN, n0⟩ := rpZ_N hZ
  have hk0 : k0 < 13 := hZ.1.2
  have hS : rpS S h (h.2.2 x 0 + 1) := hN.1.1
  have hP28 := hS.2.1.2
  refine ⟨(x, i, nI (dP S)), by rw [hS.2.1.1]; rfl, trivial, fun E h' hd => hd, fun r h1 hq => ?_⟩
  obtain ⟨rfl, eh, g0⟩ := hq
  obtain rfl := eh.symm
  have g0 : gC i (dP S) := g0
  refine ⟨((S, K, M), Hs, c, p, k0, π, x), rfl, hZ, fun r h1 hq => ?_⟩
  obtain ⟨rfl, s1, x1, Z1⟩ := hq
  obtain ⟨a, rfl, ha, ea⟩ := cntx (by omega) g0
  obtain ⟨hN1, n1⟩ := rpZ_N Z1
  have hQ1 : rpQ (S, K, M) h1 (stA x k0) := by rw [← n1]; exact hN1.1
  have hn : gH M a = true ∨ gN M < 28 := by
    cases hb : gH M a with
    | true => exact Or.inl rfl
    | false => exact Or.inr (Nat.lt_of_lt_of_le (g_more hj hG ha hb) hP28)
  refine ⟨(S, stA x k0 + 1, a), by rw [n1]; rfl, ⟨hQ1.1, ha⟩, (M, stA x k0 + 10, a, decide (pb S a = 1)), ?_, ⟨hQ1.2.2, by show a < 28; omega, hn⟩, fun r h2 hq2 => ?_⟩
  · show [vR 12 0 (h1.2.2 x 0 + 10), vI (nI a), vI (pb S a)] = [vR 12 0 (stA x k0 + 10), vI (nI a), vI (bI (decide (pb S a = 1)))]
    rw [n1, ← pb_bb]
  · obtain ⟨rfl, ⟨f, g, e2⟩, w2⟩ := hq2
    replace e2 : h2 = zsW (zsW h1 (stA x k0 + 10 + 1) g) (stA x k0 + 10) f := e2
    have s2 : sm (stA x k0 + 10) 3 h1 h2 := by rw [e2]; exact sm_tr (sm_W _ _ (by omega) (by omega)) (sm_W _ _ (by omega) (by omega))
    refine ⟨g0, by rw [ea]; rfl, ?_, mf_in ⟨s1, x1⟩ hk0 (sm_mo s2 (by omega) (by omega))⟩
    rw [ea]
    exact rpZ_upd Z1 (sm_mo s2 (by omega) (by omega)) ⟨rpS_sm s2 (by omega) hQ1.1, (rpQ_cg (Q := (S, K, M)) (h := h1) (h' := h1) (s := stA x k0) (fun q _ _ => rfl) hQ1 |> fun z => rpE_cg (s2.1 _ (by omega)) (s2.1 _ (by omega)) z.2.1), w2⟩
/-- the listener after some epochs, and the last epoch's wrong guesses -/
def trW (S : zD) (M : zG) : Nat → Int32
  | 0 => 0
  | n + 1 => nI (lrw S M n)
def ca_X10_train : (zQ × (Nat → zQ) × Nat × Nat × Nat × (Nat → Nat) × Nat × Int32) → List zV := fun (Q, Hs, c, p, k0, π, x, e) => [vR 19 0 x, vI e]
def cp_X10_train : (zQ × (Nat → zQ) × Nat × Nat × Nat × (Nat → Nat) × Nat × Int32) → zH → Prop := fun (Q, Hs, c, p, k0, π, x, e) h => rpZ (Q, Hs, c, p, k0, π) x h ∧ vQ Q
def cq_X10_train : (zQ × (Nat → zQ) × Nat × Nat × Nat × (Nat → Nat) × Nat × Int32) → zH → Option zV → zH → Prop := fun (Q, Hs, c, p, k0, π, x, e) h r h' => gR e 1 50 ∧ r = some (vI (trW Q.1 Q.2.2 (cN e))) ∧ rpZ ((Q.1, Q.2.1, lrW Q.1 Q.2.2 (cN e)), hcn Q Hs, min (c + 1) 12, (p + 1) % 12, k0, π) x h' ∧ mf x h h'
def cx_X10_train : (zQ × (Nat → zQ) × Nat × Nat × Nat × (Nat → Nat) × Nat × Int32) → zH → String → zH → Prop := fun (Q, Hs, c, p, k0, π, x, e) h E h' => ¬ gR e 1 50 ∧ xIA x h E h'
theorem rc_X10_train : ∀ x : (zQ × (Nat → zQ) × Nat × Nat × Nat × (Nat → Nat) × Nat × Int32), ∃ (j a : Nat) (As : List zV), ca_X10_train x = vR (10 + 9) j a :: As := by
  rintro ⟨⟨S, K, M⟩, Hs, c, p, k0, π, x, e⟩
  exact ⟨_, _, _, rfl⟩
set_option maxHeartbeats 4000000 in
set_option maxRecDepth 100000 in
theorem m_X10_train : zMx yX10_train cX10_train 4 (some .int) ({ frames := 8, cells := 1, slots := 6, locals := 125 } : Room) ((ca_X10_train, cp_X10_train, cq_X10_train) : zC (zQ × (Nat → zQ) × Nat × Nat × Nat × (Nat → Nat) × Nat × Int32)) cx_X10_train := by
  refine zMx_of (by decide) ?_
  rintro X Y ⟨⟨S, K, M⟩, Hs, c, p, k0, π, x, e⟩ h ⟨hZ, hv, -, hj, hG⟩ O Ex hR
  have E := zEx_E Ex
  have hZ : rpZ ((S, K, M), Hs, c, p, k0, π) x h := hZ
  have hG : ∀ i, i < gN M → gP M i < dP S := hG
  have hk0 : k0 < 13 := hZ.1.2
  have B_45 := zr_iload_n (X := X) (Y := Y) (u := 1) (v := 6) O dX10_train_45 rfl (zr_ireturn O E (Nat.le_of_ble_eq_true rfl) (Nat.le_of_ble_eq_true rfl) dX10_train_46)
  have L_16 : ∀ nn : Nat, zSd X Y 1 6 16 ((fun k ls st h1 => ∃ (n q : Nat) (y2 y3 : Int32) (L : zG), k = q - n ∧ n ≤ q ∧ ls = [some (vR 19 0 x), some (vI e), some (vI y2), some (vI y3)] ∧ y2 = trW S M n ∧ y3 = nI n ∧ st = [] ∧ L = lrW S M n ∧ rpZ ((S, K, L), hcn (S, K, M) Hs, min (c + 1) 12, (p + 1) % 12, k0, π) x h1 ∧ mf x h h1 ∧ e = nI q ∧ 1 ≤ q ∧ q ≤ 50 : Nat → zT) nn) := by
    refine zSd_loop (fun nn ih => ?_)
    have B_16 := zr_iload_n (X := X) (Y := Y) (u := 1) (v := 6) O dX10_train_16 rfl (zr_iload_n O dX10_train_17 rfl (zr_icge (tgt := 45) O dX10_train_18 rfl B_45 (zr_aload_n O dX10_train_21 rfl (zr_gR (ci := 9) (j := 0) (off := 0) (t := 16) (n := 0) O zc_9 (by decide) rfl tw_287 dX10_train_22 (zr_gS (ci := 6) (j := 2) (off := 10) (t := 12) (n := 0) O zc_6 (by decide) rfl tw_177 dX10_train_25 (zr_aload_n O dX10_train_28 rfl (zr_gR (ci := 9) (j := 0) (off := 0) (t := 16) (n := 0) O zc_9 (by decide) rfl tw_287 dX10_train_29 (zr_gS (ci := 6) (j := 0) (off := 1) (t := 15) (n := 0) O zc_6 (by decide) rfl tw_172 dX10_train_32 (zr_cV (ci := 2) (n := 1) O m_X3_learn (bn_X3_learn _ ⟨rfl, rfl⟩) vw_X3_learn tw_843 rc_X3_learn (zrx hR rfl rfl rfl rfl) dX10_train_35 (zr_istore_n O dX10_train_38 rfl (zr_iinc (c := 1) O dX10_train_39 rfl (zr_goto (tgt := 16) O dX10_train_42 rfl ih))))))))))))
    refine zSd_weak B_16 (fun ls st h1 t => ?_)
    obtain ⟨n, q, y2, y3, L, rfl, hn, rfl, rfl, rfl, rfl, eL, Z1, m1, rfl, hq1, hq2⟩ := t
    have eq : cN (nI q) = q := nI_clamp (by omega)
    have g1 : gR (nI q) 1 50 := ⟨nI_le (a := 1) hq1 (by omega), nI_le (b := 50) hq2 (by decide)⟩
    refine ⟨fun cq => ?_, fun cq => ?_⟩
    · have := (nI_leI (by omega) (by omega)).mp cq
      have hn2 : n = q := by omega
      subst hn2
      refine ⟨g1, by rw [eq], ?_, m1⟩
      rw [eq]
      rw [eL] at Z1
      exact Z1
    · have hn2 : n < q := Nat.not_le.mp (fun z => cq ((nI_leI (by omega) (by omega)).mpr z))
      obtain ⟨hN1, n1⟩ := rpZ_N Z1
      have hQ1 : rpQ (S, K, L) h1 (stA x k0) := by rw [← n1]; exact hN1.1
      obtain ⟨w1, w2, w3⟩ := lrW_3 S M n
      rw [← eL] at w1 w2 w3
      have hj1 : gInj L := by unfold gInj; rw [w1, w2]; exact hj
      have hG1 : ∀ i, i < gN L → gP L i < dP S := by rw [w1, w2]; exact hG
      refine ⟨(S, L, stA x k0 + 10, stA x k0 + 1), by rw [n1]; rfl, ⟨hQ1.2.2, hj1, hQ1.1, hG1, by show stA x k0 + 10 + 3 ≤ stA x k0 + 1 ∨ stA x k0 + 1 + 7 ≤ stA x k0 + 10; omega⟩, fun r h2 hq3 => ?_⟩
      obtain ⟨rfl, f, e2, hf⟩ := hq3
      replace e2 : h2 = zsW h1 (stA x k0 + 10 + 2) f := e2
      replace hf : ∀ r, r < 10 → f r = (lrn S L (gN L)).1 r := hf
      have s2 : sm (stA x k0 + 10) 3 h1 h2 := by rw [e2]; exact sm_W _ _ (by omega) (by omega)
      have eL2 : (gN M, gP M, gB M, (lrn S L (gN L)).1) = lrW S M (n + 1) := by rw [lrW, eL, (lrW_3 S M n).1]
      refine ⟨q - (n + 1), by omega, n + 1, q, _, _, (gN M, gP M, gB M, (lrn S L (gN L)).1), rfl, by omega, rfl, ?_, nI_1 n, rfl, eL2, ?_, mf_in m1 hk0 (sm_mo s2 (by omega) (by omega)), rfl, hq1, hq2⟩
      · show nI (lrn S L (gN L)).2 = nI (lrw S M n)
        rw [lrw, eL, (lrW_3 S M n).1]
      · refine rpZ_upd Z1 (sm_mo s2 (by omega) (by omega)) ⟨rpS_sm s2 (by omega) hQ1.1, rpE_cg (s2.1 _ (by omega)) (s2.1 _ (by omega)) hQ1.2.1, ?_⟩
        rw [e2]
        exact rpL_w (M := (gN M, gP M, gB M, (lrn S L (gN L)).1)) w1.symm w2.symm w3.symm hf hQ1.2.2
  have B_16 := zSd_any L_16
  have B_0 := zr_aload_n (X := X) (Y := Y) (u := 0) (v := 0) O dX10_train_0 rfl (zr_iload_n O dX10_train_1 rfl (zr_iconst (x := 1) O dX10_train_2 rfl (zr_bipush (x := (50)) O dX10_train_3 (by decide) (zr_xV (u' := 1) (v' := 6) (ci := 9) (n := 3) O Ex m_X10_needBetween (bn_X10_needBetween { frames := 0, cells := 0, slots := 0, locals := 0 } ⟨rfl, rfl⟩) vw_X10_needBetween tw_457 rc_X10_needBetween (zrx hR rfl rfl rfl rfl) (Nat.le_of_ble_eq_true rfl) (Nat.le_of_ble_eq_true rfl) (Nat.le_of_ble_eq_true rfl) (Nat.le_of_ble_eq_true rfl) dX10_train_5 (zr_aload_n O dX10_train_8 rfl (zr_cV (ci := 9) (n := 0) O m_X10_remember (bn_X10_remember _ ⟨rfl, rfl⟩) vw_X10_remember tw_686 rc_X10_remember (zrx hR rfl rfl rfl rfl) dX10_train_9 (zr_iconst (x := 0) O dX10_train_12 rfl (zr_istore_n O dX10_train_13 rfl (zr_iconst (x := 0) O dX10_train_14 rfl (zr_istore_n O dX10_train_15 rfl (B_16)))))))))))
  refine ⟨rfl, Nat.le_of_ble_eq_true rfl, _, B_0, ?_⟩
  refine ⟨(x, e, 1, 50), rfl, trivial, fun E h' hd => hd, fun r h1 hq => ?_⟩
  obtain ⟨rfl, eh, g1⟩ := hq
  obtain rfl := eh.symm
  have g1 : gR e 1 50 := g1
  have g0 : gR e 0 (nI 50) := ⟨Int32.le_trans (by decide) g1.1, g1.2⟩
  obtain ⟨q, rfl, hq2, eq⟩ := rngx (n := 50) (by decide) g0
  have hq1 : 1 ≤ q := (nI_leI (a := 1) (by omega) (by omega)).mp g1.1
  refine ⟨((S, K, M), Hs, c, p, k0, π, x), rfl, hZ, fun r h1 hq => ?_⟩
  obtain ⟨rfl, s1, x1, Z1⟩ := hq
  exact ⟨q - 0, 0, q, _, _, M, rfl, Nat.zero_le _, rfl, rfl, rfl, rfl, rfl, Z1, ⟨s1, x1⟩, rfl, hq1, hq2⟩
/-- a helper bit turned -/
def tnE (K : zE) (k : Nat) : zE := (eN K, eP K, eR K, eK K, eB K, eH K ^^^ 2 ^ k, eG K, eS K, eC K)
theorem rpE_tn {K : zE} {h h' : zH} {e k : Nat} (hk : k < eN K) (h0 : h'.1 e = va_up (h.1 e) 5 (nI (eH K ^^^ 2 ^ k))) (h1 : h'.1 (e + 1) = h.1 (e + 1)) (hE : rpE K h e) : rpE (tnE K k) h' e := by
  have hn : 0 < eN K := by omega
  obtain ⟨a1, ⟨v1, v2⟩, a2⟩ := hE
  obtain ⟨u1, u2, u3, u4, ⟨u5, u6, u7⟩, u8, u9⟩ := v2 hn
  obtain ⟨p1, ⟨b1, b2⟩, ⟨b3, b4, b5⟩, b6, b7⟩ := a2 hn
  have hx : eH K ^^^ 2 ^ k < 2 ^ eN K := Nat.xor_lt_two_pow u6 (Nat.pow_lt_pow_right (by omega) hk)
  refine ⟨by rw [h0]; exact a1, ⟨v1, fun _ => ⟨u1, u2, u3, u4, ⟨u5, hx, u7⟩, u8, u9⟩⟩, fun _ => ⟨fun i hi => by rw [h1]; exact p1 i hi, ⟨by rw [h0]; exact b1, by rw [h0]; exact b2⟩, ⟨by rw [h0]; exact b3, by rw [h0]; rfl, by rw [h0]; exact b5⟩, by rw [h0]; exact b6, by rw [h0]; exact b7⟩⟩
def ca_X10_turn : (zQ × (Nat → zQ) × Nat × Nat × Nat × (Nat → Nat) × Nat × Int32) → List zV := fun (Q, Hs, c, p, k0, π, x, i) => [vR 19 0 x, vI i]
def cp_X10_turn : (zQ × (Nat → zQ) × Nat × Nat × Nat × (Nat → Nat) × Nat × Int32) → zH → Prop := fun (Q, Hs, c, p, k0, π, x, i) h => rpZ (Q, Hs, c, p, k0, π) x h
def cq_X10_turn : (zQ × (Nat → zQ) × Nat × Nat × Nat × (Nat → Nat) × Nat × Int32) → zH → Option zV → zH → Prop := fun (Q, Hs, c, p, k0, π, x, i) h r h' => 0 < eN Q.2.1 ∧ gC i (eN Q.2.1) ∧ r = some (vI (bI ((eH Q.2.1 ^^^ 2 ^ cN i).testBit (cN i)))) ∧ rpZ ((Q.1, tnE Q.2.1 (cN i), Q.2.2), hcn Q Hs, min (c + 1) 12, (p + 1) % 12, k0, π) x h' ∧ mf x h h'
def cx_X10_turn : (zQ × (Nat → zQ) × Nat × Nat × Nat × (Nat → Nat) × Nat × Int32) → zH → String → zH → Prop := fun (Q, Hs, c, p, k0, π, x, i) h E h' => (eN Q.2.1 = 0 ∧ xIS x h E h') ∨ (0 < eN Q.2.1 ∧ ¬ gC i (eN Q.2.1) ∧ xNS x h E h')
theorem rc_X10_turn : ∀ x : (zQ × (Nat → zQ) × Nat × Nat × Nat × (Nat → Nat) × Nat × Int32), ∃ (j a : Nat) (As : List zV), ca_X10_turn x = vR (10 + 9) j a :: As := by
  rintro ⟨⟨S, K, M⟩, Hs, c, p, k0, π, x, i⟩
  exact ⟨_, _, _, rfl⟩
set_option maxHeartbeats 4000000 in
set_option maxRecDepth 100000 in
theorem m_X10_turn : zMx yX10_turn cX10_turn 2 (some .int) ({ frames := 8, cells := 2, slots := 12, locals := 124 } : Room) ((ca_X10_turn, cp_X10_turn, cq_X10_turn) : zC (zQ × (Nat → zQ) × Nat × Nat × Nat × (Nat → Nat) × Nat × Int32)) cx_X10_turn := by
  refine zMx_of (by decide) ?_
  rintro X Y ⟨⟨S, K, M⟩, Hs, c, p, k0, π, x, i⟩ h hZ O Ex hR
  have E := zEx_E Ex
  have B_0 := zr_aload_n (X := X) (Y := Y) (u := 0) (v := 0) O dX10_turn_0 rfl (zr_xV (u' := 1) (v' := 6) (ci := 9) (n := 0) O Ex m_X10_needEnrolled (bn_X10_needEnrolled { frames := 0, cells := 0, slots := 0, locals := 0 } ⟨rfl, rfl⟩) vw_X10_needEnrolled tw_859 rc_X10_needEnrolled (zrx hR rfl rfl rfl rfl) (Nat.le_of_ble_eq_true rfl) (Nat.le_of_ble_eq_true rfl) (Nat.le_of_ble_eq_true rfl) (Nat.le_of_ble_eq_true rfl) dX10_turn_1 (zr_aload_n O dX10_turn_4 rfl (zr_iload_n O dX10_turn_5 rfl (zr_aload_n O dX10_turn_6 rfl (zr_gR (ci := 9) (j := 0) (off := 0) (t := 16) (n := 0) O zc_9 (by decide) rfl tw_287 dX10_turn_7 (zr_gS (ci := 6) (j := 1) (off := 8) (t := 10) (n := 0) O zc_6 (by decide) rfl tw_175 dX10_turn_10 (zr_gI (ci := 0) (j := 0) O zc_0 (by decide) rfl tw_103 dX10_turn_13 (zr_xV (u' := 2) (v' := 12) (ci := 9) (n := 2) O Ex m_X10_needCounted (bn_X10_needCounted { frames := 0, cells := 0, slots := 0, locals := 0 } ⟨rfl, rfl⟩) vw_X10_needCounted tw_709 rc_X10_needCounted (zrx hR rfl rfl rfl rfl) (Nat.le_of_ble_eq_true rfl) (Nat.le_of_ble_eq_true rfl) (Nat.le_of_ble_eq_true rfl) (Nat.le_of_ble_eq_true rfl) dX10_turn_16 (zr_aload_n O dX10_turn_19 rfl (zr_cV (ci := 9) (n := 0) O m_X10_remember (bn_X10_remember _ ⟨rfl, rfl⟩) vw_X10_remember tw_686 rc_X10_remember (zrx hR rfl rfl rfl rfl) dX10_turn_20 (zr_aload_n O dX10_turn_23 rfl (zr_gR (ci := 9) (j := 0) (off := 0) (t := 16) (n := 0) O zc_9 (by decide) rfl tw_287 dX10_turn_24 (zr_gS (ci := 6) (j := 1) (off := 8) (t := 10) (n := 0) O zc_6 (by decide) rfl tw_175 dX10_turn_27 (zr_dup O dX10_turn_30 (zr_gI (ci := 0) (j := 5) O zc_0 (by decide) rfl tw_119 dX10_turn_31 (zr_iconst (x := 1) O dX10_turn_34 rfl (zr_iload_n O dX10_turn_35 rfl (zr_ishl O dX10_turn_36 (zr_ixor O dX10_turn_37 (zr_pI (ci := 0) (j := 5) O zc_0 (by decide) rfl rfl rfl tw_119 dX10_turn_38 (zr_aload_n O dX10_turn_41 rfl (zr_gR (ci := 9) (j := 0) (off := 0) (t := 16) (n := 0) O zc_9 (by decide) rfl tw_287 dX10_turn_42 (zr_gS (ci := 6) (j := 1) (off := 8) (t := 10) (n := 0) O zc_6 (by decide) rfl tw_175 dX10_turn_45 (zr_gI (ci := 0) (j := 5) O zc_0 (by decide) rfl tw_119 dX10_turn_48 (zr_iload_n O dX10_turn_51 rfl (zr_cI (zr_cS (n := 2) O m_X10_bitIn (bn_X10_bitIn _ ⟨rfl, rfl⟩) tw_374 tw_867 (zrx hR rfl rfl rfl rfl) dX10_turn_52 (zr_ireturn O E (Nat.le_of_ble_eq_true rfl) (Nat.le_of_ble_eq_true rfl) dX10_turn_55))))))))))))))))))))))))))))
  refine ⟨rfl, Nat.le_of_ble_eq_true rfl, _, B_0, ?_⟩
  have hZ : rpZ ((S, K, M), Hs, c, p, k0, π) x h := hZ
  obtain ⟨hN, n0⟩ := rpZ_N hZ
  have hk0 : k0 < 13 := hZ.1.2
  have hE : rpE K h (h.2.2 x 0 + 8) := hN.1.2.1
  have h28 := hE.2.1.1
  refine ⟨((S, K, M), x), rfl, hN, fun E h' hd => Or.inl hd, fun r h1 hq => ?_⟩
  obtain ⟨rfl, eh, h0⟩ := hq
  obtain rfl := eh.symm
  have h0 : 0 < eN K := h0
  refine ⟨(x, i, nI (eN K)), by rw [hE.1]; rfl, trivial, fun E h' hd => Or.inr ⟨h0, hd.1, hd.2⟩, fun r h1 hq => ?_⟩
  obtain ⟨rfl, eh, g0⟩ := hq
  obtain rfl := eh.symm
  have g0 : gC i (eN K) := g0
  refine ⟨((S, K, M), Hs, c, p, k0, π, x), rfl, hZ, fun r h1 hq => ?_⟩
  obtain ⟨rfl, s1, x1, Z1⟩ := hq
  obtain ⟨a, rfl, ha, ea⟩ := cntx (by omega) g0
  obtain ⟨hN1, n1⟩ := rpZ_N Z1
  have hQ1 : rpQ (S, K, M) h1 (stA x k0) := by rw [← n1]; exact hN1.1
  have e5 : h1.1 (stA x k0 + 8) 5 = nI (eH K) := (hQ1.2.1.2.2 h0).2.2.1.2.1
  have ex : h1.1 (h1.2.2 x 0 + 8) 5 ^^^ ((1 : Int32) <<< (nI a &&& 31)) = nI (eH K ^^^ 2 ^ a) := by rw [n1, e5, nI_pow (by omega), fb_xorI]
  have hlt : eH K ^^^ 2 ^ a < 2 ^ 28 := Nat.xor_lt_two_pow (vE_b hE.2.1 h0).2.1 (Nat.pow_lt_pow_right (by omega) (by omega))
  obtain ⟨h2, e2⟩ : ∃ h2 : zH, h2 = zsI h1 (stA x k0 + 8) 5 (nI (eH K ^^^ 2 ^ a)) := ⟨_, rfl⟩
  have s2 : sm (stA x k0 + 8) 1 h1 h2 := by rw [e2]; exact sm_I _ _ (by omega) (by omega)
  have eA : zsI h1 (h1.2.2 x 0 + 8) 5 (h1.1 (h1.2.2 x 0 + 8) 5 ^^^ ((1 : Int32) <<< (nI a &&& 31))) = h2 := by rw [ex, e2, n1]
  have n2 : h2.2.2 x 0 = stA x k0 := by rw [s2.2]; exact n1
  have f5 : h2.1 (stA x k0 + 8) 5 = nI (eH K ^^^ 2 ^ a) := by rw [e2, zsI_W, zsW_s, zup_s]
  show zi_cI _ _ _ _ _ _ _ _
  rw [eA]
  refine ⟨(nI (eH K ^^^ 2 ^ a), nI a), by rw [n2, f5]; rfl, trivial, h0, g0, zri ?_, ?_, mf_in ⟨s1, x1⟩ hk0 (sm_mo s2 (by omega) (by omega))⟩
  · show (nI (eH K ^^^ 2 ^ a) >>> (nI a &&& 31)) &&& 1 = bI ((eH K ^^^ 2 ^ cN (nI a)).testBit (cN (nI a)))
    rw [ea, bI_in (by omega) (by omega)]
  · rw [ea]
    refine rpZ_upd Z1 (sm_mo s2 (by omega) (by omega)) ⟨rpS_sm s2 (by omega) hQ1.1, rpE_tn ha ?_ ?_ hQ1.2.1, rpL_sm s2 (by omega) hQ1.2.2⟩
    · rw [e2, zsI_W, zsW_s]
    · exact s2.1 _ (by omega)

