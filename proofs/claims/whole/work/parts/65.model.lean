theorem dX11_maySet_105 : decode cX11_maySet 105 = .ok (.iconst 0, 1) := by decide +kernel
theorem dX11_maySet_106 : decode cX11_maySet 106 = .ok (.ireturn, 1) := by decide +kernel
theorem dX11_maySet_104 : decode cX11_maySet 104 = .ok (.ireturn, 1) := by decide +kernel
theorem dX11_maySet_103 : decode cX11_maySet 103 = .ok (.iconst 0, 1) := by decide +kernel
theorem dX11_maySet_99 : decode cX11_maySet 99 = .ok (.iconst 1, 1) := by decide +kernel
theorem dX11_maySet_100 : decode cX11_maySet 100 = .ok (.goto 4, 3) := by decide +kernel
theorem dX11_maySet_78 : decode cX11_maySet 78 = .ok (.iload_n 2, 1) := by decide +kernel
theorem dX11_maySet_79 : decode cX11_maySet 79 = .ok (.ifCond .eq 20, 3) := by decide +kernel
theorem dX11_maySet_82 : decode cX11_maySet 82 = .ok (.iload_n 2, 1) := by decide +kernel
theorem dX11_maySet_83 : decode cX11_maySet 83 = .ok (.iconst 1, 1) := by decide +kernel
theorem dX11_maySet_84 : decode cX11_maySet 84 = .ok (.bipush 7, 2) := by decide +kernel
theorem dX11_maySet_86 : decode cX11_maySet 86 = .ok (.invokestatic 173, 3) := by decide +kernel
theorem dX11_maySet_89 : decode cX11_maySet 89 = .ok (.ifCond .eq 14, 3) := by decide +kernel
theorem dX11_maySet_92 : decode cX11_maySet 92 = .ok (.iload_n 2, 1) := by decide +kernel
theorem dX11_maySet_93 : decode cX11_maySet 93 = .ok (.iconst 2, 1) := by decide +kernel
theorem dX11_maySet_94 : decode cX11_maySet 94 = .ok (.irem, 1) := by decide +kernel
theorem dX11_maySet_95 : decode cX11_maySet 95 = .ok (.iconst 1, 1) := by decide +kernel
theorem dX11_maySet_96 : decode cX11_maySet 96 = .ok (.if_icmp .ne 7, 3) := by decide +kernel
theorem dX11_maySet_71 : decode cX11_maySet 71 = .ok (.iload_n 2, 1) := by decide +kernel
theorem dX11_maySet_72 : decode cX11_maySet 72 = .ok (.iconst 0, 1) := by decide +kernel
theorem dX11_maySet_73 : decode cX11_maySet 73 = .ok (.iconst 1, 1) := by decide +kernel
theorem dX11_maySet_74 : decode cX11_maySet 74 = .ok (.invokestatic 173, 3) := by decide +kernel
theorem dX11_maySet_77 : decode cX11_maySet 77 = .ok (.ireturn, 1) := by decide +kernel
theorem dX11_maySet_58 : decode cX11_maySet 58 = .ok (.iload_n 2, 1) := by decide +kernel
theorem dX11_maySet_59 : decode cX11_maySet 59 = .ok (.aload_n 0, 1) := by decide +kernel
theorem dX11_maySet_60 : decode cX11_maySet 60 = .ok (.getfield 17, 3) := by decide +kernel
theorem dX11_maySet_63 : decode cX11_maySet 63 = .ok (.iconst 1, 1) := by decide +kernel
theorem dX11_maySet_64 : decode cX11_maySet 64 = .ok (.iaload, 1) := by decide +kernel
theorem dX11_maySet_65 : decode cX11_maySet 65 = .ok (.bipush 125, 2) := by decide +kernel
theorem dX11_maySet_67 : decode cX11_maySet 67 = .ok (.invokestatic 173, 3) := by decide +kernel
theorem dX11_maySet_70 : decode cX11_maySet 70 = .ok (.ireturn, 1) := by decide +kernel
theorem dX11_maySet_45 : decode cX11_maySet 45 = .ok (.iload_n 2, 1) := by decide +kernel
theorem dX11_maySet_46 : decode cX11_maySet 46 = .ok (.bipush (-40), 2) := by decide +kernel
theorem dX11_maySet_48 : decode cX11_maySet 48 = .ok (.aload_n 0, 1) := by decide +kernel
theorem dX11_maySet_49 : decode cX11_maySet 49 = .ok (.getfield 17, 3) := by decide +kernel
theorem dX11_maySet_52 : decode cX11_maySet 52 = .ok (.iconst 2, 1) := by decide +kernel
theorem dX11_maySet_53 : decode cX11_maySet 53 = .ok (.iaload, 1) := by decide +kernel
theorem dX11_maySet_54 : decode cX11_maySet 54 = .ok (.invokestatic 173, 3) := by decide +kernel
theorem dX11_maySet_57 : decode cX11_maySet 57 = .ok (.ireturn, 1) := by decide +kernel
theorem dX11_maySet_36 : decode cX11_maySet 36 = .ok (.iload_n 2, 1) := by decide +kernel
theorem dX11_maySet_37 : decode cX11_maySet 37 = .ok (.iconst 0, 1) := by decide +kernel
theorem dX11_maySet_38 : decode cX11_maySet 38 = .ok (.sipush 999, 3) := by decide +kernel
theorem dX11_maySet_41 : decode cX11_maySet 41 = .ok (.invokestatic 173, 3) := by decide +kernel
theorem dX11_maySet_44 : decode cX11_maySet 44 = .ok (.ireturn, 1) := by decide +kernel
theorem dX11_maySet_0 : decode cX11_maySet 0 = .ok (.iload_n 1, 1) := by decide +kernel
theorem dX11_maySet_1 : decode cX11_maySet 1 = .ok (.tableswitch 104 0 4 #[35, 44, 57, 70, 77], 35) := by decide +kernel
theorem dX11_set_22 : decode cX11_set 22 = .ok (.aload_n 0, 1) := by decide +kernel
theorem dX11_set_23 : decode cX11_set 23 = .ok (.invokevirtual 233, 3) := by decide +kernel
theorem dX11_set_26 : decode cX11_set 26 = .ok (.aload_n 0, 1) := by decide +kernel
theorem dX11_set_27 : decode cX11_set 27 = .ok (.getfield 17, 3) := by decide +kernel
theorem dX11_set_30 : decode cX11_set 30 = .ok (.iload_n 1, 1) := by decide +kernel
theorem dX11_set_31 : decode cX11_set 31 = .ok (.iaload, 1) := by decide +kernel
theorem dX11_set_32 : decode cX11_set 32 = .ok (.istore_n 3, 1) := by decide +kernel
theorem dX11_set_33 : decode cX11_set 33 = .ok (.aload_n 0, 1) := by decide +kernel
theorem dX11_set_34 : decode cX11_set 34 = .ok (.getfield 17, 3) := by decide +kernel
theorem dX11_set_37 : decode cX11_set 37 = .ok (.iload_n 1, 1) := by decide +kernel
theorem dX11_set_38 : decode cX11_set 38 = .ok (.iload_n 2, 1) := by decide +kernel
theorem dX11_set_39 : decode cX11_set 39 = .ok (.iastore, 1) := by decide +kernel
theorem dX11_set_40 : decode cX11_set 40 = .ok (.iload_n 3, 1) := by decide +kernel
theorem dX11_set_41 : decode cX11_set 41 = .ok (.ireturn, 1) := by decide +kernel
theorem dX11_set_0 : decode cX11_set 0 = .ok (.aload_n 0, 1) := by decide +kernel
theorem dX11_set_1 : decode cX11_set 1 = .ok (.iconst 0, 1) := by decide +kernel
theorem dX11_set_2 : decode cX11_set 2 = .ok (.putfield 1, 3) := by decide +kernel
theorem dX11_set_5 : decode cX11_set 5 = .ok (.aload_n 0, 1) := by decide +kernel
theorem dX11_set_6 : decode cX11_set 6 = .ok (.aload_n 0, 1) := by decide +kernel
theorem dX11_set_7 : decode cX11_set 7 = .ok (.iload_n 1, 1) := by decide +kernel
theorem dX11_set_8 : decode cX11_set 8 = .ok (.iload_n 2, 1) := by decide +kernel
theorem dX11_set_9 : decode cX11_set 9 = .ok (.invokevirtual 230, 3) := by decide +kernel
theorem dX11_set_12 : decode cX11_set 12 = .ok (.iconst 1, 1) := by decide +kernel
theorem dX11_set_13 : decode cX11_set 13 = .ok (.iconst 1, 1) := by decide +kernel
theorem dX11_set_14 : decode cX11_set 14 = .ok (.invokevirtual 217, 3) := by decide +kernel
theorem dX11_set_17 : decode cX11_set 17 = .ok (.ifCond .ne 5, 3) := by decide +kernel
theorem dX11_set_20 : decode cX11_set 20 = .ok (.iconst 0, 1) := by decide +kernel
theorem dX11_set_21 : decode cX11_set 21 = .ok (.ireturn, 1) := by decide +kernel
theorem dX11_wear_75 : decode cX11_wear 75 = .ok (.aload_n 0, 1) := by decide +kernel
theorem dX11_wear_76 : decode cX11_wear 76 = .ok (.invokevirtual 233, 3) := by decide +kernel
theorem dX11_wear_79 : decode cX11_wear 79 = .ok (.aload_n 0, 1) := by decide +kernel
theorem dX11_wear_80 : decode cX11_wear 80 = .ok (.getfield 17, 3) := by decide +kernel
theorem dX11_wear_83 : decode cX11_wear 83 = .ok (.iconst 5, 1) := by decide +kernel
theorem dX11_wear_84 : decode cX11_wear 84 = .ok (.iconst 3, 1) := by decide +kernel
theorem dX11_wear_85 : decode cX11_wear 85 = .ok (.iload_n 1, 1) := by decide +kernel
theorem dX11_wear_86 : decode cX11_wear 86 = .ok (.imul, 1) := by decide +kernel
theorem dX11_wear_87 : decode cX11_wear 87 = .ok (.iadd, 1) := by decide +kernel
theorem dX11_wear_88 : decode cX11_wear 88 = .ok (.iload_n 2, 1) := by decide +kernel
theorem dX11_wear_89 : decode cX11_wear 89 = .ok (.iadd, 1) := by decide +kernel
theorem dX11_wear_90 : decode cX11_wear 90 = .ok (.iaload, 1) := by decide +kernel
theorem dX11_wear_91 : decode cX11_wear 91 = .ok (.istore 4, 2) := by decide +kernel
theorem dX11_wear_93 : decode cX11_wear 93 = .ok (.aload_n 0, 1) := by decide +kernel
theorem dX11_wear_94 : decode cX11_wear 94 = .ok (.getfield 17, 3) := by decide +kernel
theorem dX11_wear_97 : decode cX11_wear 97 = .ok (.iconst 5, 1) := by decide +kernel
theorem dX11_wear_98 : decode cX11_wear 98 = .ok (.iconst 3, 1) := by decide +kernel
theorem dX11_wear_99 : decode cX11_wear 99 = .ok (.iload_n 1, 1) := by decide +kernel
theorem dX11_wear_100 : decode cX11_wear 100 = .ok (.imul, 1) := by decide +kernel
theorem dX11_wear_101 : decode cX11_wear 101 = .ok (.iadd, 1) := by decide +kernel
theorem dX11_wear_102 : decode cX11_wear 102 = .ok (.iload_n 2, 1) := by decide +kernel
theorem dX11_wear_103 : decode cX11_wear 103 = .ok (.iadd, 1) := by decide +kernel
theorem dX11_wear_104 : decode cX11_wear 104 = .ok (.iload_n 3, 1) := by decide +kernel
theorem dX11_wear_105 : decode cX11_wear 105 = .ok (.iastore, 1) := by decide +kernel
theorem dX11_wear_106 : decode cX11_wear 106 = .ok (.iload 4, 2) := by decide +kernel
theorem dX11_wear_108 : decode cX11_wear 108 = .ok (.ireturn, 1) := by decide +kernel
theorem dX11_wear_73 : decode cX11_wear 73 = .ok (.iconst 0, 1) := by decide +kernel
theorem dX11_wear_74 : decode cX11_wear 74 = .ok (.ireturn, 1) := by decide +kernel
theorem dX11_wear_65 : decode cX11_wear 65 = .ok (.iconst 2, 1) := by decide +kernel
theorem dX11_wear_66 : decode cX11_wear 66 = .ok (.iconst 1, 1) := by decide +kernel
theorem dX11_wear_67 : decode cX11_wear 67 = .ok (.invokevirtual 217, 3) := by decide +kernel
theorem dX11_wear_70 : decode cX11_wear 70 = .ok (.ifCond .ne 5, 3) := by decide +kernel
theorem dX11_wear_64 : decode cX11_wear 64 = .ok (.iconst 0, 1) := by decide +kernel
theorem dX11_wear_45 : decode cX11_wear 45 = .ok (.iload_n 2, 1) := by decide +kernel
theorem dX11_wear_46 : decode cX11_wear 46 = .ok (.iconst 2, 1) := by decide +kernel
theorem dX11_wear_47 : decode cX11_wear 47 = .ok (.if_icmp .ne 17, 3) := by decide +kernel
theorem dX11_wear_50 : decode cX11_wear 50 = .ok (.iload_n 3, 1) := by decide +kernel
theorem dX11_wear_51 : decode cX11_wear 51 = .ok (.iconst 0, 1) := by decide +kernel
theorem dX11_wear_52 : decode cX11_wear 52 = .ok (.bipush 50, 2) := by decide +kernel
theorem dX11_wear_54 : decode cX11_wear 54 = .ok (.invokestatic 173, 3) := by decide +kernel
theorem dX11_wear_57 : decode cX11_wear 57 = .ok (.ifCond .eq 7, 3) := by decide +kernel
theorem dX11_wear_60 : decode cX11_wear 60 = .ok (.iconst 1, 1) := by decide +kernel
theorem dX11_wear_61 : decode cX11_wear 61 = .ok (.goto 4, 3) := by decide +kernel
theorem dX11_wear_29 : decode cX11_wear 29 = .ok (.iload_n 2, 1) := by decide +kernel
theorem dX11_wear_30 : decode cX11_wear 30 = .ok (.iconst 1, 1) := by decide +kernel
theorem dX11_wear_31 : decode cX11_wear 31 = .ok (.if_icmp .ne 14, 3) := by decide +kernel
theorem dX11_wear_34 : decode cX11_wear 34 = .ok (.iload_n 3, 1) := by decide +kernel
theorem dX11_wear_35 : decode cX11_wear 35 = .ok (.bipush (-99), 2) := by decide +kernel
theorem dX11_wear_37 : decode cX11_wear 37 = .ok (.bipush 99, 2) := by decide +kernel
theorem dX11_wear_39 : decode cX11_wear 39 = .ok (.invokestatic 173, 3) := by decide +kernel
theorem dX11_wear_42 : decode cX11_wear 42 = .ok (.goto 23, 3) := by decide +kernel
theorem dX11_wear_0 : decode cX11_wear 0 = .ok (.aload_n 0, 1) := by decide +kernel
theorem dX11_wear_1 : decode cX11_wear 1 = .ok (.iconst 0, 1) := by decide +kernel
theorem dX11_wear_2 : decode cX11_wear 2 = .ok (.putfield 1, 3) := by decide +kernel
theorem dX11_wear_5 : decode cX11_wear 5 = .ok (.aload_n 0, 1) := by decide +kernel
theorem dX11_wear_6 : decode cX11_wear 6 = .ok (.iload_n 1, 1) := by decide +kernel
theorem dX11_wear_7 : decode cX11_wear 7 = .ok (.invokevirtual 236, 3) := by decide +kernel
theorem dX11_wear_10 : decode cX11_wear 10 = .ok (.ifCond .eq 63, 3) := by decide +kernel
theorem dX11_wear_13 : decode cX11_wear 13 = .ok (.aload_n 0, 1) := by decide +kernel
theorem dX11_wear_14 : decode cX11_wear 14 = .ok (.iload_n 2, 1) := by decide +kernel
theorem dX11_wear_15 : decode cX11_wear 15 = .ok (.ifCond .ne 14, 3) := by decide +kernel
theorem dX11_wear_18 : decode cX11_wear 18 = .ok (.iload_n 3, 1) := by decide +kernel
theorem dX11_wear_19 : decode cX11_wear 19 = .ok (.iconst 0, 1) := by decide +kernel
theorem dX11_wear_20 : decode cX11_wear 20 = .ok (.sipush 9999, 3) := by decide +kernel
theorem dX11_wear_23 : decode cX11_wear 23 = .ok (.invokestatic 173, 3) := by decide +kernel
theorem dX11_wear_26 : decode cX11_wear 26 = .ok (.goto 39, 3) := by decide +kernel
theorem dX11_turn_37 : decode cX11_turn 37 = .ok (.aload_n 0, 1) := by decide +kernel
theorem dX11_turn_38 : decode cX11_turn 38 = .ok (.invokevirtual 233, 3) := by decide +kernel
theorem dX11_turn_41 : decode cX11_turn 41 = .ok (.aload_n 0, 1) := by decide +kernel
theorem dX11_turn_42 : decode cX11_turn 42 = .ok (.getfield 17, 3) := by decide +kernel
theorem dX11_turn_45 : decode cX11_turn 45 = .ok (.bipush 105, 2) := by decide +kernel
theorem dX11_turn_47 : decode cX11_turn 47 = .ok (.iload_n 1, 1) := by decide +kernel
theorem dX11_turn_48 : decode cX11_turn 48 = .ok (.iadd, 1) := by decide +kernel
theorem dX11_turn_49 : decode cX11_turn 49 = .ok (.dup2, 1) := by decide +kernel
theorem dX11_turn_50 : decode cX11_turn 50 = .ok (.iaload, 1) := by decide +kernel
theorem dX11_turn_51 : decode cX11_turn 51 = .ok (.iconst 1, 1) := by decide +kernel
theorem dX11_turn_52 : decode cX11_turn 52 = .ok (.ixor, 1) := by decide +kernel
theorem dX11_turn_53 : decode cX11_turn 53 = .ok (.iastore, 1) := by decide +kernel
theorem dX11_turn_54 : decode cX11_turn 54 = .ok (.aload_n 0, 1) := by decide +kernel
theorem dX11_turn_55 : decode cX11_turn 55 = .ok (.getfield 17, 3) := by decide +kernel
theorem dX11_turn_58 : decode cX11_turn 58 = .ok (.bipush 105, 2) := by decide +kernel
theorem dX11_turn_60 : decode cX11_turn 60 = .ok (.iload_n 1, 1) := by decide +kernel
theorem dX11_turn_61 : decode cX11_turn 61 = .ok (.iadd, 1) := by decide +kernel
theorem dX11_turn_62 : decode cX11_turn 62 = .ok (.iaload, 1) := by decide +kernel
theorem dX11_turn_63 : decode cX11_turn 63 = .ok (.ireturn, 1) := by decide +kernel
theorem dX11_turn_35 : decode cX11_turn 35 = .ok (.iconst 0, 1) := by decide +kernel
theorem dX11_turn_36 : decode cX11_turn 36 = .ok (.ireturn, 1) := by decide +kernel
theorem dX11_turn_0 : decode cX11_turn 0 = .ok (.aload_n 0, 1) := by decide +kernel
theorem dX11_turn_1 : decode cX11_turn 1 = .ok (.iconst 0, 1) := by decide +kernel
theorem dX11_turn_2 : decode cX11_turn 2 = .ok (.putfield 1, 3) := by decide +kernel
theorem dX11_turn_5 : decode cX11_turn 5 = .ok (.aload_n 0, 1) := by decide +kernel
theorem dX11_turn_6 : decode cX11_turn 6 = .ok (.invokevirtual 263, 3) := by decide +kernel
theorem dX11_turn_9 : decode cX11_turn 9 = .ok (.ifCond .eq 26, 3) := by decide +kernel
theorem dX11_turn_12 : decode cX11_turn 12 = .ok (.aload_n 0, 1) := by decide +kernel
theorem dX11_turn_13 : decode cX11_turn 13 = .ok (.iload_n 1, 1) := by decide +kernel
theorem dX11_turn_14 : decode cX11_turn 14 = .ok (.iconst 0, 1) := by decide +kernel
theorem dX11_turn_15 : decode cX11_turn 15 = .ok (.aload_n 0, 1) := by decide +kernel
theorem dX11_turn_16 : decode cX11_turn 16 = .ok (.getfield 17, 3) := by decide +kernel
theorem dX11_turn_19 : decode cX11_turn 19 = .ok (.bipush 45, 2) := by decide +kernel
theorem dX11_turn_21 : decode cX11_turn 21 = .ok (.iaload, 1) := by decide +kernel
theorem dX11_turn_22 : decode cX11_turn 22 = .ok (.iconst 1, 1) := by decide +kernel
theorem dX11_turn_23 : decode cX11_turn 23 = .ok (.isub, 1) := by decide +kernel
theorem dX11_turn_24 : decode cX11_turn 24 = .ok (.invokestatic 173, 3) := by decide +kernel
theorem dX11_turn_27 : decode cX11_turn 27 = .ok (.iconst 2, 1) := by decide +kernel
theorem dX11_turn_28 : decode cX11_turn 28 = .ok (.iconst 0, 1) := by decide +kernel
theorem dX11_turn_29 : decode cX11_turn 29 = .ok (.invokevirtual 217, 3) := by decide +kernel
theorem dX11_turn_32 : decode cX11_turn 32 = .ok (.ifCond .ne 5, 3) := by decide +kernel
/-! the reference's changes: set, wear -/
def ca_X11_maySet : (zD × Nat × Int32 × Int32) → List zV := fun (S, y, w, v) => [vR 20 0 y, vI w, vI v]
def cp_X11_maySet : (zD × Nat × Int32 × Int32) → zH → Prop := fun (S, y, w, v) h => rmS S h y
def cq_X11_maySet : (zD × Nat × Int32 × Int32) → zH → Option zV → zH → Prop := fun (S, y, w, v) h r h' => (∃ b : Bool, r = some (vI (bI b)) ∧ (b = true ↔ gR w 0 4 ∧ okS S w v)) ∧ h' = h
theorem rc_X11_maySet : ∀ x : (zD × Nat × Int32 × Int32), ∃ (j a : Nat) (As : List zV), ca_X11_maySet x = vR (10 + 10) j a :: As := by
  rintro ⟨S, y, w, v⟩
  exact ⟨_, _, _, rfl⟩
set_option maxHeartbeats 4000000 in
set_option maxRecDepth 100000 in
theorem m_X11_maySet : zM yX11_maySet cX11_maySet 3 (some .boolean) ({ frames := 1, cells := 0, slots := 0, locals := 22 } : Room) ((ca_X11_maySet, cp_X11_maySet, cq_X11_maySet) : zC (zD × Nat × Int32 × Int32)) := by
  refine zM_of (by decide) ?_
  rintro X Y ⟨S, y, w, v⟩ h hS O E hR
  have B_105 := zr_iconst (X := X) (Y := Y) (u := 0) (v := 0) (x := 0) O dX11_maySet_105 rfl (zr_zreturn O E (Nat.le_refl _) (Nat.le_refl _) dX11_maySet_106)
  have B_104 := zr_zreturn (X := X) (Y := Y) (u := 0) (v := 0) O E (Nat.le_refl _) (Nat.le_refl _) dX11_maySet_104
  have B_103 := zr_iconst (X := X) (Y := Y) (u := 0) (v := 0) (x := 0) O dX11_maySet_103 rfl (B_104)
  have B_99 := zr_iconst (X := X) (Y := Y) (u := 0) (v := 0) (x := 1) O dX11_maySet_99 rfl (zr_goto (tgt := 104) O dX11_maySet_100 rfl B_104)
  have B_78 := zr_iload_n (X := X) (Y := Y) (u := 0) (v := 0) O dX11_maySet_78 rfl (zr_ifeq (tgt := 99) O dX11_maySet_79 rfl B_99 (zr_iload_n O dX11_maySet_82 rfl (zr_iconst (x := 1) O dX11_maySet_83 rfl (zr_bipush (x := (7)) O dX11_maySet_84 (by decide) (zr_cI (zr_cS (n := 3) O m_X11_within (bn_X11_within _ ⟨rfl, rfl⟩) tw_1306 tw_1305 (zrm hR rfl rfl) dX11_maySet_86 (zr_ifeq (tgt := 103) O dX11_maySet_89 rfl B_103 (zr_iload_n O dX11_maySet_92 rfl (zr_iconst (x := 2) O dX11_maySet_93 rfl (zr_irem O dX11_maySet_94 (zr_iconst (x := 1) O dX11_maySet_95 rfl (zr_icne (tgt := 103) O dX11_maySet_96 rfl B_103 (B_99)))))))))))))
  have B_71 := zr_iload_n (X := X) (Y := Y) (u := 0) (v := 0) O dX11_maySet_71 rfl (zr_iconst (x := 0) O dX11_maySet_72 rfl (zr_iconst (x := 1) O dX11_maySet_73 rfl (zr_cI (zr_cS (n := 3) O m_X11_within (bn_X11_within _ ⟨rfl, rfl⟩) tw_1306 tw_1305 (zrm hR rfl rfl) dX11_maySet_74 (zr_zreturn O E (Nat.le_refl _) (Nat.le_refl _) dX11_maySet_77)))))
  have B_58 := zr_iload_n (X := X) (Y := Y) (u := 0) (v := 0) O dX11_maySet_58 rfl (zr_aload_n O dX11_maySet_59 rfl (zr_gS (ci := 10) (j := 2) (off := 2) (t := 1) (n := 218) O zc_10 (by decide) rfl tw_1189 dX11_maySet_60 (zr_iconst (x := 1) O dX11_maySet_63 rfl (zr_iald O dX11_maySet_64 (zr_bipush (x := (125)) O dX11_maySet_65 (by decide) (zr_cI (zr_cS (n := 3) O m_X11_within (bn_X11_within _ ⟨rfl, rfl⟩) tw_1306 tw_1305 (zrm hR rfl rfl) dX11_maySet_67 (zr_zreturn O E (Nat.le_refl _) (Nat.le_refl _) dX11_maySet_70))))))))
  have B_45 := zr_iload_n (X := X) (Y := Y) (u := 0) (v := 0) O dX11_maySet_45 rfl (zr_bipush (x := (-40)) O dX11_maySet_46 (by decide) (zr_aload_n O dX11_maySet_48 rfl (zr_gS (ci := 10) (j := 2) (off := 2) (t := 1) (n := 218) O zc_10 (by decide) rfl tw_1189 dX11_maySet_49 (zr_iconst (x := 2) O dX11_maySet_52 rfl (zr_iald O dX11_maySet_53 (zr_cI (zr_cS (n := 3) O m_X11_within (bn_X11_within _ ⟨rfl, rfl⟩) tw_1306 tw_1305 (zrm hR rfl rfl) dX11_maySet_54 (zr_zreturn O E (Nat.le_refl _) (Nat.le_refl _) dX11_maySet_57))))))))
  have B_36 := zr_iload_n (X := X) (Y := Y) (u := 0) (v := 0) O dX11_maySet_36 rfl (zr_iconst (x := 0) O dX11_maySet_37 rfl (zr_sipush (x := (999)) O dX11_maySet_38 (by decide) (zr_cI (zr_cS (n := 3) O m_X11_within (bn_X11_within _ ⟨rfl, rfl⟩) tw_1306 tw_1305 (zrm hR rfl rfl) dX11_maySet_41 (zr_zreturn O E (Nat.le_refl _) (Nat.le_refl _) dX11_maySet_44)))))
  have B_0 := zr_iload_n (X := X) (Y := Y) (u := 0) (v := 0) O dX11_maySet_0 rfl (zr_switch2 (tgt := 105) (ks := [_, _, _, _, _]) O dX11_maySet_1 rfl rfl B_105 ⟨⟨_, 36, rfl, rfl, B_36⟩, ⟨_, 45, rfl, rfl, B_45⟩, ⟨_, 58, rfl, rfl, B_58⟩, ⟨_, 71, rfl, rfl, B_71⟩, ⟨_, 78, rfl, rfl, B_78⟩, trivial⟩)
  refine ⟨rfl, Nat.le_of_ble_eq_true rfl, _, B_0, ?_⟩
  have hS : rmS S h y := hS
  have t1 : h.1 (y + 2) 1 = dT S 1 := hS.2.2.2.2 1 (by decide)
  have t2 : h.1 (y + 2) 2 = dT S 2 := hS.2.2.2.2 2 (by decide)
  have eq5 : ∀ k : Nat, k < 5 → w.toInt = (k : Int) → w = nI k := fun k hk e => by rw [fa_eq, nI_toInt (by omega)]; exact e
  refine zsw_of ⟨fun e => ?_, fun e => ?_, fun e => ?_, fun e => ?_, fun e => ?_, trivial⟩ (fun e => ?_)
  · have ew : w = 0 := eq5 0 (by decide) e
    refine ⟨(v, 0, 999), rfl, trivial, bI_or _, ⟨_, rfl, ?_⟩, rfl⟩
    rw [ew, decide_eq_true_iff, okS, if_pos rfl]
    exact ⟨fun z => ⟨⟨by decide, by decide⟩, z⟩, fun z => z.2⟩
  · have ew : w = 1 := eq5 1 (by decide) e
    refine ⟨2, rfl, by decide, (v, -40, dT S 2), by rw [t2]; rfl, trivial, bI_or _, ⟨_, rfl, ?_⟩, rfl⟩
    rw [ew, decide_eq_true_iff, okS, if_neg (by decide), if_pos rfl]
    exact ⟨fun z => ⟨⟨by decide, by decide⟩, z⟩, fun z => z.2⟩
  · have ew : w = 2 := eq5 2 (by decide) e
    refine ⟨1, rfl, by decide, (v, dT S 1, 125), by rw [t1]; rfl, trivial, bI_or _, ⟨_, rfl, ?_⟩, rfl⟩
    rw [ew, decide_eq_true_iff, okS, if_neg (by decide), if_neg (by decide), if_pos rfl]
    exact ⟨fun z => ⟨⟨by decide, by decide⟩, z⟩, fun z => z.2⟩
  · have ew : w = 3 := eq5 3 (by decide) e
    refine ⟨(v, 0, 1), rfl, trivial, bI_or _, ⟨_, rfl, ?_⟩, rfl⟩
    rw [ew, decide_eq_true_iff, okS, if_neg (by decide), if_neg (by decide), if_neg (by decide), if_pos rfl]
    exact ⟨fun z => ⟨⟨by decide, by decide⟩, z⟩, fun z => z.2⟩
  · have ew : w = 4 := eq5 4 (by decide) e
    have key : (gR w 0 4 ∧ okS S w v) ↔ (v = 0 ∨ (v = 1 ∨ v = 3 ∨ v = 5 ∨ v = 7)) := by
      rw [ew, okS, if_neg (by decide), if_neg (by decide), if_neg (by decide), if_neg (by decide)]
      exact ⟨fun z => z.2, fun z => ⟨⟨by decide, by decide⟩, z⟩⟩
    refine ⟨fun c => ⟨Or.inr rfl, ⟨true, rfl, ?_⟩, rfl⟩, fun c => ⟨(v, 1, 7), rfl, trivial, fun d => ⟨Or.inl rfl, ⟨false, rfl, ?_⟩, rfl⟩, fun d => ⟨by decide, fun f => ⟨Or.inl rfl, ⟨false, rfl, ?_⟩, rfl⟩, fun f => ⟨Or.inr rfl, ⟨true, rfl, ?_⟩, rfl⟩⟩⟩⟩
    · rw [key]; exact ⟨fun _ => Or.inl c, fun _ => rfl⟩
    · rw [key]
      have g := gno (p := 1 ≤ v ∧ v ≤ 7) d
      refine ⟨fun z => Bool.noConfusion z, fun z => ?_⟩
      rcases z with z | z | z | z | z
      · exact absurd z c
      all_goals exact absurd (by rw [z]; decide) g
    · rw [key]
      have g := gok (p := 1 ≤ v ∧ v ≤ 7) d
      obtain ⟨q, rfl, hq, -⟩ := rngx (n := 7) (by decide) (show gR v 0 (nI 7) from ⟨Int32.le_trans (by decide) g.1, g.2⟩)
      have : q = 0 ∨ q = 1 ∨ q = 2 ∨ q = 3 ∨ q = 4 ∨ q = 5 ∨ q = 6 ∨ q = 7 := by omega
      rcases this with z | z | z | z | z | z | z | z <;> subst z <;> first | exact absurd (by decide) f | exact ⟨fun z => Bool.noConfusion z, fun z => absurd z (by decide)⟩ | exact absurd rfl c
    · rw [key]
      have g := gok (p := 1 ≤ v ∧ v ≤ 7) d
      obtain ⟨q, rfl, hq, -⟩ := rngx (n := 7) (by decide) (show gR v 0 (nI 7) from ⟨Int32.le_trans (by decide) g.1, g.2⟩)
      have : q = 0 ∨ q = 1 ∨ q = 2 ∨ q = 3 ∨ q = 4 ∨ q = 5 ∨ q = 6 ∨ q = 7 := by omega
      rcases this with z | z | z | z | z | z | z | z <;> subst z <;> first | exact ⟨fun _ => by decide, fun _ => rfl⟩ | exact absurd f (by decide)
  · refine ⟨Or.inl rfl, ⟨false, rfl, ?_⟩, rfl⟩
    refine ⟨fun z => Bool.noConfusion z, fun z => ?_⟩
    have e : w.toInt < 0 ∨ (0 : Int) + 5 ≤ w.toInt := e
    obtain ⟨⟨z1, z2⟩, -⟩ := z
    rw [fa_le, show (0 : Int32).toInt = 0 by decide] at z1
    rw [fa_le, show (4 : Int32).toInt = 4 by decide] at z2
    omega
theorem fine_f {y k : Nat} {b : Bool} {c : Int32} {h : zH} (ht : h.1 y 0 = 0) (d : cf_X11_isFine (y, b, c, k) h = 0) : b = false ∧ cg_X11_isFine (y, b, c, k) h = rfz h y c k := by
  obtain ⟨e1, e2⟩ := fineB (b := b) (c := c) (k := k) ht
  rw [e1] at d
  have g := (bI_0 _).mp d
  exact ⟨g, by rw [e2, g]; rfl⟩
theorem fine_t {y k : Nat} {b : Bool} {c : Int32} {h : zH} (ht : h.1 y 0 = 0) (d : ¬ cf_X11_isFine (y, b, c, k) h = 0) : b = true ∧ cg_X11_isFine (y, b, c, k) h = h := by
  obtain ⟨e1, e2⟩ := fineB (b := b) (c := c) (k := k) ht
  rw [e1] at d
  have g : b = true := by
    cases b with
    | true => rfl
    | false => exact absurd rfl d
  exact ⟨g, by rw [e2, g]; rfl⟩
/-- a change of the reference's row of numbers alone -/
theorem rmZ_m {Q R : zQ} {Hs : Nat → zQ} {c y : Nat} {h : zH} {f : Nat → Int32} (hs : shp Q.1 R.1) (hr : rmr R.1 f) (hE : rmE R.2.1 f) (hL : rmL R.2.2 f) (hZ : rmZ (Q, Hs, c) y h) : rmZ (R, Hs, c) y (zsW h (y + 2) f) := by
  obtain ⟨a1, a2, a3, a4, a5⟩ := hZ
  refine ⟨⟨⟨?_, ?_⟩, ⟨?_, ?_⟩, ?_, ?_, ?_⟩, ?_, ?_, ?_, fun i hi => ?_⟩
  · rw [zsW_n _ _ (by omega), hs.1]; exact a1.1.1
  · rw [hs.1]; exact a1.1.2
  · rw [zsW_n _ _ (by omega), hs.2.1]; exact a1.2.1.1
  · rw [hs.2.1]; exact a1.2.1.2
  · rw [zsW_s]; exact hr.1
  · rw [zsW_n _ _ (by omega), zsW_n _ _ (by omega), hs.1, hs.2.1, hs.2.2.1, hs.2.2.2]; exact a1.2.2.2.1
  · rw [zsW_s]; exact hr.2
  · rw [zsW_s]; exact hE
  · rw [zsW_s]; exact hL
  · rw [zsW_n _ _ (by omega)]; exact a4
  · obtain ⟨b1, b2⟩ := a5 i hi
    refine ⟨⟨b1.1.trans hs.1.symm, b1.2.1.trans hs.2.1.symm, b1.2.2.1.trans hs.2.2.1.symm, b1.2.2.2.trans hs.2.2.2.symm⟩, ?_⟩
    rw [zsW_n _ _ (by omega)]; exact b2
theorem shp_r (S : zD) : shp S S := ⟨rfl, rfl, rfl, rfl⟩
/-- after keeping: the frame with the beginning and a new row -/
theorem kp_end {y : Nat} {h h1 : zH} (k : kpd y (zsI h y 0 0) h1) (f : Nat → Int32) : fs y h (zsW h1 (y + 2) f) ∧ rok y h (zsW h1 (y + 2) f) := by
  obtain ⟨k1, k2, k3⟩ := kpd_f k
  refine ⟨fs_t (fs_t (fs_q (fq_0 y h).1) k1) (fs_W (j := 2) _ _ (by decide)), ?_, ?_⟩
  · rw [zsW_n _ _ (by omega), k2]; exact t0 h y
  · rw [zsW_n _ _ (by omega), k3 1 (by decide) (by decide)]; exact m_0 _ _ (by omega)
def ca_X11_set : (zQ × (Nat → zQ) × Nat × Nat × Int32 × Int32) → List zV := fun (Q, Hs, c, y, w, v) => [vR 20 0 y, vI w, vI v]
def cp_X11_set : (zQ × (Nat → zQ) × Nat × Nat × Int32 × Int32) → zH → Prop := fun (Q, Hs, c, y, w, v) h => rmZ (Q, Hs, c) y h
def cq_X11_set : (zQ × (Nat → zQ) × Nat × Nat × Int32 × Int32) → zH → Option zV → zH → Prop := fun (Q, Hs, c, y, w, v) h r h' => ((gR w 0 4 ∧ okS Q.1 w v) ∧ fs y h h' ∧ rok y h h' ∧ r = some (vI (dT Q.1 (cN w))) ∧ rmZ ((aSt Q.1 (cN w) v, Q.2.1, Q.2.2), hcn Q Hs, min (c + 1) 12) y h') ∨ (¬ (gR w 0 4 ∧ okS Q.1 w v) ∧ fq y h h' ∧ rno y 1 1 h h' ∧ r = some (vI 0))
theorem rc_X11_set : ∀ x : (zQ × (Nat → zQ) × Nat × Nat × Int32 × Int32), ∃ (j a : Nat) (As : List zV), ca_X11_set x = vR (10 + 10) j a :: As := by
  rintro ⟨⟨S, K, M⟩, Hs, c, y, w, v⟩
  exact ⟨_, _, _, rfl⟩
set_option maxHeartbeats 4000000 in
set_option maxRecDepth 100000 in
theorem m_X11_set : zM yX11_set cX11_set 4 (some .int) ({ frames := 2, cells := 0, slots := 0, locals := 44 } : Room) ((ca_X11_set, cp_X11_set, cq_X11_set) : zC (zQ × (Nat → zQ) × Nat × Nat × Int32 × Int32)) := by
  refine zM_of (by decide) ?_
  rintro X Y ⟨⟨S, K, M⟩, Hs, c, y, w, v⟩ h hZ O E hR
  have B_22 := zr_aload_n (X := X) (Y := Y) (u := 0) (v := 0) O dX11_set_22 rfl (zr_cV (ci := 10) (n := 0) O m_X11_keeps (bn_X11_keeps _ ⟨rfl, rfl⟩) vw_X11_keeps tw_1375 rc_X11_keeps (zrm hR rfl rfl) dX11_set_23 (zr_aload_n O dX11_set_26 rfl (zr_gS (ci := 10) (j := 2) (off := 2) (t := 1) (n := 218) O zc_10 (by decide) rfl tw_1189 dX11_set_27 (zr_iload_n O dX11_set_30 rfl (zr_iald O dX11_set_31 (zr_istore_n O dX11_set_32 rfl (zr_aload_n O dX11_set_33 rfl (zr_gS (ci := 10) (j := 2) (off := 2) (t := 1) (n := 218) O zc_10 (by decide) rfl tw_1189 dX11_set_34 (zr_iload_n O dX11_set_37 rfl (zr_iload_n O dX11_set_38 rfl (zr_iast O dX11_set_39 (zr_iload_n O dX11_set_40 rfl (zr_ireturn O E (Nat.le_refl _) (Nat.le_refl _) dX11_set_41)))))))))))))
  have B_0 := zr_aload_n (X := X) (Y := Y) (u := 0) (v := 0) O dX11_set_0 rfl (zr_iconst (x := 0) O dX11_set_1 rfl (zr_pI (ci := 10) (j := 0) O zc_10 (by decide) rfl rfl rfl tw_1187 dX11_set_2 (zr_aload_n O dX11_set_5 rfl (zr_aload_n O dX11_set_6 rfl (zr_iload_n O dX11_set_7 rfl (zr_iload_n O dX11_set_8 rfl (zr_cV (ci := 10) (n := 2) O m_X11_maySet (bn_X11_maySet _ ⟨rfl, rfl⟩) vw_X11_maySet tw_1371 rc_X11_maySet (zrm hR rfl rfl) dX11_set_9 (zr_iconst (x := 1) O dX11_set_12 rfl (zr_iconst (x := 1) O dX11_set_13 rfl (zr_cH (zr_cV (ci := 10) (n := 3) O m_X11_isFine (bn_X11_isFine _ ⟨rfl, rfl⟩) vw_X11_isFine tw_1308 rc_X11_isFine (zrm hR rfl rfl) dX11_set_14 (zr_ifne (tgt := 22) O dX11_set_17 rfl B_22 (zr_iconst (x := 0) O dX11_set_20 rfl (zr_ireturn O E (Nat.le_refl _) (Nat.le_refl _) dX11_set_21))))))))))))))
  refine ⟨rfl, Nat.le_of_ble_eq_true rfl, _, B_0, ?_⟩
  have hZ : rmZ ((S, K, M), Hs, c) y h := hZ
  have hZ0 := rmZ_fq (fq_0 y h).1 hZ
  refine ⟨(S, y, w, v), rfl, hZ0.1, fun r h1 hq => ?_⟩
  obtain ⟨⟨b, rfl, hb⟩, e1⟩ := hq
  obtain rfl := e1.symm
  replace hb : b = true ↔ gR w 0 4 ∧ okS S w v := hb
  refine ⟨(y, b, 1, 1), rfl, ⟨by decide, by decide⟩, fun d => ?_, fun d => ?_⟩
  · obtain ⟨g, e⟩ := fine_t (t0 h y) d
    rw [e]
    have g2 := hb.mp g
    obtain ⟨q, rfl, hq, eq⟩ := rngx (n := 4) (by decide) g2.1
    refine ⟨((S, K, M), Hs, c, y), rfl, hZ0, fun r h2 hq2 => ?_⟩
    obtain ⟨rfl, hZ2, kp⟩ := hq2
    replace hZ2 : rmZ ((S, K, M), hcn (S, K, M) Hs, min (c + 1) 12) y h2 := hZ2
    replace kp : kpd y (zsI h y 0 0) h2 := kp
    have hS2 := hZ2.1
    have t2 : h2.1 (y + 2) q = dT S q := hS2.2.2.2.2 q (by omega)
    refine ⟨q, rfl, by omega, q, rfl, by omega, ?_⟩
    show cq_X11_set ((S, K, M), Hs, c, y, nI q, v) h (some (vI (h2.1 (y + 2) q))) (zsI h2 (y + 2) q v)
    rw [zsI_W]
    obtain ⟨k1, k2⟩ := kp_end kp (va_up (h2.1 (y + 2)) q v)
    refine Or.inl ⟨g2, k1, k2, zri (by rw [eq]; exact t2), ?_⟩
    rw [eq]
    refine rmZ_m (Q := (S, K, M)) (R := (aSt S q v, K, M)) ⟨rfl, rfl, rfl, rfl⟩ ⟨fun r hr => ?_, fun k hk => ?_⟩ (rmE_cg (fun k hk _ => zup_n _ _ (by omega)) hZ2.2.1) (rmL_cg (fun k hk _ _ => zup_n _ _ (by omega)) hZ2.2.2.1) hZ2
    · rw [zup_n _ _ (by omega), zup_n _ _ (by omega), zup_n _ _ (by omega)]; exact hS2.2.2.1 r hr
    · show va_up (h2.1 (y + 2)) q v k = va_up (dT S) q v k
      by_cases e : k = q
      · rw [e, zup_s, zup_s]
      · rw [zup_n _ _ e, zup_n _ _ e]; exact hS2.2.2.2.2 k hk
  · obtain ⟨g, e⟩ := fine_f (t0 h y) d
    rw [e]
    exact Or.inr ⟨(fun z => by rw [hb.mpr z] at g; cases g), (fq_rf 1 (fq_0 y h)).1, (fq_rf 1 (fq_0 y h)).2, rfl⟩
def ca_X11_wear : (zQ × (Nat → zQ) × Nat × Nat × Int32 × Int32 × Int32) → List zV := fun (Q, Hs, c, y, i, w, v) => [vR 20 0 y, vI i, vI w, vI v]
def cp_X11_wear : (zQ × (Nat → zQ) × Nat × Nat × Int32 × Int32 × Int32) → zH → Prop := fun (Q, Hs, c, y, i, w, v) h => rmZ (Q, Hs, c) y h
def cq_X11_wear : (zQ × (Nat → zQ) × Nat × Nat × Int32 × Int32 × Int32) → zH → Option zV → zH → Prop := fun (Q, Hs, c, y, i, w, v) h r h' => (gC i (dN Q.1) ∧ (gR w 0 2 ∧ okT w v) ∧ fs y h h' ∧ rok y h h' ∧ r = some (vI (rgv Q (cN i) (cN w))) ∧ rmZ ((aTr Q.1 (cN w) (cN i) v, Q.2.1, Q.2.2), hcn Q Hs, min (c + 1) 12) y h') ∨ (¬ gC i (dN Q.1) ∧ fq y h h' ∧ rno y 1 0 h h' ∧ r = some (vI 0)) ∨ (gC i (dN Q.1) ∧ ¬ (gR w 0 2 ∧ okT w v) ∧ fq y h h' ∧ rno y 2 1 h h' ∧ r = some (vI 0))
theorem rc_X11_wear : ∀ x : (zQ × (Nat → zQ) × Nat × Nat × Int32 × Int32 × Int32), ∃ (j a : Nat) (As : List zV), ca_X11_wear x = vR (10 + 10) j a :: As := by
  rintro ⟨⟨S, K, M⟩, Hs, c, y, i, w, v⟩
  exact ⟨_, _, _, rfl⟩
set_option maxHeartbeats 4000000 in
set_option maxRecDepth 100000 in
theorem m_X11_wear : zM yX11_wear cX11_wear 5 (some .int) ({ frames := 2, cells := 0, slots := 0, locals := 44 } : Room) ((ca_X11_wear, cp_X11_wear, cq_X11_wear) : zC (zQ × (Nat → zQ) × Nat × Nat × Int32 × Int32 × Int32)) := by
  refine zM_of (by decide) ?_
  rintro X Y ⟨⟨S, K, M⟩, Hs, c, y, i, w, v⟩ h hZ O E hR
  have hZ : rmZ ((S, K, M), Hs, c) y h := hZ
  have hZ0 := rmZ_fq (fq_0 y h).1 hZ
  have hN10 : dN S ≤ 10 := hZ.1.1.2
  have B_75 := zr_aload_n (X := X) (Y := Y) (u := 0) (v := 0) O dX11_wear_75 rfl (zr_cV (ci := 10) (n := 0) O m_X11_keeps (bn_X11_keeps _ ⟨rfl, rfl⟩) vw_X11_keeps tw_1375 rc_X11_keeps (zrm hR rfl rfl) dX11_wear_76 (zr_aload_n O dX11_wear_79 rfl (zr_gS (ci := 10) (j := 2) (off := 2) (t := 1) (n := 218) O zc_10 (by decide) rfl tw_1189 dX11_wear_80 (zr_iconst (x := 5) O dX11_wear_83 rfl (zr_iconst (x := 3) O dX11_wear_84 rfl (zr_iload_n O dX11_wear_85 rfl (zr_imul O dX11_wear_86 (zr_iadd O dX11_wear_87 (zr_iload_n O dX11_wear_88 rfl (zr_iadd O dX11_wear_89 (zr_iald O dX11_wear_90 (zr_istore O dX11_wear_91 (zr_aload_n O dX11_wear_93 rfl (zr_gS (ci := 10) (j := 2) (off := 2) (t := 1) (n := 218) O zc_10 (by decide) rfl tw_1189 dX11_wear_94 (zr_iconst (x := 5) O dX11_wear_97 rfl (zr_iconst (x := 3) O dX11_wear_98 rfl (zr_iload_n O dX11_wear_99 rfl (zr_imul O dX11_wear_100 (zr_iadd O dX11_wear_101 (zr_iload_n O dX11_wear_102 rfl (zr_iadd O dX11_wear_103 (zr_iload_n O dX11_wear_104 rfl (zr_iast O dX11_wear_105 (zr_iload O dX11_wear_106 (zr_ireturn O E (Nat.le_refl _) (Nat.le_refl _) dX11_wear_108)))))))))))))))))))))))))
  have B_73 := zr_iconst (X := X) (Y := Y) (u := 0) (v := 0) (x := 0) O dX11_wear_73 rfl (zr_ireturn O E (Nat.le_refl _) (Nat.le_refl _) dX11_wear_74)
  have B_65 := zr_iconst (X := X) (Y := Y) (u := 0) (v := 0) (x := 2) O dX11_wear_65 rfl (zr_iconst (x := 1) O dX11_wear_66 rfl (zr_cH (zr_cV (ci := 10) (n := 3) O m_X11_isFine (bn_X11_isFine _ ⟨rfl, rfl⟩) vw_X11_isFine tw_1308 rc_X11_isFine (zrm hR rfl rfl) dX11_wear_67 (zr_ifne (tgt := 75) O dX11_wear_70 rfl B_75 (B_73)))))
  have C_65 : zSd X Y 0 0 65 (fun ls st h1 => ∃ b : Bool, gC i (dN S) ∧ ls = [some (vR 20 0 y), some (vI i), some (vI w), some (vI v), none] ∧ st = [vI (bI b), vR 20 0 y] ∧ h1 = zsI h y 0 0 ∧ (b = true ↔ gR w 0 2 ∧ okT w v)) := by
    refine zSd_weak B_65 (fun ls st h1 t => ?_)
    obtain ⟨b, g0, rfl, rfl, rfl, hb⟩ := t
    refine ⟨(y, b, 2, 1), rfl, ⟨by decide, by decide⟩, fun d => ?_, fun d => ?_⟩
    · obtain ⟨g, e⟩ := fine_t (t0 h y) d
      rw [e]
      have g2 := hb.mp g
      obtain ⟨q, rfl, hq, eq⟩ := rngx (n := 2) (by decide) g2.1
      obtain ⟨a, rfl, ha, ea⟩ := cntx (by omega) g0
      refine ⟨((S, K, M), Hs, c, y), rfl, hZ0, fun r h2 hq2 => ?_⟩
      obtain ⟨rfl, hZ2, kp⟩ := hq2
      replace hZ2 : rmZ ((S, K, M), hcn (S, K, M) Hs, min (c + 1) 12) y h2 := hZ2
      replace kp : kpd y (zsI h y 0 0) h2 := kp
      have hS2 := hZ2.1
      obtain ⟨b1, b2, b3⟩ := hS2.2.2.1 a ha
      have ei : (5 : Int32) + 3 * nI a + nI q = nI (5 + 3 * a + q) := by rw [i53, nI_add]
      refine ⟨5 + 3 * a + q, ei, by omega, 5 + 3 * a + q, ei, by omega, ?_⟩
      show cq_X11_wear ((S, K, M), Hs, c, y, nI a, nI q, v) h (some (vI (h2.1 (y + 2) (5 + 3 * a + q)))) (zsI h2 (y + 2) (5 + 3 * a + q) v)
      rw [zsI_W]
      obtain ⟨k1, k2⟩ := kp_end kp (va_up (h2.1 (y + 2)) (5 + 3 * a + q) v)
      have hz : q = 0 ∨ q = 1 ∨ q = 2 := by omega
      refine Or.inl ⟨g0, g2, k1, k2, zri ?_, ?_⟩
      · rw [ea, eq]
        rcases hz with e | e | e
        · rw [rgv, if_pos e, e]; exact b1
        · rw [rgv, if_neg (by omega), if_pos e, e]; exact b2
        · rw [rgv, if_neg (by omega), if_neg (by omega), if_pos e, e]; exact b3
      · rw [ea, eq]
        refine rmZ_m (Q := (S, K, M)) (R := (aTr S q a v, K, M)) ⟨rfl, rfl, rfl, rfl⟩ ⟨fun r hr => ?_, fun k hk => ?_⟩ (rmE_cg (fun k hk _ => zup_n _ _ (by omega)) hZ2.2.1) (rmL_cg (fun k hk _ _ => zup_n _ _ (by omega)) hZ2.2.2.1) hZ2
        · obtain ⟨c1, c2, c3⟩ := hS2.2.2.1 r hr
          show _ = (if q = 0 then va_up (dB S) a v else dB S) r ∧ _ = (if q = 1 then va_up (dD S) a v else dD S) r ∧ _ = (if q = 2 then va_up (dZ S) a v else dZ S) r
          rw [up_at, up_at, up_at]
          refine ⟨?_, ?_, ?_⟩
          · by_cases e : 5 + 3 * r = 5 + 3 * a + q
            · rw [e, zup_s, if_pos (by omega)]
            · rw [zup_n _ _ e, if_neg (by omega)]; exact c1
          · by_cases e : 5 + 3 * r + 1 = 5 + 3 * a + q
            · rw [e, zup_s, if_pos (by omega)]
            · rw [zup_n _ _ e, if_neg (by omega)]; exact c2
          · by_cases e : 5 + 3 * r + 2 = 5 + 3 * a + q
            · rw [e, zup_s, if_pos (by omega)]
            · rw [zup_n _ _ e, if_neg (by omega)]; exact c3
        · rw [zup_n _ _ (by omega)]; exact hS2.2.2.2.2 k hk
    · obtain ⟨g, e⟩ := fine_f (t0 h y) d
      rw [e]
      exact Or.inr (Or.inr ⟨g0, (fun z => by rw [hb.mpr z] at g; cases g), (fq_rf 2 (fq_0 y h)).1, (fq_rf 2 (fq_0 y h)).2, rfl⟩)
  have B_64 := zr_iconst (X := X) (Y := Y) (u := 0) (v := 0) (x := 0) O dX11_wear_64 rfl (C_65)
  have B_45 := zr_iload_n (X := X) (Y := Y) (u := 0) (v := 0) O dX11_wear_45 rfl (zr_iconst (x := 2) O dX11_wear_46 rfl (zr_icne (tgt := 64) O dX11_wear_47 rfl B_64 (zr_iload_n O dX11_wear_50 rfl (zr_iconst (x := 0) O dX11_wear_51 rfl (zr_bipush (x := (50)) O dX11_wear_52 (by decide) (zr_cI (zr_cS (n := 3) O m_X11_within (bn_X11_within _ ⟨rfl, rfl⟩) tw_1306 tw_1305 (zrm hR rfl rfl) dX11_wear_54 (zr_ifeq (tgt := 64) O dX11_wear_57 rfl B_64 (zr_iconst (x := 1) O dX11_wear_60 rfl (zr_goto (tgt := 65) O dX11_wear_61 rfl C_65))))))))))
  have B_29 := zr_iload_n (X := X) (Y := Y) (u := 0) (v := 0) O dX11_wear_29 rfl (zr_iconst (x := 1) O dX11_wear_30 rfl (zr_icne (tgt := 45) O dX11_wear_31 rfl B_45 (zr_iload_n O dX11_wear_34 rfl (zr_bipush (x := (-99)) O dX11_wear_35 (by decide) (zr_bipush (x := (99)) O dX11_wear_37 (by decide) (zr_cI (zr_cS (n := 3) O m_X11_within (bn_X11_within _ ⟨rfl, rfl⟩) tw_1306 tw_1305 (zrm hR rfl rfl) dX11_wear_39 (zr_goto (tgt := 65) O dX11_wear_42 rfl C_65))))))))
  have B_0 := zr_aload_n (X := X) (Y := Y) (u := 0) (v := 0) O dX11_wear_0 rfl (zr_iconst (x := 0) O dX11_wear_1 rfl (zr_pI (ci := 10) (j := 0) O zc_10 (by decide) rfl rfl rfl tw_1187 dX11_wear_2 (zr_aload_n O dX11_wear_5 rfl (zr_iload_n O dX11_wear_6 rfl (zr_cH (zr_cV (ci := 10) (n := 1) O m_X11_isRing (bn_X11_isRing _ ⟨rfl, rfl⟩) vw_X11_isRing tw_1383 rc_X11_isRing (zrm hR rfl rfl) dX11_wear_7 (zr_ifeq (tgt := 73) O dX11_wear_10 rfl B_73 (zr_aload_n O dX11_wear_13 rfl (zr_iload_n O dX11_wear_14 rfl (zr_ifne (tgt := 29) O dX11_wear_15 rfl B_29 (zr_iload_n O dX11_wear_18 rfl (zr_iconst (x := 0) O dX11_wear_19 rfl (zr_sipush (x := (9999)) O dX11_wear_20 (by decide) (zr_cI (zr_cS (n := 3) O m_X11_within (bn_X11_within _ ⟨rfl, rfl⟩) tw_1306 tw_1305 (zrm hR rfl rfl) dX11_wear_23 (zr_goto (tgt := 65) O dX11_wear_26 rfl C_65))))))))))))))))
  refine ⟨rfl, Nat.le_of_ble_eq_true rfl, _, B_0, ?_⟩
  refine ⟨(S, y, i), rfl, ⟨hZ0.1, t0 h y⟩, fun d => ?_, fun d => ?_⟩
  · obtain ⟨g, e⟩ := ring_no d
    rw [e]
    exact Or.inr (Or.inl ⟨g, (fq_rf 1 (fq_0 y h)).1, (fq_rf 1 (fq_0 y h)).2, rfl⟩)
  · obtain ⟨g, e⟩ := ring_ok d
    rw [e]
    refine ⟨fun c0 => ⟨fun c1 => ⟨fun c2 => ⟨false, g, rfl, rfl, rfl, ?_⟩, fun c2 => ⟨(v, 0, 50), rfl, trivial, fun f => ⟨false, g, rfl, rfl, rfl, ?_⟩, fun f => ⟨true, g, rfl, rfl, rfl, ?_⟩⟩⟩, fun c1 => ⟨(v, -99, 99), rfl, trivial, decide (-99 ≤ v ∧ v ≤ 99), g, rfl, rfl, rfl, ?_⟩⟩, fun c0 => ⟨(v, 0, 9999), rfl, trivial, decide (0 ≤ v ∧ v ≤ 9999), g, rfl, rfl, rfl, ?_⟩⟩
    · refine ⟨fun z => Bool.noConfusion z, fun z => ?_⟩
      obtain ⟨q, rfl, hq, eq⟩ := rngx (n := 2) (by decide) z.1
      have hz : q = 0 ∨ q = 1 ∨ q = 2 := by omega
      rcases hz with e | e | e
      · exact absurd (by rw [e]; rfl) c0
      · exact absurd (by rw [e]; rfl) c1
      · exact absurd (by rw [e]; rfl) c2
    · have gv := gno (p := 0 ≤ v ∧ v ≤ 50) f
      refine ⟨fun z => Bool.noConfusion z, fun z => ?_⟩
      have z2 := z.2
      rw [okT, if_neg c0, if_neg c1] at z2
      exact absurd z2 gv
    · have gv := gok (p := 0 ≤ v ∧ v ≤ 50) f
      refine ⟨fun _ => ⟨by rw [c2]; exact ⟨by decide, by decide⟩, ?_⟩, fun _ => rfl⟩
      rw [okT, if_neg c0, if_neg c1]; exact gv
    · rw [decide_eq_true_iff, c1, okT, if_neg (by decide), if_pos rfl]
      exact ⟨fun z => ⟨⟨by decide, by decide⟩, z⟩, fun z => z.2⟩
    · rw [decide_eq_true_iff, c0, okT, if_pos rfl]
      exact ⟨fun z => ⟨⟨by decide, by decide⟩, z⟩, fun z => z.2⟩
def ca_X11_turn : (zQ × (Nat → zQ) × Nat × Nat × Int32) → List zV := fun (Q, Hs, c, y, i) => [vR 20 0 y, vI i]
def cp_X11_turn : (zQ × (Nat → zQ) × Nat × Nat × Int32) → zH → Prop := fun (Q, Hs, c, y, i) h => rmZ (Q, Hs, c) y h
def cq_X11_turn : (zQ × (Nat → zQ) × Nat × Nat × Int32) → zH → Option zV → zH → Prop := fun (Q, Hs, c, y, i) h r h' => (0 < eN Q.2.1 ∧ gC i (eN Q.2.1) ∧ fs y h h' ∧ rok y h h' ∧ r = some (vI (bI ((eH Q.2.1 ^^^ 2 ^ cN i).testBit (cN i)))) ∧ rmZ ((Q.1, tnE Q.2.1 (cN i), Q.2.2), hcn Q Hs, min (c + 1) 12) y h') ∨ (eN Q.2.1 = 0 ∧ fq y h h' ∧ rno y 1 2 h h' ∧ r = some (vI 0)) ∨ (0 < eN Q.2.1 ∧ ¬ gC i (eN Q.2.1) ∧ fq y h h' ∧ rno y 2 0 h h' ∧ r = some (vI 0))
theorem rc_X11_turn : ∀ x : (zQ × (Nat → zQ) × Nat × Nat × Int32), ∃ (j a : Nat) (As : List zV), ca_X11_turn x = vR (10 + 10) j a :: As := by
  rintro ⟨⟨S, K, M⟩, Hs, c, y, i⟩
  exact ⟨_, _, _, rfl⟩
set_option maxHeartbeats 4000000 in
set_option maxRecDepth 100000 in
theorem m_X11_turn : zM yX11_turn cX11_turn 2 (some .int) ({ frames := 2, cells := 0, slots := 0, locals := 43 } : Room) ((ca_X11_turn, cp_X11_turn, cq_X11_turn) : zC (zQ × (Nat → zQ) × Nat × Nat × Int32)) := by
  refine zM_of (by decide) ?_
  rintro X Y ⟨⟨S, K, M⟩, Hs, c, y, i⟩ h hZ O E hR
  have B_37 := zr_aload_n (X := X) (Y := Y) (u := 0) (v := 0) O dX11_turn_37 rfl (zr_cV (ci := 10) (n := 0) O m_X11_keeps (bn_X11_keeps _ ⟨rfl, rfl⟩) vw_X11_keeps tw_1375 rc_X11_keeps (zrm hR rfl rfl) dX11_turn_38 (zr_aload_n O dX11_turn_41 rfl (zr_gS (ci := 10) (j := 2) (off := 2) (t := 1) (n := 218) O zc_10 (by decide) rfl tw_1189 dX11_turn_42 (zr_bipush (x := (105)) O dX11_turn_45 (by decide) (zr_iload_n O dX11_turn_47 rfl (zr_iadd O dX11_turn_48 (zr_dup2 O dX11_turn_49 (zr_iald O dX11_turn_50 (zr_iconst (x := 1) O dX11_turn_51 rfl (zr_ixor O dX11_turn_52 (zr_iast O dX11_turn_53 (zr_aload_n O dX11_turn_54 rfl (zr_gS (ci := 10) (j := 2) (off := 2) (t := 1) (n := 218) O zc_10 (by decide) rfl tw_1189 dX11_turn_55 (zr_bipush (x := (105)) O dX11_turn_58 (by decide) (zr_iload_n O dX11_turn_60 rfl (zr_iadd O dX11_turn_61 (zr_iald O dX11_turn_62 (zr_ireturn O E (Nat.le_refl _) (Nat.le_refl _) dX11_turn_63))))))))))))))))))
  have B_35 := zr_iconst (X := X) (Y := Y) (u := 0) (v := 0) (x := 0) O dX11_turn_35 rfl (zr_ireturn O E (Nat.le_refl _) (Nat.le_refl _) dX11_turn_36)
  have B_0 := zr_aload_n (X := X) (Y := Y) (u := 0) (v := 0) O dX11_turn_0 rfl (zr_iconst (x := 0) O dX11_turn_1 rfl (zr_pI (ci := 10) (j := 0) O zc_10 (by decide) rfl rfl rfl tw_1187 dX11_turn_2 (zr_aload_n O dX11_turn_5 rfl (zr_cH (zr_cV (ci := 10) (n := 0) O m_X11_isKept (bn_X11_isKept _ ⟨rfl, rfl⟩) vw_X11_isKept tw_1483 rc_X11_isKept (zrm hR rfl rfl) dX11_turn_6 (zr_ifeq (tgt := 35) O dX11_turn_9 rfl B_35 (zr_aload_n O dX11_turn_12 rfl (zr_iload_n O dX11_turn_13 rfl (zr_iconst (x := 0) O dX11_turn_14 rfl (zr_aload_n O dX11_turn_15 rfl (zr_gS (ci := 10) (j := 2) (off := 2) (t := 1) (n := 218) O zc_10 (by decide) rfl tw_1189 dX11_turn_16 (zr_bipush (x := (45)) O dX11_turn_19 (by decide) (zr_iald O dX11_turn_21 (zr_iconst (x := 1) O dX11_turn_22 rfl (zr_isub O dX11_turn_23 (zr_cI (zr_cS (n := 3) O m_X11_within (bn_X11_within _ ⟨rfl, rfl⟩) tw_1306 tw_1305 (zrm hR rfl rfl) dX11_turn_24 (zr_iconst (x := 2) O dX11_turn_27 rfl (zr_iconst (x := 0) O dX11_turn_28 rfl (zr_cH (zr_cV (ci := 10) (n := 3) O m_X11_isFine (bn_X11_isFine _ ⟨rfl, rfl⟩) vw_X11_isFine tw_1308 rc_X11_isFine (zrm hR rfl rfl) dX11_turn_29 (zr_ifne (tgt := 37) O dX11_turn_32 rfl B_37 (B_35)))))))))))))))))))))))
  refine ⟨rfl, Nat.le_of_ble_eq_true rfl, _, B_0, ?_⟩
  have hZ : rmZ ((S, K, M), Hs, c) y h := hZ
  have hZ0 := rmZ_fq (fq_0 y h).1 hZ
  have hE0 : rmE K ((zsI h y 0 0).1 (y + 2)) := hZ0.2.1
  have h28 := hE0.2.1.1
  refine ⟨(K, y), rfl, ⟨hE0, t0 h y⟩, fun d => ?_, fun d => ?_⟩
  · obtain ⟨g, e⟩ := kept_no d
    rw [e]
    exact Or.inr (Or.inl ⟨g, (fq_rf 1 (fq_0 y h)).1, (fq_rf 1 (fq_0 y h)).2, rfl⟩)
  · obtain ⟨h0, e⟩ := kept_ok d
    rw [e]
    have eb : decide (0 ≤ i ∧ i ≤ nI (eN K) - 1) = decide (0 ≤ i ∧ i < nI (eN K)) := decide_eq_decide.mpr (gC_w (by omega))
    refine ⟨45, rfl, by decide, (i, 0, nI (eN K) - 1), by rw [hE0.1]; rfl, trivial, (y, decide (0 ≤ i ∧ i < nI (eN K)), 2, 0), ?_, ⟨by decide, by decide⟩, fun d => ?_, fun d => ?_⟩
    · show [vR 20 0 y, vI (bI (decide (0 ≤ i ∧ i ≤ nI (eN K) - 1))), vI 2, vI 0] = _
      rw [eb]; rfl
    · obtain ⟨g0, e⟩ := fine_ok (t0 h y) d
      rw [e]
      obtain ⟨a, rfl, ha, ea⟩ := cntx (by omega) g0
      refine ⟨((S, K, M), Hs, c, y), rfl, hZ0, fun r h2 hq2 => ?_⟩
      obtain ⟨rfl, hZ2, kp⟩ := hq2
      replace hZ2 : rmZ ((S, K, M), hcn (S, K, M) Hs, min (c + 1) 12) y h2 := hZ2
      replace kp : kpd y (zsI h y 0 0) h2 := kp
      have hE2 : rmE K (h2.1 (y + 2)) := hZ2.2.1
      obtain ⟨a1, ⟨v1, v2⟩, a2⟩ := hE2
      obtain ⟨u1, u2, u3, u4, ⟨u5, u6, u7⟩, u8, u9⟩ := v2 h0
      obtain ⟨b1, b2⟩ := a2 h0
      have hx : eH K ^^^ 2 ^ a < 2 ^ eN K := Nat.xor_lt_two_pow u6 (Nat.pow_lt_pow_right (by omega) ha)
      have ebit : ∀ j, (eH K ^^^ 2 ^ a).testBit j = ((eH K).testBit j ^^ decide (a = j)) := fun j => by rw [Nat.testBit_xor, Nat.testBit_two_pow]
      have ex : h2.1 (y + 2) (105 + a) ^^^ 1 = bI ((eH K ^^^ 2 ^ a).testBit a) := by
        rw [(b2 a ha).2.2.1, ebit, decide_eq_true rfl]
        exact bI_xor _ true
      refine ⟨105 + a, lI 105 a, by omega, 105 + a, lI 105 a, by omega, 105 + a, lI 105 a, by omega, ?_⟩
      show cq_X11_turn ((S, K, M), Hs, c, y, nI a) h (some (vI ((zsI h2 (y + 2) (105 + a) (h2.1 (y + 2) (105 + a) ^^^ 1)).1 (y + 2) (105 + a)))) (zsI h2 (y + 2) (105 + a) (h2.1 (y + 2) (105 + a) ^^^ 1))
      rw [zsI_me, ex, zsI_W]
      obtain ⟨k1, k2⟩ := kp_end kp (va_up (h2.1 (y + 2)) (105 + a) (bI ((eH K ^^^ 2 ^ a).testBit a)))
      refine Or.inl ⟨h0, g0, k1, k2, zri (by rw [ea]), ?_⟩
      rw [ea]
      refine rmZ_m (Q := (S, K, M)) (R := (S, tnE K a, M)) ⟨rfl, rfl, rfl, rfl⟩ (rmr_cg hZ2.1.1.2 (fun k hk => zup_n _ _ (by omega)) ⟨hZ2.1.2.2.1, hZ2.1.2.2.2.2⟩) ?_ (rmL_cg (fun k hk hk2 _ => zup_n _ _ (by omega)) hZ2.2.2.1) hZ2
      refine ⟨by rw [zup_n _ _ (by omega)]; exact a1, ⟨v1, fun _ => ⟨u1, u2, u3, u4, ⟨u5, hx, u7⟩, u8, u9⟩⟩, fun _ => ⟨by rw [zup_n _ _ (by omega), zup_n _ _ (by omega), zup_n _ _ (by omega)]; exact b1, fun j hj => ?_⟩⟩
      obtain ⟨q1, q2, q3, q4⟩ := b2 j hj
      have hj : j < eN K := hj
      refine ⟨by rw [zup_n _ _ (by omega)]; exact q1, by rw [zup_n _ _ (by omega)]; exact q2, ?_, by rw [zup_n _ _ (by omega)]; exact q4⟩
      show _ = bI ((eH K ^^^ 2 ^ a).testBit j)
      by_cases e : j = a
      · rw [e, zup_s]
      · rw [zup_n _ _ (by omega), q3, ebit, decide_eq_false (fun z => e z.symm), Bool.xor_false]
    · obtain ⟨g0, e⟩ := fine_no (t0 h y) d
      rw [e]
      exact Or.inr (Or.inr ⟨h0, g0, (fq_rf 2 (fq_0 y h)).1, (fq_rf 2 (fq_0 y h)).2, rfl⟩)

