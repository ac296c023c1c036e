theorem dX11_clears_19 : decode cX11_clears 19 = .ok (.aload_n 0, 1) := by decide +kernel
theorem dX11_clears_20 : decode cX11_clears 20 = .ok (.iconst 1, 1) := by decide +kernel
theorem dX11_clears_21 : decode cX11_clears 21 = .ok (.bipush 20, 2) := by decide +kernel
theorem dX11_clears_23 : decode cX11_clears 23 = .ok (.iastore, 1) := by decide +kernel
theorem dX11_clears_24 : decode cX11_clears 24 = .ok (.aload_n 0, 1) := by decide +kernel
theorem dX11_clears_25 : decode cX11_clears 25 = .ok (.iconst 2, 1) := by decide +kernel
theorem dX11_clears_26 : decode cX11_clears 26 = .ok (.bipush 20, 2) := by decide +kernel
theorem dX11_clears_28 : decode cX11_clears 28 = .ok (.iastore, 1) := by decide +kernel
theorem dX11_clears_29 : decode cX11_clears 29 = .ok (.aload_n 0, 1) := by decide +kernel
theorem dX11_clears_30 : decode cX11_clears 30 = .ok (.iconst 4, 1) := by decide +kernel
theorem dX11_clears_31 : decode cX11_clears 31 = .ok (.iconst 3, 1) := by decide +kernel
theorem dX11_clears_32 : decode cX11_clears 32 = .ok (.iastore, 1) := by decide +kernel
theorem dX11_clears_33 : decode cX11_clears 33 = .ok (.return_, 1) := by decide +kernel
theorem dX11_clears_2 : decode cX11_clears 2 = .ok (.iload_n 1, 1) := by decide +kernel
theorem dX11_clears_3 : decode cX11_clears 3 = .ok (.sipush 218, 3) := by decide +kernel
theorem dX11_clears_6 : decode cX11_clears 6 = .ok (.if_icmp .ge 13, 3) := by decide +kernel
theorem dX11_clears_9 : decode cX11_clears 9 = .ok (.aload_n 0, 1) := by decide +kernel
theorem dX11_clears_10 : decode cX11_clears 10 = .ok (.iload_n 1, 1) := by decide +kernel
theorem dX11_clears_11 : decode cX11_clears 11 = .ok (.iconst 0, 1) := by decide +kernel
theorem dX11_clears_12 : decode cX11_clears 12 = .ok (.iastore, 1) := by decide +kernel
theorem dX11_clears_13 : decode cX11_clears 13 = .ok (.iinc 1 1, 3) := by decide +kernel
theorem dX11_clears_16 : decode cX11_clears 16 = .ok (.goto (-14), 3) := by decide +kernel
theorem dX11_clears_0 : decode cX11_clears 0 = .ok (.iconst 0, 1) := by decide +kernel
theorem dX11_clears_1 : decode cX11_clears 1 = .ok (.istore_n 1, 1) := by decide +kernel
theorem dX11_puts_36 : decode cX11_puts 36 = .ok (.return_, 1) := by decide +kernel
theorem dX11_puts_3 : decode cX11_puts 3 = .ok (.iload_n 2, 1) := by decide +kernel
theorem dX11_puts_4 : decode cX11_puts 4 = .ok (.ifCond .lt 32, 3) := by decide +kernel
theorem dX11_puts_7 : decode cX11_puts 7 = .ok (.aload_n 0, 1) := by decide +kernel
theorem dX11_puts_8 : decode cX11_puts 8 = .ok (.getfield 47, 3) := by decide +kernel
theorem dX11_puts_11 : decode cX11_puts 11 = .ok (.aload_n 0, 1) := by decide +kernel
theorem dX11_puts_12 : decode cX11_puts 12 = .ok (.getfield 127, 3) := by decide +kernel
theorem dX11_puts_15 : decode cX11_puts 15 = .ok (.iload_n 1, 1) := by decide +kernel
theorem dX11_puts_16 : decode cX11_puts 16 = .ok (.iload_n 2, 1) := by decide +kernel
theorem dX11_puts_17 : decode cX11_puts 17 = .ok (.ishr, 1) := by decide +kernel
theorem dX11_puts_18 : decode cX11_puts 18 = .ok (.i2b, 1) := by decide +kernel
theorem dX11_puts_19 : decode cX11_puts 19 = .ok (.bastore, 1) := by decide +kernel
theorem dX11_puts_20 : decode cX11_puts 20 = .ok (.aload_n 0, 1) := by decide +kernel
theorem dX11_puts_21 : decode cX11_puts 21 = .ok (.dup, 1) := by decide +kernel
theorem dX11_puts_22 : decode cX11_puts 22 = .ok (.getfield 127, 3) := by decide +kernel
theorem dX11_puts_25 : decode cX11_puts 25 = .ok (.iconst 1, 1) := by decide +kernel
theorem dX11_puts_26 : decode cX11_puts 26 = .ok (.iadd, 1) := by decide +kernel
theorem dX11_puts_27 : decode cX11_puts 27 = .ok (.putfield 127, 3) := by decide +kernel
theorem dX11_puts_30 : decode cX11_puts 30 = .ok (.iinc 2 (-8), 3) := by decide +kernel
theorem dX11_puts_33 : decode cX11_puts 33 = .ok (.goto (-30), 3) := by decide +kernel
theorem dX11_puts_0 : decode cX11_puts 0 = .ok (.bipush 24, 2) := by decide +kernel
theorem dX11_puts_2 : decode cX11_puts 2 = .ok (.istore_n 2, 1) := by decide +kernel
theorem dX11_feed_20 : decode cX11_feed 20 = .ok (.aload_n 0, 1) := by decide +kernel
theorem dX11_feed_21 : decode cX11_feed 21 = .ok (.iload_n 1, 1) := by decide +kernel
theorem dX11_feed_22 : decode cX11_feed 22 = .ok (.invokevirtual 130, 3) := by decide +kernel
theorem dX11_feed_25 : decode cX11_feed 25 = .ok (.aload_n 0, 1) := by decide +kernel
theorem dX11_feed_26 : decode cX11_feed 26 = .ok (.iload_n 2, 1) := by decide +kernel
theorem dX11_feed_27 : decode cX11_feed 27 = .ok (.invokevirtual 130, 3) := by decide +kernel
theorem dX11_feed_30 : decode cX11_feed 30 = .ok (.aload_n 0, 1) := by decide +kernel
theorem dX11_feed_31 : decode cX11_feed 31 = .ok (.iload_n 3, 1) := by decide +kernel
theorem dX11_feed_32 : decode cX11_feed 32 = .ok (.invokevirtual 130, 3) := by decide +kernel
theorem dX11_feed_35 : decode cX11_feed 35 = .ok (.aload_n 0, 1) := by decide +kernel
theorem dX11_feed_36 : decode cX11_feed 36 = .ok (.iload 4, 2) := by decide +kernel
theorem dX11_feed_38 : decode cX11_feed 38 = .ok (.invokevirtual 130, 3) := by decide +kernel
theorem dX11_feed_41 : decode cX11_feed 41 = .ok (.aload_n 0, 1) := by decide +kernel
theorem dX11_feed_42 : decode cX11_feed 42 = .ok (.iload 5, 2) := by decide +kernel
theorem dX11_feed_44 : decode cX11_feed 44 = .ok (.invokevirtual 130, 3) := by decide +kernel
theorem dX11_feed_47 : decode cX11_feed 47 = .ok (.aload_n 0, 1) := by decide +kernel
theorem dX11_feed_48 : decode cX11_feed 48 = .ok (.getfield 127, 3) := by decide +kernel
theorem dX11_feed_51 : decode cX11_feed 51 = .ok (.ireturn, 1) := by decide +kernel
theorem dX11_feed_0 : decode cX11_feed 0 = .ok (.aload_n 0, 1) := by decide +kernel
theorem dX11_feed_1 : decode cX11_feed 1 = .ok (.iconst 0, 1) := by decide +kernel
theorem dX11_feed_2 : decode cX11_feed 2 = .ok (.putfield 1, 3) := by decide +kernel
theorem dX11_feed_5 : decode cX11_feed 5 = .ok (.aload_n 0, 1) := by decide +kernel
theorem dX11_feed_6 : decode cX11_feed 6 = .ok (.getfield 127, 3) := by decide +kernel
theorem dX11_feed_9 : decode cX11_feed 9 = .ok (.bipush 20, 2) := by decide +kernel
theorem dX11_feed_11 : decode cX11_feed 11 = .ok (.iadd, 1) := by decide +kernel
theorem dX11_feed_12 : decode cX11_feed 12 = .ok (.sipush 400, 3) := by decide +kernel
theorem dX11_feed_15 : decode cX11_feed 15 = .ok (.if_icmp .le 5, 3) := by decide +kernel
theorem dX11_feed_18 : decode cX11_feed 18 = .ok (.iconst (-1), 1) := by decide +kernel
theorem dX11_feed_19 : decode cX11_feed 19 = .ok (.ireturn, 1) := by decide +kernel
theorem dX11_wrong_8 : decode cX11_wrong 8 = .ok (.aload_n 0, 1) := by decide +kernel
theorem dX11_wrong_9 : decode cX11_wrong 9 = .ok (.iload_n 1, 1) := by decide +kernel
theorem dX11_wrong_10 : decode cX11_wrong 10 = .ok (.putfield 134, 3) := by decide +kernel
theorem dX11_wrong_13 : decode cX11_wrong 13 = .ok (.aload_n 0, 1) := by decide +kernel
theorem dX11_wrong_14 : decode cX11_wrong 14 = .ok (.iload_n 2, 1) := by decide +kernel
theorem dX11_wrong_15 : decode cX11_wrong 15 = .ok (.putfield 137, 3) := by decide +kernel
theorem dX11_wrong_18 : decode cX11_wrong 18 = .ok (.return_, 1) := by decide +kernel
theorem dX11_wrong_0 : decode cX11_wrong 0 = .ok (.aload_n 0, 1) := by decide +kernel
theorem dX11_wrong_1 : decode cX11_wrong 1 = .ok (.getfield 134, 3) := by decide +kernel
theorem dX11_wrong_4 : decode cX11_wrong 4 = .ok (.ifCond .le 4, 3) := by decide +kernel
theorem dX11_wrong_7 : decode cX11_wrong 7 = .ok (.return_, 1) := by decide +kernel
theorem dX11_sign_62 : decode cX11_sign 62 = .ok (.ireturn, 1) := by decide +kernel
theorem dX11_sign_61 : decode cX11_sign 61 = .ok (.iconst 0, 1) := by decide +kernel
theorem dX11_sign_38 : decode cX11_sign 38 = .ok (.aload_n 0, 1) := by decide +kernel
theorem dX11_sign_39 : decode cX11_sign 39 = .ok (.getfield 140, 3) := by decide +kernel
theorem dX11_sign_42 : decode cX11_sign 42 = .ok (.aload_n 0, 1) := by decide +kernel
theorem dX11_sign_43 : decode cX11_sign 43 = .ok (.getfield 143, 3) := by decide +kernel
theorem dX11_sign_46 : decode cX11_sign 46 = .ok (.if_icmp .ge 15, 3) := by decide +kernel
theorem dX11_sign_49 : decode cX11_sign 49 = .ok (.aload_n 0, 1) := by decide +kernel
theorem dX11_sign_50 : decode cX11_sign 50 = .ok (.getfield 51, 3) := by decide +kernel
theorem dX11_sign_53 : decode cX11_sign 53 = .ok (.aload_n 0, 1) := by decide +kernel
theorem dX11_sign_54 : decode cX11_sign 54 = .ok (.getfield 140, 3) := by decide +kernel
theorem dX11_sign_57 : decode cX11_sign 57 = .ok (.baload, 1) := by decide +kernel
theorem dX11_sign_58 : decode cX11_sign 58 = .ok (.goto 4, 3) := by decide +kernel
theorem dX11_sign_0 : decode cX11_sign 0 = .ok (.aload_n 0, 1) := by decide +kernel
theorem dX11_sign_1 : decode cX11_sign 1 = .ok (.getfield 140, 3) := by decide +kernel
theorem dX11_sign_4 : decode cX11_sign 4 = .ok (.aload_n 0, 1) := by decide +kernel
theorem dX11_sign_5 : decode cX11_sign 5 = .ok (.getfield 143, 3) := by decide +kernel
theorem dX11_sign_8 : decode cX11_sign 8 = .ok (.if_icmp .ge 30, 3) := by decide +kernel
theorem dX11_sign_11 : decode cX11_sign 11 = .ok (.aload_n 0, 1) := by decide +kernel
theorem dX11_sign_12 : decode cX11_sign 12 = .ok (.getfield 51, 3) := by decide +kernel
theorem dX11_sign_15 : decode cX11_sign 15 = .ok (.aload_n 0, 1) := by decide +kernel
theorem dX11_sign_16 : decode cX11_sign 16 = .ok (.getfield 140, 3) := by decide +kernel
theorem dX11_sign_19 : decode cX11_sign 19 = .ok (.baload, 1) := by decide +kernel
theorem dX11_sign_20 : decode cX11_sign 20 = .ok (.bipush 32, 2) := by decide +kernel
theorem dX11_sign_22 : decode cX11_sign 22 = .ok (.if_icmp .ne 16, 3) := by decide +kernel
theorem dX11_sign_25 : decode cX11_sign 25 = .ok (.aload_n 0, 1) := by decide +kernel
theorem dX11_sign_26 : decode cX11_sign 26 = .ok (.dup, 1) := by decide +kernel
theorem dX11_sign_27 : decode cX11_sign 27 = .ok (.getfield 140, 3) := by decide +kernel
theorem dX11_sign_30 : decode cX11_sign 30 = .ok (.iconst 1, 1) := by decide +kernel
theorem dX11_sign_31 : decode cX11_sign 31 = .ok (.iadd, 1) := by decide +kernel
theorem dX11_sign_32 : decode cX11_sign 32 = .ok (.putfield 140, 3) := by decide +kernel
theorem dX11_sign_35 : decode cX11_sign 35 = .ok (.goto (-35), 3) := by decide +kernel
theorem dX11_isSmall_35 : decode cX11_isSmall 35 = .ok (.ireturn, 1) := by decide +kernel
theorem dX11_isSmall_34 : decode cX11_isSmall 34 = .ok (.iconst 0, 1) := by decide +kernel
theorem dX11_isSmall_0 : decode cX11_isSmall 0 = .ok (.iload_n 1, 1) := by decide +kernel
theorem dX11_isSmall_1 : decode cX11_isSmall 1 = .ok (.aload_n 0, 1) := by decide +kernel
theorem dX11_isSmall_2 : decode cX11_isSmall 2 = .ok (.getfield 143, 3) := by decide +kernel
theorem dX11_isSmall_5 : decode cX11_isSmall 5 = .ok (.if_icmp .ge 29, 3) := by decide +kernel
theorem dX11_isSmall_8 : decode cX11_isSmall 8 = .ok (.aload_n 0, 1) := by decide +kernel
theorem dX11_isSmall_9 : decode cX11_isSmall 9 = .ok (.getfield 51, 3) := by decide +kernel
theorem dX11_isSmall_12 : decode cX11_isSmall 12 = .ok (.iload_n 1, 1) := by decide +kernel
theorem dX11_isSmall_13 : decode cX11_isSmall 13 = .ok (.baload, 1) := by decide +kernel
theorem dX11_isSmall_14 : decode cX11_isSmall 14 = .ok (.bipush 97, 2) := by decide +kernel
theorem dX11_isSmall_16 : decode cX11_isSmall 16 = .ok (.if_icmp .lt 18, 3) := by decide +kernel
theorem dX11_isSmall_19 : decode cX11_isSmall 19 = .ok (.aload_n 0, 1) := by decide +kernel
theorem dX11_isSmall_20 : decode cX11_isSmall 20 = .ok (.getfield 51, 3) := by decide +kernel
theorem dX11_isSmall_23 : decode cX11_isSmall 23 = .ok (.iload_n 1, 1) := by decide +kernel
theorem dX11_isSmall_24 : decode cX11_isSmall 24 = .ok (.baload, 1) := by decide +kernel
theorem dX11_isSmall_25 : decode cX11_isSmall 25 = .ok (.bipush 122, 2) := by decide +kernel
theorem dX11_isSmall_27 : decode cX11_isSmall 27 = .ok (.if_icmp .gt 7, 3) := by decide +kernel
theorem dX11_isSmall_30 : decode cX11_isSmall 30 = .ok (.iconst 1, 1) := by decide +kernel
theorem dX11_isSmall_31 : decode cX11_isSmall 31 = .ok (.goto 4, 3) := by decide +kernel
theorem dX11_passes_73 : decode cX11_passes 73 = .ok (.aload_n 0, 1) := by decide +kernel
theorem dX11_passes_74 : decode cX11_passes 74 = .ok (.aload_n 0, 1) := by decide +kernel
theorem dX11_passes_75 : decode cX11_passes 75 = .ok (.getfield 140, 3) := by decide +kernel
theorem dX11_passes_78 : decode cX11_passes 78 = .ok (.putfield 162, 3) := by decide +kernel
theorem dX11_passes_81 : decode cX11_passes 81 = .ok (.aload_n 0, 1) := by decide +kernel
theorem dX11_passes_82 : decode cX11_passes 82 = .ok (.dup, 1) := by decide +kernel
theorem dX11_passes_83 : decode cX11_passes 83 = .ok (.getfield 140, 3) := by decide +kernel
theorem dX11_passes_86 : decode cX11_passes 86 = .ok (.aload_n 1, 1) := by decide +kernel
theorem dX11_passes_87 : decode cX11_passes 87 = .ok (.invokevirtual 149, 3) := by decide +kernel
theorem dX11_passes_90 : decode cX11_passes 90 = .ok (.iadd, 1) := by decide +kernel
theorem dX11_passes_91 : decode cX11_passes 91 = .ok (.putfield 140, 3) := by decide +kernel
theorem dX11_passes_94 : decode cX11_passes 94 = .ok (.iconst 1, 1) := by decide +kernel
theorem dX11_passes_95 : decode cX11_passes 95 = .ok (.ireturn, 1) := by decide +kernel
theorem dX11_passes_55 : decode cX11_passes 55 = .ok (.aload_n 0, 1) := by decide +kernel
theorem dX11_passes_56 : decode cX11_passes 56 = .ok (.aload_n 0, 1) := by decide +kernel
theorem dX11_passes_57 : decode cX11_passes 57 = .ok (.getfield 140, 3) := by decide +kernel
theorem dX11_passes_60 : decode cX11_passes 60 = .ok (.aload_n 1, 1) := by decide +kernel
theorem dX11_passes_61 : decode cX11_passes 61 = .ok (.invokevirtual 149, 3) := by decide +kernel
theorem dX11_passes_64 : decode cX11_passes 64 = .ok (.iadd, 1) := by decide +kernel
theorem dX11_passes_65 : decode cX11_passes 65 = .ok (.invokevirtual 154, 3) := by decide +kernel
theorem dX11_passes_68 : decode cX11_passes 68 = .ok (.ifCond .eq 5, 3) := by decide +kernel
theorem dX11_passes_71 : decode cX11_passes 71 = .ok (.iconst 0, 1) := by decide +kernel
theorem dX11_passes_72 : decode cX11_passes 72 = .ok (.ireturn, 1) := by decide +kernel
theorem dX11_passes_49 : decode cX11_passes 49 = .ok (.iinc 2 1, 3) := by decide +kernel
theorem dX11_passes_52 : decode cX11_passes 52 = .ok (.goto (-45), 3) := by decide +kernel
theorem dX11_passes_47 : decode cX11_passes 47 = .ok (.iconst 0, 1) := by decide +kernel
theorem dX11_passes_48 : decode cX11_passes 48 = .ok (.ireturn, 1) := by decide +kernel
theorem dX11_passes_7 : decode cX11_passes 7 = .ok (.iload_n 2, 1) := by decide +kernel
theorem dX11_passes_8 : decode cX11_passes 8 = .ok (.aload_n 1, 1) := by decide +kernel
theorem dX11_passes_9 : decode cX11_passes 9 = .ok (.invokevirtual 149, 3) := by decide +kernel
theorem dX11_passes_12 : decode cX11_passes 12 = .ok (.if_icmp .ge 43, 3) := by decide +kernel
theorem dX11_passes_15 : decode cX11_passes 15 = .ok (.aload_n 0, 1) := by decide +kernel
theorem dX11_passes_16 : decode cX11_passes 16 = .ok (.aload_n 0, 1) := by decide +kernel
theorem dX11_passes_17 : decode cX11_passes 17 = .ok (.getfield 140, 3) := by decide +kernel
theorem dX11_passes_20 : decode cX11_passes 20 = .ok (.iload_n 2, 1) := by decide +kernel
theorem dX11_passes_21 : decode cX11_passes 21 = .ok (.iadd, 1) := by decide +kernel
theorem dX11_passes_22 : decode cX11_passes 22 = .ok (.invokevirtual 154, 3) := by decide +kernel
theorem dX11_passes_25 : decode cX11_passes 25 = .ok (.ifCond .eq 22, 3) := by decide +kernel
theorem dX11_passes_28 : decode cX11_passes 28 = .ok (.aload_n 0, 1) := by decide +kernel
theorem dX11_passes_29 : decode cX11_passes 29 = .ok (.getfield 51, 3) := by decide +kernel
theorem dX11_passes_32 : decode cX11_passes 32 = .ok (.aload_n 0, 1) := by decide +kernel
theorem dX11_passes_33 : decode cX11_passes 33 = .ok (.getfield 140, 3) := by decide +kernel
theorem dX11_passes_36 : decode cX11_passes 36 = .ok (.iload_n 2, 1) := by decide +kernel
theorem dX11_passes_37 : decode cX11_passes 37 = .ok (.iadd, 1) := by decide +kernel
theorem dX11_passes_38 : decode cX11_passes 38 = .ok (.baload, 1) := by decide +kernel
theorem dX11_passes_39 : decode cX11_passes 39 = .ok (.aload_n 1, 1) := by decide +kernel
theorem dX11_passes_40 : decode cX11_passes 40 = .ok (.iload_n 2, 1) := by decide +kernel
theorem dX11_passes_41 : decode cX11_passes 41 = .ok (.invokevirtual 158, 3) := by decide +kernel
theorem dX11_passes_44 : decode cX11_passes 44 = .ok (.if_icmp .eq 5, 3) := by decide +kernel
theorem dX11_passes_0 : decode cX11_passes 0 = .ok (.aload_n 0, 1) := by decide +kernel
theorem dX11_passes_1 : decode cX11_passes 1 = .ok (.invokevirtual 146, 3) := by decide +kernel
theorem dX11_passes_4 : decode cX11_passes 4 = .ok (.pop, 1) := by decide +kernel
theorem dX11_passes_5 : decode cX11_passes 5 = .ok (.iconst 0, 1) := by decide +kernel
theorem dX11_passes_6 : decode cX11_passes 6 = .ok (.istore_n 2, 1) := by decide +kernel
/-! the reference: the tape, signs, words -/
def clr (k : Nat) : Int32 := if k = 1 ∨ k = 2 then 20 else if k = 4 then 3 else 0
def ca_X11_clears : (Nat) → List zV := fun a => [vR 1 218 a]
def cp_X11_clears : (Nat) → zH → Prop := fun _ _ => True
def cq_X11_clears : (Nat) → zH → Option zV → zH → Prop := fun a h r h' => r = none ∧ ∃ f : Nat → Int32, h' = zsW h a f ∧ ∀ k, k < 218 → f k = clr k
set_option maxHeartbeats 4000000 in
set_option maxRecDepth 100000 in
theorem m_X11_clears : zM yX11_clears cX11_clears 2 none ({ frames := 0, cells := 0, slots := 0, locals := 0 } : Room) ((ca_X11_clears, cp_X11_clears, cq_X11_clears) : zC (Nat)) := by
  refine zM_of (by decide) ?_
  rintro X Y a h _ O E hR
  have B_19 := zr_aload_n (X := X) (Y := Y) (u := 0) (v := 0) O dX11_clears_19 rfl (zr_iconst (x := 1) O dX11_clears_20 rfl (zr_bipush (x := (20)) O dX11_clears_21 (by decide) (zr_iast O dX11_clears_23 (zr_aload_n O dX11_clears_24 rfl (zr_iconst (x := 2) O dX11_clears_25 rfl (zr_bipush (x := (20)) O dX11_clears_26 (by decide) (zr_iast O dX11_clears_28 (zr_aload_n O dX11_clears_29 rfl (zr_iconst (x := 4) O dX11_clears_30 rfl (zr_iconst (x := 3) O dX11_clears_31 rfl (zr_iast O dX11_clears_32 (zr_return O E (Nat.le_refl _) (Nat.le_refl _) dX11_clears_33))))))))))))
  have L_2 : ∀ nn : Nat, zSd X Y 0 0 2 ((fun d ls st h1 => ∃ (k : Nat) (z : Int32) (f : Nat → Int32), d = 218 - k ∧ k ≤ 218 ∧ ls = [some (vR 1 218 a), some (vI z)] ∧ z = nI k ∧ st = [] ∧ h1 = zsW h a f ∧ ∀ j, j < k → f j = 0 : Nat → zT) nn) := by
    refine zSd_loop (fun nn ih => ?_)
    have B_2 := zr_iload_n (X := X) (Y := Y) (u := 0) (v := 0) O dX11_clears_2 rfl (zr_sipush (x := (218)) O dX11_clears_3 (by decide) (zr_icge (tgt := 19) O dX11_clears_6 rfl B_19 (zr_aload_n O dX11_clears_9 rfl (zr_iload_n O dX11_clears_10 rfl (zr_iconst (x := 0) O dX11_clears_11 rfl (zr_iast O dX11_clears_12 (zr_iinc (c := 1) O dX11_clears_13 rfl (zr_goto (tgt := 2) O dX11_clears_16 rfl ih))))))))
    refine zSd_weak B_2 (fun ls st h1 t => ?_)
    obtain ⟨k, z, f, rfl, hk, rfl, rfl, rfl, rfl, hf⟩ := t
    refine ⟨fun cq => ?_, fun cq => ?_⟩
    · have := (nI_leI (a := 218) (by omega) (by omega)).mp cq
      refine ⟨1, rfl, by decide, 2, rfl, by decide, 4, rfl, by decide, rfl, va_up (va_up (va_up f 1 20) 2 20) 4 3, ?_, fun j hj => ?_⟩
      · rw [zsI_W (zsW h a f), zsW_W, zsW_s, zsI_W (zsW h a _), zsW_W, zsW_s, zsI_W, zsW_W, zsW_s]
      · unfold clr
        by_cases e4 : j = 4
        · rw [e4, zup_s, if_neg (by decide), if_pos rfl]
        · rw [zup_n _ _ e4]
          by_cases e2 : j = 2
          · rw [e2, zup_s, if_pos (Or.inr rfl)]
          · rw [zup_n _ _ e2]
            by_cases e1 : j = 1
            · rw [e1, zup_s, if_pos (Or.inl rfl)]
            · rw [zup_n _ _ e1, if_neg (by omega), if_neg e4]; exact hf j (by omega)
    · have hk2 : k < 218 := Nat.not_le.mp (fun z => cq ((nI_leI (a := 218) (by omega) (by omega)).mpr z))
      refine ⟨k, rfl, hk2, 218 - (k + 1), by omega, k + 1, _, va_up f k 0, rfl, by omega, rfl, nI_1 k, rfl, ?_, fun j hj => ?_⟩
      · rw [zsI_W, zsW_W, zsW_s]
      · by_cases e : j = k
        · rw [e, zup_s]
        · rw [zup_n _ _ e]; exact hf j (by omega)
  have B_2 := zSd_any L_2
  have B_0 := zr_iconst (X := X) (Y := Y) (u := 0) (v := 0) (x := 0) O dX11_clears_0 rfl (zr_istore_n O dX11_clears_1 rfl (B_2))
  refine ⟨rfl, Nat.le_of_ble_eq_true rfl, _, B_0, ?_⟩
  exact ⟨218 - 0, 0, _, h.1 a, rfl, Nat.zero_le _, rfl, rfl, rfl, (zsW_self _ _).symm, fun j hj => absurd hj (Nat.not_lt_zero _)⟩
/-- a byte with its sign -/
def b8 (x : Int32) : Int32 := x.toInt8.toInt32
theorem b8_by (v : Int32) (s : Int32) : b8 (b8 (v >>> s)) = b8 ((v >>> s) &&& 255) := by
  unfold b8
  rw [fb_byte_twice, fa_byte_low]
def ca_X11_puts : (Nat × Nat × Int32) → List zV := fun (y, n, v) => [vR 20 0 y, vI v]
def cp_X11_puts : (Nat × Nat × Int32) → zH → Prop := fun (y, n, v) h => h.1 y 17 = nI n ∧ n + 4 ≤ 400
def cq_X11_puts : (Nat × Nat × Int32) → zH → Option zV → zH → Prop := fun (y, n, v) h o h' => o = none ∧ ∃ f F : Nat → Int32, h' = zsW (zsW h (y + 12) f) y F ∧ F 17 = nI (n + 4) ∧ (∀ k, k ≠ 17 → F k = h.1 y k) ∧ (∀ j, j < n → f j = h.1 (y + 12) j) ∧ ∀ q, q < 4 → f (n + q) = b8 (by4 v q)
theorem rc_X11_puts : ∀ x : (Nat × Nat × Int32), ∃ (j a : Nat) (As : List zV), ca_X11_puts x = vR (10 + 10) j a :: As := by
  rintro ⟨y, n, v⟩
  exact ⟨_, _, _, rfl⟩
set_option maxHeartbeats 4000000 in
set_option maxRecDepth 100000 in
theorem m_X11_puts : zM yX11_puts cX11_puts 3 none ({ frames := 0, cells := 0, slots := 0, locals := 0 } : Room) ((ca_X11_puts, cp_X11_puts, cq_X11_puts) : zC (Nat × Nat × Int32)) := by
  refine zM_of (by decide) ?_
  rintro X Y ⟨y, n, v⟩ h ⟨hn, hn4⟩ O E hR
  have hn : h.1 y 17 = nI n := hn
  have hn4 : n + 4 ≤ 400 := hn4
  have B_36 := zr_return (X := X) (Y := Y) (u := 0) (v := 0) O E (Nat.le_refl _) (Nat.le_refl _) dX11_puts_36
  have L_3 : ∀ nn : Nat, zSd X Y 0 0 3 ((fun k ls st h1 => ∃ (i : Nat) (z : Int32) (f F : Nat → Int32), k = 4 - i ∧ i ≤ 4 ∧ ls = [some (vR 20 0 y), some (vI v), some (vI z)] ∧ z = sh8 i ∧ st = [] ∧ h1 = zsW (zsW h (y + 12) f) y F ∧ F 17 = nI (n + i) ∧ (∀ k, k ≠ 17 → F k = h.1 y k) ∧ (∀ j, j < n → f j = h.1 (y + 12) j) ∧ ∀ q, q < i → f (n + q) = b8 (by4 v q) : Nat → zT) nn) := by
    refine zSd_loop (fun nn ih => ?_)
    have B_3 := zr_iload_n (X := X) (Y := Y) (u := 0) (v := 0) O dX11_puts_3 rfl (zr_iflt (tgt := 36) O dX11_puts_4 rfl B_36 (zr_aload_n O dX11_puts_7 rfl (zr_gS (ci := 10) (j := 15) (off := 12) (t := 2) (n := 400) O zc_10 (by decide) rfl tw_1202 dX11_puts_8 (zr_aload_n O dX11_puts_11 rfl (zr_gI (ci := 10) (j := 17) O zc_10 (by decide) rfl tw_1204 dX11_puts_12 (zr_iload_n O dX11_puts_15 rfl (zr_iload_n O dX11_puts_16 rfl (zr_ishr O dX11_puts_17 (zr_i2b O dX11_puts_18 (zr_bast O dX11_puts_19 (zr_aload_n O dX11_puts_20 rfl (zr_dup O dX11_puts_21 (zr_gI (ci := 10) (j := 17) O zc_10 (by decide) rfl tw_1204 dX11_puts_22 (zr_iconst (x := 1) O dX11_puts_25 rfl (zr_iadd O dX11_puts_26 (zr_pI (ci := 10) (j := 17) O zc_10 (by decide) rfl rfl rfl tw_1204 dX11_puts_27 (zr_iinc (c := (-8)) O dX11_puts_30 rfl (zr_goto (tgt := 3) O dX11_puts_33 rfl ih))))))))))))))))))
    refine zSd_weak B_3 (fun ls st h1 t => ?_)
    obtain ⟨i, z, f, F, rfl, hi, rfl, rfl, rfl, rfl, F4, Fo, fo, fn⟩ := t
    have ne8 : y + 12 ≠ y := by omega
    have eF : (zsW (zsW h (y + 12) f) y F).1 y = F := zsW_s _ _ _
    have ef : (zsW (zsW h (y + 12) f) y F).1 (y + 12) = f := by rw [zsW_n _ _ ne8, zsW_s]
    refine ⟨fun cq => ?_, fun cq => ?_⟩
    · have hi4 : i = 4 := by
        rcases Nat.lt_or_ge i 4 with z | z
        · exact absurd cq (sh8_s i z).2
        · omega
      subst hi4
      exact ⟨rfl, f, F, rfl, F4, Fo, fo, fn⟩
    · have hi4 : i < 4 := by
        rcases Nat.lt_or_ge i 4 with z | z
        · exact z
        · have : i = 4 := by omega
          rw [this] at cq
          exact absurd sh8_4 cq
      refine ⟨n + i, by rw [eF]; exact F4, by omega, 4 - (i + 1), by omega, i + 1, _, va_up f (n + i) (b8 (by4 v i)), va_up F 17 (nI (n + (i + 1))), rfl, by omega, rfl, (sh8_s i hi4).1, rfl, ?_, zup_s _ _ _, fun k hk => ?_, fun j hj => ?_, fun q hq => ?_⟩
      · have eb : (v >>> (sh8 i &&& 31)).toInt8.toInt32.toInt8.toInt32 = b8 (by4 v i) := b8_by v (sh8 i &&& 31)
        simp only [zsI_W, zsW_s, zsW_n _ _ ne8, zsW_n _ _ ne8.symm, F4, eb]
        rw [zsW_c _ _ _ ne8, zsW_W, zsW_W, nI_1]
        rfl
      · rw [zup_n _ _ hk]; exact Fo k hk
      · rw [zup_n _ _ (by omega)]; exact fo j hj
      · by_cases e : q = i
        · rw [e, zup_s]
        · rw [zup_n _ _ (by omega)]; exact fn q (by omega)
  have B_3 := zSd_any L_3
  have B_0 := zr_bipush (X := X) (Y := Y) (u := 0) (v := 0) (x := (24)) O dX11_puts_0 (by decide) (zr_istore_n O dX11_puts_2 rfl (B_3))
  refine ⟨rfl, Nat.le_of_ble_eq_true rfl, _, B_0, ?_⟩
  refine ⟨4 - 0, 0, _, h.1 (y + 12), h.1 y, rfl, Nat.zero_le _, rfl, by decide, rfl, ?_, hn, fun _ _ => rfl, fun _ _ => rfl, fun q hq => absurd hq (by omega)⟩
  rw [zsW_self, zsW_self]
def tqW (r n m : Nat) (g : Nat → Int32) (h h' : zH) : Prop := ∃ f F : Nat → Int32, h' = zsW (zsW h (r + 12) f) r F ∧ F 17 = nI (n + m) ∧ (∀ k, k ≠ 17 → F k = h.1 r k) ∧ (∀ j, j < n → f j = h.1 (r + 12) j) ∧ ∀ q, q < m → f (n + q) = b8 (g q)
theorem tqW_tr {r n m : Nat} {g g2 : Nat → Int32} {h h1 h2 : zH} (w1 : tqW r n m g h h1) (w2 : tqW r (n + m) 4 g2 h1 h2) : tqW r n (m + 4) (tpC m g g2) h h2 := by
  obtain ⟨f, F, rfl, a1, a2, a3, a4⟩ := w1
  obtain ⟨f2, F2, rfl, b1, b2, b3, b4⟩ := w2
  have ne8 : r + 12 ≠ r := by omega
  refine ⟨f2, F2, ?_, by rw [b1]; congr 1, fun k hk => ?_, fun j hj => ?_, fun q hq => ?_⟩
  · rw [zsW_c _ _ _ ne8, zsW_W, zsW_W]
  · rw [b2 k hk, zsW_s]; exact a2 k hk
  · rw [b3 j (by omega), zsW_n _ _ ne8, zsW_s]; exact a3 j hj
  · unfold tpC
    by_cases e : q < m
    · rw [if_pos e, b3 _ (by omega), zsW_n _ _ ne8, zsW_s]; exact a4 q e
    · rw [if_neg e]
      have := b4 (q - m) (by omega)
      rw [show n + m + (q - m) = n + q by omega] at this
      exact this
theorem tqW_4 {r n m : Nat} {g : Nat → Int32} {h h' : zH} (w : tqW r n m g h h') : h'.1 r 17 = nI (n + m) := by
  obtain ⟨f, F, rfl, a1, -⟩ := w
  rw [zsW_s]
  exact a1
def ca_X11_feed : (Nat × Nat × Int32 × Int32 × Int32 × Int32 × Int32) → List zV := fun (y, n, v1, v2, v3, v4, v5) => [vR 20 0 y, vI v1, vI v2, vI v3, vI v4, vI v5]
def cp_X11_feed : (Nat × Nat × Int32 × Int32 × Int32 × Int32 × Int32) → zH → Prop := fun (y, n, v1, v2, v3, v4, v5) h => h.1 y 17 = nI n ∧ n ≤ 400
def cq_X11_feed : (Nat × Nat × Int32 × Int32 × Int32 × Int32 × Int32) → zH → Option zV → zH → Prop := fun (y, n, v1, v2, v3, v4, v5) h o h' => (400 < n + 20 → o = some (vI (-1)) ∧ h' = zsI h y 0 0) ∧ (n + 20 ≤ 400 → o = some (vI (nI (n + 20))) ∧ tqW y n 20 (fd5 v1 v2 v3 v4 v5) (zsI h y 0 0) h')
theorem rc_X11_feed : ∀ x : (Nat × Nat × Int32 × Int32 × Int32 × Int32 × Int32), ∃ (j a : Nat) (As : List zV), ca_X11_feed x = vR (10 + 10) j a :: As := by
  rintro ⟨y, n, v1, v2, v3, v4, v5⟩
  exact ⟨_, _, _, rfl⟩
set_option maxHeartbeats 4000000 in
set_option maxRecDepth 100000 in
theorem m_X11_feed : zM yX11_feed cX11_feed 6 (some .int) ({ frames := 1, cells := 0, slots := 0, locals := 22 } : Room) ((ca_X11_feed, cp_X11_feed, cq_X11_feed) : zC (Nat × Nat × Int32 × Int32 × Int32 × Int32 × Int32)) := by
  refine zM_of (by decide) ?_
  rintro X Y ⟨y, n, v1, v2, v3, v4, v5⟩ h ⟨hn, hn4⟩ O E hR
  have B_20 := zr_aload_n (X := X) (Y := Y) (u := 0) (v := 0) O dX11_feed_20 rfl (zr_iload_n O dX11_feed_21 rfl (zr_cV (ci := 10) (n := 1) O m_X11_puts (bn_X11_puts _ ⟨rfl, rfl⟩) vw_X11_puts tw_1297 rc_X11_puts (zrm hR rfl rfl) dX11_feed_22 (zr_aload_n O dX11_feed_25 rfl (zr_iload_n O dX11_feed_26 rfl (zr_cV (ci := 10) (n := 1) O m_X11_puts (bn_X11_puts _ ⟨rfl, rfl⟩) vw_X11_puts tw_1297 rc_X11_puts (zrm hR rfl rfl) dX11_feed_27 (zr_aload_n O dX11_feed_30 rfl (zr_iload_n O dX11_feed_31 rfl (zr_cV (ci := 10) (n := 1) O m_X11_puts (bn_X11_puts _ ⟨rfl, rfl⟩) vw_X11_puts tw_1297 rc_X11_puts (zrm hR rfl rfl) dX11_feed_32 (zr_aload_n O dX11_feed_35 rfl (zr_iload O dX11_feed_36 (zr_cV (ci := 10) (n := 1) O m_X11_puts (bn_X11_puts _ ⟨rfl, rfl⟩) vw_X11_puts tw_1297 rc_X11_puts (zrm hR rfl rfl) dX11_feed_38 (zr_aload_n O dX11_feed_41 rfl (zr_iload O dX11_feed_42 (zr_cV (ci := 10) (n := 1) O m_X11_puts (bn_X11_puts _ ⟨rfl, rfl⟩) vw_X11_puts tw_1297 rc_X11_puts (zrm hR rfl rfl) dX11_feed_44 (zr_aload_n O dX11_feed_47 rfl (zr_gI (ci := 10) (j := 17) O zc_10 (by decide) rfl tw_1204 dX11_feed_48 (zr_ireturn O E (Nat.le_refl _) (Nat.le_refl _) dX11_feed_51)))))))))))))))))
  have B_0 := zr_aload_n (X := X) (Y := Y) (u := 0) (v := 0) O dX11_feed_0 rfl (zr_iconst (x := 0) O dX11_feed_1 rfl (zr_pI (ci := 10) (j := 0) O zc_10 (by decide) rfl rfl rfl tw_1187 dX11_feed_2 (zr_aload_n O dX11_feed_5 rfl (zr_gI (ci := 10) (j := 17) O zc_10 (by decide) rfl tw_1204 dX11_feed_6 (zr_bipush (x := (20)) O dX11_feed_9 (by decide) (zr_iadd O dX11_feed_11 (zr_sipush (x := (400)) O dX11_feed_12 (by decide) (zr_icle (tgt := 20) O dX11_feed_15 rfl B_20 (zr_iconst (x := (-1)) O dX11_feed_18 rfl (zr_ireturn O E (Nat.le_refl _) (Nat.le_refl _) dX11_feed_19))))))))))
  refine ⟨rfl, Nat.le_of_ble_eq_true rfl, _, B_0, ?_⟩
  have hn : h.1 y 17 = nI n := hn
  have hn4 : n ≤ 400 := hn4
  have hn0 : (zsI h y 0 0).1 y 17 = nI n := by rw [zsI_at _ _ _ _ _ (by decide)]; exact hn
  refine ⟨fun cq => ?_, fun cq => ⟨fun _ => ⟨rfl, rfl⟩, fun hc => ?_⟩⟩
  · rw [hn0] at cq
    have hc := (fd20 n hn4).mp cq
    refine ⟨(y, n, v1), rfl, ⟨hn0, by omega⟩, fun r1 h1 w1 => ?_⟩
    obtain ⟨rfl, w1⟩ := w1
    have w1 : tqW y n 4 (by4 v1) (zsI h y 0 0) h1 := w1
    refine ⟨(y, n + 4, v2), rfl, ⟨tqW_4 w1, by omega⟩, fun r2 h2 w2 => ?_⟩
    obtain ⟨rfl, w2⟩ := w2
    have w2 := tqW_tr w1 w2
    refine ⟨(y, n + 8, v3), rfl, ⟨tqW_4 w2, by omega⟩, fun r3 h3 w3 => ?_⟩
    obtain ⟨rfl, w3⟩ := w3
    have w3 := tqW_tr w2 w3
    refine ⟨(y, n + 12, v4), rfl, ⟨tqW_4 w3, by omega⟩, fun r4 h4 w4 => ?_⟩
    obtain ⟨rfl, w4⟩ := w4
    have w4 := tqW_tr w3 w4
    refine ⟨(y, n + 16, v5), rfl, ⟨tqW_4 w4, by omega⟩, fun r5 h5 w5 => ?_⟩
    obtain ⟨rfl, w5⟩ := w5
    have w5 := tqW_tr w4 w5
    exact ⟨fun z => absurd z (by omega), fun _ => ⟨zri (tqW_4 w5), w5⟩⟩
  · rw [hn0] at cq
    exact absurd ((fd20 n hn4).mpr hc) cq
def ca_X11_wrong : (Nat × Int32 × Int32) → List zV := fun (y, k, q) => [vR 20 0 y, vI k, vI q]
def cp_X11_wrong : (Nat × Int32 × Int32) → zH → Prop := fun _ _ => True
def cg_X11_wrong : (Nat × Int32 × Int32) → zH → zH := fun (y, k, q) h => if h.1 y 21 ≤ 0 then zsI (zsI h y 21 k) y 22 q else h
theorem rc_X11_wrong : ∀ x : (Nat × Int32 × Int32), ∃ (j a : Nat) (As : List zV), ca_X11_wrong x = vR (10 + 10) j a :: As := by
  rintro ⟨y, k, q⟩
  exact ⟨_, _, _, rfl⟩
set_option maxHeartbeats 4000000 in
set_option maxRecDepth 100000 in
theorem m_X11_wrong : zM yX11_wrong cX11_wrong 3 none ({ frames := 0, cells := 0, slots := 0, locals := 0 } : Room) (zcV ca_X11_wrong cp_X11_wrong cg_X11_wrong) := by
  refine zM_of (by decide) ?_
  rintro X Y ⟨y, k, q⟩ h _ O E hR
  have B_8 := zr_aload_n (X := X) (Y := Y) (u := 0) (v := 0) O dX11_wrong_8 rfl (zr_iload_n O dX11_wrong_9 rfl (zr_pI (ci := 10) (j := 21) O zc_10 (by decide) rfl rfl rfl tw_1208 dX11_wrong_10 (zr_aload_n O dX11_wrong_13 rfl (zr_iload_n O dX11_wrong_14 rfl (zr_pI (ci := 10) (j := 22) O zc_10 (by decide) rfl rfl rfl tw_1209 dX11_wrong_15 (zr_return O E (Nat.le_refl _) (Nat.le_refl _) dX11_wrong_18))))))
  have B_0 := zr_aload_n (X := X) (Y := Y) (u := 0) (v := 0) O dX11_wrong_0 rfl (zr_gI (ci := 10) (j := 21) O zc_10 (by decide) rfl tw_1208 dX11_wrong_1 (zr_ifle (tgt := 8) O dX11_wrong_4 rfl B_8 (zr_return O E (Nat.le_refl _) (Nat.le_refl _) dX11_wrong_7)))
  refine ⟨rfl, Nat.le_of_ble_eq_true rfl, _, B_0, ?_⟩
  refine ⟨fun cq => ⟨rfl, ?_⟩, fun cq => ⟨rfl, ?_⟩⟩
  · exact (if_pos cq).symm
  · exact (if_neg cq).symm
/-- bytes with a sign and without -/
def evT (T : Nat → Int32) (n : Nat) (u : Nat → Int32) : Prop := ∀ j, j < n → u j = T j ∨ (127 < T j ∧ u j < 0)
theorem ev_eq {T : Nat → Int32} {n : Nat} {u : Nat → Int32} (h : evT T n u) {j : Nat} (hj : j < n) {c : Int32} (h0 : 0 ≤ c) (h1 : c ≤ 127) : u j = c ↔ T j = c := by
  rcases h j hj with e | ⟨e1, e2⟩
  · rw [e]
  · have z0 : (0 : Int32).toInt = 0 := by decide
    have z1 : (127 : Int32).toInt = 127 := by decide
    rw [fa_lt] at e1 e2
    rw [fa_le] at h0 h1
    rw [fa_eq, fa_eq]
    omega
theorem ev_rg {T : Nat → Int32} {n : Nat} {u : Nat → Int32} (h : evT T n u) {j : Nat} (hj : j < n) {c e : Int32} (h0 : 0 ≤ c) (h1 : e ≤ 127) : (c ≤ u j ∧ u j ≤ e) ↔ (c ≤ T j ∧ T j ≤ e) := by
  rcases h j hj with q | ⟨e1, e2⟩
  · rw [q]
  · have z0 : (0 : Int32).toInt = 0 := by decide
    have z1 : (127 : Int32).toInt = 127 := by decide
    rw [fa_lt] at e1 e2
    rw [fa_le] at h0 h1
    rw [fa_le, fa_le, fa_le, fa_le]
    omega
def rmT (T : Nat → Int32) (n : Nat) (h : zH) (y : Nat) : Prop := (h.1 y 18 = nI n ∧ n ≤ 400) ∧ evT T n (h.1 (y + 13))
theorem rmT_I {T : Nat → Int32} {n : Nat} {h : zH} {y k : Nat} {v : Int32} (hk : k ≠ 18) (hT : rmT T n h y) : rmT T n (zsI h y k v) y := ⟨⟨by rw [zsI_at _ _ _ _ _ (by omega)]; exact hT.1.1, hT.1.2⟩, by rw [zsI_ro _ _ _ (by omega)]; exact hT.2⟩
def sgc (u : Nat → Int32) (n q : Nat) : Int32 := if q < n then u q else 0
def ca_X11_sign : ((Nat → Int32) × Nat × Nat × Nat) → List zV := fun (T, n, y, p) => [vR 20 0 y]
def cp_X11_sign : ((Nat → Int32) × Nat × Nat × Nat) → zH → Prop := fun (T, n, y, p) h => rmT T n h y ∧ h.1 y 19 = nI p ∧ p ≤ n + 1
def cf_X11_sign : ((Nat → Int32) × Nat × Nat × Nat) → zH → Int32 := fun (T, n, y, p) h => sgc (h.1 (y + 13)) n (skp T n p)
def cg_X11_sign : ((Nat → Int32) × Nat × Nat × Nat) → zH → zH := fun (T, n, y, p) h => zsI h y 19 (nI (skp T n p))
theorem rc_X11_sign : ∀ x : ((Nat → Int32) × Nat × Nat × Nat), ∃ (j a : Nat) (As : List zV), ca_X11_sign x = vR (10 + 10) j a :: As := by
  rintro ⟨T, n, y, p⟩
  exact ⟨_, _, _, rfl⟩
set_option maxHeartbeats 4000000 in
set_option maxRecDepth 100000 in
theorem m_X11_sign : zM yX11_sign cX11_sign 1 (some .int) ({ frames := 0, cells := 0, slots := 0, locals := 0 } : Room) (zcH ca_X11_sign cp_X11_sign cf_X11_sign cg_X11_sign) := by
  refine zM_of (by decide) ?_
  rintro X Y ⟨T, n, y, p⟩ h ⟨hT, hp, hpn⟩ O E hR
  have hT : rmT T n h y := hT
  have hp : h.1 y 19 = nI p := hp
  have hpn : p ≤ n + 1 := hpn
  have hn4 := hT.1.2
  have e18 : ∀ v : Int32, (zsI h y 19 v).1 y 18 = nI n := fun v => by rw [zsI_at _ _ _ _ _ (by decide)]; exact hT.1.1
  have e19 : ∀ v : Int32, (zsI h y 19 v).1 y 19 = v := fun v => zsI_me _ _ _ _
  have e13 : ∀ v : Int32, (zsI h y 19 v).1 (y + 13) = h.1 (y + 13) := fun v => zsI_ro _ _ _ (by omega)
  have B_62 := zr_ireturn (X := X) (Y := Y) (u := 0) (v := 0) O E (Nat.le_refl _) (Nat.le_refl _) dX11_sign_62
  have B_61 := zr_iconst (X := X) (Y := Y) (u := 0) (v := 0) (x := 0) O dX11_sign_61 rfl (B_62)
  have B_38 := zr_aload_n (X := X) (Y := Y) (u := 0) (v := 0) O dX11_sign_38 rfl (zr_gI (ci := 10) (j := 19) O zc_10 (by decide) rfl tw_1206 dX11_sign_39 (zr_aload_n O dX11_sign_42 rfl (zr_gI (ci := 10) (j := 18) O zc_10 (by decide) rfl tw_1205 dX11_sign_43 (zr_icge (tgt := 61) O dX11_sign_46 rfl B_61 (zr_aload_n O dX11_sign_49 rfl (zr_gS (ci := 10) (j := 16) (off := 13) (t := 2) (n := 400) O zc_10 (by decide) rfl tw_1203 dX11_sign_50 (zr_aload_n O dX11_sign_53 rfl (zr_gI (ci := 10) (j := 19) O zc_10 (by decide) rfl tw_1206 dX11_sign_54 (zr_bald O dX11_sign_57 (zr_goto (tgt := 62) O dX11_sign_58 rfl B_62))))))))))
  have L_0 : ∀ nn : Nat, zSd X Y 0 0 0 ((fun k ls st h1 => ∃ i : Nat, k = (n - p) - i ∧ i ≤ n - p ∧ ls = [some (vR 20 0 y)] ∧ st = [] ∧ h1 = zsI h y 19 (nI (p + i)) ∧ ∀ j, j < i → (!decide (T (p + j) = 32)) = false : Nat → zT) nn) := by
    refine zSd_loop (fun nn ih => ?_)
    have B_0 := zr_aload_n (X := X) (Y := Y) (u := 0) (v := 0) O dX11_sign_0 rfl (zr_gI (ci := 10) (j := 19) O zc_10 (by decide) rfl tw_1206 dX11_sign_1 (zr_aload_n O dX11_sign_4 rfl (zr_gI (ci := 10) (j := 18) O zc_10 (by decide) rfl tw_1205 dX11_sign_5 (zr_icge (tgt := 38) O dX11_sign_8 rfl B_38 (zr_aload_n O dX11_sign_11 rfl (zr_gS (ci := 10) (j := 16) (off := 13) (t := 2) (n := 400) O zc_10 (by decide) rfl tw_1203 dX11_sign_12 (zr_aload_n O dX11_sign_15 rfl (zr_gI (ci := 10) (j := 19) O zc_10 (by decide) rfl tw_1206 dX11_sign_16 (zr_bald O dX11_sign_19 (zr_bipush (x := (32)) O dX11_sign_20 (by decide) (zr_icne (tgt := 38) O dX11_sign_22 rfl B_38 (zr_aload_n O dX11_sign_25 rfl (zr_dup O dX11_sign_26 (zr_gI (ci := 10) (j := 19) O zc_10 (by decide) rfl tw_1206 dX11_sign_27 (zr_iconst (x := 1) O dX11_sign_30 rfl (zr_iadd O dX11_sign_31 (zr_pI (ci := 10) (j := 19) O zc_10 (by decide) rfl rfl rfl tw_1206 dX11_sign_32 (zr_goto (tgt := 0) O dX11_sign_35 rfl ih))))))))))))))))))
    refine zSd_weak B_0 (fun ls st h1 t => ?_)
    obtain ⟨i, rfl, hi, rfl, rfl, rfl, hb⟩ := t
    have em : ∀ k : Nat, ((p + i) + k : Nat) = p + (i + k) := fun k => by omega
    refine ⟨fun c => ⟨fun c2 => ⟨zri ?_, ?_⟩, fun c2 => absurd c c2⟩, fun c => ⟨p + i, e19 _, ?_, fun c2 => ⟨fun c3 => absurd c3 c, fun c3 => ⟨p + i, e19 _, ?_, zri ?_, ?_⟩⟩, fun c2 => ?_⟩⟩
    · rw [e18, e19] at c
      have := (nI_leI (by omega) (by omega)).mp c
      have ef : skp T n p = p + i := by
        unfold skp
        rw [show n - p = i by omega, first_end hb]
      show (0 : Int32) = sgc (h.1 (y + 13)) n (skp T n p)
      rw [ef, sgc, if_neg (by omega)]
    · rw [e18, e19] at c
      have := (nI_leI (by omega) (by omega)).mp c
      have ef : skp T n p = p + i := by
        unfold skp
        rw [show n - p = i by omega, first_end hb]
      show _ = zsI h y 19 (nI (skp T n p))
      rw [ef]
    · rw [e18, e19] at c
      have : ¬ n ≤ p + i := fun z => c ((nI_leI (by omega) (by omega)).mpr z)
      omega
    · rw [e18, e19] at c
      have : ¬ n ≤ p + i := fun z => c ((nI_leI (by omega) (by omega)).mpr z)
      omega
    · rw [e18, e19] at c
      have hlt : ¬ n ≤ p + i := fun z => c ((nI_leI (by omega) (by omega)).mpr z)
      rw [e13] at c2
      have hne : ¬ T (p + i) = 32 := fun z => c2 ((ev_eq hT.2 (by omega) (by decide) (by decide)).mpr z)
      have ef : skp T n p = p + i := by
        unfold skp
        rw [first_at (i := i) (by omega) (by rw [decide_eq_false hne]; rfl) hb]
      show (zsI h y 19 (nI (p + i))).1 (y + 13) (p + i) = sgc (h.1 (y + 13)) n (skp T n p)
      rw [ef, sgc, if_pos (by omega), e13]
    · rw [e18, e19] at c
      have hlt : ¬ n ≤ p + i := fun z => c ((nI_leI (by omega) (by omega)).mpr z)
      rw [e13] at c2
      have hne : ¬ T (p + i) = 32 := fun z => c2 ((ev_eq hT.2 (by omega) (by decide) (by decide)).mpr z)
      have ef : skp T n p = p + i := by
        unfold skp
        rw [first_at (i := i) (by omega) (by rw [decide_eq_false hne]; rfl) hb]
      show _ = zsI h y 19 (nI (skp T n p))
      rw [ef]
    · rw [e18, e19] at c
      have hlt : ¬ n ≤ p + i := fun z => c ((nI_leI (by omega) (by omega)).mpr z)
      rw [e13] at c2
      have he : T (p + i) = 32 := (ev_eq hT.2 (by omega) (by decide) (by decide)).mp c2
      refine ⟨n - p - (i + 1), by omega, i + 1, rfl, by omega, rfl, rfl, ?_, fun j hj => ?_⟩
      · rw [e19, nI_1]
        simp only [zsI_W, zsW_s, zsW_W, zup_up]
        rfl
      · by_cases e : j = i
        · rw [e, decide_eq_true he]; rfl
        · exact hb j (by omega)
  have B_0 := zSd_any L_0
  refine ⟨rfl, Nat.le_of_ble_eq_true rfl, _, B_0, ?_⟩
  refine ⟨n - p - 0, 0, rfl, Nat.zero_le _, rfl, rfl, ?_, fun j hj => absurd hj (by omega)⟩
  rw [Nat.add_zero, ← hp, zsI_W, zup_self, zsW_self]
def ca_X11_isSmall : ((Nat → Int32) × Nat × Nat × Nat) → List zV := fun (T, n, y, k) => [vR 20 0 y, vI (nI k)]
def cp_X11_isSmall : ((Nat → Int32) × Nat × Nat × Nat) → zH → Prop := fun (T, n, y, k) h => rmT T n h y ∧ k ≤ 1000
def cf_X11_isSmall : ((Nat → Int32) × Nat × Nat × Nat) → zH → Int32 := fun (T, n, y, k) _ => bI (decide (k < n) && sml T k)
theorem rc_X11_isSmall : ∀ x : ((Nat → Int32) × Nat × Nat × Nat), ∃ (j a : Nat) (As : List zV), ca_X11_isSmall x = vR (10 + 10) j a :: As := by
  rintro ⟨T, n, y, k⟩
  exact ⟨_, _, _, rfl⟩
set_option maxHeartbeats 4000000 in
set_option maxRecDepth 100000 in
theorem m_X11_isSmall : zM yX11_isSmall cX11_isSmall 2 (some .boolean) ({ frames := 0, cells := 0, slots := 0, locals := 0 } : Room) (zcI ca_X11_isSmall cp_X11_isSmall cf_X11_isSmall) := by
  refine zM_of (by decide) ?_
  rintro X Y ⟨T, n, y, k⟩ h ⟨hT, hk⟩ O E hR
  have B_35 := zr_zreturn (X := X) (Y := Y) (u := 0) (v := 0) O E (Nat.le_refl _) (Nat.le_refl _) dX11_isSmall_35
  have B_34 := zr_iconst (X := X) (Y := Y) (u := 0) (v := 0) (x := 0) O dX11_isSmall_34 rfl (B_35)
  have B_0 := zr_iload_n (X := X) (Y := Y) (u := 0) (v := 0) O dX11_isSmall_0 rfl (zr_aload_n O dX11_isSmall_1 rfl (zr_gI (ci := 10) (j := 18) O zc_10 (by decide) rfl tw_1205 dX11_isSmall_2 (zr_icge (tgt := 34) O dX11_isSmall_5 rfl B_34 (zr_aload_n O dX11_isSmall_8 rfl (zr_gS (ci := 10) (j := 16) (off := 13) (t := 2) (n := 400) O zc_10 (by decide) rfl tw_1203 dX11_isSmall_9 (zr_iload_n O dX11_isSmall_12 rfl (zr_bald O dX11_isSmall_13 (zr_bipush (x := (97)) O dX11_isSmall_14 (by decide) (zr_iclt (tgt := 34) O dX11_isSmall_16 rfl B_34 (zr_aload_n O dX11_isSmall_19 rfl (zr_gS (ci := 10) (j := 16) (off := 13) (t := 2) (n := 400) O zc_10 (by decide) rfl tw_1203 dX11_isSmall_20 (zr_iload_n O dX11_isSmall_23 rfl (zr_bald O dX11_isSmall_24 (zr_bipush (x := (122)) O dX11_isSmall_25 (by decide) (zr_icgt (tgt := 34) O dX11_isSmall_27 rfl B_34 (zr_iconst (x := 1) O dX11_isSmall_30 rfl (zr_goto (tgt := 35) O dX11_isSmall_31 rfl B_35)))))))))))))))))
  refine ⟨rfl, Nat.le_of_ble_eq_true rfl, _, B_0, ?_⟩
  have hT : rmT T n h y := hT
  have hk : k ≤ 1000 := hk
  have hn4 := hT.1.2
  have no : ∀ b : Bool, b = (decide (k < n) && sml T k) → bI b = cf_X11_isSmall (T, n, y, k) h := fun b e => by show _ = bI (decide (k < n) && sml T k); rw [e]
  refine ⟨fun c => ⟨Or.inl rfl, zri (no false ?_), rfl⟩, fun c => ⟨k, rfl, ?_, fun c2 => ⟨Or.inl rfl, zri (no false ?_), rfl⟩, fun c2 => ⟨k, rfl, ?_, fun c3 => ⟨Or.inl rfl, zri (no false ?_), rfl⟩, fun c3 => ⟨Or.inr rfl, zri (no true ?_), rfl⟩⟩⟩⟩
  · rw [hT.1.1] at c
    have := (nI_leI (by omega) (by omega)).mp c
    rw [decide_eq_false (by omega)]; rfl
  · rw [hT.1.1] at c
    have : ¬ n ≤ k := fun z => c ((nI_leI (by omega) (by omega)).mpr z)
    omega
  · rw [hT.1.1] at c
    have hkn : ¬ n ≤ k := fun z => c ((nI_leI (by omega) (by omega)).mpr z)
    have : ¬ ((97 : Int32) ≤ T k ∧ T k ≤ 122) := fun z => Int32.not_le.mpr c2 ((ev_rg hT.2 (by omega) (by decide) (by decide)).mpr z).1
    rw [sml, decide_eq_false this, Bool.and_false]
  · rw [hT.1.1] at c
    have : ¬ n ≤ k := fun z => c ((nI_leI (by omega) (by omega)).mpr z)
    omega
  · rw [hT.1.1] at c
    have hkn : ¬ n ≤ k := fun z => c ((nI_leI (by omega) (by omega)).mpr z)
    have : ¬ ((97 : Int32) ≤ T k ∧ T k ≤ 122) := fun z => Int32.not_le.mpr c3 ((ev_rg hT.2 (by omega) (by decide) (by decide)).mpr z).2
    rw [sml, decide_eq_false this, Bool.and_false]
  · rw [hT.1.1] at c
    have hkn : ¬ n ≤ k := fun z => c ((nI_leI (by omega) (by omega)).mpr z)
    have : (97 : Int32) ≤ T k ∧ T k ≤ 122 := (ev_rg hT.2 (by omega) (by decide) (by decide)).mp ⟨Int32.not_lt.mp c2, Int32.not_lt.mp c3⟩
    rw [sml, decide_eq_true this, decide_eq_true (by omega)]; rfl
theorem stC_s : ∀ k, k < 8 → 0 < k → ∀ j, j < stL k → (97 : Int32) ≤ stC k j ∧ stC k j ≤ 122 := by decide +kernel
theorem wnd_at {T : Nat → Int32} {n q l : Nat} (hq : q + l ≤ n) (h1 : ∀ j, j < l → sml T (q + j) = true) (h2 : ¬ (q + l < n ∧ sml T (q + l) = true)) : wnd T n q = q + l := by
  unfold wnd
  have hb : ∀ j, j < l → (!sml T (q + j)) = false := fun j hj => by rw [h1 j hj]; rfl
  by_cases e : q + l < n
  · have : sml T (q + l) = false := by
      cases hz : sml T (q + l) with
      | false => rfl
      | true => exact absurd ⟨e, hz⟩ h2
    rw [first_at (f := fun i => !sml T (q + i)) (i := l) (by omega) (by rw [this]; rfl) hb]
  · rw [show n - q = l by omega, first_end (f := fun i => !sml T (q + i)) hb]
theorem wnd_no {T : Nat → Int32} {n q : Nat} (hq : q ≤ n) : ¬ (wnd T n q < n ∧ sml T (wnd T n q) = true) := by
  rintro ⟨h1, h2⟩
  unfold wnd at h1 h2
  have h3 := fa_first_yes (fun i => !sml T (q + i)) (n - q) (by omega)
  rw [h2] at h3
  cases h3
def ca_X11_passes : ((Nat → Int32) × Nat × Nat × Nat × Nat × Nat) → List zV := fun (T, n, y, p, k, a) => [vR 20 0 y, vR 7 k a]
def cp_X11_passes : ((Nat → Int32) × Nat × Nat × Nat × Nat × Nat) → zH → Prop := fun (T, n, y, p, k, a) h => rmT T n h y ∧ (h.1 y 19 = nI p ∧ p ≤ n) ∧ k < 8 ∧ 0 < k
def cq_X11_passes : ((Nat → Int32) × Nat × Nat × Nat × Nat × Nat) → zH → Option zV → zH → Prop := fun (T, n, y, p, k, a) h r h' => (isw T (skp T n p) (wnd T n (skp T n p)) k = true → r = some (vI 1) ∧ h' = zsI (zsI (zsI h y 19 (nI (skp T n p))) y 20 (nI (skp T n p))) y 19 (nI (wnd T n (skp T n p)))) ∧ (isw T (skp T n p) (wnd T n (skp T n p)) k = false → r = some (vI 0) ∧ h' = zsI h y 19 (nI (skp T n p)))
theorem rc_X11_passes : ∀ x : ((Nat → Int32) × Nat × Nat × Nat × Nat × Nat), ∃ (j a : Nat) (As : List zV), ca_X11_passes x = vR (10 + 10) j a :: As := by
  rintro ⟨T, n, y, p, k, a⟩
  exact ⟨_, _, _, rfl⟩
set_option maxHeartbeats 4000000 in
set_option maxRecDepth 100000 in
theorem m_X11_passes : zM yX11_passes cX11_passes 3 (some .boolean) ({ frames := 4, cells := 0, slots := 0, locals := 85 } : Room) ((ca_X11_passes, cp_X11_passes, cq_X11_passes) : zC ((Nat → Int32) × Nat × Nat × Nat × Nat × Nat)) := by
  refine zM_of (by decide) ?_
  rintro X Y ⟨T, n, y, p, k, a⟩ h ⟨hT, ⟨hp, hpn⟩, hk8, hk0⟩ O E hR
  have hT : rmT T n h y := hT
  have hp : h.1 y 19 = nI p := hp
  have hpn : p ≤ n := hpn
  have hk8 : k < 8 := hk8
  have hk0 : 0 < k := hk0
  have hkT : k < zNT := by show k < 10; omega
  have hn4 := hT.1.2
  have hlt := stL_lt k hkT
  have hq := skp_le T hpn
  obtain ⟨q, eq⟩ : ∃ q : Nat, q = skp T n p := ⟨_, rfl⟩
  rw [← eq] at hq
  obtain ⟨h0, eh0⟩ : ∃ h0 : zH, h0 = zsI h y 19 (nI q) := ⟨_, rfl⟩
  have hT0 : rmT T n h0 y := by rw [eh0]; exact rmT_I (by decide) hT
  have e19 : h0.1 y 19 = nI q := by rw [eh0]; exact zsI_me _ _ _ _
  have hw := wnd_le T hq.2
  have no : isw T q (wnd T n q) k = false → (isw T (skp T n p) (wnd T n (skp T n p)) k = true → (some (vI 0) : Option zV) = some (vI 1) ∧ h0 = zsI (zsI (zsI h y 19 (nI (skp T n p))) y 20 (nI (skp T n p))) y 19 (nI (wnd T n (skp T n p)))) ∧ (isw T (skp T n p) (wnd T n (skp T n p)) k = false → (some (vI 0) : Option zV) = some (vI 0) ∧ h0 = zsI h y 19 (nI (skp T n p))) := by
    intro e
    rw [← eq, e]
    exact ⟨fun z => (by cases z), fun _ => ⟨rfl, eh0⟩⟩
  have yes : isw T q (wnd T n q) k = true → wnd T n q - q = stL k ∧ ∀ j, j < stL k → T (q + j) = stC k j := by
    intro e
    rw [isw, Bool.and_eq_true, decide_eq_true_iff, decide_eq_true_iff] at e
    exact e
  have B_73 := zr_aload_n (X := X) (Y := Y) (u := 0) (v := 0) O dX11_passes_73 rfl (zr_aload_n O dX11_passes_74 rfl (zr_gI (ci := 10) (j := 19) O zc_10 (by decide) rfl tw_1206 dX11_passes_75 (zr_pI (ci := 10) (j := 20) O zc_10 (by decide) rfl rfl rfl tw_1207 dX11_passes_78 (zr_aload_n O dX11_passes_81 rfl (zr_dup O dX11_passes_82 (zr_gI (ci := 10) (j := 19) O zc_10 (by decide) rfl tw_1206 dX11_passes_83 (zr_aload_n O dX11_passes_86 rfl (zr_cI (zr_cK (n := 0) O m_J0_length_8abf5 (bn_J0_length_8abf5 _ ⟨rfl, rfl⟩) vw_J0_length_8abf5 tw_1325 rc_J0_length_8abf5 (zrm hR rfl rfl) dX11_passes_87 (zr_iadd O dX11_passes_90 (zr_pI (ci := 10) (j := 19) O zc_10 (by decide) rfl rfl rfl tw_1206 dX11_passes_91 (zr_iconst (x := 1) O dX11_passes_94 rfl (zr_zreturn O E (Nat.le_refl _) (Nat.le_refl _) dX11_passes_95)))))))))))))
  have B_55 := zr_aload_n (X := X) (Y := Y) (u := 0) (v := 0) O dX11_passes_55 rfl (zr_aload_n O dX11_passes_56 rfl (zr_gI (ci := 10) (j := 19) O zc_10 (by decide) rfl tw_1206 dX11_passes_57 (zr_aload_n O dX11_passes_60 rfl (zr_cI (zr_cK (n := 0) O m_J0_length_8abf5 (bn_J0_length_8abf5 _ ⟨rfl, rfl⟩) vw_J0_length_8abf5 tw_1325 rc_J0_length_8abf5 (zrm hR rfl rfl) dX11_passes_61 (zr_iadd O dX11_passes_64 (zr_cI (zr_cV (ci := 10) (n := 1) O m_X11_isSmall (bn_X11_isSmall _ ⟨rfl, rfl⟩) vw_X11_isSmall tw_1326 rc_X11_isSmall (zrm hR rfl rfl) dX11_passes_65 (zr_ifeq (tgt := 73) O dX11_passes_68 rfl B_73 (zr_iconst (x := 0) O dX11_passes_71 rfl (zr_zreturn O E (Nat.le_refl _) (Nat.le_refl _) dX11_passes_72)))))))))))
  have L_7 : ∀ nn : Nat, zSd X Y 0 0 7 ((fun d ls st h1 => ∃ (i : Nat) (z : Int32), d = stL k - i ∧ i ≤ stL k ∧ q + i ≤ n ∧ ls = [some (vR 20 0 y), some (vR 7 k a), some (vI z)] ∧ z = nI i ∧ st = [] ∧ h1 = h0 ∧ ∀ j, j < i → sml T (q + j) = true ∧ T (q + j) = stC k j : Nat → zT) nn) := by
    refine zSd_loop (fun nn ih => ?_)
    have B_49 := zr_iinc (X := X) (Y := Y) (u := 0) (v := 0) (c := 1) O dX11_passes_49 rfl (zr_goto (tgt := 7) O dX11_passes_52 rfl ih)
    have B_47 := zr_iconst (X := X) (Y := Y) (u := 0) (v := 0) (x := 0) O dX11_passes_47 rfl (zr_zreturn O E (Nat.le_refl _) (Nat.le_refl _) dX11_passes_48)
    have B_7 := zr_iload_n (X := X) (Y := Y) (u := 0) (v := 0) O dX11_passes_7 rfl (zr_aload_n O dX11_passes_8 rfl (zr_cI (zr_cK (n := 0) O m_J0_length_8abf5 (bn_J0_length_8abf5 _ ⟨rfl, rfl⟩) vw_J0_length_8abf5 tw_1325 rc_J0_length_8abf5 (zrm hR rfl rfl) dX11_passes_9 (zr_icge (tgt := 55) O dX11_passes_12 rfl B_55 (zr_aload_n O dX11_passes_15 rfl (zr_aload_n O dX11_passes_16 rfl (zr_gI (ci := 10) (j := 19) O zc_10 (by decide) rfl tw_1206 dX11_passes_17 (zr_iload_n O dX11_passes_20 rfl (zr_iadd O dX11_passes_21 (zr_cI (zr_cV (ci := 10) (n := 1) O m_X11_isSmall (bn_X11_isSmall _ ⟨rfl, rfl⟩) vw_X11_isSmall tw_1326 rc_X11_isSmall (zrm hR rfl rfl) dX11_passes_22 (zr_ifeq (tgt := 47) O dX11_passes_25 rfl B_47 (zr_aload_n O dX11_passes_28 rfl (zr_gS (ci := 10) (j := 16) (off := 13) (t := 2) (n := 400) O zc_10 (by decide) rfl tw_1203 dX11_passes_29 (zr_aload_n O dX11_passes_32 rfl (zr_gI (ci := 10) (j := 19) O zc_10 (by decide) rfl tw_1206 dX11_passes_33 (zr_iload_n O dX11_passes_36 rfl (zr_iadd O dX11_passes_37 (zr_bald O dX11_passes_38 (zr_aload_n O dX11_passes_39 rfl (zr_iload_n O dX11_passes_40 rfl (zr_cI (zr_cK (n := 1) O m_J0_charAt_5068e (bn_J0_charAt_5068e _ ⟨rfl, rfl⟩) vw_J0_charAt_5068e tw_1330 rc_J0_charAt_5068e (zrm hR rfl rfl) dX11_passes_41 (zr_iceq (tgt := 49) O dX11_passes_44 rfl B_49 (B_47)))))))))))))))))))))))))
    refine zSd_weak B_7 (fun ls st h1 t => ?_)
    obtain ⟨i, z, rfl, hi, hqi, rfl, rfl, rfl, rfl, hb⟩ := t
    refine ⟨(k, a), rfl, hkT, fun c => ?_, fun c => ?_⟩
    · have := (nI_leI (by omega) (by omega)).mp c
      have hi2 : i = stL k := by omega
      refine ⟨(k, a), rfl, hkT, (T, n, y, q + stL k), by rw [e19]; show [vR 20 0 y, vI (nI q + nI (stL k))] = _; rw [nI_add]; rfl, ⟨hT0, by show q + stL k ≤ 1000; omega⟩, fun c2 => ?_, fun c2 => ?_⟩
      · replace c2 : bI (decide (q + stL k < n) && sml T (q + stL k)) = 0 := c2
        have hz := (bI_0 _).mp c2
        have ew : wnd T n q = q + stL k := wnd_at (by omega) (fun j hj => (hb j (by omega)).1) (fun z => by
          rw [decide_eq_true z.1, z.2] at hz
          cases hz)
        have ei : isw T q (wnd T n q) k = true := by
          rw [isw, ew, decide_eq_true (by omega), decide_eq_true (fun j hj => (hb j (by omega)).2)]; rfl
        have e192 : ∀ v : Int32, (zsI h1 y 20 v).1 y 19 = nI q := fun v => by rw [zsI_at _ _ _ _ _ (by decide)]; exact e19
        refine ⟨(k, a), rfl, hkT, Or.inr rfl, fun _ => ⟨rfl, ?_⟩, fun z => (by rw [← eq, ei] at z; cases z)⟩
        rw [← eq]
        show zsI (zsI h1 y 20 (h1.1 y 19)) y 19 ((zsI h1 y 20 (h1.1 y 19)).1 y 19 + nI (stL k)) = _
        rw [e192, e19, nI_add, ← ew, eh0]
      · replace c2 : ¬ bI (decide (q + stL k < n) && sml T (q + stL k)) = 0 := c2
        have hz : (decide (q + stL k < n) && sml T (q + stL k)) = true := by
          cases hz : (decide (q + stL k < n) && sml T (q + stL k)) with
          | true => rfl
          | false => exact absurd ((bI_0 _).mpr hz) c2
        rw [Bool.and_eq_true, decide_eq_true_iff] at hz
        refine ⟨Or.inl rfl, no ?_⟩
        cases hy : isw T q (wnd T n q) k with
        | false => rfl
        | true =>
          have e1 := (yes hy).1
          have ew : wnd T n q = q + stL k := by omega
          exact absurd (by rw [ew]; exact hz) (wnd_no (T := T) hq.2)
    · have hi2 : i < stL k := Nat.not_le.mp (fun z => c ((nI_leI (by omega) (by omega)).mpr z))
      refine ⟨(T, n, y, q + i), by rw [e19, nI_add]; rfl, ⟨hT0, by show q + i ≤ 1000; omega⟩, fun c2 => ?_, fun c2 => ?_⟩
      · replace c2 : bI (decide (q + i < n) && sml T (q + i)) = 0 := c2
        have hz := (bI_0 _).mp c2
        refine ⟨Or.inl rfl, no ?_⟩
        cases hy : isw T q (wnd T n q) k with
        | false => rfl
        | true =>
          obtain ⟨e1, e2⟩ := yes hy
          have hs : sml T (q + i) = true := by rw [sml, e2 i hi2]; exact decide_eq_true (stC_s k hk8 hk0 i hi2)
          rw [decide_eq_true (by omega), hs] at hz
          cases hz
      · replace c2 : ¬ bI (decide (q + i < n) && sml T (q + i)) = 0 := c2
        have hz : (decide (q + i < n) && sml T (q + i)) = true := by
          cases hz : (decide (q + i < n) && sml T (q + i)) with
          | true => rfl
          | false => exact absurd ((bI_0 _).mpr hz) c2
        rw [Bool.and_eq_true, decide_eq_true_iff] at hz
        have hc := stC_s k hk8 hk0 i hi2
        have ece := ev_eq hT0.2 hz.1 (c := stC k i) (Int32.le_trans (by decide) hc.1) (Int32.le_trans hc.2 (by decide))
        refine ⟨q + i, by rw [e19, nI_add], by omega, (k, a, i), rfl, ⟨hkT, hi2⟩, fun c3 => ?_, fun c3 => ?_⟩
        · have e3 : T (q + i) = stC k i := ece.mp c3
          refine ⟨stL k - (i + 1), by omega, i + 1, _, rfl, by omega, by omega, rfl, nI_1 i, rfl, rfl, fun j hj => ?_⟩
          by_cases e : j = i
          · rw [e]; exact ⟨hz.2, e3⟩
          · exact hb j (by omega)
        · refine ⟨Or.inl rfl, no ?_⟩
          cases hy : isw T q (wnd T n q) k with
          | false => rfl
          | true => exact absurd (ece.mpr ((yes hy).2 i hi2)) c3
  have B_7 := zSd_any L_7
  have B_0 := zr_aload_n (X := X) (Y := Y) (u := 0) (v := 0) O dX11_passes_0 rfl (zr_cH (zr_cV (ci := 10) (n := 0) O m_X11_sign (bn_X11_sign _ ⟨rfl, rfl⟩) vw_X11_sign tw_1312 rc_X11_sign (zrm hR rfl rfl) dX11_passes_1 (zr_pop O dX11_passes_4 (zr_iconst (x := 0) O dX11_passes_5 rfl (zr_istore_n O dX11_passes_6 rfl (B_7))))))
  refine ⟨rfl, Nat.le_of_ble_eq_true rfl, _, B_0, ?_⟩
  refine ⟨(T, n, y, p), rfl, ⟨hT, hp, by omega⟩, stL k - 0, 0, _, rfl, Nat.zero_le _, by omega, rfl, rfl, rfl, ?_, fun j hj => absurd hj (Nat.not_lt_zero _)⟩
  rw [eh0, eq]; rfl

