theorem dX4_clear_21 : decode cX4_clear 21 = .ok (.return_, 1) := by decide +kernel
theorem dX4_clear_2 : decode cX4_clear 2 = .ok (.iload_n 1, 1) := by decide +kernel
theorem dX4_clear_3 : decode cX4_clear 3 = .ok (.bipush 10, 2) := by decide +kernel
theorem dX4_clear_5 : decode cX4_clear 5 = .ok (.if_icmp .ge 16, 3) := by decide +kernel
theorem dX4_clear_8 : decode cX4_clear 8 = .ok (.aload_n 0, 1) := by decide +kernel
theorem dX4_clear_9 : decode cX4_clear 9 = .ok (.getfield 9, 3) := by decide +kernel
theorem dX4_clear_12 : decode cX4_clear 12 = .ok (.iload_n 1, 1) := by decide +kernel
theorem dX4_clear_13 : decode cX4_clear 13 = .ok (.iconst 0, 1) := by decide +kernel
theorem dX4_clear_14 : decode cX4_clear 14 = .ok (.iastore, 1) := by decide +kernel
theorem dX4_clear_15 : decode cX4_clear 15 = .ok (.iinc 1 1, 3) := by decide +kernel
theorem dX4_clear_18 : decode cX4_clear 18 = .ok (.goto (-16), 3) := by decide +kernel
theorem dX4_clear_0 : decode cX4_clear 0 = .ok (.iconst 0, 1) := by decide +kernel
theorem dX4_clear_1 : decode cX4_clear 1 = .ok (.istore_n 1, 1) := by decide +kernel
theorem dX4_isAhead_19 : decode cX4_isAhead 19 = .ok (.ireturn, 1) := by decide +kernel
theorem dX4_isAhead_18 : decode cX4_isAhead 18 = .ok (.iconst 0, 1) := by decide +kernel
theorem dX4_isAhead_0 : decode cX4_isAhead 0 = .ok (.aload_n 0, 1) := by decide +kernel
theorem dX4_isAhead_1 : decode cX4_isAhead 1 = .ok (.getfield 9, 3) := by decide +kernel
theorem dX4_isAhead_4 : decode cX4_isAhead 4 = .ok (.iload_n 1, 1) := by decide +kernel
theorem dX4_isAhead_5 : decode cX4_isAhead 5 = .ok (.iaload, 1) := by decide +kernel
theorem dX4_isAhead_6 : decode cX4_isAhead 6 = .ok (.iload_n 2, 1) := by decide +kernel
theorem dX4_isAhead_7 : decode cX4_isAhead 7 = .ok (.invokestatic 21, 3) := by decide +kernel
theorem dX4_isAhead_10 : decode cX4_isAhead 10 = .ok (.iconst 1, 1) := by decide +kernel
theorem dX4_isAhead_11 : decode cX4_isAhead 11 = .ok (.if_icmp .ne 7, 3) := by decide +kernel
theorem dX4_isAhead_14 : decode cX4_isAhead 14 = .ok (.iconst 1, 1) := by decide +kernel
theorem dX4_isAhead_15 : decode cX4_isAhead 15 = .ok (.goto 4, 3) := by decide +kernel
theorem dX4_isBroken_25 : decode cX4_isBroken 25 = .ok (.iconst 0, 1) := by decide +kernel
theorem dX4_isBroken_26 : decode cX4_isBroken 26 = .ok (.ireturn, 1) := by decide +kernel
theorem dX4_isBroken_19 : decode cX4_isBroken 19 = .ok (.iinc 1 1, 3) := by decide +kernel
theorem dX4_isBroken_22 : decode cX4_isBroken 22 = .ok (.goto (-20), 3) := by decide +kernel
theorem dX4_isBroken_2 : decode cX4_isBroken 2 = .ok (.iload_n 1, 1) := by decide +kernel
theorem dX4_isBroken_3 : decode cX4_isBroken 3 = .ok (.bipush 10, 2) := by decide +kernel
theorem dX4_isBroken_5 : decode cX4_isBroken 5 = .ok (.if_icmp .ge 20, 3) := by decide +kernel
theorem dX4_isBroken_8 : decode cX4_isBroken 8 = .ok (.aload_n 0, 1) := by decide +kernel
theorem dX4_isBroken_9 : decode cX4_isBroken 9 = .ok (.iload_n 1, 1) := by decide +kernel
theorem dX4_isBroken_10 : decode cX4_isBroken 10 = .ok (.iload_n 1, 1) := by decide +kernel
theorem dX4_isBroken_11 : decode cX4_isBroken 11 = .ok (.invokevirtual 37, 3) := by decide +kernel
theorem dX4_isBroken_14 : decode cX4_isBroken 14 = .ok (.ifCond .eq 5, 3) := by decide +kernel
theorem dX4_isBroken_17 : decode cX4_isBroken 17 = .ok (.iconst 1, 1) := by decide +kernel
theorem dX4_isBroken_18 : decode cX4_isBroken 18 = .ok (.ireturn, 1) := by decide +kernel
theorem dX4_isBroken_0 : decode cX4_isBroken 0 = .ok (.iconst 0, 1) := by decide +kernel
theorem dX4_isBroken_1 : decode cX4_isBroken 1 = .ok (.istore_n 1, 1) := by decide +kernel
theorem dX4_bitTold_31 : decode cX4_bitTold 31 = .ok (.ireturn, 1) := by decide +kernel
theorem dX4_bitTold_30 : decode cX4_bitTold 30 = .ok (.iconst 0, 1) := by decide +kernel
theorem dX4_bitTold_17 : decode cX4_bitTold 17 = .ok (.aload_n 0, 1) := by decide +kernel
theorem dX4_bitTold_18 : decode cX4_bitTold 18 = .ok (.iload_n 1, 1) := by decide +kernel
theorem dX4_bitTold_19 : decode cX4_bitTold 19 = .ok (.iload_n 2, 1) := by decide +kernel
theorem dX4_bitTold_20 : decode cX4_bitTold 20 = .ok (.invokevirtual 37, 3) := by decide +kernel
theorem dX4_bitTold_23 : decode cX4_bitTold 23 = .ok (.ifCond .eq 7, 3) := by decide +kernel
theorem dX4_bitTold_26 : decode cX4_bitTold 26 = .ok (.iconst 1, 1) := by decide +kernel
theorem dX4_bitTold_27 : decode cX4_bitTold 27 = .ok (.goto 4, 3) := by decide +kernel
theorem dX4_bitTold_0 : decode cX4_bitTold 0 = .ok (.aload_n 0, 1) := by decide +kernel
theorem dX4_bitTold_1 : decode cX4_bitTold 1 = .ok (.iload_n 1, 1) := by decide +kernel
theorem dX4_bitTold_2 : decode cX4_bitTold 2 = .ok (.iload_n 2, 1) := by decide +kernel
theorem dX4_bitTold_3 : decode cX4_bitTold 3 = .ok (.invokevirtual 37, 3) := by decide +kernel
theorem dX4_bitTold_6 : decode cX4_bitTold 6 = .ok (.aload_n 0, 1) := by decide +kernel
theorem dX4_bitTold_7 : decode cX4_bitTold 7 = .ok (.iload_n 2, 1) := by decide +kernel
theorem dX4_bitTold_8 : decode cX4_bitTold 8 = .ok (.iload_n 1, 1) := by decide +kernel
theorem dX4_bitTold_9 : decode cX4_bitTold 9 = .ok (.invokevirtual 37, 3) := by decide +kernel
theorem dX4_bitTold_12 : decode cX4_bitTold 12 = .ok (.if_icmp .ne 5, 3) := by decide +kernel
theorem dX4_bitTold_15 : decode cX4_bitTold 15 = .ok (.iconst (-1), 1) := by decide +kernel
theorem dX4_bitTold_16 : decode cX4_bitTold 16 = .ok (.ireturn, 1) := by decide +kernel
theorem dX4_copyFrom_0 : decode cX4_copyFrom 0 = .ok (.aload_n 1, 1) := by decide +kernel
theorem dX4_copyFrom_1 : decode cX4_copyFrom 1 = .ok (.getfield 9, 3) := by decide +kernel
theorem dX4_copyFrom_4 : decode cX4_copyFrom 4 = .ok (.iconst 0, 1) := by decide +kernel
theorem dX4_copyFrom_5 : decode cX4_copyFrom 5 = .ok (.aload_n 0, 1) := by decide +kernel
theorem dX4_copyFrom_6 : decode cX4_copyFrom 6 = .ok (.getfield 9, 3) := by decide +kernel
theorem dX4_copyFrom_9 : decode cX4_copyFrom 9 = .ok (.iconst 0, 1) := by decide +kernel
theorem dX4_copyFrom_10 : decode cX4_copyFrom 10 = .ok (.bipush 10, 2) := by decide +kernel
theorem dX4_copyFrom_12 : decode cX4_copyFrom 12 = .ok (.invokestatic 15, 3) := by decide +kernel
theorem dX4_copyFrom_15 : decode cX4_copyFrom 15 = .ok (.return_, 1) := by decide +kernel
theorem dX4_put_74 : decode cX4_put 74 = .ok (.return_, 1) := by decide +kernel
theorem dX4_put_68 : decode cX4_put 68 = .ok (.iinc 4 1, 3) := by decide +kernel
theorem dX4_put_71 : decode cX4_put 71 = .ok (.goto (-42), 3) := by decide +kernel
theorem dX4_put_57 : decode cX4_put 57 = .ok (.aload_n 0, 1) := by decide +kernel
theorem dX4_put_58 : decode cX4_put 58 = .ok (.getfield 9, 3) := by decide +kernel
theorem dX4_put_61 : decode cX4_put 61 = .ok (.iload 4, 2) := by decide +kernel
theorem dX4_put_63 : decode cX4_put 63 = .ok (.dup2, 1) := by decide +kernel
theorem dX4_put_64 : decode cX4_put 64 = .ok (.iaload, 1) := by decide +kernel
theorem dX4_put_65 : decode cX4_put 65 = .ok (.iload_n 3, 1) := by decide +kernel
theorem dX4_put_66 : decode cX4_put 66 = .ok (.ior, 1) := by decide +kernel
theorem dX4_put_67 : decode cX4_put 67 = .ok (.iastore, 1) := by decide +kernel
theorem dX4_put_29 : decode cX4_put 29 = .ok (.iload 4, 2) := by decide +kernel
theorem dX4_put_31 : decode cX4_put 31 = .ok (.bipush 10, 2) := by decide +kernel
theorem dX4_put_33 : decode cX4_put 33 = .ok (.if_icmp .ge 41, 3) := by decide +kernel
theorem dX4_put_36 : decode cX4_put 36 = .ok (.iload 4, 2) := by decide +kernel
theorem dX4_put_38 : decode cX4_put 38 = .ok (.iload_n 1, 1) := by decide +kernel
theorem dX4_put_39 : decode cX4_put 39 = .ok (.if_icmp .eq 18, 3) := by decide +kernel
theorem dX4_put_42 : decode cX4_put 42 = .ok (.aload_n 0, 1) := by decide +kernel
theorem dX4_put_43 : decode cX4_put 43 = .ok (.getfield 9, 3) := by decide +kernel
theorem dX4_put_46 : decode cX4_put 46 = .ok (.iload 4, 2) := by decide +kernel
theorem dX4_put_48 : decode cX4_put 48 = .ok (.iaload, 1) := by decide +kernel
theorem dX4_put_49 : decode cX4_put 49 = .ok (.iload_n 1, 1) := by decide +kernel
theorem dX4_put_50 : decode cX4_put 50 = .ok (.invokestatic 21, 3) := by decide +kernel
theorem dX4_put_53 : decode cX4_put 53 = .ok (.iconst 1, 1) := by decide +kernel
theorem dX4_put_54 : decode cX4_put 54 = .ok (.if_icmp .ne 14, 3) := by decide +kernel
theorem dX4_put_15 : decode cX4_put 15 = .ok (.aload_n 0, 1) := by decide +kernel
theorem dX4_put_16 : decode cX4_put 16 = .ok (.getfield 9, 3) := by decide +kernel
theorem dX4_put_19 : decode cX4_put 19 = .ok (.iload_n 2, 1) := by decide +kernel
theorem dX4_put_20 : decode cX4_put 20 = .ok (.iaload, 1) := by decide +kernel
theorem dX4_put_21 : decode cX4_put 21 = .ok (.iconst 1, 1) := by decide +kernel
theorem dX4_put_22 : decode cX4_put 22 = .ok (.iload_n 2, 1) := by decide +kernel
theorem dX4_put_23 : decode cX4_put 23 = .ok (.ishl, 1) := by decide +kernel
theorem dX4_put_24 : decode cX4_put 24 = .ok (.ior, 1) := by decide +kernel
theorem dX4_put_25 : decode cX4_put 25 = .ok (.istore_n 3, 1) := by decide +kernel
theorem dX4_put_26 : decode cX4_put 26 = .ok (.iconst 0, 1) := by decide +kernel
theorem dX4_put_27 : decode cX4_put 27 = .ok (.istore 4, 2) := by decide +kernel
theorem dX4_put_0 : decode cX4_put 0 = .ok (.aload_n 0, 1) := by decide +kernel
theorem dX4_put_1 : decode cX4_put 1 = .ok (.getfield 9, 3) := by decide +kernel
theorem dX4_put_4 : decode cX4_put 4 = .ok (.iload_n 1, 1) := by decide +kernel
theorem dX4_put_5 : decode cX4_put 5 = .ok (.iaload, 1) := by decide +kernel
theorem dX4_put_6 : decode cX4_put 6 = .ok (.iload_n 2, 1) := by decide +kernel
theorem dX4_put_7 : decode cX4_put 7 = .ok (.invokestatic 21, 3) := by decide +kernel
theorem dX4_put_10 : decode cX4_put 10 = .ok (.iconst 1, 1) := by decide +kernel
theorem dX4_put_11 : decode cX4_put 11 = .ok (.if_icmp .ne 4, 3) := by decide +kernel
theorem dX4_put_14 : decode cX4_put 14 = .ok (.return_, 1) := by decide +kernel
theorem dX4_putPair_41 : decode cX4_putPair 41 = .ok (.invokevirtual 33, 3) := by decide +kernel
theorem dX4_putPair_44 : decode cX4_putPair 44 = .ok (.return_, 1) := by decide +kernel
theorem dX4_putPair_39 : decode cX4_putPair 39 = .ok (.iload 4, 2) := by decide +kernel
theorem dX4_putPair_29 : decode cX4_putPair 29 = .ok (.iload_n 3, 1) := by decide +kernel
theorem dX4_putPair_30 : decode cX4_putPair 30 = .ok (.iconst 1, 1) := by decide +kernel
theorem dX4_putPair_31 : decode cX4_putPair 31 = .ok (.if_icmp .ne 8, 3) := by decide +kernel
theorem dX4_putPair_34 : decode cX4_putPair 34 = .ok (.iload 5, 2) := by decide +kernel
theorem dX4_putPair_36 : decode cX4_putPair 36 = .ok (.goto 5, 3) := by decide +kernel
theorem dX4_putPair_27 : decode cX4_putPair 27 = .ok (.iload 5, 2) := by decide +kernel
theorem dX4_putPair_0 : decode cX4_putPair 0 = .ok (.aload_n 1, 1) := by decide +kernel
theorem dX4_putPair_1 : decode cX4_putPair 1 = .ok (.getfield 25, 3) := by decide +kernel
theorem dX4_putPair_4 : decode cX4_putPair 4 = .ok (.iload_n 2, 1) := by decide +kernel
theorem dX4_putPair_5 : decode cX4_putPair 5 = .ok (.iaload, 1) := by decide +kernel
theorem dX4_putPair_6 : decode cX4_putPair 6 = .ok (.istore 4, 2) := by decide +kernel
theorem dX4_putPair_8 : decode cX4_putPair 8 = .ok (.aload_n 1, 1) := by decide +kernel
theorem dX4_putPair_9 : decode cX4_putPair 9 = .ok (.getfield 30, 3) := by decide +kernel
theorem dX4_putPair_12 : decode cX4_putPair 12 = .ok (.iload_n 2, 1) := by decide +kernel
theorem dX4_putPair_13 : decode cX4_putPair 13 = .ok (.iaload, 1) := by decide +kernel
theorem dX4_putPair_14 : decode cX4_putPair 14 = .ok (.istore 5, 2) := by decide +kernel
theorem dX4_putPair_16 : decode cX4_putPair 16 = .ok (.aload_n 0, 1) := by decide +kernel
theorem dX4_putPair_17 : decode cX4_putPair 17 = .ok (.iload_n 3, 1) := by decide +kernel
theorem dX4_putPair_18 : decode cX4_putPair 18 = .ok (.iconst 1, 1) := by decide +kernel
theorem dX4_putPair_19 : decode cX4_putPair 19 = .ok (.if_icmp .ne 8, 3) := by decide +kernel
theorem dX4_putPair_22 : decode cX4_putPair 22 = .ok (.iload 4, 2) := by decide +kernel
theorem dX4_putPair_24 : decode cX4_putPair 24 = .ok (.goto 5, 3) := by decide +kernel
theorem zwn : 8 + (nativeFrameWords "java/lang/System" "arraycopy" 5 + 11) ≤ 60 := by decide +kernel
/-! rows of the heap -/
theorem zsW_s (h : zH) (a : Nat) (f : Nat → Int32) : (zsW h a f).1 a = f := zup_s _ _ _
theorem zsW_n (h : zH) {a q : Nat} (f : Nat → Int32) (hq : q ≠ a) : (zsW h a f).1 q = h.1 q := zup_n _ _ hq
theorem zsW_2 (h : zH) (a : Nat) (f : Nat → Int32) : (zsW h a f).2 = h.2 := rfl
theorem zsI_W (h : zH) (a j : Nat) (x : Int32) : zsI h a j x = zsW h a (va_up (h.1 a) j x) := rfl
theorem zsW_self (h : zH) (a : Nat) : zsW h a (h.1 a) = h := by
  refine Prod.ext ?_ rfl
  funext q
  by_cases hq : q = a
  · rw [hq, zsW_s]
  · rw [zsW_n _ _ hq]
theorem zsW_W (h : zH) (a : Nat) (f g : Nat → Int32) : zsW (zsW h a f) a g = zsW h a g := by
  refine Prod.ext ?_ rfl
  funext q
  by_cases hq : q = a
  · rw [hq, zsW_s, zsW_s]
  · rw [zsW_n _ _ hq, zsW_n _ _ hq, zsW_n _ _ hq]
theorem rpS_cg {S : zD} {h h' : zH} {a : Nat} (hr : ∀ k, k < 7 → h'.1 (a + k) = h.1 (a + k)) (hS : rpS S h a) : rpS S h' a := by
  unfold rpS at hS ⊢
  rw [hr 1 (by decide), hr 2 (by decide), hr 3 (by decide), hr 4 (by decide), hr 5 (by decide), hr 6 (by decide)]
  have h0 := hr 0 (by decide)
  rw [Nat.add_zero] at h0
  rw [h0]
  exact hS
theorem rpS_fr {S : zD} {h : zH} {a q : Nat} {f : Nat → Int32} (hq : q < a ∨ a + 7 ≤ q) (hS : rpS S h a) : rpS S (zsW h q f) a := rpS_cg (fun k hk => zsW_n _ _ (by omega)) hS
/-! an order of rings: of each those behind it, as a mask -/
def rpO (B : Nat → Nat) (h : zH) (o : Nat) : Prop := ∀ i, i < 10 → h.1 (o + 1) i = nI (B i) ∧ B i < 1024
/-- the order's row has become B -/
def oW (B : Nat → Nat) (h : zH) (o : Nat) (h' : zH) : Prop := ∃ f : Nat → Int32, h' = zsW h (o + 1) f ∧ ∀ i, i < 10 → f i = nI (B i)
def oput (B : Nat → Nat) (f b : Nat) : Nat → Nat := if (B f).testBit b then B else fun i => if i = f ∨ (B i).testBit f then B i ||| (B b ||| 2 ^ b) else B i
def otl (B : Nat → Nat) (a b : Nat) : Int32 := if (B a).testBit b = (B b).testBit a then -1 else bI ((B a).testBit b)
def obk (B : Nat → Nat) : Bool := decide (0 < fb_ct (fun i => (B i).testBit i) 10)
theorem oput_lt {B : Nat → Nat} {f b : Nat} (hB : ∀ i, i < 10 → B i < 1024) (hb : b < 10) : ∀ i, i < 10 → oput B f b i < 1024 := by
  intro i hi
  unfold oput
  split
  · exact hB i hi
  · show (if i = f ∨ (B i).testBit f then B i ||| (B b ||| 2 ^ b) else B i) < 2 ^ 10
    split
    · exact or_lt (hB i hi) (or_lt (hB b hb) (Nat.pow_lt_pow_right (by omega) hb))
    · exact hB i hi
theorem oW_rp {B : Nat → Nat} {h h' : zH} {o : Nat} (hw : oW B h o h') (hB : ∀ i, i < 10 → B i < 1024) : rpO B h' o := by
  obtain ⟨f, rfl, hf⟩ := hw
  intro i hi
  rw [zsW_s]
  exact ⟨hf i hi, hB i hi⟩
theorem oW_tr {B C : Nat → Nat} {h h1 h2 : zH} {o : Nat} (h12 : oW B h o h1) (h23 : oW C h1 o h2) : oW C h o h2 := by
  obtain ⟨f, rfl, hf⟩ := h12
  obtain ⟨g, rfl, hg⟩ := h23
  exact ⟨g, zsW_W _ _ _ _, hg⟩
def ca_X4_clear : (Nat) → List zV := fun o => [vR 13 0 o]
def cp_X4_clear : (Nat) → zH → Prop := fun _ _ => True
def cq_X4_clear : (Nat) → zH → Option zV → zH → Prop := fun o h r h' => r = none ∧ oW (fun _ => 0) h o h'
theorem rc_X4_clear : ∀ x : (Nat), ∃ (j a : Nat) (As : List zV), ca_X4_clear x = vR (10 + 3) j a :: As := by
  rintro o
  exact ⟨_, _, _, rfl⟩
set_option maxHeartbeats 4000000 in
set_option maxRecDepth 100000 in
theorem m_X4_clear : zM yX4_clear cX4_clear 2 none ({ frames := 0, cells := 0, slots := 0, locals := 0 } : Room) ((ca_X4_clear, cp_X4_clear, cq_X4_clear) : zC (Nat)) := by
  refine zM_of (by decide) ?_
  rintro X Y o h _ O E hR
  have B_21 := zr_return (X := X) (Y := Y) (u := 0) (v := 0) O E (Nat.le_refl _) (Nat.le_refl _) dX4_clear_21
  have L_2 : ∀ nn : Nat, zSd X Y 0 0 2 ((fun k ls st h1 => ∃ (i : Nat) (z : Int32) (f : Nat → Int32), k = 10 - i ∧ i ≤ 10 ∧ ls = [some (vR 13 0 o), some (vI z)] ∧ z = nI i ∧ st = [] ∧ h1 = zsW h (o + 1) f ∧ ∀ j, j < i → f j = 0 : Nat → zT) nn) := by
    refine zSd_loop (fun nn ih => ?_)
    have B_2 := zr_iload_n (X := X) (Y := Y) (u := 0) (v := 0) O dX4_clear_2 rfl (zr_bipush (x := (10)) O dX4_clear_3 (by decide) (zr_icge (tgt := 21) O dX4_clear_5 rfl B_21 (zr_aload_n O dX4_clear_8 rfl (zr_gS (ci := 3) (j := 0) (off := 1) (t := 1) (n := 10) O zc_3 (by decide) rfl tw_251 dX4_clear_9 (zr_iload_n O dX4_clear_12 rfl (zr_iconst (x := 0) O dX4_clear_13 rfl (zr_iast O dX4_clear_14 (zr_iinc (c := 1) O dX4_clear_15 rfl (zr_goto (tgt := 2) O dX4_clear_18 rfl ih)))))))))
    refine zSd_weak B_2 (fun ls st h1 t => ?_)
    obtain ⟨i, z, f, rfl, hi, rfl, rfl, rfl, rfl, hf⟩ := t
    refine ⟨fun cq => ⟨rfl, f, rfl, fun j hj => ?_⟩, fun cq => ?_⟩
    · have := (nI_leI (a := 10) (by omega) (by omega)).mp cq
      rw [hf j (by omega)]
      rfl
    · have hi2 : i < 10 := Nat.not_le.mp (fun z => cq ((nI_leI (a := 10) (by omega) (by omega)).mpr z))
      refine ⟨i, rfl, hi2, 10 - (i + 1), by omega, i + 1, _, va_up f i 0, rfl, by omega, rfl, nI_1 i, rfl, ?_, ?_⟩
      · rw [zsI_W, zsW_s, zsW_W]
      · intro j hj
        by_cases hji : j = i
        · rw [hji, zup_s]
        · rw [zup_n _ _ hji]
          exact hf j (by omega)
  have B_2 := zSd_any L_2
  have B_0 := zr_iconst (X := X) (Y := Y) (u := 0) (v := 0) (x := 0) O dX4_clear_0 rfl (zr_istore_n O dX4_clear_1 rfl (B_2))
  refine ⟨rfl, Nat.le_of_ble_eq_true rfl, _, B_0, ?_⟩
  exact ⟨10 - 0, 0, _, h.1 (o + 1), rfl, Nat.zero_le _, rfl, rfl, rfl, (zsW_self h (o + 1)).symm, fun j hj => absurd hj (by omega)⟩
def ca_X4_isAhead : ((Nat → Nat) × Nat × Nat × Nat) → List zV := fun (B, o, f, b) => [vR 13 0 o, vI (nI f), vI (nI b)]
def cp_X4_isAhead : ((Nat → Nat) × Nat × Nat × Nat) → zH → Prop := fun (B, o, f, b) h => rpO B h o ∧ f < 10 ∧ b < 10
def cf_X4_isAhead : ((Nat → Nat) × Nat × Nat × Nat) → zH → Int32 := fun (B, o, f, b) _ => bI ((B f).testBit b)
theorem rc_X4_isAhead : ∀ x : ((Nat → Nat) × Nat × Nat × Nat), ∃ (j a : Nat) (As : List zV), ca_X4_isAhead x = vR (10 + 3) j a :: As := by
  rintro ⟨B, o, f, b⟩
  exact ⟨_, _, _, rfl⟩
set_option maxHeartbeats 4000000 in
set_option maxRecDepth 100000 in
theorem m_X4_isAhead : zM yX4_isAhead cX4_isAhead 3 (some .boolean) ({ frames := 1, cells := 0, slots := 0, locals := 21 } : Room) (zcI ca_X4_isAhead cp_X4_isAhead cf_X4_isAhead) := by
  refine zM_of (by decide) ?_
  rintro X Y ⟨B, o, f, b⟩ h ⟨hB, hf, hb⟩ O E hR
  have B_19 := zr_zreturn (X := X) (Y := Y) (u := 0) (v := 0) O E (Nat.le_refl _) (Nat.le_refl _) dX4_isAhead_19
  have B_18 := zr_iconst (X := X) (Y := Y) (u := 0) (v := 0) (x := 0) O dX4_isAhead_18 rfl (B_19)
  have B_0 := zr_aload_n (X := X) (Y := Y) (u := 0) (v := 0) O dX4_isAhead_0 rfl (zr_gS (ci := 3) (j := 0) (off := 1) (t := 1) (n := 10) O zc_3 (by decide) rfl tw_251 dX4_isAhead_1 (zr_iload_n O dX4_isAhead_4 rfl (zr_iald O dX4_isAhead_5 (zr_iload_n O dX4_isAhead_6 rfl (zr_cI (zr_cSN (n := 2) O m_X10_bitIn (bn_X10_bitIn _ ⟨rfl, rfl⟩) tw_374 wn_RX4_21 (zrm hR rfl rfl) dX4_isAhead_7 (zr_iconst (x := 1) O dX4_isAhead_10 rfl (zr_icne (tgt := 18) O dX4_isAhead_11 rfl B_18 (zr_iconst (x := 1) O dX4_isAhead_14 rfl (zr_goto (tgt := 19) O dX4_isAhead_15 rfl B_19))))))))))
  refine ⟨rfl, Nat.le_of_ble_eq_true rfl, _, B_0, ?_⟩
  obtain ⟨e1, l1⟩ := hB f hf
  have e2 : (h.1 (o + 1) f >>> (nI b &&& 31)) &&& 1 = bI ((B f).testBit b) := by rw [e1]; exact bI_in (by omega) (by omega)
  refine ⟨f, rfl, hf, (_, _), rfl, trivial, fun cq => ⟨Or.inl rfl, zri ?_, rfl⟩, fun cq => ⟨Or.inr rfl, zri ?_, rfl⟩⟩
  · replace cq : ¬ (h.1 (o + 1) f >>> (nI b &&& 31)) &&& 1 = 1 := cq
    rw [e2, bI_1] at cq
    exact ((bI_0 _).mpr (by simpa using cq)).symm
  · replace cq : (h.1 (o + 1) f >>> (nI b &&& 31)) &&& 1 = 1 := cq
    rw [e2] at cq
    exact cq.symm
def ca_X4_isBroken : ((Nat → Nat) × Nat) → List zV := fun (B, o) => [vR 13 0 o]
def cp_X4_isBroken : ((Nat → Nat) × Nat) → zH → Prop := fun (B, o) h => rpO B h o
def cf_X4_isBroken : ((Nat → Nat) × Nat) → zH → Int32 := fun (B, o) _ => bI (obk B)
theorem rc_X4_isBroken : ∀ x : ((Nat → Nat) × Nat), ∃ (j a : Nat) (As : List zV), ca_X4_isBroken x = vR (10 + 3) j a :: As := by
  rintro ⟨B, o⟩
  exact ⟨_, _, _, rfl⟩
set_option maxHeartbeats 4000000 in
set_option maxRecDepth 100000 in
theorem m_X4_isBroken : zM yX4_isBroken cX4_isBroken 2 (some .boolean) ({ frames := 2, cells := 0, slots := 0, locals := 43 } : Room) (zcI ca_X4_isBroken cp_X4_isBroken cf_X4_isBroken) := by
  refine zM_of (by decide) ?_
  rintro X Y ⟨B, o⟩ h hB O E hR
  have B_25 := zr_iconst (X := X) (Y := Y) (u := 0) (v := 0) (x := 0) O dX4_isBroken_25 rfl (zr_zreturn O E (Nat.le_refl _) (Nat.le_refl _) dX4_isBroken_26)
  have L_2 : ∀ nn : Nat, zSd X Y 0 0 2 ((fun k ls st h1 => ∃ (i : Nat) (z : Int32), k = 10 - i ∧ i ≤ 10 ∧ ls = [some (vR 13 0 o), some (vI z)] ∧ z = nI i ∧ st = [] ∧ h = h1 ∧ fb_ct (fun i => (B i).testBit i) i = 0 : Nat → zT) nn) := by
    refine zSd_loop (fun nn ih => ?_)
    have B_19 := zr_iinc (X := X) (Y := Y) (u := 0) (v := 0) (c := 1) O dX4_isBroken_19 rfl (zr_goto (tgt := 2) O dX4_isBroken_22 rfl ih)
    have B_2 := zr_iload_n (X := X) (Y := Y) (u := 0) (v := 0) O dX4_isBroken_2 rfl (zr_bipush (x := (10)) O dX4_isBroken_3 (by decide) (zr_icge (tgt := 25) O dX4_isBroken_5 rfl B_25 (zr_aload_n O dX4_isBroken_8 rfl (zr_iload_n O dX4_isBroken_9 rfl (zr_iload_n O dX4_isBroken_10 rfl (zr_cI (zr_cV (ci := 3) (n := 2) O m_X4_isAhead (bn_X4_isAhead _ ⟨rfl, rfl⟩) vw_X4_isAhead tw_390 rc_X4_isAhead (zrm hR rfl rfl) dX4_isBroken_11 (zr_ifeq (tgt := 19) O dX4_isBroken_14 rfl B_19 (zr_iconst (x := 1) O dX4_isBroken_17 rfl (zr_zreturn O E (Nat.le_refl _) (Nat.le_refl _) dX4_isBroken_18))))))))))
    refine zSd_weak B_2 (fun ls st h1 t => ?_)
    have hB : rpO B h o := hB
    obtain ⟨i, z, rfl, hi, rfl, rfl, rfl, rfl, hc⟩ := t
    refine ⟨fun cq => ⟨Or.inl rfl, zri ?_, rfl⟩, fun cq => ?_⟩
    · have := (nI_leI (a := 10) (by omega) (by omega)).mp cq
      rw [show i = 10 by omega] at hc
      show (0 : Int32) = bI (obk B)
      simp [obk, hc, bI]
    · have hi2 : i < 10 := Nat.not_le.mp (fun z => cq ((nI_leI (a := 10) (by omega) (by omega)).mpr z))
      refine ⟨(B, o, i, i), rfl, ⟨hB, hi2, hi2⟩, fun dq => ?_, fun dq => ⟨Or.inr rfl, zri ?_, rfl⟩⟩
      · have hb : (B i).testBit i = false := (bI_0 _).mp dq
        exact ⟨10 - (i + 1), by omega, i + 1, _, rfl, by omega, rfl, nI_1 i, rfl, rfl, by rw [fb_ct_succ, hb, hc]; rfl⟩
      · have hb : (B i).testBit i = true := by
          cases hz : (B i).testBit i with
          | true => rfl
          | false => exact absurd ((bI_0 _).mpr hz) dq
        have h1 : 0 < fb_ct (fun i => (B i).testBit i) 10 := fb_ct_pos.mpr ⟨i, hi2, hb⟩
        show (1 : Int32) = bI (obk B)
        simp [obk, h1, bI]
  have B_2 := zSd_any L_2
  have B_0 := zr_iconst (X := X) (Y := Y) (u := 0) (v := 0) (x := 0) O dX4_isBroken_0 rfl (zr_istore_n O dX4_isBroken_1 rfl (B_2))
  refine ⟨rfl, Nat.le_of_ble_eq_true rfl, _, B_0, ?_⟩
  exact ⟨10 - 0, 0, _, rfl, Nat.zero_le _, rfl, rfl, rfl, rfl, rfl⟩
def ca_X4_bitTold : ((Nat → Nat) × Nat × Nat × Nat) → List zV := fun (B, o, a, b) => [vR 13 0 o, vI (nI a), vI (nI b)]
def cp_X4_bitTold : ((Nat → Nat) × Nat × Nat × Nat) → zH → Prop := fun (B, o, a, b) h => rpO B h o ∧ a < 10 ∧ b < 10
def cf_X4_bitTold : ((Nat → Nat) × Nat × Nat × Nat) → zH → Int32 := fun (B, o, a, b) _ => otl B a b
theorem rc_X4_bitTold : ∀ x : ((Nat → Nat) × Nat × Nat × Nat), ∃ (j a : Nat) (As : List zV), ca_X4_bitTold x = vR (10 + 3) j a :: As := by
  rintro ⟨B, o, a, b⟩
  exact ⟨_, _, _, rfl⟩
set_option maxHeartbeats 4000000 in
set_option maxRecDepth 100000 in
theorem m_X4_bitTold : zM yX4_bitTold cX4_bitTold 3 (some .int) ({ frames := 2, cells := 0, slots := 0, locals := 43 } : Room) (zcI ca_X4_bitTold cp_X4_bitTold cf_X4_bitTold) := by
  refine zM_of (by decide) ?_
  rintro X Y ⟨B, o, a, b⟩ h ⟨hB, ha, hb⟩ O E hR
  have B_31 := zr_ireturn (X := X) (Y := Y) (u := 0) (v := 0) O E (Nat.le_refl _) (Nat.le_refl _) dX4_bitTold_31
  have B_30 := zr_iconst (X := X) (Y := Y) (u := 0) (v := 0) (x := 0) O dX4_bitTold_30 rfl (B_31)
  have B_17 := zr_aload_n (X := X) (Y := Y) (u := 0) (v := 0) O dX4_bitTold_17 rfl (zr_iload_n O dX4_bitTold_18 rfl (zr_iload_n O dX4_bitTold_19 rfl (zr_cI (zr_cV (ci := 3) (n := 2) O m_X4_isAhead (bn_X4_isAhead _ ⟨rfl, rfl⟩) vw_X4_isAhead tw_390 rc_X4_isAhead (zrm hR rfl rfl) dX4_bitTold_20 (zr_ifeq (tgt := 30) O dX4_bitTold_23 rfl B_30 (zr_iconst (x := 1) O dX4_bitTold_26 rfl (zr_goto (tgt := 31) O dX4_bitTold_27 rfl B_31)))))))
  have B_0 := zr_aload_n (X := X) (Y := Y) (u := 0) (v := 0) O dX4_bitTold_0 rfl (zr_iload_n O dX4_bitTold_1 rfl (zr_iload_n O dX4_bitTold_2 rfl (zr_cI (zr_cV (ci := 3) (n := 2) O m_X4_isAhead (bn_X4_isAhead _ ⟨rfl, rfl⟩) vw_X4_isAhead tw_390 rc_X4_isAhead (zrm hR rfl rfl) dX4_bitTold_3 (zr_aload_n O dX4_bitTold_6 rfl (zr_iload_n O dX4_bitTold_7 rfl (zr_iload_n O dX4_bitTold_8 rfl (zr_cI (zr_cV (ci := 3) (n := 2) O m_X4_isAhead (bn_X4_isAhead _ ⟨rfl, rfl⟩) vw_X4_isAhead tw_390 rc_X4_isAhead (zrm hR rfl rfl) dX4_bitTold_9 (zr_icne (tgt := 17) O dX4_bitTold_12 rfl B_17 (zr_iconst (x := (-1)) O dX4_bitTold_15 rfl (zr_ireturn O E (Nat.le_refl _) (Nat.le_refl _) dX4_bitTold_16))))))))))))
  refine ⟨rfl, Nat.le_of_ble_eq_true rfl, _, B_0, ?_⟩
  refine ⟨(B, o, a, b), rfl, ⟨hB, ha, hb⟩, (B, o, b, a), rfl, ⟨hB, hb, ha⟩, fun cq => ⟨(B, o, a, b), rfl, ⟨hB, ha, hb⟩, fun dq => ⟨zri ?_, rfl⟩, fun dq => ⟨zri ?_, rfl⟩⟩, fun cq => ⟨zri ?_, rfl⟩⟩
  · have hne : ¬ (B a).testBit b = (B b).testBit a := fun z => cq (congrArg bI z)
    show (0 : Int32) = otl B a b
    rw [otl, if_neg hne]
    exact dq.symm
  · have hne : ¬ (B a).testBit b = (B b).testBit a := fun z => cq (congrArg bI z)
    show (1 : Int32) = otl B a b
    rw [otl, if_neg hne]
    cases hz : (B a).testBit b with
    | true => rfl
    | false => exact absurd ((bI_0 _).mpr hz) dq
  · have hne : (B a).testBit b = (B b).testBit a := by
      replace cq : bI ((B a).testBit b) = bI ((B b).testBit a) := cq
      revert cq
      cases (B a).testBit b <;> cases (B b).testBit a <;> simp [bI]
    show (-1 : Int32) = otl B a b
    rw [otl, if_pos hne]
def ca_X4_copyFrom : ((Nat → Nat) × Nat × Nat) → List zV := fun (B, o, q) => [vR 13 0 o, vR 13 0 q]
def cp_X4_copyFrom : ((Nat → Nat) × Nat × Nat) → zH → Prop := fun (B, o, q) h => rpO B h q
def cq_X4_copyFrom : ((Nat → Nat) × Nat × Nat) → zH → Option zV → zH → Prop := fun (B, o, q) h r h' => r = none ∧ oW B h o h'
theorem rc_X4_copyFrom : ∀ x : ((Nat → Nat) × Nat × Nat), ∃ (j a : Nat) (As : List zV), ca_X4_copyFrom x = vR (10 + 3) j a :: As := by
  rintro ⟨B, o, q⟩
  exact ⟨_, _, _, rfl⟩
set_option maxHeartbeats 4000000 in
set_option maxRecDepth 100000 in
theorem m_X4_copyFrom : zM yX4_copyFrom cX4_copyFrom 2 none ({ frames := 1, cells := 0, slots := 0, locals := 60 } : Room) ((ca_X4_copyFrom, cp_X4_copyFrom, cq_X4_copyFrom) : zC ((Nat → Nat) × Nat × Nat)) := by
  refine zM_of (by decide) ?_
  rintro X Y ⟨B, o, q⟩ h hB O E hR
  have B_0 := zr_aload_n (X := X) (Y := Y) (u := 0) (v := 0) O dX4_copyFrom_0 rfl (zr_gS (ci := 3) (j := 0) (off := 1) (t := 1) (n := 10) O zc_3 (by decide) rfl tw_251 dX4_copyFrom_1 (zr_iconst (x := 0) O dX4_copyFrom_4 rfl (zr_aload_n O dX4_copyFrom_5 rfl (zr_gS (ci := 3) (j := 0) (off := 1) (t := 1) (n := 10) O zc_3 (by decide) rfl tw_251 dX4_copyFrom_6 (zr_iconst (x := 0) O dX4_copyFrom_9 rfl (zr_bipush (x := (10)) O dX4_copyFrom_10 (by decide) (zr_cpy O tw_402 zwc ⟨(zrm (a := 1) (b := 60) hR rfl rfl).1, Nat.le_trans zwn (zrm (a := 1) (b := 60) hR rfl rfl).2.1⟩ dX4_copyFrom_12 (zr_return O E (Nat.le_refl _) (Nat.le_refl _) dX4_copyFrom_15))))))))
  refine ⟨rfl, Nat.le_of_ble_eq_true rfl, _, B_0, ?_⟩
  have hB : rpO B h q := hB
  refine ⟨rfl, rfl, 10, rfl, by decide, by decide, rfl, _, rfl, fun i hi => ?_⟩
  show (if i < 10 then h.1 (q + 1) i else h.1 (o + 1) i) = _
  rw [if_pos hi]
  exact (hB i hi).1
def ca_X4_put : ((Nat → Nat) × Nat × Nat × Nat) → List zV := fun (B, o, f, b) => [vR 13 0 o, vI (nI f), vI (nI b)]
def cp_X4_put : ((Nat → Nat) × Nat × Nat × Nat) → zH → Prop := fun (B, o, f, b) h => rpO B h o ∧ f < 10 ∧ b < 10
def cq_X4_put : ((Nat → Nat) × Nat × Nat × Nat) → zH → Option zV → zH → Prop := fun (B, o, f, b) h r h' => r = none ∧ oW (oput B f b) h o h'
theorem rc_X4_put : ∀ x : ((Nat → Nat) × Nat × Nat × Nat), ∃ (j a : Nat) (As : List zV), ca_X4_put x = vR (10 + 3) j a :: As := by
  rintro ⟨B, o, f, b⟩
  exact ⟨_, _, _, rfl⟩
set_option maxHeartbeats 4000000 in
set_option maxRecDepth 100000 in
theorem m_X4_put : zM yX4_put cX4_put 5 none ({ frames := 1, cells := 0, slots := 0, locals := 21 } : Room) ((ca_X4_put, cp_X4_put, cq_X4_put) : zC ((Nat → Nat) × Nat × Nat × Nat)) := by
  refine zM_of (by decide) ?_
  rintro X Y ⟨B, o, f, b⟩ h ⟨hB, hf, hb⟩ O E hR
  obtain ⟨e1, l1⟩ := hB f hf
  obtain ⟨e3, l3⟩ := hB b hb
  have eG : h.1 (o + 1) b ||| ((1 : Int32) <<< (nI b &&& 31)) = nI (B b ||| 2 ^ b) := by rw [e3, nI_pow (by omega), fa_or]
  have B_74 := zr_return (X := X) (Y := Y) (u := 0) (v := 0) O E (Nat.le_refl _) (Nat.le_refl _) dX4_put_74
  have L_29 : ∀ nn : Nat, zSd X Y 0 0 29 ((fun k ls st h1 => ∃ (i : Nat) (z : Int32) (g : Nat → Int32), (B f).testBit b = false ∧ k = 10 - i ∧ i ≤ 10 ∧ ls = [some (vR 13 0 o), some (vI (nI f)), some (vI (nI b)), some (vI (nI (B b ||| 2 ^ b))), some (vI z)] ∧ z = nI i ∧ st = [] ∧ h1 = zsW h (o + 1) g ∧ (∀ j, j < i → g j = nI (oput B f b j)) ∧ ∀ j, i ≤ j → j < 10 → g j = nI (B j) : Nat → zT) nn) := by
    refine zSd_loop (fun nn ih => ?_)
    have B_68 := zr_iinc (X := X) (Y := Y) (u := 0) (v := 0) (c := 1) O dX4_put_68 rfl (zr_goto (tgt := 29) O dX4_put_71 rfl ih)
    have B_57 := zr_aload_n (X := X) (Y := Y) (u := 0) (v := 0) O dX4_put_57 rfl (zr_gS (ci := 3) (j := 0) (off := 1) (t := 1) (n := 10) O zc_3 (by decide) rfl tw_251 dX4_put_58 (zr_iload O dX4_put_61 (zr_dup2 O dX4_put_63 (zr_iald O dX4_put_64 (zr_iload_n O dX4_put_65 rfl (zr_ior O dX4_put_66 (zr_iast O dX4_put_67 (B_68))))))))
    have B_29 := zr_iload (X := X) (Y := Y) (u := 0) (v := 0) O dX4_put_29 (zr_bipush (x := (10)) O dX4_put_31 (by decide) (zr_icge (tgt := 74) O dX4_put_33 rfl B_74 (zr_iload O dX4_put_36 (zr_iload_n O dX4_put_38 rfl (zr_iceq (tgt := 57) O dX4_put_39 rfl B_57 (zr_aload_n O dX4_put_42 rfl (zr_gS (ci := 3) (j := 0) (off := 1) (t := 1) (n := 10) O zc_3 (by decide) rfl tw_251 dX4_put_43 (zr_iload O dX4_put_46 (zr_iald O dX4_put_48 (zr_iload_n O dX4_put_49 rfl (zr_cI (zr_cSN (n := 2) O m_X10_bitIn (bn_X10_bitIn _ ⟨rfl, rfl⟩) tw_374 wn_RX4_21 (zrm hR rfl rfl) dX4_put_50 (zr_iconst (x := 1) O dX4_put_53 rfl (zr_icne (tgt := 68) O dX4_put_54 rfl B_68 (B_57)))))))))))))))
    refine zSd_weak B_29 (fun ls st h1 t => ?_)
    obtain ⟨i, z, g, hn, rfl, hi, rfl, rfl, rfl, rfl, g1, g2⟩ := t
    refine ⟨fun cq => ⟨rfl, g, rfl, fun j hj => g1 j ?_⟩, fun cq => ?_⟩
    · have := (nI_leI (a := 10) (by omega) (by omega)).mp cq
      omega
    · have hi2 : i < 10 := Nat.not_le.mp (fun z => cq ((nI_leI (a := 10) (by omega) (by omega)).mpr z))
      have gi := g2 i (Nat.le_refl _) hi2
      obtain ⟨e5, l5⟩ := hB i hi2
      have hput : (i = f ∨ (B i).testBit f = true) → nI (B i) ||| nI (B b ||| 2 ^ b) = nI (oput B f b i) := by
        intro hc
        rw [fa_or, oput, if_neg (by simp [hn])]
        show _ = nI (if i = f ∨ (B i).testBit f then _ else _)
        rw [if_pos hc]
      have hno : ¬ (i = f ∨ (B i).testBit f = true) → nI (B i) = nI (oput B f b i) := by
        intro hc
        rw [oput, if_neg (by simp [hn])]
        show _ = nI (if i = f ∨ (B i).testBit f then _ else _)
        rw [if_neg hc]
      refine ⟨fun dq => ?_, fun dq => ?_⟩
      · have hif : i = f := (nI_eq (by omega) (by omega)).mp dq
        refine ⟨i, rfl, hi2, i, rfl, hi2, 10 - (i + 1), by omega, i + 1, _, va_up g i (nI (oput B f b i)), hn, rfl, by omega, rfl, nI_1 i, rfl, ?_, fun j hj => ?_, fun j hj hj2 => ?_⟩
        · rw [zsI_W, zsW_s, zsW_W, gi, hput (Or.inl hif)]
        · by_cases hji : j = i
          · rw [hji, zup_s]
          · rw [zup_n _ _ hji]; exact g1 j (by omega)
        · rw [zup_n _ _ (by omega)]; exact g2 j (by omega) hj2
      · have hif : i ≠ f := fun z => dq (by rw [z])
        have eb : ((zsW h (o + 1) g).1 (o + 1) i >>> (nI f &&& 31)) &&& 1 = bI ((B i).testBit f) := by
          rw [zsW_s, gi]; exact bI_in (by omega) (by omega)
        refine ⟨i, rfl, hi2, (_, _), rfl, trivial, fun eq => ?_, fun eq => ?_⟩
        · replace eq : ¬ ((zsW h (o + 1) g).1 (o + 1) i >>> (nI f &&& 31)) &&& 1 = 1 := eq
          rw [eb, bI_1] at eq
          refine ⟨10 - (i + 1), by omega, i + 1, _, g, hn, rfl, by omega, rfl, nI_1 i, rfl, rfl, fun j hj => ?_, fun j hj hj2 => g2 j (by omega) hj2⟩
          by_cases hji : j = i
          · rw [hji, gi, hno (fun z => z.elim hif eq)]
          · exact g1 j (by omega)
        · replace eq : ((zsW h (o + 1) g).1 (o + 1) i >>> (nI f &&& 31)) &&& 1 = 1 := eq
          rw [eb, bI_1] at eq
          refine ⟨i, rfl, hi2, i, rfl, hi2, 10 - (i + 1), by omega, i + 1, _, va_up g i (nI (oput B f b i)), hn, rfl, by omega, rfl, nI_1 i, rfl, ?_, fun j hj => ?_, fun j hj hj2 => ?_⟩
          · rw [zsI_W, zsW_s, zsW_W, gi, hput (Or.inr eq)]
          · by_cases hji : j = i
            · rw [hji, zup_s]
            · rw [zup_n _ _ hji]; exact g1 j (by omega)
          · rw [zup_n _ _ (by omega)]; exact g2 j (by omega) hj2
  have B_29 := zSd_any L_29
  have B_15 := zr_aload_n (X := X) (Y := Y) (u := 0) (v := 0) O dX4_put_15 rfl (zr_gS (ci := 3) (j := 0) (off := 1) (t := 1) (n := 10) O zc_3 (by decide) rfl tw_251 dX4_put_16 (zr_iload_n O dX4_put_19 rfl (zr_iald O dX4_put_20 (zr_iconst (x := 1) O dX4_put_21 rfl (zr_iload_n O dX4_put_22 rfl (zr_ishl O dX4_put_23 (zr_ior O dX4_put_24 (zr_istore_n O dX4_put_25 rfl (zr_iconst (x := 0) O dX4_put_26 rfl (zr_istore O dX4_put_27 (B_29)))))))))))
  have B_0 := zr_aload_n (X := X) (Y := Y) (u := 0) (v := 0) O dX4_put_0 rfl (zr_gS (ci := 3) (j := 0) (off := 1) (t := 1) (n := 10) O zc_3 (by decide) rfl tw_251 dX4_put_1 (zr_iload_n O dX4_put_4 rfl (zr_iald O dX4_put_5 (zr_iload_n O dX4_put_6 rfl (zr_cI (zr_cSN (n := 2) O m_X10_bitIn (bn_X10_bitIn _ ⟨rfl, rfl⟩) tw_374 wn_RX4_21 (zrm hR rfl rfl) dX4_put_7 (zr_iconst (x := 1) O dX4_put_10 rfl (zr_icne (tgt := 15) O dX4_put_11 rfl B_15 (zr_return O E (Nat.le_refl _) (Nat.le_refl _) dX4_put_14)))))))))
  refine ⟨rfl, Nat.le_of_ble_eq_true rfl, _, B_0, ?_⟩
  have e2 : (h.1 (o + 1) f >>> (nI b &&& 31)) &&& 1 = bI ((B f).testBit b) := by rw [e1]; exact bI_in (by omega) (by omega)
  refine ⟨f, rfl, hf, (_, _), rfl, trivial, fun cq => ?_, fun cq => ?_⟩
  · replace cq : ¬ (h.1 (o + 1) f >>> (nI b &&& 31)) &&& 1 = 1 := cq
    rw [e2, bI_1] at cq
    refine ⟨b, rfl, hb, 10 - 0, 0, _, h.1 (o + 1), by simpa using cq, rfl, Nat.zero_le _, by rw [eG]; rfl, rfl, rfl, (zsW_self h (o + 1)).symm, fun j hj => absurd hj (by omega), fun j _ hj => (hB j hj).1⟩
  · replace cq : (h.1 (o + 1) f >>> (nI b &&& 31)) &&& 1 = 1 := cq
    rw [e2, bI_1] at cq
    refine ⟨rfl, h.1 (o + 1), (zsW_self h (o + 1)).symm, fun j hj => ?_⟩
    rw [oput, if_pos cq]
    exact (hB j hj).1
/-- a pair's bit put in -/
def oputP (S : zD) (B : Nat → Nat) (p : Nat) (w : Bool) : Nat → Nat := if w then oput B (dF S p) (dS S p) else oput B (dS S p) (dF S p)
def ca_X4_putPair : (zD × (Nat → Nat) × Nat × Nat × Nat × Bool) → List zV := fun (S, B, o, a, p, w) => [vR 13 0 o, vR 15 0 a, vI (nI p), vI (bI w)]
def cp_X4_putPair : (zD × (Nat → Nat) × Nat × Nat × Nat × Bool) → zH → Prop := fun (S, B, o, a, p, w) h => rpO B h o ∧ rpS S h a ∧ p < dP S
def cq_X4_putPair : (zD × (Nat → Nat) × Nat × Nat × Nat × Bool) → zH → Option zV → zH → Prop := fun (S, B, o, a, p, w) h r h' => r = none ∧ oW (oputP S B p w) h o h'
theorem rc_X4_putPair : ∀ x : (zD × (Nat → Nat) × Nat × Nat × Nat × Bool), ∃ (j a : Nat) (As : List zV), ca_X4_putPair x = vR (10 + 3) j a :: As := by
  rintro ⟨S, B, o, a, p, w⟩
  exact ⟨_, _, _, rfl⟩
set_option maxHeartbeats 4000000 in
set_option maxRecDepth 100000 in
theorem m_X4_putPair : zM yX4_putPair cX4_putPair 6 none ({ frames := 2, cells := 0, slots := 0, locals := 45 } : Room) ((ca_X4_putPair, cp_X4_putPair, cq_X4_putPair) : zC (zD × (Nat → Nat) × Nat × Nat × Nat × Bool)) := by
  refine zM_of (by decide) ?_
  rintro X Y ⟨S, B, o, a, p, w⟩ h ⟨hB, hS, hp⟩ O E hR
  have B_41 := zr_cV (X := X) (Y := Y) (u := 0) (v := 0) (ci := 3) (n := 2) O m_X4_put (bn_X4_put _ ⟨rfl, rfl⟩) vw_X4_put tw_380 rc_X4_put (zrm hR rfl rfl) dX4_putPair_41 (zr_return O E (Nat.le_refl _) (Nat.le_refl _) dX4_putPair_44)
  have B_39 := zr_iload (X := X) (Y := Y) (u := 0) (v := 0) O dX4_putPair_39 (B_41)
  have B_29 := zr_iload_n (X := X) (Y := Y) (u := 0) (v := 0) O dX4_putPair_29 rfl (zr_iconst (x := 1) O dX4_putPair_30 rfl (zr_icne (tgt := 39) O dX4_putPair_31 rfl B_39 (zr_iload O dX4_putPair_34 (zr_goto (tgt := 41) O dX4_putPair_36 rfl B_41))))
  have B_27 := zr_iload (X := X) (Y := Y) (u := 0) (v := 0) O dX4_putPair_27 (B_29)
  have B_0 := zr_aload_n (X := X) (Y := Y) (u := 0) (v := 0) O dX4_putPair_0 rfl (zr_gS (ci := 5) (j := 5) (off := 4) (t := 1) (n := 28) O zc_5 (by decide) rfl tw_63 dX4_putPair_1 (zr_iload_n O dX4_putPair_4 rfl (zr_iald O dX4_putPair_5 (zr_istore O dX4_putPair_6 (zr_aload_n O dX4_putPair_8 rfl (zr_gS (ci := 5) (j := 6) (off := 5) (t := 1) (n := 28) O zc_5 (by decide) rfl tw_70 dX4_putPair_9 (zr_iload_n O dX4_putPair_12 rfl (zr_iald O dX4_putPair_13 (zr_istore O dX4_putPair_14 (zr_aload_n O dX4_putPair_16 rfl (zr_iload_n O dX4_putPair_17 rfl (zr_iconst (x := 1) O dX4_putPair_18 rfl (zr_icne (tgt := 27) O dX4_putPair_19 rfl B_27 (zr_iload O dX4_putPair_22 (zr_goto (tgt := 29) O dX4_putPair_24 rfl B_29)))))))))))))))
  refine ⟨rfl, Nat.le_of_ble_eq_true rfl, _, B_0, ?_⟩
  obtain ⟨⟨f1, f2⟩, s1, s2⟩ := hS.2.2.2.1 p hp
  have hN := hS.1.2
  have hp28 : p < 28 := Nat.lt_of_lt_of_le hp hS.2.1.2
  refine ⟨p, rfl, hp28, p, rfl, hp28, fun cq => ⟨fun dq => ?_, fun dq => absurd dq cq⟩, fun cq => ⟨fun dq => absurd cq dq, fun dq => ?_⟩⟩
  · refine ⟨(B, o, dS S p, dF S p), by rw [f1, s1]; rfl, ⟨hB, by omega, by omega⟩, fun r h' hq => ?_⟩
    obtain ⟨rfl, hq⟩ := hq
    refine ⟨rfl, ?_⟩
    have hw : w = false := by
      cases w with
      | true => exact absurd rfl cq
      | false => rfl
    show oW (oputP S B p w) h o h'
    rw [oputP, hw]
    exact hq
  · refine ⟨(B, o, dF S p, dS S p), by rw [f1, s1]; rfl, ⟨hB, by omega, by omega⟩, fun r h' hq => ?_⟩
    obtain ⟨rfl, hq⟩ := hq
    refine ⟨rfl, ?_⟩
    have hw : w = true := (bI_1 w).mp cq
    show oW (oputP S B p w) h o h'
    rw [oputP, hw]
    exact hq

