theorem dX11_many_20 : decode cX11_many 20 = .ok (.iload_n 1, 1) := by decide +kernel
theorem dX11_many_21 : decode cX11_many 21 = .ok (.ireturn, 1) := by decide +kernel
theorem dX11_many_4 : decode cX11_many 4 = .ok (.iload_n 2, 1) := by decide +kernel
theorem dX11_many_5 : decode cX11_many 5 = .ok (.ifCond .eq 15, 3) := by decide +kernel
theorem dX11_many_8 : decode cX11_many 8 = .ok (.iinc 1 1, 3) := by decide +kernel
theorem dX11_many_11 : decode cX11_many 11 = .ok (.iload_n 2, 1) := by decide +kernel
theorem dX11_many_12 : decode cX11_many 12 = .ok (.iload_n 2, 1) := by decide +kernel
theorem dX11_many_13 : decode cX11_many 13 = .ok (.iconst 1, 1) := by decide +kernel
theorem dX11_many_14 : decode cX11_many 14 = .ok (.isub, 1) := by decide +kernel
theorem dX11_many_15 : decode cX11_many 15 = .ok (.iand, 1) := by decide +kernel
theorem dX11_many_16 : decode cX11_many 16 = .ok (.istore_n 2, 1) := by decide +kernel
theorem dX11_many_17 : decode cX11_many 17 = .ok (.goto (-13), 3) := by decide +kernel
theorem dX11_many_0 : decode cX11_many 0 = .ok (.iconst 0, 1) := by decide +kernel
theorem dX11_many_1 : decode cX11_many 1 = .ok (.istore_n 1, 1) := by decide +kernel
theorem dX11_many_2 : decode cX11_many 2 = .ok (.iload_n 0, 1) := by decide +kernel
theorem dX11_many_3 : decode cX11_many 3 = .ok (.istore_n 2, 1) := by decide +kernel
theorem dX11_waysOf_98 : decode cX11_waysOf 98 = .ok (.aload_n 0, 1) := by decide +kernel
theorem dX11_waysOf_99 : decode cX11_waysOf 99 = .ok (.getfield 63, 3) := by decide +kernel
theorem dX11_waysOf_102 : decode cX11_waysOf 102 = .ok (.iconst 1, 1) := by decide +kernel
theorem dX11_waysOf_103 : decode cX11_waysOf 103 = .ok (.aload_n 0, 1) := by decide +kernel
theorem dX11_waysOf_104 : decode cX11_waysOf 104 = .ok (.getfield 224, 3) := by decide +kernel
theorem dX11_waysOf_107 : decode cX11_waysOf 107 = .ok (.ishl, 1) := by decide +kernel
theorem dX11_waysOf_108 : decode cX11_waysOf 108 = .ok (.iconst 1, 1) := by decide +kernel
theorem dX11_waysOf_109 : decode cX11_waysOf 109 = .ok (.isub, 1) := by decide +kernel
theorem dX11_waysOf_110 : decode cX11_waysOf 110 = .ok (.laload, 1) := by decide +kernel
theorem dX11_waysOf_111 : decode cX11_waysOf 111 = .ok (.lreturn, 1) := by decide +kernel
theorem dX11_waysOf_85 : decode cX11_waysOf 85 = .ok (.aload_n 0, 1) := by decide +kernel
theorem dX11_waysOf_86 : decode cX11_waysOf 86 = .ok (.getfield 63, 3) := by decide +kernel
theorem dX11_waysOf_89 : decode cX11_waysOf 89 = .ok (.iload_n 1, 1) := by decide +kernel
theorem dX11_waysOf_90 : decode cX11_waysOf 90 = .ok (.lload_n 2, 1) := by decide +kernel
theorem dX11_waysOf_91 : decode cX11_waysOf 91 = .ok (.lastore, 1) := by decide +kernel
theorem dX11_waysOf_92 : decode cX11_waysOf 92 = .ok (.iinc 1 1, 3) := by decide +kernel
theorem dX11_waysOf_95 : decode cX11_waysOf 95 = .ok (.goto (-93), 3) := by decide +kernel
theorem dX11_waysOf_74 : decode cX11_waysOf 74 = .ok (.iload 4, 2) := by decide +kernel
theorem dX11_waysOf_76 : decode cX11_waysOf 76 = .ok (.iconst 1, 1) := by decide +kernel
theorem dX11_waysOf_77 : decode cX11_waysOf 77 = .ok (.isub, 1) := by decide +kernel
theorem dX11_waysOf_78 : decode cX11_waysOf 78 = .ok (.iload_n 1, 1) := by decide +kernel
theorem dX11_waysOf_79 : decode cX11_waysOf 79 = .ok (.iand, 1) := by decide +kernel
theorem dX11_waysOf_80 : decode cX11_waysOf 80 = .ok (.istore 4, 2) := by decide +kernel
theorem dX11_waysOf_82 : decode cX11_waysOf 82 = .ok (.goto (-65), 3) := by decide +kernel
theorem dX11_waysOf_72 : decode cX11_waysOf 72 = .ok (.ladd, 1) := by decide +kernel
theorem dX11_waysOf_73 : decode cX11_waysOf 73 = .ok (.lstore_n 2, 1) := by decide +kernel
theorem dX11_waysOf_60 : decode cX11_waysOf 60 = .ok (.aload_n 0, 1) := by decide +kernel
theorem dX11_waysOf_61 : decode cX11_waysOf 61 = .ok (.getfield 63, 3) := by decide +kernel
theorem dX11_waysOf_64 : decode cX11_waysOf 64 = .ok (.iload_n 1, 1) := by decide +kernel
theorem dX11_waysOf_65 : decode cX11_waysOf 65 = .ok (.iload 4, 2) := by decide +kernel
theorem dX11_waysOf_67 : decode cX11_waysOf 67 = .ok (.iconst (-1), 1) := by decide +kernel
theorem dX11_waysOf_68 : decode cX11_waysOf 68 = .ok (.ixor, 1) := by decide +kernel
theorem dX11_waysOf_69 : decode cX11_waysOf 69 = .ok (.iand, 1) := by decide +kernel
theorem dX11_waysOf_70 : decode cX11_waysOf 70 = .ok (.laload, 1) := by decide +kernel
theorem dX11_waysOf_71 : decode cX11_waysOf 71 = .ok (.lneg, 1) := by decide +kernel
theorem dX11_waysOf_34 : decode cX11_waysOf 34 = .ok (.lload_n 2, 1) := by decide +kernel
theorem dX11_waysOf_35 : decode cX11_waysOf 35 = .ok (.iload 4, 2) := by decide +kernel
theorem dX11_waysOf_37 : decode cX11_waysOf 37 = .ok (.invokestatic 352, 3) := by decide +kernel
theorem dX11_waysOf_40 : decode cX11_waysOf 40 = .ok (.iconst 2, 1) := by decide +kernel
theorem dX11_waysOf_41 : decode cX11_waysOf 41 = .ok (.irem, 1) := by decide +kernel
theorem dX11_waysOf_42 : decode cX11_waysOf 42 = .ok (.iconst 1, 1) := by decide +kernel
theorem dX11_waysOf_43 : decode cX11_waysOf 43 = .ok (.if_icmp .ne 17, 3) := by decide +kernel
theorem dX11_waysOf_46 : decode cX11_waysOf 46 = .ok (.aload_n 0, 1) := by decide +kernel
theorem dX11_waysOf_47 : decode cX11_waysOf 47 = .ok (.getfield 63, 3) := by decide +kernel
theorem dX11_waysOf_50 : decode cX11_waysOf 50 = .ok (.iload_n 1, 1) := by decide +kernel
theorem dX11_waysOf_51 : decode cX11_waysOf 51 = .ok (.iload 4, 2) := by decide +kernel
theorem dX11_waysOf_53 : decode cX11_waysOf 53 = .ok (.iconst (-1), 1) := by decide +kernel
theorem dX11_waysOf_54 : decode cX11_waysOf 54 = .ok (.ixor, 1) := by decide +kernel
theorem dX11_waysOf_55 : decode cX11_waysOf 55 = .ok (.iand, 1) := by decide +kernel
theorem dX11_waysOf_56 : decode cX11_waysOf 56 = .ok (.laload, 1) := by decide +kernel
theorem dX11_waysOf_57 : decode cX11_waysOf 57 = .ok (.goto 15, 3) := by decide +kernel
theorem dX11_waysOf_17 : decode cX11_waysOf 17 = .ok (.iload 4, 2) := by decide +kernel
theorem dX11_waysOf_19 : decode cX11_waysOf 19 = .ok (.ifCond .le 66, 3) := by decide +kernel
theorem dX11_waysOf_22 : decode cX11_waysOf 22 = .ok (.aload_n 0, 1) := by decide +kernel
theorem dX11_waysOf_23 : decode cX11_waysOf 23 = .ok (.iload 4, 2) := by decide +kernel
theorem dX11_waysOf_25 : decode cX11_waysOf 25 = .ok (.invokevirtual 349, 3) := by decide +kernel
theorem dX11_waysOf_28 : decode cX11_waysOf 28 = .ok (.ifCond .ne 6, 3) := by decide +kernel
theorem dX11_waysOf_31 : decode cX11_waysOf 31 = .ok (.goto 43, 3) := by decide +kernel
theorem dX11_waysOf_2 : decode cX11_waysOf 2 = .ok (.iload_n 1, 1) := by decide +kernel
theorem dX11_waysOf_3 : decode cX11_waysOf 3 = .ok (.iconst 1, 1) := by decide +kernel
theorem dX11_waysOf_4 : decode cX11_waysOf 4 = .ok (.aload_n 0, 1) := by decide +kernel
theorem dX11_waysOf_5 : decode cX11_waysOf 5 = .ok (.getfield 224, 3) := by decide +kernel
theorem dX11_waysOf_8 : decode cX11_waysOf 8 = .ok (.ishl, 1) := by decide +kernel
theorem dX11_waysOf_9 : decode cX11_waysOf 9 = .ok (.if_icmp .ge 89, 3) := by decide +kernel
theorem dX11_waysOf_12 : decode cX11_waysOf 12 = .ok (.lconst 0, 1) := by decide +kernel
theorem dX11_waysOf_13 : decode cX11_waysOf 13 = .ok (.lstore_n 2, 1) := by decide +kernel
theorem dX11_waysOf_14 : decode cX11_waysOf 14 = .ok (.iload_n 1, 1) := by decide +kernel
theorem dX11_waysOf_15 : decode cX11_waysOf 15 = .ok (.istore 4, 2) := by decide +kernel
theorem dX11_waysOf_0 : decode cX11_waysOf 0 = .ok (.iconst 1, 1) := by decide +kernel
theorem dX11_waysOf_1 : decode cX11_waysOf 1 = .ok (.istore_n 1, 1) := by decide +kernel
/-! the reference: sets of rings counted, ways by sets -/
theorem low1 : ∀ n s : Nat, s ≤ n → s ≠ 0 → ∃ k, s.testBit k = true ∧ ∀ i, (s &&& (s - 1)).testBit i = (s.testBit i && decide (i ≠ k))
  | 0, s, hs, h0 => absurd (Nat.le_zero.mp hs) h0
  | n + 1, s, hs, h0 => by
    by_cases he : s % 2 = 1
    · refine ⟨0, by rw [Nat.testBit_zero, he]; rfl, fun i => ?_⟩
      rw [Nat.testBit_and]
      cases i with
      | zero =>
        have e2 : (s - 1) % 2 = 0 := by omega
        rw [Nat.testBit_zero, Nat.testBit_zero, e2]; simp
      | succ i =>
        rw [Nat.testBit_succ, Nat.testBit_succ, show (s - 1) / 2 = s / 2 by omega]; simp
    · obtain ⟨k, k1, k2⟩ := low1 n (s / 2) (by omega) (by omega)
      refine ⟨k + 1, by rw [Nat.testBit_succ]; exact k1, fun i => ?_⟩
      rw [Nat.testBit_and]
      cases i with
      | zero =>
        have e2 : s % 2 = 0 := by omega
        rw [Nat.testBit_zero, e2]; simp
      | succ i =>
        rw [Nat.testBit_succ, Nat.testBit_succ, show (s - 1) / 2 = s / 2 - 1 by omega, ← Nat.testBit_and, k2 i]
        congr 1
        rw [decide_eq_decide]
        omega
theorem ct_rm {f : Nat → Bool} {k : Nat} (hk : f k = true) : ∀ n, fb_ct (fun i => f i && decide (i ≠ k)) n + (if k < n then 1 else 0) = fb_ct f n
  | 0 => rfl
  | n + 1 => by
    have ih := ct_rm hk n
    rw [fb_ct_succ, fb_ct_succ, ← ih]
    by_cases e : n = k
    · subst e
      rw [hk, if_neg (Nat.lt_irrefl n), if_pos (Nat.lt_succ_self n)]
      simp
    · have e3 : (k < n + 1) = (k < n) := propext ⟨fun z => by omega, fun z => by omega⟩
      rw [decide_eq_true e, Bool.and_true]
      simp only [e3]
      omega
theorem pop_low1 {s : Nat} (hs : s < 2 ^ 31) (h0 : s ≠ 0) : pop (s &&& (s - 1)) + 1 = pop s := by
  obtain ⟨k, k1, k2⟩ := low1 s s (Nat.le_refl _) h0
  have hk : k < 32 := by
    rcases Nat.lt_or_ge k 32 with z | z
    · exact z
    · rw [Nat.testBit_lt_two_pow (Nat.lt_of_lt_of_le hs (Nat.pow_le_pow_right (by decide) (by omega)))] at k1
      cases k1
  have h1 := ct_rm (f := fun i => s.testBit i) k1 32
  rw [if_pos hk] at h1
  unfold pop
  rw [fb_ct_cong (fun i _ => k2 i)]
  exact h1
theorem pop_0 : pop 0 = 0 := by decide +kernel
def ca_X11_many : (Nat) → List zV := fun s => [vI (nI s)]
def cp_X11_many : (Nat) → zH → Prop := fun s _ => s < 2 ^ 31
def cf_X11_many : (Nat) → zH → Int32 := fun s _ => nI (pop s)
set_option maxHeartbeats 4000000 in
set_option maxRecDepth 100000 in
theorem m_X11_many : zM yX11_many cX11_many 3 (some .int) ({ frames := 0, cells := 0, slots := 0, locals := 0 } : Room) (zcI ca_X11_many cp_X11_many cf_X11_many) := by
  refine zM_of (by decide) ?_
  rintro X Y s h hs O E hR
  have hs : s < 2 ^ 31 := hs
  have B_20 := zr_iload_n (X := X) (Y := Y) (u := 0) (v := 0) O dX11_many_20 rfl (zr_ireturn O E (Nat.le_refl _) (Nat.le_refl _) dX11_many_21)
  have L_4 : ∀ nn : Nat, zSd X Y 0 0 4 ((fun d ls st h1 => ∃ (q : Nat) (u z : Int32), d = pop q ∧ q ≤ s ∧ pop q ≤ pop s ∧ ls = [some (vI (nI s)), some (vI u), some (vI z)] ∧ u = nI (pop s - pop q) ∧ z = nI q ∧ st = [] ∧ h = h1 : Nat → zT) nn) := by
    refine zSd_loop (fun nn ih => ?_)
    have B_4 := zr_iload_n (X := X) (Y := Y) (u := 0) (v := 0) O dX11_many_4 rfl (zr_ifeq (tgt := 20) O dX11_many_5 rfl B_20 (zr_iinc (c := 1) O dX11_many_8 rfl (zr_iload_n O dX11_many_11 rfl (zr_iload_n O dX11_many_12 rfl (zr_iconst (x := 1) O dX11_many_13 rfl (zr_isub O dX11_many_14 (zr_iand O dX11_many_15 (zr_istore_n O dX11_many_16 rfl (zr_goto (tgt := 4) O dX11_many_17 rfl ih)))))))))
    refine zSd_weak B_4 (fun ls st h1 t => ?_)
    obtain ⟨q, u, z, rfl, hq, hp, rfl, rfl, rfl, rfl, rfl⟩ := t
    refine ⟨fun c => ⟨zri ?_, rfl⟩, fun c => ?_⟩
    · have hq0 : q = 0 := (nI_eq (b := 0) (by omega) (by omega)).mp c
      rw [hq0, pop_0]; rfl
    · have hq0 : q ≠ 0 := fun z => c (by rw [z]; rfl)
      have e := pop_low1 (s := q) (by omega) hq0
      have la : q &&& (q - 1) ≤ q := Nat.and_le_left
      obtain ⟨q2, rfl⟩ : ∃ q2, q = q2 + 1 := ⟨q - 1, by omega⟩
      have e2 : nI (q2 + 1) &&& (nI (q2 + 1) - 1) = nI ((q2 + 1) &&& (q2 + 1 - 1)) := by rw [nI_pred, fa_and]; rfl
      refine ⟨pop ((q2 + 1) &&& (q2 + 1 - 1)), by omega, (q2 + 1) &&& (q2 + 1 - 1), _, _, rfl, by omega, by omega, rfl, ?_, e2, rfl, rfl⟩
      rw [show pop s - pop ((q2 + 1) &&& (q2 + 1 - 1)) = pop s - pop (q2 + 1) + 1 by omega]; exact nI_1 _
  have B_4 := zSd_any L_4
  have B_0 := zr_iconst (X := X) (Y := Y) (u := 0) (v := 0) (x := 0) O dX11_many_0 rfl (zr_istore_n O dX11_many_1 rfl (zr_iload_n O dX11_many_2 rfl (zr_istore_n O dX11_many_3 rfl (B_4))))
  refine ⟨rfl, Nat.le_of_ble_eq_true rfl, _, B_0, ?_⟩
  exact ⟨pop s, s, _, _, rfl, Nat.le_refl _, Nat.le_refl _, rfl, by rw [Nat.sub_self]; rfl, rfl, rfl, rfl⟩
/-- a row of longs -/
def zsV (h : zH) (a : Nat) (F : Nat → Int64) : zH := (h.1, va_up h.2.1 a F, h.2.2)
theorem zsV_s (h : zH) (a : Nat) (F : Nat → Int64) : (zsV h a F).2.1 a = F := zup_s _ _ _
theorem zsL_V (h : zH) (a j : Nat) (F : Nat → Int64) (x : Int64) : zsL (zsV h a F) a j x = zsV h a (va_up F j x) := by
  show (h.1, va_up (va_up h.2.1 a F) a (va_up (va_up h.2.1 a F a) j x), h.2.2) = _
  rw [zup_s, zup_up]; rfl
theorem zsV_self (h : zH) (a : Nat) : zsV h a (h.2.1 a) = h := by
  show (h.1, va_up h.2.1 a (h.2.1 a), h.2.2) = _
  rw [zup_self]
theorem fm_V {y j : Nat} (h : zH) (F : Nat → Int64) (hj : j < 18) : fm y h (zsV h (y + j) F) := ⟨fun q hq => ⟨rfl, zup_n _ _ (by omega)⟩, rfl, fun _ _ => rfl, fun _ _ => rfl⟩
theorem bt_n {i : Nat} (hi : i < 32) (n : Nat) : bt (nI n) i = n.testBit i := by
  unfold bt nI
  show (BitVec.ofNat 32 n).getLsbD i = _
  rw [BitVec.getLsbD_ofNat]
  simp [hi]
theorem less_x {q p : Nat} (hq : q < 1024) (h : p &&& q = p) : nI q &&& (nI p ^^^ (-1)) = nI (q ^^^ p) := by
  apply b_ext
  intro i hi
  have hb : (p.testBit i && q.testBit i) = p.testBit i := by rw [← Nat.testBit_and, h]
  rw [b_and, b_xor, b_m1 i hi, bt_n hi, bt_n hi, bt_n hi, Nat.testBit_xor]
  revert hb
  cases p.testBit i <;> cases q.testBit i <;> decide
theorem apt_ind {B : Nat → Nat} {N s : Nat} (hN : N ≤ 10) (hs : s < 2 ^ N) : apt2 N B s = ind B s := by
  unfold apt2 ind
  congr 2
  rw [show (10 : Nat) = N + (10 - N) by omega, fb_ct_split]
  have h0 : fb_ct (fun k => s.testBit (N + k) && decide (B (N + k) &&& s ≠ 0)) (10 - N) = 0 := fb_ct_zero.mpr (fun k _ => by rw [Nat.testBit_lt_two_pow (Nat.lt_of_lt_of_le hs (Nat.pow_le_pow_right (by decide) (by omega)))]; rfl)
  rw [h0]; rfl
theorem swT_1 {B : Nat → Nat} {F : Nat → Int64} {q p : Nat} (hi : ind B p = true) (hp : pop p % 2 = 1) : swT B F q p = F (q ^^^ p) := by
  rw [swT, sgn, if_pos hi, if_pos hp]
  show (1 : Int64) * _ = _
  exact Int64.one_mul _
theorem swT_m {B : Nat → Nat} {F : Nat → Int64} {q p : Nat} (hi : ind B p = true) (hp : ¬ pop p % 2 = 1) : swT B F q p = -F (q ^^^ p) := by
  rw [swT, sgn, if_pos hi, if_neg hp]
  show (-1 : Int64) * _ = _
  rw [Int64.neg_mul, Int64.one_mul]
theorem swT_0 {B : Nat → Nat} {F : Nat → Int64} {q p : Nat} (hi : ¬ ind B p = true) : swT B F q p = 0 := by
  rw [swT, sgn, if_neg hi]
  show (0 : Int64) * _ = _
  exact Int64.zero_mul
def ca_X11_waysOf : (zD × (Nat → Nat) × Nat) → List zV := fun (S, B, y) => [vR 20 0 y]
def cp_X11_waysOf : (zD × (Nat → Nat) × Nat) → zH → Prop := fun (S, B, y) h => rmS S h y ∧ rmb B h y ∧ h.2.1 (y + 16) 0 = 1
def cq_X11_waysOf : (zD × (Nat → Nat) × Nat) → zH → Option zV → zH → Prop := fun (S, B, y) h r h' => r = some (vL (wyT B (2 ^ dN S - 1) (2 ^ dN S - 1))) ∧ ∃ F : Nat → Int64, h' = zsV h (y + 16) F
theorem rc_X11_waysOf : ∀ x : (zD × (Nat → Nat) × Nat), ∃ (j a : Nat) (As : List zV), ca_X11_waysOf x = vR (10 + 10) j a :: As := by
  rintro ⟨S, B, y⟩
  exact ⟨_, _, _, rfl⟩
set_option maxHeartbeats 4000000 in
set_option maxRecDepth 100000 in
theorem m_X11_waysOf : zM yX11_waysOf cX11_waysOf 5 (some .long) ({ frames := 1, cells := 0, slots := 0, locals := 22 } : Room) ((ca_X11_waysOf, cp_X11_waysOf, cq_X11_waysOf) : zC (zD × (Nat → Nat) × Nat)) := by
  refine zM_of (by decide) ?_
  rintro X Y ⟨S, B, y⟩ h ⟨hS, hB, h1⟩ O E hR
  have hS : rmS S h y := hS
  have hB : rmb B h y := hB
  have hw1 : h.2.1 (y + 16) 0 = 1 := h1
  have hN := hS.1.2
  have hp10 : 2 ^ dN S ≤ 2 ^ 10 := Nat.pow_le_pow_right (by omega) hN
  have hp0 : 0 < 2 ^ dN S := Nat.two_pow_pos _
  have B_98 := zr_aload_n (X := X) (Y := Y) (u := 0) (v := 0) O dX11_waysOf_98 rfl (zr_gS (ci := 10) (j := 33) (off := 16) (t := 3) (n := 1024) O zc_10 (by decide) rfl tw_1220 dX11_waysOf_99 (zr_iconst (x := 1) O dX11_waysOf_102 rfl (zr_aload_n O dX11_waysOf_103 rfl (zr_gI (ci := 10) (j := 10) O zc_10 (by decide) rfl tw_1197 dX11_waysOf_104 (zr_ishl O dX11_waysOf_107 (zr_iconst (x := 1) O dX11_waysOf_108 rfl (zr_isub O dX11_waysOf_109 (zr_lald O dX11_waysOf_110 (zr_lreturn O E (Nat.le_refl _) (Nat.le_refl _) dX11_waysOf_111)))))))))
  have L_2 : ∀ nn : Nat, zSd X Y 0 0 2 ((fun d ls st h1 => ∃ (s : Nat) (z : Int32) (F : Nat → Int64) (y2 y3 y4 : Option zV), d = 2 ^ dN S - (s + 1) ∧ s + 1 ≤ 2 ^ dN S ∧ (y2 = none ∨ ∃ v : Int64, y2 = some (vL v)) ∧ ls = [some (vR 20 0 y), some (vI z), y2, y3, y4] ∧ z = nI (s + 1) ∧ st = [] ∧ h1 = zsV h (y + 16) F ∧ ∀ j, j ≤ s → F j = wyT B s j : Nat → zT) nn) := by
    refine zSd_loop (fun nn ih => ?_)
    have B_85 := zr_aload_n (X := X) (Y := Y) (u := 0) (v := 0) O dX11_waysOf_85 rfl (zr_gS (ci := 10) (j := 33) (off := 16) (t := 3) (n := 1024) O zc_10 (by decide) rfl tw_1220 dX11_waysOf_86 (zr_iload_n O dX11_waysOf_89 rfl (zr_lload_n O dX11_waysOf_90 rfl (zr_last O dX11_waysOf_91 (zr_iinc (c := 1) O dX11_waysOf_92 rfl (zr_goto (tgt := 2) O dX11_waysOf_95 rfl ih))))))
    have L_17 : ∀ nn17 : Nat, zSd X Y 0 0 17 ((fun d ls st h1 => ∃ (s p : Nat) (x : Int64) (z u : Int32) (F : Nat → Int64), p = d ∧ nn = 2 ^ dN S - (s + 1) ∧ s + 1 < 2 ^ dN S ∧ p ≤ s + 1 ∧ p &&& (s + 1) = p ∧ ls = [some (vR 20 0 y), some (vI z), some (vL x), none, some (vI u)] ∧ z = nI (s + 1) ∧ u = nI p ∧ st = [] ∧ h1 = zsV h (y + 16) F ∧ (∀ j, j ≤ s → F j = wyT B s j) ∧ sW B (wyT B s) (s + 1) p x = sW B (wyT B s) (s + 1) (s + 1) 0 : Nat → zT) nn17) := by
      refine zSd_loop (fun nn17 ih17 => ?_)
      have B_74 := zr_iload (X := X) (Y := Y) (u := 0) (v := 0) O dX11_waysOf_74 (zr_iconst (x := 1) O dX11_waysOf_76 rfl (zr_isub O dX11_waysOf_77 (zr_iload_n O dX11_waysOf_78 rfl (zr_iand O dX11_waysOf_79 (zr_istore O dX11_waysOf_80 (zr_goto (tgt := 17) O dX11_waysOf_82 rfl ih17))))))
      have C_74 : zSd X Y 0 0 74 (fun ls st h1 => ∃ (s p : Nat) (x : Int64) (z u : Int32) (F : Nat → Int64), p = nn17 ∧ ¬ p = 0 ∧ nn = 2 ^ dN S - (s + 1) ∧ s + 1 < 2 ^ dN S ∧ p ≤ s + 1 ∧ p &&& (s + 1) = p ∧ ls = [some (vR 20 0 y), some (vI z), some (vL x), none, some (vI u)] ∧ z = nI (s + 1) ∧ u = nI p ∧ st = [] ∧ h1 = zsV h (y + 16) F ∧ (∀ j, j ≤ s → F j = wyT B s j) ∧ sW B (wyT B s) (s + 1) ((p - 1) &&& (s + 1)) x = sW B (wyT B s) (s + 1) (s + 1) 0) := by
        refine zSd_weak B_74 (fun ls st h1 t => ?_)
        obtain ⟨s, p, x, z, u, F, ep, hp, en, hs, hps, hsub, rfl, rfl, rfl, rfl, rfl, hF, hx⟩ := t
        have la : (p - 1) &&& (s + 1) ≤ p - 1 := Nat.and_le_left
        obtain ⟨p2, rfl⟩ : ∃ p2, p = p2 + 1 := ⟨p - 1, by omega⟩
        exact ⟨p2 &&& (s + 1), by simp only [Nat.add_sub_cancel] at la; omega, s, p2 &&& (s + 1), _, _, _, F, rfl, en, hs, by simp only [Nat.add_sub_cancel] at la; omega, by rw [Nat.and_assoc, Nat.and_self], rfl, rfl, by rw [nI_pred, fa_and], rfl, rfl, hF, hx⟩
      have B_72 := zr_ladd (X := X) (Y := Y) (u := 0) (v := 0) O dX11_waysOf_72 (zr_lstore_n O dX11_waysOf_73 rfl (C_74))
      have B_60 := zr_aload_n (X := X) (Y := Y) (u := 0) (v := 0) O dX11_waysOf_60 rfl (zr_gS (ci := 10) (j := 33) (off := 16) (t := 3) (n := 1024) O zc_10 (by decide) rfl tw_1220 dX11_waysOf_61 (zr_iload_n O dX11_waysOf_64 rfl (zr_iload O dX11_waysOf_65 (zr_iconst (x := (-1)) O dX11_waysOf_67 rfl (zr_ixor O dX11_waysOf_68 (zr_iand O dX11_waysOf_69 (zr_lald O dX11_waysOf_70 (zr_lneg O dX11_waysOf_71 (B_72)))))))))
      have B_34 := zr_lload_n (X := X) (Y := Y) (u := 0) (v := 0) O dX11_waysOf_34 rfl (zr_iload O dX11_waysOf_35 (zr_cI (zr_cS (n := 1) O m_X11_many (bn_X11_many _ ⟨rfl, rfl⟩) tw_1658 tw_1657 (zrm hR rfl rfl) dX11_waysOf_37 (zr_iconst (x := 2) O dX11_waysOf_40 rfl (zr_irem O dX11_waysOf_41 (zr_iconst (x := 1) O dX11_waysOf_42 rfl (zr_icne (tgt := 60) O dX11_waysOf_43 rfl B_60 (zr_aload_n O dX11_waysOf_46 rfl (zr_gS (ci := 10) (j := 33) (off := 16) (t := 3) (n := 1024) O zc_10 (by decide) rfl tw_1220 dX11_waysOf_47 (zr_iload_n O dX11_waysOf_50 rfl (zr_iload O dX11_waysOf_51 (zr_iconst (x := (-1)) O dX11_waysOf_53 rfl (zr_ixor O dX11_waysOf_54 (zr_iand O dX11_waysOf_55 (zr_lald O dX11_waysOf_56 (zr_goto (tgt := 72) O dX11_waysOf_57 rfl B_72))))))))))))))))
      have B_17 := zr_iload (X := X) (Y := Y) (u := 0) (v := 0) O dX11_waysOf_17 (zr_ifle (tgt := 85) O dX11_waysOf_19 rfl B_85 (zr_aload_n O dX11_waysOf_22 rfl (zr_iload O dX11_waysOf_23 (zr_cI (zr_cV (ci := 10) (n := 1) O m_X11_isApart (bn_X11_isApart _ ⟨rfl, rfl⟩) vw_X11_isApart tw_1653 rc_X11_isApart (zrm hR rfl rfl) dX11_waysOf_25 (zr_ifne (tgt := 34) O dX11_waysOf_28 rfl B_34 (zr_goto (tgt := 74) O dX11_waysOf_31 rfl C_74)))))))
      refine zSd_weak B_17 (fun ls st h1 t => ?_)
      obtain ⟨s, p, x, z, u, F, rfl, en, hs, hps, hsub, rfl, rfl, rfl, rfl, rfl, hF, hx⟩ := t
      have fV := fm_V (y := y) (j := 16) h F (by decide)
      have hS1 := rmS_fm fV hS
      have hB1 : rmb B (zsV h (y + 16) F) y := hB
      refine ⟨fun c => ?_, fun c => ?_⟩
      · have hz := (nI_leI (b := 0) (by omega) (by omega)).mp c
        have hz : p = 0 := by omega
        rw [hz, sW_0] at hx
        refine ⟨s + 1, rfl, by omega, 2 ^ dN S - (s + 1 + 1), by omega, s + 1, _, va_up F (s + 1) x, _, _, _, rfl, by omega, Or.inr ⟨x, rfl⟩, rfl, nI_1 _, rfl, zsL_V _ _ _ _ _, fun j hj => ?_⟩
        rw [wyT, ← hx]
        by_cases e : j = s + 1
        · rw [e, zup_s, zup_s]
        · rw [zup_n _ _ e, zup_n _ _ e]; exact hF j (by omega)
      · have hz : p ≠ 0 := fun z => c (by rw [z]; exact Int32.le_refl _)
        have lx := xor_sub hsub hz
        have ea : apt2 (dN S) B p = ind B p := apt_ind hN (by omega)
        have hst := sW_s B (wyT B s) (s + 1) x hz
        have ex : nI (s + 1) &&& (nI p ^^^ (-1)) = nI ((s + 1) ^^^ p) := less_x (by omega) hsub
        have eF : (zsV h (y + 16) F).2.1 (y + 16) ((s + 1) ^^^ p) = wyT B s ((s + 1) ^^^ p) := by rw [zsV_s]; exact hF _ (by omega)
        have em : nI (pop p) - nI (pop p) / 2 * 2 = nI (pop p % 2) := by
          have hpop : pop p ≤ 32 := fb_ct_le _ _
          exact pk_rem (d := 2) (by omega) (by decide) (by decide)
        refine ⟨(S, B, y, p), rfl, ⟨hS1, hB1, by show p < 1024; omega⟩, fun c2 => ?_, fun c2 => ?_⟩
        · replace c2 : ¬ bI (apt2 (dN S) B p) = 0 := c2
          have hi : ind B p = true := by
            rw [ea] at c2
            cases hz : ind B p with
            | true => rfl
            | false => exact absurd ((bI_0 _).mpr hz) c2
          refine ⟨p, rfl, by show p < 2 ^ 31; omega, by decide, fun c3 => ⟨(s + 1) ^^^ p, ex, by omega, s, p, _, _, _, F, rfl, hz, en, hs, hps, hsub, rfl, rfl, rfl, rfl, rfl, hF, ?_⟩, fun c3 => ⟨(s + 1) ^^^ p, ex, by omega, s, p, _, _, _, F, rfl, hz, en, hs, hps, hsub, rfl, rfl, rfl, rfl, rfl, hF, ?_⟩⟩
          · replace c3 : ¬ nI (pop p) - nI (pop p) / 2 * 2 = 1 := c3
            rw [em] at c3
            rw [eF, ← hx, hst, swT_m hi (fun z => c3 (by rw [z]; rfl))]
          · replace c3 : nI (pop p) - nI (pop p) / 2 * 2 = 1 := c3
            rw [em] at c3
            have h2 := (nI_eq (b := 1) (by omega) (by decide)).mp c3
            rw [eF, ← hx, hst, swT_1 hi h2]
        · replace c2 : bI (apt2 (dN S) B p) = 0 := c2
          rw [ea] at c2
          have hi := (bI_0 _).mp c2
          refine ⟨s, p, x, _, _, F, rfl, hz, en, hs, hps, hsub, rfl, rfl, rfl, rfl, rfl, hF, ?_⟩
          rw [← hx, hst, swT_0 (by rw [hi]; decide), Int64.add_zero]
    have B_17 := zSd_any L_17
    have B_2 := zr_iload_n (X := X) (Y := Y) (u := 0) (v := 0) O dX11_waysOf_2 rfl (zr_iconst (x := 1) O dX11_waysOf_3 rfl (zr_aload_n O dX11_waysOf_4 rfl (zr_gI (ci := 10) (j := 10) O zc_10 (by decide) rfl tw_1197 dX11_waysOf_5 (zr_ishl O dX11_waysOf_8 (zr_icge (tgt := 98) O dX11_waysOf_9 rfl B_98 (zr_lconst (x := 0) O dX11_waysOf_12 rfl (zr_lstore_n O dX11_waysOf_13 rfl (zr_iload_n O dX11_waysOf_14 rfl (zr_istore O dX11_waysOf_15 (B_17))))))))))
    refine zSd_weak B_2 (fun ls st h1 t => ?_)
    obtain ⟨s, z, F, y2, y3, y4, rfl, hs, hy2, rfl, rfl, rfl, rfl, hF⟩ := t
    have fV := fm_V (y := y) (j := 16) h F (by decide)
    have hS1 := rmS_fm fV hS
    refine ⟨fun c => ?_, fun c => ?_⟩
    · rw [hS1.1.1, nI_pow (by omega)] at c
      have := (nI_leI (by omega) (by omega)).mp c
      have e : s = 2 ^ dN S - 1 := by omega
      refine ⟨2 ^ dN S - 1, by rw [hS1.1.1]; exact nI_lo (by omega), by omega, zrl ?_, F, rfl⟩
      rw [zsV_s, ← e]; exact hF s (Nat.le_refl _)
    · rw [hS1.1.1, nI_pow (by omega)] at c
      have hlt : s + 1 < 2 ^ dN S := Nat.not_le.mp (fun z => c ((nI_leI (by omega) (by omega)).mpr z))
      rcases hy2 with rfl | ⟨v, rfl⟩
      · exact ⟨s + 1, s, s + 1, _, _, _, F, rfl, rfl, hlt, Nat.le_refl _, Nat.and_self _, rfl, rfl, rfl, rfl, rfl, hF, rfl⟩
      · exact ⟨s + 1, s, s + 1, _, _, _, F, rfl, rfl, hlt, Nat.le_refl _, Nat.and_self _, rfl, rfl, rfl, rfl, rfl, hF, rfl⟩
  have B_2 := zSd_any L_2
  have B_0 := zr_iconst (X := X) (Y := Y) (u := 0) (v := 0) (x := 1) O dX11_waysOf_0 rfl (zr_istore_n O dX11_waysOf_1 rfl (B_2))
  refine ⟨rfl, Nat.le_of_ble_eq_true rfl, _, B_0, ?_⟩
  refine ⟨2 ^ dN S - (0 + 1), 0, _, h.2.1 (y + 16), _, _, _, rfl, hp0, Or.inl rfl, rfl, rfl, rfl, (zsV_self _ _).symm, fun j hj => ?_⟩
  have : j = 0 := by omega
  rw [this, hw1]; rfl

