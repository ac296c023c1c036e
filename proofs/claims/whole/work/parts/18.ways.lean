theorem dX9_link_90 : decode cX9_link 90 = .ok (.return_, 1) := by decide +kernel
theorem dX9_link_84 : decode cX9_link 84 = .ok (.iinc 3 1, 3) := by decide +kernel
theorem dX9_link_87 : decode cX9_link 87 = .ok (.goto (-64), 3) := by decide +kernel
theorem dX9_link_23 : decode cX9_link 23 = .ok (.iload_n 3, 1) := by decide +kernel
theorem dX9_link_24 : decode cX9_link 24 = .ok (.aload_n 1, 1) := by decide +kernel
theorem dX9_link_25 : decode cX9_link 25 = .ok (.getfield 36, 3) := by decide +kernel
theorem dX9_link_28 : decode cX9_link 28 = .ok (.if_icmp .ge 62, 3) := by decide +kernel
theorem dX9_link_31 : decode cX9_link 31 = .ok (.iload_n 2, 1) := by decide +kernel
theorem dX9_link_32 : decode cX9_link 32 = .ok (.iload_n 3, 1) := by decide +kernel
theorem dX9_link_33 : decode cX9_link 33 = .ok (.invokestatic 39, 3) := by decide +kernel
theorem dX9_link_36 : decode cX9_link 36 = .ok (.iconst 1, 1) := by decide +kernel
theorem dX9_link_37 : decode cX9_link 37 = .ok (.if_icmp .ne 47, 3) := by decide +kernel
theorem dX9_link_40 : decode cX9_link 40 = .ok (.aload_n 0, 1) := by decide +kernel
theorem dX9_link_41 : decode cX9_link 41 = .ok (.getfield 9, 3) := by decide +kernel
theorem dX9_link_44 : decode cX9_link 44 = .ok (.aload_n 1, 1) := by decide +kernel
theorem dX9_link_45 : decode cX9_link 45 = .ok (.getfield 43, 3) := by decide +kernel
theorem dX9_link_48 : decode cX9_link 48 = .ok (.iload_n 3, 1) := by decide +kernel
theorem dX9_link_49 : decode cX9_link 49 = .ok (.iaload, 1) := by decide +kernel
theorem dX9_link_50 : decode cX9_link 50 = .ok (.dup2, 1) := by decide +kernel
theorem dX9_link_51 : decode cX9_link 51 = .ok (.iaload, 1) := by decide +kernel
theorem dX9_link_52 : decode cX9_link 52 = .ok (.iconst 1, 1) := by decide +kernel
theorem dX9_link_53 : decode cX9_link 53 = .ok (.aload_n 1, 1) := by decide +kernel
theorem dX9_link_54 : decode cX9_link 54 = .ok (.getfield 46, 3) := by decide +kernel
theorem dX9_link_57 : decode cX9_link 57 = .ok (.iload_n 3, 1) := by decide +kernel
theorem dX9_link_58 : decode cX9_link 58 = .ok (.iaload, 1) := by decide +kernel
theorem dX9_link_59 : decode cX9_link 59 = .ok (.ishl, 1) := by decide +kernel
theorem dX9_link_60 : decode cX9_link 60 = .ok (.ior, 1) := by decide +kernel
theorem dX9_link_61 : decode cX9_link 61 = .ok (.iastore, 1) := by decide +kernel
theorem dX9_link_62 : decode cX9_link 62 = .ok (.aload_n 0, 1) := by decide +kernel
theorem dX9_link_63 : decode cX9_link 63 = .ok (.getfield 9, 3) := by decide +kernel
theorem dX9_link_66 : decode cX9_link 66 = .ok (.aload_n 1, 1) := by decide +kernel
theorem dX9_link_67 : decode cX9_link 67 = .ok (.getfield 46, 3) := by decide +kernel
theorem dX9_link_70 : decode cX9_link 70 = .ok (.iload_n 3, 1) := by decide +kernel
theorem dX9_link_71 : decode cX9_link 71 = .ok (.iaload, 1) := by decide +kernel
theorem dX9_link_72 : decode cX9_link 72 = .ok (.dup2, 1) := by decide +kernel
theorem dX9_link_73 : decode cX9_link 73 = .ok (.iaload, 1) := by decide +kernel
theorem dX9_link_74 : decode cX9_link 74 = .ok (.iconst 1, 1) := by decide +kernel
theorem dX9_link_75 : decode cX9_link 75 = .ok (.aload_n 1, 1) := by decide +kernel
theorem dX9_link_76 : decode cX9_link 76 = .ok (.getfield 43, 3) := by decide +kernel
theorem dX9_link_79 : decode cX9_link 79 = .ok (.iload_n 3, 1) := by decide +kernel
theorem dX9_link_80 : decode cX9_link 80 = .ok (.iaload, 1) := by decide +kernel
theorem dX9_link_81 : decode cX9_link 81 = .ok (.ishl, 1) := by decide +kernel
theorem dX9_link_82 : decode cX9_link 82 = .ok (.ior, 1) := by decide +kernel
theorem dX9_link_83 : decode cX9_link 83 = .ok (.iastore, 1) := by decide +kernel
theorem dX9_link_21 : decode cX9_link 21 = .ok (.iconst 0, 1) := by decide +kernel
theorem dX9_link_22 : decode cX9_link 22 = .ok (.istore_n 3, 1) := by decide +kernel
theorem dX9_link_2 : decode cX9_link 2 = .ok (.iload_n 3, 1) := by decide +kernel
theorem dX9_link_3 : decode cX9_link 3 = .ok (.bipush 10, 2) := by decide +kernel
theorem dX9_link_5 : decode cX9_link 5 = .ok (.if_icmp .ge 16, 3) := by decide +kernel
theorem dX9_link_8 : decode cX9_link 8 = .ok (.aload_n 0, 1) := by decide +kernel
theorem dX9_link_9 : decode cX9_link 9 = .ok (.getfield 9, 3) := by decide +kernel
theorem dX9_link_12 : decode cX9_link 12 = .ok (.iload_n 3, 1) := by decide +kernel
theorem dX9_link_13 : decode cX9_link 13 = .ok (.iconst 0, 1) := by decide +kernel
theorem dX9_link_14 : decode cX9_link 14 = .ok (.iastore, 1) := by decide +kernel
theorem dX9_link_15 : decode cX9_link 15 = .ok (.iinc 3 1, 3) := by decide +kernel
theorem dX9_link_18 : decode cX9_link 18 = .ok (.goto (-16), 3) := by decide +kernel
theorem dX9_link_0 : decode cX9_link 0 = .ok (.iconst 0, 1) := by decide +kernel
theorem dX9_link_1 : decode cX9_link 1 = .ok (.istore_n 3, 1) := by decide +kernel
theorem dX9_countOf_42 : decode cX9_countOf 42 = .ok (.lload_n 2, 1) := by decide +kernel
theorem dX9_countOf_43 : decode cX9_countOf 43 = .ok (.lreturn, 1) := by decide +kernel
theorem dX9_countOf_5 : decode cX9_countOf 5 = .ok (.iload 4, 2) := by decide +kernel
theorem dX9_countOf_7 : decode cX9_countOf 7 = .ok (.ifCond .le 35, 3) := by decide +kernel
theorem dX9_countOf_10 : decode cX9_countOf 10 = .ok (.lload_n 2, 1) := by decide +kernel
theorem dX9_countOf_11 : decode cX9_countOf 11 = .ok (.aload_n 0, 1) := by decide +kernel
theorem dX9_countOf_12 : decode cX9_countOf 12 = .ok (.getfield 15, 3) := by decide +kernel
theorem dX9_countOf_15 : decode cX9_countOf 15 = .ok (.iload 4, 2) := by decide +kernel
theorem dX9_countOf_17 : decode cX9_countOf 17 = .ok (.iaload, 1) := by decide +kernel
theorem dX9_countOf_18 : decode cX9_countOf 18 = .ok (.i2l, 1) := by decide +kernel
theorem dX9_countOf_19 : decode cX9_countOf 19 = .ok (.aload_n 0, 1) := by decide +kernel
theorem dX9_countOf_20 : decode cX9_countOf 20 = .ok (.getfield 18, 3) := by decide +kernel
theorem dX9_countOf_23 : decode cX9_countOf 23 = .ok (.iload_n 1, 1) := by decide +kernel
theorem dX9_countOf_24 : decode cX9_countOf 24 = .ok (.iload 4, 2) := by decide +kernel
theorem dX9_countOf_26 : decode cX9_countOf 26 = .ok (.ixor, 1) := by decide +kernel
theorem dX9_countOf_27 : decode cX9_countOf 27 = .ok (.laload, 1) := by decide +kernel
theorem dX9_countOf_28 : decode cX9_countOf 28 = .ok (.lmul, 1) := by decide +kernel
theorem dX9_countOf_29 : decode cX9_countOf 29 = .ok (.ladd, 1) := by decide +kernel
theorem dX9_countOf_30 : decode cX9_countOf 30 = .ok (.lstore_n 2, 1) := by decide +kernel
theorem dX9_countOf_31 : decode cX9_countOf 31 = .ok (.iload 4, 2) := by decide +kernel
theorem dX9_countOf_33 : decode cX9_countOf 33 = .ok (.iconst 1, 1) := by decide +kernel
theorem dX9_countOf_34 : decode cX9_countOf 34 = .ok (.isub, 1) := by decide +kernel
theorem dX9_countOf_35 : decode cX9_countOf 35 = .ok (.iload_n 1, 1) := by decide +kernel
theorem dX9_countOf_36 : decode cX9_countOf 36 = .ok (.iand, 1) := by decide +kernel
theorem dX9_countOf_37 : decode cX9_countOf 37 = .ok (.istore 4, 2) := by decide +kernel
theorem dX9_countOf_39 : decode cX9_countOf 39 = .ok (.goto (-34), 3) := by decide +kernel
theorem dX9_countOf_0 : decode cX9_countOf 0 = .ok (.lconst 0, 1) := by decide +kernel
theorem dX9_countOf_1 : decode cX9_countOf 1 = .ok (.lstore_n 2, 1) := by decide +kernel
theorem dX9_countOf_2 : decode cX9_countOf 2 = .ok (.iload_n 1, 1) := by decide +kernel
theorem dX9_countOf_3 : decode cX9_countOf 3 = .ok (.istore 4, 2) := by decide +kernel
/-! ways: which rings are compared, and in how many rows of bits -/
def lkp (S : zD) (B : Nat → Nat) (p : Nat) : Nat → Nat := va_up (va_up B (dF S p) (B (dF S p) ||| 2 ^ dS S p)) (dS S p) (va_up B (dF S p) (B (dF S p) ||| 2 ^ dS S p) (dS S p) ||| 2 ^ dF S p)
def lnk (S : zD) (m : Nat) : Nat → (Nat → Nat)
  | 0 => fun _ => 0
  | i + 1 => if m.testBit i then lkp S (lnk S m i) i else lnk S m i
theorem lkp_lt {S : zD} {B : Nat → Nat} {p : Nat} (hB : ∀ r, r < 10 → B r < 1024) (hf : dF S p < 10) (hs : dS S p < 10) : ∀ r, r < 10 → lkp S B p r < 1024 := by
  have h1 : ∀ r, r < 10 → va_up B (dF S p) (B (dF S p) ||| 2 ^ dS S p) r < 1024 := by
    intro r hr
    by_cases e : r = dF S p
    · rw [e, zup_s]
      exact or_lt (n := 10) (hB _ hf) (Nat.pow_lt_pow_right (by omega) hs)
    · rw [zup_n _ _ e]; exact hB r hr
  intro r hr
  unfold lkp
  by_cases e : r = dS S p
  · rw [e, zup_s]
    exact or_lt (n := 10) (h1 _ hs) (Nat.pow_lt_pow_right (by omega) hf)
  · rw [zup_n _ _ e]; exact h1 r hr
theorem lnk_lt {S : zD} {m : Nat} (hN : dN S ≤ 10) : ∀ n, (∀ i, i < n → dF S i < dN S ∧ dS S i < dN S) → ∀ r, r < 10 → lnk S m n r < 1024
  | 0, _ => fun _ _ => (by decide : (0 : Nat) < 1024)
  | n + 1, hp => by
    intro r hr
    have ih := lnk_lt (m := m) hN n (fun i hi => hp i (by omega))
    have := hp n (by omega)
    unfold lnk
    split
    · exact lkp_lt ih (by omega) (by omega) r hr
    · exact ih r hr
theorem lkp_i {S : zD} {B : Nat → Nat} {f : Nat → Int32} {p : Nat} (hF : dF S p < 10) (hS : dS S p < 10) (h : ∀ r, r < 10 → f r = nI (B r)) : ∀ r, r < 10 → va_up (va_up f (dF S p) (f (dF S p) ||| nI (2 ^ dS S p))) (dS S p) (va_up f (dF S p) (f (dF S p) ||| nI (2 ^ dS S p)) (dS S p) ||| nI (2 ^ dF S p)) r = nI (lkp S B p r) := by
  have h1 : ∀ r, r < 10 → va_up f (dF S p) (f (dF S p) ||| nI (2 ^ dS S p)) r = nI (va_up B (dF S p) (B (dF S p) ||| 2 ^ dS S p) r) := by
    intro r hr
    by_cases e : r = dF S p
    · rw [e, zup_s, zup_s, h _ hF, fa_or]
    · rw [zup_n _ _ e, zup_n _ _ e, h r hr]
  intro r hr
  unfold lkp
  by_cases e : r = dS S p
  · rw [e, zup_s, zup_s, h1 _ hS, fa_or]
  · rw [zup_n _ _ e, zup_n _ _ e, h1 r hr]
def ca_X9_link : (zD × Nat × Nat × Nat) → List zV := fun (S, w, a, m) => [vR 18 0 w, vR 15 0 a, vI (nI m)]
def cp_X9_link : (zD × Nat × Nat × Nat) → zH → Prop := fun (S, w, a, m) h => rpS S h a ∧ m < 2 ^ 28 ∧ (w + 2 ≤ a ∨ a + 7 ≤ w)
def cq_X9_link : (zD × Nat × Nat × Nat) → zH → Option zV → zH → Prop := fun (S, w, a, m) h r h' => r = none ∧ ∃ f : Nat → Int32, h' = zsW h (w + 1) f ∧ ∀ r, r < 10 → f r = nI (lnk S m (dP S) r)
theorem rc_X9_link : ∀ x : (zD × Nat × Nat × Nat), ∃ (j a : Nat) (As : List zV), ca_X9_link x = vR (10 + 8) j a :: As := by
  rintro ⟨S, w, a, m⟩
  exact ⟨_, _, _, rfl⟩
set_option maxHeartbeats 4000000 in
set_option maxRecDepth 100000 in
theorem m_X9_link : zM yX9_link cX9_link 4 none ({ frames := 1, cells := 0, slots := 0, locals := 21 } : Room) ((ca_X9_link, cp_X9_link, cq_X9_link) : zC (zD × Nat × Nat × Nat)) := by
  refine zM_of (by decide) ?_
  rintro X Y ⟨S, w, a, m⟩ h ⟨hS, hm, hd⟩ O E hR
  have hS : rpS S h a := hS
  have hm : m < 2 ^ 28 := hm
  have hN : dN S ≤ 10 := hS.1.2
  have hP : dP S ≤ 28 := hS.2.1.2
  have B_90 := zr_return (X := X) (Y := Y) (u := 0) (v := 0) O E (Nat.le_refl _) (Nat.le_refl _) dX9_link_90
  have L_23 : ∀ nn : Nat, zSd X Y 0 0 23 ((fun k ls st h1 => ∃ (i : Nat) (z : Int32) (f : Nat → Int32), k = dP S - i ∧ i ≤ dP S ∧ ls = [some (vR 18 0 w), some (vR 15 0 a), some (vI (nI m)), some (vI z)] ∧ z = nI i ∧ st = [] ∧ h1 = zsW h (w + 1) f ∧ ∀ r, r < 10 → f r = nI (lnk S m i r) : Nat → zT) nn) := by
    refine zSd_loop (fun nn ih => ?_)
    have B_84 := zr_iinc (X := X) (Y := Y) (u := 0) (v := 0) (c := 1) O dX9_link_84 rfl (zr_goto (tgt := 23) O dX9_link_87 rfl ih)
    have B_23 := zr_iload_n (X := X) (Y := Y) (u := 0) (v := 0) O dX9_link_23 rfl (zr_aload_n O dX9_link_24 rfl (zr_gI (ci := 5) (j := 4) O zc_5 (by decide) rfl tw_56 dX9_link_25 (zr_icge (tgt := 90) O dX9_link_28 rfl B_90 (zr_iload_n O dX9_link_31 rfl (zr_iload_n O dX9_link_32 rfl (zr_cI (zr_cSN (n := 2) O m_X10_bitIn (bn_X10_bitIn _ ⟨rfl, rfl⟩) tw_374 wn_RX9_39 (zrm hR rfl rfl) dX9_link_33 (zr_iconst (x := 1) O dX9_link_36 rfl (zr_icne (tgt := 84) O dX9_link_37 rfl B_84 (zr_aload_n O dX9_link_40 rfl (zr_gS (ci := 8) (j := 0) (off := 1) (t := 1) (n := 10) O zc_8 (by decide) rfl tw_263 dX9_link_41 (zr_aload_n O dX9_link_44 rfl (zr_gS (ci := 5) (j := 5) (off := 4) (t := 1) (n := 28) O zc_5 (by decide) rfl tw_61 dX9_link_45 (zr_iload_n O dX9_link_48 rfl (zr_iald O dX9_link_49 (zr_dup2 O dX9_link_50 (zr_iald O dX9_link_51 (zr_iconst (x := 1) O dX9_link_52 rfl (zr_aload_n O dX9_link_53 rfl (zr_gS (ci := 5) (j := 6) (off := 5) (t := 1) (n := 28) O zc_5 (by decide) rfl tw_68 dX9_link_54 (zr_iload_n O dX9_link_57 rfl (zr_iald O dX9_link_58 (zr_ishl O dX9_link_59 (zr_ior O dX9_link_60 (zr_iast O dX9_link_61 (zr_aload_n O dX9_link_62 rfl (zr_gS (ci := 8) (j := 0) (off := 1) (t := 1) (n := 10) O zc_8 (by decide) rfl tw_263 dX9_link_63 (zr_aload_n O dX9_link_66 rfl (zr_gS (ci := 5) (j := 6) (off := 5) (t := 1) (n := 28) O zc_5 (by decide) rfl tw_68 dX9_link_67 (zr_iload_n O dX9_link_70 rfl (zr_iald O dX9_link_71 (zr_dup2 O dX9_link_72 (zr_iald O dX9_link_73 (zr_iconst (x := 1) O dX9_link_74 rfl (zr_aload_n O dX9_link_75 rfl (zr_gS (ci := 5) (j := 5) (off := 4) (t := 1) (n := 28) O zc_5 (by decide) rfl tw_61 dX9_link_76 (zr_iload_n O dX9_link_79 rfl (zr_iald O dX9_link_80 (zr_ishl O dX9_link_81 (zr_ior O dX9_link_82 (zr_iast O dX9_link_83 (B_84))))))))))))))))))))))))))))))))))))))))))
    refine zSd_weak B_23 (fun ls st h1 t => ?_)
    obtain ⟨i, z, f, rfl, hi, rfl, rfl, rfl, rfl, hf⟩ := t
    have hS2 : ∀ g : Nat → Int32, rpS S (zsW h (w + 1) g) a := fun g => rpS_fr (by omega) hS
    refine ⟨fun cq => ?_, fun cq => ?_⟩
    · rw [(hS2 f).2.1.1] at cq
      have := (nI_leI (by omega) (by omega)).mp cq
      have hii : i = dP S := by omega
      subst hii
      exact ⟨rfl, f, rfl, hf⟩
    · rw [(hS2 f).2.1.1] at cq
      have hi2 : i < dP S := Nat.not_le.mp (fun z => cq ((nI_leI (by omega) (by omega)).mpr z))
      have eb : (nI m >>> (nI i &&& 31)) &&& 1 = bI (m.testBit i) := bI_in (by omega) (by omega)
      obtain ⟨⟨f1, f2⟩, s1, s2⟩ := hS.2.2.2.1 _ hi2
      have eF : ∀ g : Nat → Int32, (zsW h (w + 1) g).1 (a + 4) i = nI (dF S i) := fun g => by rw [zsW_n _ _ (by omega)]; exact f1
      have eS : ∀ g : Nat → Int32, (zsW h (w + 1) g).1 (a + 5) i = nI (dS S i) := fun g => by rw [zsW_n _ _ (by omega)]; exact s1
      refine ⟨(nI m, nI i), rfl, trivial, fun dq => ?_, fun dq => ?_⟩
      · replace dq : ¬ (nI m >>> (nI i &&& 31)) &&& 1 = 1 := dq
        rw [eb, bI_1] at dq
        refine ⟨dP S - (i + 1), by omega, i + 1, _, f, rfl, by omega, rfl, nI_1 i, rfl, rfl, fun r hr => ?_⟩
        rw [lnk, if_neg dq]
        exact hf r hr
      · replace dq : (nI m >>> (nI i &&& 31)) &&& 1 = 1 := dq
        rw [eb, bI_1] at dq
        have hF : dF S i < 10 := by omega
        have hS10 : dS S i < 10 := by omega
        have h28 : i < 28 := by omega
        refine ⟨i, rfl, h28, dF S i, eF f, hF, i, rfl, h28, dF S i, eF f, hF, i, rfl, h28, dS S i, by rw [zsI_W, zsW_W]; exact eS _, hS10, i, rfl, h28, dS S i, by rw [zsI_W, zsW_W]; exact eS _, hS10, dP S - (i + 1), by omega, i + 1, _, va_up (va_up f (dF S i) (f (dF S i) ||| nI (2 ^ dS S i))) (dS S i) (va_up f (dF S i) (f (dF S i) ||| nI (2 ^ dS S i)) (dS S i) ||| nI (2 ^ dF S i)), rfl, by omega, rfl, nI_1 i, rfl, ?_, fun r hr => ?_⟩
        · simp only [zsI_W, zsW_s, zsW_W, eS, eF]
          rw [nI_pow (by omega), nI_pow (by omega)]
        · rw [lnk, if_pos dq]
          exact lkp_i hF hS10 hf r hr
  have B_23 := zSd_any L_23
  have B_21 := zr_iconst (X := X) (Y := Y) (u := 0) (v := 0) (x := 0) O dX9_link_21 rfl (zr_istore_n O dX9_link_22 rfl (B_23))
  have L_2 : ∀ nn : Nat, zSd X Y 0 0 2 ((fun k ls st h1 => ∃ (i : Nat) (z : Int32) (f : Nat → Int32), k = 10 - i ∧ i ≤ 10 ∧ ls = [some (vR 18 0 w), some (vR 15 0 a), some (vI (nI m)), some (vI z)] ∧ z = nI i ∧ st = [] ∧ h1 = zsW h (w + 1) f ∧ ∀ j, j < i → f j = 0 : Nat → zT) nn) := by
    refine zSd_loop (fun nn ih => ?_)
    have B_2 := zr_iload_n (X := X) (Y := Y) (u := 0) (v := 0) O dX9_link_2 rfl (zr_bipush (x := (10)) O dX9_link_3 (by decide) (zr_icge (tgt := 21) O dX9_link_5 rfl B_21 (zr_aload_n O dX9_link_8 rfl (zr_gS (ci := 8) (j := 0) (off := 1) (t := 1) (n := 10) O zc_8 (by decide) rfl tw_263 dX9_link_9 (zr_iload_n O dX9_link_12 rfl (zr_iconst (x := 0) O dX9_link_13 rfl (zr_iast O dX9_link_14 (zr_iinc (c := 1) O dX9_link_15 rfl (zr_goto (tgt := 2) O dX9_link_18 rfl ih)))))))))
    refine zSd_weak B_2 (fun ls st h1 t => ?_)
    obtain ⟨i, z, f, rfl, hi, rfl, rfl, rfl, rfl, hf⟩ := t
    refine ⟨fun cq => ?_, fun cq => ?_⟩
    · have := (nI_leI (a := 10) (by omega) (by omega)).mp cq
      exact ⟨dP S - 0, 0, _, f, rfl, Nat.zero_le _, rfl, rfl, rfl, rfl, fun j hj => by rw [hf j (by omega)]; rfl⟩
    · have hi2 : i < 10 := Nat.not_le.mp (fun z => cq ((nI_leI (a := 10) (by omega) (by omega)).mpr z))
      refine ⟨i, rfl, hi2, 10 - (i + 1), by omega, i + 1, _, va_up f i 0, rfl, by omega, rfl, nI_1 i, rfl, ?_, ?_⟩
      · rw [zsI_W, zsW_s, zsW_W]
      · intro j hj
        by_cases hji : j = i
        · rw [hji, zup_s]
        · rw [zup_n _ _ hji]
          exact hf j (by omega)
  have B_2 := zSd_any L_2
  have B_0 := zr_iconst (X := X) (Y := Y) (u := 0) (v := 0) (x := 0) O dX9_link_0 rfl (zr_istore_n O dX9_link_1 rfl (B_2))
  refine ⟨rfl, Nat.le_of_ble_eq_true rfl, _, B_0, ?_⟩
  exact ⟨10 - 0, 0, _, h.1 (w + 1), rfl, Nat.zero_le _, rfl, rfl, rfl, (zsW_self h (w + 1)).symm, fun j hj => absurd hj (by omega)⟩
/-- a set of rings no two of which are compared: 1 or -1 by how many, else 0 -/
def ind (B : Nat → Nat) (q : Nat) : Bool := decide (fb_ct (fun r => q.testBit r && decide (B r &&& q ≠ 0)) 10 = 0)
def sgn (B : Nat → Nat) (q : Nat) : Int32 := if ind B q then (if pop q % 2 = 1 then 1 else -1) else 0
def swT (B : Nat → Nat) (F : Nat → Int64) (q p : Nat) : Int64 := (sgn B p).toInt64 * F (q ^^^ p)
def sw (B : Nat → Nat) (F : Nat → Int64) (q : Nat) : Nat → Nat → Int64 → Int64
  | 0, _, x => x
  | n + 1, p, x => if p = 0 then x else sw B F q n ((p - 1) &&& q) (x + swT B F q p)
theorem sw_fuel (B : Nat → Nat) (F : Nat → Int64) (q : Nat) : ∀ n m p x, p ≤ n → p ≤ m → sw B F q n p x = sw B F q m p x
  | 0, 0, _, _, _, _ => rfl
  | 0, m + 1, p, x, h, _ => by
    have : p = 0 := by omega
    rw [sw, sw, if_pos this]
  | n + 1, 0, p, x, _, h => by
    have : p = 0 := by omega
    rw [sw, sw, if_pos this]
  | n + 1, m + 1, p, x, h1, h2 => by
    by_cases hp : p = 0
    · rw [sw, sw, if_pos hp, if_pos hp]
    · have : (p - 1) &&& q ≤ p - 1 := Nat.and_le_left
      rw [sw, sw, if_neg hp, if_neg hp]
      exact sw_fuel B F q n m _ _ (by omega) (by omega)
def sW (B : Nat → Nat) (F : Nat → Int64) (q p : Nat) (x : Int64) : Int64 := sw B F q p p x
theorem sW_0 (B : Nat → Nat) (F : Nat → Int64) (q : Nat) (x : Int64) : sW B F q 0 x = x := rfl
theorem sW_s (B : Nat → Nat) (F : Nat → Int64) (q : Nat) {p : Nat} (x : Int64) (hp : p ≠ 0) : sW B F q p x = sW B F q ((p - 1) &&& q) (x + swT B F q p) := by
  obtain ⟨n, rfl⟩ : ∃ n, p = n + 1 := ⟨p - 1, by omega⟩
  unfold sW
  rw [sw, if_neg hp]
  exact sw_fuel B F q _ _ _ _ Nat.and_le_left (Nat.le_refl _)
theorem zrl {x y : Int64} (h : x = y) : (some (.inr (.inl x)) : Option zV) = some (.inr (.inl y)) := by rw [h]
theorem xor_sub {p q : Nat} (h : p &&& q = p) (hp : p ≠ 0) : q ^^^ p < q := by
  have hb : ∀ i, (p.testBit i && q.testBit i) = p.testBit i := fun i => by rw [← Nat.testBit_and, h]
  have h1 : (q ^^^ p) &&& q = q ^^^ p := by
    apply Nat.eq_of_testBit_eq
    intro i
    have hi := hb i
    rw [Nat.testBit_and, Nat.testBit_xor]
    revert hi
    cases p.testBit i <;> cases q.testBit i <;> decide
  have h2 : q ^^^ p ≤ q := by
    have : (q ^^^ p) &&& q ≤ q := Nat.and_le_right
    rw [h1] at this
    exact this
  have h3 : q ^^^ p ≠ q := by
    intro z
    apply hp
    apply Nat.eq_of_testBit_eq
    intro i
    have hi : (q ^^^ p).testBit i = q.testBit i := by rw [z]
    rw [Nat.testBit_xor] at hi
    rw [Nat.zero_testBit]
    revert hi
    cases p.testBit i <;> cases q.testBit i <;> decide
  omega
theorem sW_cg {B : Nat → Nat} {F G : Nat → Int64} {q : Nat} : ∀ n p x, p ≤ n → p ≤ q → (p &&& q = p) → (∀ j, j < q → F j = G j) → sW B F q p x = sW B G q p x
  | n, p, x, hn, hq, hs, h => by
    by_cases hp : p = 0
    · rw [hp]; rfl
    · have h1 : (p - 1) &&& q ≤ p - 1 := Nat.and_le_left
      have h2 : q ^^^ p < q := xor_sub hs hp
      rw [sW_s _ _ _ _ hp, sW_s _ _ _ _ hp, swT, swT, h _ h2]
      cases n with
      | zero => omega
      | succ n => exact sW_cg n _ _ (by omega) (by omega) (by rw [Nat.and_assoc, Nat.and_self]) h
/-- ways by sets, each out of smaller ones -/
def wyT (B : Nat → Nat) : Nat → (Nat → Int64)
  | 0 => fun _ => 1
  | q + 1 => va_up (wyT B q) (q + 1) (sW B (wyT B q) (q + 1) (q + 1) 0)
def ca_X9_countOf : ((Nat → Nat) × (Nat → Int64) × Nat × Nat) → List zV := fun (B, F, w, q) => [vR 18 0 w, vI (nI q)]
def cp_X9_countOf : ((Nat → Nat) × (Nat → Int64) × Nat × Nat) → zH → Prop := fun (B, F, w, q) h => q < 1024 ∧ (∀ j, j ≤ q → h.1 (w + 2) j = sgn B j) ∧ ∀ j, j < q → h.2.1 (w + 3) j = F j
def cf_X9_countOf : ((Nat → Nat) × (Nat → Int64) × Nat × Nat) → zH → Int64 := fun (B, F, w, q) _ => sW B F q q 0
theorem rc_X9_countOf : ∀ x : ((Nat → Nat) × (Nat → Int64) × Nat × Nat), ∃ (j a : Nat) (As : List zV), ca_X9_countOf x = vR (10 + 8) j a :: As := by
  rintro ⟨B, F, w, q⟩
  exact ⟨_, _, _, rfl⟩
set_option maxHeartbeats 4000000 in
set_option maxRecDepth 100000 in
theorem m_X9_countOf : zM yX9_countOf cX9_countOf 5 (some .long) ({ frames := 0, cells := 0, slots := 0, locals := 0 } : Room) (zcL ca_X9_countOf cp_X9_countOf cf_X9_countOf) := by
  refine zM_of (by decide) ?_
  rintro X Y ⟨B, F, w, q⟩ h ⟨hq, hs, hf⟩ O E hR
  have B_42 := zr_lload_n (X := X) (Y := Y) (u := 0) (v := 0) O dX9_countOf_42 rfl (zr_lreturn O E (Nat.le_refl _) (Nat.le_refl _) dX9_countOf_43)
  have L_5 : ∀ nn : Nat, zSd X Y 0 0 5 ((fun k ls st h1 => ∃ (p : Nat) (x : Int64) (z : Int32) (y3 : Option zV), p = k ∧ p ≤ q ∧ p &&& q = p ∧ ls = [some (vR 18 0 w), some (vI (nI q)), some (vL x), y3, some (vI z)] ∧ z = nI p ∧ st = [] ∧ h = h1 ∧ sW B F q p x = sW B F q q 0 : Nat → zT) nn) := by
    refine zSd_loop (fun nn ih => ?_)
    have B_5 := zr_iload (X := X) (Y := Y) (u := 0) (v := 0) O dX9_countOf_5 (zr_ifle (tgt := 42) O dX9_countOf_7 rfl B_42 (zr_lload_n O dX9_countOf_10 rfl (zr_aload_n O dX9_countOf_11 rfl (zr_gS (ci := 8) (j := 1) (off := 2) (t := 1) (n := 1024) O zc_8 (by decide) rfl tw_264 dX9_countOf_12 (zr_iload O dX9_countOf_15 (zr_iald O dX9_countOf_17 (zr_i2l O dX9_countOf_18 (zr_aload_n O dX9_countOf_19 rfl (zr_gS (ci := 8) (j := 2) (off := 3) (t := 3) (n := 1024) O zc_8 (by decide) rfl tw_265 dX9_countOf_20 (zr_iload_n O dX9_countOf_23 rfl (zr_iload O dX9_countOf_24 (zr_ixor O dX9_countOf_26 (zr_lald O dX9_countOf_27 (zr_lmul O dX9_countOf_28 (zr_ladd O dX9_countOf_29 (zr_lstore_n O dX9_countOf_30 rfl (zr_iload O dX9_countOf_31 (zr_iconst (x := 1) O dX9_countOf_33 rfl (zr_isub O dX9_countOf_34 (zr_iload_n O dX9_countOf_35 rfl (zr_iand O dX9_countOf_36 (zr_istore O dX9_countOf_37 (zr_goto (tgt := 5) O dX9_countOf_39 rfl ih)))))))))))))))))))))))
    refine zSd_weak B_5 (fun ls st h1 t => ?_)
    obtain ⟨p, x, z, y3, rfl, hp, hpq, rfl, rfl, rfl, rfl, hx⟩ := t
    refine ⟨fun cq => ?_, fun cq => ?_⟩
    · have hz := (nI_leI (b := 0) (by omega) (by omega)).mp cq
      have hz : p = 0 := by omega
      rw [hz, sW_0] at hx
      exact ⟨zrl hx, rfl⟩
    · have hz : p ≠ 0 := fun z => cq (by rw [z]; exact Int32.le_refl _)
      have lx := xor_sub hpq hz
      have la : (p - 1) &&& q ≤ p - 1 := Nat.and_le_left
      obtain ⟨p', rfl⟩ : ∃ p', p = p' + 1 := ⟨p - 1, by omega⟩
      refine ⟨p' + 1, rfl, by omega, q ^^^ (p' + 1), by rw [fb_xorI], by omega, p' &&& q, by simp only [Nat.add_sub_cancel] at la; omega, p' &&& q, _, _, _, rfl, by simp only [Nat.add_sub_cancel] at la; omega, by rw [Nat.and_assoc, Nat.and_self], rfl, ?_, rfl, rfl, ?_⟩
      · rw [nI_pred, fa_and]
      · rw [sW_s _ _ _ _ hz] at hx
        rw [hs _ (by omega), hf _ lx]
        exact hx
  have B_5 := zSd_any L_5
  have B_0 := zr_lconst (X := X) (Y := Y) (u := 0) (v := 0) (x := 0) O dX9_countOf_0 rfl (zr_lstore_n O dX9_countOf_1 rfl (zr_iload_n O dX9_countOf_2 rfl (zr_istore O dX9_countOf_3 (B_5))))
  refine ⟨rfl, Nat.le_of_ble_eq_true rfl, _, B_0, ?_⟩
  exact ⟨q, q, _, _, _, rfl, Nat.le_refl _, Nat.and_self _, rfl, rfl, rfl, rfl, rfl⟩

