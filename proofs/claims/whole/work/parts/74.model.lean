theorem dX11_compares_0 : decode cX11_compares 0 = .ok (.aload_n 0, 1) := by decide +kernel
theorem dX11_compares_1 : decode cX11_compares 1 = .ok (.getfield 60, 3) := by decide +kernel
theorem dX11_compares_4 : decode cX11_compares 4 = .ok (.aload_n 0, 1) := by decide +kernel
theorem dX11_compares_5 : decode cX11_compares 5 = .ok (.getfield 26, 3) := by decide +kernel
theorem dX11_compares_8 : decode cX11_compares 8 = .ok (.iload_n 1, 1) := by decide +kernel
theorem dX11_compares_9 : decode cX11_compares 9 = .ok (.iaload, 1) := by decide +kernel
theorem dX11_compares_10 : decode cX11_compares 10 = .ok (.dup2, 1) := by decide +kernel
theorem dX11_compares_11 : decode cX11_compares 11 = .ok (.iaload, 1) := by decide +kernel
theorem dX11_compares_12 : decode cX11_compares 12 = .ok (.iconst 1, 1) := by decide +kernel
theorem dX11_compares_13 : decode cX11_compares 13 = .ok (.aload_n 0, 1) := by decide +kernel
theorem dX11_compares_14 : decode cX11_compares 14 = .ok (.getfield 29, 3) := by decide +kernel
theorem dX11_compares_17 : decode cX11_compares 17 = .ok (.iload_n 1, 1) := by decide +kernel
theorem dX11_compares_18 : decode cX11_compares 18 = .ok (.iaload, 1) := by decide +kernel
theorem dX11_compares_19 : decode cX11_compares 19 = .ok (.ishl, 1) := by decide +kernel
theorem dX11_compares_20 : decode cX11_compares 20 = .ok (.ior, 1) := by decide +kernel
theorem dX11_compares_21 : decode cX11_compares 21 = .ok (.iastore, 1) := by decide +kernel
theorem dX11_compares_22 : decode cX11_compares 22 = .ok (.aload_n 0, 1) := by decide +kernel
theorem dX11_compares_23 : decode cX11_compares 23 = .ok (.getfield 60, 3) := by decide +kernel
theorem dX11_compares_26 : decode cX11_compares 26 = .ok (.aload_n 0, 1) := by decide +kernel
theorem dX11_compares_27 : decode cX11_compares 27 = .ok (.getfield 29, 3) := by decide +kernel
theorem dX11_compares_30 : decode cX11_compares 30 = .ok (.iload_n 1, 1) := by decide +kernel
theorem dX11_compares_31 : decode cX11_compares 31 = .ok (.iaload, 1) := by decide +kernel
theorem dX11_compares_32 : decode cX11_compares 32 = .ok (.dup2, 1) := by decide +kernel
theorem dX11_compares_33 : decode cX11_compares 33 = .ok (.iaload, 1) := by decide +kernel
theorem dX11_compares_34 : decode cX11_compares 34 = .ok (.iconst 1, 1) := by decide +kernel
theorem dX11_compares_35 : decode cX11_compares 35 = .ok (.aload_n 0, 1) := by decide +kernel
theorem dX11_compares_36 : decode cX11_compares 36 = .ok (.getfield 26, 3) := by decide +kernel
theorem dX11_compares_39 : decode cX11_compares 39 = .ok (.iload_n 1, 1) := by decide +kernel
theorem dX11_compares_40 : decode cX11_compares 40 = .ok (.iaload, 1) := by decide +kernel
theorem dX11_compares_41 : decode cX11_compares 41 = .ok (.ishl, 1) := by decide +kernel
theorem dX11_compares_42 : decode cX11_compares 42 = .ok (.ior, 1) := by decide +kernel
theorem dX11_compares_43 : decode cX11_compares 43 = .ok (.iastore, 1) := by decide +kernel
theorem dX11_compares_44 : decode cX11_compares 44 = .ok (.return_, 1) := by decide +kernel
theorem dX11_isApart_38 : decode cX11_isApart 38 = .ok (.iconst 1, 1) := by decide +kernel
theorem dX11_isApart_39 : decode cX11_isApart 39 = .ok (.ireturn, 1) := by decide +kernel
theorem dX11_isApart_32 : decode cX11_isApart 32 = .ok (.iinc 2 1, 3) := by decide +kernel
theorem dX11_isApart_35 : decode cX11_isApart 35 = .ok (.goto (-33), 3) := by decide +kernel
theorem dX11_isApart_2 : decode cX11_isApart 2 = .ok (.iload_n 2, 1) := by decide +kernel
theorem dX11_isApart_3 : decode cX11_isApart 3 = .ok (.aload_n 0, 1) := by decide +kernel
theorem dX11_isApart_4 : decode cX11_isApart 4 = .ok (.getfield 224, 3) := by decide +kernel
theorem dX11_isApart_7 : decode cX11_isApart 7 = .ok (.if_icmp .ge 31, 3) := by decide +kernel
theorem dX11_isApart_10 : decode cX11_isApart 10 = .ok (.iload_n 1, 1) := by decide +kernel
theorem dX11_isApart_11 : decode cX11_isApart 11 = .ok (.iload_n 2, 1) := by decide +kernel
theorem dX11_isApart_12 : decode cX11_isApart 12 = .ok (.ishr, 1) := by decide +kernel
theorem dX11_isApart_13 : decode cX11_isApart 13 = .ok (.iconst 1, 1) := by decide +kernel
theorem dX11_isApart_14 : decode cX11_isApart 14 = .ok (.iand, 1) := by decide +kernel
theorem dX11_isApart_15 : decode cX11_isApart 15 = .ok (.iconst 1, 1) := by decide +kernel
theorem dX11_isApart_16 : decode cX11_isApart 16 = .ok (.if_icmp .ne 16, 3) := by decide +kernel
theorem dX11_isApart_19 : decode cX11_isApart 19 = .ok (.aload_n 0, 1) := by decide +kernel
theorem dX11_isApart_20 : decode cX11_isApart 20 = .ok (.getfield 60, 3) := by decide +kernel
theorem dX11_isApart_23 : decode cX11_isApart 23 = .ok (.iload_n 2, 1) := by decide +kernel
theorem dX11_isApart_24 : decode cX11_isApart 24 = .ok (.iaload, 1) := by decide +kernel
theorem dX11_isApart_25 : decode cX11_isApart 25 = .ok (.iload_n 1, 1) := by decide +kernel
theorem dX11_isApart_26 : decode cX11_isApart 26 = .ok (.iand, 1) := by decide +kernel
theorem dX11_isApart_27 : decode cX11_isApart 27 = .ok (.ifCond .eq 5, 3) := by decide +kernel
theorem dX11_isApart_30 : decode cX11_isApart 30 = .ok (.iconst 0, 1) := by decide +kernel
theorem dX11_isApart_31 : decode cX11_isApart 31 = .ok (.ireturn, 1) := by decide +kernel
theorem dX11_isApart_0 : decode cX11_isApart 0 = .ok (.iconst 0, 1) := by decide +kernel
theorem dX11_isApart_1 : decode cX11_isApart 1 = .ok (.istore_n 2, 1) := by decide +kernel
/-! the reference: rings compared, sets of rings -/
def rmb (B : Nat → Nat) (h : zH) (y : Nat) : Prop := ∀ i, i < 10 → h.1 (y + 15) i = nI (B i) ∧ B i < 1024
def mcp (S : zD) (B : Nat → Nat) (p : Nat) : Nat → Nat := mput (mput B (dF S p) (dS S p)) (dS S p) (dF S p)
theorem mput_r {B : Nat → Nat} {f : Nat → Int32} {a b : Nat} (ha : a < 10) (hb : b < 10) (hB : ∀ i, i < 10 → f i = nI (B i) ∧ B i < 1024) : ∀ i, i < 10 → va_up f a (f a ||| ((1 : Int32) <<< (nI b &&& 31))) i = nI (mput B a b i) ∧ mput B a b i < 1024 := by
  intro i hi
  have hp := p10 hb
  unfold mput
  by_cases e : i = a
  · rw [e, zup_s, if_pos rfl, (hB a ha).1, nI_pow (by omega), fa_or]
    exact ⟨rfl, or10 (hB a ha).2 hp⟩
  · rw [zup_n _ _ e, if_neg e]; exact hB i hi
def ca_X11_compares : (zD × (Nat → Nat) × Nat × Nat) → List zV := fun (S, B, y, p) => [vR 20 0 y, vI (nI p)]
def cp_X11_compares : (zD × (Nat → Nat) × Nat × Nat) → zH → Prop := fun (S, B, y, p) h => rmS S h y ∧ rmb B h y ∧ p < dP S
def cq_X11_compares : (zD × (Nat → Nat) × Nat × Nat) → zH → Option zV → zH → Prop := fun (S, B, y, p) h r h' => r = none ∧ ∃ f : Nat → Int32, h' = zsW h (y + 15) f ∧ ∀ i, i < 10 → f i = nI (mcp S B p i) ∧ mcp S B p i < 1024
theorem rc_X11_compares : ∀ x : (zD × (Nat → Nat) × Nat × Nat), ∃ (j a : Nat) (As : List zV), ca_X11_compares x = vR (10 + 10) j a :: As := by
  rintro ⟨S, B, y, p⟩
  exact ⟨_, _, _, rfl⟩
set_option maxHeartbeats 4000000 in
set_option maxRecDepth 100000 in
theorem m_X11_compares : zM yX11_compares cX11_compares 2 none ({ frames := 0, cells := 0, slots := 0, locals := 0 } : Room) ((ca_X11_compares, cp_X11_compares, cq_X11_compares) : zC (zD × (Nat → Nat) × Nat × Nat)) := by
  refine zM_of (by decide) ?_
  rintro X Y ⟨S, B, y, p⟩ h ⟨hS, hB, hp⟩ O E hR
  have B_0 := zr_aload_n (X := X) (Y := Y) (u := 0) (v := 0) O dX11_compares_0 rfl (zr_gS (ci := 10) (j := 32) (off := 15) (t := 1) (n := 10) O zc_10 (by decide) rfl tw_1219 dX11_compares_1 (zr_aload_n O dX11_compares_4 rfl (zr_gS (ci := 10) (j := 5) (off := 5) (t := 1) (n := 28) O zc_10 (by decide) rfl tw_1192 dX11_compares_5 (zr_iload_n O dX11_compares_8 rfl (zr_iald O dX11_compares_9 (zr_dup2 O dX11_compares_10 (zr_iald O dX11_compares_11 (zr_iconst (x := 1) O dX11_compares_12 rfl (zr_aload_n O dX11_compares_13 rfl (zr_gS (ci := 10) (j := 6) (off := 6) (t := 1) (n := 28) O zc_10 (by decide) rfl tw_1193 dX11_compares_14 (zr_iload_n O dX11_compares_17 rfl (zr_iald O dX11_compares_18 (zr_ishl O dX11_compares_19 (zr_ior O dX11_compares_20 (zr_iast O dX11_compares_21 (zr_aload_n O dX11_compares_22 rfl (zr_gS (ci := 10) (j := 32) (off := 15) (t := 1) (n := 10) O zc_10 (by decide) rfl tw_1219 dX11_compares_23 (zr_aload_n O dX11_compares_26 rfl (zr_gS (ci := 10) (j := 6) (off := 6) (t := 1) (n := 28) O zc_10 (by decide) rfl tw_1193 dX11_compares_27 (zr_iload_n O dX11_compares_30 rfl (zr_iald O dX11_compares_31 (zr_dup2 O dX11_compares_32 (zr_iald O dX11_compares_33 (zr_iconst (x := 1) O dX11_compares_34 rfl (zr_aload_n O dX11_compares_35 rfl (zr_gS (ci := 10) (j := 5) (off := 5) (t := 1) (n := 28) O zc_10 (by decide) rfl tw_1192 dX11_compares_36 (zr_iload_n O dX11_compares_39 rfl (zr_iald O dX11_compares_40 (zr_ishl O dX11_compares_41 (zr_ior O dX11_compares_42 (zr_iast O dX11_compares_43 (zr_return O E (Nat.le_refl _) (Nat.le_refl _) dX11_compares_44))))))))))))))))))))))))))))))))
  refine ⟨rfl, Nat.le_of_ble_eq_true rfl, _, B_0, ?_⟩
  have hS : rmS S h y := hS
  have hB : rmb B h y := hB
  have hp : p < dP S := hp
  obtain ⟨⟨f1, f2⟩, s1, s2⟩ := hS.2.2.2.1 p hp
  have hN := hS.1.2
  have hp28 : p < 28 := Nat.lt_of_lt_of_le hp hS.2.1.2
  have x5 : ∀ g : Nat → Int32, (zsW h (y + 15) g).1 (y + 5) p = nI (dF S p) := fun g => by rw [zsW_n _ _ (by omega)]; exact f1
  have x6 : ∀ g : Nat → Int32, (zsW h (y + 15) g).1 (y + 6) p = nI (dS S p) := fun g => by rw [zsW_n _ _ (by omega)]; exact s1
  refine ⟨p, rfl, hp28, dF S p, f1, by omega, p, rfl, hp28, dF S p, f1, by omega, ?_⟩
  rw [zsI_W, s1]
  refine ⟨p, rfl, hp28, dS S p, x6 _, by omega, p, rfl, hp28, dS S p, x6 _, by omega, rfl, _, by rw [zsI_W, zsW_W, zsW_s, x5], ?_⟩
  exact mput_r (by omega) (by omega) (mput_r (by omega) (by omega) hB)
/-- no ring of a set is compared with one of it -/
def apt2 (N : Nat) (B : Nat → Nat) (s : Nat) : Bool := decide (fb_ct (fun r => s.testBit r && decide (¬ B r &&& s = 0)) N = 0)
def ca_X11_isApart : (zD × (Nat → Nat) × Nat × Nat) → List zV := fun (S, B, y, s) => [vR 20 0 y, vI (nI s)]
def cp_X11_isApart : (zD × (Nat → Nat) × Nat × Nat) → zH → Prop := fun (S, B, y, s) h => rmS S h y ∧ rmb B h y ∧ s < 1024
def cf_X11_isApart : (zD × (Nat → Nat) × Nat × Nat) → zH → Int32 := fun (S, B, y, s) _ => bI (apt2 (dN S) B s)
theorem rc_X11_isApart : ∀ x : (zD × (Nat → Nat) × Nat × Nat), ∃ (j a : Nat) (As : List zV), ca_X11_isApart x = vR (10 + 10) j a :: As := by
  rintro ⟨S, B, y, s⟩
  exact ⟨_, _, _, rfl⟩
set_option maxHeartbeats 4000000 in
set_option maxRecDepth 100000 in
theorem m_X11_isApart : zM yX11_isApart cX11_isApart 3 (some .boolean) ({ frames := 0, cells := 0, slots := 0, locals := 0 } : Room) (zcI ca_X11_isApart cp_X11_isApart cf_X11_isApart) := by
  refine zM_of (by decide) ?_
  rintro X Y ⟨S, B, y, s⟩ h ⟨hS, hB, hs⟩ O E hR
  have hS : rmS S h y := hS
  have hB : rmb B h y := hB
  have hs : s < 1024 := hs
  have hN := hS.1.2
  have B_38 := zr_iconst (X := X) (Y := Y) (u := 0) (v := 0) (x := 1) O dX11_isApart_38 rfl (zr_zreturn O E (Nat.le_refl _) (Nat.le_refl _) dX11_isApart_39)
  have L_2 : ∀ nn : Nat, zSd X Y 0 0 2 ((fun d ls st h1 => ∃ (k : Nat) (z : Int32), d = dN S - k ∧ k ≤ dN S ∧ ls = [some (vR 20 0 y), some (vI (nI s)), some (vI z)] ∧ z = nI k ∧ st = [] ∧ h = h1 ∧ ∀ j, j < k → (s.testBit j && decide (¬ B j &&& s = 0)) = false : Nat → zT) nn) := by
    refine zSd_loop (fun nn ih => ?_)
    have B_32 := zr_iinc (X := X) (Y := Y) (u := 0) (v := 0) (c := 1) O dX11_isApart_32 rfl (zr_goto (tgt := 2) O dX11_isApart_35 rfl ih)
    have B_2 := zr_iload_n (X := X) (Y := Y) (u := 0) (v := 0) O dX11_isApart_2 rfl (zr_aload_n O dX11_isApart_3 rfl (zr_gI (ci := 10) (j := 10) O zc_10 (by decide) rfl tw_1197 dX11_isApart_4 (zr_icge (tgt := 38) O dX11_isApart_7 rfl B_38 (zr_iload_n O dX11_isApart_10 rfl (zr_iload_n O dX11_isApart_11 rfl (zr_ishr O dX11_isApart_12 (zr_iconst (x := 1) O dX11_isApart_13 rfl (zr_iand O dX11_isApart_14 (zr_iconst (x := 1) O dX11_isApart_15 rfl (zr_icne (tgt := 32) O dX11_isApart_16 rfl B_32 (zr_aload_n O dX11_isApart_19 rfl (zr_gS (ci := 10) (j := 32) (off := 15) (t := 1) (n := 10) O zc_10 (by decide) rfl tw_1219 dX11_isApart_20 (zr_iload_n O dX11_isApart_23 rfl (zr_iald O dX11_isApart_24 (zr_iload_n O dX11_isApart_25 rfl (zr_iand O dX11_isApart_26 (zr_ifeq (tgt := 32) O dX11_isApart_27 rfl B_32 (zr_iconst (x := 0) O dX11_isApart_30 rfl (zr_zreturn O E (Nat.le_refl _) (Nat.le_refl _) dX11_isApart_31)))))))))))))))))))
    refine zSd_weak B_2 (fun ls st h1 t => ?_)
    obtain ⟨k, z, rfl, hk, rfl, rfl, rfl, rfl, hb⟩ := t
    refine ⟨fun cq => ⟨Or.inr rfl, zri ?_, rfl⟩, fun cq => ?_⟩
    · rw [hS.1.1] at cq
      have := (nI_leI (by omega) (by omega)).mp cq
      have hk2 : k = dN S := by omega
      subst hk2
      show (1 : Int32) = bI (apt2 (dN S) B s)
      rw [apt2, decide_eq_true (fb_ct_zero.mpr hb)]; rfl
    · rw [hS.1.1] at cq
      have hk2 : k < dN S := Nat.not_le.mp (fun z => cq ((nI_leI (by omega) (by omega)).mpr z))
      obtain ⟨b1, b2⟩ := hB k (by omega)
      have e1 : (nI s >>> (nI k &&& 31)) &&& 1 = bI (s.testBit k) := bI_in (by omega) (by omega)
      have e2 : h.1 (y + 15) k &&& nI s = nI (B k &&& s) := by rw [b1, fa_and]
      have hl : B k &&& s < 1024 := Nat.lt_of_le_of_lt Nat.and_le_right hs
      have next : (s.testBit k && decide (¬ B k &&& s = 0)) = false → ∃ d, d < dN S - k ∧ ∃ (k_1 : Nat) (z : Int32), d = dN S - k_1 ∧ k_1 ≤ dN S ∧ ([some (vR 20 0 y), some (vI (nI s)), some (vI (nI k + 1))] : zL) = [some (vR 20 0 y), some (vI (nI s)), some (vI z)] ∧ z = nI k_1 ∧ ([] : List zV) = [] ∧ h = h ∧ ∀ j, j < k_1 → (s.testBit j && decide (¬ B j &&& s = 0)) = false := fun e => ⟨dN S - (k + 1), by omega, k + 1, _, rfl, by omega, rfl, nI_1 k, rfl, rfl, fun j hj => by
        by_cases ej : j = k
        · rw [ej]; exact e
        · exact hb j (by omega)⟩
      refine ⟨fun c => next ?_, fun c => ⟨k, rfl, by omega, fun c2 => next ?_, fun c2 => ⟨Or.inl rfl, zri ?_, rfl⟩⟩⟩
      · rw [e1] at c
        cases hz : s.testBit k with
        | true => rw [hz] at c; exact absurd rfl c
        | false => rfl
      · rw [e2] at c2
        have := (nI_eq (b := 0) (by omega) (by omega)).mp c2
        rw [this]; exact Bool.and_false _
      · rw [e1] at c
        rw [e2] at c2
        show (0 : Int32) = bI (apt2 (dN S) B s)
        have hne : ¬ B k &&& s = 0 := fun z => c2 (by rw [z]; rfl)
        have hz : (s.testBit k && decide (¬ B k &&& s = 0)) = true := by rw [(bI_1 _).mp c, decide_eq_true hne]; rfl
        rw [apt2, decide_eq_false]
        · rfl
        · intro z
          have := fb_ct_zero.mp z k hk2
          rw [hz] at this
          cases this
  have B_2 := zSd_any L_2
  have B_0 := zr_iconst (X := X) (Y := Y) (u := 0) (v := 0) (x := 0) O dX11_isApart_0 rfl (zr_istore_n O dX11_isApart_1 rfl (B_2))
  refine ⟨rfl, Nat.le_of_ble_eq_true rfl, _, B_0, ?_⟩
  exact ⟨dN S - 0, 0, _, rfl, Nat.zero_le _, rfl, rfl, rfl, rfl, fun j hj => absurd hj (Nat.not_lt_zero _)⟩

