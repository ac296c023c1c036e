theorem dX11_waysBy_100 : decode cX11_waysBy 100 = .ok (.aload_n 0, 1) := by decide +kernel
theorem dX11_waysBy_101 : decode cX11_waysBy 101 = .ok (.getfield 63, 3) := by decide +kernel
theorem dX11_waysBy_104 : decode cX11_waysBy 104 = .ok (.iconst 0, 1) := by decide +kernel
theorem dX11_waysBy_105 : decode cX11_waysBy 105 = .ok (.lconst 1, 1) := by decide +kernel
theorem dX11_waysBy_106 : decode cX11_waysBy 106 = .ok (.lastore, 1) := by decide +kernel
theorem dX11_waysBy_107 : decode cX11_waysBy 107 = .ok (.aload_n 0, 1) := by decide +kernel
theorem dX11_waysBy_108 : decode cX11_waysBy 108 = .ok (.invokevirtual 358, 3) := by decide +kernel
theorem dX11_waysBy_111 : decode cX11_waysBy 111 = .ok (.lreturn, 1) := by decide +kernel
theorem dX11_waysBy_91 : decode cX11_waysBy 91 = .ok (.invokevirtual 355, 3) := by decide +kernel
theorem dX11_waysBy_94 : decode cX11_waysBy 94 = .ok (.iinc 3 1, 3) := by decide +kernel
theorem dX11_waysBy_97 : decode cX11_waysBy 97 = .ok (.goto (-43), 3) := by decide +kernel
theorem dX11_waysBy_82 : decode cX11_waysBy 82 = .ok (.aload_n 0, 1) := by decide +kernel
theorem dX11_waysBy_83 : decode cX11_waysBy 83 = .ok (.getfield 17, 3) := by decide +kernel
theorem dX11_waysBy_86 : decode cX11_waysBy 86 = .ok (.bipush 49, 2) := by decide +kernel
theorem dX11_waysBy_88 : decode cX11_waysBy 88 = .ok (.iload_n 3, 1) := by decide +kernel
theorem dX11_waysBy_89 : decode cX11_waysBy 89 = .ok (.iadd, 1) := by decide +kernel
theorem dX11_waysBy_90 : decode cX11_waysBy 90 = .ok (.iaload, 1) := by decide +kernel
theorem dX11_waysBy_68 : decode cX11_waysBy 68 = .ok (.iload_n 1, 1) := by decide +kernel
theorem dX11_waysBy_69 : decode cX11_waysBy 69 = .ok (.iconst 1, 1) := by decide +kernel
theorem dX11_waysBy_70 : decode cX11_waysBy 70 = .ok (.if_icmp .ne 12, 3) := by decide +kernel
theorem dX11_waysBy_73 : decode cX11_waysBy 73 = .ok (.aload_n 0, 1) := by decide +kernel
theorem dX11_waysBy_74 : decode cX11_waysBy 74 = .ok (.getfield 38, 3) := by decide +kernel
theorem dX11_waysBy_77 : decode cX11_waysBy 77 = .ok (.iload_n 3, 1) := by decide +kernel
theorem dX11_waysBy_78 : decode cX11_waysBy 78 = .ok (.iaload, 1) := by decide +kernel
theorem dX11_waysBy_79 : decode cX11_waysBy 79 = .ok (.goto 12, 3) := by decide +kernel
theorem dX11_waysBy_54 : decode cX11_waysBy 54 = .ok (.iload_n 3, 1) := by decide +kernel
theorem dX11_waysBy_55 : decode cX11_waysBy 55 = .ok (.iload_n 2, 1) := by decide +kernel
theorem dX11_waysBy_56 : decode cX11_waysBy 56 = .ok (.if_icmp .ge 44, 3) := by decide +kernel
theorem dX11_waysBy_59 : decode cX11_waysBy 59 = .ok (.aload_n 0, 1) := by decide +kernel
theorem dX11_waysBy_60 : decode cX11_waysBy 60 = .ok (.iload_n 1, 1) := by decide +kernel
theorem dX11_waysBy_61 : decode cX11_waysBy 61 = .ok (.ifCond .ne 7, 3) := by decide +kernel
theorem dX11_waysBy_64 : decode cX11_waysBy 64 = .ok (.iload_n 3, 1) := by decide +kernel
theorem dX11_waysBy_65 : decode cX11_waysBy 65 = .ok (.goto 26, 3) := by decide +kernel
theorem dX11_waysBy_51 : decode cX11_waysBy 51 = .ok (.istore_n 2, 1) := by decide +kernel
theorem dX11_waysBy_52 : decode cX11_waysBy 52 = .ok (.iconst 0, 1) := by decide +kernel
theorem dX11_waysBy_53 : decode cX11_waysBy 53 = .ok (.istore_n 3, 1) := by decide +kernel
theorem dX11_waysBy_44 : decode cX11_waysBy 44 = .ok (.aload_n 0, 1) := by decide +kernel
theorem dX11_waysBy_45 : decode cX11_waysBy 45 = .ok (.getfield 17, 3) := by decide +kernel
theorem dX11_waysBy_48 : decode cX11_waysBy 48 = .ok (.bipush 45, 2) := by decide +kernel
theorem dX11_waysBy_50 : decode cX11_waysBy 50 = .ok (.iaload, 1) := by decide +kernel
theorem dX11_waysBy_32 : decode cX11_waysBy 32 = .ok (.iload_n 1, 1) := by decide +kernel
theorem dX11_waysBy_33 : decode cX11_waysBy 33 = .ok (.iconst 1, 1) := by decide +kernel
theorem dX11_waysBy_34 : decode cX11_waysBy 34 = .ok (.if_icmp .ne 10, 3) := by decide +kernel
theorem dX11_waysBy_37 : decode cX11_waysBy 37 = .ok (.aload_n 0, 1) := by decide +kernel
theorem dX11_waysBy_38 : decode cX11_waysBy 38 = .ok (.invokevirtual 120, 3) := by decide +kernel
theorem dX11_waysBy_41 : decode cX11_waysBy 41 = .ok (.goto 10, 3) := by decide +kernel
theorem dX11_waysBy_21 : decode cX11_waysBy 21 = .ok (.iload_n 1, 1) := by decide +kernel
theorem dX11_waysBy_22 : decode cX11_waysBy 22 = .ok (.ifCond .ne 10, 3) := by decide +kernel
theorem dX11_waysBy_25 : decode cX11_waysBy 25 = .ok (.aload_n 0, 1) := by decide +kernel
theorem dX11_waysBy_26 : decode cX11_waysBy 26 = .ok (.getfield 103, 3) := by decide +kernel
theorem dX11_waysBy_29 : decode cX11_waysBy 29 = .ok (.goto 22, 3) := by decide +kernel
theorem dX11_waysBy_2 : decode cX11_waysBy 2 = .ok (.iload_n 2, 1) := by decide +kernel
theorem dX11_waysBy_3 : decode cX11_waysBy 3 = .ok (.bipush 10, 2) := by decide +kernel
theorem dX11_waysBy_5 : decode cX11_waysBy 5 = .ok (.if_icmp .ge 16, 3) := by decide +kernel
theorem dX11_waysBy_8 : decode cX11_waysBy 8 = .ok (.aload_n 0, 1) := by decide +kernel
theorem dX11_waysBy_9 : decode cX11_waysBy 9 = .ok (.getfield 60, 3) := by decide +kernel
theorem dX11_waysBy_12 : decode cX11_waysBy 12 = .ok (.iload_n 2, 1) := by decide +kernel
theorem dX11_waysBy_13 : decode cX11_waysBy 13 = .ok (.iconst 0, 1) := by decide +kernel
theorem dX11_waysBy_14 : decode cX11_waysBy 14 = .ok (.iastore, 1) := by decide +kernel
theorem dX11_waysBy_15 : decode cX11_waysBy 15 = .ok (.iinc 2 1, 3) := by decide +kernel
theorem dX11_waysBy_18 : decode cX11_waysBy 18 = .ok (.goto (-16), 3) := by decide +kernel
theorem dX11_waysBy_0 : decode cX11_waysBy 0 = .ok (.iconst 0, 1) := by decide +kernel
theorem dX11_waysBy_1 : decode cX11_waysBy 1 = .ok (.istore_n 2, 1) := by decide +kernel
theorem dX11_ways_46 : decode cX11_ways 46 = .ok (.lreturn, 1) := by decide +kernel
theorem dX11_ways_41 : decode cX11_ways 41 = .ok (.aload_n 0, 1) := by decide +kernel
theorem dX11_ways_42 : decode cX11_ways 42 = .ok (.iload_n 1, 1) := by decide +kernel
theorem dX11_ways_43 : decode cX11_ways 43 = .ok (.invokevirtual 362, 3) := by decide +kernel
theorem dX11_ways_22 : decode cX11_ways 22 = .ok (.iload_n 1, 1) := by decide +kernel
theorem dX11_ways_23 : decode cX11_ways 23 = .ok (.iconst 2, 1) := by decide +kernel
theorem dX11_ways_24 : decode cX11_ways 24 = .ok (.if_icmp .ne 17, 3) := by decide +kernel
theorem dX11_ways_27 : decode cX11_ways 27 = .ok (.aload_n 0, 1) := by decide +kernel
theorem dX11_ways_28 : decode cX11_ways 28 = .ok (.getfield 17, 3) := by decide +kernel
theorem dX11_ways_31 : decode cX11_ways 31 = .ok (.bipush 45, 2) := by decide +kernel
theorem dX11_ways_33 : decode cX11_ways 33 = .ok (.iaload, 1) := by decide +kernel
theorem dX11_ways_34 : decode cX11_ways 34 = .ok (.ifCond .ne 7, 3) := by decide +kernel
theorem dX11_ways_37 : decode cX11_ways 37 = .ok (.lconst 0, 1) := by decide +kernel
theorem dX11_ways_38 : decode cX11_ways 38 = .ok (.goto 8, 3) := by decide +kernel
theorem dX11_ways_0 : decode cX11_ways 0 = .ok (.aload_n 0, 1) := by decide +kernel
theorem dX11_ways_1 : decode cX11_ways 1 = .ok (.iconst 0, 1) := by decide +kernel
theorem dX11_ways_2 : decode cX11_ways 2 = .ok (.putfield 1, 3) := by decide +kernel
theorem dX11_ways_5 : decode cX11_ways 5 = .ok (.aload_n 0, 1) := by decide +kernel
theorem dX11_ways_6 : decode cX11_ways 6 = .ok (.iload_n 1, 1) := by decide +kernel
theorem dX11_ways_7 : decode cX11_ways 7 = .ok (.iconst 0, 1) := by decide +kernel
theorem dX11_ways_8 : decode cX11_ways 8 = .ok (.iconst 2, 1) := by decide +kernel
theorem dX11_ways_9 : decode cX11_ways 9 = .ok (.invokestatic 173, 3) := by decide +kernel
theorem dX11_ways_12 : decode cX11_ways 12 = .ok (.iconst 1, 1) := by decide +kernel
theorem dX11_ways_13 : decode cX11_ways 13 = .ok (.iconst 1, 1) := by decide +kernel
theorem dX11_ways_14 : decode cX11_ways 14 = .ok (.invokevirtual 217, 3) := by decide +kernel
theorem dX11_ways_17 : decode cX11_ways 17 = .ok (.ifCond .ne 5, 3) := by decide +kernel
theorem dX11_ways_20 : decode cX11_ways 20 = .ok (.lconst 0, 1) := by decide +kernel
theorem dX11_ways_21 : decode cX11_ways 21 = .ok (.lreturn, 1) := by decide +kernel
/-! the reference: how many answers there can be -/
theorem mput_bit (B : Nat → Nat) (a b i q : Nat) : (mput B a b i).testBit q = ((B i).testBit q || decide (i = a ∧ q = b)) := by
  unfold mput
  by_cases e : i = a
  · rw [if_pos e, bit_or]
    congr 1
    rw [decide_eq_decide]
    exact ⟨fun z => ⟨e, z⟩, fun z => z.2⟩
  · rw [if_neg e, decide_eq_false (fun z => e z.1), Bool.or_false]
theorem mcp_bit (S : zD) (B : Nat → Nat) (p r q : Nat) : (mcp S B p r).testBit q = ((B r).testBit q || adj S r q p) := by
  unfold mcp
  rw [mput_bit, mput_bit, Bool.or_assoc, ← Bool.decide_or]
  congr 1
  unfold adj
  rw [decide_eq_decide]
  omega
def cmpN (S : zD) (g : Nat → Nat) : Nat → (Nat → Nat)
  | 0 => fun _ => 0
  | n + 1 => mcp S (cmpN S g n) (g n)
theorem cmpN_bit (S : zD) (g : Nat → Nat) (r q : Nat) : ∀ n, (cmpN S g n r).testBit q = decide (0 < fb_ct (fun k => adj S r q (g k)) n)
  | 0 => by
    show (0 : Nat).testBit q = _
    rw [Nat.zero_testBit]
    rfl
  | n + 1 => by
    rw [cmpN, mcp_bit, cmpN_bit S g r q n, fb_ct_succ]
    cases adj S r q (g n) with
    | true => simp
    | false => simp
theorem cmp_lnk {S : zD} {m n : Nat} {g : Nat → Nat} (hne : ∀ i, i < dP S → dF S i ≠ dS S i) (hg : ∀ k, k < n → g k < dP S) (hm : ∀ i, i < dP S → (m.testBit i = true ↔ ∃ k, k < n ∧ g k = i)) : cmpN S g n = lnk S m (dP S) := by
  funext r
  refine Nat.eq_of_testBit_eq (fun q => ?_)
  rw [cmpN_bit, lnk_bit _ hne, decide_eq_decide, fb_ct_pos, fb_ct_pos]
  constructor
  · rintro ⟨k, hk, z⟩
    refine ⟨g k, hg k hk, ?_⟩
    rw [(hm _ (hg k hk)).mpr ⟨k, hk, rfl⟩, Bool.true_and]
    exact z
  · rintro ⟨i, hi, z⟩
    rw [Bool.and_eq_true] at z
    obtain ⟨k, hk, e⟩ := (hm i hi).mp z.1
    exact ⟨k, hk, by rw [e]; exact z.2⟩
def wyg (S : zD) (K : zE) (w k : Nat) : Nat := if w = 0 then k else if w = 1 then sel (us S) k (dP S) else eP K k
def wyn (S : zD) (K : zE) (w : Nat) : Nat := if w = 0 then dP S else if w = 1 then fb_ct (us S) (dP S) else eN K
def wym (S : zD) (K : zE) (w : Nat) : Nat := if w = 0 then 2 ^ dP S - 1 else if w = 1 then usd S else psN K (eN K)
theorem psN_bit (K : zE) (i : Nat) : ∀ n, (psN K n).testBit i = true ↔ ∃ k, k < n ∧ eP K k = i
  | 0 => by
    show (0 : Nat).testBit i = true ↔ _
    rw [Nat.zero_testBit]
    exact ⟨fun z => (by cases z), fun ⟨k, hk, _⟩ => absurd hk (Nat.not_lt_zero _)⟩
  | n + 1 => by
    rw [psN, bit_or, Bool.or_eq_true, psN_bit K i n, decide_eq_true_iff]
    constructor
    · rintro (⟨k, hk, e⟩ | e)
      · exact ⟨k, by omega, e⟩
      · exact ⟨n, Nat.lt_succ_self n, e.symm⟩
    · rintro ⟨k, hk, e⟩
      by_cases z : k = n
      · exact Or.inr (by rw [← e, z])
      · exact Or.inl ⟨k, by omega, e⟩
theorem wy_ok {S : zD} {K : zE} (hP : ∀ i, i < eN K → eP K i < dP S) (w : Nat) : (∀ k, k < wyn S K w → wyg S K w k < dP S) ∧ ∀ i, i < dP S → ((wym S K w).testBit i = true ↔ ∃ k, k < wyn S K w ∧ wyg S K w k = i) := by
  by_cases w0 : w = 0
  · have e1 : ∀ k, wyg S K w k = k := fun k => by rw [wyg, if_pos w0]
    have e2 : wyn S K w = dP S := by rw [wyn, if_pos w0]
    have e3 : wym S K w = 2 ^ dP S - 1 := by rw [wym, if_pos w0]
    rw [e2, e3]
    refine ⟨fun k hk => by rw [e1]; exact hk, fun i hi => ?_⟩
    rw [Nat.testBit_two_pow_sub_one, decide_eq_true hi]
    exact ⟨fun _ => ⟨i, hi, e1 i⟩, fun _ => rfl⟩
  · by_cases w1 : w = 1
    · have e1 : ∀ k, wyg S K w k = sel (us S) k (dP S) := fun k => by rw [wyg, if_neg w0, if_pos w1]
      have e2 : wyn S K w = fb_ct (us S) (dP S) := by rw [wyn, if_neg w0, if_pos w1]
      have e3 : wym S K w = usd S := by rw [wym, if_neg w0, if_pos w1]
      rw [e2, e3]
      refine ⟨fun k hk => by rw [e1]; exact (sel_spec _ hk).1, fun i hi => ?_⟩
      rw [usd, mk_bit, decide_eq_true hi, Bool.true_and]
      constructor
      · intro z
        obtain ⟨k1, k2⟩ := sel_at z rfl (dP S) hi
        exact ⟨_, k1, by rw [e1]; exact k2⟩
      · rintro ⟨k, hk, e⟩
        rw [e1] at e
        rw [← e]
        exact (sel_spec _ hk).2.1
    · have e1 : ∀ k, wyg S K w k = eP K k := fun k => by rw [wyg, if_neg w0, if_neg w1]
      have e2 : wyn S K w = eN K := by rw [wyn, if_neg w0, if_neg w1]
      have e3 : wym S K w = psN K (eN K) := by rw [wym, if_neg w0, if_neg w1]
      rw [e2, e3]
      refine ⟨fun k hk => by rw [e1]; exact hP k hk, fun i hi => ?_⟩
      rw [psN_bit]
      constructor
      · rintro ⟨k, hk, e⟩
        exact ⟨k, hk, by rw [e1]; exact e⟩
      · rintro ⟨k, hk, e⟩
        exact ⟨k, hk, by rw [e1] at e; exact e⟩
theorem fm_L {y j i : Nat} (h : zH) (x : Int64) (hj : j < 18) : fm y h (zsL h (y + j) i x) := ⟨fun q hq => ⟨rfl, zup_n _ _ (by omega)⟩, rfl, fun _ _ => rfl, fun _ _ => rfl⟩
def ca_X11_waysBy : (zD × zE × Nat × Nat) → List zV := fun (S, K, y, w) => [vR 20 0 y, vI (nI w)]
def cp_X11_waysBy : (zD × zE × Nat × Nat) → zH → Prop := fun (S, K, y, w) h => rmS S h y ∧ rmE K (h.1 (y + 2)) ∧ vS S ∧ w ≤ 2 ∧ ∀ i, i < eN K → eP K i < dP S
def cq_X11_waysBy : (zD × zE × Nat × Nat) → zH → Option zV → zH → Prop := fun (S, K, y, w) h r h' => r = some (vL (wys S (wym S K w))) ∧ fm y h h'
theorem rc_X11_waysBy : ∀ x : (zD × zE × Nat × Nat), ∃ (j a : Nat) (As : List zV), ca_X11_waysBy x = vR (10 + 10) j a :: As := by
  rintro ⟨S, K, y, w⟩
  exact ⟨_, _, _, rfl⟩
set_option maxHeartbeats 4000000 in
set_option maxRecDepth 100000 in
theorem m_X11_waysBy : zM yX11_waysBy cX11_waysBy 4 (some .long) ({ frames := 8, cells := 0, slots := 0, locals := 178 } : Room) ((ca_X11_waysBy, cp_X11_waysBy, cq_X11_waysBy) : zC (zD × zE × Nat × Nat)) := by
  refine zM_of (by decide) ?_
  rintro X Y ⟨S, K, y, w⟩ h ⟨hS, hE, hv, hw, hP⟩ O E hR
  have hS : rmS S h y := hS
  have hE : rmE K (h.1 (y + 2)) := hE
  have hv : vS S := hv
  have hw : w ≤ 2 := hw
  have hP : ∀ i, i < eN K → eP K i < dP S := hP
  obtain ⟨hg, hm⟩ := wy_ok hP w
  have hP28 := hS.2.1.2
  have h28 := hE.2.1.1
  have hct := fb_ct_le (us S) (dP S)
  have hn28 : wyn S K w ≤ 28 := by
    unfold wyn
    split
    · exact hP28
    · split
      · omega
      · exact h28
  have w0f : ¬ nI w = 0 → ¬ w = 0 := fun c z => c (by rw [z]; rfl)
  have w1f : ¬ nI w = 1 → ¬ w = 1 := fun c z => c (by rw [z]; rfl)
  have w0t : nI w = 0 → w = 0 := fun c => (nI_eq (b := 0) (by omega) (by decide)).mp c
  have w1t : nI w = 1 → w = 1 := fun c => (nI_eq (b := 1) (by omega) (by decide)).mp c
  have B_100 := zr_aload_n (X := X) (Y := Y) (u := 0) (v := 0) O dX11_waysBy_100 rfl (zr_gS (ci := 10) (j := 33) (off := 16) (t := 3) (n := 1024) O zc_10 (by decide) rfl tw_1220 dX11_waysBy_101 (zr_iconst (x := 0) O dX11_waysBy_104 rfl (zr_lconst (x := 1) O dX11_waysBy_105 rfl (zr_last O dX11_waysBy_106 (zr_aload_n O dX11_waysBy_107 rfl (zr_cV (ci := 10) (n := 0) O m_X11_waysOf (bn_X11_waysOf _ ⟨rfl, rfl⟩) vw_X11_waysOf tw_1649 rc_X11_waysOf (zrm hR rfl rfl) dX11_waysBy_108 (zr_lreturn O E (Nat.le_refl _) (Nat.le_refl _) dX11_waysBy_111)))))))
  have L_54 : ∀ nn : Nat, zSd X Y 0 0 54 ((fun d ls st h1 => ∃ (k : Nat) (z : Int32), d = wyn S K w - k ∧ k ≤ wyn S K w ∧ ls = [some (vR 20 0 y), some (vI (nI w)), some (vI (nI (wyn S K w))), some (vI z)] ∧ z = nI k ∧ st = [] ∧ fm y h h1 ∧ rmb (cmpN S (wyg S K w) k) h1 y ∧ (w = 1 → usR (us S) (dP S) (h1.1 (y + 9))) : Nat → zT) nn) := by
    refine zSd_loop (fun nn ih => ?_)
    have B_91 := zr_cV (X := X) (Y := Y) (u := 0) (v := 0) (ci := 10) (n := 1) O m_X11_compares (bn_X11_compares _ ⟨rfl, rfl⟩) vw_X11_compares tw_1645 rc_X11_compares (zrm hR rfl rfl) dX11_waysBy_91 (zr_iinc (c := 1) O dX11_waysBy_94 rfl (zr_goto (tgt := 54) O dX11_waysBy_97 rfl ih))
    have C_91 : zSd X Y 0 0 91 (fun ls st h1 => ∃ (k : Nat) (z : Int32), nn = wyn S K w - k ∧ k < wyn S K w ∧ ls = [some (vR 20 0 y), some (vI (nI w)), some (vI (nI (wyn S K w))), some (vI z)] ∧ z = nI k ∧ st = [vI (nI (wyg S K w k)), vR 20 0 y] ∧ fm y h h1 ∧ rmb (cmpN S (wyg S K w) k) h1 y ∧ (w = 1 → usR (us S) (dP S) (h1.1 (y + 9)))) := by
      refine zSd_weak B_91 (fun ls st h1 t => ?_)
      obtain ⟨k, z, en, hk, rfl, rfl, rfl, f1, hB1, hu⟩ := t
      refine ⟨(S, cmpN S (wyg S K w) k, y, wyg S K w k), rfl, ⟨rmS_fm f1 hS, hB1, hg k hk⟩, fun r h2 hq => ?_⟩
      obtain ⟨rfl, f, e2, hf⟩ := hq
      replace e2 : h2 = zsW h1 (y + 15) f := e2
      subst e2
      exact ⟨wyn S K w - (k + 1), by omega, k + 1, _, rfl, by omega, rfl, nI_1 k, rfl, fm_t f1 (fm_W (j := 15) _ _ (by decide)), fun i hi => by rw [zsW_s]; exact hf i hi, fun e => by rw [zsW_n _ _ (by omega)]; exact hu e⟩
    have B_82 := zr_aload_n (X := X) (Y := Y) (u := 0) (v := 0) O dX11_waysBy_82 rfl (zr_gS (ci := 10) (j := 2) (off := 2) (t := 1) (n := 218) O zc_10 (by decide) rfl tw_1189 dX11_waysBy_83 (zr_bipush (x := (49)) O dX11_waysBy_86 (by decide) (zr_iload_n O dX11_waysBy_88 rfl (zr_iadd O dX11_waysBy_89 (zr_iald O dX11_waysBy_90 (C_91))))))
    have B_68 := zr_iload_n (X := X) (Y := Y) (u := 0) (v := 0) O dX11_waysBy_68 rfl (zr_iconst (x := 1) O dX11_waysBy_69 rfl (zr_icne (tgt := 82) O dX11_waysBy_70 rfl B_82 (zr_aload_n O dX11_waysBy_73 rfl (zr_gS (ci := 10) (j := 12) (off := 9) (t := 1) (n := 28) O zc_10 (by decide) rfl tw_1199 dX11_waysBy_74 (zr_iload_n O dX11_waysBy_77 rfl (zr_iald O dX11_waysBy_78 (zr_goto (tgt := 91) O dX11_waysBy_79 rfl C_91)))))))
    have B_54 := zr_iload_n (X := X) (Y := Y) (u := 0) (v := 0) O dX11_waysBy_54 rfl (zr_iload_n O dX11_waysBy_55 rfl (zr_icge (tgt := 100) O dX11_waysBy_56 rfl B_100 (zr_aload_n O dX11_waysBy_59 rfl (zr_iload_n O dX11_waysBy_60 rfl (zr_ifne (tgt := 68) O dX11_waysBy_61 rfl B_68 (zr_iload_n O dX11_waysBy_64 rfl (zr_goto (tgt := 91) O dX11_waysBy_65 rfl C_91)))))))
    refine zSd_weak B_54 (fun ls st h1 t => ?_)
    obtain ⟨k, z, rfl, hk, rfl, rfl, rfl, f1, hB1, hu⟩ := t
    refine ⟨fun c => ?_, fun c => ⟨fun c2 => ⟨fun c3 => ?_, fun c3 => ?_⟩, fun c2 => ?_⟩⟩
    · have := (nI_leI (by omega) (by omega)).mp c
      have hk2 : k = wyn S K w := by omega
      have f2 := fm_t f1 (fm_L (j := 16) (i := 0) h1 1 (by decide))
      refine ⟨0, rfl, by decide, (S, cmpN S (wyg S K w) k, y), rfl, ⟨rmS_fm f2 hS, hB1, ?_⟩, fun r h2 hq => ?_⟩
      · show va_up h1.2.1 (y + 16) (va_up (h1.2.1 (y + 16)) 0 1) (y + 16) 0 = 1
        rw [zup_s, zup_s]
      · obtain ⟨rfl, F, e2⟩ := hq
        replace e2 : h2 = zsV (zsL h1 (y + 16) 0 1) (y + 16) F := e2
        refine ⟨zrl ?_, by rw [e2]; exact fm_t f2 (fm_V (j := 16) _ F (by decide))⟩
        rw [hk2, cmp_lnk hv.2.1 hg hm, wys]
    · have hk2 : k < wyn S K w := Nat.not_le.mp (fun z => c ((nI_leI (by omega) (by omega)).mpr z))
      have n0 := w0f c2
      have n1 := w1f c3
      have e2 : wyn S K w = eN K := by rw [wyn, if_neg n0, if_neg n1]
      have hke : k < eN K := by omega
      have ep : h1.1 (y + 2) (49 + k) = nI (eP K k) := by rw [f1.2.2.2 2 (by omega)]; exact ((hE.2.2 (by omega)).2 k hke).1
      refine ⟨49 + k, lI 49 k, by omega, k, _, rfl, hk2, rfl, rfl, ?_, f1, hB1, hu⟩
      rw [ep, wyg, if_neg n0, if_neg n1]
    · have hk2 : k < wyn S K w := Nat.not_le.mp (fun z => c ((nI_leI (by omega) (by omega)).mpr z))
      have n0 := w0f c2
      have n1 := w1t c3
      have e2 : wyn S K w = fb_ct (us S) (dP S) := by rw [wyn, if_neg n0, if_pos n1]
      refine ⟨k, rfl, by omega, k, _, rfl, hk2, rfl, rfl, ?_, f1, hB1, hu⟩
      rw [hu n1 k (by omega), wyg, if_neg n0, if_pos n1]
    · have hk2 : k < wyn S K w := Nat.not_le.mp (fun z => c ((nI_leI (by omega) (by omega)).mpr z))
      have n0 := w0t c2
      refine ⟨k, _, rfl, hk2, rfl, rfl, ?_, f1, hB1, hu⟩
      rw [wyg, if_pos n0]
  have B_54 := zSd_any L_54
  have B_51 := zr_istore_n (X := X) (Y := Y) (u := 0) (v := 0) O dX11_waysBy_51 rfl (zr_iconst (x := 0) O dX11_waysBy_52 rfl (zr_istore_n O dX11_waysBy_53 rfl (B_54)))
  have C_51 : zSd X Y 0 0 51 (fun ls st h1 => ∃ y2 : Int32, ls = [some (vR 20 0 y), some (vI (nI w)), some (vI y2), none] ∧ st = [vI (nI (wyn S K w))] ∧ fm y h h1 ∧ rmb (fun _ => 0) h1 y ∧ (w = 1 → usR (us S) (dP S) (h1.1 (y + 9)))) := by
    refine zSd_weak B_51 (fun ls st h1 t => ?_)
    obtain ⟨y2, rfl, rfl, f1, hB1, hu⟩ := t
    exact ⟨wyn S K w - 0, 0, _, rfl, Nat.zero_le _, rfl, rfl, rfl, f1, hB1, hu⟩
  have B_44 := zr_aload_n (X := X) (Y := Y) (u := 0) (v := 0) O dX11_waysBy_44 rfl (zr_gS (ci := 10) (j := 2) (off := 2) (t := 1) (n := 218) O zc_10 (by decide) rfl tw_1189 dX11_waysBy_45 (zr_bipush (x := (45)) O dX11_waysBy_48 (by decide) (zr_iald O dX11_waysBy_50 (C_51))))
  have B_32 := zr_iload_n (X := X) (Y := Y) (u := 0) (v := 0) O dX11_waysBy_32 rfl (zr_iconst (x := 1) O dX11_waysBy_33 rfl (zr_icne (tgt := 44) O dX11_waysBy_34 rfl B_44 (zr_aload_n O dX11_waysBy_37 rfl (zr_cV (ci := 10) (n := 0) O m_X11_usedNow (bn_X11_usedNow _ ⟨rfl, rfl⟩) vw_X11_usedNow tw_1395 rc_X11_usedNow (zrm hR rfl rfl) dX11_waysBy_38 (zr_goto (tgt := 51) O dX11_waysBy_41 rfl C_51)))))
  have B_21 := zr_iload_n (X := X) (Y := Y) (u := 0) (v := 0) O dX11_waysBy_21 rfl (zr_ifne (tgt := 32) O dX11_waysBy_22 rfl B_32 (zr_aload_n O dX11_waysBy_25 rfl (zr_gI (ci := 10) (j := 11) O zc_10 (by decide) rfl tw_1198 dX11_waysBy_26 (zr_goto (tgt := 51) O dX11_waysBy_29 rfl C_51))))
  have L_2 : ∀ nn : Nat, zSd X Y 0 0 2 ((fun d ls st h1 => ∃ (k : Nat) (z : Int32) (f : Nat → Int32), d = 10 - k ∧ k ≤ 10 ∧ ls = [some (vR 20 0 y), some (vI (nI w)), some (vI z), none] ∧ z = nI k ∧ st = [] ∧ h1 = zsW h (y + 15) f ∧ ∀ j, j < k → f j = 0 : Nat → zT) nn) := by
    refine zSd_loop (fun nn ih => ?_)
    have B_2 := zr_iload_n (X := X) (Y := Y) (u := 0) (v := 0) O dX11_waysBy_2 rfl (zr_bipush (x := (10)) O dX11_waysBy_3 (by decide) (zr_icge (tgt := 21) O dX11_waysBy_5 rfl B_21 (zr_aload_n O dX11_waysBy_8 rfl (zr_gS (ci := 10) (j := 32) (off := 15) (t := 1) (n := 10) O zc_10 (by decide) rfl tw_1219 dX11_waysBy_9 (zr_iload_n O dX11_waysBy_12 rfl (zr_iconst (x := 0) O dX11_waysBy_13 rfl (zr_iast O dX11_waysBy_14 (zr_iinc (c := 1) O dX11_waysBy_15 rfl (zr_goto (tgt := 2) O dX11_waysBy_18 rfl ih)))))))))
    refine zSd_weak B_2 (fun ls st h1 t => ?_)
    obtain ⟨k, z, f, rfl, hk, rfl, rfl, rfl, rfl, hf⟩ := t
    have f1 := fm_W (y := y) (j := 15) h f (by decide)
    have hS1 := rmS_fm f1 hS
    refine ⟨fun cq => ?_, fun cq => ?_⟩
    · have := (nI_leI (a := 10) (by omega) (by omega)).mp cq
      have hB1 : rmb (fun _ => 0) (zsW h (y + 15) f) y := fun i hi => by rw [zsW_s]; exact ⟨hf i (by omega), by show (0 : Nat) < 1024; decide⟩
      refine ⟨fun c2 => ⟨fun c3 => ?_, fun c3 => ?_⟩, fun c2 => ?_⟩
      · have n0 := w0f c2
        have n1 := w1f c3
        refine ⟨45, rfl, by decide, _, rfl, ?_, f1, hB1, fun z => absurd z n1⟩
        rw [zsW_n _ _ (by omega), hE.1, wyn, if_neg n0, if_neg n1]
      · have n0 := w0f c2
        have n1 := w1t c3
        refine ⟨(S, y), rfl, ⟨hS1, hv⟩, fun r h2 hq => ?_⟩
        obtain ⟨rfl, u, e2, hu⟩ := hq
        replace e2 : h2 = zsW (zsW h (y + 15) f) (y + 9) u := e2
        subst e2
        refine ⟨_, rfl, ?_, fm_t f1 (fm_W (j := 9) _ _ (by decide)), fun i hi => by rw [zsW_n _ _ (by omega)]; exact hB1 i hi, fun _ => by rw [zsW_s]; exact hu⟩
        rw [wyn, if_neg n0, if_pos n1]; rfl
      · have n0 := w0t c2
        refine ⟨_, rfl, ?_, f1, hB1, fun z => by omega⟩
        rw [hS1.2.1.1, wyn, if_pos n0]
    · have hk2 : k < 10 := Nat.not_le.mp (fun z => cq ((nI_leI (a := 10) (by omega) (by omega)).mpr z))
      refine ⟨k, rfl, hk2, 10 - (k + 1), by omega, k + 1, _, va_up f k 0, rfl, by omega, rfl, nI_1 k, rfl, ?_, fun j hj => ?_⟩
      · rw [zsI_W, zsW_W, zsW_s]
      · by_cases e : j = k
        · rw [e, zup_s]
        · rw [zup_n _ _ e]; exact hf j (by omega)
  have B_2 := zSd_any L_2
  have B_0 := zr_iconst (X := X) (Y := Y) (u := 0) (v := 0) (x := 0) O dX11_waysBy_0 rfl (zr_istore_n O dX11_waysBy_1 rfl (B_2))
  refine ⟨rfl, Nat.le_of_ble_eq_true rfl, _, B_0, ?_⟩
  exact ⟨10 - 0, 0, _, h.1 (y + 15), rfl, Nat.zero_le _, rfl, rfl, rfl, (zsW_self _ _).symm, fun j hj => absurd hj (Nat.not_lt_zero _)⟩
theorem wav_e (S : zD) (K : zE) (M : zG) (w : Nat) (hw : w ≤ 2) (h0 : ¬ (w = 2 ∧ eN K = 0)) : wys S (wym S K w) = wav (S, K, M) w := by
  unfold wym wav
  by_cases w2 : w = 2
  · have hn : ¬ eN K = 0 := fun z => h0 ⟨w2, z⟩
    rw [if_pos w2, if_neg (show ¬ eN (S, K, M).2.1 = 0 from hn), if_neg (by omega), if_neg (by omega)]
  · rw [if_neg w2]
    by_cases w0 : w = 0
    · rw [if_pos w0, if_pos w0]
    · rw [if_neg w0, if_neg w0, if_pos (by omega)]
def ca_X11_ways : (zQ × Nat × Int32) → List zV := fun (Q, y, w) => [vR 20 0 y, vI w]
def cp_X11_ways : (zQ × Nat × Int32) → zH → Prop := fun (Q, y, w) h => rmS Q.1 h y ∧ rmE Q.2.1 (h.1 (y + 2)) ∧ vS Q.1 ∧ ∀ i, i < eN Q.2.1 → eP Q.2.1 i < dP Q.1
def cq_X11_ways : (zQ × Nat × Int32) → zH → Option zV → zH → Prop := fun (Q, y, w) h r h' => fq y h h' ∧ ((gR w 0 2 ∧ rok y h h' ∧ r = some (vL (wav Q (cN w)))) ∨ (¬ gR w 0 2 ∧ rno y 1 1 h h' ∧ r = some (vL 0)))
theorem rc_X11_ways : ∀ x : (zQ × Nat × Int32), ∃ (j a : Nat) (As : List zV), ca_X11_ways x = vR (10 + 10) j a :: As := by
  rintro ⟨⟨S, K, M⟩, y, w⟩
  exact ⟨_, _, _, rfl⟩
set_option maxHeartbeats 4000000 in
set_option maxRecDepth 100000 in
theorem m_X11_ways : zM yX11_ways cX11_ways 2 (some .long) ({ frames := 9, cells := 0, slots := 0, locals := 201 } : Room) ((ca_X11_ways, cp_X11_ways, cq_X11_ways) : zC (zQ × Nat × Int32)) := by
  refine zM_of (by decide) ?_
  rintro X Y ⟨⟨S, K, M⟩, y, w⟩ h ⟨hS, hE, hv, hP⟩ O E hR
  have hS : rmS S h y := hS
  have hE : rmE K (h.1 (y + 2)) := hE
  have hv : vS S := hv
  have hP : ∀ i, i < eN K → eP K i < dP S := hP
  have hS0 := rmS_0 hS
  have hE0 : rmE K ((zsI h y 0 0).1 (y + 2)) := by rw [m_0 _ _ (by omega)]; exact hE
  have h28 := hE.2.1.1
  have B_46 := zr_lreturn (X := X) (Y := Y) (u := 0) (v := 0) O E (Nat.le_refl _) (Nat.le_refl _) dX11_ways_46
  have B_41 := zr_aload_n (X := X) (Y := Y) (u := 0) (v := 0) O dX11_ways_41 rfl (zr_iload_n O dX11_ways_42 rfl (zr_cV (ci := 10) (n := 1) O m_X11_waysBy (bn_X11_waysBy _ ⟨rfl, rfl⟩) vw_X11_waysBy tw_1641 rc_X11_waysBy (zrm hR rfl rfl) dX11_ways_43 (B_46)))
  have B_22 := zr_iload_n (X := X) (Y := Y) (u := 0) (v := 0) O dX11_ways_22 rfl (zr_iconst (x := 2) O dX11_ways_23 rfl (zr_icne (tgt := 41) O dX11_ways_24 rfl B_41 (zr_aload_n O dX11_ways_27 rfl (zr_gS (ci := 10) (j := 2) (off := 2) (t := 1) (n := 218) O zc_10 (by decide) rfl tw_1189 dX11_ways_28 (zr_bipush (x := (45)) O dX11_ways_31 (by decide) (zr_iald O dX11_ways_33 (zr_ifne (tgt := 41) O dX11_ways_34 rfl B_41 (zr_lconst (x := 0) O dX11_ways_37 rfl (zr_goto (tgt := 46) O dX11_ways_38 rfl B_46)))))))))
  have B_0 := zr_aload_n (X := X) (Y := Y) (u := 0) (v := 0) O dX11_ways_0 rfl (zr_iconst (x := 0) O dX11_ways_1 rfl (zr_pI (ci := 10) (j := 0) O zc_10 (by decide) rfl rfl rfl tw_1187 dX11_ways_2 (zr_aload_n O dX11_ways_5 rfl (zr_iload_n O dX11_ways_6 rfl (zr_iconst (x := 0) O dX11_ways_7 rfl (zr_iconst (x := 2) O dX11_ways_8 rfl (zr_cI (zr_cS (n := 3) O m_X11_within (bn_X11_within _ ⟨rfl, rfl⟩) tw_1306 tw_1305 (zrm hR rfl rfl) dX11_ways_9 (zr_iconst (x := 1) O dX11_ways_12 rfl (zr_iconst (x := 1) O dX11_ways_13 rfl (zr_cH (zr_cV (ci := 10) (n := 3) O m_X11_isFine (bn_X11_isFine _ ⟨rfl, rfl⟩) vw_X11_isFine tw_1308 rc_X11_isFine (zrm hR rfl rfl) dX11_ways_14 (zr_ifne (tgt := 22) O dX11_ways_17 rfl B_22 (zr_lconst (x := 0) O dX11_ways_20 rfl (zr_lreturn O E (Nat.le_refl _) (Nat.le_refl _) dX11_ways_21)))))))))))))))
  refine ⟨rfl, Nat.le_of_ble_eq_true rfl, _, B_0, ?_⟩
  refine ⟨(w, 0, 2), rfl, trivial, (y, decide (0 ≤ w ∧ w ≤ 2), 1, 1), rfl, ⟨by decide, by decide⟩, fun d => ?_, fun d => ?_⟩
  · obtain ⟨g2, e⟩ := fine_ok (t0 h y) d
    rw [e]
    obtain ⟨q, rfl, hq, eq⟩ := rngx (n := 2) (by decide) g2
    have fin : ¬ (q = 2 ∧ eN K = 0) → ∀ (r : Option zV) (h' : zH), r = some (vL (wav (S, K, M) q)) ∧ fm y (zsI h y 0 0) h' → fq y h h' ∧ ((gR (nI q) 0 2 ∧ rok y h h' ∧ r = some (vL (wav (S, K, M) (cN (nI q))))) ∨ (¬ gR (nI q) 0 2 ∧ rno y 1 1 h h' ∧ r = some (vL 0))) := fun hn r h' hr => ⟨(fq_fm (fq_0 y h) hr.2).1, Or.inl ⟨g2, (fq_fm (fq_0 y h) hr.2).2, by rw [eq]; exact hr.1⟩⟩
    refine ⟨fun c => ?_, fun c => ⟨45, rfl, by decide, fun c2 => ?_, fun c2 => ?_⟩⟩
    · have n2 : ¬ q = 2 := fun z => c (by rw [z]; rfl)
      refine ⟨(S, K, y, q), rfl, ⟨hS0, hE0, hv, hq, hP⟩, fun r h' hq2 => ?_⟩
      obtain ⟨rfl, f1⟩ := hq2
      exact fin (fun z => n2 z.1) _ _ ⟨zrl (wav_e S K M q hq (fun z => n2 z.1)), f1⟩
    · rw [hE0.1] at c2
      have n0 : ¬ eN K = 0 := fun z => c2 (by rw [z]; rfl)
      refine ⟨(S, K, y, q), rfl, ⟨hS0, hE0, hv, hq, hP⟩, fun r h' hq2 => ?_⟩
      obtain ⟨rfl, f1⟩ := hq2
      exact fin (fun z => n0 z.2) _ _ ⟨zrl (wav_e S K M q hq (fun z => n0 z.2)), f1⟩
    · rw [hE0.1] at c2
      have n0 : eN K = 0 := (nI_eq (b := 0) (by omega) (by decide)).mp c2
      have n2 : q = 2 := (nI_eq (b := 2) (by omega) (by decide)).mp c
      refine ⟨(fq_0 y h).1, Or.inl ⟨g2, (fq_0 y h).2, zrl ?_⟩⟩
      rw [eq, wav, if_pos n2, if_pos (show eN (S, K, M).2.1 = 0 from n0)]
  · obtain ⟨g2, e⟩ := fine_no (t0 h y) d
    rw [e]
    exact ⟨(fq_rf 1 (fq_0 y h)).1, Or.inr ⟨g2, (fq_rf 1 (fq_0 y h)).2, rfl⟩⟩

