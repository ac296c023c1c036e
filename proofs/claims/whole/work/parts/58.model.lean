theorem dX11_drawn_21 : decode cX11_drawn 21 = .ok (.aload_n 0, 1) := by decide +kernel
theorem dX11_drawn_22 : decode cX11_drawn 22 = .ok (.bipush 75, 2) := by decide +kernel
theorem dX11_drawn_24 : decode cX11_drawn 24 = .ok (.aload_n 0, 1) := by decide +kernel
theorem dX11_drawn_25 : decode cX11_drawn 25 = .ok (.getfield 291, 3) := by decide +kernel
theorem dX11_drawn_28 : decode cX11_drawn 28 = .ok (.imul, 1) := by decide +kernel
theorem dX11_drawn_29 : decode cX11_drawn 29 = .ok (.bipush 74, 2) := by decide +kernel
theorem dX11_drawn_31 : decode cX11_drawn 31 = .ok (.iadd, 1) := by decide +kernel
theorem dX11_drawn_32 : decode cX11_drawn 32 = .ok (.ldc_w 294, 3) := by decide +kernel
theorem dX11_drawn_35 : decode cX11_drawn 35 = .ok (.irem, 1) := by decide +kernel
theorem dX11_drawn_36 : decode cX11_drawn 36 = .ok (.putfield 291, 3) := by decide +kernel
theorem dX11_drawn_39 : decode cX11_drawn 39 = .ok (.iload_n 3, 1) := by decide +kernel
theorem dX11_drawn_40 : decode cX11_drawn 40 = .ok (.aload_n 0, 1) := by decide +kernel
theorem dX11_drawn_41 : decode cX11_drawn 41 = .ok (.getfield 291, 3) := by decide +kernel
theorem dX11_drawn_44 : decode cX11_drawn 44 = .ok (.iconst 2, 1) := by decide +kernel
theorem dX11_drawn_45 : decode cX11_drawn 45 = .ok (.iload 4, 2) := by decide +kernel
theorem dX11_drawn_47 : decode cX11_drawn 47 = .ok (.imul, 1) := by decide +kernel
theorem dX11_drawn_48 : decode cX11_drawn 48 = .ok (.iconst 1, 1) := by decide +kernel
theorem dX11_drawn_49 : decode cX11_drawn 49 = .ok (.iadd, 1) := by decide +kernel
theorem dX11_drawn_50 : decode cX11_drawn 50 = .ok (.irem, 1) := by decide +kernel
theorem dX11_drawn_51 : decode cX11_drawn 51 = .ok (.iadd, 1) := by decide +kernel
theorem dX11_drawn_52 : decode cX11_drawn 52 = .ok (.iload 4, 2) := by decide +kernel
theorem dX11_drawn_54 : decode cX11_drawn 54 = .ok (.isub, 1) := by decide +kernel
theorem dX11_drawn_55 : decode cX11_drawn 55 = .ok (.ireturn, 1) := by decide +kernel
theorem dX11_drawn_0 : decode cX11_drawn 0 = .ok (.aload_n 0, 1) := by decide +kernel
theorem dX11_drawn_1 : decode cX11_drawn 1 = .ok (.iload_n 1, 1) := by decide +kernel
theorem dX11_drawn_2 : decode cX11_drawn 2 = .ok (.iload_n 2, 1) := by decide +kernel
theorem dX11_drawn_3 : decode cX11_drawn 3 = .ok (.invokevirtual 74, 3) := by decide +kernel
theorem dX11_drawn_6 : decode cX11_drawn 6 = .ok (.istore_n 3, 1) := by decide +kernel
theorem dX11_drawn_7 : decode cX11_drawn 7 = .ok (.aload_n 0, 1) := by decide +kernel
theorem dX11_drawn_8 : decode cX11_drawn 8 = .ok (.iload_n 1, 1) := by decide +kernel
theorem dX11_drawn_9 : decode cX11_drawn 9 = .ok (.invokevirtual 89, 3) := by decide +kernel
theorem dX11_drawn_12 : decode cX11_drawn 12 = .ok (.istore 4, 2) := by decide +kernel
theorem dX11_drawn_14 : decode cX11_drawn 14 = .ok (.iload 4, 2) := by decide +kernel
theorem dX11_drawn_16 : decode cX11_drawn 16 = .ok (.ifCond .ne 5, 3) := by decide +kernel
theorem dX11_drawn_19 : decode cX11_drawn 19 = .ok (.iload_n 3, 1) := by decide +kernel
theorem dX11_drawn_20 : decode cX11_drawn 20 = .ok (.ireturn, 1) := by decide +kernel
/-! the reference: readings -/
/-- what private calls of the reference leave as it was -/
def fm (y : Nat) (h h' : zH) : Prop := (∀ q, q < y ∨ y + 18 ≤ q → h'.1 q = h.1 q ∧ h'.2.1 q = h.2.1 q) ∧ h'.2.2 = h.2.2 ∧ (∀ k, k = 0 ∨ (9 ≤ k ∧ k ≤ 11) ∨ k = 17 ∨ k = 23 → h'.1 y k = h.1 y k) ∧ ∀ j, j = 1 ∨ j = 2 ∨ j = 4 ∨ j = 5 ∨ j = 6 ∨ j = 12 → h'.1 (y + j) = h.1 (y + j)
theorem fm_r (y : Nat) (h : zH) : fm y h h := ⟨fun _ _ => ⟨rfl, rfl⟩, rfl, fun _ _ => rfl, fun _ _ => rfl⟩
theorem fm_t {y : Nat} {h h1 h2 : zH} (a : fm y h h1) (b : fm y h1 h2) : fm y h h2 := ⟨fun q hq => ⟨((b.1 q hq).1).trans (a.1 q hq).1, ((b.1 q hq).2).trans (a.1 q hq).2⟩, b.2.1.trans a.2.1, fun k hk => (b.2.2.1 k hk).trans (a.2.2.1 k hk), fun j hj => (b.2.2.2 j hj).trans (a.2.2.2 j hj)⟩
theorem fm_W {y j : Nat} (h : zH) (f : Nat → Int32) (hj : j = 3 ∨ (7 ≤ j ∧ j ≤ 11) ∨ (13 ≤ j ∧ j < 18)) : fm y h (zsW h (y + j) f) := ⟨fun q hq => ⟨zsW_n _ _ (by omega), rfl⟩, rfl, fun k _ => by rw [zsW_n _ _ (by omega)], fun i hi => zsW_n _ _ (by omega)⟩
theorem fm_I {y k : Nat} (h : zH) (v : Int32) (hk : 24 ≤ k) : fm y h (zsI h y k v) := ⟨fun q hq => ⟨by rw [zsI_W]; exact zsW_n _ _ (by omega), rfl⟩, rfl, fun i hi => by rw [zsI_W, zsW_s, zup_n _ _ (by omega)], fun i hi => by rw [zsI_W]; exact zsW_n _ _ (by omega)⟩
theorem rmS_fm {S : zD} {y : Nat} {h h' : zH} (f : fm y h h') (hS : rmS S h y) : rmS S h' y := rmS_cg ⟨f.2.2.1 10 (by omega), f.2.2.1 11 (by omega)⟩ (f.2.2.2 2 (by omega)) (f.2.2.2 5 (by omega)) (f.2.2.2 6 (by omega)) hS
def ca_X11_drawn : (zD × Nat × Nat × Int32) → List zV := fun (S, y, r, te) => [vR 20 0 y, vI (nI r), vI te]
def cp_X11_drawn : (zD × Nat × Nat × Int32) → zH → Prop := fun (S, y, r, te) h => rmS S h y ∧ r < dN S ∧ vS S
def cq_X11_drawn : (zD × Nat × Nat × Int32) → zH → Option zV → zH → Prop := fun (S, y, r, te) h o h' => o = some (vI (rdV S r te (h.1 y 27))) ∧ h' = zsI h y 27 (rdS S r (h.1 y 27))
theorem rc_X11_drawn : ∀ x : (zD × Nat × Nat × Int32), ∃ (j a : Nat) (As : List zV), ca_X11_drawn x = vR (10 + 10) j a :: As := by
  rintro ⟨S, y, r, te⟩
  exact ⟨_, _, _, rfl⟩
set_option maxHeartbeats 4000000 in
set_option maxRecDepth 100000 in
theorem m_X11_drawn : zM yX11_drawn cX11_drawn 5 (some .int) ({ frames := 1, cells := 0, slots := 0, locals := 22 } : Room) ((ca_X11_drawn, cp_X11_drawn, cq_X11_drawn) : zC (zD × Nat × Nat × Int32)) := by
  refine zM_of (by decide) ?_
  rintro X Y ⟨S, y, r, te⟩ h ⟨hS, hr, hv⟩ O E hR
  have B_21 := zr_aload_n (X := X) (Y := Y) (u := 0) (v := 0) O dX11_drawn_21 rfl (zr_bipush (x := (75)) O dX11_drawn_22 (by decide) (zr_aload_n O dX11_drawn_24 rfl (zr_gI (ci := 10) (j := 27) O zc_10 (by decide) rfl tw_1214 dX11_drawn_25 (zr_imul O dX11_drawn_28 (zr_bipush (x := (74)) O dX11_drawn_29 (by decide) (zr_iadd O dX11_drawn_31 (zr_ldcw (x := (65537)) O dX11_drawn_32 tw_1595 (zr_irem O dX11_drawn_35 (zr_pI (ci := 10) (j := 27) O zc_10 (by decide) rfl rfl rfl tw_1214 dX11_drawn_36 (zr_iload_n O dX11_drawn_39 rfl (zr_aload_n O dX11_drawn_40 rfl (zr_gI (ci := 10) (j := 27) O zc_10 (by decide) rfl tw_1214 dX11_drawn_41 (zr_iconst (x := 2) O dX11_drawn_44 rfl (zr_iload O dX11_drawn_45 (zr_imul O dX11_drawn_47 (zr_iconst (x := 1) O dX11_drawn_48 rfl (zr_iadd O dX11_drawn_49 (zr_irem O dX11_drawn_50 (zr_iadd O dX11_drawn_51 (zr_iload O dX11_drawn_52 (zr_isub O dX11_drawn_54 (zr_ireturn O E (Nat.le_refl _) (Nat.le_refl _) dX11_drawn_55))))))))))))))))))))))
  have B_0 := zr_aload_n (X := X) (Y := Y) (u := 0) (v := 0) O dX11_drawn_0 rfl (zr_iload_n O dX11_drawn_1 rfl (zr_iload_n O dX11_drawn_2 rfl (zr_cI (zr_cV (ci := 10) (n := 2) O m_X11_speedOf (bn_X11_speedOf _ ⟨rfl, rfl⟩) vw_X11_speedOf tw_1415 rc_X11_speedOf (zrm hR rfl rfl) dX11_drawn_3 (zr_istore_n O dX11_drawn_6 rfl (zr_aload_n O dX11_drawn_7 rfl (zr_iload_n O dX11_drawn_8 rfl (zr_cI (zr_cV (ci := 10) (n := 1) O m_X11_noiseOf (bn_X11_noiseOf _ ⟨rfl, rfl⟩) vw_X11_noiseOf tw_1430 rc_X11_noiseOf (zrm hR rfl rfl) dX11_drawn_9 (zr_istore O dX11_drawn_12 (zr_iload O dX11_drawn_14 (zr_ifne (tgt := 21) O dX11_drawn_16 rfl B_21 (zr_iload_n O dX11_drawn_19 rfl (zr_ireturn O E (Nat.le_refl _) (Nat.le_refl _) dX11_drawn_20))))))))))))))
  refine ⟨rfl, Nat.le_of_ble_eq_true rfl, _, B_0, ?_⟩
  have hS : rmS S h y := hS
  have hr : r < dN S := hr
  have hz := (hv.1 r hr).2.2
  obtain ⟨k, k1, k2⟩ := nI_z (n := 50) hz.1 hz.2 (by decide)
  have nz := nz_odd k k1
  rw [← k2] at nz
  refine ⟨(S, y, r, te), rfl, ⟨hS, hr⟩, (S, y, r), rfl, ⟨hS, hr⟩, fun cq => ⟨by decide, nz, zri ?_, ?_⟩, fun cq => ⟨zri ?_, ?_⟩⟩
  · replace cq : ¬ dZ S r = 0 := cq
    have hp : 0 < dZ S r := by
      rw [fa_lt]
      have : ¬ (dZ S r).toInt = 0 := fun z => cq ((fa_eq _ _).mpr z)
      show (0 : Int) < _
      omega
    rw [rdV, if_pos hp, zsI_W, zsW_s, zup_s]
    rfl
  · replace cq : ¬ dZ S r = 0 := cq
    have hp : 0 < dZ S r := by
      rw [fa_lt]
      have : ¬ (dZ S r).toInt = 0 := fun z => cq ((fa_eq _ _).mpr z)
      show (0 : Int) < _
      omega
    rw [rdS, if_pos hp]
    rfl
  · replace cq : dZ S r = 0 := cq
    rw [rdV, if_neg (by rw [cq]; decide)]
    rfl
  · replace cq : dZ S r = 0 := cq
    rw [rdS, if_neg (by rw [cq]; decide), zsI_W, zup_self, zsW_self]
/-- blocks of bits side by side -/
def bkN (g : Nat → Nat) (l : Nat) : Nat → Nat
  | 0 => 0
  | n + 1 => bkN g l n ||| g n * 2 ^ (n * l)
theorem bkN_lt {g : Nat → Nat} {l : Nat} (hg : ∀ i, g i < 2 ^ l) : ∀ n, bkN g l n < 2 ^ (n * l)
  | 0 => Nat.two_pow_pos _
  | n + 1 => by
    have h1 := bkN_lt hg n
    have e : (n + 1) * l = n * l + l := Nat.succ_mul _ _
    exact or_lt (Nat.lt_of_lt_of_le h1 (Nat.pow_le_pow_right (by omega) (by omega))) (shl_lt (hg n) (by omega))
theorem bkN_bit {g : Nat → Nat} {l : Nat} (hg : ∀ i, g i < 2 ^ l) : ∀ n c k, c < n → k < l → (bkN g l n).testBit (c * l + k) = (g c).testBit k
  | 0, c, k, hc, _ => absurd hc (Nat.not_lt_zero _)
  | n + 1, c, k, hc, hk => by
    rw [bkN, Nat.testBit_or, Nat.testBit_mul_two_pow]
    by_cases e : c = n
    · subst e
      rw [Nat.testBit_lt_two_pow (Nat.lt_of_lt_of_le (bkN_lt hg c) (Nat.pow_le_pow_right (by omega) (by omega))), decide_eq_true (by omega : c * l ≤ c * l + k), Nat.add_sub_cancel_left]
      rfl
    · have hcn : c * l + l ≤ n * l := by rw [← Nat.succ_mul]; exact Nat.mul_le_mul_right _ (by omega)
      rw [bkN_bit hg n c k (by omega) hk, decide_eq_false (by omega : ¬ n * l ≤ c * l + k)]
      simp
theorem wsN_bk (r s : Nat) : ∀ n, wsN r s n = bkN (fun i => wdN r (sbk r s i)) (lnR r) n
  | 0 => rfl
  | n + 1 => by rw [wsN, bkN, wsN_bk r s n]
theorem scN_bk (r w : Nat) : ∀ n, scN r w n = bkN (fun i => dcN r (wbk r w i)) (btR r) n
  | 0 => rfl
  | n + 1 => by rw [scN, bkN, scN_bk r w n]
theorem wbk_bit (r w b k : Nat) : (wbk r w b).testBit k = (decide (k < lnR r) && w.testBit (b * lnR r + k)) := by
  rw [wbk, Nat.testBit_mod_two_pow, Nat.testBit_div_two_pow, Nat.add_comm]
theorem sbk_sc (r w : Nat) {n c : Nat} (hc : c < n) : sbk r (scN r w n) c = dcN r (wbk r w c) := by
  refine Nat.eq_of_testBit_eq (fun k => ?_)
  rw [sbk, Nat.testBit_mod_two_pow, Nat.testBit_div_two_pow, Nat.add_comm, scN_bk]
  by_cases hk : k < btR r
  · rw [decide_eq_true hk, bkN_bit (fun i => dcN_lt) n c k hc hk]; rfl
  · rw [decide_eq_false hk, Nat.testBit_lt_two_pow (Nat.lt_of_lt_of_le dcN_lt (Nat.pow_le_pow_right (by omega) (by omega)))]; rfl
theorem bI_xor (a b : Bool) : bI a ^^^ bI b = bI (a ^^ b) := by cases a <;> cases b <;> decide
theorem fb_ct_blk (p : Nat → Bool) (l : Nat) : ∀ n, fb_ct p (n * l) = fb_sm (fun c => fb_ct (fun k => p (c * l + k)) l) n
  | 0 => by rw [Nat.zero_mul]; rfl
  | n + 1 => by rw [Nat.succ_mul, fb_ct_split, fb_ct_blk p l n, fb_sm_succ]
/-- the bits read -/
def rbt (S : zD) (K : zE) (te s : Int32) (i : Nat) : Bool := (rdP S te (eP K i) (rdN S K te s i).1).2
theorem rdN_bit (S : zD) (K : zE) (te s : Int32) : ∀ n i, (rdN S K te s n).2.testBit i = (decide (i < n) && rbt S K te s i)
  | 0, i => by show (0 : Nat).testBit i = _; rw [Nat.zero_testBit, decide_eq_false (Nat.not_lt_zero _)]; rfl
  | n + 1, i => by
    show ((rdN S K te s n).2 ||| (if rbt S K te s n then 2 ^ n else 0)).testBit i = _
    rw [Nat.testBit_or, rdN_bit S K te s n i]
    by_cases hi : i < n
    · rw [decide_eq_true hi, decide_eq_true (by omega : i < n + 1)]
      have : (if rbt S K te s n then 2 ^ n else 0 : Nat).testBit i = false := by
        split
        · rw [Nat.testBit_two_pow]; exact decide_eq_false (by omega)
        · exact Nat.zero_testBit i
      rw [this, Bool.or_false]
    · rw [decide_eq_false hi]
      by_cases he : i = n
      · subst he
        rw [decide_eq_true (by omega : i < i + 1)]
        cases rbt S K te s i with
        | true => simp
        | false => simp
      · rw [decide_eq_false (by omega : ¬ i < n + 1)]
        have : (if rbt S K te s n then 2 ^ n else 0 : Nat).testBit i = false := by
          split
          · rw [Nat.testBit_two_pow]; exact decide_eq_false (by omega)
          · exact Nat.zero_testBit i
        rw [this]; rfl
/-- the words read, block by block; places mended in a block -/
def rwd (S : zD) (K : zE) (te s : Int32) : Nat := rdW S K te s ^^^ eH K
def cbf (r w c k : Nat) : Bool := (wdN r (dcN r (wbk r w c))).testBit k ^^ (wbk r w c).testBit k
def cbS (r w : Nat) (n : Nat) : Nat := fb_sm (fun c => fb_ct (cbf r w c) (lnR r)) n
theorem rdC_e {S : zD} {K : zE} {te s : Int32} (hv : vE K) (h0 : 0 < eN K) : rdC S K te s = cbS (eR K) (rwd S K te s) (eK K) := by
  obtain ⟨-, hr, hn, -, ⟨-, u6, -⟩, -⟩ := hv.2 h0
  have h28 := hv.1
  have lw : rwd S K te s < 2 ^ eN K := Nat.xor_lt_two_pow (rdN_lt _) u6
  have lz : rwd S K te s ^^^ wsN (eR K) (rdX S K te s) (eK K) < 2 ^ eN K := Nat.xor_lt_two_pow lw (by rw [hn]; exact wsN_lt hr _)
  show pop (rwd S K te s ^^^ wsN (eR K) (rdX S K te s) (eK K)) = _
  rw [pop_low lz (by omega), hn, fb_ct_blk]
  refine fb_sm_cong (fun c hc => fb_ct_cong (fun k hk => ?_))
  rw [Nat.testBit_xor, wsN_bk, bkN_bit (fun i => wdN_lt hr) _ c k hc hk]
  have eX : rdX S K te s = scN (eR K) (rwd S K te s) (eK K) := rfl
  rw [eX]
  rw [sbk_sc _ _ hc, cbf, wbk_bit, decide_eq_true hk, Bool.true_and, Bool.xor_comm]
theorem rdR_e {S : zD} {K : zE} {te s : Int32} (hv : vE K) (h0 : 0 < eN K) : rdR S K te s = fb_ct (fun i => rbt S K te s i ^^ (eB K).testBit i) (eN K) := by
  obtain ⟨-, hr, hn, -, ⟨u5, -, -⟩, -⟩ := hv.2 h0
  have h28 := hv.1
  have lz : rdW S K te s ^^^ eB K < 2 ^ eN K := Nat.xor_lt_two_pow (rdN_lt _) u5
  show pop (rdW S K te s ^^^ eB K) = _
  rw [pop_low lz (by omega)]
  refine fb_ct_cong (fun i hi => ?_)
  rw [Nat.testBit_xor, rdW, rdN_bit, decide_eq_true hi, Bool.true_and]

