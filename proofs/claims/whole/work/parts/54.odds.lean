theorem dX10_odds_94 : decode cX10_odds 94 = .ok (.iload 7, 2) := by decide +kernel
theorem dX10_odds_96 : decode cX10_odds 96 = .ok (.idiv, 1) := by decide +kernel
theorem dX10_odds_97 : decode cX10_odds 97 = .ok (.ireturn, 1) := by decide +kernel
theorem dX10_odds_92 : decode cX10_odds 92 = .ok (.iload 6, 2) := by decide +kernel
theorem dX10_odds_72 : decode cX10_odds 72 = .ok (.istore 6, 2) := by decide +kernel
theorem dX10_odds_74 : decode cX10_odds 74 = .ok (.iload 4, 2) := by decide +kernel
theorem dX10_odds_76 : decode cX10_odds 76 = .ok (.iload 6, 2) := by decide +kernel
theorem dX10_odds_78 : decode cX10_odds 78 = .ok (.invokestatic 260, 3) := by decide +kernel
theorem dX10_odds_81 : decode cX10_odds 81 = .ok (.istore 7, 2) := by decide +kernel
theorem dX10_odds_83 : decode cX10_odds 83 = .ok (.iload_n 3, 1) := by decide +kernel
theorem dX10_odds_84 : decode cX10_odds 84 = .ok (.ifCond .eq 8, 3) := by decide +kernel
theorem dX10_odds_87 : decode cX10_odds 87 = .ok (.iload 4, 2) := by decide +kernel
theorem dX10_odds_89 : decode cX10_odds 89 = .ok (.goto 5, 3) := by decide +kernel
theorem dX10_odds_70 : decode cX10_odds 70 = .ok (.iload 5, 2) := by decide +kernel
theorem dX10_odds_0 : decode cX10_odds 0 = .ok (.aload_n 0, 1) := by decide +kernel
theorem dX10_odds_1 : decode cX10_odds 1 = .ok (.iload_n 1, 1) := by decide +kernel
theorem dX10_odds_2 : decode cX10_odds 2 = .ok (.aload_n 0, 1) := by decide +kernel
theorem dX10_odds_3 : decode cX10_odds 3 = .ok (.getfield 10, 3) := by decide +kernel
theorem dX10_odds_6 : decode cX10_odds 6 = .ok (.getfield 85, 3) := by decide +kernel
theorem dX10_odds_9 : decode cX10_odds 9 = .ok (.getfield 114, 3) := by decide +kernel
theorem dX10_odds_12 : decode cX10_odds 12 = .ok (.invokevirtual 133, 3) := by decide +kernel
theorem dX10_odds_15 : decode cX10_odds 15 = .ok (.aload_n 0, 1) := by decide +kernel
theorem dX10_odds_16 : decode cX10_odds 16 = .ok (.iload_n 2, 1) := by decide +kernel
theorem dX10_odds_17 : decode cX10_odds 17 = .ok (.invokevirtual 205, 3) := by decide +kernel
theorem dX10_odds_20 : decode cX10_odds 20 = .ok (.aload_n 0, 1) := by decide +kernel
theorem dX10_odds_21 : decode cX10_odds 21 = .ok (.getfield 10, 3) := by decide +kernel
theorem dX10_odds_24 : decode cX10_odds 24 = .ok (.getfield 85, 3) := by decide +kernel
theorem dX10_odds_27 : decode cX10_odds 27 = .ok (.iload_n 1, 1) := by decide +kernel
theorem dX10_odds_28 : decode cX10_odds 28 = .ok (.invokevirtual 254, 3) := by decide +kernel
theorem dX10_odds_31 : decode cX10_odds 31 = .ok (.istore 4, 2) := by decide +kernel
theorem dX10_odds_33 : decode cX10_odds 33 = .ok (.aload_n 0, 1) := by decide +kernel
theorem dX10_odds_34 : decode cX10_odds 34 = .ok (.getfield 10, 3) := by decide +kernel
theorem dX10_odds_37 : decode cX10_odds 37 = .ok (.getfield 85, 3) := by decide +kernel
theorem dX10_odds_40 : decode cX10_odds 40 = .ok (.iload_n 1, 1) := by decide +kernel
theorem dX10_odds_41 : decode cX10_odds 41 = .ok (.iload_n 2, 1) := by decide +kernel
theorem dX10_odds_42 : decode cX10_odds 42 = .ok (.invokevirtual 257, 3) := by decide +kernel
theorem dX10_odds_45 : decode cX10_odds 45 = .ok (.istore 5, 2) := by decide +kernel
theorem dX10_odds_47 : decode cX10_odds 47 = .ok (.aload_n 0, 1) := by decide +kernel
theorem dX10_odds_48 : decode cX10_odds 48 = .ok (.getfield 10, 3) := by decide +kernel
theorem dX10_odds_51 : decode cX10_odds 51 = .ok (.getfield 85, 3) := by decide +kernel
theorem dX10_odds_54 : decode cX10_odds 54 = .ok (.iload_n 1, 1) := by decide +kernel
theorem dX10_odds_55 : decode cX10_odds 55 = .ok (.invokevirtual 162, 3) := by decide +kernel
theorem dX10_odds_58 : decode cX10_odds 58 = .ok (.iconst 1, 1) := by decide +kernel
theorem dX10_odds_59 : decode cX10_odds 59 = .ok (.if_icmp .ne 11, 3) := by decide +kernel
theorem dX10_odds_62 : decode cX10_odds 62 = .ok (.iload 4, 2) := by decide +kernel
theorem dX10_odds_64 : decode cX10_odds 64 = .ok (.iload 5, 2) := by decide +kernel
theorem dX10_odds_66 : decode cX10_odds 66 = .ok (.isub, 1) := by decide +kernel
theorem dX10_odds_67 : decode cX10_odds 67 = .ok (.goto 5, 3) := by decide +kernel
/-! odds -/
theorem ct_cl (B : Int) : ∀ n : Nat, ((fb_ct (fun j => decide ((j : Int) < B)) n : Nat) : Int) = max 0 (min B n)
  | 0 => by show (0 : Int) = _; omega
  | n + 1 => by
    have ih := ct_cl B n
    rw [fb_ct_succ]
    by_cases h : (n : Int) < B
    · rw [decide_eq_true h]
      simp only [if_true]
      omega
    · rw [decide_eq_false h]
      simp only [Bool.false_eq_true, if_false]
      omega
theorem zN_e {S : zD} {r : Nat} (hv : vS S) (hr : r < dN S) : dZ S r = nI (zN S r) ∧ zN S r ≤ 50 ∧ (dZ S r).toInt = zN S r := by
  obtain ⟨-, -, z1, z2⟩ := hv.1 r hr
  have h1 : zN S r ≤ 50 := by unfold zN; omega
  have h2 : (dZ S r).toInt = zN S r := by unfold zN; omega
  refine ⟨(fa_eq _ _).mpr ?_, h1, h2⟩
  rw [nI_toInt (by omega), h2]
/-- the bit of two draws, by their places -/
def odB (S : zD) (p : Nat) (te : Int32) (i j : Nat) : Bool := decide (bby (spd S (dF S p) te - dZ S (dF S p) + nI i) (spd S (dS S p) te - dZ S (dS S p) + nI j) (dF S p) (dS S p) = 1)
def od1 (S : zD) (p : Nat) (te : Int32) (i : Nat) : Nat := fb_ct (odB S p te i) (2 * zN S (dS S p) + 1)
def alN (S : zD) (p : Nat) : Nat := (2 * zN S (dF S p) + 1) * (2 * zN S (dS S p) + 1)
def onN (S : zD) (p : Nat) (te : Int32) : Nat := fb_sm (od1 S p te) (2 * zN S (dF S p) + 1)
def otN (S : zD) (p : Nat) (te : Int32) : Nat := if pb S p = 1 then alN S p - onN S p te else onN S p te
def odv (S : zD) (p : Nat) (te lo : Int32) : Int32 := if lo = 0 then nI (otN S p te / Nat.gcd (alN S p) (otN S p te)) else nI (alN S p / Nat.gcd (alN S p) (otN S p te))
theorem bby_1 {x y : Int32} {a b : Nat} : bby x y a b = 1 ↔ y.toInt < x.toInt ∨ x.toInt = y.toInt ∧ a < b := by
  rw [← fa_lt, ← fa_eq]
  unfold bby
  by_cases h : y < x ∨ x = y ∧ a < b
  · rw [if_pos h]; exact ⟨fun _ => h, fun _ => rfl⟩
  · rw [if_neg h]; exact ⟨fun z => absurd z (by decide), fun z => absurd z h⟩
theorem od1_e {S : zD} (hv : vS S) {p : Nat} {te : Int32} (hF : dF S p < dN S) (hS : dS S p < dN S) (ht : okH te) {i : Nat} (hi : i < 2 * zN S (dF S p) + 1) : mx2 0 (mn2 ((spd S (dF S p) te - dZ S (dF S p) + nI i) - (spd S (dS S p) te - dZ S (dS S p)) + (if dF S p < dS S p then 1 else 0)) (2 * dZ S (dS S p) + 1)) = nI (od1 S p te i) := by
  obtain ⟨-, a1, a2⟩ := spd_i hv hF ht
  obtain ⟨-, b1, b2⟩ := spd_i hv hS ht
  obtain ⟨za, za2, za3⟩ := zN_e hv hF
  obtain ⟨zb, zb2, zb3⟩ := zN_e hv hS
  have q1 : (spd S (dF S p) te - dZ S (dF S p)).toInt = (spd S (dF S p) te).toInt - zN S (dF S p) := by rw [fb_subI (by omega) (by omega), za3]
  have q2 : (spd S (dS S p) te - dZ S (dS S p)).toInt = (spd S (dS S p) te).toInt - zN S (dS S p) := by rw [fb_subI (by omega) (by omega), zb3]
  have q3 : (spd S (dF S p) te - dZ S (dF S p) + nI i).toInt = (spd S (dF S p) te).toInt - zN S (dF S p) + i := by
    rw [fb_addI (by rw [q1, nI_toInt (by omega)]; omega) (by rw [q1, nI_toInt (by omega)]; omega), q1, nI_toInt (by omega)]
  have qj : ∀ j, j < 2 * zN S (dS S p) + 1 → (spd S (dS S p) te - dZ S (dS S p) + nI j).toInt = (spd S (dS S p) te).toInt - zN S (dS S p) + j := by
    intro j hj
    rw [fb_addI (by rw [q2, nI_toInt (by omega)]; omega) (by rw [q2, nI_toInt (by omega)]; omega), q2, nI_toInt (by omega)]
  obtain ⟨w, ew, hw⟩ : ∃ w : Nat, (if dF S p < dS S p then (1 : Int32) else 0) = nI w ∧ ((dF S p < dS S p ∧ w = 1) ∨ (¬ dF S p < dS S p ∧ w = 0)) := by
    by_cases h : dF S p < dS S p
    · exact ⟨1, if_pos h, Or.inl ⟨h, rfl⟩⟩
    · exact ⟨0, if_neg h, Or.inr ⟨h, rfl⟩⟩
  obtain ⟨B, eB⟩ : ∃ B : Int, B = (spd S (dF S p) te).toInt - zN S (dF S p) + i - ((spd S (dS S p) te).toInt - zN S (dS S p)) + w := ⟨_, rfl⟩
  have q4 : ((spd S (dF S p) te - dZ S (dF S p) + nI i) - (spd S (dS S p) te - dZ S (dS S p))).toInt = (spd S (dF S p) te).toInt - zN S (dF S p) + i - ((spd S (dS S p) te).toInt - zN S (dS S p)) := by
    rw [fb_subI (by rw [q3, q2]; omega) (by rw [q3, q2]; omega), q3, q2]
  have q5 : ((spd S (dF S p) te - dZ S (dF S p) + nI i) - (spd S (dS S p) te - dZ S (dS S p)) + (if dF S p < dS S p then 1 else 0)).toInt = B := by
    rw [ew, fb_addI (by rw [q4, nI_toInt (by omega)]; omega) (by rw [q4, nI_toInt (by omega)]; omega), q4, nI_toInt (by omega), eB]
  have q6 : (2 * dZ S (dS S p) + 1) = nI (2 * zN S (dS S p) + 1) := by
    rw [zb, show (2 : Int32) = nI 2 from rfl, nI_mul, nI_1]
  have hc : od1 S p te i = fb_ct (fun j => decide ((j : Int) < B)) (2 * zN S (dS S p) + 1) := by
    refine fb_ct_cong (fun j hj => ?_)
    unfold odB
    refine decide_eq_decide.mpr ?_
    rw [bby_1, q3, qj j hj]
    omega
  have h0 := ct_cl B (2 * zN S (dS S p) + 1)
  have h1 := fb_ct_le (fun j => decide ((j : Int) < B)) (2 * zN S (dS S p) + 1)
  rw [hc]
  refine (fa_eq _ _).mpr ?_
  rw [nI_toInt (by omega), h0, mx2, mn2, q6]
  have z0 : (0 : Int32).toInt = 0 := by decide
  have zn : (nI (2 * zN S (dS S p) + 1)).toInt = ((2 * zN S (dS S p) + 1 : Nat) : Int) := nI_toInt (by omega)
  generalize ((spd S (dF S p) te - dZ S (dF S p) + nI i) - (spd S (dS S p) te - dZ S (dS S p)) + (if dF S p < dS S p then 1 else 0)) = X at q5
  by_cases c1 : nI (2 * zN S (dS S p) + 1) < X
  · rw [if_pos c1, if_pos (by rw [fa_lt, z0, zn]; omega), zn]
    rw [fa_lt, zn, q5] at c1
    omega
  · rw [if_neg c1]
    rw [fa_lt, zn, q5] at c1
    by_cases c2 : 0 < X
    · rw [if_pos c2, q5]
      rw [fa_lt, z0, q5] at c2
      omega
    · rw [if_neg c2, z0]
      rw [fa_lt, z0, q5] at c2
      omega
theorem dw1_e {S : zD} (hv : vS S) {p : Nat} {te : Int32} (hF : dF S p < dN S) (hS : dS S p < dN S) (ht : okH te) : ∀ n, n ≤ 2 * zN S (dF S p) + 1 → dw1 S p te n = nI (fb_sm (od1 S p te) n)
  | 0, _ => rfl
  | n + 1, h => by rw [dw1, dw1_e hv hF hS ht n (by omega), od1_e hv hF hS ht (by omega), nI_add]; rfl
theorem on_le {S : zD} {p : Nat} {te : Int32} : onN S p te ≤ alN S p := fb_sm_bound (fun k _ => fb_ct_le _ _)
theorem al_b {S : zD} (hv : vS S) {p : Nat} (hF : dF S p < dN S) (hS : dS S p < dN S) : 1 ≤ alN S p ∧ alN S p ≤ 2 ^ 14 := by
  obtain ⟨-, za2, -⟩ := zN_e hv hF
  obtain ⟨-, zb2, -⟩ := zN_e hv hS
  have h1 : alN S p ≤ 101 * 101 := Nat.mul_le_mul (by omega) (by omega)
  have h2 : 1 * 1 ≤ alN S p := Nat.mul_le_mul (by omega) (by omega)
  omega
def ca_X10_odds : (zQ × Nat × Int32 × Int32 × Int32) → List zV := fun (Q, x, i, te, lo) => [vR 19 0 x, vI i, vI te, vI lo]
def cp_X10_odds : (zQ × Nat × Int32 × Int32 × Int32) → zH → Prop := fun (Q, x, i, te, lo) h => rpN Q h x ∧ vS Q.1
def cq_X10_odds : (zQ × Nat × Int32 × Int32 × Int32) → zH → Option zV → zH → Prop := fun (Q, x, i, te, lo) h r h' => gC i (dP Q.1) ∧ gR te (-40) 125 ∧ r = some (vI (odv Q.1 (cN i) te lo)) ∧ h = h'
def cx_X10_odds : (zQ × Nat × Int32 × Int32 × Int32) → zH → String → zH → Prop := fun (Q, x, i, te, lo) h E h' => (¬ gC i (dP Q.1) ∧ xNS x h E h') ∨ (gC i (dP Q.1) ∧ ¬ gR te (-40) 125 ∧ xIA x h E h')
theorem rc_X10_odds : ∀ x : (zQ × Nat × Int32 × Int32 × Int32), ∃ (j a : Nat) (As : List zV), ca_X10_odds x = vR (10 + 9) j a :: As := by
  rintro ⟨⟨S, K, M⟩, x, i, te, lo⟩
  exact ⟨_, _, _, rfl⟩
set_option maxHeartbeats 4000000 in
set_option maxRecDepth 100000 in
theorem m_X10_odds : zMx yX10_odds cX10_odds 8 (some .int) ({ frames := 9, cells := 2, slots := 12, locals := 146 } : Room) ((ca_X10_odds, cp_X10_odds, cq_X10_odds) : zC (zQ × Nat × Int32 × Int32 × Int32)) cx_X10_odds := by
  refine zMx_of (by decide) ?_
  rintro X Y ⟨⟨S, K, M⟩, x, i, te, lo⟩ h ⟨hN, hv⟩ O Ex hR
  have E := zEx_E Ex
  have hS : rpS S h (h.2.2 x 0 + 1) := hN.1.1
  have hv : vS S := hv
  have hP28 := hS.2.1.2
  have B_94 := zr_iload (X := X) (Y := Y) (u := 2) (v := 12) O dX10_odds_94 (zr_idiv O dX10_odds_96 (zr_ireturn O E (Nat.le_of_ble_eq_true rfl) (Nat.le_of_ble_eq_true rfl) dX10_odds_97))
  have C_94 : zSd X Y 2 12 94 (fun ls st h1 => ∃ (p : Nat) (y : Int32), i = nI p ∧ p < dP S ∧ gR te (-40) 125 ∧ ls = [some (vR 19 0 x), some (vI i), some (vI te), some (vI lo), some (vI (nI (alN S p))), some (vI (nI (onN S p te))), some (vI (nI (otN S p te))), some (vI (nI (Nat.gcd (alN S p) (otN S p te))))] ∧ y = (if lo = 0 then nI (otN S p te) else nI (alN S p)) ∧ st = [vI y] ∧ h = h1) := by
    refine zSd_weak B_94 (fun ls st h1 t => ?_)
    obtain ⟨p, y, rfl, hp, g2, rfl, rfl, rfl, rfl⟩ := t
    have ep : cN (nI p) = p := nI_clamp (by omega)
    have g1 : gC (nI p) (dP S) := ⟨nI_pos' (by omega), nI_lt hp (by omega)⟩
    obtain ⟨⟨-, f2⟩, -, f4⟩ := hS.2.2.2.1 p hp
    have hal := al_b hv f2 f4
    have hot : otN S p te ≤ alN S p := by
      unfold otN
      have := on_le (S := S) (p := p) (te := te)
      split <;> omega
    have hg0 : 0 < Nat.gcd (alN S p) (otN S p te) := Nat.gcd_pos_of_pos_left _ (by omega)
    have hg1 : Nat.gcd (alN S p) (otN S p te) ≤ alN S p := Nat.gcd_le_left _ (by omega)
    refine ⟨nI_ne0 hg0 (by omega), g1, g2, zri ?_, rfl⟩
    rw [ep, odv]
    by_cases hl : lo = 0
    · rw [if_pos hl, if_pos hl]; exact pk_div (by omega) hg0 (by omega)
    · rw [if_neg hl, if_neg hl]; exact pk_div (by omega) hg0 (by omega)
  have B_92 := zr_iload (X := X) (Y := Y) (u := 2) (v := 12) O dX10_odds_92 (C_94)
  have B_72 := zr_istore (X := X) (Y := Y) (u := 2) (v := 12) O dX10_odds_72 (zr_iload O dX10_odds_74 (zr_iload O dX10_odds_76 (zr_cI (zr_cS (n := 2) O m_X10_commonDivisor (bn_X10_commonDivisor _ ⟨rfl, rfl⟩) tw_971 tw_970 (zrx hR rfl rfl rfl rfl) dX10_odds_78 (zr_istore O dX10_odds_81 (zr_iload_n O dX10_odds_83 rfl (zr_ifeq (tgt := 92) O dX10_odds_84 rfl B_92 (zr_iload O dX10_odds_87 (zr_goto (tgt := 94) O dX10_odds_89 rfl C_94)))))))))
  have C_72 : zSd X Y 2 12 72 (fun ls st h1 => ∃ p : Nat, i = nI p ∧ p < dP S ∧ gR te (-40) 125 ∧ ls = [some (vR 19 0 x), some (vI i), some (vI te), some (vI lo), some (vI (nI (alN S p))), some (vI (nI (onN S p te))), none, none] ∧ st = [vI (nI (otN S p te))] ∧ h = h1) := by
    refine zSd_weak B_72 (fun ls st h1 t => ?_)
    obtain ⟨p, rfl, hp, g2, rfl, rfl, rfl⟩ := t
    obtain ⟨⟨-, f2⟩, -, f4⟩ := hS.2.2.2.1 p hp
    have hal := al_b hv f2 f4
    have hot : otN S p te ≤ alN S p := by
      unfold otN
      have := on_le (S := S) (p := p) (te := te)
      split <;> omega
    refine ⟨(alN S p, otN S p te), rfl, ⟨hal.1, hal.2, hot⟩, fun c => ⟨p, _, rfl, hp, g2, rfl, ?_, rfl, rfl⟩, fun c => ⟨p, _, rfl, hp, g2, rfl, ?_, rfl, rfl⟩⟩
    · rw [if_pos c]
    · rw [if_neg c]
  have B_70 := zr_iload (X := X) (Y := Y) (u := 2) (v := 12) O dX10_odds_70 (C_72)
  have B_0 := zr_aload_n (X := X) (Y := Y) (u := 0) (v := 0) O dX10_odds_0 rfl (zr_iload_n O dX10_odds_1 rfl (zr_aload_n O dX10_odds_2 rfl (zr_gR (ci := 9) (j := 0) (off := 0) (t := 16) (n := 0) O zc_9 (by decide) rfl tw_287 dX10_odds_3 (zr_gS (ci := 6) (j := 0) (off := 1) (t := 15) (n := 0) O zc_6 (by decide) rfl tw_172 dX10_odds_6 (zr_gI (ci := 5) (j := 4) O zc_5 (by decide) rfl tw_55 dX10_odds_9 (zr_xV (u' := 1) (v' := 6) (ci := 9) (n := 2) O Ex m_X10_needCounted (bn_X10_needCounted { frames := 0, cells := 0, slots := 0, locals := 0 } ⟨rfl, rfl⟩) vw_X10_needCounted tw_709 rc_X10_needCounted (zrx hR rfl rfl rfl rfl) (Nat.le_of_ble_eq_true rfl) (Nat.le_of_ble_eq_true rfl) (Nat.le_of_ble_eq_true rfl) (Nat.le_of_ble_eq_true rfl) dX10_odds_12 (zr_aload_n O dX10_odds_15 rfl (zr_iload_n O dX10_odds_16 rfl (zr_xV (u' := 2) (v' := 12) (ci := 9) (n := 1) O Ex m_X10_needHeat (bn_X10_needHeat { frames := 0, cells := 0, slots := 0, locals := 0 } ⟨rfl, rfl⟩) vw_X10_needHeat tw_900 rc_X10_needHeat (zrx hR rfl rfl rfl rfl) (Nat.le_of_ble_eq_true rfl) (Nat.le_of_ble_eq_true rfl) (Nat.le_of_ble_eq_true rfl) (Nat.le_of_ble_eq_true rfl) dX10_odds_17 (zr_aload_n O dX10_odds_20 rfl (zr_gR (ci := 9) (j := 0) (off := 0) (t := 16) (n := 0) O zc_9 (by decide) rfl tw_287 dX10_odds_21 (zr_gS (ci := 6) (j := 0) (off := 1) (t := 15) (n := 0) O zc_6 (by decide) rfl tw_172 dX10_odds_24 (zr_iload_n O dX10_odds_27 rfl (zr_cI (zr_cV (ci := 5) (n := 1) O m_X6_drawsOf (bn_X6_drawsOf _ ⟨rfl, rfl⟩) vw_X6_drawsOf tw_961 rc_X6_drawsOf (zrx hR rfl rfl rfl rfl) dX10_odds_28 (zr_istore O dX10_odds_31 (zr_aload_n O dX10_odds_33 rfl (zr_gR (ci := 9) (j := 0) (off := 0) (t := 16) (n := 0) O zc_9 (by decide) rfl tw_287 dX10_odds_34 (zr_gS (ci := 6) (j := 0) (off := 1) (t := 15) (n := 0) O zc_6 (by decide) rfl tw_172 dX10_odds_37 (zr_iload_n O dX10_odds_40 rfl (zr_iload_n O dX10_odds_41 rfl (zr_cI (zr_cV (ci := 5) (n := 2) O m_X6_drawsWithOne (bn_X6_drawsWithOne _ ⟨rfl, rfl⟩) vw_X6_drawsWithOne tw_965 rc_X6_drawsWithOne (zrx hR rfl rfl rfl rfl) dX10_odds_42 (zr_istore O dX10_odds_45 (zr_aload_n O dX10_odds_47 rfl (zr_gR (ci := 9) (j := 0) (off := 0) (t := 16) (n := 0) O zc_9 (by decide) rfl tw_287 dX10_odds_48 (zr_gS (ci := 6) (j := 0) (off := 1) (t := 15) (n := 0) O zc_6 (by decide) rfl tw_172 dX10_odds_51 (zr_iload_n O dX10_odds_54 rfl (zr_cI (zr_cV (ci := 5) (n := 1) O m_X6_bitOf (bn_X6_bitOf _ ⟨rfl, rfl⟩) vw_X6_bitOf tw_418 rc_X6_bitOf (zrx hR rfl rfl rfl rfl) dX10_odds_55 (zr_iconst (x := 1) O dX10_odds_58 rfl (zr_icne (tgt := 70) O dX10_odds_59 rfl B_70 (zr_iload O dX10_odds_62 (zr_iload O dX10_odds_64 (zr_isub O dX10_odds_66 (zr_goto (tgt := 72) O dX10_odds_67 rfl C_72))))))))))))))))))))))))))))))))))))
  refine ⟨rfl, Nat.le_of_ble_eq_true rfl, _, B_0, ?_⟩
  refine ⟨(x, i, nI (dP S)), by rw [hS.2.1.1]; rfl, trivial, fun E h' hd => Or.inl hd, fun r h1 hq => ?_⟩
  obtain ⟨rfl, eh, g1⟩ := hq
  obtain rfl := eh.symm
  have g1 : gC i (dP S) := g1
  refine ⟨(x, te), rfl, trivial, fun E h' hd => Or.inr ⟨g1, hd.1, hd.2⟩, fun r h2 hq => ?_⟩
  obtain ⟨rfl, eh, g2⟩ := hq
  obtain rfl := eh.symm
  have g2 : gR te (-40) 125 := g2
  obtain ⟨p, rfl, hp, ep⟩ := cntx (by omega) g1
  obtain ⟨⟨-, f2⟩, -, f4⟩ := hS.2.2.2.1 p hp
  have ht := okH_of g2
  obtain ⟨za, za2, -⟩ := zN_e hv f2
  obtain ⟨zb, zb2, -⟩ := zN_e hv f4
  have hal := al_b hv f2 f4
  have eal : (2 * dZ S (dF S p) + 1) * (2 * dZ S (dS S p) + 1) = nI (alN S p) := by
    rw [za, zb, show (2 : Int32) = nI 2 from rfl, nI_mul, nI_mul, nI_1, nI_1, nI_mul]; rfl
  have eon : dw1 S p te (2 * zN S (dF S p) + 1) = nI (onN S p te) := dw1_e hv f2 f4 ht _ (Nat.le_refl _)
  have hon := on_le (S := S) (p := p) (te := te)
  refine ⟨(S, h.2.2 x 0 + 1, p), rfl, ⟨hS, hp⟩, (S, h.2.2 x 0 + 1, p, te), rfl, ⟨hS, hp, hv, ht⟩, (S, h.2.2 x 0 + 1, p), rfl, ⟨hS, hp⟩, fun c => ⟨p, rfl, hp, g2, ?_, ?_, rfl⟩, fun c => ⟨p, rfl, hp, g2, ?_, ?_, rfl⟩⟩
  · show [_, _, _, _, some (vI ((2 * dZ S (dF S p) + 1) * (2 * dZ S (dS S p) + 1))), some (vI (dw1 S p te (2 * zN S (dF S p) + 1))), _, _] = _
    rw [eal, eon]
  · replace c : ¬ pb S p = 1 := c
    show [vI (dw1 S p te (2 * zN S (dF S p) + 1))] = _
    rw [eon, otN, if_neg c]
  · show [_, _, _, _, some (vI ((2 * dZ S (dF S p) + 1) * (2 * dZ S (dS S p) + 1))), some (vI (dw1 S p te (2 * zN S (dF S p) + 1))), _, _] = _
    rw [eal, eon]
  · replace c : pb S p = 1 := c
    show [vI ((2 * dZ S (dF S p) + 1) * (2 * dZ S (dS S p) + 1) - dw1 S p te (2 * zN S (dF S p) + 1))] = _
    rw [eal, eon, nI_sub hon, otN, if_pos c]

