theorem dX11_sure_24 : decode cX11_sure 24 = .ok (.iload_n 3, 1) := by decide +kernel
theorem dX11_sure_25 : decode cX11_sure 25 = .ok (.ireturn, 1) := by decide +kernel
theorem dX11_sure_8 : decode cX11_sure 8 = .ok (.lconst 1, 1) := by decide +kernel
theorem dX11_sure_9 : decode cX11_sure 9 = .ok (.iload_n 3, 1) := by decide +kernel
theorem dX11_sure_10 : decode cX11_sure 10 = .ok (.iconst 1, 1) := by decide +kernel
theorem dX11_sure_11 : decode cX11_sure 11 = .ok (.iadd, 1) := by decide +kernel
theorem dX11_sure_12 : decode cX11_sure 12 = .ok (.lshl, 1) := by decide +kernel
theorem dX11_sure_13 : decode cX11_sure 13 = .ok (.lload_n 1, 1) := by decide +kernel
theorem dX11_sure_14 : decode cX11_sure 14 = .ok (.lcmp, 1) := by decide +kernel
theorem dX11_sure_15 : decode cX11_sure 15 = .ok (.ifCond .gt 9, 3) := by decide +kernel
theorem dX11_sure_18 : decode cX11_sure 18 = .ok (.iinc 3 1, 3) := by decide +kernel
theorem dX11_sure_21 : decode cX11_sure 21 = .ok (.goto (-13), 3) := by decide +kernel
theorem dX11_sure_0 : decode cX11_sure 0 = .ok (.aload_n 0, 1) := by decide +kernel
theorem dX11_sure_1 : decode cX11_sure 1 = .ok (.iconst 2, 1) := by decide +kernel
theorem dX11_sure_2 : decode cX11_sure 2 = .ok (.invokevirtual 362, 3) := by decide +kernel
theorem dX11_sure_5 : decode cX11_sure 5 = .ok (.lstore_n 1, 1) := by decide +kernel
theorem dX11_sure_6 : decode cX11_sure 6 = .ok (.iconst 0, 1) := by decide +kernel
theorem dX11_sure_7 : decode cX11_sure 7 = .ok (.istore_n 3, 1) := by decide +kernel
/-! the reference: sure bits; the ways stay small -/
def tri : Nat → Nat
  | 0 => 0
  | n + 1 => (n + 1) + tri n
theorem tri_mono : ∀ {a b : Nat}, a ≤ b → tri a ≤ tri b
  | 0, _, _ => Nat.zero_le _
  | a + 1, 0, h => absurd h (Nat.not_succ_le_zero _)
  | a + 1, b + 1, h => by
    have := tri_mono (a := a) (b := b) (by omega)
    rw [tri, tri]
    omega
/-- the place of a part among the parts of a set -/
def xtp (q : Nat) : Nat → Nat → Nat
  | 0, _ => 0
  | l + 1, p => (if p.testBit l then 2 ^ fb_ct (fun i => q.testBit i) l else 0) + xtp q l p
theorem sub_bit {q p : Nat} (h : p &&& q = p) {i : Nat} (hp : p.testBit i = true) : q.testBit i = true := by
  rw [← h, Nat.testBit_and, Bool.and_eq_true] at hp
  exact hp.2
theorem xtp_lt {q p : Nat} (h : p &&& q = p) : ∀ l, xtp q l p < 2 ^ fb_ct (fun i => q.testBit i) l
  | 0 => by show (0 : Nat) < 2 ^ 0; decide
  | l + 1 => by
    have ih := xtp_lt h l
    rw [xtp, fb_ct_succ]
    cases hp : p.testBit l with
    | true =>
      rw [sub_bit h hp, if_pos rfl, if_pos rfl, Nat.pow_succ]
      omega
    | false =>
      have h2 : 2 ^ fb_ct (fun i => q.testBit i) l ≤ 2 ^ (fb_ct (fun i => q.testBit i) l + if q.testBit l then 1 else 0) := Nat.pow_le_pow_right (by decide) (Nat.le_add_right _ _)
      rw [if_neg (by decide)]
      omega
theorem xtp_mono {q p w : Nat} (h1 : p &&& q = p) (h2 : w &&& q = w) : ∀ l, p % 2 ^ l < w % 2 ^ l → xtp q l p < xtp q l w
  | 0, h => by rw [Nat.pow_zero, Nat.mod_one, Nat.mod_one] at h; omega
  | l + 1, h => by
    have ih := xtp_mono h1 h2 l
    have b1 : p % 2 ^ l < 2 ^ l := Nat.mod_lt _ (Nat.two_pow_pos l)
    have b2 : w % 2 ^ l < 2 ^ l := Nat.mod_lt _ (Nat.two_pow_pos l)
    have l1 := xtp_lt h1 l
    have e1 : p / 2 ^ l % 2 = (p.testBit l).toNat := (Nat.toNat_testBit p l).symm
    have e2 : w / 2 ^ l % 2 = (w.testBit l).toNat := (Nat.toNat_testBit w l).symm
    rw [Nat.mod_pow_succ, Nat.mod_pow_succ, e1, e2] at h
    rw [xtp, xtp]
    cases hp : p.testBit l <;> cases hw : w.testBit l <;> rw [hp, hw] at h
    · have := ih (by simpa using h)
      simpa using this
    · simp only [Bool.false_eq_true, if_false, if_true]
      omega
    · simp only [Bool.toNat_true, Bool.toNat_false, Nat.mul_one, Nat.mul_zero] at h
      omega
    · have := ih (by simpa using h)
      simpa using this
theorem negL {x : Int64} (h : -9223372036854775808 < x.toInt) : (-x).toInt = -x.toInt := by
  have := fb_rngL x
  rw [Int64.toInt_neg]
  exact fb_bmodL (by omega) (by omega)
theorem swT_b {B : Nat → Nat} {F : Nat → Int64} {q p : Nat} {M : Nat} (hM : M < 2 ^ 62) (h : -(M : Int) ≤ (F (q ^^^ p)).toInt ∧ (F (q ^^^ p)).toInt ≤ M) : -(M : Int) ≤ (swT B F q p).toInt ∧ (swT B F q p).toInt ≤ M := by
  by_cases hi : ind B p = true
  · by_cases hp : pop p % 2 = 1
    · rw [swT_1 hi hp]; exact h
    · rw [swT_m hi hp, negL (by omega)]; omega
  · rw [swT_0 hi]
    have : (0 : Int64).toInt = 0 := by decide
    rw [this]; omega
theorem sW_b {B : Nat → Nat} {F : Nat → Int64} {q M : Nat} (hq : q < 2 ^ 10) (hM : M < 2 ^ 62) (hF : ∀ p, p &&& q = p → p ≠ 0 → -(M : Int) ≤ (F (q ^^^ p)).toInt ∧ (F (q ^^^ p)).toInt ≤ M) : ∀ (n p : Nat) (x : Int64) (X : Nat), p ≤ n → p &&& q = p → X + xtp q 10 p * M < 2 ^ 62 → -(X : Int) ≤ x.toInt → x.toInt ≤ X → -((X + xtp q 10 p * M : Nat) : Int) ≤ (sW B F q p x).toInt ∧ (sW B F q p x).toInt ≤ ((X + xtp q 10 p * M : Nat) : Int)
  | n, p, x, X, hn, hs, hb, x1, x2 => by
    by_cases hp : p = 0
    · rw [hp, sW_0]
      omega
    · have h1 : (p - 1) &&& q ≤ p - 1 := Nat.and_le_left
      have hs2 : ((p - 1) &&& q) &&& q = (p - 1) &&& q := by rw [Nat.and_assoc, Nat.and_self]
      have hpq : p ≤ q := by
        have : p &&& q ≤ q := Nat.and_le_right
        rw [hs] at this
        exact this
      have hx : xtp q 10 ((p - 1) &&& q) < xtp q 10 p := xtp_mono hs2 hs 10 (by rw [Nat.mod_eq_of_lt (by omega), Nat.mod_eq_of_lt (by omega)]; omega)
      have hmul : (xtp q 10 ((p - 1) &&& q) + 1) * M ≤ xtp q 10 p * M := Nat.mul_le_mul_right M hx
      rw [Nat.succ_mul] at hmul
      obtain ⟨t1, t2⟩ := swT_b (B := B) hM (hF p hs hp)
      have e : (x + swT B F q p).toInt = x.toInt + (swT B F q p).toInt := fb_addL (by omega) (by omega)
      rw [sW_s _ _ _ _ hp]
      cases n with
      | zero => omega
      | succ n =>
        have ih := sW_b (B := B) hq hM hF n ((p - 1) &&& q) (x + swT B F q p) (X + M) (by omega) hs2 (by omega) (by rw [e]; omega) (by rw [e]; omega)
        omega
theorem ct_two {f g k : Nat → Bool} (h : ∀ i, (if f i then 1 else 0) + (if g i then 1 else 0) = if k i then (1 : Nat) else 0) : ∀ n, fb_ct f n + fb_ct g n = fb_ct k n
  | 0 => rfl
  | n + 1 => by
    have ih := ct_two h n
    have := h n
    rw [fb_ct_succ, fb_ct_succ, fb_ct_succ]
    omega
theorem pop_xor {q p : Nat} (hq : q < 2 ^ 10) (hs : p &&& q = p) (hp : p ≠ 0) : pop (q ^^^ p) + 1 ≤ pop q := by
  have hpq : p ≤ q := by
    have : p &&& q ≤ q := Nat.and_le_right
    rw [hs] at this
    exact this
  have h1 : pop (q ^^^ p) + pop p = pop q := by
    refine ct_two (fun i => ?_) 32
    have hb : (p.testBit i && q.testBit i) = p.testBit i := by rw [← Nat.testBit_and, hs]
    show (if (q ^^^ p).testBit i then 1 else 0) + (if p.testBit i then 1 else 0) = if q.testBit i then 1 else 0
    rw [Nat.testBit_xor]
    revert hb
    cases p.testBit i <;> cases q.testBit i <;> decide
  have h2 := pop_low1 (s := p) (by omega) hp
  omega
theorem pop_10 {q : Nat} (hq : q < 2 ^ 10) : pop q = fb_ct (fun i => q.testBit i) 10 ∧ pop q ≤ 10 := by
  have h := pop_low hq (by decide : 10 ≤ 32)
  rw [h]
  exact ⟨rfl, fb_ct_le _ _⟩
theorem wyT_b (B : Nat → Nat) : ∀ q, q < 2 ^ 10 → ∀ j, j ≤ q → -((2 ^ tri (pop j) : Nat) : Int) ≤ (wyT B q j).toInt ∧ (wyT B q j).toInt ≤ ((2 ^ tri (pop j) : Nat) : Int)
  | 0, _, j, hj => by
    have : j = 0 := by omega
    rw [this, pop_0]
    show -((2 ^ tri 0 : Nat) : Int) ≤ (1 : Int64).toInt ∧ (1 : Int64).toInt ≤ ((2 ^ tri 0 : Nat) : Int)
    decide
  | q + 1, hq, j, hj => by
    have ih := wyT_b B q (by omega)
    rw [wyT]
    by_cases e : j = q + 1
    · rw [e, zup_s]
      obtain ⟨p1, p2⟩ := pop_10 hq
      have hl := xtp_lt (q := q + 1) (p := q + 1) (Nat.and_self _) 10
      rw [← p1] at hl
      have hp1 : 1 ≤ pop (q + 1) := by
        have := pop_low1 (s := q + 1) (by omega) (Nat.succ_ne_zero q)
        omega
      obtain ⟨n, hn⟩ : ∃ n, pop (q + 1) = n + 1 := ⟨pop (q + 1) - 1, by omega⟩
      have ht : tri (pop (q + 1)) = pop (q + 1) + tri n := by rw [hn, tri]
      have hle : 2 ^ tri (pop (q + 1)) ≤ 2 ^ 55 := Nat.pow_le_pow_right (by decide) (Nat.le_trans (tri_mono p2) (by decide))
      have hMn : 2 ^ tri n ≤ 2 ^ tri (pop (q + 1)) := Nat.pow_le_pow_right (by decide) (by omega)
      have hprod : xtp (q + 1) 10 (q + 1) * 2 ^ tri n ≤ 2 ^ tri (pop (q + 1)) := by
        rw [ht, Nat.pow_add]
        exact Nat.mul_le_mul_right _ (by omega)
      have h55 : (2 : Nat) ^ 55 < 2 ^ 62 := Nat.pow_lt_pow_right (by decide) (by decide)
      have z0 : (0 : Int64).toInt = 0 := by decide
      have key := sW_b (B := B) (F := wyT B q) (q := q + 1) (M := 2 ^ tri n) hq (by omega) (fun p hs hp => ?_) (q + 1) (q + 1) 0 0 (Nat.le_refl _) (Nat.and_self _) (by omega) (by rw [z0]; exact Int.le_refl _) (by rw [z0]; exact Int.le_refl _)
      · rw [Nat.zero_add] at key
        omega
      · have lx := xor_sub hs hp
        have lp := pop_xor hq hs hp
        obtain ⟨a1, a2⟩ := ih ((q + 1) ^^^ p) (by omega)
        have hm : 2 ^ tri (pop ((q + 1) ^^^ p)) ≤ 2 ^ tri n := Nat.pow_le_pow_right (by decide) (tri_mono (by omega))
        omega
    · rw [zup_n _ _ e]
      exact ih j (by omega)
theorem wys_b (S : zD) (m : Nat) (hN : dN S ≤ 10) : (wys S m).toInt < 2 ^ 61 := by
  have hp : 2 ^ dN S ≤ 2 ^ 10 := Nat.pow_le_pow_right (by decide) hN
  have hp0 : 0 < 2 ^ dN S := Nat.two_pow_pos _
  have h := (wyT_b (lnk S m (dP S)) (2 ^ dN S - 1) (by omega) (2 ^ dN S - 1) (Nat.le_refl _)).2
  have hle : 2 ^ tri (pop (2 ^ dN S - 1)) ≤ 2 ^ 55 := Nat.pow_le_pow_right (by decide) (Nat.le_trans (tri_mono (pop_10 (by omega)).2) (by decide))
  rw [wys]
  omega
theorem sh_1 : ∀ n : Nat, n < 62 → (1 : Int64) <<< ((nI n + 1).toInt64 &&& 63) = (2 : Int64) <<< ((nI n).toInt64 &&& 63) := by decide +kernel
def ca_X11_sure : (zD × zE × Nat) → List zV := fun (S, K, y) => [vR 20 0 y]
def cp_X11_sure : (zD × zE × Nat) → zH → Prop := fun (S, K, y) h => rmS S h y ∧ rmE K (h.1 (y + 2)) ∧ vS S ∧ ∀ i, i < eN K → eP K i < dP S
def cq_X11_sure : (zD × zE × Nat) → zH → Option zV → zH → Prop := fun (S, K, y) h r h' => r = some (vI (nI (sur (wys S (psN K (eN K)))))) ∧ fm y h h'
theorem rc_X11_sure : ∀ x : (zD × zE × Nat), ∃ (j a : Nat) (As : List zV), ca_X11_sure x = vR (10 + 10) j a :: As := by
  rintro ⟨S, K, y⟩
  exact ⟨_, _, _, rfl⟩
set_option maxHeartbeats 4000000 in
set_option maxRecDepth 100000 in
theorem m_X11_sure : zM yX11_sure cX11_sure 4 (some .int) ({ frames := 9, cells := 0, slots := 0, locals := 201 } : Room) ((ca_X11_sure, cp_X11_sure, cq_X11_sure) : zC (zD × zE × Nat)) := by
  refine zM_of (by decide) ?_
  rintro X Y ⟨S, K, y⟩ h ⟨hS, hE, hv, hP⟩ O E hR
  have hS : rmS S h y := hS
  have hE : rmE K (h.1 (y + 2)) := hE
  have hv : vS S := hv
  have hP : ∀ i, i < eN K → eP K i < dP S := hP
  obtain ⟨v, ev⟩ : ∃ v : Int64, v = wys S (psN K (eN K)) := ⟨_, rfl⟩
  have hb61 : v.toInt < 2 ^ 61 := by rw [ev]; exact wys_b S _ hS.1.2
  have B_24 := zr_iload_n (X := X) (Y := Y) (u := 0) (v := 0) O dX11_sure_24 rfl (zr_ireturn O E (Nat.le_refl _) (Nat.le_refl _) dX11_sure_25)
  have L_8 : ∀ nn : Nat, zSd X Y 0 0 8 ((fun d ls st h1 => ∃ (n : Nat) (z : Int32), d = 62 - n ∧ n ≤ 60 ∧ ls = [some (vR 20 0 y), some (vL v), none, some (vI z)] ∧ z = nI n ∧ st = [] ∧ fm y h h1 ∧ ∀ j, j < n → decide (v < (2 : Int64) <<< ((nI j).toInt64 &&& 63)) = false : Nat → zT) nn) := by
    refine zSd_loop (fun nn ih => ?_)
    have B_8 := zr_lconst (X := X) (Y := Y) (u := 0) (v := 0) (x := 1) O dX11_sure_8 rfl (zr_iload_n O dX11_sure_9 rfl (zr_iconst (x := 1) O dX11_sure_10 rfl (zr_iadd O dX11_sure_11 (zr_lshl O dX11_sure_12 (zr_lload_n O dX11_sure_13 rfl (zr_lcmp O dX11_sure_14 (zr_ifgt (tgt := 24) O dX11_sure_15 rfl B_24 (zr_iinc (c := 1) O dX11_sure_18 rfl (zr_goto (tgt := 8) O dX11_sure_21 rfl ih)))))))))
    refine zSd_weak B_8 (fun ls st h1 t => ?_)
    obtain ⟨n, z, rfl, hn, rfl, rfl, rfl, f1, hb⟩ := t
    have es := sh_1 n (by omega)
    refine ⟨fun c => ⟨zri ?_, f1⟩, fun c => ?_⟩
    · have hz := (lg_cmp_gt _ _).mp c
      rw [es] at hz
      have ef : sur v = n := first_at (by omega) (decide_eq_true hz) hb
      rw [← ev, ef]
    · have hz : ¬ v < (1 : Int64) <<< ((nI n + 1).toInt64 &&& 63) := fun z => c ((lg_cmp_gt _ _).mpr z)
      rw [es] at hz
      have hn2 : n < 60 := by
        rcases Nat.lt_or_ge n 60 with q | q
        · exact q
        · have : n = 60 := by omega
          subst this
          exfalso
          apply hz
          rw [fa_lt64]
          have : ((2 : Int64) <<< ((nI 60).toInt64 &&& 63)).toInt = 2 ^ 61 := by decide +kernel
          rw [this]
          exact hb61
      refine ⟨62 - (n + 1), by omega, n + 1, _, rfl, by omega, rfl, nI_1 n, rfl, f1, fun j hj => ?_⟩
      by_cases e : j = n
      · rw [e]; exact decide_eq_false hz
      · exact hb j (by omega)
  have B_8 := zSd_any L_8
  have B_0 := zr_aload_n (X := X) (Y := Y) (u := 0) (v := 0) O dX11_sure_0 rfl (zr_iconst (x := 2) O dX11_sure_1 rfl (zr_cV (ci := 10) (n := 1) O m_X11_waysBy (bn_X11_waysBy _ ⟨rfl, rfl⟩) vw_X11_waysBy tw_1641 rc_X11_waysBy (zrm hR rfl rfl) dX11_sure_2 (zr_lstore_n O dX11_sure_5 rfl (zr_iconst (x := 0) O dX11_sure_6 rfl (zr_istore_n O dX11_sure_7 rfl (B_8))))))
  refine ⟨rfl, Nat.le_of_ble_eq_true rfl, _, B_0, ?_⟩
  refine ⟨(S, K, y, 2), rfl, ⟨hS, hE, hv, Nat.le_refl _, hP⟩, fun r h1 hq => ?_⟩
  obtain ⟨rfl, f1⟩ := hq
  replace f1 : fm y h h1 := f1
  refine ⟨62 - 0, 0, _, rfl, Nat.zero_le _, ?_, rfl, rfl, f1, fun j hj => absurd hj (Nat.not_lt_zero _)⟩
  rw [ev]; rfl

