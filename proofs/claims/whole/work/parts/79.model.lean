/-! secrets left: the pruned search counts what one by one counts -/
def acE (E : Nat → Nat → Prop) : Prop := ∃ Q : Nat → Nat → Prop, (∀ i j, E i j → Q i j) ∧ (∀ i m j, Q i m → Q m j → Q i j) ∧ ∀ i, ¬ Q i i
def acy (B : Nat → Nat) : Prop := ∀ i, ¬ (B i).testBit i = true
theorem acE_clo {E : Nat → Nat → Prop} {B : Nat → Nat} (h : clo E B) : acE E ↔ acy B := by
  constructor
  · rintro ⟨Q, q1, q2, q3⟩ i hi
    exact q3 i (h.2.2 Q q1 q2 i i hi)
  · intro hB
    exact ⟨fun i j => (B i).testBit j = true, h.1, h.2.1, hB⟩
theorem acE_mono {E F : Nat → Nat → Prop} (h : ∀ i j, E i j → F i j) (hF : acE F) : acE E := by
  obtain ⟨Q, q1, q2, q3⟩ := hF
  exact ⟨Q, fun i j z => q1 i j (h i j z), q2, q3⟩
theorem clo_cg {E F : Nat → Nat → Prop} {B : Nat → Nat} (h : ∀ i j, E i j ↔ F i j) (hB : clo E B) : clo F B := by
  have : E = F := funext (fun i => funext (fun j => propext (h i j)))
  rw [← this]; exact hB
theorem acE_cg {E F : Nat → Nat → Prop} (h : ∀ i j, E i j ↔ F i j) : acE E ↔ acE F := ⟨acE_mono (fun i j z => (h i j).mpr z), acE_mono (fun i j z => (h i j).mp z)⟩
theorem acy_put {E : Nat → Nat → Prop} {B : Nat → Nat} {f b : Nat} (h : clo E B) (ha : acy B) (hne : f ≠ b) (hr : ¬ (B b).testBit f = true) : acy (oput B f b) := by
  intro i hi
  by_cases c : (B f).testBit b = true
  · have e : oput B f b = B := by unfold oput; rw [if_pos c]
    rw [e] at hi
    exact ha i hi
  · rw [oput_b c] at hi
    rcases hi with z | ⟨z, w⟩
    · exact ha i z
    · rcases z with z | z
      · rcases w with w | w
        · exact hr (z ▸ w)
        · exact hne (z.symm.trans w)
      · rcases w with w | w
        · exact hr (h.2.1 b i f w z)
        · exact hr (w ▸ z)
theorem no_ac {E F : Nat → Nat → Prop} {B : Nat → Nat} {f b : Nat} (h : clo E B) (hr : (B b).testBit f = true) (h1 : ∀ i j, E i j → F i j) (h2 : F f b) : ¬ acE F := by
  rintro ⟨Q, q1, q2, q3⟩
  have := h.2.2 Q (fun i j z => q1 i j (h1 i j z)) q2 b f hr
  exact q3 b (q2 b f b this (q1 f b h2))
/-- the edge of a pair by a bit -/
def eSrc (S : zD) (p : Nat) (w : Bool) : Nat := if w then dF S p else dS S p
def eDst (S : zD) (p : Nat) (w : Bool) : Nat := if w then dS S p else dF S p
/-- the edges of the first places of a block, for some data -/
def bEk (S : zD) (K : zE) (b x n : Nat) : Nat → Nat → Prop := fun i j => ∃ k, k < n ∧ i = eSrc S (eP K (b * lnR (eR K) + k)) ((pbW K b x).testBit k) ∧ j = eDst S (eP K (b * lnR (eR K) + k)) ((pbW K b x).testBit k)
theorem otl_no {E : Nat → Nat → Prop} {B : Nat → Nat} (h : clo E B) (ha : acy B) (a b : Nat) (w : Bool) : otl B a b = 1 - bI w ↔ (B (if w then b else a)).testBit (if w then a else b) = true := by
  have hx : ¬ ((B a).testBit b = true ∧ (B b).testBit a = true) := fun z => ha a (h.2.1 a b a z.1 z.2)
  unfold otl
  cases w <;> cases h1 : (B a).testBit b <;> cases h2 : (B b).testBit a <;> simp [h1, h2, bI] at hx ⊢ <;> decide
theorem pbk_ok {S : zD} {K : zE} {b x : Nat} {B : Nat → Nat} {E : Nat → Nat → Prop} (hne : ∀ p, p < dP S → dF S p ≠ dS S p) (hP : ∀ i, i < eN K → eP K i < dP S) (hb : b * lnR (eR K) + lnR (eR K) ≤ eN K) (h : clo E B) (ha : acy B) : ∀ n, n ≤ lnR (eR K) → (∃ C, pbk S K b x B n = some C ∧ clo (fun i j => E i j ∨ bEk S K b x n i j) C ∧ acy C) ∨ (pbk S K b x B n = none ∧ ¬ acE (fun i j => E i j ∨ bEk S K b x n i j))
  | 0, _ => Or.inl ⟨B, rfl, clo_cg (fun i j => ⟨Or.inl, fun z => z.elim id (fun ⟨k, hk, _⟩ => absurd hk (Nat.not_lt_zero _))⟩) h, ha⟩
  | n + 1, hn => by
    have hsub : ∀ i j, (E i j ∨ bEk S K b x n i j) → (E i j ∨ bEk S K b x (n + 1) i j) := fun i j z => z.imp id (fun ⟨k, hk, e⟩ => ⟨k, by omega, e⟩)
    have hnew : bEk S K b x (n + 1) (eSrc S (eP K (b * lnR (eR K) + n)) ((pbW K b x).testBit n)) (eDst S (eP K (b * lnR (eR K) + n)) ((pbW K b x).testBit n)) := ⟨n, Nat.lt_succ_self n, rfl, rfl⟩
    have hpp := hne _ (hP (b * lnR (eR K) + n) (by omega))
    rcases pbk_ok hne hP hb h ha n (by omega) with ⟨C, c1, c2, c3⟩ | ⟨c1, c2⟩
    · have ho := otl_no c2 c3 (dF S (eP K (b * lnR (eR K) + n))) (dS S (eP K (b * lnR (eR K) + n))) ((pbW K b x).testBit n)
      by_cases c : otl C (dF S (eP K (b * lnR (eR K) + n))) (dS S (eP K (b * lnR (eR K) + n))) = 1 - bI ((pbW K b x).testBit n)
      · refine Or.inr ⟨?_, ?_⟩
        · rw [pbk, c1]
          show (if _ then _ else _) = _
          rw [if_pos c]
        · exact no_ac (f := eSrc S (eP K (b * lnR (eR K) + n)) ((pbW K b x).testBit n)) (b := eDst S (eP K (b * lnR (eR K) + n)) ((pbW K b x).testBit n)) c2 (ho.mp c) hsub (Or.inr hnew)
      · refine Or.inl ⟨oputP S C (eP K (b * lnR (eR K) + n)) ((pbW K b x).testBit n), ?_, ?_, ?_⟩
        · rw [pbk, c1]
          show (if _ then _ else _) = _
          rw [if_neg c]
        · rw [oputP_e]
          refine clo_cg (fun i j => ?_) (clo_put _ _ c2)
          constructor
          · rintro (z | ⟨z1, z2⟩)
            · exact hsub i j z
            · rw [z1, z2]; exact Or.inr hnew
          · rintro (z | ⟨k, hk, e1, e2⟩)
            · exact Or.inl (Or.inl z)
            · by_cases e : k = n
              · subst e
                exact Or.inr ⟨e1, e2⟩
              · exact Or.inl (Or.inr ⟨k, by omega, e1, e2⟩)
        · rw [oputP_e]
          refine acy_put c2 c3 ?_ (fun z => c (ho.mpr z))
          cases (pbW K b x).testBit n with
          | true => exact hpp
          | false => exact fun z => hpp z.symm
    · refine Or.inr ⟨?_, fun z => c2 (acE_mono hsub z)⟩
      rw [pbk, c1]
/-- the edges of the blocks from one on, for the secret's bits from there -/
def fE (S : zD) (K : zE) : Nat → Nat → Nat → Nat → Nat → Prop
  | 0, _, _ => fun _ _ => False
  | f + 1, b, q => fun i j => bEk S K b (q % 2 ^ btR (eR K)) (lnR (eR K)) i j ∨ fE S K f (b + 1) (q / 2 ^ btR (eR K)) i j
theorem ckW_cg {c d e : Nat} : ∀ n, (∀ i, i < n → d.testBit i = e.testBit i) → ckW c d n = ckW c e n
  | 0, _ => rfl
  | n + 1, h => by rw [ckW, ckW, ckW_cg n (fun i hi => h i (by omega)), h n (Nat.lt_succ_self n)]
theorem ckW_split (c d m : Nat) : ∀ n, ckW c d (m + n) = ckW (ckW c d m) (d / 2 ^ m) n
  | 0 => rfl
  | n + 1 => by
    show ckS (ckW c d (m + n)) (d.testBit (m + n)) = ckS (ckW (ckW c d m) (d / 2 ^ m) n) ((d / 2 ^ m).testBit n)
    rw [ckW_split c d m n, Nat.testBit_div_two_pow, Nat.add_comm n m]
theorem ck_lin : ∀ c, c < 16 → ∀ n, n < 4 → ∀ x, x < 8 → (ckW c 0 n ^^^ ckW c x n) / 2 ^ n = 0 := by decide +kernel
theorem cb_no {c n w : Nat} (hc : c < 16) (h : cbN c n w = false) (x : Nat) : ¬ ckW c x n = w := by
  intro e
  unfold cbN at h
  rw [Bool.or_eq_false_iff, decide_eq_false_iff_not, decide_eq_false_iff_not] at h
  apply h.2
  have h8 : ckW c x n = ckW c (x % 8) n := ckW_cg n (fun i hi => by
    rw [show (8 : Nat) = 2 ^ 3 from rfl, Nat.testBit_mod_two_pow, decide_eq_true (by omega : i < 3), Bool.true_and])
  rw [← e, h8]
  exact ck_lin c hc n (by omega) (x % 8) (Nat.mod_lt _ (by decide))
theorem cfS_sm (g : Nat → Nat) : ∀ n, cfS g n = fb_sm g n
  | 0 => rfl
  | n + 1 => by rw [cfS, fb_sm_succ, cfS_sm g n]
theorem sm_swap (p : Nat → Nat → Bool) (l : Nat) : ∀ n, fb_sm (fun c => fb_ct (fun k => p c k) l) n = fb_sm (fun k => fb_ct (fun c => p c k) n) l
  | 0 => by
    show 0 = fb_sm (fun _ => 0) l
    rw [fb_sm_const]; rfl
  | n + 1 => by
    rw [fb_sm_succ, sm_swap p l n]
    have h : ∀ m, fb_sm (fun k => fb_ct (fun c => p c k) n) m + fb_ct (fun k => p n k) m = fb_sm (fun k => fb_ct (fun c => p c k) (n + 1)) m := by
      intro m
      induction m with
      | zero => rfl
      | succ m ih =>
        rw [fb_sm_succ, fb_sm_succ, fb_ct_succ, ← ih, fb_ct_succ]
        omega
    exact h l
theorem cfN_e {S : zD} {K : zE} (hr : vRp (eR K)) (hne : ∀ p, p < dP S → dF S p ≠ dS S p) (hP : ∀ i, i < eN K → eP K i < dP S) (hn : eN K = eK K * lnR (eR K)) : ∀ (f b : Nat) (B : Nat → Nat) (E : Nat → Nat → Prop) (ck : Nat) (pr : Nat → Bool), f + b = eK K → ck < 16 → clo E B → acy B → (∀ q, q < 2 ^ (f * btR (eR K)) → (pr q = true ↔ ckW ck q (f * btR (eR K)) = eC K ∧ acE (fun i j => E i j ∨ fE S K f b q i j))) → cfN S K f b B ck = fb_ct pr (2 ^ (f * btR (eR K)))
  | 0, b, B, E, ck, pr, _, _, hB, ha, hp => by
    have h0 := hp 0 (Nat.two_pow_pos _)
    have hE : acE (fun i j => E i j ∨ fE S K 0 b 0 i j) := (acE_cg (fun i j => ⟨Or.inl, fun z => z.elim id (fun w => w.elim)⟩)).mp ((acE_clo hB).mpr ha)
    have e1 : ckW ck 0 (0 * btR (eR K)) = ck := by rw [Nat.zero_mul]; rfl
    rw [e1] at h0
    rw [cfN, Nat.zero_mul, Nat.pow_zero, fb_ct_succ]
    show _ = 0 + _
    rw [Nat.zero_add]
    by_cases c : ck = eC K
    · rw [if_pos c, h0.mpr ⟨c, hE⟩]; rfl
    · rw [if_neg c]
      cases hz : pr 0 with
      | true => exact absurd (h0.mp hz).1 c
      | false => rfl
  | f + 1, b, B, E, ck, pr, hfb, hck, hB, ha, hp => by
    have hbl : b * lnR (eR K) + lnR (eR K) ≤ eN K := by rw [hn, ← Nat.succ_mul]; exact Nat.mul_le_mul_right _ (by omega)
    have e2 : 2 ^ ((f + 1) * btR (eR K)) = 2 ^ (f * btR (eR K)) * 2 ^ btR (eR K) := by rw [Nat.succ_mul, Nat.pow_add]
    have erem : eK K * btR (eR K) - (b + 1) * btR (eR K) = f * btR (eR K) := by
      rw [← hfb, ← Nat.sub_mul]
      congr 1
      omega
    rw [cfN_s, cfS_sm, e2, fb_ct_blk, sm_swap]
    refine fb_sm_cong (fun x hx => ?_)
    have hq : ∀ c, c < 2 ^ (f * btR (eR K)) → c * 2 ^ btR (eR K) + x < 2 ^ ((f + 1) * btR (eR K)) := by
      intro c hc
      rw [e2]
      have : (c + 1) * 2 ^ btR (eR K) ≤ 2 ^ (f * btR (eR K)) * 2 ^ btR (eR K) := Nat.mul_le_mul_right _ hc
      rw [Nat.succ_mul] at this
      omega
    have hmod : ∀ c, (c * 2 ^ btR (eR K) + x) % 2 ^ btR (eR K) = x := fun c => by
      rw [Nat.add_comm, Nat.add_mul_mod_self_right, Nat.mod_eq_of_lt hx]
    have hdiv : ∀ c, (c * 2 ^ btR (eR K) + x) / 2 ^ btR (eR K) = c := fun c => by
      rw [Nat.add_comm, Nat.add_mul_div_right _ _ (Nat.two_pow_pos _), Nat.div_eq_of_lt hx, Nat.zero_add]
    have hck2 : ∀ c, ckW ck (c * 2 ^ btR (eR K) + x) ((f + 1) * btR (eR K)) = ckW (ckW ck x (btR (eR K))) c (f * btR (eR K)) := by
      intro c
      rw [show (f + 1) * btR (eR K) = btR (eR K) + f * btR (eR K) by rw [Nat.succ_mul, Nat.add_comm], ckW_split, hdiv]
      congr 1
      refine ckW_cg _ (fun i hi => ?_)
      have h1 := Nat.testBit_mod_two_pow (c * 2 ^ btR (eR K) + x) (btR (eR K)) i
      rw [hmod, decide_eq_true hi, Bool.true_and] at h1
      exact h1.symm
    have hpx : ∀ c, c < 2 ^ (f * btR (eR K)) → (pr (c * 2 ^ btR (eR K) + x) = true ↔ ckW (ckW ck x (btR (eR K))) c (f * btR (eR K)) = eC K ∧ acE (fun i j => (E i j ∨ bEk S K b x (lnR (eR K)) i j) ∨ fE S K f (b + 1) c i j)) := by
      intro c hc
      rw [hp _ (hq c hc), hck2]
      refine and_congr Iff.rfl (acE_cg (fun i j => ?_))
      show (E i j ∨ (bEk S K b ((c * 2 ^ btR (eR K) + x) % 2 ^ btR (eR K)) (lnR (eR K)) i j ∨ fE S K f (b + 1) ((c * 2 ^ btR (eR K) + x) / 2 ^ btR (eR K)) i j)) ↔ _
      rw [hmod, hdiv, or_assoc]
    have none0 : (∀ c, c < 2 ^ (f * btR (eR K)) → ¬ pr (c * 2 ^ btR (eR K) + x) = true) → (0 : Nat) = fb_ct (fun c => pr (c * 2 ^ btR (eR K) + x)) (2 ^ (f * btR (eR K))) := fun hz => (fb_ct_zero.mpr (fun c hc => by
      cases hy : pr (c * 2 ^ btR (eR K) + x) with
      | true => exact absurd hy (hz c hc)
      | false => rfl)).symm
    have lck := ckW_lt hck x (btR (eR K))
    rw [cfG, erem]
    cases hcb : cbN (ckW ck x (btR (eR K))) (f * btR (eR K)) (eC K) with
    | false => exact none0 (fun c hc z => cb_no lck hcb c ((hpx c hc).mp z).1)
    | true =>
      rw [if_pos rfl]
      rcases pbk_ok (x := x) hne hP hbl hB ha (lnR (eR K)) (Nat.le_refl _) with ⟨C, c1, c2, c3⟩ | ⟨c1, c2⟩
      · rw [c1]
        exact cfN_e hr hne hP hn f (b + 1) C _ _ (fun c => pr (c * 2 ^ btR (eR K) + x)) (by omega) lck c2 c3 hpx
      · rw [c1]
        exact none0 (fun c hc z => c2 (acE_mono (fun i j w => Or.inl w) ((hpx c hc).mp z).2))
/-- a kept pair's bit, for a secret -/
def kbt (K : zE) (s n : Nat) : Bool := (eH K).testBit n ^^ (wdN (eR K) (sbk (eR K) s (n / lnR (eR K)))).testBit (n % lnR (eR K))
def mkp (S : zD) (K : zE) (s : Nat) : Nat → (Nat → Nat)
  | 0 => fun _ => 0
  | n + 1 => mpuP S (mkp S K s n) (eP K n) (kbt K s n)
def ekE (S : zD) (K : zE) (s n : Nat) : Nat → Nat → Prop := fun i j => ∃ k, k < n ∧ i = eSrc S (eP K k) (kbt K s k) ∧ j = eDst S (eP K k) (kbt K s k)
theorem edg_kp (S : zD) (K : zE) (s : Nat) : ∀ n, edg (ekE S K s n) (mkp S K s n)
  | 0 => fun i j => ⟨fun z => absurd z (z0b j), fun ⟨k, hk, _⟩ => absurd hk (Nat.not_lt_zero _)⟩
  | n + 1 => by
    intro i j
    rw [mkp, mpuP_e, edg_put _ _ (edg_kp S K s n) i j]
    constructor
    · rintro (⟨k, hk, e⟩ | ⟨e1, e2⟩)
      · exact ⟨k, by omega, e⟩
      · exact ⟨n, Nat.lt_succ_self n, e1, e2⟩
    · rintro ⟨k, hk, e1, e2⟩
      by_cases e : k = n
      · subst e
        exact Or.inr ⟨e1, e2⟩
      · exact Or.inl ⟨k, by omega, e1, e2⟩
theorem sbk_0 (r s : Nat) : sbk r s 0 = s % 2 ^ btR r := by rw [sbk, Nat.zero_mul, Nat.pow_zero, Nat.div_one]
theorem sbk_1 (r s i : Nat) : sbk r s (i + 1) = sbk r (s / 2 ^ btR r) i := by rw [sbk, sbk, Nat.succ_mul, Nat.pow_add, Nat.mul_comm (2 ^ (i * btR r)), Nat.div_div_eq_div_mul]
theorem fE_i (S : zD) (K : zE) (i j : Nat) : ∀ f b q, fE S K f b q i j ↔ ∃ c, c < f ∧ bEk S K (b + c) (sbk (eR K) q c) (lnR (eR K)) i j
  | 0, b, q => ⟨fun z => z.elim, fun ⟨c, hc, _⟩ => absurd hc (Nat.not_lt_zero _)⟩
  | f + 1, b, q => by
    show (bEk S K b (q % 2 ^ btR (eR K)) (lnR (eR K)) i j ∨ fE S K f (b + 1) (q / 2 ^ btR (eR K)) i j) ↔ _
    rw [fE_i S K i j f (b + 1) (q / 2 ^ btR (eR K))]
    constructor
    · rintro (z | ⟨c, hc, z⟩)
      · exact ⟨0, by omega, by rw [sbk_0]; exact z⟩
      · exact ⟨c + 1, by omega, by rw [sbk_1, show b + (c + 1) = b + 1 + c by omega]; exact z⟩
    · rintro ⟨c, hc, z⟩
      cases c with
      | zero => rw [sbk_0] at z; exact Or.inl z
      | succ c => rw [sbk_1, show b + (c + 1) = b + 1 + c by omega] at z; exact Or.inr ⟨c, by omega, z⟩
theorem kb_at {K : zE} (hr : vRp (eR K)) (s b k : Nat) (hk : k < lnR (eR K)) : kbt K s (b * lnR (eR K) + k) = (pbW K b (sbk (eR K) s b)).testBit k := by
  have e1 : (b * lnR (eR K) + k) / lnR (eR K) = b := by rw [Nat.add_comm, Nat.add_mul_div_right _ _ (by omega), Nat.div_eq_of_lt hk, Nat.zero_add]
  have e2 : (b * lnR (eR K) + k) % lnR (eR K) = k := by rw [Nat.add_comm, Nat.add_mul_mod_self_right, Nat.mod_eq_of_lt hk]
  rw [kbt, e1, e2, pbW, Nat.testBit_xor, Nat.testBit_div_two_pow, Bool.xor_comm, Nat.add_comm k]
theorem ek_f {S : zD} {K : zE} (hr : vRp (eR K)) (s n i j : Nat) : ekE S K s (n * lnR (eR K)) i j ↔ fE S K n 0 s i j := by
  have hln := lnR_pos hr
  rw [fE_i]
  constructor
  · rintro ⟨k, hk, e1, e2⟩
    have hm := Nat.mod_lt k (by omega : 0 < lnR (eR K))
    have hd : k / lnR (eR K) < n := (Nat.div_lt_iff_lt_mul (by omega)).mpr hk
    have he : k / lnR (eR K) * lnR (eR K) + k % lnR (eR K) = k := by rw [Nat.mul_comm]; exact Nat.div_add_mod k _
    refine ⟨k / lnR (eR K), hd, k % lnR (eR K), hm, ?_⟩
    rw [Nat.zero_add, ← kb_at hr s _ _ hm, he]
    exact ⟨e1, e2⟩
  · rintro ⟨c, hc, k, hk, e1, e2⟩
    rw [Nat.zero_add] at e1 e2
    rw [← kb_at hr s c k hk] at e1 e2
    refine ⟨c * lnR (eR K) + k, ?_, e1, e2⟩
    have : (c + 1) * lnR (eR K) ≤ n * lnR (eR K) := Nat.mul_le_mul_right _ hc
    rw [Nat.succ_mul] at this
    omega
theorem ehr_or (S : zD) (M : zG) (E : Nat → Nat → Prop) (i j : Nat) : ∀ n, ehr S M E n i j ↔ E i j ∨ ehr S M (fun _ _ => False) n i j
  | 0 => ⟨Or.inl, fun z => z.elim id (fun w => w.elim)⟩
  | n + 1 => by
    show (ehr S M E n i j ∨ _) ↔ (E i j ∨ (ehr S M (fun _ _ => False) n i j ∨ _))
    rw [ehr_or S M E i j n, or_assoc]
theorem mrd_ac {E : Nat → Nat → Prop} {B : Nat → Nat} {N : Nat} (hE : ∀ i j, E i j → i < N ∧ j < N) (h : edg E B) : mrd N (mcl N B N) = false ↔ acE E := by
  have hc := clo_mcl hE h
  have hN := hc.2.2 (fun i j => i < N ∧ j < N) hE (fun i m j z1 z2 => ⟨z1.1, z2.2⟩)
  rw [acE_clo hc, mrd, decide_eq_false_iff_not]
  constructor
  · intro z i hi
    exact z (fb_ct_pos.mpr ⟨i, (hN i i hi).1, hi⟩)
  · intro z w
    obtain ⟨i, _, hi⟩ := fb_ct_pos.mp w
    exact z i hi
/-- the reference's count of secrets left -/
def lfp (S : zD) (K : zE) (M : zG) (hd : Bool) (s : Nat) : Bool := decide (ckW 0 s (eK K * btR (eR K)) = eC K) && !mrd (dN S) (mcl (dN S) (if hd then mhr S M (mkp S K s (eN K)) (gN M) else mkp S K s (eN K)) (dN S))
theorem lft_e {S : zD} {K : zE} {M : zG} (hN : dN S ≤ 10) (hv : vE K) (h0 : 0 < eN K) (hS : ∀ p, p < dP S → dF S p < dN S ∧ dS S p < dN S) (hne : ∀ p, p < dP S → dF S p ≠ dS S p) (hP : ∀ i, i < eN K → eP K i < dP S) (hG : ∀ i, i < gN M → gP M i < dP S) (hd : Bool) : fb_ct (lfp S K M hd) (2 ^ (eK K * btR (eR K))) = lft S K (if hd then lod S M (gN M) else fun _ => 0) := by
  obtain ⟨-, hr, hn, -⟩ := hv.2 h0
  obtain ⟨E0, hE0⟩ : ∃ E0 : Nat → Nat → Prop, E0 = (if hd then ehr S M (fun _ _ => False) (gN M) else fun _ _ => False) := ⟨_, rfl⟩
  have hr2 : ∀ i, i < gN M → dF S (gP M i) < dN S ∧ dS S (gP M i) < dN S := fun i hi => hS _ (hG i hi)
  have c0 : clo E0 (if hd then lod S M (gN M) else fun _ => 0) := by
    rw [hE0]
    cases hd with
    | true => exact clo_lod S M _
    | false => exact clo_0
  have l0 : ∀ i j, E0 i j → i < dN S ∧ j < dN S := by
    rw [hE0]
    cases hd with
    | true => exact ehr_lt (fun _ _ z => z.elim) _ hr2
    | false => exact fun _ _ z => z.elim
  have lk : ∀ s i j, ekE S K s (eN K) i j → i < dN S ∧ j < dN S := by
    rintro s i j ⟨k, hk, e1, e2⟩
    obtain ⟨a1, a2⟩ := hS _ (hP k hk)
    rw [e1, e2]
    unfold eSrc eDst
    cases kbt K s k with
    | true => exact ⟨a1, a2⟩
    | false => exact ⟨a2, a1⟩
  have key : ∀ s, lfp S K M hd s = true ↔ ckW 0 s (eK K * btR (eR K)) = eC K ∧ acE (fun i j => E0 i j ∨ fE S K (eK K) 0 s i j) := by
    intro s
    have hm : mrd (dN S) (mcl (dN S) (if hd then mhr S M (mkp S K s (eN K)) (gN M) else mkp S K s (eN K)) (dN S)) = false ↔ acE (fun i j => E0 i j ∨ fE S K (eK K) 0 s i j) := by
      have ef : ∀ i j, ekE S K s (eN K) i j ↔ fE S K (eK K) 0 s i j := fun i j => by rw [hn]; exact ek_f hr s _ i j
      rw [hE0]
      cases hd with
      | true =>
        rw [if_pos rfl, if_pos rfl, mrd_ac (ehr_lt (lk s) _ hr2) (edg_hr (edg_kp S K s _) _)]
        refine acE_cg (fun i j => ?_)
        rw [ehr_or, ef, or_comm]
      | false =>
        rw [if_neg (by decide), if_neg (by decide), mrd_ac (lk s) (edg_kp S K s _)]
        refine acE_cg (fun i j => ?_)
        rw [ef]
        exact ⟨Or.inr, fun z => z.elim (fun w => w.elim) id⟩
    rw [lfp, Bool.and_eq_true, decide_eq_true_iff, Bool.not_eq_true', hm]
  rw [lft]
  cases ho : obk (if hd then lod S M (gN M) else fun _ => 0) with
  | true =>
    rw [if_pos rfl]
    refine fb_ct_zero.mpr (fun s _ => ?_)
    cases hz : lfp S K M hd s with
    | false => rfl
    | true =>
      have h1 : acE E0 := acE_mono (fun i j w => Or.inl w) ((key s).mp hz).2
      obtain ⟨i, _, hi⟩ := fb_ct_pos.mp (of_decide_eq_true ho)
      exact absurd hi (((acE_clo c0).mp h1) i)
  | false =>
    rw [if_neg (by decide)]
    have ha : acy (if hd then lod S M (gN M) else fun _ => 0) := by
      intro i hi
      have hlt := (c0.2.2 (fun i j => i < dN S ∧ j < dN S) l0 (fun i m j z1 z2 => ⟨z1.1, z2.2⟩) i i hi).1
      exact of_decide_eq_false ho (fb_ct_pos.mpr ⟨i, by omega, hi⟩)
    exact (cfN_e hr hne hP hn (eK K) 0 _ E0 0 (lfp S K M hd) (by omega) (by decide) c0 ha (fun q _ => key q)).symm

