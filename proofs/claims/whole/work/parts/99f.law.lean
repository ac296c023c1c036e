/-! the law's beginning: the kinds of the cells -/
def look : List (Nat × (Nat × Nat)) → Nat → Nat × Nat
  | [], _ => (0, 0)
  | e :: l, q => if q = e.1 then e.2 else look l q
theorem look_in : ∀ (l : List (Nat × (Nat × Nat))) (q : Nat) (kd : Nat × Nat), look l q = kd → kd ≠ (0, 0) → (q, kd) ∈ l
  | [], q, kd, h, hn => absurd h.symm hn
  | e :: l, q, kd, h, hn => by
    unfold look at h
    split at h
    · rename_i hq
      rw [hq, ← h]
      exact List.mem_cons_self
    · exact List.mem_cons_of_mem _ (look_in l q kd h hn)
theorem look_of : ∀ (l : List (Nat × (Nat × Nat))) (q : Nat) (kd : Nat × Nat), (∀ e ∈ l, ∀ e' ∈ l, e.1 = e'.1 → e.2 = e'.2) → (q, kd) ∈ l → look l q = kd
  | [], q, kd, _, h => absurd h List.not_mem_nil
  | e :: l, q, kd, hc, h => by
    unfold look
    split
    · rename_i hq
      exact hc e List.mem_cons_self (q, kd) h hq.symm
    · rename_i hq
      rcases List.mem_cons.mp h with z | z
      · rw [← z] at hq
        exact absurd rfl hq
      · exact look_of l q kd (fun e he e' he' => hc e (List.mem_cons_of_mem _ he) e' (List.mem_cons_of_mem _ he')) z
theorem hf_no {s : State} (hh : heapFits s = true) {a i v : Nat} {cell : Cell} {ty : FieldType} (hty : ty = .byte ∨ ty = .int) (hc : s.heap[a]? = some cell) (harr : s.isArrayOf cell ty) (hs : cell.slots[i]? = some (.ref v)) : False := by
  obtain ⟨ha, rfl⟩ := Array.getElem?_eq_some_iff.mp hc
  have h1 := (Array.all_eq_true_iff_forall_mem.mp hh) _ (Array.getElem_mem ha)
  have hi := (Array.getElem?_eq_some_iff.mp hs).1
  have h2 := (List.all_eq_true.mp h1) i (List.mem_range.mpr hi)
  rw [hs] at h2
  have h2 : s.fitsSlot s.heap[a].cls s.heap[a].vm i (.ref v) = true := h2
  obtain ⟨hobj, k, hk, comp, hkind⟩ := harr
  rcases hty with rfl | rfl
  · cases hvm : s.heap[a].vm <;> first | exact absurd hvm (hobj _) | (rw [hvm] at h2; simp [State.fitsSlot, State.slotType?, hk, hkind, fits] at h2)
  · cases hvm : s.heap[a].vm <;> first | exact absurd hvm (hobj _) | (rw [hvm] at h2; simp [State.fitsSlot, State.slotType?, hk, hkind, fits] at h2)
def AL (adK adV : Nat → Nat) (t0 t1 : Nat) : List (Nat × (Nat × Nat)) := (List.range 10).map (fun i => (adK i, (7, i))) ++ ((List.range 10).map (fun i => (adV i, (6, i))) ++ [(t0, (8, 0)), (t1, (8, 1))])
theorem AL_mem {adK adV : Nat → Nat} {t0 t1 q : Nat} {kd : Nat × Nat} : (q, kd) ∈ AL adK adV t0 t1 ↔ (∃ i, i < 10 ∧ q = adK i ∧ kd = (7, i)) ∨ (∃ i, i < 10 ∧ q = adV i ∧ kd = (6, i)) ∨ (q = t0 ∧ kd = (8, 0)) ∨ (q = t1 ∧ kd = (8, 1)) := by
  unfold AL
  rw [List.mem_append, List.mem_append, List.mem_map, List.mem_map, List.mem_cons, List.mem_singleton]
  constructor
  · rintro (⟨i, hi, e⟩ | ⟨i, hi, e⟩ | e | e)
    · cases e; exact Or.inl ⟨i, List.mem_range.mp hi, rfl, rfl⟩
    · cases e; exact Or.inr (Or.inl ⟨i, List.mem_range.mp hi, rfl, rfl⟩)
    · cases e; exact Or.inr (Or.inr (Or.inl ⟨rfl, rfl⟩))
    · cases e; exact Or.inr (Or.inr (Or.inr ⟨rfl, rfl⟩))
  · rintro (⟨i, hi, rfl, rfl⟩ | ⟨i, hi, rfl, rfl⟩ | ⟨rfl, rfl⟩ | ⟨rfl, rfl⟩)
    · exact Or.inl ⟨i, List.mem_range.mpr hi, rfl⟩
    · exact Or.inr (Or.inl ⟨i, List.mem_range.mpr hi, rfl⟩)
    · exact Or.inr (Or.inr (Or.inl rfl))
    · exact Or.inr (Or.inr (Or.inr rfl))
def LL : List (Nat × Nat) := kl_9 ++ (kl_10 ++ [(3, 1)])
def kY (al : List (Nat × (Nat × Nat))) (x0 q : Nat) : Nat × Nat := if x0 ≤ q then LL.getD (q - x0) (0, 0) else look al q
theorem LL_len : LL.length = 248 := by decide +kernel
def okL (i : Nat) : Bool := (List.range 35).all (fun k => !(decide (10 ≤ (LL.getD i (0, 0)).1)) || (!(decide ((zF ((LL.getD i (0, 0)).1 - 10) k).1 = 1)) || decide (LL.getD (i + (zF ((LL.getD i (0, 0)).1 - 10) k).2.1) (0, 0) = (zF ((LL.getD i (0, 0)).1 - 10) k).2.2)))
theorem okL_all : (List.range 248).all okL = true := by decide +kernel
theorem LL_wf : ∀ i, i < 248 → ∀ ci, ci < 11 → (LL.getD i (0, 0)).1 = 10 + ci → ∀ k, k < 35 → (zF ci k).1 = 1 → LL.getD (i + (zF ci k).2.1) (0, 0) = (zF ci k).2.2 := by
  intro i hi ci hc h k hk h1
  have a := (List.all_eq_true.mp ((List.all_eq_true.mp okL_all) i (List.mem_range.mpr hi))) k (List.mem_range.mpr hk)
  rw [h] at a
  simp only [show 10 + ci - 10 = ci by omega, h1] at a
  simpa using a
theorem LL_b : ∀ i, i < 248 → (LL.getD i (0, 0)).2 < 2 ^ 31 := by decide +kernel
theorem LL_out {i : Nat} (h : 248 ≤ i) : LL.getD i (0, 0) = (0, 0) := by
  rw [List.getD_eq_getElem?_getD, List.getElem?_eq_none (by rw [LL_len]; exact h)]
  rfl
theorem zF_1 {ci k : Nat} (h : (zF ci k).1 = 1) : ci < 11 ∧ k < 35 := by
  unfold zF at h
  split at h <;> first | (exfalso; revert h; decide) | (constructor <;> decide)
theorem LL_67 : ∀ i, i < 248 → (LL.getD i (0, 0)).1 ≠ 6 ∧ (LL.getD i (0, 0)).1 ≠ 7 ∧ (LL.getD i (0, 0)).1 ≠ 8 ∧ (LL.getD i (0, 0)).1 ≠ 9 := by decide +kernel
theorem ST_b : ∀ q ∈ zStr, q.2.2.2 < 10 := by decide +kernel
theorem VV_len : ∀ i, i < 10 → ∀ j, j < 10 → zLen.getD i 0 = zLen.getD j 0 → i ≠ j → 0 < zLen.getD i 0 ∧ (zByt.getD i []).getD 0 0 ≠ (zByt.getD j []).getD 0 0 := by decide +kernel
theorem LN_b : ∀ i, i < 10 → zLen.getD i 0 < 2 ^ 31 := by decide +kernel
theorem two_arr {s : State} {cell : Cell} (h1 : s.isArrayOf cell .byte) (h2 : s.isArrayOf cell .int) : False := by
  obtain ⟨-, k, hk, c1, e1⟩ := h1
  obtain ⟨-, k', hk', c2, e2⟩ := h2
  have e : k = k' := Option.some.inj (hk.symm.trans hk')
  subst e
  rw [e1] at e2
  cases e2
set_option maxHeartbeats 4000000 in
set_option maxRecDepth 100000 in
theorem lw_zS {s : State} {b : Nat} (hts : ∀ w ∈ lw_tbl, w.before #[Value.ref b] s = true) (hg : (Jvm.Cond.and given_1 narrow_1).before #[Value.ref b] s = true) (hh : heapFits s = true) : ∃ al : List (Nat × (Nat × Nat)), (∀ q kd, look al q = kd → kd = (0, 0) ∨ ((kd.1 = 6 ∨ kd.1 = 7 ∨ kd.1 = 8) ∧ kd.2 < 10)) ∧ ∀ (D : va_G) (C : Nat → ClassId) (xs : Nat → Int32), zS (D, (C, (kY al s.heap.size, (s.heap.size, xs)))) s s.heap := by
  have hn := flat_of_before _ hg
  have hA : ∀ a : Nat, a < s.heap.size → ¬ (fun q => s.heap.size ≤ q) a := fun a ha => Nat.not_le.mpr ha
  obtain ⟨adK, adV, hS, hev⟩ := vk_Sof (N := 10) (tm := tmS) (len := zLen) (byt := zByt) (A := fun q => s.heap.size ≤ q) LN_b (fun i hi => hn _ (st_ex i hi)) (fun i hi => hn _ (st_co i hi)) (fun i hi => hn _ (st_ar i hi)) (fun i hi => hn _ (st_le i hi)) (fun i hi j hj => hn _ (st_el i hi j hj)) (fun i j hi hj h => (st_ne i j hi hj h).elim (fun z => Or.inl (hn _ z)) (fun z => Or.inr (hn _ z))) hA
  have hc : ∀ n, n < 2 → ∃ t : Nat, va_Z RX0 (zCf n) "[I" (.ref t) (fun q => s.heap.size ≤ q) s s.heap ∧ va_T .int t (zCn n) (fun j => .int (zCc n j)) (fun q => s.heap.size ≤ q) s s.heap := fun n hn2 => by
    obtain ⟨a1, a2, a3, a4, a5⟩ := st_c1 n hn2
    obtain ⟨t, ht, hT⟩ := va_Tof (tm := Term.static RX0 (zCf n) "[I") (N := zCn n) (f := fun j => .int (zCc n j)) (A := fun q => s.heap.size ≤ q) (by unfold zCn; split <;> omega) (hn _ a1) (va_eqt (hn _ a2)) (fun j hj => va_eqt (hn _ (a3 j hj))) hA
    exact ⟨t, va_Zof (hts _ a4) (hts _ a5) ht hA, hT⟩
  obtain ⟨t0, z0, T0⟩ := hc 0 (by omega)
  obtain ⟨t1, z1, T1⟩ := hc 1 (by omega)
  have hlt : ∀ {ty : FieldType} {t N : Nat} {f : Nat → Value}, va_T ty t N f (fun q => s.heap.size ≤ q) s s.heap → t < s.heap.size := fun h => by
    obtain ⟨cell, h1, -⟩ := h
    exact (Array.getElem?_eq_some_iff.mp h1).1
  have hKlt : ∀ i, i < 10 → adK i < s.heap.size := fun i hi => by
    obtain ⟨cell, h1, -⟩ := (hS.1 i hi).1
    exact (Array.getElem?_eq_some_iff.mp h1).1
  have KA : ∀ i, i < 10 → ∀ (t N : Nat) (f : Nat → Value) (ty : FieldType), (ty = .byte ∨ ty = .int) → va_T ty t N f (fun q => s.heap.size ≤ q) s s.heap → adK i ≠ t := fun i hi t N f ty hty hT e => by
    obtain ⟨cf, k, fi, fd, cell, -, -, g1, -, g2, -⟩ := (hS.1 i hi).2.2.1
    obtain ⟨cell2, h1, h2, -⟩ := hT
    rw [e] at g1
    have : cell = cell2 := Option.some.inj (g1.symm.trans h1)
    subst this
    exact hf_no hh hty h1 h2 g2
  have VV : ∀ i j, i < 10 → j < 10 → adV i = adV j → i = j := fun i j hi hj e => by
    obtain ⟨cell, h1, -, -, -, h5, h6, -⟩ := (hS.1 i hi).2.2.2
    obtain ⟨cell2, k1, -, -, -, k5, k6, -⟩ := (hS.1 j hj).2.2.2
    rw [e] at h1
    have : cell = cell2 := Option.some.inj (h1.symm.trans k1)
    subst this
    have el : zLen.getD i 0 = zLen.getD j 0 := (nI_eq (LN_b i hi) (LN_b j hj)).mp (h5.symm.trans k5)
    by_cases hij : i = j
    · exact hij
    · exfalso
      obtain ⟨p0, p1⟩ := VV_len i hi j hj el hij
      have e1 := h6 0 p0
      have e2 := k6 0 (by rw [← el]; exact p0)
      exact p1 (Value.int.inj (Option.some.inj (e1.symm.trans e2)))
  have VT : ∀ i, i < 10 → ∀ (t N : Nat) (f : Nat → Value), va_T .int t N f (fun q => s.heap.size ≤ q) s s.heap → adV i ≠ t := fun i hi t N f hT e => by
    obtain ⟨cell, h1, h2, -⟩ := (hS.1 i hi).2.2.2
    obtain ⟨cell2, k1, k2, -⟩ := hT
    rw [e] at h1
    have : cell = cell2 := Option.some.inj (h1.symm.trans k1)
    subst this
    exact two_arr h2 k2
  have TT : t0 ≠ t1 := fun e => by
    obtain ⟨cell, h1, -, -, -, h5, -⟩ := T0
    obtain ⟨cell2, k1, -, -, -, k5, -⟩ := T1
    rw [e] at h1
    have : cell = cell2 := Option.some.inj (h1.symm.trans k1)
    subst this
    exact absurd (h5.symm.trans k5) (by decide)
  have hcons : ∀ e ∈ AL adK adV t0 t1, ∀ e' ∈ AL adK adV t0 t1, e.1 = e'.1 → e.2 = e'.2 := by
    rintro ⟨q, kd⟩ he ⟨q', kd'⟩ he' hq
    have hq : q = q' := hq
    subst hq
    show kd = kd'
    rcases AL_mem.mp he with ⟨i, hi, e1, rfl⟩ | ⟨i, hi, e1, rfl⟩ | ⟨e1, rfl⟩ | ⟨e1, rfl⟩ <;> rcases AL_mem.mp he' with ⟨j, hj, e2, rfl⟩ | ⟨j, hj, e2, rfl⟩ | ⟨e2, rfl⟩ | ⟨e2, rfl⟩
    · rw [hS.2 i j hi hj (e1.symm.trans e2)]
    · exact absurd (e1.symm.trans e2) (KA i hi _ _ _ _ (Or.inl rfl) (hS.1 j hj).2.2.2)
    · exact absurd (e1.symm.trans e2) (KA i hi _ _ _ _ (Or.inr rfl) T0)
    · exact absurd (e1.symm.trans e2) (KA i hi _ _ _ _ (Or.inr rfl) T1)
    · exact absurd (e2.symm.trans e1) (KA j hj _ _ _ _ (Or.inl rfl) (hS.1 i hi).2.2.2)
    · rw [VV i j hi hj (e1.symm.trans e2)]
    · exact absurd (e1.symm.trans e2) (VT i hi _ _ _ T0)
    · exact absurd (e1.symm.trans e2) (VT i hi _ _ _ T1)
    · exact absurd (e2.symm.trans e1) (KA j hj _ _ _ _ (Or.inr rfl) T0)
    · exact absurd (e2.symm.trans e1) (VT j hj _ _ _ T0)
    · rfl
    · exact absurd (e1.symm.trans e2) TT
    · exact absurd (e2.symm.trans e1) (KA j hj _ _ _ _ (Or.inr rfl) T1)
    · exact absurd (e2.symm.trans e1) (VT j hj _ _ _ T1)
    · exact absurd (e2.symm.trans e1) TT
    · rfl
  have kin : ∀ q kd, q < s.heap.size → (q, kd) ∈ AL adK adV t0 t1 → kY (AL adK adV t0 t1) s.heap.size q = kd := fun q kd hq hm => by
    unfold kY
    rw [if_neg (Nat.not_le.mpr hq)]
    exact look_of _ _ _ hcons hm
  have LLno : ∀ i t n, LL.getD i (0, 0) = (t, n) → t ≠ 6 ∧ t ≠ 7 ∧ t ≠ 8 ∧ t ≠ 9 := fun i t n h => by
    by_cases hi : i < 248
    · have := LL_67 i hi
      rw [h] at this
      exact this
    · rw [LL_out (by omega)] at h
      cases h
      decide
  have kout : ∀ q t n, kY (AL adK adV t0 t1) s.heap.size q = (t, n) → t = 6 ∨ t = 7 ∨ t = 8 ∨ t = 9 → (q, (t, n)) ∈ AL adK adV t0 t1 := fun q t n h ht => by
    unfold kY at h
    by_cases hq : s.heap.size ≤ q
    · rw [if_pos hq] at h
      have := LLno _ _ _ h
      omega
    · rw [if_neg hq] at h
      refine look_in _ _ _ h (fun z => ?_)
      cases z
      omega
  refine ⟨AL adK adV t0 t1, fun q kd h => ?_, fun D C xs => ⟨fun q hq => va_Nw.of rfl (hts _ (st_nest q hq)), fun c hc2 => va_Nw.of rfl (hts _ (st_exc c hc2)), fun q hq => va_Nc.of (hn _ (st_noc q hq)), ⟨adK, adV, hS, fun q hq => ?_, fun a n ha => ?_, fun i hi => ?_, fun a n ha => ?_⟩, ⟨fun n hn2 => ?_, fun t n ht => ?_⟩, ⟨va_Zof (hts _ st_s1.2.1) (hts _ st_s1.2.2) (va_eqi (hn _ st_s1.1)) hA, va_Zqof (hts _ st_s2.2.1) (hts _ st_s2.2.2) (hn _ st_s2.1) hA⟩, ⟨vx_Zqof (hts _ st_s3.1.2) (hts _ st_s3.2.2) (hn _ st_s3.1.1) hA, vx_Zqof (hts _ st_s3.2.1.2) (hts _ st_s3.2.2) (hn _ st_s3.2.1.1) hA⟩, fun a n ha => ?_⟩⟩
  · by_cases e : kd = (0, 0)
    · exact Or.inl e
    · right
      rcases AL_mem.mp (look_in _ _ _ h e) with ⟨i, hi, -, rfl⟩ | ⟨i, hi, -, rfl⟩ | ⟨-, rfl⟩ | ⟨-, rfl⟩
      · exact ⟨Or.inr (Or.inl rfl), hi⟩
      · exact ⟨Or.inl rfl, hi⟩
      · exact ⟨Or.inr (Or.inr rfl), by decide⟩
      · exact ⟨Or.inr (Or.inr rfl), by decide⟩
  · have hi : q.2.2.2 < 10 := ST_b q hq
    have e0 := hev _ hi
    refine ⟨vk_R.of (hts _ (st_str q hq)) ?_, kin _ _ (hKlt _ hi) (AL_mem.mpr (Or.inl ⟨_, hi, rfl, rfl⟩))⟩
    rcases st_sm q hq with z | z
    · rw [← z]; exact e0
    · obtain ⟨w, h1, h2⟩ := Cond.eq_one (hn _ z)
      rw [h2, ← h1]; exact e0
  · rcases AL_mem.mp (kout a 7 n ha (by omega)) with ⟨i, hi, e1, e2⟩ | ⟨i, hi, -, e2⟩ | ⟨-, e2⟩ | ⟨-, e2⟩
    · cases e2; exact ⟨hi, e1⟩
    all_goals cases e2
  · exact kin _ _ (hlt (hS.1 i hi).2.2.2) (AL_mem.mpr (Or.inr (Or.inl ⟨i, hi, rfl, rfl⟩)))
  · rcases AL_mem.mp (kout a 6 n ha (by omega)) with ⟨i, hi, e1, e2⟩ | ⟨i, hi, e1, e2⟩ | ⟨-, e2⟩ | ⟨-, e2⟩
    · cases e2
    · cases e2; exact ⟨hi, e1⟩
    all_goals cases e2
  · rcases (show n = 0 ∨ n = 1 by omega) with rfl | rfl
    · exact ⟨t0, kin _ _ (hlt T0) (AL_mem.mpr (Or.inr (Or.inr (Or.inl ⟨rfl, rfl⟩)))), z0⟩
    · exact ⟨t1, kin _ _ (hlt T1) (AL_mem.mpr (Or.inr (Or.inr (Or.inr ⟨rfl, rfl⟩)))), z1⟩
  · rcases AL_mem.mp (kout t 8 n ht (by omega)) with ⟨i, hi, e1, e2⟩ | ⟨i, hi, e1, e2⟩ | ⟨e1, e2⟩ | ⟨e1, e2⟩
    · cases e2
    · cases e2
    · cases e2; subst e1; exact T0
    · cases e2; subst e1; exact T1
  · rcases AL_mem.mp (kout a 9 n ha (by omega)) with ⟨i, hi, e1, e2⟩ | ⟨i, hi, e1, e2⟩ | ⟨-, e2⟩ | ⟨-, e2⟩ <;> cases e2
set_option maxHeartbeats 4000000 in
theorem lw_zK {s : State} {b : Nat} (hts : ∀ w ∈ lw_tbl, w.before #[Value.ref b] s = true) : ∃ (D : va_G) (C : Nat → ClassId), (∀ (kk : Nat → Nat × Nat) (n : Nat) (xs : Nat → Int32), zK (D, (C, (kk, (n, xs)))) s) ∧ zAO s := by
  have hz : ∀ w ∈ zTW, w.before #[Value.ref b] s = true := fun w hw => hts w (List.mem_filter.mp hw).1
  have hk : ∀ c : Nat, ∃ g : ClassId × (Nat → Nat), ∀ q : vw_C, vwCl[c]? = some q → u_Kn s q.1 q.2.1 q.2.2 g.1 g.2 := by
    intro c
    match c with
    | 0 =>
      obtain ⟨cC, iS, h⟩ := u_known (C := RX1) (T := TX1) (N := 9) (n := 9) hz zc_0.2.1 (hz _ mk_0.2.2.1.1)
      exact ⟨(cC, iS), fun q hq => by cases hq; exact h⟩
    | 1 =>
      obtain ⟨cC, iS, h⟩ := u_known (C := RX2) (T := TX2) (N := 1) (n := 1) hz zc_1.2.1 (hz _ mk_1.2.2.1.1)
      exact ⟨(cC, iS), fun q hq => by cases hq; exact h⟩
    | 2 =>
      obtain ⟨cC, iS, h⟩ := u_known (C := RX3) (T := TX3) (N := 5) (n := 5) hz zc_2.2.1 (hz _ mk_2.2.2.1.1)
      exact ⟨(cC, iS), fun q hq => by cases hq; exact h⟩
    | 3 =>
      obtain ⟨cC, iS, h⟩ := u_known (C := RX4) (T := TX4) (N := 1) (n := 1) hz zc_3.2.1 (hz _ mk_3.2.2.1.1)
      exact ⟨(cC, iS), fun q hq => by cases hq; exact h⟩
    | 4 =>
      obtain ⟨cC, iS, h⟩ := u_known (C := RX5) (T := TX5) (N := 4) (n := 4) hz zc_4.2.1 (hz _ mk_4.2.2.1.1)
      exact ⟨(cC, iS), fun q hq => by cases hq; exact h⟩
    | 5 =>
      obtain ⟨cC, iS, h⟩ := u_known (C := RX6) (T := TX6) (N := 8) (n := 8) hz zc_5.2.1 (hz _ mk_5.2.2.1.1)
      exact ⟨(cC, iS), fun q hq => by cases hq; exact h⟩
    | 6 =>
      obtain ⟨cC, iS, h⟩ := u_known (C := RX7) (T := TX7) (N := 3) (n := 3) hz zc_6.2.1 (hz _ mk_6.2.2.1.1)
      exact ⟨(cC, iS), fun q hq => by cases hq; exact h⟩
    | 7 =>
      obtain ⟨cC, iS, h⟩ := u_known (C := RX8) (T := TX8) (N := 8) (n := 8) hz zc_7.2.1 (hz _ mk_7.2.2.1.1)
      exact ⟨(cC, iS), fun q hq => by cases hq; exact h⟩
    | 8 =>
      obtain ⟨cC, iS, h⟩ := u_known (C := RX9) (T := TX9) (N := 3) (n := 3) hz zc_8.2.1 (hz _ mk_8.2.2.1.1)
      exact ⟨(cC, iS), fun q hq => by cases hq; exact h⟩
    | 9 =>
      obtain ⟨cC, iS, h⟩ := u_known (C := RX10) (T := TX10) (N := 15) (n := 15) hz zc_9.2.1 (hz _ mk_9.2.2.1.1)
      exact ⟨(cC, iS), fun q hq => by cases hq; exact h⟩
    | 10 =>
      obtain ⟨cC, iS, h⟩ := u_known (C := RX11) (T := TX11) (N := 35) (n := 35) hz zc_10.2.1 (hz _ mk_10.2.2.1.1)
      exact ⟨(cC, iS), fun q hq => by cases hq; exact h⟩
    | n + 11 => exact ⟨(0, fun _ => 0), fun q hq => by simp at hq⟩
  obtain ⟨G, hG⟩ := Classical.axiomOfChoice hk
  obtain ⟨cI, kI, pI, i1, i2, i3⟩ := Cond.arrayClass_spec (hts _ st_ao.2.2.1)
  obtain ⟨cB, kB, pB, b1, b2, b3⟩ := Cond.arrayClass_spec (hts _ st_ao.2.2.2.1)
  obtain ⟨cL, kL, pL, l1, l2, l3⟩ := Cond.arrayClass_spec (hts _ st_ao.2.2.2.2)
  obtain ⟨pS, cS, kS, s1, -, s3, s4, s5⟩ := Cond.arrayOver_spec (hts _ st_ao.1)
  obtain ⟨pO, cO, kO, o1, -, o3, o4, o5⟩ := Cond.arrayOver_spec (hts _ st_ao.2.1)
  refine ⟨(fun c => (G c).1, fun c => (G c).2), fun t => if t = 1 then cI else if t = 2 then cB else if t = 3 then cL else if t = 4 then cS else cO, fun kk n xs => ⟨fun c q hq => hG c q hq, fun k q hq => ?_⟩, va_AO.of (hts _ st_ao.1), va_AO.of (hts _ st_ao.2.1)⟩
  match k with
  | 0 => cases hq; exact ⟨fun N z => ⟨(fun k h => by cases h), kI, i2, pI, i3⟩, i1⟩
  | 1 => cases hq; exact ⟨fun N z => ⟨(fun k h => by cases h), kB, b2, pB, b3⟩, b1⟩
  | 2 => cases hq; exact ⟨fun N z => ⟨(fun k h => by cases h), kL, l2, pL, l3⟩, l1⟩
  | 3 => cases hq; exact ⟨fun N z => ⟨(fun k h => by cases h), kS, s3, pS, s4⟩, kS, pS, s3, s4, s1, s5⟩
  | 4 => cases hq; exact ⟨fun N z => ⟨(fun k h => by cases h), kO, o3, pO, o4⟩, kO, pO, o3, o4, o1, o5⟩
  | n + 5 => simp at hq
theorem lw_zWF {al : List (Nat × (Nat × Nat))} {D : va_G} {C : Nat → ClassId} {x0 : Nat} {xs : Nat → Int32} (hal : ∀ q kd, look al q = kd → kd = (0, 0) ∨ ((kd.1 = 6 ∨ kd.1 = 7 ∨ kd.1 = 8) ∧ kd.2 < 10)) : zWF (D, (C, (kY al x0, (x0, xs)))) := by
  have hlow : ∀ q, q < x0 → kY al x0 q = look al q := fun q hq => if_neg (Nat.not_le.mpr hq)
  have hup : ∀ q, x0 ≤ q → kY al x0 q = LL.getD (q - x0) (0, 0) := fun q hq => if_pos hq
  refine ⟨fun a ci n k ha h1 => ?_, fun a ha => ?_, fun a => ?_⟩
  · have ha : kY al x0 a = (10 + ci, n) := ha
    obtain ⟨c1, c2⟩ := zF_1 h1
    by_cases hq : x0 ≤ a
    · rw [hup a hq] at ha
      have hi : a - x0 < 248 := by
        by_cases z : a - x0 < 248
        · exact z
        · rw [LL_out (by omega)] at ha
          have := congrArg Prod.fst ha
          simp only at this
          omega
      have := LL_wf (a - x0) hi ci c1 (by rw [ha]) k c2 h1
      show kY al x0 (a + (zF ci k).2.1) = _
      rw [hup _ (by omega), ← this]
      congr 1
      omega
    · rw [hlow a (by omega)] at ha
      rcases hal a _ ha with z | ⟨z, -⟩
      · have := congrArg Prod.fst z
        simp only at this
        omega
      · simp only at z
        omega
  · show x0 ≤ a
    by_cases hq : x0 ≤ a
    · exact hq
    · exfalso
      obtain ⟨z0, z6, z7, z8, -⟩ := ha
      have e : (yK (D, (C, (kY al x0, (x0, xs)))) a) = look al a := hlow a (by omega)
      rw [e] at z0 z6 z7 z8
      rcases hal a _ rfl with z | ⟨z, -⟩
      · exact z0 (by rw [z])
      · rcases z with z | z | z
        · exact z6 z
        · exact z7 z
        · exact z8 z
  · show (kY al x0 a).2 < 2 ^ 31
    by_cases hq : x0 ≤ a
    · rw [hup a hq]
      by_cases z : a - x0 < 248
      · exact LL_b _ z
      · rw [LL_out (by omega)]; decide
    · rw [hlow a (by omega)]
      rcases hal a _ rfl with z | ⟨-, z⟩
      · rw [z]; decide
      · omega

