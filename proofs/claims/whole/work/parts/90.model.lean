/-! constructors: an object as it is made, with cells that are whole already; at most one array is still open -/
def iw (kd : Nat × Nat) (k : Nat) : Int32 := if kd = (1, 5) then (if k = 1 then 20 else if k = 2 then 20 else if k = 4 then 3 else 0) else if kd.1 = 17 ∧ k = 1 then -1 else if kd.1 = 20 ∧ k = 23 then -1 else 0
def rwz (t q k : Nat) : Nat := if t = 4 then q + 1 + 13 * k else if t = 5 then q + 1 + 2 * k else q + 1
def zh0 (Y : zY) : zH := (fun q => iw (yK Y q), fun _ _ => 0, fun q => rwz (yK Y q).1 q)
theorem iw_0 {t k : Nat} (h1 : t < 10) (h2 : t ≠ 1 ∨ k ≠ 5) : iw (t, k) = fun _ => 0 := by
  funext j
  have h3 : ¬ ((t, k) : Nat × Nat) = (1, 5) := by
    intro z
    cases z
    omega
  simp only [iw, h3, if_false]
  rw [if_neg (by omega), if_neg (by omega)]
def zdf (ci k : Nat) : Value := if (zF ci k).1 = 0 then .int 0 else .null
def zob (Y : zY) (ci a : Nat) (H : Heap) (f : Nat → Value) : Prop := ∃ r : vw_C, vwCl[ci]? = some r ∧ t_OB a ((yD Y).1 ci) r.2.2 ((yD Y).2 ci) H f
def zAO (U : State) : Prop := va_AO RX7 U ∧ va_AO RX4 U
def zPi (Y : zY) (ci a : Nat) : Array Value → State → Prop := fun av U => av = #[.ref a] ∧ U.heap.size = a + 1 ∧ zob Y ci a U.heap (zdf ci) ∧ zK Y U ∧ zS Y U U.heap ∧ zAO U ∧ yO Y ≤ a
def zQi (Y : zY) (a cnt : Nat) (hh : zH) : Array Value → State → Outcome → State → Prop := fun _ st o t => (o = .returned none ∧ t.heap.size = a + cnt ∧ ∀ q, a ≤ q → q < a + cnt → zRa Y hh t.heap q) ∧ va_F (fun q => a ≤ q) st t
def zCt (y : MethodName) (b : ByteArray) (nL : Nat) (rm : Room) (ci cnt sl : Nat) (kl : List (Nat × Nat)) (hF : zY → Nat → zH) : Prop := ∀ (l : Launch) (Y : zY) (a : Nat), (∀ i, i < cnt → yK Y (a + i) = kl.getD i (0, 0)) → Met l y (.code y b nL none :: zTW) rm (zPi Y ci a) (zQi Y a cnt (hF Y a)) (cnt - 1) sl (fun q => a ≤ q)
/-- what holds through the walk of a constructor, and of the law's beginning -/
def zOg (X : zX) (Y : zY) (cc : ByteArray) (own : String) : Prop := X.1.tables.exec = Jvm.exec ∧ (xC X).code = cc ∧ (xS X).vm.findClass own = some (xM X).cls ∧ (∀ w ∈ zTW, w.before (xA X) (xS X) = true) ∧ zK Y (xS X) ∧ zS Y (xS X) (xS X).heap ∧ zAO (xS X) ∧ yO Y ≤ (xS X).heap.size
def zOc (X : zX) (Y : zY) (cc : ByteArray) (own : String) (a : Nat) : Prop := zOg X Y cc own ∧ (xH X).name = "<init>" ∧ yO Y ≤ a
def zCs (X : zX) (Y : zY) (ci a : Nat) (w : Nat × Cell) (n : Nat) (f : Nat → Value) (H : Heap) (locs : List Loc) : Prop := H.size = n ∧ zob Y ci a H f ∧ (∀ q, a < q → q < n → q ≠ w.1 → zRa Y (zh0 Y) H q) ∧ va_S (fun q => a ≤ q) (xS X).heap H locs ∧ a < n ∧ (w.1 ≠ a → a < w.1 ∧ w.1 < n ∧ H[w.1]? = some w.2)
def zSc (X : zX) (Y : zY) (ci a : Nat) (w : Nat × Cell) (u v pc n : Nat) (f : Nat → Value) (ls : Array Slot) (st : List Value) : Prop := ∀ (H : Heap) (locs : List Loc), zCs X Y ci a w n f H locs → zW X H locs u v (F0 (xM X) pc ls st)
section ZC
variable {X : zX} {Y : zY} {ci a u v pc n : Nat} {w : Nat × Cell} {f : Nat → Value} {ls : Array Slot} {st : List Value} {cc : ByteArray} {own : String}
theorem cr_al (O : zOc X Y cc own a) (d : decode cc pc = .ok (.aload_n 0, 1)) (h0 : ls[0]? = some (.val (.ref a))) (hk : zSc X Y ci a w u v (pc + 1) n f ls (.ref a :: st)) : zSc X Y ci a w u v pc n f ls st := fun H locs hC => lv_aload_n O.1.1 O.1.2.1 d rfl h0 (hk H locs hC)
theorem cr_ic {k : Int} {x : Int32} (O : zOc X Y cc own a) (d : decode cc pc = .ok (.iconst k, 1)) (hx : Int32.ofInt k = x) (hk : zSc X Y ci a w u v (pc + 1) n f ls (.int x :: st)) : zSc X Y ci a w u v pc n f ls st := fun H locs hC => lv_iconst O.1.1 O.1.2.1 d hx (hk H locs hC)
theorem cr_bi {k : Int} {x : Int32} (O : zOc X Y cc own a) (d : decode cc pc = .ok (.bipush k, 2)) (hx : (Int8.ofInt k).toInt32 = x) (hk : zSc X Y ci a w u v (pc + 2) n f ls (.int x :: st)) : zSc X Y ci a w u v pc n f ls st := fun H locs hC => lv_bipush O.1.1 O.1.2.1 d hx (hk H locs hC)
theorem cr_si {k : Int} {x : Int32} (O : zOc X Y cc own a) (d : decode cc pc = .ok (.sipush k, 3)) (hx : (Int16.ofInt k).toInt32 = x) (hk : zSc X Y ci a w u v (pc + 3) n f ls (.int x :: st)) : zSc X Y ci a w u v pc n f ls st := fun H locs hC => lv_sipush O.1.1 O.1.2.1 d hx (hk H locs hC)
theorem cr_ob {idx : Nat} (O : zOc X Y cc own a) (hl : Cond.methodLink own idx objectInit ∈ zTW) (hi : Cond.instanceMethod objectInit ∈ zTW) (hc : Cond.code objectInit ⟨#[0xb1]⟩ 1 none ∈ zTW) (d : decode cc pc = .ok (.invokespecial idx, 3)) (hs : ls.size = (xC X).maxLocals) (hf : 1 ≤ (xR X).frames) (hlo : 12 ≤ (xR X).locals) (hk : zSc X Y ci a w u v (pc + 3) n f ls []) : zSc X Y ci a w u v pc n f ls [.ref a] := fun H locs hC =>
  W.objInit O.1.1 O.1.2.1 O.1.2.2.1 (O.1.2.2.2.1 _ hl) (O.1.2.2.2.1 _ hi) (O.1.2.2.2.1 _ hc) rfl hs rfl d hf hlo (hk H locs hC)
theorem zob_kept {H H1 : Heap} (ho : zob Y ci a H f) (e : H1[a]? = H[a]?) : zob Y ci a H1 f := by
  obtain ⟨r, h1, h2⟩ := ho
  exact ⟨r, h1, h2.kept e⟩
theorem zRa_ar {H : Heap} {h : zH} {q t k : Nat} (hK : yK Y q = (t, k)) (ht : t = 1 ∨ t = 2 ∨ t = 3) (h1 : t = 1 → H[q]? = some (vp_cell (yC Y 1) (k, .inl (h.1 q)))) (h2 : t = 2 → H[q]? = some (vp_cell (yC Y 2) (k, .inl (h.1 q)))) (h3 : t = 3 → H[q]? = some (vp_cell (yC Y 3) (k, .inr (.inl (h.2.1 q))))) : zRa Y h H q := by
  refine ⟨fun m hm => ?_, fun m hm => ?_, fun m hm => ?_, fun m hm => ?_, fun m hm => ?_, fun cj m hm => ?_⟩
  all_goals
    rw [hK] at hm
    have e1 := congrArg Prod.fst hm
    have e2 := congrArg Prod.snd hm
    simp only at e1 e2
  · subst e2; exact h1 e1
  · subst e2; exact h2 e1
  · subst e2; exact h3 e1
  · omega
  · omega
  · omega
/-- a new row joins -/
theorem zCs_in {H H1 : Heap} {locs : List Loc} (hC : zCs X Y ci a w n f H locs) (z1 : H1.size = n + 1) (o1 : ∀ q, q < n → H1[q]? = H[q]?) (hn : zRa Y (zh0 Y) H1 n) : zCs X Y ci a w (n + 1) f H1 locs := by
  obtain ⟨hs, hob, hr, hS, han, hw⟩ := hC
  refine ⟨z1, zob_kept hob (o1 a han), fun q q1 q2 q3 => ?_, ⟨by rw [z1]; have := hS.1; omega, fun q q1 q2 => (o1 q (by have := hS.1; omega)).trans (hS.2.1 q q1 q2), hS.2.2⟩, by omega, fun z => ?_⟩
  · by_cases e : q = n
    · subst e; exact hn
    · exact zRa_congr (hr q q1 (by omega) q3) (o1 q (by omega)) rfl rfl rfl
  · obtain ⟨w1, w2, w3⟩ := hw z
    exact ⟨w1, by omega, by rw [o1 _ w2]; exact w3⟩
theorem zCs_op {H H1 : Heap} {locs : List Loc} {cl : Cell} (hC : zCs X Y ci a w n f H locs) (hwa : w.1 = a) (z1 : H1.size = n + 1) (o1 : ∀ q, q < n → H1[q]? = H[q]?) (hn : H1[n]? = some cl) : zCs X Y ci a (n, cl) (n + 1) f H1 locs := by
  obtain ⟨hs, hob, hr, hS, han, hw⟩ := hC
  refine ⟨z1, zob_kept hob (o1 a han), fun q q1 q2 q3 => ?_, ⟨by rw [z1]; have := hS.1; omega, fun q q1 q2 => (o1 q (by have := hS.1; omega)).trans (hS.2.1 q q1 q2), hS.2.2⟩, by omega, fun z => ⟨han, Nat.lt_succ_self n, hn⟩⟩
  have q4 : q ≠ n := q3
  exact zRa_congr (hr q q1 (by omega) (by omega)) (o1 q (by omega)) rfl rfl rfl
theorem cr_nI {k : Nat} (O : zOc X Y cc own a) (harr : Cond.arrayClass .int ∈ zTW) (d : decode cc pc = .ok (.newarray .int, 2)) (hk2 : k ≤ 10000) (hk5 : k ≠ 5) (hK : yK Y n = (1, k)) (hu : u + 1 ≤ (xR X).cells) (hv : v + k ≤ (xR X).slots) (hk : zSc X Y ci a w (u + 1) (v + k) (pc + 2) (n + 1) f ls (.ref n :: st)) : zSc X Y ci a w u v pc n f ls (.int (nI k) :: st) := by
  intro H locs hC
  refine va_newaK (atype := .int) O.1.1 O.1.2.1 (O.1.2.2.2.1 _ harr) rfl d rfl (Int32.not_lt.mpr (nI_pos' (by omega))) (nI_clamp (by omega)) ?_ hu hv hC.1 (fun H' cA e1 z1 o1 _ hNm => ?_)
  · show k * 4 ≤ 536870912
    omega
  · have eA : cA = yC Y 1 := Option.some.inj (hNm.symm.trans (O.1.2.2.2.2.1.2 0 _ rfl).2)
    refine hk H' locs (zCs_in hC z1 o1 (zRa_ar hK (Or.inl rfl) (fun _ => ?_) (fun z => by omega) (fun z => by omega)))
    rw [e1, eA]
    show _ = some (vp_cell (yC Y 1) (k, .inl (iw (yK Y n))))
    rw [hK, iw_0 (by omega) (Or.inr hk5)]
    rfl
theorem cr_nB {k : Nat} (O : zOc X Y cc own a) (harr : Cond.arrayClass .byte ∈ zTW) (d : decode cc pc = .ok (.newarray .byte, 2)) (hk2 : k ≤ 10000) (hK : yK Y n = (2, k)) (hu : u + 1 ≤ (xR X).cells) (hv : v + k ≤ (xR X).slots) (hk : zSc X Y ci a w (u + 1) (v + k) (pc + 2) (n + 1) f ls (.ref n :: st)) : zSc X Y ci a w u v pc n f ls (.int (nI k) :: st) := by
  intro H locs hC
  refine va_newaK (atype := .byte) O.1.1 O.1.2.1 (O.1.2.2.2.1 _ harr) rfl d rfl (Int32.not_lt.mpr (nI_pos' (by omega))) (nI_clamp (by omega)) ?_ hu hv hC.1 (fun H' cA e1 z1 o1 _ hNm => ?_)
  · show k * 1 ≤ 536870912
    omega
  · have eA : cA = yC Y 2 := Option.some.inj (hNm.symm.trans (O.1.2.2.2.2.1.2 1 _ rfl).2)
    refine hk H' locs (zCs_in hC z1 o1 (zRa_ar hK (Or.inr (Or.inl rfl)) (fun z => by omega) (fun _ => ?_) (fun z => by omega)))
    rw [e1, eA]
    show _ = some (vp_cell (yC Y 2) (k, .inl (iw (yK Y n))))
    rw [hK, iw_0 (by omega) (Or.inl (by omega))]
    rfl
theorem cr_nL {k : Nat} (O : zOc X Y cc own a) (harr : Cond.arrayClass .long ∈ zTW) (d : decode cc pc = .ok (.newarray .long, 2)) (hk2 : k ≤ 10000) (hK : yK Y n = (3, k)) (hu : u + 1 ≤ (xR X).cells) (hv : v + k ≤ (xR X).slots) (hk : zSc X Y ci a w (u + 1) (v + k) (pc + 2) (n + 1) f ls (.ref n :: st)) : zSc X Y ci a w u v pc n f ls (.int (nI k) :: st) := by
  intro H locs hC
  refine va_newaK (atype := .long) O.1.1 O.1.2.1 (O.1.2.2.2.1 _ harr) rfl d rfl (Int32.not_lt.mpr (nI_pos' (by omega))) (nI_clamp (by omega)) ?_ hu hv hC.1 (fun H' cA e1 z1 o1 _ hNm => ?_)
  · show k * 8 ≤ 536870912
    omega
  · have eA : cA = yC Y 3 := Option.some.inj (hNm.symm.trans (O.1.2.2.2.2.1.2 2 _ rfl).2)
    refine hk H' locs (zCs_in hC z1 o1 (zRa_ar hK (Or.inr (Or.inr rfl)) (fun z => by omega) (fun z => by omega) (fun _ => ?_)))
    rw [e1, eA]
    rfl
/-- an int array that is still to be filled -/
theorem cr_nO {k : Nat} (O : zOc X Y cc own a) (hwa : w.1 = a) (harr : Cond.arrayClass .int ∈ zTW) (d : decode cc pc = .ok (.newarray .int, 2)) (hk2 : k ≤ 10000) (hu : u + 1 ≤ (xR X).cells) (hv : v + k ≤ (xR X).slots) (hk : zSc X Y ci a (n, arrV (yC Y 1) k (fun _ => .int 0)) (u + 1) (v + k) (pc + 2) (n + 1) f ls (.ref n :: st)) : zSc X Y ci a w u v pc n f ls (.int (nI k) :: st) := by
  intro H locs hC
  refine va_newaK (atype := .int) O.1.1 O.1.2.1 (O.1.2.2.2.1 _ harr) rfl d rfl (Int32.not_lt.mpr (nI_pos' (by omega))) (nI_clamp (by omega)) ?_ hu hv hC.1 (fun H' cA e1 z1 o1 _ hNm => ?_)
  · show k * 4 ≤ 536870912
    omega
  · have eA : cA = yC Y 1 := Option.some.inj (hNm.symm.trans (O.1.2.2.2.2.1.2 0 _ rfl).2)
    refine hk H' locs (zCs_op hC hwa z1 o1 ?_)
    rw [e1, eA]
    rfl
/-- an array of references that is still to be filled -/
theorem cr_nq {idx k t t0 : Nat} {C : String} (O : zOc X Y cc own a) (hwa : w.1 = a) (hcl : Cond.classLink own idx C ∈ zTW) (hover : va_AO C (xS X)) (hty : ([(yC Y 1, .int), (yC Y 2, .byte), (yC Y 3, .long), (yC Y 4, .object RX7), (yC Y 5, .object RX4)] : List (ClassId × FieldType))[t0]? = some (yC Y t, .object C)) (d : decode cc pc = .ok (.anewarray idx, 3)) (hk2 : k ≤ 10000) (hu : u + 1 ≤ (xR X).cells) (hv : v + k ≤ (xR X).slots) (hk : zSc X Y ci a (n, arrV (yC Y t) k (fun _ => .null)) (u + 1) (v + k) (pc + 3) (n + 1) f ls (.ref n :: st)) : zSc X Y ci a w u v pc n f ls (.int (nI k) :: st) := by
  intro H locs hC
  have e0 : (nI k).toNatClampNeg = k := nI_clamp (by omega)
  refine W.anew O.1.1 O.1.2.1 O.1.2.2.1 (O.1.2.2.2.1 _ hcl) (va_AO.use hover) rfl d rfl (Int32.not_lt.mpr (nI_pos' (by omega))) (by rw [e0]; omega) hu (by rw [e0]; exact hv) fun cA kA comp f1 f2 f3 f4 => ?_
  rw [e0]
  have eA : cA = yC Y t := by
    obtain ⟨kA', comp', g1, g2, g3, g4⟩ := (O.1.2.2.2.2.1.2 t0 _ hty).2
    exact Option.some.inj (f1.symm.trans g4)
  subst eA
  have hs := hC.1
  rw [hs]
  refine hk _ locs (zCs_op hC hwa (by rw [Array.size_push, hs]) (fun q hq => by rw [Array.getElem?_push, if_neg (by omega)]) ?_)
  rw [← hs, Array.getElem?_push_size, ← arrV_new]
theorem zq_putF {C : String} {T : u_T} {N idx j : Nat} {ty : Nat → FieldType} {H : Heap} {locs : List Loc} {x : Value} (O : zOc X Y cc own a) (hc : zCl ci C T N ty) (hob : zob Y ci a H f) (hS0 : va_S (fun q => a ≤ q) (xS X).heap H locs) (hj : j < N) (hfin : (T j).2.2.2 = true) (hdecl : (T j).1 = own) (hl : Cond.fieldLink own idx (T j).1 (T j).2.1 (T j).2.2.1 ∈ zTW) (hn : narrow (ty j) x = x) (hfit : fits (ty j) x = true) (d : decode cc pc = .ok (.putfield idx, 3))
    (kk : ∀ (H1 : Heap) (locs1 : List Loc), zob Y ci a H1 (updV f j x) → H1.size = H.size → (∀ q : Nat, q ≠ a → H1[q]? = H[q]?) → va_S (fun q => a ≤ q) (xS X).heap H1 locs1 → zW X H1 locs1 u v (F0 (xM X) (pc + 3) ls st)) : zW X H locs u v (F0 (xM X) pc ls (x :: .ref a :: st)) := by
  have hts := O.1.2.2.2.1
  have hin := hc.2.1
  have hap := va_apart (own := own) hts hin ty hc.2.2.1 hc.2.2.2 O.1.2.2.2.2.1 hc.1
  obtain ⟨r, h1, cell, q1, q2, q3, q4⟩ := hob
  have hr : r = (C, T, N) := Option.some.inj (h1.symm.trans hc.1)
  subst hr
  obtain ⟨hS, hfc, kC, hkC, hkind⟩ := O.1.2.2.2.2.1.1 ci _ hc.1
  obtain ⟨cf, kf, fi, fd, hi, hsl⟩ := hS j hj
  have hlay := hts _ (hin _ (u_in_lay hj))
  unfold u_lay at hlay
  rw [if_pos hfin] at hlay
  have hst := (u_facts hfc hkC (u_lays hts hin hj) hi).1
  have hcf : (xM X).cls = cf := by
    obtain ⟨_, _, c', _, _, _, -, -, hf', -, -, -, hown2, -⟩ := Cond.laysFinal_spec hlay
    have e1 : c' = cf := by have := hi.symm.trans hf'; simp at this; exact this.1.symm
    rw [hdecl] at hown2
    rw [← e1]; exact Option.some.inj (O.1.2.2.1.symm.trans hown2)
  have h6 := u_fits hfc hkC hkind (Or.inr hlay) hi (hc.2.2.1 j hj) hn hfit
  refine W.putFinK O.1.1 O.1.2.1 O.1.2.2.1 (hts _ hl) hi hst hcf O.2.1 (by rw [q2]; exact h6) q1 q3 (by rw [hsl]; exact k2_hasslot (q4 j hj)) rfl rfl d fun H' e1 e2 e3 => ?_
  rw [hsl] at e1 ⊢
  exact kk H' _ ⟨_, h1, _, e1, q2, q3, t_set q4 hap hj x⟩ e2 e3 (hS0.put e2 e3 (Nat.le_refl a))
/-- the object itself was written -/
theorem zCs_me {H H1 : Heap} {locs locs1 : List Loc} {f1 : Nat → Value} (hC : zCs X Y ci a w n f H locs) (g1 : zob Y ci a H1 f1) (g2 : H1.size = n) (g3 : ∀ q : Nat, q ≠ a → H1[q]? = H[q]?) (g4 : va_S (fun q => a ≤ q) (xS X).heap H1 locs1) : zCs X Y ci a w n f1 H1 locs1 := by
  obtain ⟨hs, hob, hr, hS, han, hw⟩ := hC
  refine ⟨g2, g1, fun q q1 q2 q3 => zRa_congr (hr q q1 q2 q3) (g3 q (by omega)) rfl rfl rfl, g4, han, fun z => ?_⟩
  obtain ⟨w1, w2, w3⟩ := hw z
  exact ⟨w1, w2, by rw [g3 _ z]; exact w3⟩
theorem cr_pF {C : String} {T : u_T} {N idx j : Nat} {ty : Nat → FieldType} {x : Value} (O : zOc X Y cc own a) (hc : zCl ci C T N ty) (hj : j < N) (hfin : (T j).2.2.2 = true) (hdecl : (T j).1 = own) (hl : Cond.fieldLink own idx (T j).1 (T j).2.1 (T j).2.2.1 ∈ zTW) (hn : narrow (ty j) x = x) (hfit : fits (ty j) x = true) (d : decode cc pc = .ok (.putfield idx, 3)) (hk : zSc X Y ci a w u v (pc + 3) n (updV f j x) ls st) : zSc X Y ci a w u v pc n f ls (x :: .ref a :: st) := by
  intro H locs hC
  refine zq_putF O hc hC.2.1 hC.2.2.2.1 hj hfin hdecl hl hn hfit d (fun H1 locs1 g1 g2 g3 g4 => ?_)
  exact hk H1 locs1 (zCs_me hC g1 (by rw [g2]; exact hC.1) g3 g4)
theorem cr_pN {C : String} {T : u_T} {N idx j : Nat} {ty : Nat → FieldType} {x : Value} (O : zOc X Y cc own a) (hc : zCl ci C T N ty) (hj : j < N) (hfin : (T j).2.2.2 = false) (hl : Cond.fieldLink own idx (T j).1 (T j).2.1 (T j).2.2.1 ∈ zTW) (hn : narrow (ty j) x = x) (hfit : fits (ty j) x = true) (d : decode cc pc = .ok (.putfield idx, 3)) (hk : zSc X Y ci a w u v (pc + 3) n (updV f j x) ls st) : zSc X Y ci a w u v pc n f ls (x :: .ref a :: st) := by
  intro H locs hC
  obtain ⟨r, h1, hob⟩ := hC.2.1
  have er : r = (C, T, N) := Option.some.inj (h1.symm.trans hc.1)
  subst er
  refine zq_put O.1.1 O.1.2.1 O.1.2.2.2.1 hc.2.1 ty hc.2.2.1 hc.2.2.2 O.1.2.2.1 O.1.2.2.2.2.1 hob hC.2.2.2.1 (Nat.le_refl a) hc.1 j hj (O.1.2.2.2.1 _ hl) hfin hn hfit d (fun H1 locs1 g1 g2 g3 => ?_)
  have hs := hC.1
  have han := hC.2.2.2.2.1
  have hsz : H1.size = n := by
    have e2 : H1[n]? = none := by rw [g2 n (by omega)]; exact Array.getElem?_eq_none (by omega)
    have e3 : H1.size ≤ n := Array.getElem?_eq_none_iff.mp e2
    rcases Nat.lt_or_ge H1.size n with z | z
    · exfalso
      obtain ⟨cell, g4, -⟩ := g1
      have ha1 : a < H1.size := (Array.getElem?_eq_some_iff.mp g4).1
      have e5 : H1[H1.size]? = none := Array.getElem?_eq_none (Nat.le_refl _)
      rw [g2 _ (by omega)] at e5
      have := Array.getElem?_eq_none_iff.mp e5
      omega
    · omega
  exact hk H1 locs1 (zCs_me hC ⟨_, h1, g1⟩ hsz g2 g3)
theorem cr_gt {C : String} {T : u_T} {N idx j : Nat} {ty : Nat → FieldType} (O : zOc X Y cc own a) (hc : zCl ci C T N ty) (hj : j < N) (hl : Cond.fieldLink own idx (T j).1 (T j).2.1 (T j).2.2.1 ∈ zTW) (d : decode cc pc = .ok (.getfield idx, 3)) (hk : zSc X Y ci a w u v (pc + 3) n f ls (f j :: st)) : zSc X Y ci a w u v pc n f ls (.ref a :: st) := by
  intro H locs hC
  obtain ⟨r, h1, hob⟩ := hC.2.1
  have er : r = (C, T, N) := Option.some.inj (h1.symm.trans hc.1)
  subst er
  exact zq_get O.1.1 O.1.2.1 O.1.2.2.2.1 hc.2.1 O.1.2.2.1 O.1.2.2.2.2.1 hob hc.1 j hj (O.1.2.2.2.1 _ hl) d (hk H locs hC)
/-- the open array was written -/
theorem zCs_op2 {H H1 : Heap} {locs : List Loc} {k : Nat} {cl : Cell} (hC : zCs X Y ci a w n f H locs) (hwa : w.1 ≠ a) (e1 : H1[w.1]? = some cl) (e2 : H1.size = H.size) (e3 : ∀ q : Nat, q ≠ w.1 → H1[q]? = H[q]?) : zCs X Y ci a (w.1, cl) n f H1 (locs ++ [⟨w.1, k⟩]) := by
  obtain ⟨hs, hob, hr, hS, han, hw⟩ := hC
  obtain ⟨w1, w2, w3⟩ := hw hwa
  refine ⟨by rw [e2]; exact hs, zob_kept hob (e3 a (Ne.symm hwa)), fun q q1 q2 q3 => zRa_congr (hr q q1 q2 q3) (e3 q q3) rfl rfl rfl, hS.put e2 e3 (Nat.le_of_lt w1), han, fun _ => ⟨w1, w2, e1⟩⟩
theorem cr_ia {b k j : Nat} {x : Int32} {g : Nat → Int32} (O : zOc X Y cc own a) (hba : b ≠ a) (hj : j < k) (hk2 : k ≤ 10000) (d : decode cc pc = .ok (.iastore, 1)) (hk : zSc X Y ci a (b, arrV (yC Y 1) k (fun i => .int (va_up g j x i))) u v (pc + 1) n f ls st) : zSc X Y ci a (b, arrV (yC Y 1) k (fun i => .int (g i))) u v pc n f ls (.int x :: .int (nI j) :: .ref b :: st) := by
  intro H locs hC
  have hin : ¬ (nI j < 0 ∨ k ≤ (nI j).toNatClampNeg) := by
    rw [nI_clamp (by omega)]
    rintro (z | z)
    · exact Int32.not_lt.mpr (nI_pos' (by omega)) z
    · omega
  refine W.iast O.1.1 O.1.2.1 (hC.2.2.2.2.2 hba).2.2 ((O.1.2.2.2.2.1.2 0 _ rfl).1 k (fun i => .int (g i))) (fun q => by cases q) (by show ¬ (_ ∨ (arrV _ _ _).slots.size ≤ _); rw [arrV_size]; exact hin) rfl rfl d fun H1 e1 e2 e3 => ?_
  refine hk H1 _ (zCs_op2 hC hba ?_ e2 e3)
  rw [e1, nI_clamp (by omega)]
  exact congrArg some (zupd_arr .int _ _ _ _ _)
theorem cr_aa {b k j t t0 cj x : Nat} {C : String} {T : u_T} {N : Nat} {g : Nat → Option Nat} (O : zOc X Y cc own a) (hba : b ≠ a) (hj : j < k) (hk2 : k ≤ 10000) (hcj : vwCl[cj]? = some (C, T, N)) (hty : ([(yC Y 1, .int), (yC Y 2, .byte), (yC Y 3, .long), (yC Y 4, .object RX7), (yC Y 5, .object RX4)] : List (ClassId × FieldType))[t0]? = some (yC Y t, .object C)) (hx1 : a < x) (hx2 : x < n) (hx3 : x ≠ b) (hK : yK Y x = (10 + cj, 0)) (d : decode cc pc = .ok (.aastore, 1)) (hk : zSc X Y ci a (b, arrV (yC Y t) k (fun i => va_rf (va_up g j (some x) i))) u v (pc + 1) n f ls st) : zSc X Y ci a (b, arrV (yC Y t) k (fun i => va_rf (g i))) u v pc n f ls (.ref x :: .int (nI j) :: .ref b :: st) := by
  intro H locs hC
  obtain ⟨r, h1, ⟨cellV, g1, g2, g3, -⟩, -⟩ := (hC.2.2.1 x hx1 hx2 hx3).2.2.2.2.2 cj _ hK
  have hcls := (O.1.2.2.2.2.1.1 cj _ hcj).2
  obtain ⟨kA, comp, k1, k2, k3, -⟩ := (O.1.2.2.2.2.1.2 t0 _ hty).2
  have hcomp : comp = (yD Y).1 cj := Option.some.inj (k3.symm.trans hcls.1)
  subst hcomp
  obtain ⟨kC, hkC, -⟩ := hcls.2
  refine W.aast O.1.1 O.1.2.1 (hC.2.2.2.2.2 hba).2.2 (fun q h => by cases h) (fun h => by cases h) k1 k2 rfl hkC ⟨Int32.not_lt.mpr (nI_pos' (by omega)), by show _ < (arrV _ _ _).slots.size; rw [arrV_size, nI_clamp (by omega)]; exact hj⟩ g1 (fun q h => by rw [g3] at h; cases h) (by rw [g2]; exact hkC) (by rw [g2]; exact va_assign hcls) rfl rfl d fun H1 e1 e2 e3 => ?_
  refine hk H1 _ (zCs_op2 hC hba ?_ e2 e3)
  rw [e1, nI_clamp (by omega), arrV_store]
  congr 2
  funext q
  by_cases hq : q = j
  · subst hq
    simp [updV, va_up, va_rf]
  · simp [updV, va_up, hq]
/-- the open array is whole -/
theorem cr_cl {cl0 : Cell} (hba : w.1 ≠ a) (hw : ∀ H : Heap, H[w.1]? = some w.2 → zRa Y (zh0 Y) H w.1) (hk : zSc X Y ci a (a, cl0) u v pc n f ls st) : zSc X Y ci a w u v pc n f ls st := by
  intro H locs hC
  refine hk H locs ?_
  obtain ⟨hs, hob, hr, hS, han, hw2⟩ := hC
  refine ⟨hs, hob, fun q q1 q2 _ => ?_, hS, han, fun z => absurd rfl z⟩
  by_cases e : q = w.1
  · subst e; exact hw H (hw2 hba).2.2
  · exact hr q q1 q2 e
/-- the end: the object is whole -/
theorem cr_rt {cnt : Nat} (O : zOc X Y cc own a) (hwa : w.1 = a) (hr : (xH X).sig.returnType = none) (hlk : (xH X).locks = false) (hQ : xQ X = MQ (xB X) (zQi Y a cnt (zh0 Y)) (xA X) (xS X) u v (fun q => a ≤ q)) (d : decode cc pc = .ok (.return_, 1)) (hn : n = a + cnt) (hK : yK Y a = (10 + ci, 0)) (hf : ∀ (C : String) (T : u_T) (N : Nat), vwCl[ci]? = some (C, T, N) → ∀ k, k < N → f k = zfv ci k a (zh0 Y)) (hm2 : ∀ k : Nat, (zF ci k).1 = 2 → yK Y ((zh0 Y).2.2 a k) = (zF ci k).2.2) : zSc X Y ci a w u v pc n f ls [] := by
  intro H locs hC
  obtain ⟨hs, hob, hreg, hS, han, hw⟩ := hC
  unfold zW
  rw [hQ]
  refine W.vret O.1.1 O.1.2.1 hr (fun t ht hW => ⟨⟨rfl, by rw [ht, hs, hn], fun q q1 q2 => ?_⟩, hS.F ht⟩) hS.2.2 d hlk
  rw [ht]
  by_cases e : q = a
  · subst e
    refine ⟨fun m hm => ?_, fun m hm => ?_, fun m hm => ?_, fun m hm => ?_, fun m hm => ?_, fun cj m hm => ?_⟩
    rotate_left 5
    · rw [hK] at hm
      have e1 := congrArg Prod.fst hm
      simp only at e1
      have e2 : cj = ci := by omega
      subst e2
      obtain ⟨r, h1, h2⟩ := hob
      exact ⟨r, h1, h2.to (fun k hk => hf r.1 r.2.1 r.2.2 h1 k hk), hm2⟩
    all_goals
      rw [hK] at hm
      have := congrArg Prod.fst hm
      simp only at this
      omega
  · exact hreg q (by omega) (by omega) (by omega)
end ZC

