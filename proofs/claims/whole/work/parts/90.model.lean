/-! constructors: an object as it is made, with cells that are whole already -/
def zdf (ci k : Nat) : Value := if (zF ci k).1 = 0 then .int 0 else .null
def zNw (U : State) : Prop := ∀ q ∈ zNest, va_Nw (.methodLinkNest q.1 q.2.1 q.2.2.1 q.2.2.2) U
def zob (Y : zY) (ci a : Nat) (H : Heap) (f : Nat → Value) : Prop := ∃ r : vw_C, vwCl[ci]? = some r ∧ t_OB a ((yD Y).1 ci) r.2.2 ((yD Y).2 ci) H f
def zPi (Y : zY) (ci a : Nat) : Array Value → State → Prop := fun av U => av = #[.ref a] ∧ U.heap.size = a + 1 ∧ zob Y ci a U.heap (zdf ci) ∧ zK Y U ∧ zNw U
def zQi (Y : zY) (a cnt : Nat) (cF : zH → Prop) : Array Value → State → Outcome → State → Prop := fun _ st o t => (o = .returned none ∧ t.heap.size = a + cnt ∧ ∃ h : zH, (∀ q, a ≤ q → q < a + cnt → zRa Y h t.heap q) ∧ cF h) ∧ va_F (fun q => a ≤ q) st t
def zCt (y : MethodName) (b : ByteArray) (nL : Nat) (rm : Room) (ci cnt sl : Nat) (kd : Nat → Nat × Nat) (cF : Nat → zH → Prop) : Prop := ∀ (l : Launch) (Y : zY) (a : Nat), (∀ i, i < cnt → yK Y (a + i) = kd i) → Met l y (.code y b nL none :: zTW) rm (zPi Y ci a) (zQi Y a cnt (cF a)) (cnt - 1) sl (fun q => a ≤ q)
def zOc (X : zX) (Y : zY) (cc : ByteArray) (own : String) : Prop := X.1.tables.exec = Jvm.exec ∧ (xC X).code = cc ∧ (xS X).vm.findClass own = some (xM X).cls ∧ (∀ w ∈ zTW, w.before (xA X) (xS X) = true) ∧ zK Y (xS X) ∧ zNw (xS X) ∧ (xH X).name = "<init>"
def zCs (X : zX) (Y : zY) (ci a : Nat) (h : zH) (n : Nat) (f : Nat → Value) (H : Heap) (locs : List Loc) : Prop := H.size = n ∧ zob Y ci a H f ∧ (∀ q, a < q → q < n → zRa Y h H q) ∧ va_S (fun q => a ≤ q) (xS X).heap H locs ∧ a < n
def zSc (X : zX) (Y : zY) (ci a : Nat) (h : zH) (u v pc n : Nat) (f : Nat → Value) (ls : Array Slot) (st : List Value) : Prop := ∀ (H : Heap) (locs : List Loc), zCs X Y ci a h n f H locs → zW X H locs u v (F0 (xM X) pc ls st)
section ZC
variable {X : zX} {Y : zY} {ci a u v pc n : Nat} {h : zH} {f : Nat → Value} {ls : Array Slot} {st : List Value} {cc : ByteArray} {own : String}
theorem cr_al (O : zOc X Y cc own) (d : decode cc pc = .ok (.aload_n 0, 1)) (h0 : ls[0]? = some (.val (.ref a))) (hk : zSc X Y ci a h u v (pc + 1) n f ls (.ref a :: st)) : zSc X Y ci a h u v pc n f ls st := fun H locs hC => lv_aload_n O.1 O.2.1 d rfl h0 (hk H locs hC)
theorem cr_ic {k : Int} {x : Int32} (O : zOc X Y cc own) (d : decode cc pc = .ok (.iconst k, 1)) (hx : Int32.ofInt k = x) (hk : zSc X Y ci a h u v (pc + 1) n f ls (.int x :: st)) : zSc X Y ci a h u v pc n f ls st := fun H locs hC => lv_iconst O.1 O.2.1 d hx (hk H locs hC)
theorem cr_bi {k : Int} {x : Int32} (O : zOc X Y cc own) (d : decode cc pc = .ok (.bipush k, 2)) (hx : (Int8.ofInt k).toInt32 = x) (hk : zSc X Y ci a h u v (pc + 2) n f ls (.int x :: st)) : zSc X Y ci a h u v pc n f ls st := fun H locs hC => lv_bipush O.1 O.2.1 d hx (hk H locs hC)
theorem cr_si {k : Int} {x : Int32} (O : zOc X Y cc own) (d : decode cc pc = .ok (.sipush k, 3)) (hx : (Int16.ofInt k).toInt32 = x) (hk : zSc X Y ci a h u v (pc + 3) n f ls (.int x :: st)) : zSc X Y ci a h u v pc n f ls st := fun H locs hC => lv_sipush O.1 O.2.1 d hx (hk H locs hC)
theorem cr_ob {idx : Nat} (O : zOc X Y cc own) (hl : Cond.methodLink own idx objectInit ∈ zTW) (hi : Cond.instanceMethod objectInit ∈ zTW) (hc : Cond.code objectInit ⟨#[0xb1]⟩ 1 none ∈ zTW) (d : decode cc pc = .ok (.invokespecial idx, 3)) (hs : ls.size = (xC X).maxLocals) (hf : 1 ≤ (xR X).frames) (hlo : 12 ≤ (xR X).locals) (hk : zSc X Y ci a h u v (pc + 3) n f ls []) : zSc X Y ci a h u v pc n f ls [.ref a] := fun H locs hC =>
  W.objInit O.1 O.2.1 O.2.2.1 (O.2.2.2.1 _ hl) (O.2.2.2.1 _ hi) (O.2.2.2.1 _ hc) rfl hs rfl d hf hlo (hk H locs hC)
theorem zob_kept {H H1 : Heap} (ho : zob Y ci a H f) (e : H1[a]? = H[a]?) : zob Y ci a H1 f := by
  obtain ⟨r, h1, h2⟩ := ho
  exact ⟨r, h1, h2.kept e⟩
theorem cr_nI {k : Nat} (O : zOc X Y cc own) (harr : Cond.arrayClass .int ∈ zTW) (d : decode cc pc = .ok (.newarray .int, 2)) (hk2 : k ≤ 10000) (hK : yK Y n = (1, k)) (hu : u + 1 ≤ (xR X).cells) (hv : v + k ≤ (xR X).slots) (hk : zSc X Y ci a (zsW h n (fun _ => 0)) (u + 1) (v + k) (pc + 2) (n + 1) f ls (.ref n :: st)) : zSc X Y ci a h u v pc n f ls (.int (nI k) :: st) := by
  intro H locs hC
  obtain ⟨hs, hob, hr, hS, han⟩ := hC
  refine va_newaK (atype := .int) O.1 O.2.1 (O.2.2.2.1 _ harr) rfl d rfl (Int32.not_lt.mpr (nI_pos' (by omega))) (nI_clamp (by omega)) ?_ hu hv hs (fun H' cA e1 z1 o1 _ hNm => ?_)
  · show k * 4 ≤ 536870912
    omega
  · have eA : cA = yC Y 1 := Option.some.inj (hNm.symm.trans (O.2.2.2.2.1.2 0 _ rfl).2)
    refine hk H' locs ⟨z1, zob_kept hob (o1 a han), fun q q1 q2 => ?_, ⟨by rw [z1]; have := hS.1; omega, fun q q1 q2 => (o1 q (by have := hS.1; omega)).trans (hS.2.1 q q1 q2), hS.2.2⟩, by omega⟩
    by_cases e : q = n
    · subst e
      refine ⟨fun m hm => ?_, fun m hm => ?_, fun m hm => ?_, fun m hm => ?_, fun m hm => ?_, fun cj m hm => ?_⟩
      · rw [hK] at hm
        cases hm
        rw [e1, eA, zsW_s]; rfl
      all_goals
        rw [hK] at hm
        have := congrArg Prod.fst hm
        simp only at this
        omega
    · exact zRa_congr (hr q q1 (by omega)) (o1 q (by omega)) (zsW_n _ _ e) rfl rfl
theorem cr_nL {k : Nat} (O : zOc X Y cc own) (harr : Cond.arrayClass .long ∈ zTW) (d : decode cc pc = .ok (.newarray .long, 2)) (hk2 : k ≤ 10000) (hK : yK Y n = (3, k)) (hu : u + 1 ≤ (xR X).cells) (hv : v + k ≤ (xR X).slots) (hk : zSc X Y ci a (zsV h n (fun _ => 0)) (u + 1) (v + k) (pc + 2) (n + 1) f ls (.ref n :: st)) : zSc X Y ci a h u v pc n f ls (.int (nI k) :: st) := by
  intro H locs hC
  obtain ⟨hs, hob, hr, hS, han⟩ := hC
  refine va_newaK (atype := .long) O.1 O.2.1 (O.2.2.2.1 _ harr) rfl d rfl (Int32.not_lt.mpr (nI_pos' (by omega))) (nI_clamp (by omega)) ?_ hu hv hs (fun H' cA e1 z1 o1 _ hNm => ?_)
  · show k * 8 ≤ 536870912
    omega
  · have eA : cA = yC Y 3 := Option.some.inj (hNm.symm.trans (O.2.2.2.2.1.2 2 _ rfl).2)
    refine hk H' locs ⟨z1, zob_kept hob (o1 a han), fun q q1 q2 => ?_, ⟨by rw [z1]; have := hS.1; omega, fun q q1 q2 => (o1 q (by have := hS.1; omega)).trans (hS.2.1 q q1 q2), hS.2.2⟩, by omega⟩
    by_cases e : q = n
    · subst e
      refine ⟨fun m hm => ?_, fun m hm => ?_, fun m hm => ?_, fun m hm => ?_, fun m hm => ?_, fun cj m hm => ?_⟩
      rotate_left 2
      · rw [hK] at hm
        cases hm
        rw [e1, eA, zsV_s]; rfl
      all_goals
        rw [hK] at hm
        have := congrArg Prod.fst hm
        simp only at this
        omega
    · exact zRa_congr (hr q q1 (by omega)) (o1 q (by omega)) rfl (zup_n _ _ e) rfl
theorem zq_putF {C : String} {T : u_T} {N idx j : Nat} {ty : Nat → FieldType} {H : Heap} {locs : List Loc} {w : Value} (O : zOc X Y cc own) (hc : zCl ci C T N ty) (hob : zob Y ci a H f) (hS0 : va_S (fun q => a ≤ q) (xS X).heap H locs) (hj : j < N) (hfin : (T j).2.2.2 = true) (hdecl : (T j).1 = own) (hl : Cond.fieldLink own idx (T j).1 (T j).2.1 (T j).2.2.1 ∈ zTW) (hn : narrow (ty j) w = w) (hfit : fits (ty j) w = true) (d : decode cc pc = .ok (.putfield idx, 3))
    (kk : ∀ (H1 : Heap) (locs1 : List Loc), zob Y ci a H1 (updV f j w) → H1.size = H.size → (∀ q : Nat, q ≠ a → H1[q]? = H[q]?) → va_S (fun q => a ≤ q) (xS X).heap H1 locs1 → zW X H1 locs1 u v (F0 (xM X) (pc + 3) ls st)) : zW X H locs u v (F0 (xM X) pc ls (w :: .ref a :: st)) := by
  have hts := O.2.2.2.1
  have hin := hc.2.1
  have hap := va_apart (own := own) hts hin ty hc.2.2.1 hc.2.2.2 O.2.2.2.2.1 hc.1
  obtain ⟨r, h1, cell, q1, q2, q3, q4⟩ := hob
  have hr : r = (C, T, N) := Option.some.inj (h1.symm.trans hc.1)
  subst hr
  obtain ⟨hS, hfc, kC, hkC, hkind⟩ := O.2.2.2.2.1.1 ci _ hc.1
  obtain ⟨cf, kf, fi, fd, hi, hsl⟩ := hS j hj
  have hlay := hts _ (hin _ (u_in_lay hj))
  unfold u_lay at hlay
  rw [if_pos hfin] at hlay
  have hst := (u_facts hfc hkC (u_lays hts hin hj) hi).1
  have hcf : (xM X).cls = cf := by
    obtain ⟨_, _, c', _, _, _, -, -, hf', -, -, -, hown2, -⟩ := Cond.laysFinal_spec hlay
    have e1 : c' = cf := by have := hi.symm.trans hf'; simp at this; exact this.1.symm
    rw [hdecl] at hown2
    rw [← e1]; exact Option.some.inj (O.2.2.1.symm.trans hown2)
  have h6 := u_fits hfc hkC hkind (Or.inr hlay) hi (hc.2.2.1 j hj) hn hfit
  refine W.putFinK O.1 O.2.1 O.2.2.1 (hts _ hl) hi hst hcf O.2.2.2.2.2.2 (by rw [q2]; exact h6) q1 q3 (by rw [hsl]; exact k2_hasslot (q4 j hj)) rfl rfl d fun H' e1 e2 e3 => ?_
  rw [hsl] at e1 ⊢
  exact kk H' _ ⟨_, h1, _, e1, q2, q3, t_set q4 hap hj w⟩ e2 e3 (hS0.put e2 e3 (Nat.le_refl a))
theorem cr_pF {C : String} {T : u_T} {N idx j : Nat} {ty : Nat → FieldType} {w : Value} (O : zOc X Y cc own) (hc : zCl ci C T N ty) (hj : j < N) (hfin : (T j).2.2.2 = true) (hdecl : (T j).1 = own) (hl : Cond.fieldLink own idx (T j).1 (T j).2.1 (T j).2.2.1 ∈ zTW) (hn : narrow (ty j) w = w) (hfit : fits (ty j) w = true) (d : decode cc pc = .ok (.putfield idx, 3)) (hk : zSc X Y ci a h u v (pc + 3) n (updV f j w) ls st) : zSc X Y ci a h u v pc n f ls (w :: .ref a :: st) := by
  intro H locs hC
  obtain ⟨hs, hob, hr, hS, han⟩ := hC
  refine zq_putF O hc hob hS hj hfin hdecl hl hn hfit d (fun H1 locs1 g1 g2 g3 g4 => ?_)
  exact hk H1 locs1 ⟨by rw [g2]; exact hs, g1, fun q q1 q2 => zRa_congr (hr q q1 q2) (g3 q (by omega)) rfl rfl rfl, g4, han⟩
theorem cr_pN {C : String} {T : u_T} {N idx j : Nat} {ty : Nat → FieldType} {w : Value} (O : zOc X Y cc own) (hc : zCl ci C T N ty) (hj : j < N) (hfin : (T j).2.2.2 = false) (hl : Cond.fieldLink own idx (T j).1 (T j).2.1 (T j).2.2.1 ∈ zTW) (hn : narrow (ty j) w = w) (hfit : fits (ty j) w = true) (d : decode cc pc = .ok (.putfield idx, 3)) (hk : zSc X Y ci a h u v (pc + 3) n (updV f j w) ls st) : zSc X Y ci a h u v pc n f ls (w :: .ref a :: st) := by
  intro H locs hC
  obtain ⟨hs, ⟨r, h1, hob⟩, hr, hS, han⟩ := hC
  have er : r = (C, T, N) := Option.some.inj (h1.symm.trans hc.1)
  subst er
  refine zq_put O.1 O.2.1 O.2.2.2.1 hc.2.1 ty hc.2.2.1 hc.2.2.2 O.2.2.1 O.2.2.2.2.1 hob hS (Nat.le_refl a) hc.1 j hj (O.2.2.2.1 _ hl) hfin hn hfit d (fun H1 locs1 g1 g2 g3 => ?_)
  have hsz : H1.size = n := by
    have e1 : ∀ q : Nat, q ≠ a → (H1[q]? = none ↔ H[q]? = none) := fun q hq => by rw [g2 q hq]
    have e2 : H1[n]? = none := by rw [g2 n (by omega)]; exact Array.getElem?_eq_none (by omega)
    have e3 : H1.size ≤ n := Array.getElem?_eq_none_iff.mp e2
    rcases Nat.lt_or_ge H1.size n with z | z
    · exfalso
      obtain ⟨cell, g4, -⟩ := g1
      have ha1 : a < H1.size := (Array.getElem?_eq_some_iff.mp g4).1
      have e5 : H1[H1.size]? = none := Array.getElem?_eq_none (Nat.le_refl _)
      rw [g2 _ (by omega)] at e5
      have := Array.getElem?_eq_none_iff.mp e5
      omega
    · omega
  exact hk H1 locs1 ⟨hsz, ⟨_, h1, g1⟩, fun q q1 q2 => zRa_congr (hr q q1 q2) (g2 q (by omega)) rfl rfl rfl, g3, han⟩
theorem cr_gt {C : String} {T : u_T} {N idx j : Nat} {ty : Nat → FieldType} (O : zOc X Y cc own) (hc : zCl ci C T N ty) (hj : j < N) (hl : Cond.fieldLink own idx (T j).1 (T j).2.1 (T j).2.2.1 ∈ zTW) (d : decode cc pc = .ok (.getfield idx, 3)) (hk : zSc X Y ci a h u v (pc + 3) n f ls (f j :: st)) : zSc X Y ci a h u v pc n f ls (.ref a :: st) := by
  intro H locs hC
  obtain ⟨r, h1, hob⟩ := hC.2.1
  have er : r = (C, T, N) := Option.some.inj (h1.symm.trans hc.1)
  subst er
  exact zq_get O.1 O.2.1 O.2.2.2.1 hc.2.1 O.2.2.1 O.2.2.2.2.1 hob hc.1 j hj (O.2.2.2.1 _ hl) d (hk H locs hC)
theorem cr_ia {b k j : Nat} {x : Int32} (O : zOc X Y cc own) (hb1 : a < b) (hb2 : b < n) (hK : yK Y b = (1, k)) (hj : j < k) (hk2 : k ≤ 10000) (d : decode cc pc = .ok (.iastore, 1)) (hk : zSc X Y ci a (zsI h b j x) u v (pc + 1) n f ls st) : zSc X Y ci a h u v pc n f ls (.int x :: .int (nI j) :: .ref b :: st) := by
  intro H locs hC
  obtain ⟨hs, hob, hr, hS, han⟩ := hC
  have hin : ¬ (nI j < 0 ∨ k ≤ (nI j).toNatClampNeg) := by
    rw [nI_clamp (by omega)]
    rintro (z | z)
    · exact Int32.not_lt.mpr (nI_pos' (by omega)) z
    · omega
  refine W.iast O.1 O.2.1 ((hr b hb1 hb2).1 _ hK) ((O.2.2.2.2.1.2 0 _ rfl).1 k (fun i => .int (h.1 b i))) (fun q => by cases q) (by show ¬ (_ ∨ (arrV _ _ _).slots.size ≤ _); rw [arrV_size]; exact hin) rfl rfl d fun H1 e1 e2 e3 => ?_
  refine hk H1 _ ⟨by rw [e2]; exact hs, zob_kept hob (e3 a (Nat.ne_of_lt hb1)), fun q q1 q2 => ?_, hS.put e2 e3 (Nat.le_of_lt hb1), han⟩
  by_cases e : q = b
  · subst e
    refine ⟨fun m hm => ?_, fun m hm => ?_, fun m hm => ?_, fun m hm => ?_, fun m hm => ?_, fun cj m hm => ?_⟩
    · rw [hK] at hm
      cases hm
      rw [e1, nI_clamp (by omega)]
      rw [show (zsI h q j x).1 q = va_up (h.1 q) j x from zup_s _ _ _]
      exact congrArg some (zupd_arr .int _ _ _ _ _)
    all_goals
      rw [hK] at hm
      have := congrArg Prod.fst hm
      simp only at this
      omega
  · exact zRa_congr (hr q q1 q2) (e3 q e) (by rw [zsI_ro _ _ _ e]) rfl rfl
/-- the end: the object is whole -/
theorem cr_rt {cF : zH → Prop} {cnt : Nat} (O : zOc X Y cc own) (hr : (xH X).sig.returnType = none) (hlk : (xH X).locks = false) (hQ : xQ X = MQ (xB X) (zQi Y a cnt cF) (xA X) (xS X) u v (fun q => a ≤ q)) (d : decode cc pc = .ok (.return_, 1)) (hn : n = a + cnt) (hK : yK Y a = (10 + ci, 0)) (hf : ∀ (C : String) (T : u_T) (N : Nat), vwCl[ci]? = some (C, T, N) → ∀ k, k < N → f k = zfv ci k a h) (hm2 : ∀ k : Nat, (zF ci k).1 = 2 → yK Y (h.2.2 a k) = (zF ci k).2.2) (hF : cF h) : zSc X Y ci a h u v pc n f ls [] := by
  intro H locs hC
  obtain ⟨hs, hob, hreg, hS, han⟩ := hC
  unfold zW
  rw [hQ]
  refine W.vret O.1 O.2.1 hr (fun t ht hW => ⟨⟨rfl, by rw [ht, hs, hn], h, fun q q1 q2 => ?_, hF⟩, hS.F ht⟩) hS.2.2 d hlk
  rw [ht]
  by_cases e : q = a
  · subst e
    refine ⟨fun m hm => ?_, fun m hm => ?_, fun m hm => ?_, fun m hm => ?_, fun m hm => ?_, fun cj m hm => ?_⟩
    rotate_left 5
    · rw [hK] at hm
      have e1 := congrArg Prod.fst hm
      simp only at e1
      have e2 : cj = ci := by omega
      subst e2
      obtain ⟨r, h1, h2⟩ := hob
      exact ⟨r, h1, h2.to (fun k hk => hf r.1 r.2.1 r.2.2 h1 k hk), hm2⟩
    all_goals
      rw [hK] at hm
      have := congrArg Prod.fst hm
      simp only at this
      omega
  · exact hreg q (by omega) (by omega)
end ZC

