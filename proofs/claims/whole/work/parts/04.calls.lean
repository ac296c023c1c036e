/-! contracts: logical variables of a type, arguments, what is asked, what comes -/
abbrev zC (α : Type) : Type := (α → List zV) × ((α → zH → Prop) × (α → zH → Option zV → zH → Prop))
def zPc (Y : zY) (sz : Nat) (av : List zV) (h : zH) : Array Value → State → Prop := fun a U => a = (av.map zv).toArray ∧ U.heap.size = sz ∧ zR Y h U.heap ∧ zK Y U ∧ zS Y U U.heap ∧ yO Y ≤ U.heap.size
def zQc (Y : zY) (sz : Nat) (F : Option zV → zH → Prop) : Array Value → State → Outcome → State → Prop := fun _ st o t => (∃ (r : Option zV) (h' : zH), o = .returned (r.map zv) ∧ F r h' ∧ (∀ q : zV, r = some q → zok Y q) ∧ zR Y h' t.heap) ∧ va_F (zA Y sz) st t
def zM {α : Type} (y : MethodName) (b : ByteArray) (nL : Nat) (rt : Option FieldType) (rm : Room) (c : zC α) : Prop := ∀ (l : Launch) (Y : zY) (sz : Nat) (x : α) (h : zH), zWF Y → (∀ q ∈ c.1 x, zok Y q) → c.2.1 x h → Met l y (.code y b nL rt :: zTW) rm (zPc Y sz (c.1 x) h) (zQc Y sz (c.2.2 x h)) 0 0 (zA Y sz)
theorem zPc_blind {Y : zY} {sz : Nat} {av : List zV} {h : zH} : FrameBlind (zPc Y sz av h) := by
  intro a U g mk hp
  obtain ⟨h1, h2, h3, h4, h5, h6⟩ := hp
  exact ⟨h1, h2, h3, va_K.moved (u := U) (U := U.calling g mk a) (Vm.Alike.refl U.vm) h4, zS_moved (s := U) (U := U.calling g mk a) (State.WarmedH.refl U) h6 (fun _ _ => rfl) h5, h6⟩
def zpush : Option zV → List zV → List zV
  | some q, st => q :: st
  | none, st => st
theorem zpush_map (r : Option zV) (st : List zV) : (r.map zv).toList ++ st.map zv = (zpush r st).map zv := by
  cases r <;> rfl
def zpop : Nat → List zV → List zV → (List zV → List zV → Prop) → Prop
  | 0, acc, st, k => k acc st
  | n + 1, acc, v :: st, k => zpop n (v :: acc) st k
  | _ + 1, _, [], _ => False
theorem zpop_spec : ∀ (n : Nat) (acc st : List zV) (k : List zV → List zV → Prop), zpop n acc st k → ∃ bs st' : List zV, st = bs ++ st' ∧ bs.length = n ∧ k (bs.reverse ++ acc) st'
  | 0, acc, st, k, h => ⟨[], st, rfl, rfl, h⟩
  | n + 1, acc, v :: st, k, h => by
    obtain ⟨bs, st', h1, h2, h3⟩ := zpop_spec n (v :: acc) st k h
    exact ⟨v :: bs, st', by rw [h1]; rfl, by simp [h2], by simpa using h3⟩
  | n + 1, acc, [], k, h => False.elim h
/-- a call -/
def zi_c' {α : Type} (n : Nat) (c : zC α) (k : zT) : zT := fun ls st h => zpop n [] st (fun av st' => cond (Nat.ble (zw st') 8) (∃ x : α, av = c.1 x ∧ c.2.1 x h ∧ ∀ (r : Option zV) (h' : zH), c.2.2 x h r h' → k ls (zpush r st') h') False)
/-- a method's words: its code, its class, how many parameters; it makes no cells -/
def zBn (y : MethodName) (b : ByteArray) (nL : Nat) (rt : Option FieldType) (rm : Room) (n : Nat) : Prop := Cond.code y b nL rt ∈ zTW ∧ Cond.initialized y.cls ∈ zTW ∧ (y.cls ≠ "java/lang/invoke/MethodHandle" ∧ y.cls ≠ "java/lang/invoke/VarHandle" ∧ (parseMethodDescriptor y.desc).map (fun d => d.parameters.length) = some n) ∧ rm.cells = 0 ∧ rm.slots = 0
def zVw (ci : Nat) (y : MethodName) : Prop := Cond.instanceMethod y ∈ zTW ∧ Cond.selects y.cls y y ∈ zTW ∧ ∃ (T : u_T) (N : Nat), vwCl[ci]? = some (y.cls, T, N)
theorem zGood {w : Cond} (h : w ∈ zTW) : GoodIn zTW (w :: zTW) := by
  intro z hz
  have h1 : z ∈ zTW := (List.mem_cons.mp hz).elim (fun e => e ▸ h) id
  exact ⟨h1, good_of_word (List.mem_filter.mp h1).2⟩
section ZD
variable {p : Program} {l : Launch} {e : Env} {R : Room} {s : State} {m : MethodId} {args : Array Value} {below : List Frame} {meth : Method} {c : Code} {H : Heap} {locs : List Loc} {cells slots : Nat} {Q : State → Prop}
variable {pc : Nat} {ls : Array Slot} {rest st0 : List Value} {a : Array Value} {Y : zY}
theorem zA_mono {sz sz' q : Nat} (h : sz ≤ sz') (hq : zA Y sz' q) : zA Y sz q := hq.elim Or.inl (fun z => Or.inr (Nat.le_trans h z))
theorem zq_call {F : Option zV → zH → Prop} (hr : va_Run p l e R s m args below meth c H locs cells slots 0 0 (F0 m pc ls st0) rest (zQc Y H.size F a) (zA Y H.size)) (hS : va_S (zA Y s.heap.size) s.heap H locs)
    (kk : ∀ (r : Option zV) (h' : zH) (H1 : Heap) (locs1 : List Loc), F r h' → (∀ q : zV, r = some q → zok Y q) → zR Y h' H1 → H.size ≤ H1.size → (∀ q : Nat, q < H.size → ¬ zA Y H.size q → H1[q]? = H[q]?) → va_S (zA Y s.heap.size) s.heap H1 locs1 → W p l e R s m args below meth c H1 locs1 cells slots Q (F0 m (pc + 3) ls ((r.map zv).toList ++ rest))) : W p l e R s m args below meth c H locs cells slots Q (F0 m pc ls st0) := by
  intro T hT X
  obtain ⟨v, st₀, t, T', L, h0, X', hL, e1, e2, ⟨⟨r, h', hv, hF, hok, hR⟩, hFr⟩, st⟩ := hr T hT X
  cases hv
  obtain ⟨k1, k2, k3⟩ := vx_keep h0 e1 hS (fun q _ h => zA_mono hS.1 h) (fun q h => zA_mono hS.1 h) hL hFr
  obtain ⟨t2, a1, b1⟩ := kk r h' T'.heap (locs ++ L) hF hok (by rw [e1]; exact hR) k1 k2 k3 T' rfl X'
  exact ⟨t2, st t2 a1, b1⟩
end ZD
section ZE
variable {X : zX} {Y : zY} {u v pc : Nat} {cc : ByteArray} {own : String} {k : zT}
theorem zpre {h : zH} {H : Heap} {locs : List Loc} {av : List zV} (O : zOK X Y cc own) (hR : zR Y h H) (hS : va_S (zA Y (xS X).heap.size) (xS X).heap H locs) : ∀ U : State, U.heap = H → (xS X).WarmedH U.vm → zPc Y H.size av h (av.map zv).toArray U := by
  intro U hU hW
  have hlo := zS_lo O.2.2.2.2.2.2.1 O.2.2.2.2.2.2.2 hS
  refine ⟨rfl, by rw [hU], by rw [hU]; exact hR, va_K.moved hW.alike O.2.2.2.2.1, ?_, by rw [hU]; exact Nat.le_trans O.2.2.2.2.2.2.2 hlo.1⟩
  rw [hU]
  exact zS_moved hW O.2.2.2.2.2.2.2 (fun a ha => hlo.2.1 a (Nat.lt_of_lt_of_le ha O.2.2.2.2.2.2.2) (Nat.not_le.mpr ha)) O.2.2.2.2.2.1
theorem zr_cV {α : Type} {c : zC α} {y : MethodName} {b : ByteArray} {nLy idx n ci : Nat} {rty : Option FieldType} {rm : Room} (O : zOK X Y cc own) (hM : zM y b nLy rty rm c) (hB : zBn y b nLy rty rm n) (hV : zVw ci y) (hl : Cond.methodLink own idx y ∈ zTW) (hrc : ∀ x : α, ∃ (j a : Nat) (As : List zV), c.1 x = vR (10 + ci) j a :: As)
    (hr : rm.frames + 1 ≤ (xR X).frames ∧ 8 + (nLy + 11) + rm.locals ≤ (xR X).locals ∧ u ≤ (xR X).cells ∧ v ≤ (xR X).slots) (d : decode cc pc = .ok (.invokevirtual idx, 3)) (hk : zSd X Y u v (pc + 3) k) : zSd X Y u v pc (zi_c' (n + 1) c k) := by
  intro ls st h t H locs lsA hR hL hv hS
  obtain ⟨bs, st', rfl, hbs, t⟩ := zpop_spec _ _ _ _ t
  obtain ⟨b8, x, hx, hP, t⟩ := zcond t
  have hb8 := Nat.le_of_ble_eq_true b8
  rw [List.append_nil] at hx
  obtain ⟨j, a, As, hA⟩ := hrc x
  have hbs2 : bs = As.reverse ++ [vR (10 + ci) j a] := by
    have := congrArg List.reverse (hx.trans hA)
    rw [List.reverse_reverse, List.reverse_cons] at this
    exact this
  have hAn : As.length = n := by rw [hbs2] at hbs; simp at hbs; exact hbs
  have hok : ∀ q ∈ c.1 x, zok Y q := fun q hq => hv q (List.mem_append_left _ (by rw [← hx] at hq; exact List.mem_reverse.mp hq))
  have hka : yK Y a = (10 + ci, j) := hok (vR (10 + ci) j a) (by rw [hA]; exact List.mem_cons_self)
  obtain ⟨r, h1, ⟨cell, g1, g2, g3, -⟩, -⟩ := (hR a).2.2.2.2.2 ci _ hka
  obtain ⟨hVi, hVs, T, N, hVc⟩ := hV
  have hcls := (O.2.2.2.2.1.1 ci _ hVc).2
  have hts := O.2.2.2.1
  have hmap : (c.1 x).map zv = .ref a :: As.map zv := by rw [hA]; rfl
  refine zq_call (F := c.2.2 x h) (a := (.ref a :: As.map zv : List Value).toArray) (rest := st'.map zv) (va_runV (Ts := zTW) (C := y.cls) (b := a) (As := As.map zv) ⟨O.1, O.2.1, rfl, O.2.2.1, hts⟩ (hM X.2.1 Y H.size x h O.2.2.2.2.2.2.1 hok hP) ⟨callB_of n hts (zGood hB.1) rfl hB.2.2.2.1 hB.2.2.2.2 (hts _ hB.2.1) (hts _ hl) hB.2.2.1 ⟨hr.1, hr.2.1⟩, hts _ hVi, hts _ hVs⟩ ⟨zPc_blind, ⟨cell, g1, by rw [g3]; rfl, by rw [g2]; exact hcls.1⟩, fun U hU hW => by rw [← hmap]; exact zpre O hR hS U hU hW⟩ rfl (by simp [hAn]) hL.1.1 (by rw [hbs2]; simp [zv]) (lv_room (by rw [zw_sum]; exact hb8)) d ⟨hr.2.2.1, hr.2.2.2⟩) hS (fun r h' H1 locs1 hF hrok hR1 _ _ hS1 => ?_)
  rw [zpush_map]
  refine hk _ _ _ (t r h' hF) H1 locs1 lsA hR1 hL (fun q hq => ?_) hS1
  cases r with
  | none => exact hv q (List.mem_append_right _ hq)
  | some w => exact (List.mem_cons.mp hq).elim (fun e => e ▸ hrok w rfl) (fun z => hv q (List.mem_append_right _ z))
theorem zr_cS {α : Type} {c : zC α} {y : MethodName} {b : ByteArray} {nLy idx n : Nat} {rty : Option FieldType} {rm : Room} (O : zOK X Y cc own) (hM : zM y b nLy rty rm c) (hB : zBn y b nLy rty rm n) (hst : Cond.static y ∈ zTW) (hl : Cond.methodLink own idx y ∈ zTW)
    (hr : rm.frames + 1 ≤ (xR X).frames ∧ 8 + (nLy + 11) + rm.locals ≤ (xR X).locals ∧ u ≤ (xR X).cells ∧ v ≤ (xR X).slots) (d : decode cc pc = .ok (.invokestatic idx, 3)) (hk : zSd X Y u v (pc + 3) k) : zSd X Y u v pc (zi_c' n c k) := by
  intro ls st h t H locs lsA hR hL hv hS
  obtain ⟨bs, st', rfl, hbs, t⟩ := zpop_spec _ _ _ _ t
  obtain ⟨b8, x, hx, hP, t⟩ := zcond t
  have hb8 := Nat.le_of_ble_eq_true b8
  rw [List.append_nil] at hx
  have hbs2 : bs = (c.1 x).reverse := by rw [← hx, List.reverse_reverse]
  have hAn : (c.1 x).length = n := by rw [← hx, List.length_reverse]; exact hbs
  have hok : ∀ q ∈ c.1 x, zok Y q := fun q hq => hv q (List.mem_append_left _ (by rw [← hx] at hq; exact List.mem_reverse.mp hq))
  have hts := O.2.2.2.1
  refine zq_call (F := c.2.2 x h) (a := ((c.1 x).map zv).toArray) (rest := st'.map zv) (va_runS (Ts := zTW) (As := (c.1 x).map zv) ⟨O.1, O.2.1, rfl, O.2.2.1, hts⟩ (hM X.2.1 Y H.size x h O.2.2.2.2.2.2.1 hok hP) ⟨callB_of n hts (zGood hB.1) rfl hB.2.2.2.1 hB.2.2.2.2 (hts _ hB.2.1) (hts _ hl) hB.2.2.1 ⟨hr.1, hr.2.1⟩, hts _ hst⟩ ⟨zPc_blind, fun U hU hW => zpre O hR hS U hU hW⟩ rfl (by simp [hAn]) hL.1.1 (by rw [hbs2]; simp [zv]) (lv_room (by rw [zw_sum]; exact hb8)) d ⟨hr.2.2.1, hr.2.2.2⟩) hS (fun r h' H1 locs1 hF hrok hR1 _ _ hS1 => ?_)
  rw [zpush_map]
  refine hk _ _ _ (t r h' hF) H1 locs1 lsA hR1 hL (fun q hq => ?_) hS1
  cases r with
  | none => exact hv q (List.mem_append_right _ hq)
  | some w => exact (List.mem_cons.mp hq).elim (fun e => e ▸ hrok w rfl) (fun z => hv q (List.mem_append_right _ z))
theorem zr_cSN {α : Type} {c : zC α} {y : MethodName} {b : ByteArray} {nLy idx n : Nat} {rty : Option FieldType} {rm : Room} {host : String} (O : zOK X Y cc own) (hM : zM y b nLy rty rm c) (hB : zBn y b nLy rty rm n) (hst : Cond.static y ∈ zTW) (hl : (own, idx, y, host) ∈ zNest)
    (hr : rm.frames + 1 ≤ (xR X).frames ∧ 8 + (nLy + 11) + rm.locals ≤ (xR X).locals ∧ u ≤ (xR X).cells ∧ v ≤ (xR X).slots) (d : decode cc pc = .ok (.invokestatic idx, 3)) (hk : zSd X Y u v (pc + 3) k) : zSd X Y u v pc (zi_c' n c k) := by
  intro ls st h t H locs lsA hR hL hv hS
  obtain ⟨bs, st', rfl, hbs, t⟩ := zpop_spec _ _ _ _ t
  obtain ⟨b8, x, hx, hP, t⟩ := zcond t
  have hb8 := Nat.le_of_ble_eq_true b8
  rw [List.append_nil] at hx
  have hbs2 : bs = (c.1 x).reverse := by rw [← hx, List.reverse_reverse]
  have hAn : (c.1 x).length = n := by rw [← hx, List.length_reverse]; exact hbs
  have hok : ∀ q ∈ c.1 x, zok Y q := fun q hq => hv q (List.mem_append_left _ (by rw [← hx] at hq; exact List.mem_reverse.mp hq))
  have hts := O.2.2.2.1
  refine zq_call (F := c.2.2 x h) (a := ((c.1 x).map zv).toArray) (rest := st'.map zv) (va_runSN (Ts := zTW) (As := (c.1 x).map zv) ⟨O.1, O.2.1, rfl, O.2.2.1, hts⟩ (hM X.2.1 Y H.size x h O.2.2.2.2.2.2.1 hok hP) ⟨va_cnB n hts (zGood hB.1) rfl hB.2.2.2.1 hB.2.2.2.2 (O.2.2.2.2.2.1.1 _ hl) (hts _ hB.2.1) hB.2.2.1 ⟨hr.1, hr.2.1⟩, hts _ hst, trivial⟩ ⟨zPc_blind, fun U hU hW => zpre O hR hS U hU hW⟩ rfl (by simp [hAn]) hL.1.1 (by rw [hbs2]; simp [zv]) (lv_room (by rw [zw_sum]; exact hb8)) d ⟨hr.2.2.1, hr.2.2.2⟩) hS (fun r h' H1 locs1 hF hrok hR1 _ _ hS1 => ?_)
  rw [zpush_map]
  refine hk _ _ _ (t r h' hF) H1 locs1 lsA hR1 hL (fun q hq => ?_) hS1
  cases r with
  | none => exact hv q (List.mem_append_right _ hq)
  | some w => exact (List.mem_cons.mp hq).elim (fun e => e ▸ hrok w rfl) (fun z => hv q (List.mem_append_right _ z))
/-! contracts of a simple form, and what a call of them asks -/
/-- an int, nothing changed -/
def zcI {α : Type} (A : α → List zV) (P : α → zH → Prop) (f : α → zH → Int32) : zC α := (A, P, fun x h r h' => r = some (.inl (f x h)) ∧ h' = h)
def zi_cI {α : Type} (n : Nat) (A : α → List zV) (P : α → zH → Prop) (f : α → zH → Int32) (k : zT) : zT := fun ls st h => zpop n [] st (fun av st' => cond (Nat.ble (zw st') 8) (∃ x : α, av = A x ∧ P x h ∧ k ls (.inl (f x h) :: st') h) False)
theorem zpop_mono : ∀ (n : Nat) (acc st : List zV) (k k' : List zV → List zV → Prop), (∀ a b, k a b → k' a b) → zpop n acc st k → zpop n acc st k'
  | 0, _, _, _, _, hk, h => hk _ _ h
  | n + 1, acc, v :: st, k, k', hk, h => zpop_mono n (v :: acc) st k k' hk h
  | _ + 1, _, [], _, _, _, h => h
theorem zcond_mono {b : Bool} {A B : Prop} (h : A → B) (hc : cond b A False) : cond b B False := by
  cases b with
  | true => exact h hc
  | false => exact hc
theorem zr_cI {α : Type} {n : Nat} {A : α → List zV} {P : α → zH → Prop} {f : α → zH → Int32} (hk : zSd X Y u v pc (zi_c' n (zcI A P f) k)) : zSd X Y u v pc (zi_cI n A P f k) := by
  refine zSd_weak hk (fun ls st h t => zpop_mono _ _ _ _ _ (fun av st' hc => zcond_mono ?_ hc) t)
  rintro ⟨x, h1, h2, h3⟩
  exact ⟨x, h1, h2, fun r h' ⟨e1, e2⟩ => by subst e1; subst e2; exact h3⟩
/-- a long, nothing changed -/
def zcL {α : Type} (A : α → List zV) (P : α → zH → Prop) (f : α → zH → Int64) : zC α := (A, P, fun x h r h' => r = some (.inr (.inl (f x h))) ∧ h' = h)
def zi_cL {α : Type} (n : Nat) (A : α → List zV) (P : α → zH → Prop) (f : α → zH → Int64) (k : zT) : zT := fun ls st h => zpop n [] st (fun av st' => cond (Nat.ble (zw st') 8) (∃ x : α, av = A x ∧ P x h ∧ k ls (.inr (.inl (f x h)) :: st') h) False)
theorem zr_cL {α : Type} {n : Nat} {A : α → List zV} {P : α → zH → Prop} {f : α → zH → Int64} (hk : zSd X Y u v pc (zi_c' n (zcL A P f) k)) : zSd X Y u v pc (zi_cL n A P f k) := by
  refine zSd_weak hk (fun ls st h t => zpop_mono _ _ _ _ _ (fun av st' hc => zcond_mono ?_ hc) t)
  rintro ⟨x, h1, h2, h3⟩
  exact ⟨x, h1, h2, fun r h' ⟨e1, e2⟩ => by subst e1; subst e2; exact h3⟩
/-- nothing answered, the heap becomes g -/
def zcV {α : Type} (A : α → List zV) (P : α → zH → Prop) (g : α → zH → zH) : zC α := (A, P, fun x h r h' => r = none ∧ h' = g x h)
def zi_cV {α : Type} (n : Nat) (A : α → List zV) (P : α → zH → Prop) (g : α → zH → zH) (k : zT) : zT := fun ls st h => zpop n [] st (fun av st' => cond (Nat.ble (zw st') 8) (∃ x : α, av = A x ∧ P x h ∧ k ls st' (g x h)) False)
theorem zr_cVv {α : Type} {n : Nat} {A : α → List zV} {P : α → zH → Prop} {g : α → zH → zH} (hk : zSd X Y u v pc (zi_c' n (zcV A P g) k)) : zSd X Y u v pc (zi_cV n A P g k) := by
  refine zSd_weak hk (fun ls st h t => zpop_mono _ _ _ _ _ (fun av st' hc => zcond_mono ?_ hc) t)
  rintro ⟨x, h1, h2, h3⟩
  exact ⟨x, h1, h2, fun r h' ⟨e1, e2⟩ => by subst e1; subst e2; exact h3⟩
/-- an int, and the heap becomes g -/
def zcH {α : Type} (A : α → List zV) (P : α → zH → Prop) (f : α → zH → Int32) (g : α → zH → zH) : zC α := (A, P, fun x h r h' => r = some (.inl (f x h)) ∧ h' = g x h)
def zi_cH {α : Type} (n : Nat) (A : α → List zV) (P : α → zH → Prop) (f : α → zH → Int32) (g : α → zH → zH) (k : zT) : zT := fun ls st h => zpop n [] st (fun av st' => cond (Nat.ble (zw st') 8) (∃ x : α, av = A x ∧ P x h ∧ k ls (.inl (f x h) :: st') (g x h)) False)
theorem zr_cH {α : Type} {n : Nat} {A : α → List zV} {P : α → zH → Prop} {f : α → zH → Int32} {g : α → zH → zH} (hk : zSd X Y u v pc (zi_c' n (zcH A P f g) k)) : zSd X Y u v pc (zi_cH n A P f g k) := by
  refine zSd_weak hk (fun ls st h t => zpop_mono _ _ _ _ _ (fun av st' hc => zcond_mono ?_ hc) t)
  rintro ⟨x, h1, h2, h3⟩
  exact ⟨x, h1, h2, fun r h' ⟨e1, e2⟩ => by subst e1; subst e2; exact h3⟩
/-! ends -/
def zEnd (X : zX) (Y : zY) (rt : Option FieldType) (mc ms : Nat) (F : Option zV → zH → Prop) : Prop := (xH X).sig.returnType = rt ∧ (xH X).locks = false ∧ ∀ (H : Heap) (locs : List Loc) (g : JFrame), W X.1 X.2.1 X.2.2.1 (xR X) (xS X) (xM X) (xA X) (xB X) (xH X) (xC X) H locs mc ms (MQ (xB X) (zQc Y (xS X).heap.size F) (xA X) (xS X) mc ms (zA Y (xS X).heap.size)) g → zW X H locs mc ms g
def zi_iret (F : Option zV → zH → Prop) : zT := fun _ st h => match st with
  | [.inl x] => F (some (.inl x)) h
  | _ => False
def zi_zret (F : Option zV → zH → Prop) : zT := fun _ st h => match st with
  | [.inl x] => (x = 0 ∨ x = 1) ∧ F (some (.inl x)) h
  | _ => False
def zi_lret (F : Option zV → zH → Prop) : zT := fun _ st h => match st with
  | [.inr (.inl x)] => F (some (.inr (.inl x))) h
  | _ => False
def zi_aret (F : Option zV → zH → Prop) : zT := fun _ st h => match st with
  | [.inr (.inr x)] => F (some (.inr (.inr x))) h
  | _ => False
def zi_vret (F : Option zV → zH → Prop) : zT := fun _ st h => match st with
  | [] => F none h
  | _ => False
variable {mc ms : Nat} {F : Option zV → zH → Prop}
theorem zr_ireturn (O : zOK X Y cc own) (E : zEnd X Y (some .int) mc ms F) (hu : u ≤ mc) (hw : v ≤ ms) (d : decode cc pc = .ok (.ireturn, 1)) : zSd X Y u v pc (zi_iret F) := by
  intro ls st h t H locs lsA hR hL hv hS
  rcases st with _ | ⟨x | _, _ | ⟨_, _⟩⟩ <;> first | exact False.elim t | skip
  exact W.widen hu hw (E.2.2 _ _ _ (W.iret O.1 O.2.1 E.1 (fun T hT hW => ⟨⟨some (.inl x), h, rfl, t, fun q hq => by cases hq; trivial, by rw [hT]; exact hR⟩, hS.F hT⟩) hS.2.2 d (hlocks := E.2.1)))
theorem zr_zreturn (O : zOK X Y cc own) (E : zEnd X Y (some .boolean) mc ms F) (hu : u ≤ mc) (hw : v ≤ ms) (d : decode cc pc = .ok (.ireturn, 1)) : zSd X Y u v pc (zi_zret F) := by
  intro ls st h t H locs lsA hR hL hv hS
  rcases st with _ | ⟨x | _, _ | ⟨_, _⟩⟩ <;> first | exact False.elim t | skip
  exact W.widen hu hw (E.2.2 _ _ _ (W.zret O.1 O.2.1 E.1 (by rcases t.1 with e | e <;> rw [e] <;> rfl) (fun T hT hW => ⟨⟨some (.inl x), h, rfl, t.2, fun q hq => by cases hq; trivial, by rw [hT]; exact hR⟩, hS.F hT⟩) hS.2.2 d (hlocks := E.2.1)))
theorem zr_lreturn (O : zOK X Y cc own) (E : zEnd X Y (some .long) mc ms F) (hu : u ≤ mc) (hw : v ≤ ms) (d : decode cc pc = .ok (.lreturn, 1)) : zSd X Y u v pc (zi_lret F) := by
  intro ls st h t H locs lsA hR hL hv hS
  rcases st with _ | ⟨_ | x | _, _ | ⟨_, _⟩⟩ <;> first | exact False.elim t | skip
  exact W.widen hu hw (E.2.2 _ _ _ (W.lret O.1 O.2.1 E.1 (fun T hT hW => ⟨⟨some (.inr (.inl x)), h, rfl, t, fun q hq => by cases hq; trivial, by rw [hT]; exact hR⟩, hS.F hT⟩) hS.2.2 d (hlocks := E.2.1)))
theorem zr_areturn {rt : FieldType} (O : zOK X Y cc own) (E : zEnd X Y (some rt) mc ms F) (hrt : (∃ n, rt = .object n) ∨ ∃ t, rt = .array t) (hu : u ≤ mc) (hw : v ≤ ms) (d : decode cc pc = .ok (.areturn, 1)) : zSd X Y u v pc (zi_aret F) := by
  intro ls st h t H locs lsA hR hL hv hS
  rcases st with _ | ⟨_ | _ | x, _ | ⟨_, _⟩⟩ <;> first | exact False.elim t | skip
  exact W.widen hu hw (E.2.2 _ _ _ (W.aret O.1 O.2.1 E.1 hrt (Or.inr ⟨x.2, rfl⟩) (fun T hT hW => ⟨⟨some (.inr (.inr x)), h, rfl, t, fun q hq => by cases hq; exact (zq1 hv).1, by rw [hT]; exact hR⟩, hS.F hT⟩) hS.2.2 d (hlocks := E.2.1)))
theorem zr_return (O : zOK X Y cc own) (E : zEnd X Y none mc ms F) (hu : u ≤ mc) (hw : v ≤ ms) (d : decode cc pc = .ok (.return_, 1)) : zSd X Y u v pc (zi_vret F) := by
  intro ls st h t H locs lsA hR hL hv hS
  rcases st with _ | ⟨_, _⟩ <;> first | exact False.elim t | skip
  exact W.widen hu hw (E.2.2 _ _ _ (W.vret O.1 O.2.1 E.1 (fun T hT hW => ⟨⟨none, h, rfl, t, (fun q hq => by cases hq), by rw [hT]; exact hR⟩, hS.F hT⟩) hS.2.2 d (hlocks := E.2.1)))
end ZE
/-! a method: its contract out of its walk -/
def znl : List zV → Bool
  | [] => true
  | .inr (.inl _) :: _ => false
  | _ :: l => znl l
def zarg (av : List zV) (nL : Nat) : zL := av.map some ++ List.replicate (nL - av.length) none
theorem zarg_lv : ∀ (av : List zV) (i n : Nat), znl av = true → zlv i (av.map some ++ List.replicate n none) = lv_args i (av.map zv)
  | [], i, n, _ => by
    show zlv i (List.replicate n none) = []
    induction n generalizing i with
    | zero => rfl
    | succ n ih => exact ih (i + 1)
  | .inl x :: l, i, n, h => by
    show (i, zv (.inl x)) :: zlv (i + 1) (l.map some ++ List.replicate n none) = (i, zv (.inl x)) :: lv_args (i + 1) (l.map zv)
    rw [zarg_lv l (i + 1) n h]
  | .inr (.inr x) :: l, i, n, h => by
    show (i, zv (.inr (.inr x))) :: zlv (i + 1) (l.map some ++ List.replicate n none) = (i, zv (.inr (.inr x))) :: lv_args (i + 1) (l.map zv)
    rw [zarg_lv l (i + 1) n h]
  | .inr (.inl x) :: l, i, n, h => by cases h
theorem zarg_sl : ∀ (av : List zV), znl av = true → (lg_sl (av.map zv)).length = av.length
  | [], _ => rfl
  | .inl x :: l, h => by
    have := zarg_sl l h
    simp [lg_sl, zv, Value.category] at this ⊢
    omega
  | .inr (.inr x) :: l, h => by
    have := zarg_sl l h
    simp [lg_sl, zv, Value.category] at this ⊢
    omega
  | .inr (.inl x) :: l, h => by cases h
theorem zentry {X : zX} {Y : zY} {T : zT} {av : List zV} {nL : Nat} {h : zH} {Q : Nat} (hs : zSd X Y 0 0 0 T) (t : T (zarg av nL) [] h) (hnl : znl av = true) (hlen : av.length ≤ nL) (hml : (xC X).maxLocals = nL) (hok : ∀ q ∈ av, zok Y q) (hR : zR Y h (xS X).heap) : zW X (xS X).heap [] 0 0 (entryFrame (xM X) (av.map zv).toArray nL) := by
  rw [lg_entry_eq]
  have hl := lv_entry (av.map zv) (n := nL) (by rw [zarg_sl av hnl]; exact hlen)
  refine hs _ _ _ t _ _ _ hR ⟨?_, ?_, fun j v hj => ?_⟩ (fun q hq => by cases hq) va_S.rf
  · rw [zarg, zarg_lv av 0 _ hnl, hml]
    exact hl
  · rw [zarg, hml]
    simp
    omega
  · have hm : (some v : Option zV) ∈ zarg av nL := List.mem_of_getElem? hj
    rw [zarg] at hm
    rcases List.mem_append.mp hm with h1 | h1
    · obtain ⟨q, hq, e⟩ := List.mem_map.mp h1
      cases e
      exact hok _ hq
    · have := (List.mem_replicate.mp h1).2
      cases this
theorem zM_of {α : Type} {y : MethodName} {b : ByteArray} {nL : Nat} {rt : Option FieldType} {rm : Room} {c : zC α} (hy : plainName y.cls = true)
    (hb : ∀ (X : zX) (Y : zY) (x : α) (h : zH), c.2.1 x h → zOK X Y b y.cls → zEnd X Y rt 0 0 (c.2.2 x h) → xR X = rm → znl (c.1 x) = true ∧ (c.1 x).length ≤ nL ∧ ∃ T : zT, zSd X Y 0 0 0 T ∧ T (zarg (c.1 x) nL) [] h) : zM y b nL rt rm c := by
  intro l Y sz x h hF hok hP
  refine Met.ofW (cc := b) (maxL := nL) (ret := rt) hy rfl ?_
  intro p e s m args below meth cd s₁ B hml hv
  obtain ⟨rfl, rfl, hR, hK, hS, hlo⟩ := hv
  have hts := atoms_spec (ws := .code y b nL rt :: zTW) B.pre
  obtain ⟨hnl, hlen, T, hs, t⟩ := hb (p, l, e, rm, s, m, ((c.1 x).map zv).toArray, below, meth, cd, MQ below (zQc Y s.heap.size (c.2.2 x h)) ((c.1 x).map zv).toArray s 0 0 (zA Y s.heap.size)) Y x h hP ⟨B.exec, B.bytes, findClass_of_methodNamed B.named, fun w hw => hts w (List.mem_cons_of_mem _ hw), hK, hS, hF, hlo⟩ ⟨B.returns, B.notSynchronized, fun H locs g w => w⟩ rfl
  exact zentry (Q := 0) hs t hnl hlen hml hok hR
