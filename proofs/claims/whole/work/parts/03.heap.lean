/-! heap: updates -/
def zsI (h : zH) (a j : Nat) (x : Int32) : zH := (va_up h.1 a (va_up (h.1 a) j x), h.2)
def zsL (h : zH) (a j : Nat) (x : Int64) : zH := (h.1, va_up h.2.1 a (va_up (h.2.1 a) j x), h.2.2)
def zsR (h : zH) (a j b : Nat) : zH := (h.1, h.2.1, va_up h.2.2 a (va_up (h.2.2 a) j b))
def zsW (h : zH) (a : Nat) (f : Nat → Int32) : zH := (va_up h.1 a f, h.2)
theorem zup_s {α : Type} (f : Nat → α) (k : Nat) (x : α) : va_up f k x k = x := by simp [va_up]
theorem zup_n {α : Type} (f : Nat → α) {k j : Nat} (x : α) (h : j ≠ k) : va_up f k x j = f j := by simp [va_up, h]
theorem ztag {Y : zY} {a t t' n n' : Nat} (h : yK Y a = (t, n)) (h' : yK Y a = (t', n')) : t = t' ∧ n = n' := by
  rw [h] at h'
  cases h'
  exact ⟨rfl, rfl⟩
theorem zwr_of {t : Nat} (h : t = 1 ∨ t = 2 ∨ t = 3 ∨ t = 4 ∨ t = 5 ∨ 10 ≤ t) : zwr t := by
  unfold zwr; omega
theorem zA_of {Y : zY} {sz a t n : Nat} (h : yK Y a = (t, n)) (ht : zwr t) : zA Y sz a := Or.inl (by rw [h]; exact ht)
theorem zin_of {Y : zY} {a t n j : Nat} (hF : zWF Y) (h : yK Y a = (t, n)) (hj : j < n) : vp_in (nI j) n ∧ (nI j).toNatClampNeg = j := by
  have h1 : n < 2 ^ 31 := by have := hF.2.2 a; rw [h] at this; exact this
  exact ⟨vp_in_nI hj h1, nI_clamp (by omega)⟩
section ZH
variable {p : Program} {l : Launch} {e : Env} {R : Room} {s : State} {m : MethodId} {args : Array Value} {below : List Frame} {meth : Method} {c : Code} {H : Heap} {locs : List Loc} {cells slots : Nat} {Q : State → Prop}
variable {cc : ByteArray} {pc : Nat} {ls : Array Slot} {rest : List Value} {D : va_G} {cl : List vw_C} {A : Nat → Prop} {a : Nat} {tys : List (ClassId × FieldType)} {H0 : Heap}
theorem zq_get (hexec : p.tables.exec = Jvm.exec) (hb : c.code = cc) {own C : String} {T : u_T} {N ci index : Nat} {Ts : List Cond} (hts : ∀ w ∈ Ts, w.before args s = true) (hin : ∀ w ∈ u_ws C T N, w ∈ Ts) (hown : s.vm.findClass own = some m.cls) (hK : va_K D cl tys s) {V : Nat → Value} (hob : t_OB a (D.1 ci) N (D.2 ci) H V) (hc : cl[ci]? = some (C, T, N)) (k : Nat) (hk : k < N) (hlink : (Cond.fieldLink own index (T k).1 (T k).2.1 (T k).2.2.1).before args s = true) (hdg : decode cc pc = .ok (.getfield index, 3))
    (kk : W p l e R s m args below meth c H locs cells slots Q (F0 m (pc + 3) ls (V k :: rest))) : W p l e R s m args below meth c H locs cells slots Q (F0 m pc ls (.ref a :: rest)) := by
  obtain ⟨cell, q1, q2, q3, q4⟩ := hob
  obtain ⟨hS, hfc, kC, hkC, hkind⟩ := hK.1 ci _ hc
  obtain ⟨cf, kf, fi, f, hi, hsl⟩ := hS k hk
  refine W.getf hexec hb hown hlink hi (u_facts hfc hkC (u_lays hts hin hk) hi).1 q1 (by rw [q3]; exact fun h => by cases h) (v := V k) ?_ rfl rfl hdg kk
  rw [hsl, q4 k hk]
theorem zq_put (hexec : p.tables.exec = Jvm.exec) (hb : c.code = cc) {own C : String} {T : u_T} {N ci index : Nat} {Ts : List Cond} (hts : ∀ w ∈ Ts, w.before args s = true) (hin : ∀ w ∈ u_ws C T N, w ∈ Ts) (ty0 : Nat → FieldType) (hty : ∀ k, k < N → parseFieldDescriptor (T k).2.2.1 = some (ty0 k)) (hnm : ∀ a, a < N → ∀ b, b < N → a ≠ b → (T a).2.1 ≠ (T b).2.1) (hown : s.vm.findClass own = some m.cls) (hK : va_K D cl tys s) {V : Nat → Value} (hob : t_OB a (D.1 ci) N (D.2 ci) H V) (hS0 : va_S A H0 H locs) (hAa : A a) (hc : cl[ci]? = some (C, T, N)) (k : Nat) (hk : k < N) (hlink : (Cond.fieldLink own index (T k).1 (T k).2.1 (T k).2.2.1).before args s = true) (hfin : (T k).2.2.2 = false) {v : Value} (hn : narrow (ty0 k) v = v) (hfit : fits (ty0 k) v = true)
    (hdg : decode cc pc = .ok (.putfield index, 3)) (kk : ∀ (H1 : Heap) (locs1 : List Loc), t_OB a (D.1 ci) N (D.2 ci) H1 (updV V k v) → (∀ q : Nat, q ≠ a → H1[q]? = H[q]?) → va_S A H0 H1 locs1 → W p l e R s m args below meth c H1 locs1 cells slots Q (F0 m (pc + 3) ls rest)) : W p l e R s m args below meth c H locs cells slots Q (F0 m pc ls (v :: .ref a :: rest)) := by
  have hap := va_apart (own := own) hts hin ty0 hty hnm hK hc
  obtain ⟨cell, q1, q2, q3, q4⟩ := hob
  obtain ⟨hS, hfc, kC, hkC, hkind⟩ := hK.1 ci _ hc
  obtain ⟨cf, kf, fi, f, hi, hsl⟩ := hS k hk
  have hlay := hts _ (hin _ (u_in_lay hk))
  unfold u_lay at hlay
  rw [if_neg (by rw [hfin]; decide)] at hlay
  have hst := (u_facts hfc hkC (u_lays hts hin hk) hi).1
  have h6 := u_store hfc hkC hkind hlay hi (hty k hk) hn hfit
  refine W.putK hexec hb (f := f) ⟨hown, hlink, ⟨_, _, _, hi⟩, hst⟩ (by rw [q2]; exact h6) q1 q3 (by rw [hsl]; exact k2_hasslot (q4 k hk)) rfl rfl hdg fun H' e1 e2 e3 => ?_
  rw [hsl] at e1 ⊢
  exact kk H' _ ⟨_, e1, q2, q3, t_set q4 hap hk v⟩ e3 (hS0.put e2 e3 hAa)
theorem zq_copy (hexec : p.tables.exec = Jvm.exec) (hb : c.code = cc) (hml : c.maxLocals = ls.size) {own : String} {index : Nat} (hown : s.vm.findClass own = some m.cls) (hlink : (Cond.methodLink own index arraycopyName).before args s = true) (hnat : (Cond.native arraycopyName).before args s = true) (hstat : (Cond.static arraycopyName).before args s = true) (hini : (Cond.initialized "java/lang/System").before args s = true)
    (hS : va_S A H0 H locs) (hAa : A a) {a0 : Nat} {c0 c1 : ClassId} {n0 n1 : Nat} {f g : Nat → Int32} (hc0 : H[a0]? = some (vp_cell c0 (n0, .inl f))) (hc1 : H[a]? = some (vp_cell c1 (n1, .inl g))) (ht0 : ArrOfT s c0 .int) (ht1 : ArrOfT s c1 .int)
    {mm : Nat} {n : Int32} (hn : n = nI mm) (hm : mm < 2 ^ 31) (h4 : mm ≤ n0) (h5 : mm ≤ n1)
    (hframes : 1 ≤ R.frames) (hlocals : (rest.map fun v => v.category).sum + (nativeFrameWords "java/lang/System" "arraycopy" 5 + 11) ≤ R.locals) (hdg : decode cc pc = .ok (.invokestatic index, 3))
    (kk : ∀ (H1 : Heap) (locs1 : List Loc), H1[a]? = some (vp_cell c1 (n1, .inl (fun j => if j < mm then f j else g j))) → (∀ q : Nat, q ≠ a → H1[q]? = H[q]?) → va_S A H0 H1 locs1 → W p l e R s m args below meth c H1 locs1 cells slots Q (F0 m (pc + 3) ls rest)) : W p l e R s m args below meth c H locs cells slots Q (F0 m pc ls (.int n :: .int 0 :: .ref a :: .int 0 :: .ref a0 :: rest)) := by
  have hz : (0 : Int32).toNatClampNeg = 0 := sb_cl0
  have hz2 : (0 : Int32).toInt = 0 := rfl
  have hnn : n.toNatClampNeg = mm := by rw [hn]; exact nI_clamp hm
  have hni : n.toInt = (mm : Int) := by rw [hn]; exact nI_toInt hm
  intro T hT X
  obtain ⟨-, k0, hk0, cm0, hkk0⟩ := ht0 n0 (fun j => .int (f j))
  obtain ⟨-, k1, hk1, cm1, hkk1⟩ := ht1 n1 (fun j => .int (g j))
  obtain ⟨vm', X', step⟩ := X.arraycopy hexec hown hlink hnat hstat hini (src := a0) (dst := a) (cs := vp_cell c0 (n0, .inl f)) (cd := vp_cell c1 (n1, .inl g)) (srcPos := 0) (destPos := 0) (n := n) (by rw [hT]; exact hc0) (by rw [hT]; exact hc1)
    (fun _ h => by cases h) (fun _ h => by cases h) (fun h => by cases h) (fun h => by cases h) hk0 hk1 hkk0 hkk1 (by simp [refKind]) (by decide) (by decide) (by rw [hn]; exact nI_pos hm)
    (by rw [hz2, hni]; show ¬ _ > ((arrV c0 n0 (fun j => .int (f j))).slots.size : Int); rw [arrV_size]; omega)
    (by rw [hz2, hni]; show ¬ _ > ((arrV c1 n1 (fun j => .int (g j))).slots.size : Int); rw [arrV_size]; omega)
    (fun vm₁ _ i hi => by
      have e : (vp_cell c0 (n0, .inl f)).slots.getD ((0 : Int32).toNatClampNeg + i) .null = .int (f ((0 : Int32).toNatClampNeg + i)) := by
        show (arrV c0 n0 (fun j => .int (f j))).slots.getD _ _ = _
        rw [Array.getD_eq_getD_getElem?, arrV_read _ _ (by omega)]
        rfl
      refine ⟨?_, ?_⟩
      · rw [e]
        rfl
      · rw [e]
        exact trivial)
    (g := F0 m pc ls (.int n :: .int 0 :: .ref a :: .int 0 :: .ref a0 :: rest)) rfl (by rw [hml]) (rest := rest) rfl (by rw [hb]; exact hdg) hframes (by show 2 * 0 + _ + _ ≤ _; omega)
  have e1 : copied (vp_cell c0 (n0, .inl f)) (vp_cell c1 (n1, .inl g)) 0 0 n = vp_cell c1 (n1, .inl (va_cpy f g (0 : Int32).toNatClampNeg (0 : Int32).toNatClampNeg n.toNatClampNeg)) := va_copied (fun z => .int z) c0 c1 f g (by omega)
  have e2 : (va_cpy f g (0 : Int32).toNatClampNeg (0 : Int32).toNatClampNeg n.toNatClampNeg) = fun j => if j < mm then f j else g j := by
    funext j
    rw [hz, hnn]
    simp [va_cpy]
  rw [e1, e2] at X' step
  have hl : a < H.size := (Array.getElem?_eq_some_iff.mp hc1).1
  have oq : ∀ q : Nat, q ≠ a → (H.setIfInBounds a (vp_cell c1 (n1, .inl (fun j => if j < mm then f j else g j))))[q]? = H[q]? := fun q hq => by simp [Array.getElem?_setIfInBounds, Ne.symm hq]
  have hheap : ((T.setVm vm').setCell a (vp_cell c1 (n1, .inl (fun j => if j < mm then f j else g j)))).heap = H.setIfInBounds a (vp_cell c1 (n1, .inl (fun j => if j < mm then f j else g j))) := by rw [← hT]; rfl
  obtain ⟨t, a1, b1⟩ := kk _ _ (show (H.setIfInBounds a _)[a]? = some _ by simp [Array.getElem?_setIfInBounds, hl]) oq ⟨by simp; exact hS.1, fun q g1 g2 => by
      rw [oq q (fun e => g2 (by rw [e]; exact hAa))]
      exact hS.2.1 q g1 g2, fun q hq => by
      rcases List.mem_append.mp hq with h | h
      · exact hS.2.2 q h
      · obtain ⟨z, -, hz⟩ := List.mem_map.mp h
        rw [← hz]
        exact hAa⟩ _ hheap X'
  exact ⟨t, step t a1, b1⟩
end ZH
theorem zS_lo {Y : zY} {s : State} {H : Heap} {locs : List Loc} (hF : zWF Y) (hlo : yO Y ≤ s.heap.size) (h : va_S (zA Y s.heap.size) s.heap H locs) : va_S (fun q => yO Y ≤ q) s.heap H locs := by
  have hA : ∀ q, zA Y s.heap.size q → yO Y ≤ q := fun q hq => hq.elim (hF.2.1 q) (fun h => Nat.le_trans hlo h)
  exact ⟨h.1, fun q h1 h2 => h.2.1 q h1 (fun z => h2 (hA q z)), fun z hz => hA _ (h.2.2 z hz)⟩
section ZC
variable {X : zX} {Y : zY} {u v pc : Nat} {cc : ByteArray} {own : String} {k : zT}
/-- a class of the tables: its place, its fields' words, types, names -/
def zCl (ci : Nat) (C : String) (T : u_T) (N : Nat) (ty : Nat → FieldType) : Prop := vwCl[ci]? = some (C, T, N) ∧ (∀ w ∈ u_ws C T N, w ∈ zTW) ∧ (∀ k, k < N → parseFieldDescriptor (T k).2.2.1 = some (ty k)) ∧ ∀ a, a < N → ∀ b, b < N → a ≠ b → (T a).2.1 ≠ (T b).2.1
def zi_gI (ci j : Nat) (k : zT) : zT := fun ls st h => match st with
  | .inr (.inr (kd, a)) :: st' => cond (Nat.beq kd.1 (10 + ci)) (k ls (.inl (h.1 a j) :: st') h) False
  | _ => False
def zi_gS (ci off t n : Nat) (k : zT) : zT := fun ls st h => match st with
  | .inr (.inr (kd, a)) :: st' => cond (Nat.beq kd.1 (10 + ci)) (k ls (.inr (.inr ((t, n), a + off)) :: st') h) False
  | _ => False
def zi_gR (ci j t n : Nat) (k : zT) : zT := fun ls st h => match st with
  | .inr (.inr (kd, a)) :: st' => cond (Nat.beq kd.1 (10 + ci)) (k ls (.inr (.inr ((t, n), h.2.2 a j)) :: st') h) False
  | _ => False
theorem zcond {b : Bool} {A : Prop} (h : cond b A False) : b = true ∧ A := by
  cases b with
  | true => exact ⟨rfl, h⟩
  | false => exact False.elim h
theorem zbeq {a b : Nat} (h : Nat.beq a b = true) : a = b := Nat.eq_of_beq_eq_true h
theorem zkd {kd : Nat × Nat} {t : Nat} (h : kd.1 = t) : kd = (t, kd.2) := by
  cases kd; cases h; rfl
theorem zr_gI {ci j idx N : Nat} {C : String} {T : u_T} {ty : Nat → FieldType} (O : zOK X Y cc own) (hc : zCl ci C T N ty) (hj : j < N) (hf : (zF ci j).1 = 0) (hl : Cond.fieldLink own idx (T j).1 (T j).2.1 (T j).2.2.1 ∈ zTW) (d : decode cc pc = .ok (.getfield idx, 3)) (hk : zSd X Y u v (pc + 3) k) : zSd X Y u v pc (zi_gI ci j k) := by
  intro ls st h t H locs lsA hR hL hv hS
  rcases st with _ | ⟨_ | _ | ⟨kd, a⟩, st⟩ <;> first | exact False.elim t | skip
  obtain ⟨b, t⟩ := zcond t
  have hka : yK Y a = kd := (zq1 hv).1
  rw [zkd (zbeq b)] at hka
  obtain ⟨r, h1, h2, h3⟩ := (hR a).2.2.2.2.2 ci _ hka
  cases h1.symm.trans hc.1
  have e : zfv ci j a h = .int (h.1 a j) := by simp only [zfv, hf]
  refine zq_get O.1 O.2.1 O.2.2.2.1 hc.2.1 O.2.2.1 O.2.2.2.2.1 h2 hc.1 j hj (O.2.2.2.1 _ hl) d ?_
  rw [e]
  exact hk _ _ _ t H locs lsA hR hL (zqc trivial (zq1 hv).2) hS
theorem zr_gS {ci j idx N off t n : Nat} {C : String} {T : u_T} {ty : Nat → FieldType} (O : zOK X Y cc own) (hc : zCl ci C T N ty) (hj : j < N) (hf : zF ci j = (1, off, t, n)) (hl : Cond.fieldLink own idx (T j).1 (T j).2.1 (T j).2.2.1 ∈ zTW) (d : decode cc pc = .ok (.getfield idx, 3)) (hk : zSd X Y u v (pc + 3) k) : zSd X Y u v pc (zi_gS ci off t n k) := by
  intro ls st h t H locs lsA hR hL hv hS
  rcases st with _ | ⟨_ | _ | ⟨kd, a⟩, st⟩ <;> first | exact False.elim t | skip
  obtain ⟨b, t⟩ := zcond t
  have hka : yK Y a = kd := (zq1 hv).1
  rw [zkd (zbeq b)] at hka
  obtain ⟨r, h1, h2, h3⟩ := (hR a).2.2.2.2.2 ci _ hka
  cases h1.symm.trans hc.1
  have e : zfv ci j a h = .ref (a + off) := by simp only [zfv, hf]
  refine zq_get O.1 O.2.1 O.2.2.2.1 hc.2.1 O.2.2.1 O.2.2.2.2.1 h2 hc.1 j hj (O.2.2.2.1 _ hl) d ?_
  rw [e]
  have hw := O.2.2.2.2.2.2.1.1 a ci _ j hka (by rw [hf])
  rw [hf] at hw
  exact hk _ _ _ t H locs lsA hR hL (zqc hw (zq1 hv).2) hS
theorem zr_gR {ci j idx N off t n : Nat} {C : String} {T : u_T} {ty : Nat → FieldType} (O : zOK X Y cc own) (hc : zCl ci C T N ty) (hj : j < N) (hf : zF ci j = (2, off, t, n)) (hl : Cond.fieldLink own idx (T j).1 (T j).2.1 (T j).2.2.1 ∈ zTW) (d : decode cc pc = .ok (.getfield idx, 3)) (hk : zSd X Y u v (pc + 3) k) : zSd X Y u v pc (zi_gR ci j t n k) := by
  intro ls st h t H locs lsA hR hL hv hS
  rcases st with _ | ⟨_ | _ | ⟨kd, a⟩, st⟩ <;> first | exact False.elim t | skip
  obtain ⟨b, t⟩ := zcond t
  have hka : yK Y a = kd := (zq1 hv).1
  rw [zkd (zbeq b)] at hka
  obtain ⟨r, h1, h2, h3⟩ := (hR a).2.2.2.2.2 ci _ hka
  cases h1.symm.trans hc.1
  have e : zfv ci j a h = .ref (h.2.2 a j) := by simp only [zfv, hf]
  refine zq_get O.1 O.2.1 O.2.2.2.1 hc.2.1 O.2.2.1 O.2.2.2.2.1 h2 hc.1 j hj (O.2.2.2.1 _ hl) d ?_
  rw [e]
  have hw := h3 j (by rw [hf])
  rw [hf] at hw
  exact hk _ _ _ t H locs lsA hR hL (zqc hw (zq1 hv).2) hS
def zi_pI (ci j : Nat) (k : zT) : zT := fun ls st h => match st with
  | .inl x :: .inr (.inr (kd, a)) :: st' => cond (Nat.beq kd.1 (10 + ci)) (k ls st' (zsI h a j x)) False
  | _ => False
def zi_pR (ci j t n : Nat) (k : zT) : zT := fun ls st h => match st with
  | .inr (.inr (kv, b)) :: .inr (.inr (kd, a)) :: st' => cond (Nat.beq kd.1 (10 + ci) && (Nat.beq kv.1 t && Nat.beq kv.2 n)) (k ls st' (zsR h a j b)) False
  | _ => False
theorem zr_pI {ci j idx N : Nat} {C : String} {T : u_T} {ty : Nat → FieldType} (O : zOK X Y cc own) (hc : zCl ci C T N ty) (hj : j < N) (hf : (zF ci j).1 = 0) (hfin : (T j).2.2.2 = false) (hty : ty j = .int) (hl : Cond.fieldLink own idx (T j).1 (T j).2.1 (T j).2.2.1 ∈ zTW) (d : decode cc pc = .ok (.putfield idx, 3)) (hk : zSd X Y u v (pc + 3) k) : zSd X Y u v pc (zi_pI ci j k) := by
  intro ls st h t H locs lsA hR hL hv hS
  rcases st with _ | ⟨x | _, _ | ⟨_ | _ | ⟨kd, a⟩, st⟩⟩ <;> first | exact False.elim t | skip
  obtain ⟨b, t⟩ := zcond t
  have hka : yK Y a = kd := (zq1 (zq1 hv).2).1
  rw [zkd (zbeq b)] at hka
  obtain ⟨r, h1, h2, h3⟩ := (hR a).2.2.2.2.2 ci _ hka
  cases h1.symm.trans hc.1
  refine zq_put (v := .int x) O.1 O.2.1 O.2.2.2.1 hc.2.1 ty hc.2.2.1 hc.2.2.2 O.2.2.1 O.2.2.2.2.1 h2 hS (zA_of hka (zwr_of (by omega))) hc.1 j hj (O.2.2.2.1 _ hl) hfin (by rw [hty]; rfl) (by rw [hty]; rfl) d (fun H1 locs1 g1 g2 g3 => ?_)
  refine hk _ _ _ t H1 locs1 lsA ?_ hL (zq2 hv) g3
  refine zR_upd a hR g2 (fun q hq => zup_n _ _ hq) (fun q _ => rfl) (fun q _ => rfl) ?_
  refine ⟨fun n hn => ?_, fun n hn => ?_, fun n hn => ?_, fun n hn => ?_, fun n hn => ?_, fun ci' n hn => ?_⟩
  · have := (ztag hka hn).1; omega
  · have := (ztag hka hn).1; omega
  · have := (ztag hka hn).1; omega
  · have := (ztag hka hn).1; omega
  · have := (ztag hka hn).1; omega
  · have hci : ci' = ci := by have := (ztag hka hn).1; omega
    subst hci
    refine ⟨_, hc.1, g1.to (fun i _ => ?_), h3⟩
    by_cases hi : i = j
    · subst hi
      simp [updV, zfv, hf, zsI, va_up]
    · simp [updV, zfv, hi, zsI, va_up]
theorem zr_pR {ci j idx N off t n : Nat} {C : String} {T : u_T} {ty : Nat → FieldType} {D : String} (O : zOK X Y cc own) (hc : zCl ci C T N ty) (hj : j < N) (hf : zF ci j = (2, off, t, n)) (hfin : (T j).2.2.2 = false) (hty : ty j = .object D) (hl : Cond.fieldLink own idx (T j).1 (T j).2.1 (T j).2.2.1 ∈ zTW) (d : decode cc pc = .ok (.putfield idx, 3)) (hk : zSd X Y u v (pc + 3) k) : zSd X Y u v pc (zi_pR ci j t n k) := by
  intro ls st h t H locs lsA hR hL hv hS
  rcases st with _ | ⟨_ | _ | ⟨kv, q⟩, _ | ⟨_ | _ | ⟨kd, a⟩, st⟩⟩ <;> first | exact False.elim t | skip
  obtain ⟨b, t⟩ := zcond t
  simp only [Bool.and_eq_true] at b
  obtain ⟨b, b2, b3⟩ := b
  have hka : yK Y a = kd := (zq1 (zq1 hv).2).1
  have hkq : yK Y q = kv := (zq1 hv).1
  rw [zkd (zbeq b)] at hka
  rw [zkd (zbeq b2), zbeq b3] at hkq
  obtain ⟨r, h1, h2, h3⟩ := (hR a).2.2.2.2.2 ci _ hka
  cases h1.symm.trans hc.1
  refine zq_put (v := .ref q) O.1 O.2.1 O.2.2.2.1 hc.2.1 ty hc.2.2.1 hc.2.2.2 O.2.2.1 O.2.2.2.2.1 h2 hS (zA_of hka (zwr_of (by omega))) hc.1 j hj (O.2.2.2.1 _ hl) hfin (by rw [hty]; rfl) (by rw [hty]; rfl) d (fun H1 locs1 g1 g2 g3 => ?_)
  refine hk _ _ _ t H1 locs1 lsA ?_ hL (zq2 hv) g3
  refine zR_upd a hR g2 (fun q _ => rfl) (fun q _ => rfl) (fun q hq => zup_n _ _ hq) ?_
  refine ⟨fun n hn => ?_, fun n hn => ?_, fun n hn => ?_, fun n hn => ?_, fun n hn => ?_, fun ci' n hn => ?_⟩
  · have := (ztag hka hn).1; omega
  · have := (ztag hka hn).1; omega
  · have := (ztag hka hn).1; omega
  · have := (ztag hka hn).1; omega
  · have := (ztag hka hn).1; omega
  · have hci : ci' = ci := by have := (ztag hka hn).1; omega
    subst hci
    refine ⟨_, hc.1, g1.to (fun i _ => ?_), fun i hi => ?_⟩
    · by_cases hi : i = j
      · subst hi
        simp [updV, zfv, hf, zsR, va_up]
      · simp [updV, zfv, hi, zsR, va_up]
    · by_cases hij : i = j
      · subst hij
        simp [zsR, va_up, hf, hkq]
      · simpa [zsR, va_up, hij] using h3 i hi
/-! arrays -/
def zi_iald (k : zT) : zT := fun ls st h => match st with
  | .inl i :: .inr (.inr (kd, a)) :: st' => cond (Nat.beq kd.1 1) (∃ j : Nat, i = nI j ∧ j < kd.2 ∧ k ls (.inl (h.1 a j) :: st') h) False
  | _ => False
def zi_bald (k : zT) : zT := fun ls st h => match st with
  | .inl i :: .inr (.inr (kd, a)) :: st' => cond (Nat.beq kd.1 2) (∃ j : Nat, i = nI j ∧ j < kd.2 ∧ k ls (.inl (h.1 a j) :: st') h) False
  | _ => False
def zi_lald (k : zT) : zT := fun ls st h => match st with
  | .inl i :: .inr (.inr (kd, a)) :: st' => cond (Nat.beq kd.1 3) (∃ j : Nat, i = nI j ∧ j < kd.2 ∧ k ls (.inr (.inl (h.2.1 a j)) :: st') h) False
  | _ => False
def zi_aald4 (k : zT) : zT := fun ls st h => match st with
  | .inl i :: .inr (.inr (kd, a)) :: st' => cond (Nat.beq kd.1 4) (∃ j : Nat, i = nI j ∧ j < kd.2 ∧ k ls (.inr (.inr ((16, 0), h.2.2 a j)) :: st') h) False
  | _ => False
def zi_aald5 (k : zT) : zT := fun ls st h => match st with
  | .inl i :: .inr (.inr (kd, a)) :: st' => cond (Nat.beq kd.1 5) (∃ j : Nat, i = nI j ∧ j < kd.2 ∧ k ls (.inr (.inr ((13, 0), h.2.2 a j)) :: st') h) False
  | _ => False
theorem zr_iald (O : zOK X Y cc own) (d : decode cc pc = .ok (.iaload, 1)) (hk : zSd X Y u v (pc + 1) k) : zSd X Y u v pc (zi_iald k) := by
  intro ls st h t H locs lsA hR hL hv hS
  rcases st with _ | ⟨i | _, _ | ⟨_ | _ | ⟨kd, a⟩, st⟩⟩ <;> first | exact False.elim t | skip
  obtain ⟨b, j, rfl, hj, t⟩ := zcond t
  have hka : yK Y a = kd := (zq1 (zq1 hv).2).1
  rw [zkd (zbeq b)] at hka
  obtain ⟨hin, hcl⟩ := zin_of O.2.2.2.2.2.2.1 hka hj
  exact W.iald (v := .int (h.1 a j)) O.1 O.2.1 ((hR a).1 _ hka) ((O.2.2.2.2.1.2 0 _ rfl).1 kd.2 (fun i => .int (h.1 a i))) (fun q => by cases q) (by show ¬ (_ ∨ (arrV _ _ _).slots.size ≤ _); rw [arrV_size]; exact hin) (by show (arrV _ _ _).slots[_]? = _; rw [hcl, arrV_read _ _ hj]) rfl rfl d (hk _ _ _ t H locs lsA hR hL (zqc trivial (zq2 hv)) hS)
theorem zr_bald (O : zOK X Y cc own) (d : decode cc pc = .ok (.baload, 1)) (hk : zSd X Y u v (pc + 1) k) : zSd X Y u v pc (zi_bald k) := by
  intro ls st h t H locs lsA hR hL hv hS
  rcases st with _ | ⟨i | _, _ | ⟨_ | _ | ⟨kd, a⟩, st⟩⟩ <;> first | exact False.elim t | skip
  obtain ⟨b, j, rfl, hj, t⟩ := zcond t
  have hka : yK Y a = kd := (zq1 (zq1 hv).2).1
  rw [zkd (zbeq b)] at hka
  obtain ⟨hin, hcl⟩ := zin_of O.2.2.2.2.2.2.1 hka hj
  exact W.bald (v := .int (h.1 a j)) O.1 O.2.1 ((hR a).2.1 _ hka) ((O.2.2.2.2.1.2 1 _ rfl).1 kd.2 (fun i => .int (h.1 a i))) (fun q => by cases q) (by show ¬ (_ ∨ (arrV _ _ _).slots.size ≤ _); rw [arrV_size]; exact hin) (by show (arrV _ _ _).slots[_]? = _; rw [hcl, arrV_read _ _ hj]) rfl rfl d (hk _ _ _ t H locs lsA hR hL (zqc trivial (zq2 hv)) hS)
theorem zr_lald (O : zOK X Y cc own) (d : decode cc pc = .ok (.laload, 1)) (hk : zSd X Y u v (pc + 1) k) : zSd X Y u v pc (zi_lald k) := by
  intro ls st h t H locs lsA hR hL hv hS
  rcases st with _ | ⟨i | _, _ | ⟨_ | _ | ⟨kd, a⟩, st⟩⟩ <;> first | exact False.elim t | skip
  obtain ⟨b, j, rfl, hj, t⟩ := zcond t
  have hka : yK Y a = kd := (zq1 (zq1 hv).2).1
  rw [zkd (zbeq b)] at hka
  obtain ⟨hin, hcl⟩ := zin_of O.2.2.2.2.2.2.1 hka hj
  exact W.lald (v := .long (h.2.1 a j)) O.1 O.2.1 ((hR a).2.2.1 _ hka) ((O.2.2.2.2.1.2 2 _ rfl).1 kd.2 (fun i => .long (h.2.1 a i))) (fun q => by cases q) (by show ¬ (_ ∨ (arrV _ _ _).slots.size ≤ _); rw [arrV_size]; exact hin) (by show (arrV _ _ _).slots[_]? = _; rw [hcl, arrV_read _ _ hj]) rfl rfl d (hk _ _ _ t H locs lsA hR hL (zqc trivial (zq2 hv)) hS)
theorem zr_aald4 (O : zOK X Y cc own) (d : decode cc pc = .ok (.aaload, 1)) (hk : zSd X Y u v (pc + 1) k) : zSd X Y u v pc (zi_aald4 k) := by
  intro ls st h t H locs lsA hR hL hv hS
  rcases st with _ | ⟨i | _, _ | ⟨_ | _ | ⟨kd, a⟩, st⟩⟩ <;> first | exact False.elim t | skip
  obtain ⟨b, j, rfl, hj, t⟩ := zcond t
  have hka : yK Y a = kd := (zq1 (zq1 hv).2).1
  rw [zkd (zbeq b)] at hka
  obtain ⟨hin, hcl⟩ := zin_of O.2.2.2.2.2.2.1 hka hj
  obtain ⟨hcell, hkinds⟩ := (hR a).2.2.2.1 _ hka
  exact W.aald (v := .ref (h.2.2 a j)) (ty := .object RX7) O.1 O.2.1 hcell ((O.2.2.2.2.1.2 3 _ rfl).1 kd.2 (fun i => va_rf (some (h.2.2 a i)))) rfl (fun q => by cases q) (by show ¬ (_ ∨ (arrV _ _ _).slots.size ≤ _); rw [arrV_size]; exact hin) (by show (arrV _ _ _).slots[_]? = _; rw [hcl, arrV_read _ _ hj]; rfl) rfl rfl d (hk _ _ _ t H locs lsA hR hL (zqc (hkinds j hj) (zq2 hv)) hS)
theorem zr_aald5 (O : zOK X Y cc own) (d : decode cc pc = .ok (.aaload, 1)) (hk : zSd X Y u v (pc + 1) k) : zSd X Y u v pc (zi_aald5 k) := by
  intro ls st h t H locs lsA hR hL hv hS
  rcases st with _ | ⟨i | _, _ | ⟨_ | _ | ⟨kd, a⟩, st⟩⟩ <;> first | exact False.elim t | skip
  obtain ⟨b, j, rfl, hj, t⟩ := zcond t
  have hka : yK Y a = kd := (zq1 (zq1 hv).2).1
  rw [zkd (zbeq b)] at hka
  obtain ⟨hin, hcl⟩ := zin_of O.2.2.2.2.2.2.1 hka hj
  obtain ⟨hcell, hkinds⟩ := (hR a).2.2.2.2.1 _ hka
  exact W.aald (v := .ref (h.2.2 a j)) (ty := .object RX4) O.1 O.2.1 hcell ((O.2.2.2.2.1.2 4 _ rfl).1 kd.2 (fun i => va_rf (some (h.2.2 a i)))) rfl (fun q => by cases q) (by show ¬ (_ ∨ (arrV _ _ _).slots.size ≤ _); rw [arrV_size]; exact hin) (by show (arrV _ _ _).slots[_]? = _; rw [hcl, arrV_read _ _ hj]; rfl) rfl rfl d (hk _ _ _ t H locs lsA hR hL (zqc (hkinds j hj) (zq2 hv)) hS)
def zi_iast (k : zT) : zT := fun ls st h => match st with
  | .inl x :: .inl i :: .inr (.inr (kd, a)) :: st' => cond (Nat.beq kd.1 1) (∃ j : Nat, i = nI j ∧ j < kd.2 ∧ k ls st' (zsI h a j x)) False
  | _ => False
def zi_bast (k : zT) : zT := fun ls st h => match st with
  | .inl x :: .inl i :: .inr (.inr (kd, a)) :: st' => cond (Nat.beq kd.1 2) (∃ j : Nat, i = nI j ∧ j < kd.2 ∧ k ls st' (zsI h a j x.toInt8.toInt32)) False
  | _ => False
def zi_last (k : zT) : zT := fun ls st h => match st with
  | .inr (.inl x) :: .inl i :: .inr (.inr (kd, a)) :: st' => cond (Nat.beq kd.1 3) (∃ j : Nat, i = nI j ∧ j < kd.2 ∧ k ls st' (zsL h a j x)) False
  | _ => False
def zi_aast4 (k : zT) : zT := fun ls st h => match st with
  | .inr (.inr (kv, q)) :: .inl i :: .inr (.inr (kd, a)) :: st' => cond (Nat.beq kd.1 4 && (Nat.beq kv.1 16 && Nat.beq kv.2 0)) (∃ j : Nat, i = nI j ∧ j < kd.2 ∧ k ls st' (zsR h a j q)) False
  | _ => False
theorem zupd_arr {β : Type} (C : β → Value) (cA : ClassId) (n j : Nat) (f : Nat → β) (x : β) : (arrV cA n (fun i => C (f i))).setSlot j (C x) = arrV cA n (fun i => C (va_up f j x i)) := by
  rw [arrV_store]
  congr 1
  funext q
  by_cases hq : q = j
  · subst hq
    simp [updV, va_up]
  · simp [updV, va_up, hq]
theorem zr_iast (O : zOK X Y cc own) (d : decode cc pc = .ok (.iastore, 1)) (hk : zSd X Y u v (pc + 1) k) : zSd X Y u v pc (zi_iast k) := by
  intro ls st h t H locs lsA hR hL hv hS
  rcases st with _ | ⟨x | _, _ | ⟨i | _, _ | ⟨_ | _ | ⟨kd, a⟩, st⟩⟩⟩ <;> first | exact False.elim t | skip
  obtain ⟨b, j, rfl, hj, t⟩ := zcond t
  have hka : yK Y a = kd := (zq1 (zq1 (zq1 hv).2).2).1
  rw [zkd (zbeq b)] at hka
  obtain ⟨hin, hcl⟩ := zin_of O.2.2.2.2.2.2.1 hka hj
  refine W.iast O.1 O.2.1 ((hR a).1 _ hka) ((O.2.2.2.2.1.2 0 _ rfl).1 kd.2 (fun i => .int (h.1 a i))) (fun q => by cases q) (by show ¬ (_ ∨ (arrV _ _ _).slots.size ≤ _); rw [arrV_size]; exact hin) rfl rfl d fun H1 e1 e2 e3 => ?_
  refine hk _ _ _ t H1 _ lsA ?_ hL (zq1 (zq2 hv)).2 (hS.put e2 e3 (zA_of hka (zwr_of (by omega))))
  refine zR_upd a hR e3 (fun q hq => zup_n _ _ hq) (fun q _ => rfl) (fun q _ => rfl) ?_
  refine ⟨fun n hn => ?_, fun n hn => ?_, fun n hn => ?_, fun n hn => ?_, fun n hn => ?_, fun ci n hn => ?_⟩
  · cases (ztag hka hn).2
    rw [e1, hcl]
    rw [show (zsI h a j x).1 a = va_up (h.1 a) j x from zup_s _ _ _]
    exact congrArg some (zupd_arr .int _ _ _ _ _)
  · have := (ztag hka hn).1; omega
  · have := (ztag hka hn).1; omega
  · have := (ztag hka hn).1; omega
  · have := (ztag hka hn).1; omega
  · have := (ztag hka hn).1; omega
theorem zr_bast (O : zOK X Y cc own) (d : decode cc pc = .ok (.bastore, 1)) (hk : zSd X Y u v (pc + 1) k) : zSd X Y u v pc (zi_bast k) := by
  intro ls st h t H locs lsA hR hL hv hS
  rcases st with _ | ⟨x | _, _ | ⟨i | _, _ | ⟨_ | _ | ⟨kd, a⟩, st⟩⟩⟩ <;> first | exact False.elim t | skip
  obtain ⟨b, j, rfl, hj, t⟩ := zcond t
  have hka : yK Y a = kd := (zq1 (zq1 (zq1 hv).2).2).1
  rw [zkd (zbeq b)] at hka
  obtain ⟨hin, hcl⟩ := zin_of O.2.2.2.2.2.2.1 hka hj
  refine W.bast O.1 O.2.1 ((hR a).2.1 _ hka) ((O.2.2.2.2.1.2 1 _ rfl).1 kd.2 (fun i => .int (h.1 a i))) (fun q => by cases q) (by show ¬ (_ ∨ (arrV _ _ _).slots.size ≤ _); rw [arrV_size]; exact hin) rfl rfl d fun H1 e1 e2 e3 => ?_
  refine hk _ _ _ t H1 _ lsA ?_ hL (zq1 (zq2 hv)).2 (hS.put e2 e3 (zA_of hka (zwr_of (by omega))))
  refine zR_upd a hR e3 (fun q hq => zup_n _ _ hq) (fun q _ => rfl) (fun q _ => rfl) ?_
  refine ⟨fun n hn => ?_, fun n hn => ?_, fun n hn => ?_, fun n hn => ?_, fun n hn => ?_, fun ci n hn => ?_⟩
  · have := (ztag hka hn).1; omega
  · cases (ztag hka hn).2
    rw [e1, hcl]
    rw [show narrow FieldType.byte (Value.int x) = Value.int x.toInt8.toInt32 from rfl]
    rw [show (zsI h a j x.toInt8.toInt32).1 a = va_up (h.1 a) j x.toInt8.toInt32 from zup_s _ _ _]
    exact congrArg some (zupd_arr .int _ _ _ _ _)
  · have := (ztag hka hn).1; omega
  · have := (ztag hka hn).1; omega
  · have := (ztag hka hn).1; omega
  · have := (ztag hka hn).1; omega
theorem zr_last (O : zOK X Y cc own) (d : decode cc pc = .ok (.lastore, 1)) (hk : zSd X Y u v (pc + 1) k) : zSd X Y u v pc (zi_last k) := by
  intro ls st h t H locs lsA hR hL hv hS
  rcases st with _ | ⟨_ | x | _, _ | ⟨i | _, _ | ⟨_ | _ | ⟨kd, a⟩, st⟩⟩⟩ <;> first | exact False.elim t | skip
  obtain ⟨b, j, rfl, hj, t⟩ := zcond t
  have hka : yK Y a = kd := (zq1 (zq1 (zq1 hv).2).2).1
  rw [zkd (zbeq b)] at hka
  obtain ⟨hin, hcl⟩ := zin_of O.2.2.2.2.2.2.1 hka hj
  refine W.last O.1 O.2.1 ((hR a).2.2.1 _ hka) ((O.2.2.2.2.1.2 2 _ rfl).1 kd.2 (fun i => .long (h.2.1 a i))) (fun q => by cases q) (by show ¬ (_ ∨ (arrV _ _ _).slots.size ≤ _); rw [arrV_size]; exact hin) rfl rfl d fun H1 e1 e2 e3 => ?_
  refine hk _ _ _ t H1 _ lsA ?_ hL (zq1 (zq2 hv)).2 (hS.put e2 e3 (zA_of hka (zwr_of (by omega))))
  refine zR_upd a hR e3 (fun q _ => rfl) (fun q hq => zup_n _ _ hq) (fun q _ => rfl) ?_
  refine ⟨fun n hn => ?_, fun n hn => ?_, fun n hn => ?_, fun n hn => ?_, fun n hn => ?_, fun ci n hn => ?_⟩
  · have := (ztag hka hn).1; omega
  · have := (ztag hka hn).1; omega
  · cases (ztag hka hn).2
    rw [e1, hcl]
    rw [show (zsL h a j x).2.1 a = va_up (h.2.1 a) j x from zup_s _ _ _]
    exact congrArg some (zupd_arr .long _ _ _ _ _)
  · have := (ztag hka hn).1; omega
  · have := (ztag hka hn).1; omega
  · have := (ztag hka hn).1; omega
theorem zr_aast4 (O : zOK X Y cc own) (d : decode cc pc = .ok (.aastore, 1)) (hk : zSd X Y u v (pc + 1) k) : zSd X Y u v pc (zi_aast4 k) := by
  intro ls st h t H locs lsA hR hL hv hS
  rcases st with _ | ⟨_ | _ | ⟨kv, q⟩, _ | ⟨i | _, _ | ⟨_ | _ | ⟨kd, a⟩, st⟩⟩⟩ <;> first | exact False.elim t | skip
  obtain ⟨b, j, rfl, hj, t⟩ := zcond t
  simp only [Bool.and_eq_true] at b
  obtain ⟨b, b2, b3⟩ := b
  have hka : yK Y a = kd := (zq1 (zq1 (zq1 hv).2).2).1
  have hkq : yK Y q = kv := (zq1 hv).1
  rw [zkd (zbeq b)] at hka
  rw [zkd (zbeq b2), zbeq b3] at hkq
  obtain ⟨hin, hcl⟩ := zin_of O.2.2.2.2.2.2.1 hka hj
  obtain ⟨hcell, hkinds⟩ := (hR a).2.2.2.1 _ hka
  obtain ⟨r, h1, ⟨cellV, g1, g2, g3, -⟩, -⟩ := (hR q).2.2.2.2.2 6 _ hkq
  have hcls := (O.2.2.2.2.1.1 6 _ (rfl : vwCl[6]? = some (RX7, TX7, 3))).2
  obtain ⟨kA, comp, k1, k2, k3, -⟩ := (O.2.2.2.2.1.2 3 _ rfl).2
  have hcomp : comp = (yD Y).1 6 := Option.some.inj (k3.symm.trans hcls.1)
  subst hcomp
  obtain ⟨kC, hkC, -⟩ := hcls.2
  refine W.aast O.1 O.2.1 hcell (fun q h => by cases h) (fun h => by cases h) k1 k2 rfl hkC ⟨fun z => hin (Or.inl z), by show _ < (arrV _ _ _).slots.size; rw [arrV_size, hcl]; exact hj⟩ g1 (fun q h => by rw [g3] at h; cases h) (by rw [g2]; exact hkC) (by rw [g2]; exact va_assign hcls) rfl rfl d fun H1 e1 e2 e3 => ?_
  refine hk _ _ _ t H1 _ lsA ?_ hL (zq1 (zq2 hv)).2 (hS.put e2 e3 (zA_of hka (zwr_of (by omega))))
  refine zR_upd a hR e3 (fun q _ => rfl) (fun q _ => rfl) (fun q hq => zup_n _ _ hq) ?_
  refine ⟨fun n hn => ?_, fun n hn => ?_, fun n hn => ?_, fun n hn => ?_, fun n hn => ?_, fun ci n hn => ?_⟩
  · have := (ztag hka hn).1; omega
  · have := (ztag hka hn).1; omega
  · have := (ztag hka hn).1; omega
  · cases (ztag hka hn).2
    refine ⟨?_, fun i hi => ?_⟩
    · rw [e1, hcl]
      rw [show (zsR h a j q).2.2 a = va_up (h.2.2 a) j q from zup_s _ _ _]
      exact congrArg some (zupd_arr (fun z => va_rf (some z)) _ _ _ _ _)
    · rw [show (zsR h a j q).2.2 a = va_up (h.2.2 a) j q from zup_s _ _ _]
      by_cases hij : i = j
      · subst hij
        rw [zup_s]; exact hkq
      · rw [zup_n _ _ hij]; exact hkinds i hi
  · have := (ztag hka hn).1; omega
  · have := (ztag hka hn).1; omega
/-! constant arrays, the script -/
def zi_gst (n : Nat) (k : zT) : zT := fun ls st h => ∀ t : Nat, k ls (.inr (.inr ((8, n), t)) :: st) h
theorem zr_gst {n idx : Nat} (O : zOK X Y cc own) (hn : n < 2) (hl : Cond.fieldLink own idx RX0 (zCf n) "[I" ∈ zTW) (d : decode cc pc = .ok (.getstatic idx, 3)) (hk : zSd X Y u v (pc + 3) k) : zSd X Y u v pc (zi_gst n k) := by
  intro ls st h t H locs lsA hR hL hv hS
  obtain ⟨t0, ht0, hZ⟩ := O.2.2.2.2.2.1.2.2.2.2.1.1 n hn
  exact va_gets O.1 O.2.1 hZ (zS_lo O.2.2.2.2.2.2.1 O.2.2.2.2.2.2.2 hS) O.2.2.1 (O.2.2.2.1 _ hl) (fun _ h9 => h9) d (hk _ _ _ (t t0) H locs lsA hR hL (zqc ht0 hv) hS)
def zi_iald8 (k : zT) : zT := fun ls st h => match st with
  | .inl i :: .inr (.inr (kd, a)) :: st' => cond (Nat.beq kd.1 8) (∃ j : Nat, i = nI j ∧ j < zCn kd.2 ∧ k ls (.inl (zCc kd.2 j) :: st') h) False
  | _ => False
theorem zr_iald8 (O : zOK X Y cc own) (d : decode cc pc = .ok (.iaload, 1)) (hk : zSd X Y u v (pc + 1) k) : zSd X Y u v pc (zi_iald8 k) := by
  intro ls st h t H locs lsA hR hL hv hS
  rcases st with _ | ⟨i | _, _ | ⟨_ | _ | ⟨kd, a⟩, st⟩⟩ <;> first | exact False.elim t | skip
  obtain ⟨b, j, rfl, hj, t⟩ := zcond t
  have hka : yK Y a = kd := (zq1 (zq1 hv).2).1
  rw [zkd (zbeq b)] at hka
  have hj7 : zCn kd.2 < 2 ^ 31 := by unfold zCn; split <;> decide
  have hcl : (nI j).toNatClampNeg = j := nI_clamp (by omega)
  exact va_ti O.1 O.2.1 (O.2.2.2.2.2.1.2.2.2.2.1.2 a _ hka) (zS_lo O.2.2.2.2.2.2.1 O.2.2.2.2.2.2.2 hS) (vp_in_nI hj hj7) (v := .int (zCc kd.2 j)) (by rw [hcl]) d (hk _ _ _ t H locs lsA hR hL (zqc trivial (zq2 hv)) hS)
def zi_iald9 (xs : Nat → Int32) (k : zT) : zT := fun ls st h => match st with
  | .inl i :: .inr (.inr (kd, a)) :: st' => cond (Nat.beq kd.1 9) (∃ j : Nat, i = nI j ∧ j < kd.2 ∧ k ls (.inl (xs j) :: st') h) False
  | _ => False
theorem zr_iald9 (O : zOK X Y cc own) (d : decode cc pc = .ok (.iaload, 1)) (hk : zSd X Y u v (pc + 1) k) : zSd X Y u v pc (zi_iald9 (yX Y) k) := by
  intro ls st h t H locs lsA hR hL hv hS
  rcases st with _ | ⟨i | _, _ | ⟨_ | _ | ⟨kd, a⟩, st⟩⟩ <;> first | exact False.elim t | skip
  obtain ⟨b, j, rfl, hj, t⟩ := zcond t
  have hka : yK Y a = kd := (zq1 (zq1 hv).2).1
  rw [zkd (zbeq b)] at hka
  obtain ⟨hin, hcl⟩ := zin_of O.2.2.2.2.2.2.1 hka hj
  obtain ⟨hx, hlt⟩ := O.2.2.2.2.2.1.2.2.2.2.2.2.2 a _ hka
  have hlo := O.2.2.2.2.2.2.2
  refine va_sld O.1 O.2.1 hx (by omega) (Nat.not_le.mpr hlt) (zS_lo O.2.2.2.2.2.2.1 hlo hS) hin d ?_
  rw [hcl]
  exact hk _ _ _ t H locs lsA hR hL (zqc trivial (zq2 hv)) hS
def zi_alen9 (k : zT) : zT := fun ls st h => match st with
  | .inr (.inr (kd, a)) :: st' => cond (Nat.beq kd.1 9) (k ls (.inl (nI kd.2) :: st') h) False
  | _ => False
theorem zr_alen9 (O : zOK X Y cc own) (d : decode cc pc = .ok (.arraylength, 1)) (hk : zSd X Y u v (pc + 1) k) : zSd X Y u v pc (zi_alen9 k) := by
  intro ls st h t H locs lsA hR hL hv hS
  rcases st with _ | ⟨_ | _ | ⟨kd, a⟩, st⟩ <;> first | exact False.elim t | skip
  obtain ⟨b, t⟩ := zcond t
  have hka : yK Y a = kd := (zq1 hv).1
  rw [zkd (zbeq b)] at hka
  obtain ⟨hx, hlt⟩ := O.2.2.2.2.2.1.2.2.2.2.2.2.2 a _ hka
  have hlo := O.2.2.2.2.2.2.2
  exact va_slen O.1 O.2.1 hx (by omega) (Nat.not_le.mpr hlt) (zS_lo O.2.2.2.2.2.2.1 hlo hS) d (hk _ _ _ t H locs lsA hR hL (zqc trivial (zq1 hv).2) hS)
/-! the JDK's: max, min, arraycopy -/
def zw : List zV → Nat
  | [] => 0
  | .inl _ :: l => 1 + zw l
  | .inr (.inl _) :: l => 2 + zw l
  | .inr (.inr _) :: l => 1 + zw l
theorem zw_sum : ∀ l : List zV, ((l.map zv).map fun v => v.category).sum = zw l
  | [] => rfl
  | .inl _ :: l => by rw [zw, ← zw_sum l]; rfl
  | .inr (.inl _) :: l => by rw [zw, ← zw_sum l]; rfl
  | .inr (.inr _) :: l => by rw [zw, ← zw_sum l]; rfl
def zi_max (k : zT) : zT := fun ls st h => match st with
  | .inl y :: .inl x :: st' => cond (Nat.ble (zw st') 8) (k ls (.inl (if x < y then y else x) :: st') h) False
  | _ => False
def zi_min (k : zT) : zT := fun ls st h => match st with
  | .inl y :: .inl x :: st' => cond (Nat.ble (zw st') 8) (k ls (.inl (if y < x then y else x) :: st') h) False
  | _ => False
theorem zlsz {nL : Nat} {ls : zL} {lsA : Array Slot} (h : zLk Y nL ls lsA) : nL = lsA.size := h.1.1.symm
def zwM : Prop := Cond.initialized "java/lang/Math" ∈ zTW ∧ Cond.static Lib.Math.max.name ∈ zTW ∧ Cond.code Lib.Math.max.name Lib.Math.max.code 2 (some .int) ∈ zTW ∧ Cond.static Lib.Math.min.name ∈ zTW ∧ Cond.code Lib.Math.min.name Lib.Math.min.code 2 (some .int) ∈ zTW
theorem zr_max {idx : Nat} (O : zOK X Y cc own) (hm : zwM) (hl : Cond.methodLink own idx Lib.Math.max.name ∈ zTW) (hr : 1 ≤ (xR X).frames ∧ 21 ≤ (xR X).locals ∧ u ≤ (xR X).cells ∧ v ≤ (xR X).slots) (d : decode cc pc = .ok (.invokestatic idx, 3)) (hk : zSd X Y u v (pc + 3) k) : zSd X Y u v pc (zi_max k) := by
  intro ls st h t H locs lsA hR hL hv hS
  rcases st with _ | ⟨y | _, _ | ⟨x | _, st⟩⟩ <;> first | exact False.elim t | skip
  obtain ⟨b, t⟩ := zcond t
  have hb := Nat.le_of_ble_eq_true b
  have hts := O.2.2.2.1
  exact va_mmax O.1 O.2.1 (zlsz hL) O.2.2.1 (hts _ hl) (hts _ hm.2.1) (hts _ hm.1) (hts _ hm.2.2.1) hr.1 (by rw [zw_sum]; omega) hr.2.2.1 hr.2.2.2 d (hk _ _ _ t H locs lsA hR hL (zqc trivial (zq2 hv)) hS)
theorem zr_min {idx : Nat} (O : zOK X Y cc own) (hm : zwM) (hl : Cond.methodLink own idx Lib.Math.min.name ∈ zTW) (hr : 1 ≤ (xR X).frames ∧ 21 ≤ (xR X).locals ∧ u ≤ (xR X).cells ∧ v ≤ (xR X).slots) (d : decode cc pc = .ok (.invokestatic idx, 3)) (hk : zSd X Y u v (pc + 3) k) : zSd X Y u v pc (zi_min k) := by
  intro ls st h t H locs lsA hR hL hv hS
  rcases st with _ | ⟨y | _, _ | ⟨x | _, st⟩⟩ <;> first | exact False.elim t | skip
  obtain ⟨b, t⟩ := zcond t
  have hb := Nat.le_of_ble_eq_true b
  have hts := O.2.2.2.1
  exact va_mmin O.1 O.2.1 (zlsz hL) O.2.2.1 (hts _ hl) (hts _ hm.2.2.2.1) (hts _ hm.1) (hts _ hm.2.2.2.2) hr.1 (by rw [zw_sum]; omega) hr.2.2.1 hr.2.2.2 d (hk _ _ _ t H locs lsA hR hL (zqc trivial (zq2 hv)) hS)
/-- arraycopy of ints, from 0 to 0 -/
def zi_cpy (k : zT) : zT := fun ls st h => match st with
  | .inl n :: .inl dp :: .inr (.inr (kd, a)) :: .inl sp :: .inr (.inr (ks, q)) :: st' => cond (Nat.beq kd.1 1 && (Nat.beq ks.1 1 && Nat.ble (zw st') 8)) (dp = 0 ∧ sp = 0 ∧ ∃ j : Nat, n = nI j ∧ j ≤ kd.2 ∧ j ≤ ks.2 ∧ k ls st' (zsW h a (fun i => if i < j then h.1 q i else h.1 a i))) False
  | _ => False
theorem zr_cpy {idx : Nat} (O : zOK X Y cc own) (hl : Cond.methodLink own idx arraycopyName ∈ zTW) (hw : Cond.native arraycopyName ∈ zTW ∧ Cond.static arraycopyName ∈ zTW ∧ Cond.initialized "java/lang/System" ∈ zTW) (hr : 1 ≤ (xR X).frames ∧ 8 + (nativeFrameWords "java/lang/System" "arraycopy" 5 + 11) ≤ (xR X).locals) (d : decode cc pc = .ok (.invokestatic idx, 3)) (hk : zSd X Y u v (pc + 3) k) : zSd X Y u v pc (zi_cpy k) := by
  intro ls st h t H locs lsA hR hL hv hS
  rcases st with _ | ⟨n | _, _ | ⟨dp | _, _ | ⟨_ | _ | ⟨kd, a⟩, _ | ⟨sp | _, _ | ⟨_ | _ | ⟨ks, q⟩, st⟩⟩⟩⟩⟩ <;> first | exact False.elim t | skip
  obtain ⟨b, rfl, rfl, j, hj, h1, h2, t⟩ := zcond t
  simp only [Bool.and_eq_true] at b
  obtain ⟨b, b2, b3⟩ := b
  have hb := Nat.le_of_ble_eq_true b3
  have hts := O.2.2.2.1
  have hka : yK Y a = kd := (zq1 (zq2 hv)).1
  have hkq : yK Y q = ks := (zq1 (zq2 (zq1 (zq1 hv).2).2)).1
  rw [zkd (zbeq b)] at hka
  rw [zkd (zbeq b2)] at hkq
  have hlen : kd.2 < 2 ^ 31 := by have := O.2.2.2.2.2.2.1.2.2 a; rw [hka] at this; exact this
  refine zq_copy O.1 O.2.1 (zlsz hL) O.2.2.1 (hts _ hl) (hts _ hw.1) (hts _ hw.2.1) (hts _ hw.2.2) hS (zA_of hka (zwr_of (by omega))) ((hR q).1 _ hkq) ((hR a).1 _ hka) (O.2.2.2.2.1.2 0 _ rfl).1 (O.2.2.2.2.1.2 0 _ rfl).1 hj (by omega) h2 h1 hr.1 (by rw [zw_sum]; omega) d (fun H1 locs1 e1 e3 g3 => ?_)
  refine hk _ _ _ t H1 locs1 lsA ?_ hL (zq2 (zq1 (zq2 hv)).2) g3
  refine zR_upd a hR e3 (fun q hq => zup_n _ _ hq) (fun q _ => rfl) (fun q _ => rfl) ?_
  refine ⟨fun n hn => ?_, fun n hn => ?_, fun n hn => ?_, fun n hn => ?_, fun n hn => ?_, fun ci n hn => ?_⟩
  · cases (ztag hka hn).2
    rw [e1, show (zsW h a (fun i => if i < j then h.1 q i else h.1 a i)).1 a = _ from zup_s _ _ _]
  · have := (ztag hka hn).1; omega
  · have := (ztag hka hn).1; omega
  · have := (ztag hka hn).1; omega
  · have := (ztag hka hn).1; omega
  · have := (ztag hka hn).1; omega
/-- a String constant -/
def zi_str (n : Nat) (k : zT) : zT := fun ls st h => ∀ a : Nat, k ls (.inr (.inr ((7, n), a)) :: st) h
theorem zr_str {n idx : Nat} {tx : String} (O : zOK X Y cc own) (hs : (own, idx, tx, n) ∈ zStr) (d : decode cc pc = .ok (.ldc idx, 2)) (hk : zSd X Y u v (pc + 2) k) : zSd X Y u v pc (zi_str n k) := by
  intro ls st h t H locs lsA hR hL hv hS
  obtain ⟨adK, adV, g1, g2, g3⟩ := O.2.2.2.2.2.1.2.2.2.1
  obtain ⟨q1, q2⟩ := g2 _ hs
  exact va_ldcS O.1 O.2.1 O.2.2.1 q1 d (hk _ _ _ (t _) H locs lsA hR hL (zqc q2 hv) hS)
end ZC

