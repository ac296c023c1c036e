/-! methods that return or throw -/
def zXc (Y : zY) (sz : Nat) (D : String → zH → Prop) : String → State → State → Prop := fun E st t => ∃ h' : zH, D E h' ∧ zR Y h' t.heap ∧ va_F (zA Y sz) st t
def zMx {α : Type} (y : MethodName) (b : ByteArray) (nL : Nat) (rt : Option FieldType) (rm : Room) (c : zC α) (d : α → zH → String → zH → Prop) : Prop := ∀ (l : Launch) (Y : zY) (sz : Nat) (x : α) (h : zH), l.stackTraces = false → zWF Y → (∀ q ∈ c.1 x, zok Y q) → c.2.1 x h → vx_Met l y (.code y b nL rt :: zTW) rm (zPc Y sz (c.1 x) h) (zQc Y sz (c.2.2 x h)) (zXc Y sz (d x h)) rm.cells rm.slots (zA Y sz)
def zEx (X : zX) (Y : zY) (rt : Option FieldType) (mc ms : Nat) (F : Option zV → zH → Prop) (D : String → zH → Prop) : Prop := (xH X).sig.returnType = rt ∧ (xH X).locks = false ∧ X.2.1.stackTraces = false ∧ (∀ x ∈ (xC X).exceptionTable.toList, False) ∧ xQ X = vx_MQ (xB X) (zQc Y (xS X).heap.size F) (zXc Y (xS X).heap.size D) (xA X) (xS X) mc ms (zA Y (xS X).heap.size)
theorem zEx_E {X : zX} {Y : zY} {rt : Option FieldType} {mc ms : Nat} {F : Option zV → zH → Prop} {D : String → zH → Prop} (Ex : zEx X Y rt mc ms F D) : zEnd X Y rt mc ms F := by
  refine ⟨Ex.1, Ex.2.1, fun H locs g w => ?_⟩
  unfold zW
  rw [Ex.2.2.2.2]
  exact vx_ret w
theorem zR_ext {Y : zY} {h : zH} {H H1 : Heap} (hR : zR Y h H) (hq : ∀ q : Nat, q < H.size → H1[q]? = H[q]?) : zR Y h H1 := by
  intro a
  by_cases ha : a < H.size
  · exact zRa_congr (hR a) (hq a ha) rfl rfl rfl
  · have no : ∀ c : Cell, ¬ H[a]? = some c := fun c e => ha (Array.getElem?_eq_some_iff.mp e).1
    obtain ⟨r1, r2, r3, r4, r5, r6⟩ := hR a
    refine ⟨fun n hn => absurd (r1 n hn) (no _), fun n hn => absurd (r2 n hn) (no _), fun n hn => absurd (r3 n hn) (no _), fun n hn => absurd (r4 n hn).1 (no _), fun n hn => absurd (r5 n hn).1 (no _), fun ci n hn => ?_⟩
    obtain ⟨r, -, ⟨cell, g1, -⟩, -⟩ := r6 ci n hn
    exact absurd g1 (no _)
theorem zMx_of {α : Type} {y : MethodName} {b : ByteArray} {nL : Nat} {rt : Option FieldType} {rm : Room} {c : zC α} {d : α → zH → String → zH → Prop} (hy : plainName y.cls = true)
    (hb : ∀ (X : zX) (Y : zY) (x : α) (h : zH), c.2.1 x h → zOK X Y b y.cls → zEx X Y rt rm.cells rm.slots (c.2.2 x h) (d x h) → xR X = rm → znl (c.1 x) = true ∧ (c.1 x).length ≤ nL ∧ ∃ T : zT, zSd X Y 0 0 0 T ∧ T (zarg (c.1 x) nL) [] h) : zMx y b nL rt rm c d := by
  intro l Y sz x h hl hF hok hP
  refine vx_ofW (cc := b) (maxL := nL) (ret := rt) hy rfl ?_
  intro p e s m args below meth cd s₁ B hml htab hv
  obtain ⟨rfl, rfl, hR, hK, hS, hlo⟩ := hv
  have hts := atoms_spec (ws := .code y b nL rt :: zTW) B.pre
  obtain ⟨hnl, hlen, T, hs, t⟩ := hb (p, l, e, rm, s, m, ((c.1 x).map zv).toArray, below, meth, cd, vx_MQ below (zQc Y s.heap.size (c.2.2 x h)) (zXc Y s.heap.size (d x h)) ((c.1 x).map zv).toArray s rm.cells rm.slots (zA Y s.heap.size)) Y x h hP ⟨B.exec, B.bytes, findClass_of_methodNamed B.named, fun w hw => hts w (List.mem_cons_of_mem _ hw), hK, hS, hF, hlo⟩ ⟨B.returns, B.notSynchronized, hl, htab, rfl⟩ rfl
  exact zentry (Q := 0) hs t hnl hlen hml hok hR
section ZX
variable {p : Program} {l : Launch} {e : Env} {R : Room} {s : State} {m : MethodId} {args : Array Value} {below : List Frame} {meth : Method} {c : Code} {H : Heap} {locs : List Loc} {cells slots : Nat} {Q : State → Prop}
variable {pc : Nat} {ls : Array Slot} {rest st0 : List Value} {a : Array Value} {Y : zY}
theorem zq_callX {F : Option zV → zH → Prop} {D : String → zH → Prop} {mc ms : Nat} (hr : vx_Run p l e R s m args below meth c H locs cells slots mc ms (F0 m pc ls st0) rest (zQc Y H.size F a) (zXc Y H.size D) (zA Y H.size)) (hS : va_S (zA Y s.heap.size) s.heap H locs)
    (kx : ∀ (E : String) (ce : Cell) (q9 : Addr) (h' : zH) (H1 : Heap) (locs1 : List Loc), D E h' → zR Y h' H1 → va_S (zA Y s.heap.size) s.heap H1 locs1 → H1[q9]? = some ce → ce.vm = .none → s.vm.findClass E = some ce.cls → vx_W p l e R s m args below meth c H1 locs1 (cells + mc) (slots + ms) Q (F0 m pc ls rest) q9)
    (kk : ∀ (r : Option zV) (h' : zH) (H1 : Heap) (locs1 : List Loc), F r h' → (∀ q : zV, r = some q → zok Y q) → zR Y h' H1 → va_S (zA Y s.heap.size) s.heap H1 locs1 → W p l e R s m args below meth c H1 locs1 (cells + mc) (slots + ms) Q (F0 m (pc + 3) ls ((r.map zv).toList ++ rest))) : W p l e R s m args below meth c H locs cells slots Q (F0 m pc ls st0) := by
  intro T hT X
  rcases hr T hT X with ⟨v, st₀, t, T', L, h0, X', hL, e1, e2, ⟨⟨r, h', hv, hF, hok, hR⟩, hFr⟩, st⟩ | ⟨q, st₀, t, T', L, E, ce, h0, X', hL, e1, e2, ⟨h', hD, hR, hFr⟩, hce, hcv, hcl, st⟩
  · cases hv
    obtain ⟨k1, k2, k3⟩ := vx_keep h0 e1 hS (fun q _ h => zA_mono hS.1 h) (fun q h => zA_mono hS.1 h) hL hFr
    obtain ⟨t2, a1, b1⟩ := kk r h' T'.heap (locs ++ L) hF hok (by rw [e1]; exact hR) k3 T' rfl X'
    exact ⟨t2, st t2 a1, b1⟩
  · obtain ⟨k1, k2, k3⟩ := vx_keep h0 e1 hS (fun q _ h => zA_mono hS.1 h) (fun q h => zA_mono hS.1 h) hL hFr
    obtain ⟨t2, a1, b1⟩ := kx E ce q h' T'.heap (locs ++ L) hD (by rw [e1]; exact hR) k3 (by rw [e1]; exact hce) hcv hcl T' rfl X'
    exact ⟨t2, st.trans a1, b1⟩
end ZX
theorem xim_0 : Cond.instanceMethod (Bundle.initS "java/lang/RuntimeException") ∈ zTW := zmem3 31 rfl rfl
theorem xic_0 : Cond.code (Bundle.initS "java/lang/RuntimeException") prog_22_method_2_code 2 none ∈ zTW := zmem3 32 rfl rfl
theorem xim_1 : Cond.instanceMethod (Bundle.initS "java/lang/Exception") ∈ zTW := zmem3 34 rfl rfl
theorem xic_1 : Cond.code (Bundle.initS "java/lang/Exception") prog_17_method_2_code 2 none ∈ zTW := zmem3 35 rfl rfl
theorem xim_2 : Cond.instanceMethod (Bundle.initS Bundle.tN) ∈ zTW := zmem3 37 rfl rfl
theorem xic_2 : Cond.code (Bundle.initS Bundle.tN) prog_27_method_2_code 2 none ∈ zTW := zmem3 38 rfl rfl
section ZY
variable {X : zX} {Y : zY} {u v pc : Nat} {cc : ByteArray} {own : String} {k : zT}
/-- a call of a method that may throw, from one that lets it through -/
def zi_cx {α : Type} (n : Nat) (c : zC α) (d : α → zH → String → zH → Prop) (D : String → zH → Prop) (k : zT) : zT := fun ls st h => zpop n [] st (fun av st' => cond (Nat.ble (zw st') 8) (∃ x : α, av = c.1 x ∧ c.2.1 x h ∧ (∀ (E : String) (h' : zH), d x h E h' → D E h') ∧ ∀ (r : Option zV) (h' : zH), c.2.2 x h r h' → k ls (zpush r st') h') False)
theorem zr_xV {α : Type} {c : zC α} {d : α → zH → String → zH → Prop} {y : MethodName} {b : ByteArray} {nLy idx n ci mc ms u' v' : Nat} {rty rt : Option FieldType} {rm rm0 : Room} {F : Option zV → zH → Prop} {D : String → zH → Prop} (O : zOK X Y cc own) (Ex : zEx X Y rt mc ms F D) (hM : zMx y b nLy rty rm c d) (hB : zBn y b nLy rty rm0 n) (hV : zVw ci y) (hl : Cond.methodLink own idx y ∈ zTW) (hrc : ∀ x : α, ∃ (j a : Nat) (As : List zV), c.1 x = vR (10 + ci) j a :: As)
    (hr : rm.frames + 1 ≤ (xR X).frames ∧ 8 + (nLy + 11) + rm.locals ≤ (xR X).locals ∧ u' ≤ (xR X).cells ∧ v' ≤ (xR X).slots) (hu : u + rm.cells ≤ u') (hv' : v + rm.slots ≤ v') (hmc : u' ≤ mc) (hms : v' ≤ ms) (dd : decode cc pc = .ok (.invokevirtual idx, 3)) (hk : zSd X Y u' v' (pc + 3) k) : zSd X Y u v pc (zi_cx (n + 1) c d D k) := by
  intro ls st h t H locs lsA hR hL hv hS
  obtain ⟨bs, st', rfl, hbs, t⟩ := zpop_spec _ _ _ _ t
  obtain ⟨b8, x, hx, hP, tx, t⟩ := zcond t
  have hb8 := Nat.le_of_ble_eq_true b8
  rw [List.append_nil] at hx
  obtain ⟨j, a, As, hA⟩ := hrc x
  have hbs2 : bs = As.reverse ++ [vR (10 + ci) j a] := by
    have := congrArg List.reverse (hx.trans hA)
    rw [List.reverse_reverse, List.reverse_cons] at this
    exact this
  have hAn : As.length = n := by rw [hbs2] at hbs; simp at hbs; exact hbs
  have hok : ∀ q ∈ c.1 x, zok Y q := fun q hq => hv q (List.mem_append_left _ (by rw [← hx] at hq; exact List.mem_reverse.mp hq))
  have hka : yK Y a = (10 + ci, j) := hok (vR (10 + ci) j a) (by rw [hA]; exact List.mem_cons_self)
  obtain ⟨r, h1, ⟨cell, g1, g2, g3, -⟩, -⟩ := (hR a).2.2.2.2.2 ci _ hka
  obtain ⟨hVi, hVs, T, N, hVc⟩ := hV
  have hcls := (O.2.2.2.2.1.1 ci _ hVc).2
  have hts := O.2.2.2.1
  have hmap : (c.1 x).map zv = .ref a :: As.map zv := by rw [hA]; rfl
  refine zq_callX (Y := Y) (F := c.2.2 x h) (D := d x h) (mc := rm.cells) (ms := rm.slots) (a := (.ref a :: As.map zv : List Value).toArray) (rest := st'.map zv) (vx_runV (Ts := zTW) (C := y.cls) (b := a) (As := As.map zv) ⟨O.1, O.2.1, rfl, O.2.2.1, hts⟩ (hM X.2.1 Y H.size x h Ex.2.2.1 O.2.2.2.2.2.2.1 hok hP) ⟨callB_of n hts (zGood hB.1) rfl rfl rfl (hts _ hB.2.1) (hts _ hl) hB.2.2.1 ⟨hr.1, hr.2.1⟩, hts _ hVi, hts _ hVs⟩ ⟨zPc_blind, ⟨cell, g1, by rw [g3]; rfl, by rw [g2]; exact hcls.1⟩, fun U hU hW => by rw [← hmap]; exact zpre O hR hS U hU hW⟩ rfl (by simp [hAn]) hL.1.1 (by rw [hbs2]; simp [zv]) (lv_room (by rw [zw_sum]; exact hb8)) dd ⟨Nat.le_trans hu hr.2.2.1, Nat.le_trans hv' hr.2.2.2⟩) hS (fun E ce q9 h' H1 locs1 hD hR1 hS1 c1 c2 c3 => ?_) (fun r h' H1 locs1 hF hrok hR1 hS1 => ?_)
  · show vx_W _ _ _ _ _ _ _ _ _ _ _ _ _ _ (xQ X) _ _
    rw [Ex.2.2.2.2]
    exact vx_out (fun z hz => (Ex.2.2.2.1 z hz).elim) Ex.2.1 c1 c2 c3 (fun t ht _ => ⟨h', tx E h' hD, by rw [ht]; exact hR1, hS1.F ht⟩) hS1.2.2 (Nat.le_trans hu hmc) (Nat.le_trans hv' hms)
  · rw [zpush_map]
    refine W.widen hu hv' (hk _ _ _ (t r h' hF) H1 locs1 lsA hR1 hL (fun q hq => ?_) hS1)
    cases r with
    | none => exact hv q (List.mem_append_right _ hq)
    | some w => exact (List.mem_cons.mp hq).elim (fun e => e ▸ hrok w rfl) (fun z => hv q (List.mem_append_right _ z))
theorem zdecl {args : Array Value} {s : State} {x : MethodName} (h : va_Decl s x) : (Cond.declares x).before args s = true := by
  obtain ⟨r0, r, h1, h2, h3, h4⟩ := h
  simp [Cond.before, Cond.holds, Cond.value, h1, h2, h3, h4]
def xBd (cls : String) : List Cond := [Cond.castable cls cls, Cond.declares (Bundle.initS "java/lang/RuntimeException"), Cond.declares (Bundle.initS "java/lang/Exception"), Cond.declares (Bundle.initS Bundle.tN)]
theorem xBd_ok {cls : String} (O : zOK X Y cc own) (hE : cls ∈ zExc) : ∀ w ∈ xBd cls, w.before (xA X) (xS X) = true := by
  have hts := O.2.2.2.1
  intro w hw
  simp only [xBd, List.mem_cons, List.not_mem_nil, or_false] at hw
  rcases hw with rfl | rfl | rfl | rfl
  · exact va_Nw.use rfl (O.2.2.2.2.2.1.2.1 cls hE)
  · exact zdecl (va_Decl.of (hts _ xim_0) (hts _ xic_0))
  · exact zdecl (va_Decl.of (hts _ xim_1) (hts _ xic_1))
  · exact zdecl (va_Decl.of (hts _ xim_2) (hts _ xic_2))
/-- new X(text), thrown -/
theorem zr_thr {cls text : String} {names : List String} {ik is ic n mc ms : Nat} {rt : Option FieldType} {F : Option zV → zH → Prop} {D : String → zH → Prop} (O : zOK X Y cc own) (Ex : zEx X Y rt mc ms F D) (hcls : Bundle.fit cls = true) (hnames : ∀ n ∈ names, Bundle.fit n = true) (hk : Cond.classLink own ik cls ∈ zTW) (hini : Cond.initialized cls ∈ zTW) (hs : (own, is, text, n) ∈ zStr)
    (hg : ∀ w ∈ (vx_atS own ic cls names).filter goodWord, w ∈ lw_tbl) (hbd : ∀ w ∈ (vx_atS own ic cls names).filter (fun w => !goodWord w), w ∈ xBd cls) (hE : cls ∈ zExc) (hgood : ∀ w ∈ Cond.classLink own ik cls :: Cond.initialized cls :: vx_atS own ic cls names, vx_ot w = true)
    (d0 : decode cc pc = .ok (.new ik, 3)) (d3 : decode cc (pc + 3) = .ok (.dup, 1)) (d4 : decode cc (pc + 4) = .ok (.ldc_w is, 3)) (d7 : decode cc (pc + 7) = .ok (.invokespecial ic, 3)) (d10 : decode cc (pc + 10) = .ok (.athrow, 1))
    (hr : names.length + 3 < (xR X).frames ∧ 13 * (names.length + 1) + 43 ≤ (xR X).locals ∧ u + 1 ≤ (xR X).cells ∧ v + 6 ≤ (xR X).slots) (hu : u + 1 ≤ mc) (hv' : v + 6 ≤ ms) : zSd X Y u v pc (fun _ st h => st = [] ∧ D cls h) := by
  intro ls st h t H locs lsA hR hL hv hS
  obtain ⟨rfl, hD⟩ := t
  have hts := O.2.2.2.1
  have hlo := zS_lo O.2.2.2.2.2.2.1 O.2.2.2.2.2.2.2 hS
  obtain ⟨adK, adV, g1, g2, g3, g4, g5⟩ := O.2.2.2.2.2.1.2.2.2.1
  have hZ := O.2.2.2.2.2.1.2.2.2.2.2.2.1
  unfold zW
  rw [Ex.2.2.2.2]
  refine vx_throwSW (text := text) (names := names) (A := fun q => yO Y ≤ q) (rest := []) O.1 O.2.1 Ex.2.2.1 O.2.2.1 hcls hnames (hts _ hk) (hts _ hini) (g2 _ hs).1 (vx_hat (B := xBd cls) (fun w hw => hts w (List.mem_filter.mpr ⟨hg w hw, (List.mem_filter.mp hw).2⟩)) hbd (fun w hw => ?_)) hgood hZ.1 hZ.2 hlo hL.1.1 d0 d3 d4 d7 d10 (fun z hz => (Ex.2.2.2.1 z hz).elim) hr.1 (by simpa using hr.2.1) hr.2.2.1 hr.2.2.2 Ex.2.1 (fun t hA h1 h2 => ⟨h, hD, zR_ext hR h2, Nat.le_trans hS.1 h1, fun q hq hA => ?_⟩) hS.2.2 hu hv'
  · exact xBd_ok O hE w hw
  · rw [h2 q (Nat.lt_of_lt_of_le hq hS.1)]
    exact hS.2.1 q hq hA
end ZY
theorem zrx {X : zX} {rm : Room} {a b u v : Nat} (hR : xR X = rm) (h1 : Nat.ble a rm.frames = true) (h2 : Nat.ble b rm.locals = true) (h3 : Nat.ble u rm.cells = true) (h4 : Nat.ble v rm.slots = true) : a ≤ (xR X).frames ∧ b ≤ (xR X).locals ∧ u ≤ (xR X).cells ∧ v ≤ (xR X).slots := by
  rw [hR]
  exact ⟨Nat.le_of_ble_eq_true h1, Nat.le_of_ble_eq_true h2, Nat.le_of_ble_eq_true h3, Nat.le_of_ble_eq_true h4⟩
abbrev eIA : String := "java/lang/IllegalArgumentException"
abbrev eIS : String := "java/lang/IllegalStateException"
abbrev eNS : String := "java/util/NoSuchElementException"
theorem xw_0 : ∀ w ∈ (vx_atS RX10 364 eIA ["java/lang/RuntimeException", "java/lang/Exception"]).filter goodWord, w ∈ lw_tbl := by decide +kernel
theorem xw_2 : ∀ w ∈ (vx_atS RX10 371 eIS ["java/lang/RuntimeException", "java/lang/Exception"]).filter goodWord, w ∈ lw_tbl := by decide +kernel
theorem xb_0 : ∀ w ∈ (vx_atS RX10 364 eIA ["java/lang/RuntimeException", "java/lang/Exception"]).filter (fun w => !goodWord w), w ∈ xBd eIA := by decide +kernel
theorem xb_2 : ∀ w ∈ (vx_atS RX10 371 eIS ["java/lang/RuntimeException", "java/lang/Exception"]).filter (fun w => !goodWord w), w ∈ xBd eIS := by decide +kernel
theorem xg_0 : ∀ w ∈ Cond.classLink RX10 360 eIA :: Cond.initialized eIA :: vx_atS RX10 364 eIA ["java/lang/RuntimeException", "java/lang/Exception"], vx_ot w = true := by decide +kernel
theorem xg_2 : ∀ w ∈ Cond.classLink RX10 367 eIS :: Cond.initialized eIS :: vx_atS RX10 371 eIS ["java/lang/RuntimeException", "java/lang/Exception"], vx_ot w = true := by decide +kernel
theorem xn_0 : ∀ n ∈ (["java/lang/RuntimeException", "java/lang/Exception"] : List String), Bundle.fit n = true := by decide +kernel
theorem xk_0 : Cond.classLink RX10 360 eIA ∈ zTW := zmem2 225 rfl rfl
theorem xi_0 : Cond.initialized eIA ∈ zTW := zmem1 15 rfl rfl
theorem xk_1 : Cond.classLink RX10 372 eNS ∈ zTW := zmem3 237 rfl rfl
theorem xi_1 : Cond.initialized eNS ∈ zTW := zmem1 23 rfl rfl
theorem xk_2 : Cond.classLink RX10 367 eIS ∈ zTW := zmem4 65 rfl rfl
theorem xi_2 : Cond.initialized eIS ∈ zTW := zmem1 25 rfl rfl
/-! NoSuchElementException: its constructor's own entry is another than the other two's -/
def zTl (own : String) (ic : Nat) (K : String) : List Cond := [.methodLink own ic (Bundle.initS K), .instantiable K 6, .castable K K, .selects K Bundle.tFill0 Bundle.tFill0, .selects K Bundle.tFill Bundle.tFill, .lays K Bundle.tN "cause" "Ljava/lang/Throwable;", .lays K Bundle.tN "stackTrace" Bundle.steD, .lays K Bundle.tN "suppressedExceptions" Bundle.listD, .lays K Bundle.tN "detailMessage" "Ljava/lang/String;", .isRef (.static Bundle.tN "UNASSIGNED_STACK" Bundle.steD), .isRef (.static Bundle.tN "SUPPRESSED_SENTINEL" Bundle.listD), .fieldLink Bundle.tN 198 Bundle.tN "backtrace" "Ljava/lang/Object;", .lays Bundle.tN Bundle.tN "backtrace" "Ljava/lang/Object;", .lays K Bundle.tN "backtrace" "Ljava/lang/Object;"]
def zNl (own : String) (ic : Nat) (K Q : String) (i : Nat) (b : ByteArray) (r : List String) : List Cond := Bundle.throwableAtoms ++ (Bundle.throwableSAtoms ++ (Bundle.passSAtoms K Q i b ++ (Bundle.chainSAtoms Q r ++ zTl own ic K)))
section ZN
variable {p : Program} {l : Launch} {e : Env} {R : Room} {s : State} {m : MethodId} {args : Array Value} {below : List Frame} {meth : Method} {c : Code} {H : Heap} {locs : List Loc} {cells slots : Nat}
variable {free : Addr → Prop} {ls : Array Slot} {rest : List Value} {Qc : Array Value → State → Outcome → State → Prop} {XC : String → State → State → Prop}
set_option maxHeartbeats 2000000 in
theorem zctor {V : State} (X : Stand p l e R s m args below meth c V locs cells slots) (hexec : p.tables.exec = Jvm.exec) (htr : e.platform.stackTraces = false) {own K Q : String} {r : List String} {ic i : Nat} {b : ByteArray} (hown : s.vm.findClass own = some m.cls) (hK : Bundle.fit K = true) (hQ : Bundle.fit Q = true) (hr : ∀ n ∈ r, Bundle.fit n = true)
    (d0 : decode b 0 = .ok (.aload_n 0, 1)) (d1 : decode b 1 = .ok (.aload_n 1, 1)) (d2 : decode b 2 = .ok (.invokespecial i, 3)) (d5 : decode b 5 = .ok (.return_, 1))
    (h : ∀ w ∈ zNl own ic K Q i b r, w.before args s = true) (hlocs : ∀ x ∈ locs, ∀ cell, s.heap[x.base]? = some cell → cell.vm.isStatics = false)
    {a : Addr} {cX : ClassId} {kX : Class} (hfX : s.vm.findClass K = some cX) (hkX : s.vm.classes[cX]? = some kX) (hcell : V.heap[a]? = some (freshCell cX kX)) (hnew : s.heap.size ≤ a) {msg : Value} (hmsg : msg.isRef = true)
    {g : JFrame} (hg : g.method = m) (hsize : g.locals.size = c.maxLocals) (hlocked : g.locked = none) (hentered : g.entered = []) (hstack : g.stack = msg :: .ref a :: .ref a :: rest)
    (hd6 : decode c.code g.pc = .ok (.invokespecial ic, 3)) (hd9 : decode c.code (g.pc + 3) = .ok (.athrow, 1)) (hout : ∀ x ∈ c.exceptionTable.toList, covers x (g.pc + 3) = false)
    (hRf : r.length + 4 < R.frames) (hRl : 2 * g.monitorRoom + ((Value.ref a :: rest).map fun v => v.category).sum + (13 * (r.length + 2) + 42) ≤ R.locals) (hlocks : meth.locks = false) :
    ∃ U : State, Steps p.tables e below (V.setTop g) U ∧ U.status = .running ∧ Ended U below (.threw a) ∧ s.WarmedH U.vm ∧ s.sameButNew ({ U with vm := s.vm } : State) locs cells slots ∧ ∃ ce : Cell, U.heap[a]? = some ce ∧ ce.vm = .none ∧ s.vm.findClass K = some ce.cls := by
  have howns : e.platform.frameOwnsMonitors = true := by rw [X.admits.platform]
  have hfin : e.platform.finalization = false := by rw [X.admits.platform]
  have hpl : e.platform.magicAccessors = ({} : Platform).magicAccessors := by rw [X.admits.platform]
  have hT : ∀ w ∈ Bundle.throwableAtoms, w.before args s = true := fun w hw => h w (List.mem_append_left _ hw)
  have hTS : ∀ w ∈ Bundle.throwableSAtoms, w.before args s = true := fun w hw => h w (List.mem_append_right _ (List.mem_append_left _ hw))
  have hPa : ∀ w ∈ Bundle.passSAtoms K Q i b, w.before args s = true := fun w hw => h w (List.mem_append_right _ (List.mem_append_right _ (List.mem_append_left _ hw)))
  have hCh : ∀ w ∈ Bundle.chainSAtoms Q r, w.before args s = true := fun w hw => h w (List.mem_append_right _ (List.mem_append_right _ (List.mem_append_right _ (List.mem_append_left _ hw))))
  have hL : ∀ w ∈ zTl own ic K, w.before args s = true := fun w hw => h w (List.mem_append_right _ (List.mem_append_right _ (List.mem_append_right _ (List.mem_append_right _ hw))))
  obtain ⟨T, Z0, L, -, Y⟩ := ThrowableC.of_atoms (args := args) howns hfin hpl hT
  obtain ⟨Z, M, LZ, LM, hnZ⟩ := Init0T.ofS_atoms (args := args) hpl L Y hTS
  obtain ⟨P1, L1, hP1, hPs⟩ := PassC.ofS_atoms (args := args) (s := s) hpl (X := K) (Y := Q) (Bundle.fit_spec hK).1 (Bundle.fit_spec hQ).2 d0 d1 d2 d5 hPa
  obtain ⟨P2, Ps, hlen, L2, hLs, hP2, hsup, hpass⟩ := Bundle.chainS (args := args) hpl hnZ r Q hQ hr hCh
  have hlink1 : P1.sup = firstOf (Z.m T.toThrowableT) ((P2 :: Ps).map (·.toPassT)) := Option.some.inj (hPs.symm.trans hP2)
  have hfound : s.vm.findClass K = some P1.m.cls := findClass_of_methodNamed hP1
  cases Option.some.inj (hfX.symm.trans hfound)
  obtain ⟨c1, kX', hc1, hk, hord, -, -, hn6⟩ := Cond.instantiable_spec (hL (.instantiable K 6) (by simp [zTl]))
  cases Option.some.inj (hc1.symm.trans hfound)
  cases Option.some.inj (hkX.symm.trans hk)
  have hsel0 : selectMethod e.platform s.vm P1.m.cls T.fill0 = .method T.fill0 := by
    obtain ⟨c2, r2, m2, q1, q2, q3, q4, -⟩ := Cond.selects_spec (hL (.selects K Bundle.tFill0 Bundle.tFill0) (by simp [zTl]))
    cases Option.some.inj (q1.symm.trans hfound)
    cases Option.some.inj (q2.symm.trans (State.methodFound?_of_named Y.fill0 (by decide)))
    cases Option.some.inj (q3.symm.trans Y.fill0)
    rw [Launch.admits_selectMethod X.admits]; exact q4
  have hselF : selectMethod e.platform s.vm P1.m.cls T.fill = .method T.fill := by
    obtain ⟨c2, r2, m2, q1, q2, q3, q4, -⟩ := Cond.selects_spec (hL (.selects K Bundle.tFill Bundle.tFill) (by simp [zTl]))
    cases Option.some.inj (q1.symm.trans hfound)
    cases Option.some.inj (q2.symm.trans (State.methodFound?_of_named Y.fill (by decide)))
    cases Option.some.inj (q3.symm.trans Y.fill)
    rw [Launch.admits_selectMethod X.admits]; exact q4
  obtain ⟨cellS0, hcS0, hiss⟩ := Y.statics
  obtain ⟨u0, hu0⟩ := Cond.staticRefV Y.unassigned L.unassignedStatic L.statics hcS0 hiss (hL (.isRef (.static Bundle.tN "UNASSIGNED_STACK" Bundle.steD)) (by simp [zTl]))
  obtain ⟨sen, hsen⟩ := Cond.staticRefV Y.sentinel L.sentinelStatic L.statics hcS0 hiss (hL (.isRef (.static Bundle.tN "SUPPRESSED_SENTINEL" Bundle.listD)) (by simp [zTl]))
  obtain ⟨ci198, i198, fB, hk198, hg198, ha198, hsB, -, hnB, htB, hffB⟩ := Cond.ownField (t := .object "java/lang/Object") Y.found L.cls (by decide +kernel) (hL (.fieldLink Bundle.tN 198 Bundle.tN "backtrace" "Ljava/lang/Object;") (by simp [zTl])) (hL (.lays Bundle.tN Bundle.tN "backtrace" "Ljava/lang/Object;") (by simp [zTl])) e.platform hpl
  obtain ⟨cellS, hcS', heS, -, hkeep⟩ := X.same.2.2.2.2.2 T.aS cellS0 hcS0
  have hcellS : V.heap[T.aS]? = some cellS := hcS'
  have hout' : ∀ j, (⟨T.aS, j⟩ : Loc) ∉ locs := fun j hmem => by
    have h9 := hlocs _ hmem cellS0 hcS0
    rw [hiss] at h9; cases h9
  have hknownS : cellS.vm ≠ .unknown := by
    rw [heS]; intro hu
    rw [show cellS0.vm = .unknown from hu] at hiss
    cases hiss
  have hneS : T.aS ≠ a := Nat.ne_of_lt (Nat.lt_of_lt_of_le (Array.getElem?_eq_some_iff.mp hcS0).1 hnew)
  obtain ⟨iM, hffM⟩ := Y.msg
  obtain ⟨tyC, dC, hdC, hdnC⟩ := Cond.laysAt hfound hk Y.cause (hL (.lays K Bundle.tN "cause" "Ljava/lang/Throwable;") (by simp [zTl]))
  obtain ⟨tyS, dS, hdS, hdnS⟩ := Cond.laysAt hfound hk Y.stack (hL (.lays K Bundle.tN "stackTrace" Bundle.steD) (by simp [zTl]))
  obtain ⟨tyP, dP, hdP, hdnP⟩ := Cond.laysAt hfound hk Y.supp (hL (.lays K Bundle.tN "suppressedExceptions" Bundle.listD) (by simp [zTl]))
  obtain ⟨tyM, dM, hdM, hdnM⟩ := Cond.laysAt hfound hk hffM (hL (.lays K Bundle.tN "detailMessage" "Ljava/lang/String;") (by simp [zTl]))
  obtain ⟨tyB, dB, hdB, hdnB⟩ := Cond.laysAt hfound hk hffB (hL (.lays K Bundle.tN "backtrace" "Ljava/lang/Object;") (by simp [zTl]))
  have bC := Cond.laysApart hdB hdC hdnB hdnC (by rw [hnB, Y.causeName]; decide)
  have bS := Cond.laysApart hdB hdS hdnB hdnS (by rw [hnB, Y.stackName]; decide)
  have bP := Cond.laysApart hdB hdP hdnB hdnP (by rw [hnB, Y.suppName]; decide)
  have hskip : SkipFacts T e.platform s (fun u => u) u0 ((preparedCellV T.toThrowableT (freshCell P1.m.cls kX) a u0 sen).withEntry V.cur) :=
    ⟨{ ci198 := ci198, i198 := i198, fBack := fB }, ⟨hk198, hg198, ha198, hsB⟩, by
      have h9 := fresh_default (c := P1.m.cls) tyB
      rw [htB] at h9
      simpa [preparedCellV, Cell.setSlot, Cell.withEntry, Array.getElem?_setIfInBounds, bC, bS, bP, bC.symm, bS.symm, bP.symm, defaultValue] using h9, fun _ _ => rfl⟩
  obtain ⟨tm, methC, cdC, kC, vm₁, hnC, -, -, -, -, -, -, -, hW₁, st1⟩ := Steps.initColdS (tb := p.tables) (e := e) (below := below) (s := s) (U := V) X.here hexec X.warmed hpl hown (t := Bundle.initS K) rfl rfl (Bundle.fit_spec hK).2
    (hL (.methodLink own ic (Bundle.initS K)) (by simp [zTl])) (hPa (.instanceMethod (Bundle.initS K)) (by simp [Bundle.passSAtoms])) (bytes := b) (maxL := 2) (hPa (.code (Bundle.initS K) b 2 none) (by simp [Bundle.passSAtoms]))
    (f := g) hg (a := a) (msg := msg) (rest := .ref a :: rest) hstack hd6
  cases Option.some.inj (hnC.symm.trans hP1)
  have X₁ := X.noted hW₁
  obtain ⟨vm₂, X₂, st2⟩ := X₁.ctorMessageOffV hexec (g := { g with stack := .ref a :: rest }) hg hsize T L Z LZ M LM (P1 :: P2 :: Ps)
    (fun P hP => by
      rcases List.mem_cons.mp hP with rfl | hP
      · exact L1
      · rcases List.mem_cons.mp hP with rfl | hP
        · exact L2
        · exact hLs P hP) ⟨hlink1, hsup, hpass⟩ (u0 := u0) (sen := sen) (self := a) hmsg (cell := freshCell P1.m.cls kX) (cellS := cellS)
    hcell (fun _ => by simp) (by simp) rfl rfl hsel0 hselF hcellS hneS hknownS (by rw [hkeep _ (hout' _)]; exact hu0) (by rw [hkeep _ (hout' _)]; exact hsen)
    (Takes.of_laid hk hord tyC (by rw [Y.causeType]; rfl)) (Takes.of_laid hk hord tyS (by rw [Y.stackType]; exact fits_refV_array _ u0)) (Takes.of_laid hk hord tyP (by rw [Y.suppType]; exact fits_refV_object _ sen))
    (Takes.of_laid hk hord tyM (by rw [Y.msgType]; exact fits_refV_object _ ⟨msg, hmsg⟩)) Y.objLocals hskip htr [] hd6
    (by simp only [List.length_cons, hlen]; omega) (by simp only [List.length_cons, hlen]; exact hRl)
  obtain ⟨hwalk, hrun, hended, hWU, hsame⟩ := X₂.athrowLeaves hexec (g := { g with stack := .ref a :: rest, pc := g.pc + 3 }) hg hlocked hentered hout (a := a) (rest := rest) rfl hd9
  have hlt : a < ((V.setVm vm₁).setVm vm₂).heap.size := (Array.getElem?_eq_some_iff.mp hcell).1
  have hU := heapAt_setCell_self (s := (V.setVm vm₁).setVm vm₂) (plainBareV T.toThrowableT (freshCell P1.m.cls kX) a u0 sen msg) hlt
  refine ⟨_, st1 _ (fun acts => ?_), hrun, hended, hWU, hsame.weaken (fun y hy hlt' => ?_) (Nat.le_refl _) (Nat.le_refl _), _, hU, rfl, hfound⟩
  · rw [doInvoke_state]
    exact st2 _ hwalk
  · rcases List.mem_append.mp hy with h1 | h1
    · exact h1
    · exfalso
      have hb : y.base = a := by
        simp only [List.mem_cons, List.not_mem_nil, or_false] at h1
        rcases h1 with rfl | rfl | rfl | rfl | rfl <;> rfl
      rw [hb] at hlt'
      exact Nat.not_lt.mpr hnew hlt'
end ZN

