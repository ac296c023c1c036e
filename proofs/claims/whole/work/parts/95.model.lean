/-! the law's wrappers: a call whose exceptions are caught -/
def lvV : zV → Int64
  | .inl x => x.toInt64
  | .inr (.inl x) => x
  | _ => 0
def zNX : String → zH → Prop := fun _ _ => False
def zMw {α : Type} (y : MethodName) (b : ByteArray) (nL : Nat) (hh : List (Nat × Nat × Nat × Nat)) (rm : Room) (c : zC α) : Prop := ∀ (l : Launch) (Y : zY) (sz : Nat) (x : α) (h : zH), l.stackTraces = false → zWF Y → (∀ q ∈ c.1 x, zok Y q) → c.2.1 x h → vx_Met l y (.codeWith y b nL (some .int) hh :: zTW) rm (zPc Y sz (c.1 x) h) (zQc Y sz (c.2.2 x h)) (zXc Y sz zNX) rm.cells rm.slots (zA Y sz)
def zEw (X : zX) (Y : zY) (hh : List (Nat × Nat × Nat × Nat)) (mc ms : Nat) (F : Option zV → zH → Prop) : Prop := (xH X).sig.returnType = some .int ∧ (xH X).locks = false ∧ X.2.1.stackTraces = false ∧ (xC X).exceptionTable.toList = tableOf hh ∧ xQ X = vx_MQ (xB X) (zQc Y (xS X).heap.size F) (zXc Y (xS X).heap.size zNX) (xA X) (xS X) mc ms (zA Y (xS X).heap.size)
theorem zEw_E {X : zX} {Y : zY} {hh : List (Nat × Nat × Nat × Nat)} {mc ms : Nat} {F : Option zV → zH → Prop} (Ex : zEw X Y hh mc ms F) : zEnd X Y (some .int) mc ms F := by
  refine ⟨Ex.1, Ex.2.1, fun H locs g w => ?_⟩
  unfold zW
  rw [Ex.2.2.2.2]
  exact vx_ret w
theorem zMw_of {α : Type} {y : MethodName} {b : ByteArray} {nL : Nat} {hh : List (Nat × Nat × Nat × Nat)} {rm : Room} {c : zC α} (hy : plainName y.cls = true)
    (hb : ∀ (X : zX) (Y : zY) (x : α) (h : zH), c.2.1 x h → zOK X Y b y.cls → zEw X Y hh rm.cells rm.slots (c.2.2 x h) → xR X = rm → znl (c.1 x) = true ∧ (c.1 x).length ≤ nL ∧ ∃ T : zT, zSd X Y 0 0 0 T ∧ T (zarg (c.1 x) nL) [] h) : zMw y b nL hh rm c := by
  intro l Y sz x h hl hF hok hP
  refine vx_ofWH (cc := b) (maxL := nL) (ret := some .int) (hh := hh) hy rfl ?_
  intro p e s m args below meth cd s₁ B hml hv
  obtain ⟨rfl, rfl, hR, hK, hS, hlo⟩ := hv
  have hts := atoms_spec (ws := .codeWith y b nL (some .int) hh :: zTW) B.pre
  obtain ⟨hnl, hlen, T, hs, t⟩ := hb (p, l, e, rm, s, m, ((c.1 x).map zv).toArray, below, meth, cd, vx_MQ below (zQc Y s.heap.size (c.2.2 x h)) (zXc Y s.heap.size zNX) ((c.1 x).map zv).toArray s rm.cells rm.slots (zA Y s.heap.size)) Y x h hP ⟨B.exec, B.bytes, findClass_of_methodNamed B.named, fun w hw => hts w (List.mem_cons_of_mem _ hw), hK, hS, hF, hlo⟩ ⟨B.returns, B.notSynchronized, hl, vx_table (x := y) B (hts _ List.mem_cons_self), rfl⟩ rfl
  exact zentry (Q := 0) hs t hnl hlen hml hok hR
/-- which handler takes E -/
def zCat (hh : List (Nat × Nat × Nat × Nat)) (own : String) (pc : Nat) (E : String) (tgt : Nat) : Prop := ∃ (pre : List ExceptionTableEntry) (z : ExceptionTableEntry) (suf : List ExceptionTableEntry), tableOf hh = pre ++ z :: suf ∧ z.handlerPc = tgt ∧ covers z pc = true ∧ z.catchType ≠ 0 ∧ Cond.classLink own z.catchType E ∈ zTW ∧ E ∈ zExc ∧ ∀ w ∈ pre, w.catchType ≠ 0 ∧ ∃ nm : String, Cond.classLink own w.catchType nm ∈ zTW ∧ (E, nm) ∈ zNoc
def zi_cc {α : Type} (n : Nat) (c : zC α) (d : α → zH → String → zH → Prop) (ks : List String) (kE : String → zT) (k : zT) : zT := fun ls st h => zpop n [] st (fun av st' => cond (Nat.ble (zw st') 8) (∃ x : α, av = c.1 x ∧ c.2.1 x h ∧ (∀ (E : String) (h' : zH), d x h E h' → E ∈ ks ∧ ∀ q : (Nat × Nat) × Nat, kE E ls [.inr (.inr q)] h') ∧ ∀ (r : Option zV) (h' : zH), c.2.2 x h r h' → k ls (zpush r st') h') False)
section ZW
variable {X : zX} {Y : zY} {u v pc : Nat} {cc : ByteArray} {own : String} {k : zT}
theorem zr_xC {α : Type} {c : zC α} {d : α → zH → String → zH → Prop} {y : MethodName} {b : ByteArray} {nLy idx n ci mc ms u' v' : Nat} {rty : Option FieldType} {hh : List (Nat × Nat × Nat × Nat)} {rm rm0 : Room} {F : Option zV → zH → Prop} {ks : List String} {kE : String → zT} {tg : String → Nat} (O : zOK X Y cc own) (Ex : zEw X Y hh mc ms F) (hM : zMx y b nLy rty rm c d) (hB : zBn y b nLy rty rm0 n) (hV : zVw ci y) (hl : Cond.methodLink own idx y ∈ zTW) (hrc : ∀ x : α, ∃ (j a : Nat) (As : List zV), c.1 x = vR (10 + ci) j a :: As)
    (hr : rm.frames + 1 ≤ (xR X).frames ∧ 8 + (nLy + 11) + rm.locals ≤ (xR X).locals ∧ u' ≤ (xR X).cells ∧ v' ≤ (xR X).slots) (hu : u + rm.cells ≤ u') (hv' : v + rm.slots ≤ v') (dd : decode cc pc = .ok (.invokevirtual idx, 3)) (hcat : ∀ E ∈ ks, zCat hh own pc E (tg E) ∧ zSd X Y u' v' (tg E) (kE E)) (hk : zSd X Y u' v' (pc + 3) k) : zSd X Y u v pc (zi_cc (n + 1) c d ks kE k) := by
  intro ls st h t H locs lsA hR hL hv hS
  obtain ⟨bs, st', rfl, hbs, t⟩ := zpop_spec _ _ _ _ t
  obtain ⟨b8, x, hx, hP, tx, t⟩ := zcond t
  have hb8 := Nat.le_of_ble_eq_true b8
  rw [List.append_nil] at hx
  obtain ⟨j, a, As, hA⟩ := hrc x
  have hbs2 : bs = As.reverse ++ [vR (10 + ci) j a] := by
    have := congrArg List.reverse (hx.trans hA)
    rw [List.reverse_reverse, List.reverse_cons] at this
    exact this
  have hAn : As.length = n := by rw [hbs2] at hbs; simp at hbs; exact hbs
  have hok : ∀ q ∈ c.1 x, zok Y q := fun q hq => hv q (List.mem_append_left _ (by rw [← hx] at hq; exact List.mem_reverse.mp hq))
  have hka : yK Y a = (10 + ci, j) := hok (vR (10 + ci) j a) (by rw [hA]; exact List.mem_cons_self)
  obtain ⟨r, h1, ⟨cell, g1, g2, g3, -⟩, -⟩ := (hR a).2.2.2.2.2 ci _ hka
  obtain ⟨hVi, hVs, T, N, hVc⟩ := hV
  have hcls := (O.2.2.2.2.1.1 ci _ hVc).2
  have hts := O.2.2.2.1
  have hmap : (c.1 x).map zv = .ref a :: As.map zv := by rw [hA]; rfl
  refine zq_callX (Y := Y) (F := c.2.2 x h) (D := d x h) (mc := rm.cells) (ms := rm.slots) (a := (.ref a :: As.map zv : List Value).toArray) (rest := st'.map zv) (vx_runV (Ts := zTW) (C := y.cls) (b := a) (As := As.map zv) ⟨O.1, O.2.1, rfl, O.2.2.1, hts⟩ (hM X.2.1 Y H.size x h Ex.2.2.1 O.2.2.2.2.2.2.1 hok hP) ⟨callB_of n hts (zGood hB.1) rfl rfl rfl (hts _ hB.2.1) (hts _ hl) hB.2.2.1 ⟨hr.1, hr.2.1⟩, hts _ hVi, hts _ hVs⟩ ⟨zPc_blind, ⟨cell, g1, by rw [g3]; rfl, by rw [g2]; exact hcls.1⟩, fun U hU hW => by rw [← hmap]; exact zpre O hR hS U hU hW⟩ rfl (by simp [hAn]) hL.1.1 (by rw [hbs2]; simp [zv]) (lv_room (by rw [zw_sum]; exact hb8)) dd ⟨Nat.le_trans hu hr.2.2.1, Nat.le_trans hv' hr.2.2.2⟩) hS (fun E ce q9 h' H1 locs1 hD hR1 hS1 c1 c2 c3 => ?_) (fun r h' H1 locs1 hF hrok hR1 hS1 => ?_)
  · obtain ⟨hE, tE⟩ := tx E h' hD
    obtain ⟨⟨pre, z, suf, e1, e2, e3, e4, e5, e6, e7⟩, hs⟩ := hcat E hE
    refine vx_widen hu hv' (vx_catch O.2.2.1 pre z suf (by rw [Ex.2.2.2.1]; exact e1) (fun w hw => ?_) e3 e4 (hts _ e5) (va_Nw.use rfl (O.2.2.2.2.2.1.2.1 E e6)) c1 c2 c3 ?_)
    · obtain ⟨f1, nm, f2, f3⟩ := e7 w hw
      exact Or.inr ⟨f1, nm, hts _ f2, O.2.2.2.2.2.1.2.2.1 (E, nm) f3⟩
    · rw [e2]
      exact hs ls [.inr (.inr (yK Y q9, q9))] h' (tE (yK Y q9, q9)) H1 locs1 lsA hR1 hL (fun q hq => by rcases List.mem_singleton.mp hq with rfl; rfl) hS1
  · rw [zpush_map]
    refine W.widen hu hv' (hk _ _ _ (t r h' hF) H1 locs1 lsA hR1 hL (fun q hq => ?_) hS1)
    cases r with
    | none => exact hv q (List.mem_append_right _ hq)
    | some w => exact (List.mem_cons.mp hq).elim (fun e => e ▸ hrok w rfl) (fun z => hv q (List.mem_append_right _ z))
end ZW
def kIf {β : Type} (E1 : String) (a b : β) : String → β := fun E => if E = E1 then a else b
theorem kIf_1 {β : Type} {E1 : String} {a b : β} : kIf E1 a b E1 = a := if_pos rfl
theorem kIf_2 {β : Type} {E1 E : String} {a b : β} (h : ¬ E = E1) : kIf E1 a b E = b := if_neg h
theorem zcat2 {X : zX} {Y : zY} {u v pc t1 t2 : Nat} {hh : List (Nat × Nat × Nat × Nat)} {own E1 E2 : String} {a b : zT} (c1 : zCat hh own pc E1 t1) (s1 : zSd X Y u v t1 a) (c2 : zCat hh own pc E2 t2) (s2 : zSd X Y u v t2 b) (hne : ¬ E2 = E1) : ∀ E ∈ [E1, E2], zCat hh own pc E (kIf E1 t1 t2 E) ∧ zSd X Y u v (kIf E1 t1 t2 E) (kIf E1 a b E) := by
  intro E hE
  rcases List.mem_cons.mp hE with rfl | hE
  · rw [kIf_1, kIf_1]; exact ⟨c1, s1⟩
  · rcases List.mem_singleton.mp hE with rfl
    rw [kIf_2 hne, kIf_2 hne]; exact ⟨c2, s2⟩
/-- a wrapper's contract out of that of the method it calls -/
def wA {α : Type} (A : α → List zV) : α × Nat → List zV := fun q => A q.1 ++ [vR 3 1 q.2]
def wP {α : Type} (P : α → zH → Prop) : α × Nat → zH → Prop := fun q h => P q.1 h
def wQ {α : Type} (q : α → zH → Option zV → zH → Prop) (d : α → zH → String → zH → Prop) (ks : List String) : α × Nat → zH → Option zV → zH → Prop := fun z h r h' => (∃ (w : zV) (h1 : zH), q z.1 h (some w) h1 ∧ r = some (vI 0) ∧ h' = zsL h1 z.2 0 (lvV w)) ∨ (∃ (E : String) (i : Nat), d z.1 h E h' ∧ ks[i]? = some E ∧ r = some (vI (nI (i + 1))))

theorem tv_452 : Cond.classLink RL 13 "java/lang/IllegalArgumentException" ∈ zTW := zmem2 212 rfl rfl
theorem tv_453 : Cond.methodLink RL 7 yX10_text ∈ zTW := zmem2 213 rfl rfl
theorem tv_677 : Cond.methodLink RL 15 yX10_set ∈ zTW := zmem3 197 rfl rfl
theorem tv_704 : Cond.classLink RL 23 "java/util/NoSuchElementException" ∈ zTW := zmem3 224 rfl rfl
theorem tv_705 : Cond.methodLink RL 19 yX10_wear ∈ zTW := zmem3 225 rfl rfl
theorem tv_744 : Cond.classLink RL 28 "java/lang/IllegalStateException" ∈ zTW := zmem4 24 rfl rfl
theorem tv_745 : Cond.methodLink RL 25 yX10_enrol ∈ zTW := zmem4 25 rfl rfl
theorem tv_832 : Cond.methodLink RL 30 yX10_hear ∈ zTW := zmem4 112 rfl rfl
theorem tv_839 : Cond.methodLink RL 33 yX10_train ∈ zTW := zmem4 119 rfl rfl
theorem tv_855 : Cond.methodLink RL 36 yX10_turn ∈ zTW := zmem4 135 rfl rfl
theorem tv_871 : Cond.methodLink RL 39 yX10_told ∈ zTW := zmem4 151 rfl rfl
theorem tv_885 : Cond.methodLink RL 42 yX10_ring ∈ zTW := zmem4 165 rfl rfl
theorem tv_896 : Cond.methodLink RL 45 yX10_speed ∈ zTW := zmem4 176 rfl rfl
theorem tv_908 : Cond.methodLink RL 48 yX10_rank ∈ zTW := zmem4 188 rfl rfl
theorem tv_919 : Cond.methodLink RL 51 yX10_pair ∈ zTW := zmem4 199 rfl rfl
theorem tv_939 : Cond.methodLink RL 54 yX10_bit ∈ zTW := zmem4 219 rfl rfl
theorem tv_950 : Cond.methodLink RL 57 yX10_flips ∈ zTW := zmem4 230 rfl rfl
theorem tv_957 : Cond.methodLink RL 60 yX10_odds ∈ zTW := zmem4 237 rfl rfl
theorem tv_977 : Cond.methodLink RL 64 yX10_block ∈ zTW := zmem5 17 rfl rfl
theorem tv_989 : Cond.methodLink RL 67 yX10_recover ∈ zTW := zmem5 29 rfl rfl
theorem tv_1024 : Cond.methodLink RL 70 yX10_fails ∈ zTW := zmem5 64 rfl rfl
theorem tv_1031 : Cond.methodLink RL 74 yX10_safe ∈ zTW := zmem5 71 rfl rfl
theorem tv_1062 : Cond.methodLink RL 77 yX10_range ∈ zTW := zmem5 102 rfl rfl
theorem tv_1073 : Cond.methodLink RL 80 yX10_guardFor ∈ zTW := zmem5 113 rfl rfl
theorem tv_1084 : Cond.methodLink RL 83 yX10_ways ∈ zTW := zmem5 124 rfl rfl
theorem tv_1109 : Cond.methodLink RL 87 yX10_leak ∈ zTW := zmem5 149 rfl rfl
theorem tv_1155 : Cond.methodLink RL 90 yX10_success ∈ zTW := zmem5 195 rfl rfl
theorem tv_1162 : Cond.methodLink RL 93 yX10_curve ∈ zTW := zmem5 202 rfl rfl
theorem dL_text_0 : decode cL_text 0 = .ok (.aload_n 2, 1) := by decide +kernel
theorem dL_text_1 : decode cL_text 1 = .ok (.iconst 0, 1) := by decide +kernel
theorem dL_text_2 : decode cL_text 2 = .ok (.aload_n 0, 1) := by decide +kernel
theorem dL_text_3 : decode cL_text 3 = .ok (.iload_n 1, 1) := by decide +kernel
theorem dL_text_4 : decode cL_text 4 = .ok (.invokevirtual 7, 3) := by decide +kernel
theorem dL_text_7 : decode cL_text 7 = .ok (.i2l, 1) := by decide +kernel
theorem dL_text_8 : decode cL_text 8 = .ok (.lastore, 1) := by decide +kernel
theorem dL_text_9 : decode cL_text 9 = .ok (.goto 6, 3) := by decide +kernel
theorem dL_text_12 : decode cL_text 12 = .ok (.astore_n 3, 1) := by decide +kernel
theorem dL_text_13 : decode cL_text 13 = .ok (.iconst 1, 1) := by decide +kernel
theorem dL_text_14 : decode cL_text 14 = .ok (.ireturn, 1) := by decide +kernel
theorem dL_text_15 : decode cL_text 15 = .ok (.iconst 0, 1) := by decide +kernel
theorem dL_text_16 : decode cL_text 16 = .ok (.ireturn, 1) := by decide +kernel
set_option maxHeartbeats 4000000 in
set_option maxRecDepth 100000 in
theorem w_text : zMw yL_text cL_text 4 [(0, 9, 12, 13)] ({ frames := 9, cells := 1, slots := 6, locals := 173 } : Room) ((wA ca_X10_text, wP cp_X10_text, wQ cq_X10_text cx_X10_text [eIA]) : zC ((zQ × (Nat → zQ) × Nat × Nat × Nat × (Nat → Nat) × Nat × Int32 × Nat × (Nat → Int32) × Int32) × Nat)) := by
  refine zMw_of (by decide) ?_
  rintro X Y ⟨⟨Q, Hs, c, p, k0, π, x, n, tl, T, m⟩, o⟩ h hP O Ex hR
  have E := zEw_E Ex
  have B_12 := zr_iconst (X := X) (Y := Y) (u := 1) (v := 6) (x := 1) O dL_text_13 rfl (zr_ireturn O E (Nat.le_of_ble_eq_true rfl) (Nat.le_of_ble_eq_true rfl) dL_text_14)
  have C_12 := zr_astore_n O dL_text_12 rfl B_12
  have B_9 := zr_i2l (X := X) (Y := Y) (u := 1) (v := 6) O dL_text_7 (zr_last (X := X) (Y := Y) (u := 1) (v := 6) O dL_text_8 (zr_goto (X := X) (Y := Y) (u := 1) (v := 6) O dL_text_9 rfl (zr_iconst (x := 0) O dL_text_15 rfl (zr_ireturn O E (Nat.le_of_ble_eq_true rfl) (Nat.le_of_ble_eq_true rfl) dL_text_16))))
  have B_8 := zr_xC (u := 0) (v := 0) (kE := fun _ => _) (tg := fun _ => 12) (ks := [eIA]) (ci := 9) (n := 1) O Ex m_X10_text (bn_X10_text ({ frames := 0, cells := 0, slots := 0, locals := 0 } : Room) ⟨rfl, rfl⟩) vw_X10_text tv_453 rc_X10_text (zrx hR rfl rfl rfl rfl) (Nat.le_of_ble_eq_true rfl) (Nat.le_of_ble_eq_true rfl) dL_text_4 (fun E hE => by rcases List.mem_singleton.mp hE with rfl; exact ⟨⟨[], ⟨0, 9, 12, 13⟩, [], rfl, rfl, rfl, by decide, tv_452, by decide, fun w hw => absurd hw List.not_mem_nil⟩, C_12⟩) B_9
  refine ⟨rfl, Nat.le_of_ble_eq_true rfl, _, zr_aload_n O dL_text_0 rfl (zr_iconst (x := 0) O dL_text_1 rfl (zr_aload_n O dL_text_2 rfl (zr_iload_n O dL_text_3 rfl (B_8)))), ?_⟩
  refine ⟨(Q, Hs, c, p, k0, π, x, n, tl, T, m), rfl, hP, fun E h1 hd => ?_, fun r h1 hq => ?_⟩
  · have e : E = eIA := by exact hd.2.1
    subst e
    exact ⟨List.mem_singleton.mpr rfl, fun q => Or.inr ⟨eIA, 0, hd, rfl, rfl⟩⟩
  · obtain ⟨w, e⟩ : ∃ w, r = some (vI w) := by exact (Decidable.em ((rdT T (cN n) m).1.2.1 = 0)).elim (fun z => ⟨_, (hq.2.2.2.2.2 z).1⟩) (fun z => ⟨_, (hq.2.2.2.2.1 z).1⟩)
    subst e
    exact ⟨0, rfl, by decide, Or.inl ⟨_, h1, hq, rfl, rfl⟩⟩
theorem dL_set_0 : decode cL_set 0 = .ok (.aload_n 3, 1) := by decide +kernel
theorem dL_set_1 : decode cL_set 1 = .ok (.iconst 0, 1) := by decide +kernel
theorem dL_set_2 : decode cL_set 2 = .ok (.aload_n 0, 1) := by decide +kernel
theorem dL_set_3 : decode cL_set 3 = .ok (.iload_n 1, 1) := by decide +kernel
theorem dL_set_4 : decode cL_set 4 = .ok (.iload_n 2, 1) := by decide +kernel
theorem dL_set_5 : decode cL_set 5 = .ok (.invokevirtual 15, 3) := by decide +kernel
theorem dL_set_8 : decode cL_set 8 = .ok (.i2l, 1) := by decide +kernel
theorem dL_set_9 : decode cL_set 9 = .ok (.lastore, 1) := by decide +kernel
theorem dL_set_10 : decode cL_set 10 = .ok (.goto 7, 3) := by decide +kernel
theorem dL_set_13 : decode cL_set 13 = .ok (.astore 4, 2) := by decide +kernel
theorem dL_set_15 : decode cL_set 15 = .ok (.iconst 1, 1) := by decide +kernel
theorem dL_set_16 : decode cL_set 16 = .ok (.ireturn, 1) := by decide +kernel
theorem dL_set_17 : decode cL_set 17 = .ok (.iconst 0, 1) := by decide +kernel
theorem dL_set_18 : decode cL_set 18 = .ok (.ireturn, 1) := by decide +kernel
set_option maxHeartbeats 4000000 in
set_option maxRecDepth 100000 in
theorem w_set : zMw yL_set cL_set 5 [(0, 10, 13, 13)] ({ frames := 10, cells := 2, slots := 12, locals := 170 } : Room) ((wA ca_X10_set, wP cp_X10_set, wQ cq_X10_set cx_X10_set [eIA]) : zC ((zQ × (Nat → zQ) × Nat × Nat × Nat × (Nat → Nat) × Nat × Int32 × Int32) × Nat)) := by
  refine zMw_of (by decide) ?_
  rintro X Y ⟨⟨Q, Hs, c, p, k0, π, x, w, v⟩, o⟩ h hP O Ex hR
  have E := zEw_E Ex
  have B_13 := zr_iconst (X := X) (Y := Y) (u := 2) (v := 12) (x := 1) O dL_set_15 rfl (zr_ireturn O E (Nat.le_of_ble_eq_true rfl) (Nat.le_of_ble_eq_true rfl) dL_set_16)
  have C_13 := zr_astore O dL_set_13 B_13
  have B_9 := zr_i2l (X := X) (Y := Y) (u := 2) (v := 12) O dL_set_8 (zr_last (X := X) (Y := Y) (u := 2) (v := 12) O dL_set_9 (zr_goto (X := X) (Y := Y) (u := 2) (v := 12) O dL_set_10 rfl (zr_iconst (x := 0) O dL_set_17 rfl (zr_ireturn O E (Nat.le_of_ble_eq_true rfl) (Nat.le_of_ble_eq_true rfl) dL_set_18))))
  have B_8 := zr_xC (u := 0) (v := 0) (kE := fun _ => _) (tg := fun _ => 13) (ks := [eIA]) (ci := 9) (n := 2) O Ex m_X10_set (bn_X10_set ({ frames := 0, cells := 0, slots := 0, locals := 0 } : Room) ⟨rfl, rfl⟩) vw_X10_set tv_677 rc_X10_set (zrx hR rfl rfl rfl rfl) (Nat.le_of_ble_eq_true rfl) (Nat.le_of_ble_eq_true rfl) dL_set_5 (fun E hE => by rcases List.mem_singleton.mp hE with rfl; exact ⟨⟨[], ⟨0, 10, 13, 13⟩, [], rfl, rfl, rfl, by decide, tv_452, by decide, fun w hw => absurd hw List.not_mem_nil⟩, C_13⟩) B_9
  refine ⟨rfl, Nat.le_of_ble_eq_true rfl, _, zr_aload_n O dL_set_0 rfl (zr_iconst (x := 0) O dL_set_1 rfl (zr_aload_n O dL_set_2 rfl (zr_iload_n O dL_set_3 rfl (zr_iload_n O dL_set_4 rfl (B_8))))), ?_⟩
  refine ⟨(Q, Hs, c, p, k0, π, x, w, v), rfl, hP, fun E h1 hd => ?_, fun r h1 hq => ?_⟩
  · have e : E = eIA := by exact hd.2.1
    subst e
    exact ⟨List.mem_singleton.mpr rfl, fun q => Or.inr ⟨eIA, 0, hd, rfl, rfl⟩⟩
  · obtain ⟨w, e⟩ : ∃ w, r = some (vI w) := by exact ⟨_, hq.2.1⟩
    subst e
    exact ⟨0, rfl, by decide, Or.inl ⟨_, h1, hq, rfl, rfl⟩⟩
theorem dL_wear_0 : decode cL_wear 0 = .ok (.aload 4, 2) := by decide +kernel
theorem dL_wear_2 : decode cL_wear 2 = .ok (.iconst 0, 1) := by decide +kernel
theorem dL_wear_3 : decode cL_wear 3 = .ok (.aload_n 0, 1) := by decide +kernel
theorem dL_wear_4 : decode cL_wear 4 = .ok (.iload_n 1, 1) := by decide +kernel
theorem dL_wear_5 : decode cL_wear 5 = .ok (.iload_n 2, 1) := by decide +kernel
theorem dL_wear_6 : decode cL_wear 6 = .ok (.iload_n 3, 1) := by decide +kernel
theorem dL_wear_7 : decode cL_wear 7 = .ok (.invokevirtual 19, 3) := by decide +kernel
theorem dL_wear_10 : decode cL_wear 10 = .ok (.i2l, 1) := by decide +kernel
theorem dL_wear_11 : decode cL_wear 11 = .ok (.lastore, 1) := by decide +kernel
theorem dL_wear_12 : decode cL_wear 12 = .ok (.goto 11, 3) := by decide +kernel
theorem dL_wear_15 : decode cL_wear 15 = .ok (.astore 5, 2) := by decide +kernel
theorem dL_wear_17 : decode cL_wear 17 = .ok (.iconst 1, 1) := by decide +kernel
theorem dL_wear_18 : decode cL_wear 18 = .ok (.ireturn, 1) := by decide +kernel
theorem dL_wear_19 : decode cL_wear 19 = .ok (.astore 5, 2) := by decide +kernel
theorem dL_wear_21 : decode cL_wear 21 = .ok (.iconst 2, 1) := by decide +kernel
theorem dL_wear_22 : decode cL_wear 22 = .ok (.ireturn, 1) := by decide +kernel
theorem dL_wear_23 : decode cL_wear 23 = .ok (.iconst 0, 1) := by decide +kernel
theorem dL_wear_24 : decode cL_wear 24 = .ok (.ireturn, 1) := by decide +kernel
set_option maxHeartbeats 4000000 in
set_option maxRecDepth 100000 in
theorem w_wear : zMw yL_wear cL_wear 6 [(0, 12, 15, 23), (0, 12, 19, 13)] ({ frames := 10, cells := 3, slots := 18, locals := 172 } : Room) ((wA ca_X10_wear, wP cp_X10_wear, wQ cq_X10_wear cx_X10_wear [eNS, eIA]) : zC ((zQ × (Nat → zQ) × Nat × Nat × Nat × (Nat → Nat) × Nat × Int32 × Int32 × Int32) × Nat)) := by
  refine zMw_of (by decide) ?_
  rintro X Y ⟨⟨Q, Hs, c, p, k0, π, x, i, w, v⟩, o⟩ h hP O Ex hR
  have E := zEw_E Ex
  have B_15 := zr_iconst (X := X) (Y := Y) (u := 3) (v := 18) (x := 1) O dL_wear_17 rfl (zr_ireturn O E (Nat.le_of_ble_eq_true rfl) (Nat.le_of_ble_eq_true rfl) dL_wear_18)
  have B_19 := zr_iconst (X := X) (Y := Y) (u := 3) (v := 18) (x := 2) O dL_wear_21 rfl (zr_ireturn O E (Nat.le_of_ble_eq_true rfl) (Nat.le_of_ble_eq_true rfl) dL_wear_22)
  have C_15 := zr_astore O dL_wear_15 B_15
  have C_19 := zr_astore O dL_wear_19 B_19
  have B_9 := zr_i2l (X := X) (Y := Y) (u := 3) (v := 18) O dL_wear_10 (zr_last (X := X) (Y := Y) (u := 3) (v := 18) O dL_wear_11 (zr_goto (X := X) (Y := Y) (u := 3) (v := 18) O dL_wear_12 rfl (zr_iconst (x := 0) O dL_wear_23 rfl (zr_ireturn O E (Nat.le_of_ble_eq_true rfl) (Nat.le_of_ble_eq_true rfl) dL_wear_24))))
  have B_8 := zr_xC (u := 0) (v := 0) (tg := kIf eNS 15 19) (ks := [eNS, eIA]) (ci := 9) (n := 3) O Ex m_X10_wear (bn_X10_wear ({ frames := 0, cells := 0, slots := 0, locals := 0 } : Room) ⟨rfl, rfl⟩) vw_X10_wear tv_705 rc_X10_wear (zrx hR rfl rfl rfl rfl) (Nat.le_of_ble_eq_true rfl) (Nat.le_of_ble_eq_true rfl) dL_wear_7 (zcat2 (E1 := eNS) (E2 := eIA) ⟨[], ⟨0, 12, 15, 23⟩, [⟨0, 12, 19, 13⟩], rfl, rfl, rfl, by decide, tv_704, by decide, fun w hw => absurd hw List.not_mem_nil⟩ C_15 ⟨[⟨0, 12, 15, 23⟩], ⟨0, 12, 19, 13⟩, [], rfl, rfl, rfl, by decide, tv_452, by decide, fun w hw => by rcases List.mem_singleton.mp hw with rfl; exact ⟨by decide, _, tv_704, by decide⟩⟩ C_19 (by decide)) B_9
  refine ⟨rfl, Nat.le_of_ble_eq_true rfl, _, zr_aload O dL_wear_0 (zr_iconst (x := 0) O dL_wear_2 rfl (zr_aload_n O dL_wear_3 rfl (zr_iload_n O dL_wear_4 rfl (zr_iload_n O dL_wear_5 rfl (zr_iload_n O dL_wear_6 rfl (B_8)))))), ?_⟩
  refine ⟨(Q, Hs, c, p, k0, π, x, i, w, v), rfl, hP, fun E h1 hd => ?_, fun r h1 hq => ?_⟩
  · rcases (show E = eNS ∨ E = eIA by exact hd.elim (fun z => by first | exact Or.inl z.2.1 | exact Or.inr z.2.1) (fun z => by first | exact Or.inr z.2.2.1 | exact Or.inl z.2.2.1)) with e | e
    · subst e
      exact ⟨List.mem_cons_self, fun q => by rw [kIf_1]; exact Or.inr ⟨eNS, 0, hd, rfl, rfl⟩⟩
    · subst e
      exact ⟨List.mem_cons_of_mem _ List.mem_cons_self, fun q => by rw [kIf_2 (by decide)]; exact Or.inr ⟨eIA, 1, hd, rfl, rfl⟩⟩
  · obtain ⟨w, e⟩ : ∃ w, r = some (vI w) := by exact ⟨_, hq.2.2.1⟩
    subst e
    exact ⟨0, rfl, by decide, Or.inl ⟨_, h1, hq, rfl, rfl⟩⟩
theorem dL_enrol_0 : decode cL_enrol 0 = .ok (.aload_n 2, 1) := by decide +kernel
theorem dL_enrol_1 : decode cL_enrol 1 = .ok (.iconst 0, 1) := by decide +kernel
theorem dL_enrol_2 : decode cL_enrol 2 = .ok (.aload_n 0, 1) := by decide +kernel
theorem dL_enrol_3 : decode cL_enrol 3 = .ok (.iload_n 1, 1) := by decide +kernel
theorem dL_enrol_4 : decode cL_enrol 4 = .ok (.invokevirtual 25, 3) := by decide +kernel
theorem dL_enrol_7 : decode cL_enrol 7 = .ok (.i2l, 1) := by decide +kernel
theorem dL_enrol_8 : decode cL_enrol 8 = .ok (.lastore, 1) := by decide +kernel
theorem dL_enrol_9 : decode cL_enrol 9 = .ok (.goto 9, 3) := by decide +kernel
theorem dL_enrol_12 : decode cL_enrol 12 = .ok (.astore_n 3, 1) := by decide +kernel
theorem dL_enrol_13 : decode cL_enrol 13 = .ok (.iconst 1, 1) := by decide +kernel
theorem dL_enrol_14 : decode cL_enrol 14 = .ok (.ireturn, 1) := by decide +kernel
theorem dL_enrol_15 : decode cL_enrol 15 = .ok (.astore_n 3, 1) := by decide +kernel
theorem dL_enrol_16 : decode cL_enrol 16 = .ok (.iconst 2, 1) := by decide +kernel
theorem dL_enrol_17 : decode cL_enrol 17 = .ok (.ireturn, 1) := by decide +kernel
theorem dL_enrol_18 : decode cL_enrol 18 = .ok (.iconst 0, 1) := by decide +kernel
theorem dL_enrol_19 : decode cL_enrol 19 = .ok (.ireturn, 1) := by decide +kernel
set_option maxHeartbeats 4000000 in
set_option maxRecDepth 100000 in
theorem w_enrol : zMw yL_enrol cL_enrol 4 [(0, 9, 12, 13), (0, 9, 15, 28)] ({ frames := 9, cells := 2, slots := 12, locals := 149 } : Room) ((wA ca_X10_enrol, wP cp_X10_enrol, wQ cq_X10_enrol cx_X10_enrol [eIA, eIS]) : zC ((zQ × (Nat → zQ) × Nat × Nat × Nat × (Nat → Nat) × Nat × Int32) × Nat)) := by
  refine zMw_of (by decide) ?_
  rintro X Y ⟨⟨Q, Hs, c, p, k0, π, x, s⟩, o⟩ h hP O Ex hR
  have E := zEw_E Ex
  have B_12 := zr_iconst (X := X) (Y := Y) (u := 2) (v := 12) (x := 1) O dL_enrol_13 rfl (zr_ireturn O E (Nat.le_of_ble_eq_true rfl) (Nat.le_of_ble_eq_true rfl) dL_enrol_14)
  have B_15 := zr_iconst (X := X) (Y := Y) (u := 2) (v := 12) (x := 2) O dL_enrol_16 rfl (zr_ireturn O E (Nat.le_of_ble_eq_true rfl) (Nat.le_of_ble_eq_true rfl) dL_enrol_17)
  have C_12 := zr_astore_n O dL_enrol_12 rfl B_12
  have C_15 := zr_astore_n O dL_enrol_15 rfl B_15
  have B_9 := zr_i2l (X := X) (Y := Y) (u := 2) (v := 12) O dL_enrol_7 (zr_last (X := X) (Y := Y) (u := 2) (v := 12) O dL_enrol_8 (zr_goto (X := X) (Y := Y) (u := 2) (v := 12) O dL_enrol_9 rfl (zr_iconst (x := 0) O dL_enrol_18 rfl (zr_ireturn O E (Nat.le_of_ble_eq_true rfl) (Nat.le_of_ble_eq_true rfl) dL_enrol_19))))
  have B_8 := zr_xC (u := 0) (v := 0) (tg := kIf eIA 12 15) (ks := [eIA, eIS]) (ci := 9) (n := 1) O Ex m_X10_enrol (bn_X10_enrol ({ frames := 0, cells := 0, slots := 0, locals := 0 } : Room) ⟨rfl, rfl⟩) vw_X10_enrol tv_745 rc_X10_enrol (zrx hR rfl rfl rfl rfl) (Nat.le_of_ble_eq_true rfl) (Nat.le_of_ble_eq_true rfl) dL_enrol_4 (zcat2 (E1 := eIA) (E2 := eIS) ⟨[], ⟨0, 9, 12, 13⟩, [⟨0, 9, 15, 28⟩], rfl, rfl, rfl, by decide, tv_452, by decide, fun w hw => absurd hw List.not_mem_nil⟩ C_12 ⟨[⟨0, 9, 12, 13⟩], ⟨0, 9, 15, 28⟩, [], rfl, rfl, rfl, by decide, tv_744, by decide, fun w hw => by rcases List.mem_singleton.mp hw with rfl; exact ⟨by decide, _, tv_452, by decide⟩⟩ C_15 (by decide)) B_9
  refine ⟨rfl, Nat.le_of_ble_eq_true rfl, _, zr_aload_n O dL_enrol_0 rfl (zr_iconst (x := 0) O dL_enrol_1 rfl (zr_aload_n O dL_enrol_2 rfl (zr_iload_n O dL_enrol_3 rfl (B_8)))), ?_⟩
  refine ⟨(Q, Hs, c, p, k0, π, x, s), rfl, hP, fun E h1 hd => ?_, fun r h1 hq => ?_⟩
  · rcases (show E = eIA ∨ E = eIS by exact hd.elim (fun z => by first | exact Or.inl z.2.1 | exact Or.inr z.2.1) (fun z => by first | exact Or.inr z.2.2.1 | exact Or.inl z.2.2.1)) with e | e
    · subst e
      exact ⟨List.mem_cons_self, fun q => by rw [kIf_1]; exact Or.inr ⟨eIA, 0, hd, rfl, rfl⟩⟩
    · subst e
      exact ⟨List.mem_cons_of_mem _ List.mem_cons_self, fun q => by rw [kIf_2 (by decide)]; exact Or.inr ⟨eIS, 1, hd, rfl, rfl⟩⟩
  · obtain ⟨w, e⟩ : ∃ w, r = some (vI w) := by exact ⟨_, hq.2.2.1⟩
    subst e
    exact ⟨0, rfl, by decide, Or.inl ⟨_, h1, hq, rfl, rfl⟩⟩
theorem dL_hear_0 : decode cL_hear 0 = .ok (.aload_n 2, 1) := by decide +kernel
theorem dL_hear_1 : decode cL_hear 1 = .ok (.iconst 0, 1) := by decide +kernel
theorem dL_hear_2 : decode cL_hear 2 = .ok (.aload_n 0, 1) := by decide +kernel
theorem dL_hear_3 : decode cL_hear 3 = .ok (.iload_n 1, 1) := by decide +kernel
theorem dL_hear_4 : decode cL_hear 4 = .ok (.invokevirtual 30, 3) := by decide +kernel
theorem dL_hear_7 : decode cL_hear 7 = .ok (.i2l, 1) := by decide +kernel
theorem dL_hear_8 : decode cL_hear 8 = .ok (.lastore, 1) := by decide +kernel
theorem dL_hear_9 : decode cL_hear 9 = .ok (.goto 6, 3) := by decide +kernel
theorem dL_hear_12 : decode cL_hear 12 = .ok (.astore_n 3, 1) := by decide +kernel
theorem dL_hear_13 : decode cL_hear 13 = .ok (.iconst 1, 1) := by decide +kernel
theorem dL_hear_14 : decode cL_hear 14 = .ok (.ireturn, 1) := by decide +kernel
theorem dL_hear_15 : decode cL_hear 15 = .ok (.iconst 0, 1) := by decide +kernel
theorem dL_hear_16 : decode cL_hear 16 = .ok (.ireturn, 1) := by decide +kernel
set_option maxHeartbeats 4000000 in
set_option maxRecDepth 100000 in
theorem w_hear : zMw yL_hear cL_hear 4 [(0, 9, 12, 23)] ({ frames := 9, cells := 1, slots := 6, locals := 146 } : Room) ((wA ca_X10_hear, wP cp_X10_hear, wQ cq_X10_hear cx_X10_hear [eNS]) : zC ((zQ × (Nat → zQ) × Nat × Nat × Nat × (Nat → Nat) × Nat × Int32) × Nat)) := by
  refine zMw_of (by decide) ?_
  rintro X Y ⟨⟨Q, Hs, c, p, k0, π, x, i⟩, o⟩ h hP O Ex hR
  have E := zEw_E Ex
  have B_12 := zr_iconst (X := X) (Y := Y) (u := 1) (v := 6) (x := 1) O dL_hear_13 rfl (zr_ireturn O E (Nat.le_of_ble_eq_true rfl) (Nat.le_of_ble_eq_true rfl) dL_hear_14)
  have C_12 := zr_astore_n O dL_hear_12 rfl B_12
  have B_9 := zr_i2l (X := X) (Y := Y) (u := 1) (v := 6) O dL_hear_7 (zr_last (X := X) (Y := Y) (u := 1) (v := 6) O dL_hear_8 (zr_goto (X := X) (Y := Y) (u := 1) (v := 6) O dL_hear_9 rfl (zr_iconst (x := 0) O dL_hear_15 rfl (zr_ireturn O E (Nat.le_of_ble_eq_true rfl) (Nat.le_of_ble_eq_true rfl) dL_hear_16))))
  have B_8 := zr_xC (u := 0) (v := 0) (kE := fun _ => _) (tg := fun _ => 12) (ks := [eNS]) (ci := 9) (n := 1) O Ex m_X10_hear (bn_X10_hear ({ frames := 0, cells := 0, slots := 0, locals := 0 } : Room) ⟨rfl, rfl⟩) vw_X10_hear tv_832 rc_X10_hear (zrx hR rfl rfl rfl rfl) (Nat.le_of_ble_eq_true rfl) (Nat.le_of_ble_eq_true rfl) dL_hear_4 (fun E hE => by rcases List.mem_singleton.mp hE with rfl; exact ⟨⟨[], ⟨0, 9, 12, 23⟩, [], rfl, rfl, rfl, by decide, tv_704, by decide, fun w hw => absurd hw List.not_mem_nil⟩, C_12⟩) B_9
  refine ⟨rfl, Nat.le_of_ble_eq_true rfl, _, zr_aload_n O dL_hear_0 rfl (zr_iconst (x := 0) O dL_hear_1 rfl (zr_aload_n O dL_hear_2 rfl (zr_iload_n O dL_hear_3 rfl (B_8)))), ?_⟩
  refine ⟨(Q, Hs, c, p, k0, π, x, i), rfl, hP, fun E h1 hd => ?_, fun r h1 hq => ?_⟩
  · have e : E = eNS := by exact hd.2.1
    subst e
    exact ⟨List.mem_singleton.mpr rfl, fun q => Or.inr ⟨eNS, 0, hd, rfl, rfl⟩⟩
  · obtain ⟨w, e⟩ : ∃ w, r = some (vI w) := by exact ⟨_, hq.2.1⟩
    subst e
    exact ⟨0, rfl, by decide, Or.inl ⟨_, h1, hq, rfl, rfl⟩⟩
theorem dL_train_0 : decode cL_train 0 = .ok (.aload_n 2, 1) := by decide +kernel
theorem dL_train_1 : decode cL_train 1 = .ok (.iconst 0, 1) := by decide +kernel
theorem dL_train_2 : decode cL_train 2 = .ok (.aload_n 0, 1) := by decide +kernel
theorem dL_train_3 : decode cL_train 3 = .ok (.iload_n 1, 1) := by decide +kernel
theorem dL_train_4 : decode cL_train 4 = .ok (.invokevirtual 33, 3) := by decide +kernel
theorem dL_train_7 : decode cL_train 7 = .ok (.i2l, 1) := by decide +kernel
theorem dL_train_8 : decode cL_train 8 = .ok (.lastore, 1) := by decide +kernel
theorem dL_train_9 : decode cL_train 9 = .ok (.goto 6, 3) := by decide +kernel
theorem dL_train_12 : decode cL_train 12 = .ok (.astore_n 3, 1) := by decide +kernel
theorem dL_train_13 : decode cL_train 13 = .ok (.iconst 1, 1) := by decide +kernel
theorem dL_train_14 : decode cL_train 14 = .ok (.ireturn, 1) := by decide +kernel
theorem dL_train_15 : decode cL_train 15 = .ok (.iconst 0, 1) := by decide +kernel
theorem dL_train_16 : decode cL_train 16 = .ok (.ireturn, 1) := by decide +kernel
set_option maxHeartbeats 4000000 in
set_option maxRecDepth 100000 in
theorem w_train : zMw yL_train cL_train 4 [(0, 9, 12, 13)] ({ frames := 9, cells := 1, slots := 6, locals := 148 } : Room) ((wA ca_X10_train, wP cp_X10_train, wQ cq_X10_train cx_X10_train [eIA]) : zC ((zQ × (Nat → zQ) × Nat × Nat × Nat × (Nat → Nat) × Nat × Int32) × Nat)) := by
  refine zMw_of (by decide) ?_
  rintro X Y ⟨⟨Q, Hs, c, p, k0, π, x, e⟩, o⟩ h hP O Ex hR
  have E := zEw_E Ex
  have B_12 := zr_iconst (X := X) (Y := Y) (u := 1) (v := 6) (x := 1) O dL_train_13 rfl (zr_ireturn O E (Nat.le_of_ble_eq_true rfl) (Nat.le_of_ble_eq_true rfl) dL_train_14)
  have C_12 := zr_astore_n O dL_train_12 rfl B_12
  have B_9 := zr_i2l (X := X) (Y := Y) (u := 1) (v := 6) O dL_train_7 (zr_last (X := X) (Y := Y) (u := 1) (v := 6) O dL_train_8 (zr_goto (X := X) (Y := Y) (u := 1) (v := 6) O dL_train_9 rfl (zr_iconst (x := 0) O dL_train_15 rfl (zr_ireturn O E (Nat.le_of_ble_eq_true rfl) (Nat.le_of_ble_eq_true rfl) dL_train_16))))
  have B_8 := zr_xC (u := 0) (v := 0) (kE := fun _ => _) (tg := fun _ => 12) (ks := [eIA]) (ci := 9) (n := 1) O Ex m_X10_train (bn_X10_train ({ frames := 0, cells := 0, slots := 0, locals := 0 } : Room) ⟨rfl, rfl⟩) vw_X10_train tv_839 rc_X10_train (zrx hR rfl rfl rfl rfl) (Nat.le_of_ble_eq_true rfl) (Nat.le_of_ble_eq_true rfl) dL_train_4 (fun E hE => by rcases List.mem_singleton.mp hE with rfl; exact ⟨⟨[], ⟨0, 9, 12, 13⟩, [], rfl, rfl, rfl, by decide, tv_452, by decide, fun w hw => absurd hw List.not_mem_nil⟩, C_12⟩) B_9
  refine ⟨rfl, Nat.le_of_ble_eq_true rfl, _, zr_aload_n O dL_train_0 rfl (zr_iconst (x := 0) O dL_train_1 rfl (zr_aload_n O dL_train_2 rfl (zr_iload_n O dL_train_3 rfl (B_8)))), ?_⟩
  refine ⟨(Q, Hs, c, p, k0, π, x, e), rfl, hP, fun E h1 hd => ?_, fun r h1 hq => ?_⟩
  · have e : E = eIA := by exact hd.2.1
    subst e
    exact ⟨List.mem_singleton.mpr rfl, fun q => Or.inr ⟨eIA, 0, hd, rfl, rfl⟩⟩
  · obtain ⟨w, e⟩ : ∃ w, r = some (vI w) := by exact ⟨_, hq.2.1⟩
    subst e
    exact ⟨0, rfl, by decide, Or.inl ⟨_, h1, hq, rfl, rfl⟩⟩
theorem dL_turn_0 : decode cL_turn 0 = .ok (.aload_n 2, 1) := by decide +kernel
theorem dL_turn_1 : decode cL_turn 1 = .ok (.iconst 0, 1) := by decide +kernel
theorem dL_turn_2 : decode cL_turn 2 = .ok (.aload_n 0, 1) := by decide +kernel
theorem dL_turn_3 : decode cL_turn 3 = .ok (.iload_n 1, 1) := by decide +kernel
theorem dL_turn_4 : decode cL_turn 4 = .ok (.invokevirtual 36, 3) := by decide +kernel
theorem dL_turn_7 : decode cL_turn 7 = .ok (.i2l, 1) := by decide +kernel
theorem dL_turn_8 : decode cL_turn 8 = .ok (.lastore, 1) := by decide +kernel
theorem dL_turn_9 : decode cL_turn 9 = .ok (.goto 9, 3) := by decide +kernel
theorem dL_turn_12 : decode cL_turn 12 = .ok (.astore_n 3, 1) := by decide +kernel
theorem dL_turn_13 : decode cL_turn 13 = .ok (.iconst 1, 1) := by decide +kernel
theorem dL_turn_14 : decode cL_turn 14 = .ok (.ireturn, 1) := by decide +kernel
theorem dL_turn_15 : decode cL_turn 15 = .ok (.astore_n 3, 1) := by decide +kernel
theorem dL_turn_16 : decode cL_turn 16 = .ok (.iconst 2, 1) := by decide +kernel
theorem dL_turn_17 : decode cL_turn 17 = .ok (.ireturn, 1) := by decide +kernel
theorem dL_turn_18 : decode cL_turn 18 = .ok (.iconst 0, 1) := by decide +kernel
theorem dL_turn_19 : decode cL_turn 19 = .ok (.ireturn, 1) := by decide +kernel
set_option maxHeartbeats 4000000 in
set_option maxRecDepth 100000 in
theorem w_turn : zMw yL_turn cL_turn 4 [(0, 9, 12, 28), (0, 9, 15, 23)] ({ frames := 9, cells := 2, slots := 12, locals := 145 } : Room) ((wA ca_X10_turn, wP cp_X10_turn, wQ cq_X10_turn cx_X10_turn [eIS, eNS]) : zC ((zQ × (Nat → zQ) × Nat × Nat × Nat × (Nat → Nat) × Nat × Int32) × Nat)) := by
  refine zMw_of (by decide) ?_
  rintro X Y ⟨⟨Q, Hs, c, p, k0, π, x, i⟩, o⟩ h hP O Ex hR
  have E := zEw_E Ex
  have B_12 := zr_iconst (X := X) (Y := Y) (u := 2) (v := 12) (x := 1) O dL_turn_13 rfl (zr_ireturn O E (Nat.le_of_ble_eq_true rfl) (Nat.le_of_ble_eq_true rfl) dL_turn_14)
  have B_15 := zr_iconst (X := X) (Y := Y) (u := 2) (v := 12) (x := 2) O dL_turn_16 rfl (zr_ireturn O E (Nat.le_of_ble_eq_true rfl) (Nat.le_of_ble_eq_true rfl) dL_turn_17)
  have C_12 := zr_astore_n O dL_turn_12 rfl B_12
  have C_15 := zr_astore_n O dL_turn_15 rfl B_15
  have B_9 := zr_i2l (X := X) (Y := Y) (u := 2) (v := 12) O dL_turn_7 (zr_last (X := X) (Y := Y) (u := 2) (v := 12) O dL_turn_8 (zr_goto (X := X) (Y := Y) (u := 2) (v := 12) O dL_turn_9 rfl (zr_iconst (x := 0) O dL_turn_18 rfl (zr_ireturn O E (Nat.le_of_ble_eq_true rfl) (Nat.le_of_ble_eq_true rfl) dL_turn_19))))
  have B_8 := zr_xC (u := 0) (v := 0) (tg := kIf eIS 12 15) (ks := [eIS, eNS]) (ci := 9) (n := 1) O Ex m_X10_turn (bn_X10_turn ({ frames := 0, cells := 0, slots := 0, locals := 0 } : Room) ⟨rfl, rfl⟩) vw_X10_turn tv_855 rc_X10_turn (zrx hR rfl rfl rfl rfl) (Nat.le_of_ble_eq_true rfl) (Nat.le_of_ble_eq_true rfl) dL_turn_4 (zcat2 (E1 := eIS) (E2 := eNS) ⟨[], ⟨0, 9, 12, 28⟩, [⟨0, 9, 15, 23⟩], rfl, rfl, rfl, by decide, tv_744, by decide, fun w hw => absurd hw List.not_mem_nil⟩ C_12 ⟨[⟨0, 9, 12, 28⟩], ⟨0, 9, 15, 23⟩, [], rfl, rfl, rfl, by decide, tv_704, by decide, fun w hw => by rcases List.mem_singleton.mp hw with rfl; exact ⟨by decide, _, tv_744, by decide⟩⟩ C_15 (by decide)) B_9
  refine ⟨rfl, Nat.le_of_ble_eq_true rfl, _, zr_aload_n O dL_turn_0 rfl (zr_iconst (x := 0) O dL_turn_1 rfl (zr_aload_n O dL_turn_2 rfl (zr_iload_n O dL_turn_3 rfl (B_8)))), ?_⟩
  refine ⟨(Q, Hs, c, p, k0, π, x, i), rfl, hP, fun E h1 hd => ?_, fun r h1 hq => ?_⟩
  · rcases (show E = eIS ∨ E = eNS by exact hd.elim (fun z => by first | exact Or.inl z.2.1 | exact Or.inr z.2.1) (fun z => by first | exact Or.inr z.2.2.1 | exact Or.inl z.2.2.1)) with e | e
    · subst e
      exact ⟨List.mem_cons_self, fun q => by rw [kIf_1]; exact Or.inr ⟨eIS, 0, hd, rfl, rfl⟩⟩
    · subst e
      exact ⟨List.mem_cons_of_mem _ List.mem_cons_self, fun q => by rw [kIf_2 (by decide)]; exact Or.inr ⟨eNS, 1, hd, rfl, rfl⟩⟩
  · obtain ⟨w, e⟩ : ∃ w, r = some (vI w) := by exact ⟨_, hq.2.2.1⟩
    subst e
    exact ⟨0, rfl, by decide, Or.inl ⟨_, h1, hq, rfl, rfl⟩⟩
theorem dL_told_0 : decode cL_told 0 = .ok (.aload_n 2, 1) := by decide +kernel
theorem dL_told_1 : decode cL_told 1 = .ok (.iconst 0, 1) := by decide +kernel
theorem dL_told_2 : decode cL_told 2 = .ok (.aload_n 0, 1) := by decide +kernel
theorem dL_told_3 : decode cL_told 3 = .ok (.iload_n 1, 1) := by decide +kernel
theorem dL_told_4 : decode cL_told 4 = .ok (.invokevirtual 39, 3) := by decide +kernel
theorem dL_told_7 : decode cL_told 7 = .ok (.i2l, 1) := by decide +kernel
theorem dL_told_8 : decode cL_told 8 = .ok (.lastore, 1) := by decide +kernel
theorem dL_told_9 : decode cL_told 9 = .ok (.goto 6, 3) := by decide +kernel
theorem dL_told_12 : decode cL_told 12 = .ok (.astore_n 3, 1) := by decide +kernel
theorem dL_told_13 : decode cL_told 13 = .ok (.iconst 1, 1) := by decide +kernel
theorem dL_told_14 : decode cL_told 14 = .ok (.ireturn, 1) := by decide +kernel
theorem dL_told_15 : decode cL_told 15 = .ok (.iconst 0, 1) := by decide +kernel
theorem dL_told_16 : decode cL_told 16 = .ok (.ireturn, 1) := by decide +kernel
set_option maxHeartbeats 4000000 in
set_option maxRecDepth 100000 in
theorem w_told : zMw yL_told cL_told 4 [(0, 9, 12, 13)] ({ frames := 9, cells := 1, slots := 6, locals := 147 } : Room) ((wA ca_X10_told, wP cp_X10_told, wQ cq_X10_told cx_X10_told [eIA]) : zC ((zQ × Nat × Int32 × Nat × Nat) × Nat)) := by
  refine zMw_of (by decide) ?_
  rintro X Y ⟨⟨Q, x, w, c, tl⟩, o⟩ h hP O Ex hR
  have E := zEw_E Ex
  have B_12 := zr_iconst (X := X) (Y := Y) (u := 1) (v := 6) (x := 1) O dL_told_13 rfl (zr_ireturn O E (Nat.le_of_ble_eq_true rfl) (Nat.le_of_ble_eq_true rfl) dL_told_14)
  have C_12 := zr_astore_n O dL_told_12 rfl B_12
  have B_9 := zr_i2l (X := X) (Y := Y) (u := 1) (v := 6) O dL_told_7 (zr_last (X := X) (Y := Y) (u := 1) (v := 6) O dL_told_8 (zr_goto (X := X) (Y := Y) (u := 1) (v := 6) O dL_told_9 rfl (zr_iconst (x := 0) O dL_told_15 rfl (zr_ireturn O E (Nat.le_of_ble_eq_true rfl) (Nat.le_of_ble_eq_true rfl) dL_told_16))))
  have B_8 := zr_xC (u := 0) (v := 0) (kE := fun _ => _) (tg := fun _ => 12) (ks := [eIA]) (ci := 9) (n := 1) O Ex m_X10_told (bn_X10_told ({ frames := 0, cells := 0, slots := 0, locals := 0 } : Room) ⟨rfl, rfl⟩) vw_X10_told tv_871 rc_X10_told (zrx hR rfl rfl rfl rfl) (Nat.le_of_ble_eq_true rfl) (Nat.le_of_ble_eq_true rfl) dL_told_4 (fun E hE => by rcases List.mem_singleton.mp hE with rfl; exact ⟨⟨[], ⟨0, 9, 12, 13⟩, [], rfl, rfl, rfl, by decide, tv_452, by decide, fun w hw => absurd hw List.not_mem_nil⟩, C_12⟩) B_9
  refine ⟨rfl, Nat.le_of_ble_eq_true rfl, _, zr_aload_n O dL_told_0 rfl (zr_iconst (x := 0) O dL_told_1 rfl (zr_aload_n O dL_told_2 rfl (zr_iload_n O dL_told_3 rfl (B_8)))), ?_⟩
  refine ⟨(Q, x, w, c, tl), rfl, hP, fun E h1 hd => ?_, fun r h1 hq => ?_⟩
  · have e : E = eIA := by exact hd.2.1
    subst e
    exact ⟨List.mem_singleton.mpr rfl, fun q => Or.inr ⟨eIA, 0, hd, rfl, rfl⟩⟩
  · obtain ⟨w, e⟩ : ∃ w, r = some (vI w) := by exact ⟨_, hq.2.1⟩
    subst e
    exact ⟨0, rfl, by decide, Or.inl ⟨_, h1, hq, rfl, rfl⟩⟩
theorem dL_ring_0 : decode cL_ring 0 = .ok (.aload_n 3, 1) := by decide +kernel
theorem dL_ring_1 : decode cL_ring 1 = .ok (.iconst 0, 1) := by decide +kernel
theorem dL_ring_2 : decode cL_ring 2 = .ok (.aload_n 0, 1) := by decide +kernel
theorem dL_ring_3 : decode cL_ring 3 = .ok (.iload_n 1, 1) := by decide +kernel
theorem dL_ring_4 : decode cL_ring 4 = .ok (.iload_n 2, 1) := by decide +kernel
theorem dL_ring_5 : decode cL_ring 5 = .ok (.invokevirtual 42, 3) := by decide +kernel
theorem dL_ring_8 : decode cL_ring 8 = .ok (.i2l, 1) := by decide +kernel
theorem dL_ring_9 : decode cL_ring 9 = .ok (.lastore, 1) := by decide +kernel
theorem dL_ring_10 : decode cL_ring 10 = .ok (.goto 11, 3) := by decide +kernel
theorem dL_ring_13 : decode cL_ring 13 = .ok (.astore 4, 2) := by decide +kernel
theorem dL_ring_15 : decode cL_ring 15 = .ok (.iconst 1, 1) := by decide +kernel
theorem dL_ring_16 : decode cL_ring 16 = .ok (.ireturn, 1) := by decide +kernel
theorem dL_ring_17 : decode cL_ring 17 = .ok (.astore 4, 2) := by decide +kernel
theorem dL_ring_19 : decode cL_ring 19 = .ok (.iconst 2, 1) := by decide +kernel
theorem dL_ring_20 : decode cL_ring 20 = .ok (.ireturn, 1) := by decide +kernel
theorem dL_ring_21 : decode cL_ring 21 = .ok (.iconst 0, 1) := by decide +kernel
theorem dL_ring_22 : decode cL_ring 22 = .ok (.ireturn, 1) := by decide +kernel
set_option maxHeartbeats 4000000 in
set_option maxRecDepth 100000 in
theorem w_ring : zMw yL_ring cL_ring 5 [(0, 10, 13, 23), (0, 10, 17, 13)] ({ frames := 9, cells := 2, slots := 12, locals := 147 } : Room) ((wA ca_X10_ring, wP cp_X10_ring, wQ cq_X10_ring cx_X10_ring [eNS, eIA]) : zC ((zQ × Nat × Int32 × Int32) × Nat)) := by
  refine zMw_of (by decide) ?_
  rintro X Y ⟨⟨Q, x, i, w⟩, o⟩ h hP O Ex hR
  have E := zEw_E Ex
  have B_13 := zr_iconst (X := X) (Y := Y) (u := 2) (v := 12) (x := 1) O dL_ring_15 rfl (zr_ireturn O E (Nat.le_of_ble_eq_true rfl) (Nat.le_of_ble_eq_true rfl) dL_ring_16)
  have B_17 := zr_iconst (X := X) (Y := Y) (u := 2) (v := 12) (x := 2) O dL_ring_19 rfl (zr_ireturn O E (Nat.le_of_ble_eq_true rfl) (Nat.le_of_ble_eq_true rfl) dL_ring_20)
  have C_13 := zr_astore O dL_ring_13 B_13
  have C_17 := zr_astore O dL_ring_17 B_17
  have B_9 := zr_i2l (X := X) (Y := Y) (u := 2) (v := 12) O dL_ring_8 (zr_last (X := X) (Y := Y) (u := 2) (v := 12) O dL_ring_9 (zr_goto (X := X) (Y := Y) (u := 2) (v := 12) O dL_ring_10 rfl (zr_iconst (x := 0) O dL_ring_21 rfl (zr_ireturn O E (Nat.le_of_ble_eq_true rfl) (Nat.le_of_ble_eq_true rfl) dL_ring_22))))
  have B_8 := zr_xC (u := 0) (v := 0) (tg := kIf eNS 13 17) (ks := [eNS, eIA]) (ci := 9) (n := 2) O Ex m_X10_ring (bn_X10_ring ({ frames := 0, cells := 0, slots := 0, locals := 0 } : Room) ⟨rfl, rfl⟩) vw_X10_ring tv_885 rc_X10_ring (zrx hR rfl rfl rfl rfl) (Nat.le_of_ble_eq_true rfl) (Nat.le_of_ble_eq_true rfl) dL_ring_5 (zcat2 (E1 := eNS) (E2 := eIA) ⟨[], ⟨0, 10, 13, 23⟩, [⟨0, 10, 17, 13⟩], rfl, rfl, rfl, by decide, tv_704, by decide, fun w hw => absurd hw List.not_mem_nil⟩ C_13 ⟨[⟨0, 10, 13, 23⟩], ⟨0, 10, 17, 13⟩, [], rfl, rfl, rfl, by decide, tv_452, by decide, fun w hw => by rcases List.mem_singleton.mp hw with rfl; exact ⟨by decide, _, tv_704, by decide⟩⟩ C_17 (by decide)) B_9
  refine ⟨rfl, Nat.le_of_ble_eq_true rfl, _, zr_aload_n O dL_ring_0 rfl (zr_iconst (x := 0) O dL_ring_1 rfl (zr_aload_n O dL_ring_2 rfl (zr_iload_n O dL_ring_3 rfl (zr_iload_n O dL_ring_4 rfl (B_8))))), ?_⟩
  refine ⟨(Q, x, i, w), rfl, hP, fun E h1 hd => ?_, fun r h1 hq => ?_⟩
  · rcases (show E = eNS ∨ E = eIA by exact hd.elim (fun z => by first | exact Or.inl z.2.1 | exact Or.inr z.2.1) (fun z => by first | exact Or.inr z.2.2.1 | exact Or.inl z.2.2.1)) with e | e
    · subst e
      exact ⟨List.mem_cons_self, fun q => by rw [kIf_1]; exact Or.inr ⟨eNS, 0, hd, rfl, rfl⟩⟩
    · subst e
      exact ⟨List.mem_cons_of_mem _ List.mem_cons_self, fun q => by rw [kIf_2 (by decide)]; exact Or.inr ⟨eIA, 1, hd, rfl, rfl⟩⟩
  · obtain ⟨w, e⟩ : ∃ w, r = some (vI w) := by exact ⟨_, hq.2.2.1⟩
    subst e
    exact ⟨0, rfl, by decide, Or.inl ⟨_, h1, hq, rfl, rfl⟩⟩
theorem dL_speed_0 : decode cL_speed 0 = .ok (.aload_n 3, 1) := by decide +kernel
theorem dL_speed_1 : decode cL_speed 1 = .ok (.iconst 0, 1) := by decide +kernel
theorem dL_speed_2 : decode cL_speed 2 = .ok (.aload_n 0, 1) := by decide +kernel
theorem dL_speed_3 : decode cL_speed 3 = .ok (.iload_n 1, 1) := by decide +kernel
theorem dL_speed_4 : decode cL_speed 4 = .ok (.iload_n 2, 1) := by decide +kernel
theorem dL_speed_5 : decode cL_speed 5 = .ok (.invokevirtual 45, 3) := by decide +kernel
theorem dL_speed_8 : decode cL_speed 8 = .ok (.i2l, 1) := by decide +kernel
theorem dL_speed_9 : decode cL_speed 9 = .ok (.lastore, 1) := by decide +kernel
theorem dL_speed_10 : decode cL_speed 10 = .ok (.goto 11, 3) := by decide +kernel
theorem dL_speed_13 : decode cL_speed 13 = .ok (.astore 4, 2) := by decide +kernel
theorem dL_speed_15 : decode cL_speed 15 = .ok (.iconst 1, 1) := by decide +kernel
theorem dL_speed_16 : decode cL_speed 16 = .ok (.ireturn, 1) := by decide +kernel
theorem dL_speed_17 : decode cL_speed 17 = .ok (.astore 4, 2) := by decide +kernel
theorem dL_speed_19 : decode cL_speed 19 = .ok (.iconst 2, 1) := by decide +kernel
theorem dL_speed_20 : decode cL_speed 20 = .ok (.ireturn, 1) := by decide +kernel
theorem dL_speed_21 : decode cL_speed 21 = .ok (.iconst 0, 1) := by decide +kernel
theorem dL_speed_22 : decode cL_speed 22 = .ok (.ireturn, 1) := by decide +kernel
set_option maxHeartbeats 4000000 in
set_option maxRecDepth 100000 in
theorem w_speed : zMw yL_speed cL_speed 5 [(0, 10, 13, 23), (0, 10, 17, 13)] ({ frames := 10, cells := 2, slots := 12, locals := 168 } : Room) ((wA ca_X10_speed, wP cp_X10_speed, wQ cq_X10_speed cx_X10_speed [eNS, eIA]) : zC ((zQ × Nat × Int32 × Int32) × Nat)) := by
  refine zMw_of (by decide) ?_
  rintro X Y ⟨⟨Q, x, i, te⟩, o⟩ h hP O Ex hR
  have E := zEw_E Ex
  have B_13 := zr_iconst (X := X) (Y := Y) (u := 2) (v := 12) (x := 1) O dL_speed_15 rfl (zr_ireturn O E (Nat.le_of_ble_eq_true rfl) (Nat.le_of_ble_eq_true rfl) dL_speed_16)
  have B_17 := zr_iconst (X := X) (Y := Y) (u := 2) (v := 12) (x := 2) O dL_speed_19 rfl (zr_ireturn O E (Nat.le_of_ble_eq_true rfl) (Nat.le_of_ble_eq_true rfl) dL_speed_20)
  have C_13 := zr_astore O dL_speed_13 B_13
  have C_17 := zr_astore O dL_speed_17 B_17
  have B_9 := zr_i2l (X := X) (Y := Y) (u := 2) (v := 12) O dL_speed_8 (zr_last (X := X) (Y := Y) (u := 2) (v := 12) O dL_speed_9 (zr_goto (X := X) (Y := Y) (u := 2) (v := 12) O dL_speed_10 rfl (zr_iconst (x := 0) O dL_speed_21 rfl (zr_ireturn O E (Nat.le_of_ble_eq_true rfl) (Nat.le_of_ble_eq_true rfl) dL_speed_22))))
  have B_8 := zr_xC (u := 0) (v := 0) (tg := kIf eNS 13 17) (ks := [eNS, eIA]) (ci := 9) (n := 2) O Ex m_X10_speed (bn_X10_speed ({ frames := 0, cells := 0, slots := 0, locals := 0 } : Room) ⟨rfl, rfl⟩) vw_X10_speed tv_896 rc_X10_speed (zrx hR rfl rfl rfl rfl) (Nat.le_of_ble_eq_true rfl) (Nat.le_of_ble_eq_true rfl) dL_speed_5 (zcat2 (E1 := eNS) (E2 := eIA) ⟨[], ⟨0, 10, 13, 23⟩, [⟨0, 10, 17, 13⟩], rfl, rfl, rfl, by decide, tv_704, by decide, fun w hw => absurd hw List.not_mem_nil⟩ C_13 ⟨[⟨0, 10, 13, 23⟩], ⟨0, 10, 17, 13⟩, [], rfl, rfl, rfl, by decide, tv_452, by decide, fun w hw => by rcases List.mem_singleton.mp hw with rfl; exact ⟨by decide, _, tv_704, by decide⟩⟩ C_17 (by decide)) B_9
  refine ⟨rfl, Nat.le_of_ble_eq_true rfl, _, zr_aload_n O dL_speed_0 rfl (zr_iconst (x := 0) O dL_speed_1 rfl (zr_aload_n O dL_speed_2 rfl (zr_iload_n O dL_speed_3 rfl (zr_iload_n O dL_speed_4 rfl (B_8))))), ?_⟩
  refine ⟨(Q, x, i, te), rfl, hP, fun E h1 hd => ?_, fun r h1 hq => ?_⟩
  · rcases (show E = eNS ∨ E = eIA by exact hd.elim (fun z => by first | exact Or.inl z.2.1 | exact Or.inr z.2.1) (fun z => by first | exact Or.inr z.2.2.1 | exact Or.inl z.2.2.1)) with e | e
    · subst e
      exact ⟨List.mem_cons_self, fun q => by rw [kIf_1]; exact Or.inr ⟨eNS, 0, hd, rfl, rfl⟩⟩
    · subst e
      exact ⟨List.mem_cons_of_mem _ List.mem_cons_self, fun q => by rw [kIf_2 (by decide)]; exact Or.inr ⟨eIA, 1, hd, rfl, rfl⟩⟩
  · obtain ⟨w, e⟩ : ∃ w, r = some (vI w) := by exact ⟨_, hq.2.2.1⟩
    subst e
    exact ⟨0, rfl, by decide, Or.inl ⟨_, h1, hq, rfl, rfl⟩⟩
theorem dL_rank_0 : decode cL_rank 0 = .ok (.aload_n 3, 1) := by decide +kernel
theorem dL_rank_1 : decode cL_rank 1 = .ok (.iconst 0, 1) := by decide +kernel
theorem dL_rank_2 : decode cL_rank 2 = .ok (.aload_n 0, 1) := by decide +kernel
theorem dL_rank_3 : decode cL_rank 3 = .ok (.iload_n 1, 1) := by decide +kernel
theorem dL_rank_4 : decode cL_rank 4 = .ok (.iload_n 2, 1) := by decide +kernel
theorem dL_rank_5 : decode cL_rank 5 = .ok (.invokevirtual 48, 3) := by decide +kernel
theorem dL_rank_8 : decode cL_rank 8 = .ok (.i2l, 1) := by decide +kernel
theorem dL_rank_9 : decode cL_rank 9 = .ok (.lastore, 1) := by decide +kernel
theorem dL_rank_10 : decode cL_rank 10 = .ok (.goto 11, 3) := by decide +kernel
theorem dL_rank_13 : decode cL_rank 13 = .ok (.astore 4, 2) := by decide +kernel
theorem dL_rank_15 : decode cL_rank 15 = .ok (.iconst 1, 1) := by decide +kernel
theorem dL_rank_16 : decode cL_rank 16 = .ok (.ireturn, 1) := by decide +kernel
theorem dL_rank_17 : decode cL_rank 17 = .ok (.astore 4, 2) := by decide +kernel
theorem dL_rank_19 : decode cL_rank 19 = .ok (.iconst 2, 1) := by decide +kernel
theorem dL_rank_20 : decode cL_rank 20 = .ok (.ireturn, 1) := by decide +kernel
theorem dL_rank_21 : decode cL_rank 21 = .ok (.iconst 0, 1) := by decide +kernel
theorem dL_rank_22 : decode cL_rank 22 = .ok (.ireturn, 1) := by decide +kernel
set_option maxHeartbeats 4000000 in
set_option maxRecDepth 100000 in
theorem w_rank : zMw yL_rank cL_rank 5 [(0, 10, 13, 23), (0, 10, 17, 13)] ({ frames := 10, cells := 2, slots := 12, locals := 169 } : Room) ((wA ca_X10_rank, wP cp_X10_rank, wQ cq_X10_rank cx_X10_rank [eNS, eIA]) : zC ((zQ × Nat × Int32 × Int32) × Nat)) := by
  refine zMw_of (by decide) ?_
  rintro X Y ⟨⟨Q, x, i, te⟩, o⟩ h hP O Ex hR
  have E := zEw_E Ex
  have B_13 := zr_iconst (X := X) (Y := Y) (u := 2) (v := 12) (x := 1) O dL_rank_15 rfl (zr_ireturn O E (Nat.le_of_ble_eq_true rfl) (Nat.le_of_ble_eq_true rfl) dL_rank_16)
  have B_17 := zr_iconst (X := X) (Y := Y) (u := 2) (v := 12) (x := 2) O dL_rank_19 rfl (zr_ireturn O E (Nat.le_of_ble_eq_true rfl) (Nat.le_of_ble_eq_true rfl) dL_rank_20)
  have C_13 := zr_astore O dL_rank_13 B_13
  have C_17 := zr_astore O dL_rank_17 B_17
  have B_9 := zr_i2l (X := X) (Y := Y) (u := 2) (v := 12) O dL_rank_8 (zr_last (X := X) (Y := Y) (u := 2) (v := 12) O dL_rank_9 (zr_goto (X := X) (Y := Y) (u := 2) (v := 12) O dL_rank_10 rfl (zr_iconst (x := 0) O dL_rank_21 rfl (zr_ireturn O E (Nat.le_of_ble_eq_true rfl) (Nat.le_of_ble_eq_true rfl) dL_rank_22))))
  have B_8 := zr_xC (u := 0) (v := 0) (tg := kIf eNS 13 17) (ks := [eNS, eIA]) (ci := 9) (n := 2) O Ex m_X10_rank (bn_X10_rank ({ frames := 0, cells := 0, slots := 0, locals := 0 } : Room) ⟨rfl, rfl⟩) vw_X10_rank tv_908 rc_X10_rank (zrx hR rfl rfl rfl rfl) (Nat.le_of_ble_eq_true rfl) (Nat.le_of_ble_eq_true rfl) dL_rank_5 (zcat2 (E1 := eNS) (E2 := eIA) ⟨[], ⟨0, 10, 13, 23⟩, [⟨0, 10, 17, 13⟩], rfl, rfl, rfl, by decide, tv_704, by decide, fun w hw => absurd hw List.not_mem_nil⟩ C_13 ⟨[⟨0, 10, 13, 23⟩], ⟨0, 10, 17, 13⟩, [], rfl, rfl, rfl, by decide, tv_452, by decide, fun w hw => by rcases List.mem_singleton.mp hw with rfl; exact ⟨by decide, _, tv_704, by decide⟩⟩ C_17 (by decide)) B_9
  refine ⟨rfl, Nat.le_of_ble_eq_true rfl, _, zr_aload_n O dL_rank_0 rfl (zr_iconst (x := 0) O dL_rank_1 rfl (zr_aload_n O dL_rank_2 rfl (zr_iload_n O dL_rank_3 rfl (zr_iload_n O dL_rank_4 rfl (B_8))))), ?_⟩
  refine ⟨(Q, x, i, te), rfl, hP, fun E h1 hd => ?_, fun r h1 hq => ?_⟩
  · rcases (show E = eNS ∨ E = eIA by exact hd.elim (fun z => by first | exact Or.inl z.2.1 | exact Or.inr z.2.1) (fun z => by first | exact Or.inr z.2.2.1 | exact Or.inl z.2.2.1)) with e | e
    · subst e
      exact ⟨List.mem_cons_self, fun q => by rw [kIf_1]; exact Or.inr ⟨eNS, 0, hd, rfl, rfl⟩⟩
    · subst e
      exact ⟨List.mem_cons_of_mem _ List.mem_cons_self, fun q => by rw [kIf_2 (by decide)]; exact Or.inr ⟨eIA, 1, hd, rfl, rfl⟩⟩
  · obtain ⟨w, e⟩ : ∃ w, r = some (vI w) := by exact ⟨_, hq.2.2.1⟩
    subst e
    exact ⟨0, rfl, by decide, Or.inl ⟨_, h1, hq, rfl, rfl⟩⟩
theorem dL_pair_0 : decode cL_pair 0 = .ok (.aload_n 3, 1) := by decide +kernel
theorem dL_pair_1 : decode cL_pair 1 = .ok (.iconst 0, 1) := by decide +kernel
theorem dL_pair_2 : decode cL_pair 2 = .ok (.aload_n 0, 1) := by decide +kernel
theorem dL_pair_3 : decode cL_pair 3 = .ok (.iload_n 1, 1) := by decide +kernel
theorem dL_pair_4 : decode cL_pair 4 = .ok (.iload_n 2, 1) := by decide +kernel
theorem dL_pair_5 : decode cL_pair 5 = .ok (.invokevirtual 51, 3) := by decide +kernel
theorem dL_pair_8 : decode cL_pair 8 = .ok (.i2l, 1) := by decide +kernel
theorem dL_pair_9 : decode cL_pair 9 = .ok (.lastore, 1) := by decide +kernel
theorem dL_pair_10 : decode cL_pair 10 = .ok (.goto 11, 3) := by decide +kernel
theorem dL_pair_13 : decode cL_pair 13 = .ok (.astore 4, 2) := by decide +kernel
theorem dL_pair_15 : decode cL_pair 15 = .ok (.iconst 1, 1) := by decide +kernel
theorem dL_pair_16 : decode cL_pair 16 = .ok (.ireturn, 1) := by decide +kernel
theorem dL_pair_17 : decode cL_pair 17 = .ok (.astore 4, 2) := by decide +kernel
theorem dL_pair_19 : decode cL_pair 19 = .ok (.iconst 2, 1) := by decide +kernel
theorem dL_pair_20 : decode cL_pair 20 = .ok (.ireturn, 1) := by decide +kernel
theorem dL_pair_21 : decode cL_pair 21 = .ok (.iconst 0, 1) := by decide +kernel
theorem dL_pair_22 : decode cL_pair 22 = .ok (.ireturn, 1) := by decide +kernel
set_option maxHeartbeats 4000000 in
set_option maxRecDepth 100000 in
theorem w_pair : zMw yL_pair cL_pair 5 [(0, 10, 13, 23), (0, 10, 17, 13)] ({ frames := 9, cells := 2, slots := 12, locals := 160 } : Room) ((wA ca_X10_pair, wP cp_X10_pair, wQ cq_X10_pair cx_X10_pair [eNS, eIA]) : zC ((zQ × Nat × Int32 × Int32) × Nat)) := by
  refine zMw_of (by decide) ?_
  rintro X Y ⟨⟨Q, x, i, w⟩, o⟩ h hP O Ex hR
  have E := zEw_E Ex
  have B_13 := zr_iconst (X := X) (Y := Y) (u := 2) (v := 12) (x := 1) O dL_pair_15 rfl (zr_ireturn O E (Nat.le_of_ble_eq_true rfl) (Nat.le_of_ble_eq_true rfl) dL_pair_16)
  have B_17 := zr_iconst (X := X) (Y := Y) (u := 2) (v := 12) (x := 2) O dL_pair_19 rfl (zr_ireturn O E (Nat.le_of_ble_eq_true rfl) (Nat.le_of_ble_eq_true rfl) dL_pair_20)
  have C_13 := zr_astore O dL_pair_13 B_13
  have C_17 := zr_astore O dL_pair_17 B_17
  have B_9 := zr_i2l (X := X) (Y := Y) (u := 2) (v := 12) O dL_pair_8 (zr_last (X := X) (Y := Y) (u := 2) (v := 12) O dL_pair_9 (zr_goto (X := X) (Y := Y) (u := 2) (v := 12) O dL_pair_10 rfl (zr_iconst (x := 0) O dL_pair_21 rfl (zr_ireturn O E (Nat.le_of_ble_eq_true rfl) (Nat.le_of_ble_eq_true rfl) dL_pair_22))))
  have B_8 := zr_xC (u := 0) (v := 0) (tg := kIf eNS 13 17) (ks := [eNS, eIA]) (ci := 9) (n := 2) O Ex m_X10_pair (bn_X10_pair ({ frames := 0, cells := 0, slots := 0, locals := 0 } : Room) ⟨rfl, rfl⟩) vw_X10_pair tv_919 rc_X10_pair (zrx hR rfl rfl rfl rfl) (Nat.le_of_ble_eq_true rfl) (Nat.le_of_ble_eq_true rfl) dL_pair_5 (zcat2 (E1 := eNS) (E2 := eIA) ⟨[], ⟨0, 10, 13, 23⟩, [⟨0, 10, 17, 13⟩], rfl, rfl, rfl, by decide, tv_704, by decide, fun w hw => absurd hw List.not_mem_nil⟩ C_13 ⟨[⟨0, 10, 13, 23⟩], ⟨0, 10, 17, 13⟩, [], rfl, rfl, rfl, by decide, tv_452, by decide, fun w hw => by rcases List.mem_singleton.mp hw with rfl; exact ⟨by decide, _, tv_704, by decide⟩⟩ C_17 (by decide)) B_9
  refine ⟨rfl, Nat.le_of_ble_eq_true rfl, _, zr_aload_n O dL_pair_0 rfl (zr_iconst (x := 0) O dL_pair_1 rfl (zr_aload_n O dL_pair_2 rfl (zr_iload_n O dL_pair_3 rfl (zr_iload_n O dL_pair_4 rfl (B_8))))), ?_⟩
  refine ⟨(Q, x, i, w), rfl, hP, fun E h1 hd => ?_, fun r h1 hq => ?_⟩
  · rcases (show E = eNS ∨ E = eIA by exact hd.elim (fun z => by first | exact Or.inl z.2.1 | exact Or.inr z.2.1) (fun z => by first | exact Or.inr z.2.2.1 | exact Or.inl z.2.2.1)) with e | e
    · subst e
      exact ⟨List.mem_cons_self, fun q => by rw [kIf_1]; exact Or.inr ⟨eNS, 0, hd, rfl, rfl⟩⟩
    · subst e
      exact ⟨List.mem_cons_of_mem _ List.mem_cons_self, fun q => by rw [kIf_2 (by decide)]; exact Or.inr ⟨eIA, 1, hd, rfl, rfl⟩⟩
  · obtain ⟨w, e⟩ : ∃ w, r = some (vI w) := by exact ⟨_, hq.2.2.1⟩
    subst e
    exact ⟨0, rfl, by decide, Or.inl ⟨_, h1, hq, rfl, rfl⟩⟩
theorem dL_bit_0 : decode cL_bit 0 = .ok (.aload_n 3, 1) := by decide +kernel
theorem dL_bit_1 : decode cL_bit 1 = .ok (.iconst 0, 1) := by decide +kernel
theorem dL_bit_2 : decode cL_bit 2 = .ok (.aload_n 0, 1) := by decide +kernel
theorem dL_bit_3 : decode cL_bit 3 = .ok (.iload_n 1, 1) := by decide +kernel
theorem dL_bit_4 : decode cL_bit 4 = .ok (.iload_n 2, 1) := by decide +kernel
theorem dL_bit_5 : decode cL_bit 5 = .ok (.invokevirtual 54, 3) := by decide +kernel
theorem dL_bit_8 : decode cL_bit 8 = .ok (.i2l, 1) := by decide +kernel
theorem dL_bit_9 : decode cL_bit 9 = .ok (.lastore, 1) := by decide +kernel
theorem dL_bit_10 : decode cL_bit 10 = .ok (.goto 11, 3) := by decide +kernel
theorem dL_bit_13 : decode cL_bit 13 = .ok (.astore 4, 2) := by decide +kernel
theorem dL_bit_15 : decode cL_bit 15 = .ok (.iconst 1, 1) := by decide +kernel
theorem dL_bit_16 : decode cL_bit 16 = .ok (.ireturn, 1) := by decide +kernel
theorem dL_bit_17 : decode cL_bit 17 = .ok (.astore 4, 2) := by decide +kernel
theorem dL_bit_19 : decode cL_bit 19 = .ok (.iconst 2, 1) := by decide +kernel
theorem dL_bit_20 : decode cL_bit 20 = .ok (.ireturn, 1) := by decide +kernel
theorem dL_bit_21 : decode cL_bit 21 = .ok (.iconst 0, 1) := by decide +kernel
theorem dL_bit_22 : decode cL_bit 22 = .ok (.ireturn, 1) := by decide +kernel
set_option maxHeartbeats 4000000 in
set_option maxRecDepth 100000 in
theorem w_bit : zMw yL_bit cL_bit 5 [(0, 10, 13, 23), (0, 10, 17, 13)] ({ frames := 10, cells := 2, slots := 12, locals := 168 } : Room) ((wA ca_X10_bit, wP cp_X10_bit, wQ cq_X10_bit cx_X10_bit [eNS, eIA]) : zC ((zQ × Nat × Int32 × Int32) × Nat)) := by
  refine zMw_of (by decide) ?_
  rintro X Y ⟨⟨Q, x, i, te⟩, o⟩ h hP O Ex hR
  have E := zEw_E Ex
  have B_13 := zr_iconst (X := X) (Y := Y) (u := 2) (v := 12) (x := 1) O dL_bit_15 rfl (zr_ireturn O E (Nat.le_of_ble_eq_true rfl) (Nat.le_of_ble_eq_true rfl) dL_bit_16)
  have B_17 := zr_iconst (X := X) (Y := Y) (u := 2) (v := 12) (x := 2) O dL_bit_19 rfl (zr_ireturn O E (Nat.le_of_ble_eq_true rfl) (Nat.le_of_ble_eq_true rfl) dL_bit_20)
  have C_13 := zr_astore O dL_bit_13 B_13
  have C_17 := zr_astore O dL_bit_17 B_17
  have B_9 := zr_i2l (X := X) (Y := Y) (u := 2) (v := 12) O dL_bit_8 (zr_last (X := X) (Y := Y) (u := 2) (v := 12) O dL_bit_9 (zr_goto (X := X) (Y := Y) (u := 2) (v := 12) O dL_bit_10 rfl (zr_iconst (x := 0) O dL_bit_21 rfl (zr_ireturn O E (Nat.le_of_ble_eq_true rfl) (Nat.le_of_ble_eq_true rfl) dL_bit_22))))
  have B_8 := zr_xC (u := 0) (v := 0) (tg := kIf eNS 13 17) (ks := [eNS, eIA]) (ci := 9) (n := 2) O Ex m_X10_bit (bn_X10_bit ({ frames := 0, cells := 0, slots := 0, locals := 0 } : Room) ⟨rfl, rfl⟩) vw_X10_bit tv_939 rc_X10_bit (zrx hR rfl rfl rfl rfl) (Nat.le_of_ble_eq_true rfl) (Nat.le_of_ble_eq_true rfl) dL_bit_5 (zcat2 (E1 := eNS) (E2 := eIA) ⟨[], ⟨0, 10, 13, 23⟩, [⟨0, 10, 17, 13⟩], rfl, rfl, rfl, by decide, tv_704, by decide, fun w hw => absurd hw List.not_mem_nil⟩ C_13 ⟨[⟨0, 10, 13, 23⟩], ⟨0, 10, 17, 13⟩, [], rfl, rfl, rfl, by decide, tv_452, by decide, fun w hw => by rcases List.mem_singleton.mp hw with rfl; exact ⟨by decide, _, tv_704, by decide⟩⟩ C_17 (by decide)) B_9
  refine ⟨rfl, Nat.le_of_ble_eq_true rfl, _, zr_aload_n O dL_bit_0 rfl (zr_iconst (x := 0) O dL_bit_1 rfl (zr_aload_n O dL_bit_2 rfl (zr_iload_n O dL_bit_3 rfl (zr_iload_n O dL_bit_4 rfl (B_8))))), ?_⟩
  refine ⟨(Q, x, i, te), rfl, hP, fun E h1 hd => ?_, fun r h1 hq => ?_⟩
  · rcases (show E = eNS ∨ E = eIA by exact hd.elim (fun z => by first | exact Or.inl z.2.1 | exact Or.inr z.2.1) (fun z => by first | exact Or.inr z.2.2.1 | exact Or.inl z.2.2.1)) with e | e
    · subst e
      exact ⟨List.mem_cons_self, fun q => by rw [kIf_1]; exact Or.inr ⟨eNS, 0, hd, rfl, rfl⟩⟩
    · subst e
      exact ⟨List.mem_cons_of_mem _ List.mem_cons_self, fun q => by rw [kIf_2 (by decide)]; exact Or.inr ⟨eIA, 1, hd, rfl, rfl⟩⟩
  · obtain ⟨w, e⟩ : ∃ w, r = some (vI w) := by exact ⟨_, hq.2.2.1⟩
    subst e
    exact ⟨0, rfl, by decide, Or.inl ⟨_, h1, hq, rfl, rfl⟩⟩
theorem dL_flips_0 : decode cL_flips 0 = .ok (.aload_n 3, 1) := by decide +kernel
theorem dL_flips_1 : decode cL_flips 1 = .ok (.iconst 0, 1) := by decide +kernel
theorem dL_flips_2 : decode cL_flips 2 = .ok (.aload_n 0, 1) := by decide +kernel
theorem dL_flips_3 : decode cL_flips 3 = .ok (.iload_n 1, 1) := by decide +kernel
theorem dL_flips_4 : decode cL_flips 4 = .ok (.iload_n 2, 1) := by decide +kernel
theorem dL_flips_5 : decode cL_flips 5 = .ok (.invokevirtual 57, 3) := by decide +kernel
theorem dL_flips_8 : decode cL_flips 8 = .ok (.i2l, 1) := by decide +kernel
theorem dL_flips_9 : decode cL_flips 9 = .ok (.lastore, 1) := by decide +kernel
theorem dL_flips_10 : decode cL_flips 10 = .ok (.goto 11, 3) := by decide +kernel
theorem dL_flips_13 : decode cL_flips 13 = .ok (.astore 4, 2) := by decide +kernel
theorem dL_flips_15 : decode cL_flips 15 = .ok (.iconst 1, 1) := by decide +kernel
theorem dL_flips_16 : decode cL_flips 16 = .ok (.ireturn, 1) := by decide +kernel
theorem dL_flips_17 : decode cL_flips 17 = .ok (.astore 4, 2) := by decide +kernel
theorem dL_flips_19 : decode cL_flips 19 = .ok (.iconst 2, 1) := by decide +kernel
theorem dL_flips_20 : decode cL_flips 20 = .ok (.ireturn, 1) := by decide +kernel
theorem dL_flips_21 : decode cL_flips 21 = .ok (.iconst 0, 1) := by decide +kernel
theorem dL_flips_22 : decode cL_flips 22 = .ok (.ireturn, 1) := by decide +kernel
set_option maxHeartbeats 4000000 in
set_option maxRecDepth 100000 in
theorem w_flips : zMw yL_flips cL_flips 5 [(0, 10, 13, 23), (0, 10, 17, 13)] ({ frames := 9, cells := 2, slots := 12, locals := 151 } : Room) ((wA ca_X10_flips, wP cp_X10_flips, wQ cq_X10_flips cx_X10_flips [eNS, eIA]) : zC ((zQ × Nat × Int32 × Int32) × Nat)) := by
  refine zMw_of (by decide) ?_
  rintro X Y ⟨⟨Q, x, i, w⟩, o⟩ h hP O Ex hR
  have E := zEw_E Ex
  have B_13 := zr_iconst (X := X) (Y := Y) (u := 2) (v := 12) (x := 1) O dL_flips_15 rfl (zr_ireturn O E (Nat.le_of_ble_eq_true rfl) (Nat.le_of_ble_eq_true rfl) dL_flips_16)
  have B_17 := zr_iconst (X := X) (Y := Y) (u := 2) (v := 12) (x := 2) O dL_flips_19 rfl (zr_ireturn O E (Nat.le_of_ble_eq_true rfl) (Nat.le_of_ble_eq_true rfl) dL_flips_20)
  have C_13 := zr_astore O dL_flips_13 B_13
  have C_17 := zr_astore O dL_flips_17 B_17
  have B_9 := zr_i2l (X := X) (Y := Y) (u := 2) (v := 12) O dL_flips_8 (zr_last (X := X) (Y := Y) (u := 2) (v := 12) O dL_flips_9 (zr_goto (X := X) (Y := Y) (u := 2) (v := 12) O dL_flips_10 rfl (zr_iconst (x := 0) O dL_flips_21 rfl (zr_ireturn O E (Nat.le_of_ble_eq_true rfl) (Nat.le_of_ble_eq_true rfl) dL_flips_22))))
  have B_8 := zr_xC (u := 0) (v := 0) (tg := kIf eNS 13 17) (ks := [eNS, eIA]) (ci := 9) (n := 2) O Ex m_X10_flips (bn_X10_flips ({ frames := 0, cells := 0, slots := 0, locals := 0 } : Room) ⟨rfl, rfl⟩) vw_X10_flips tv_950 rc_X10_flips (zrx hR rfl rfl rfl rfl) (Nat.le_of_ble_eq_true rfl) (Nat.le_of_ble_eq_true rfl) dL_flips_5 (zcat2 (E1 := eNS) (E2 := eIA) ⟨[], ⟨0, 10, 13, 23⟩, [⟨0, 10, 17, 13⟩], rfl, rfl, rfl, by decide, tv_704, by decide, fun w hw => absurd hw List.not_mem_nil⟩ C_13 ⟨[⟨0, 10, 13, 23⟩], ⟨0, 10, 17, 13⟩, [], rfl, rfl, rfl, by decide, tv_452, by decide, fun w hw => by rcases List.mem_singleton.mp hw with rfl; exact ⟨by decide, _, tv_704, by decide⟩⟩ C_17 (by decide)) B_9
  refine ⟨rfl, Nat.le_of_ble_eq_true rfl, _, zr_aload_n O dL_flips_0 rfl (zr_iconst (x := 0) O dL_flips_1 rfl (zr_aload_n O dL_flips_2 rfl (zr_iload_n O dL_flips_3 rfl (zr_iload_n O dL_flips_4 rfl (B_8))))), ?_⟩
  refine ⟨(Q, x, i, w), rfl, hP, fun E h1 hd => ?_, fun r h1 hq => ?_⟩
  · rcases (show E = eNS ∨ E = eIA by exact hd.elim (fun z => by first | exact Or.inl z.2.1 | exact Or.inr z.2.1) (fun z => by first | exact Or.inr z.2.2.1 | exact Or.inl z.2.2.1)) with e | e
    · subst e
      exact ⟨List.mem_cons_self, fun q => by rw [kIf_1]; exact Or.inr ⟨eNS, 0, hd, rfl, rfl⟩⟩
    · subst e
      exact ⟨List.mem_cons_of_mem _ List.mem_cons_self, fun q => by rw [kIf_2 (by decide)]; exact Or.inr ⟨eIA, 1, hd, rfl, rfl⟩⟩
  · obtain ⟨w, e⟩ : ∃ w, r = some (vI w) := by exact ⟨_, hq.2.2.1⟩
    subst e
    exact ⟨0, rfl, by decide, Or.inl ⟨_, h1, hq, rfl, rfl⟩⟩
theorem dL_odds_0 : decode cL_odds 0 = .ok (.aload 4, 2) := by decide +kernel
theorem dL_odds_2 : decode cL_odds 2 = .ok (.iconst 0, 1) := by decide +kernel
theorem dL_odds_3 : decode cL_odds 3 = .ok (.aload_n 0, 1) := by decide +kernel
theorem dL_odds_4 : decode cL_odds 4 = .ok (.iload_n 1, 1) := by decide +kernel
theorem dL_odds_5 : decode cL_odds 5 = .ok (.iload_n 2, 1) := by decide +kernel
theorem dL_odds_6 : decode cL_odds 6 = .ok (.iload_n 3, 1) := by decide +kernel
theorem dL_odds_7 : decode cL_odds 7 = .ok (.invokevirtual 60, 3) := by decide +kernel
theorem dL_odds_10 : decode cL_odds 10 = .ok (.i2l, 1) := by decide +kernel
theorem dL_odds_11 : decode cL_odds 11 = .ok (.lastore, 1) := by decide +kernel
theorem dL_odds_12 : decode cL_odds 12 = .ok (.goto 11, 3) := by decide +kernel
theorem dL_odds_15 : decode cL_odds 15 = .ok (.astore 5, 2) := by decide +kernel
theorem dL_odds_17 : decode cL_odds 17 = .ok (.iconst 1, 1) := by decide +kernel
theorem dL_odds_18 : decode cL_odds 18 = .ok (.ireturn, 1) := by decide +kernel
theorem dL_odds_19 : decode cL_odds 19 = .ok (.astore 5, 2) := by decide +kernel
theorem dL_odds_21 : decode cL_odds 21 = .ok (.iconst 2, 1) := by decide +kernel
theorem dL_odds_22 : decode cL_odds 22 = .ok (.ireturn, 1) := by decide +kernel
theorem dL_odds_23 : decode cL_odds 23 = .ok (.iconst 0, 1) := by decide +kernel
theorem dL_odds_24 : decode cL_odds 24 = .ok (.ireturn, 1) := by decide +kernel
set_option maxHeartbeats 4000000 in
set_option maxRecDepth 100000 in
theorem w_odds : zMw yL_odds cL_odds 6 [(0, 12, 15, 23), (0, 12, 19, 13)] ({ frames := 10, cells := 2, slots := 12, locals := 173 } : Room) ((wA ca_X10_odds, wP cp_X10_odds, wQ cq_X10_odds cx_X10_odds [eNS, eIA]) : zC ((zQ × Nat × Int32 × Int32 × Int32) × Nat)) := by
  refine zMw_of (by decide) ?_
  rintro X Y ⟨⟨Q, x, i, te, lo⟩, o⟩ h hP O Ex hR
  have E := zEw_E Ex
  have B_15 := zr_iconst (X := X) (Y := Y) (u := 2) (v := 12) (x := 1) O dL_odds_17 rfl (zr_ireturn O E (Nat.le_of_ble_eq_true rfl) (Nat.le_of_ble_eq_true rfl) dL_odds_18)
  have B_19 := zr_iconst (X := X) (Y := Y) (u := 2) (v := 12) (x := 2) O dL_odds_21 rfl (zr_ireturn O E (Nat.le_of_ble_eq_true rfl) (Nat.le_of_ble_eq_true rfl) dL_odds_22)
  have C_15 := zr_astore O dL_odds_15 B_15
  have C_19 := zr_astore O dL_odds_19 B_19
  have B_9 := zr_i2l (X := X) (Y := Y) (u := 2) (v := 12) O dL_odds_10 (zr_last (X := X) (Y := Y) (u := 2) (v := 12) O dL_odds_11 (zr_goto (X := X) (Y := Y) (u := 2) (v := 12) O dL_odds_12 rfl (zr_iconst (x := 0) O dL_odds_23 rfl (zr_ireturn O E (Nat.le_of_ble_eq_true rfl) (Nat.le_of_ble_eq_true rfl) dL_odds_24))))
  have B_8 := zr_xC (u := 0) (v := 0) (tg := kIf eNS 15 19) (ks := [eNS, eIA]) (ci := 9) (n := 3) O Ex m_X10_odds (bn_X10_odds ({ frames := 0, cells := 0, slots := 0, locals := 0 } : Room) ⟨rfl, rfl⟩) vw_X10_odds tv_957 rc_X10_odds (zrx hR rfl rfl rfl rfl) (Nat.le_of_ble_eq_true rfl) (Nat.le_of_ble_eq_true rfl) dL_odds_7 (zcat2 (E1 := eNS) (E2 := eIA) ⟨[], ⟨0, 12, 15, 23⟩, [⟨0, 12, 19, 13⟩], rfl, rfl, rfl, by decide, tv_704, by decide, fun w hw => absurd hw List.not_mem_nil⟩ C_15 ⟨[⟨0, 12, 15, 23⟩], ⟨0, 12, 19, 13⟩, [], rfl, rfl, rfl, by decide, tv_452, by decide, fun w hw => by rcases List.mem_singleton.mp hw with rfl; exact ⟨by decide, _, tv_704, by decide⟩⟩ C_19 (by decide)) B_9
  refine ⟨rfl, Nat.le_of_ble_eq_true rfl, _, zr_aload O dL_odds_0 (zr_iconst (x := 0) O dL_odds_2 rfl (zr_aload_n O dL_odds_3 rfl (zr_iload_n O dL_odds_4 rfl (zr_iload_n O dL_odds_5 rfl (zr_iload_n O dL_odds_6 rfl (B_8)))))), ?_⟩
  refine ⟨(Q, x, i, te, lo), rfl, hP, fun E h1 hd => ?_, fun r h1 hq => ?_⟩
  · rcases (show E = eNS ∨ E = eIA by exact hd.elim (fun z => by first | exact Or.inl z.2.1 | exact Or.inr z.2.1) (fun z => by first | exact Or.inr z.2.2.1 | exact Or.inl z.2.2.1)) with e | e
    · subst e
      exact ⟨List.mem_cons_self, fun q => by rw [kIf_1]; exact Or.inr ⟨eNS, 0, hd, rfl, rfl⟩⟩
    · subst e
      exact ⟨List.mem_cons_of_mem _ List.mem_cons_self, fun q => by rw [kIf_2 (by decide)]; exact Or.inr ⟨eIA, 1, hd, rfl, rfl⟩⟩
  · obtain ⟨w, e⟩ : ∃ w, r = some (vI w) := by exact ⟨_, hq.2.2.1⟩
    subst e
    exact ⟨0, rfl, by decide, Or.inl ⟨_, h1, hq, rfl, rfl⟩⟩
theorem dL_block_0 : decode cL_block 0 = .ok (.aload_n 3, 1) := by decide +kernel
theorem dL_block_1 : decode cL_block 1 = .ok (.iconst 0, 1) := by decide +kernel
theorem dL_block_2 : decode cL_block 2 = .ok (.aload_n 0, 1) := by decide +kernel
theorem dL_block_3 : decode cL_block 3 = .ok (.iload_n 1, 1) := by decide +kernel
theorem dL_block_4 : decode cL_block 4 = .ok (.iload_n 2, 1) := by decide +kernel
theorem dL_block_5 : decode cL_block 5 = .ok (.invokevirtual 64, 3) := by decide +kernel
theorem dL_block_8 : decode cL_block 8 = .ok (.i2l, 1) := by decide +kernel
theorem dL_block_9 : decode cL_block 9 = .ok (.lastore, 1) := by decide +kernel
theorem dL_block_10 : decode cL_block 10 = .ok (.goto 7, 3) := by decide +kernel
theorem dL_block_13 : decode cL_block 13 = .ok (.astore 4, 2) := by decide +kernel
theorem dL_block_15 : decode cL_block 15 = .ok (.iconst 1, 1) := by decide +kernel
theorem dL_block_16 : decode cL_block 16 = .ok (.ireturn, 1) := by decide +kernel
theorem dL_block_17 : decode cL_block 17 = .ok (.iconst 0, 1) := by decide +kernel
theorem dL_block_18 : decode cL_block 18 = .ok (.ireturn, 1) := by decide +kernel
set_option maxHeartbeats 4000000 in
set_option maxRecDepth 100000 in
theorem w_block : zMw yL_block cL_block 5 [(0, 10, 13, 23)] ({ frames := 9, cells := 1, slots := 6, locals := 148 } : Room) ((wA ca_X10_block, wP cp_X10_block, wQ cq_X10_block cx_X10_block [eNS]) : zC ((zQ × Nat × Int32 × Int32) × Nat)) := by
  refine zMw_of (by decide) ?_
  rintro X Y ⟨⟨Q, x, i, k⟩, o⟩ h hP O Ex hR
  have E := zEw_E Ex
  have B_13 := zr_iconst (X := X) (Y := Y) (u := 1) (v := 6) (x := 1) O dL_block_15 rfl (zr_ireturn O E (Nat.le_of_ble_eq_true rfl) (Nat.le_of_ble_eq_true rfl) dL_block_16)
  have C_13 := zr_astore O dL_block_13 B_13
  have B_9 := zr_i2l (X := X) (Y := Y) (u := 1) (v := 6) O dL_block_8 (zr_last (X := X) (Y := Y) (u := 1) (v := 6) O dL_block_9 (zr_goto (X := X) (Y := Y) (u := 1) (v := 6) O dL_block_10 rfl (zr_iconst (x := 0) O dL_block_17 rfl (zr_ireturn O E (Nat.le_of_ble_eq_true rfl) (Nat.le_of_ble_eq_true rfl) dL_block_18))))
  have B_8 := zr_xC (u := 0) (v := 0) (kE := fun _ => _) (tg := fun _ => 13) (ks := [eNS]) (ci := 9) (n := 2) O Ex m_X10_block (bn_X10_block ({ frames := 0, cells := 0, slots := 0, locals := 0 } : Room) ⟨rfl, rfl⟩) vw_X10_block tv_977 rc_X10_block (zrx hR rfl rfl rfl rfl) (Nat.le_of_ble_eq_true rfl) (Nat.le_of_ble_eq_true rfl) dL_block_5 (fun E hE => by rcases List.mem_singleton.mp hE with rfl; exact ⟨⟨[], ⟨0, 10, 13, 23⟩, [], rfl, rfl, rfl, by decide, tv_704, by decide, fun w hw => absurd hw List.not_mem_nil⟩, C_13⟩) B_9
  refine ⟨rfl, Nat.le_of_ble_eq_true rfl, _, zr_aload_n O dL_block_0 rfl (zr_iconst (x := 0) O dL_block_1 rfl (zr_aload_n O dL_block_2 rfl (zr_iload_n O dL_block_3 rfl (zr_iload_n O dL_block_4 rfl (B_8))))), ?_⟩
  refine ⟨(Q, x, i, k), rfl, hP, fun E h1 hd => ?_, fun r h1 hq => ?_⟩
  · have e : E = eNS := by exact hd.2.1
    subst e
    exact ⟨List.mem_singleton.mpr rfl, fun q => Or.inr ⟨eNS, 0, hd, rfl, rfl⟩⟩
  · obtain ⟨w, e⟩ : ∃ w, r = some (vI w) := by exact ⟨_, hq.2.1⟩
    subst e
    exact ⟨0, rfl, by decide, Or.inl ⟨_, h1, hq, rfl, rfl⟩⟩
theorem dL_recover_0 : decode cL_recover 0 = .ok (.aload 4, 2) := by decide +kernel
theorem dL_recover_2 : decode cL_recover 2 = .ok (.iconst 0, 1) := by decide +kernel
theorem dL_recover_3 : decode cL_recover 3 = .ok (.aload_n 0, 1) := by decide +kernel
theorem dL_recover_4 : decode cL_recover 4 = .ok (.iload_n 1, 1) := by decide +kernel
theorem dL_recover_5 : decode cL_recover 5 = .ok (.iload_n 2, 1) := by decide +kernel
theorem dL_recover_6 : decode cL_recover 6 = .ok (.iload_n 3, 1) := by decide +kernel
theorem dL_recover_7 : decode cL_recover 7 = .ok (.invokevirtual 67, 3) := by decide +kernel
theorem dL_recover_10 : decode cL_recover 10 = .ok (.i2l, 1) := by decide +kernel
theorem dL_recover_11 : decode cL_recover 11 = .ok (.lastore, 1) := by decide +kernel
theorem dL_recover_12 : decode cL_recover 12 = .ok (.goto 11, 3) := by decide +kernel
theorem dL_recover_15 : decode cL_recover 15 = .ok (.astore 5, 2) := by decide +kernel
theorem dL_recover_17 : decode cL_recover 17 = .ok (.iconst 1, 1) := by decide +kernel
theorem dL_recover_18 : decode cL_recover 18 = .ok (.ireturn, 1) := by decide +kernel
theorem dL_recover_19 : decode cL_recover 19 = .ok (.astore 5, 2) := by decide +kernel
theorem dL_recover_21 : decode cL_recover 21 = .ok (.iconst 2, 1) := by decide +kernel
theorem dL_recover_22 : decode cL_recover 22 = .ok (.ireturn, 1) := by decide +kernel
theorem dL_recover_23 : decode cL_recover 23 = .ok (.iconst 0, 1) := by decide +kernel
theorem dL_recover_24 : decode cL_recover 24 = .ok (.ireturn, 1) := by decide +kernel
set_option maxHeartbeats 4000000 in
set_option maxRecDepth 100000 in
theorem w_recover : zMw yL_recover cL_recover 6 [(0, 12, 15, 28), (0, 12, 19, 13)] ({ frames := 10, cells := 4, slots := 24, locals := 169 } : Room) ((wA ca_X10_recover, wP cp_X10_recover, wQ cq_X10_recover cx_X10_recover [eIS, eIA]) : zC ((zQ × Nat × Int32 × Int32 × Int32) × Nat)) := by
  refine zMw_of (by decide) ?_
  rintro X Y ⟨⟨Q, x, te, s, w⟩, o⟩ h hP O Ex hR
  have E := zEw_E Ex
  have B_15 := zr_iconst (X := X) (Y := Y) (u := 4) (v := 24) (x := 1) O dL_recover_17 rfl (zr_ireturn O E (Nat.le_of_ble_eq_true rfl) (Nat.le_of_ble_eq_true rfl) dL_recover_18)
  have B_19 := zr_iconst (X := X) (Y := Y) (u := 4) (v := 24) (x := 2) O dL_recover_21 rfl (zr_ireturn O E (Nat.le_of_ble_eq_true rfl) (Nat.le_of_ble_eq_true rfl) dL_recover_22)
  have C_15 := zr_astore O dL_recover_15 B_15
  have C_19 := zr_astore O dL_recover_19 B_19
  have B_9 := zr_i2l (X := X) (Y := Y) (u := 4) (v := 24) O dL_recover_10 (zr_last (X := X) (Y := Y) (u := 4) (v := 24) O dL_recover_11 (zr_goto (X := X) (Y := Y) (u := 4) (v := 24) O dL_recover_12 rfl (zr_iconst (x := 0) O dL_recover_23 rfl (zr_ireturn O E (Nat.le_of_ble_eq_true rfl) (Nat.le_of_ble_eq_true rfl) dL_recover_24))))
  have B_8 := zr_xC (u := 0) (v := 0) (tg := kIf eIS 15 19) (ks := [eIS, eIA]) (ci := 9) (n := 3) O Ex m_X10_recover (bn_X10_recover ({ frames := 0, cells := 0, slots := 0, locals := 0 } : Room) ⟨rfl, rfl⟩) vw_X10_recover tv_989 rc_X10_recover (zrx hR rfl rfl rfl rfl) (Nat.le_of_ble_eq_true rfl) (Nat.le_of_ble_eq_true rfl) dL_recover_7 (zcat2 (E1 := eIS) (E2 := eIA) ⟨[], ⟨0, 12, 15, 28⟩, [⟨0, 12, 19, 13⟩], rfl, rfl, rfl, by decide, tv_744, by decide, fun w hw => absurd hw List.not_mem_nil⟩ C_15 ⟨[⟨0, 12, 15, 28⟩], ⟨0, 12, 19, 13⟩, [], rfl, rfl, rfl, by decide, tv_452, by decide, fun w hw => by rcases List.mem_singleton.mp hw with rfl; exact ⟨by decide, _, tv_744, by decide⟩⟩ C_19 (by decide)) B_9
  refine ⟨rfl, Nat.le_of_ble_eq_true rfl, _, zr_aload O dL_recover_0 (zr_iconst (x := 0) O dL_recover_2 rfl (zr_aload_n O dL_recover_3 rfl (zr_iload_n O dL_recover_4 rfl (zr_iload_n O dL_recover_5 rfl (zr_iload_n O dL_recover_6 rfl (B_8)))))), ?_⟩
  refine ⟨(Q, x, te, s, w), rfl, hP, fun E h1 hd => ?_, fun r h1 hq => ?_⟩
  · rcases (show E = eIS ∨ E = eIA by exact hd.elim (fun z => by first | exact Or.inl z.2.1 | exact Or.inr z.2.1) (fun z => by first | exact Or.inr z.2.2.1 | exact Or.inl z.2.2.1)) with e | e
    · subst e
      exact ⟨List.mem_cons_self, fun q => by rw [kIf_1]; exact Or.inr ⟨eIS, 0, hd, rfl, rfl⟩⟩
    · subst e
      exact ⟨List.mem_cons_of_mem _ List.mem_cons_self, fun q => by rw [kIf_2 (by decide)]; exact Or.inr ⟨eIA, 1, hd, rfl, rfl⟩⟩
  · obtain ⟨w, e⟩ : ∃ w, r = some (vI w) := by exact ⟨_, hq.2.2.1⟩
    subst e
    exact ⟨0, rfl, by decide, Or.inl ⟨_, h1, hq, rfl, rfl⟩⟩
theorem dL_fails_0 : decode cL_fails 0 = .ok (.aload 5, 2) := by decide +kernel
theorem dL_fails_2 : decode cL_fails 2 = .ok (.iconst 0, 1) := by decide +kernel
theorem dL_fails_3 : decode cL_fails 3 = .ok (.aload_n 0, 1) := by decide +kernel
theorem dL_fails_4 : decode cL_fails 4 = .ok (.iload_n 1, 1) := by decide +kernel
theorem dL_fails_5 : decode cL_fails 5 = .ok (.iload_n 2, 1) := by decide +kernel
theorem dL_fails_6 : decode cL_fails 6 = .ok (.iload_n 3, 1) := by decide +kernel
theorem dL_fails_7 : decode cL_fails 7 = .ok (.iload 4, 2) := by decide +kernel
theorem dL_fails_9 : decode cL_fails 9 = .ok (.invokevirtual 70, 3) := by decide +kernel
theorem dL_fails_12 : decode cL_fails 12 = .ok (.i2l, 1) := by decide +kernel
theorem dL_fails_13 : decode cL_fails 13 = .ok (.lastore, 1) := by decide +kernel
theorem dL_fails_14 : decode cL_fails 14 = .ok (.goto 11, 3) := by decide +kernel
theorem dL_fails_17 : decode cL_fails 17 = .ok (.astore 6, 2) := by decide +kernel
theorem dL_fails_19 : decode cL_fails 19 = .ok (.iconst 1, 1) := by decide +kernel
theorem dL_fails_20 : decode cL_fails 20 = .ok (.ireturn, 1) := by decide +kernel
theorem dL_fails_21 : decode cL_fails 21 = .ok (.astore 6, 2) := by decide +kernel
theorem dL_fails_23 : decode cL_fails 23 = .ok (.iconst 2, 1) := by decide +kernel
theorem dL_fails_24 : decode cL_fails 24 = .ok (.ireturn, 1) := by decide +kernel
theorem dL_fails_25 : decode cL_fails 25 = .ok (.iconst 0, 1) := by decide +kernel
theorem dL_fails_26 : decode cL_fails 26 = .ok (.ireturn, 1) := by decide +kernel
set_option maxHeartbeats 4000000 in
set_option maxRecDepth 100000 in
theorem w_fails : zMw yL_fails cL_fails 7 [(0, 14, 17, 28), (0, 14, 21, 13)] ({ frames := 10, cells := 5, slots := 30, locals := 174 } : Room) ((wA ca_X10_fails, wP cp_X10_fails, wQ cq_X10_fails cx_X10_fails [eIS, eIA]) : zC ((zQ × Nat × Int32 × Int32 × Int32 × Int32) × Nat)) := by
  refine zMw_of (by decide) ?_
  rintro X Y ⟨⟨Q, x, te, s, m, w⟩, o⟩ h hP O Ex hR
  have E := zEw_E Ex
  have B_17 := zr_iconst (X := X) (Y := Y) (u := 5) (v := 30) (x := 1) O dL_fails_19 rfl (zr_ireturn O E (Nat.le_of_ble_eq_true rfl) (Nat.le_of_ble_eq_true rfl) dL_fails_20)
  have B_21 := zr_iconst (X := X) (Y := Y) (u := 5) (v := 30) (x := 2) O dL_fails_23 rfl (zr_ireturn O E (Nat.le_of_ble_eq_true rfl) (Nat.le_of_ble_eq_true rfl) dL_fails_24)
  have C_17 := zr_astore O dL_fails_17 B_17
  have C_21 := zr_astore O dL_fails_21 B_21
  have B_9 := zr_i2l (X := X) (Y := Y) (u := 5) (v := 30) O dL_fails_12 (zr_last (X := X) (Y := Y) (u := 5) (v := 30) O dL_fails_13 (zr_goto (X := X) (Y := Y) (u := 5) (v := 30) O dL_fails_14 rfl (zr_iconst (x := 0) O dL_fails_25 rfl (zr_ireturn O E (Nat.le_of_ble_eq_true rfl) (Nat.le_of_ble_eq_true rfl) dL_fails_26))))
  have B_8 := zr_xC (u := 0) (v := 0) (tg := kIf eIS 17 21) (ks := [eIS, eIA]) (ci := 9) (n := 4) O Ex m_X10_fails (bn_X10_fails ({ frames := 0, cells := 0, slots := 0, locals := 0 } : Room) ⟨rfl, rfl⟩) vw_X10_fails tv_1024 rc_X10_fails (zrx hR rfl rfl rfl rfl) (Nat.le_of_ble_eq_true rfl) (Nat.le_of_ble_eq_true rfl) dL_fails_9 (zcat2 (E1 := eIS) (E2 := eIA) ⟨[], ⟨0, 14, 17, 28⟩, [⟨0, 14, 21, 13⟩], rfl, rfl, rfl, by decide, tv_744, by decide, fun w hw => absurd hw List.not_mem_nil⟩ C_17 ⟨[⟨0, 14, 17, 28⟩], ⟨0, 14, 21, 13⟩, [], rfl, rfl, rfl, by decide, tv_452, by decide, fun w hw => by rcases List.mem_singleton.mp hw with rfl; exact ⟨by decide, _, tv_744, by decide⟩⟩ C_21 (by decide)) B_9
  refine ⟨rfl, Nat.le_of_ble_eq_true rfl, _, zr_aload O dL_fails_0 (zr_iconst (x := 0) O dL_fails_2 rfl (zr_aload_n O dL_fails_3 rfl (zr_iload_n O dL_fails_4 rfl (zr_iload_n O dL_fails_5 rfl (zr_iload_n O dL_fails_6 rfl (zr_iload O dL_fails_7 (B_8))))))), ?_⟩
  refine ⟨(Q, x, te, s, m, w), rfl, hP, fun E h1 hd => ?_, fun r h1 hq => ?_⟩
  · rcases (show E = eIS ∨ E = eIA by exact hd.elim (fun z => by first | exact Or.inl z.2.1 | exact Or.inr z.2.1) (fun z => by first | exact Or.inr z.2.2.1 | exact Or.inl z.2.2.1)) with e | e
    · subst e
      exact ⟨List.mem_cons_self, fun q => by rw [kIf_1]; exact Or.inr ⟨eIS, 0, hd, rfl, rfl⟩⟩
    · subst e
      exact ⟨List.mem_cons_of_mem _ List.mem_cons_self, fun q => by rw [kIf_2 (by decide)]; exact Or.inr ⟨eIA, 1, hd, rfl, rfl⟩⟩
  · obtain ⟨w, e⟩ : ∃ w, r = some (vI w) := by exact ⟨_, hq.2.2.1⟩
    subst e
    exact ⟨0, rfl, by decide, Or.inl ⟨_, h1, hq, rfl, rfl⟩⟩
theorem dL_safe_0 : decode cL_safe 0 = .ok (.aload_n 3, 1) := by decide +kernel
theorem dL_safe_1 : decode cL_safe 1 = .ok (.iconst 0, 1) := by decide +kernel
theorem dL_safe_2 : decode cL_safe 2 = .ok (.aload_n 0, 1) := by decide +kernel
theorem dL_safe_3 : decode cL_safe 3 = .ok (.iload_n 1, 1) := by decide +kernel
theorem dL_safe_4 : decode cL_safe 4 = .ok (.iload_n 2, 1) := by decide +kernel
theorem dL_safe_5 : decode cL_safe 5 = .ok (.invokevirtual 74, 3) := by decide +kernel
theorem dL_safe_8 : decode cL_safe 8 = .ok (.i2l, 1) := by decide +kernel
theorem dL_safe_9 : decode cL_safe 9 = .ok (.lastore, 1) := by decide +kernel
theorem dL_safe_10 : decode cL_safe 10 = .ok (.goto 11, 3) := by decide +kernel
theorem dL_safe_13 : decode cL_safe 13 = .ok (.astore 4, 2) := by decide +kernel
theorem dL_safe_15 : decode cL_safe 15 = .ok (.iconst 1, 1) := by decide +kernel
theorem dL_safe_16 : decode cL_safe 16 = .ok (.ireturn, 1) := by decide +kernel
theorem dL_safe_17 : decode cL_safe 17 = .ok (.astore 4, 2) := by decide +kernel
theorem dL_safe_19 : decode cL_safe 19 = .ok (.iconst 2, 1) := by decide +kernel
theorem dL_safe_20 : decode cL_safe 20 = .ok (.ireturn, 1) := by decide +kernel
theorem dL_safe_21 : decode cL_safe 21 = .ok (.iconst 0, 1) := by decide +kernel
theorem dL_safe_22 : decode cL_safe 22 = .ok (.ireturn, 1) := by decide +kernel
set_option maxHeartbeats 4000000 in
set_option maxRecDepth 100000 in
theorem w_safe : zMw yL_safe cL_safe 5 [(0, 10, 13, 28), (0, 10, 17, 13)] ({ frames := 10, cells := 3, slots := 18, locals := 169 } : Room) ((wA ca_X10_safe, wP cp_X10_safe, wQ cq_X10_safe cx_X10_safe [eIS, eIA]) : zC ((zQ × Nat × Int32 × Int32) × Nat)) := by
  refine zMw_of (by decide) ?_
  rintro X Y ⟨⟨Q, x, te, w⟩, o⟩ h hP O Ex hR
  have E := zEw_E Ex
  have B_13 := zr_iconst (X := X) (Y := Y) (u := 3) (v := 18) (x := 1) O dL_safe_15 rfl (zr_ireturn O E (Nat.le_of_ble_eq_true rfl) (Nat.le_of_ble_eq_true rfl) dL_safe_16)
  have B_17 := zr_iconst (X := X) (Y := Y) (u := 3) (v := 18) (x := 2) O dL_safe_19 rfl (zr_ireturn O E (Nat.le_of_ble_eq_true rfl) (Nat.le_of_ble_eq_true rfl) dL_safe_20)
  have C_13 := zr_astore O dL_safe_13 B_13
  have C_17 := zr_astore O dL_safe_17 B_17
  have B_9 := zr_i2l (X := X) (Y := Y) (u := 3) (v := 18) O dL_safe_8 (zr_last (X := X) (Y := Y) (u := 3) (v := 18) O dL_safe_9 (zr_goto (X := X) (Y := Y) (u := 3) (v := 18) O dL_safe_10 rfl (zr_iconst (x := 0) O dL_safe_21 rfl (zr_ireturn O E (Nat.le_of_ble_eq_true rfl) (Nat.le_of_ble_eq_true rfl) dL_safe_22))))
  have B_8 := zr_xC (u := 0) (v := 0) (tg := kIf eIS 13 17) (ks := [eIS, eIA]) (ci := 9) (n := 2) O Ex m_X10_safe (bn_X10_safe ({ frames := 0, cells := 0, slots := 0, locals := 0 } : Room) ⟨rfl, rfl⟩) vw_X10_safe tv_1031 rc_X10_safe (zrx hR rfl rfl rfl rfl) (Nat.le_of_ble_eq_true rfl) (Nat.le_of_ble_eq_true rfl) dL_safe_5 (zcat2 (E1 := eIS) (E2 := eIA) ⟨[], ⟨0, 10, 13, 28⟩, [⟨0, 10, 17, 13⟩], rfl, rfl, rfl, by decide, tv_744, by decide, fun w hw => absurd hw List.not_mem_nil⟩ C_13 ⟨[⟨0, 10, 13, 28⟩], ⟨0, 10, 17, 13⟩, [], rfl, rfl, rfl, by decide, tv_452, by decide, fun w hw => by rcases List.mem_singleton.mp hw with rfl; exact ⟨by decide, _, tv_744, by decide⟩⟩ C_17 (by decide)) B_9
  refine ⟨rfl, Nat.le_of_ble_eq_true rfl, _, zr_aload_n O dL_safe_0 rfl (zr_iconst (x := 0) O dL_safe_1 rfl (zr_aload_n O dL_safe_2 rfl (zr_iload_n O dL_safe_3 rfl (zr_iload_n O dL_safe_4 rfl (B_8))))), ?_⟩
  refine ⟨(Q, x, te, w), rfl, hP, fun E h1 hd => ?_, fun r h1 hq => ?_⟩
  · rcases (show E = eIS ∨ E = eIA by exact hd.elim (fun z => by first | exact Or.inl z.2.1 | exact Or.inr z.2.1) (fun z => by first | exact Or.inr z.2.2.1 | exact Or.inl z.2.2.1)) with e | e
    · subst e
      exact ⟨List.mem_cons_self, fun q => by rw [kIf_1]; exact Or.inr ⟨eIS, 0, hd, rfl, rfl⟩⟩
    · subst e
      exact ⟨List.mem_cons_of_mem _ List.mem_cons_self, fun q => by rw [kIf_2 (by decide)]; exact Or.inr ⟨eIA, 1, hd, rfl, rfl⟩⟩
  · obtain ⟨w, e⟩ : ∃ w, r = some (vI w) := by exact ⟨_, hq.2.2.1⟩
    subst e
    exact ⟨0, rfl, by decide, Or.inl ⟨_, h1, hq, rfl, rfl⟩⟩
theorem dL_range_0 : decode cL_range 0 = .ok (.aload_n 2, 1) := by decide +kernel
theorem dL_range_1 : decode cL_range 1 = .ok (.iconst 0, 1) := by decide +kernel
theorem dL_range_2 : decode cL_range 2 = .ok (.aload_n 0, 1) := by decide +kernel
theorem dL_range_3 : decode cL_range 3 = .ok (.iload_n 1, 1) := by decide +kernel
theorem dL_range_4 : decode cL_range 4 = .ok (.invokevirtual 77, 3) := by decide +kernel
theorem dL_range_7 : decode cL_range 7 = .ok (.i2l, 1) := by decide +kernel
theorem dL_range_8 : decode cL_range 8 = .ok (.lastore, 1) := by decide +kernel
theorem dL_range_9 : decode cL_range 9 = .ok (.goto 9, 3) := by decide +kernel
theorem dL_range_12 : decode cL_range 12 = .ok (.astore_n 3, 1) := by decide +kernel
theorem dL_range_13 : decode cL_range 13 = .ok (.iconst 1, 1) := by decide +kernel
theorem dL_range_14 : decode cL_range 14 = .ok (.ireturn, 1) := by decide +kernel
theorem dL_range_15 : decode cL_range 15 = .ok (.astore_n 3, 1) := by decide +kernel
theorem dL_range_16 : decode cL_range 16 = .ok (.iconst 2, 1) := by decide +kernel
theorem dL_range_17 : decode cL_range 17 = .ok (.ireturn, 1) := by decide +kernel
theorem dL_range_18 : decode cL_range 18 = .ok (.iconst 0, 1) := by decide +kernel
theorem dL_range_19 : decode cL_range 19 = .ok (.ireturn, 1) := by decide +kernel
set_option maxHeartbeats 4000000 in
set_option maxRecDepth 100000 in
theorem w_range : zMw yL_range cL_range 4 [(0, 9, 12, 28), (0, 9, 15, 13)] ({ frames := 9, cells := 2, slots := 12, locals := 149 } : Room) ((wA ca_X10_range, wP cp_X10_range, wQ cq_X10_range cx_X10_range [eIS, eIA]) : zC ((zQ × Nat × Int32) × Nat)) := by
  refine zMw_of (by decide) ?_
  rintro X Y ⟨⟨Q, x, w⟩, o⟩ h hP O Ex hR
  have E := zEw_E Ex
  have B_12 := zr_iconst (X := X) (Y := Y) (u := 2) (v := 12) (x := 1) O dL_range_13 rfl (zr_ireturn O E (Nat.le_of_ble_eq_true rfl) (Nat.le_of_ble_eq_true rfl) dL_range_14)
  have B_15 := zr_iconst (X := X) (Y := Y) (u := 2) (v := 12) (x := 2) O dL_range_16 rfl (zr_ireturn O E (Nat.le_of_ble_eq_true rfl) (Nat.le_of_ble_eq_true rfl) dL_range_17)
  have C_12 := zr_astore_n O dL_range_12 rfl B_12
  have C_15 := zr_astore_n O dL_range_15 rfl B_15
  have B_9 := zr_i2l (X := X) (Y := Y) (u := 2) (v := 12) O dL_range_7 (zr_last (X := X) (Y := Y) (u := 2) (v := 12) O dL_range_8 (zr_goto (X := X) (Y := Y) (u := 2) (v := 12) O dL_range_9 rfl (zr_iconst (x := 0) O dL_range_18 rfl (zr_ireturn O E (Nat.le_of_ble_eq_true rfl) (Nat.le_of_ble_eq_true rfl) dL_range_19))))
  have B_8 := zr_xC (u := 0) (v := 0) (tg := kIf eIS 12 15) (ks := [eIS, eIA]) (ci := 9) (n := 1) O Ex m_X10_range (bn_X10_range ({ frames := 0, cells := 0, slots := 0, locals := 0 } : Room) ⟨rfl, rfl⟩) vw_X10_range tv_1062 rc_X10_range (zrx hR rfl rfl rfl rfl) (Nat.le_of_ble_eq_true rfl) (Nat.le_of_ble_eq_true rfl) dL_range_4 (zcat2 (E1 := eIS) (E2 := eIA) ⟨[], ⟨0, 9, 12, 28⟩, [⟨0, 9, 15, 13⟩], rfl, rfl, rfl, by decide, tv_744, by decide, fun w hw => absurd hw List.not_mem_nil⟩ C_12 ⟨[⟨0, 9, 12, 28⟩], ⟨0, 9, 15, 13⟩, [], rfl, rfl, rfl, by decide, tv_452, by decide, fun w hw => by rcases List.mem_singleton.mp hw with rfl; exact ⟨by decide, _, tv_744, by decide⟩⟩ C_15 (by decide)) B_9
  refine ⟨rfl, Nat.le_of_ble_eq_true rfl, _, zr_aload_n O dL_range_0 rfl (zr_iconst (x := 0) O dL_range_1 rfl (zr_aload_n O dL_range_2 rfl (zr_iload_n O dL_range_3 rfl (B_8)))), ?_⟩
  refine ⟨(Q, x, w), rfl, hP, fun E h1 hd => ?_, fun r h1 hq => ?_⟩
  · rcases (show E = eIS ∨ E = eIA by exact hd.elim (fun z => by first | exact Or.inl z.2.1 | exact Or.inr z.2.1) (fun z => by first | exact Or.inr z.2.2.1 | exact Or.inl z.2.2.1)) with e | e
    · subst e
      exact ⟨List.mem_cons_self, fun q => by rw [kIf_1]; exact Or.inr ⟨eIS, 0, hd, rfl, rfl⟩⟩
    · subst e
      exact ⟨List.mem_cons_of_mem _ List.mem_cons_self, fun q => by rw [kIf_2 (by decide)]; exact Or.inr ⟨eIA, 1, hd, rfl, rfl⟩⟩
  · obtain ⟨w, e⟩ : ∃ w, r = some (vI w) := by exact ⟨_, hq.2.2.1⟩
    subst e
    exact ⟨0, rfl, by decide, Or.inl ⟨_, h1, hq, rfl, rfl⟩⟩
theorem dL_guardFor_0 : decode cL_guardFor 0 = .ok (.aload_n 2, 1) := by decide +kernel
theorem dL_guardFor_1 : decode cL_guardFor 1 = .ok (.iconst 0, 1) := by decide +kernel
theorem dL_guardFor_2 : decode cL_guardFor 2 = .ok (.aload_n 0, 1) := by decide +kernel
theorem dL_guardFor_3 : decode cL_guardFor 3 = .ok (.iload_n 1, 1) := by decide +kernel
theorem dL_guardFor_4 : decode cL_guardFor 4 = .ok (.invokevirtual 80, 3) := by decide +kernel
theorem dL_guardFor_7 : decode cL_guardFor 7 = .ok (.i2l, 1) := by decide +kernel
theorem dL_guardFor_8 : decode cL_guardFor 8 = .ok (.lastore, 1) := by decide +kernel
theorem dL_guardFor_9 : decode cL_guardFor 9 = .ok (.goto 6, 3) := by decide +kernel
theorem dL_guardFor_12 : decode cL_guardFor 12 = .ok (.astore_n 3, 1) := by decide +kernel
theorem dL_guardFor_13 : decode cL_guardFor 13 = .ok (.iconst 1, 1) := by decide +kernel
theorem dL_guardFor_14 : decode cL_guardFor 14 = .ok (.ireturn, 1) := by decide +kernel
theorem dL_guardFor_15 : decode cL_guardFor 15 = .ok (.iconst 0, 1) := by decide +kernel
theorem dL_guardFor_16 : decode cL_guardFor 16 = .ok (.ireturn, 1) := by decide +kernel
set_option maxHeartbeats 4000000 in
set_option maxRecDepth 100000 in
theorem w_guardFor : zMw yL_guardFor cL_guardFor 4 [(0, 9, 12, 13)] ({ frames := 9, cells := 1, slots := 6, locals := 151 } : Room) ((wA ca_X10_guardFor, wP cp_X10_guardFor, wQ cq_X10_guardFor cx_X10_guardFor [eIA]) : zC ((zQ × Nat × Int32) × Nat)) := by
  refine zMw_of (by decide) ?_
  rintro X Y ⟨⟨Q, x, b⟩, o⟩ h hP O Ex hR
  have E := zEw_E Ex
  have B_12 := zr_iconst (X := X) (Y := Y) (u := 1) (v := 6) (x := 1) O dL_guardFor_13 rfl (zr_ireturn O E (Nat.le_of_ble_eq_true rfl) (Nat.le_of_ble_eq_true rfl) dL_guardFor_14)
  have C_12 := zr_astore_n O dL_guardFor_12 rfl B_12
  have B_9 := zr_i2l (X := X) (Y := Y) (u := 1) (v := 6) O dL_guardFor_7 (zr_last (X := X) (Y := Y) (u := 1) (v := 6) O dL_guardFor_8 (zr_goto (X := X) (Y := Y) (u := 1) (v := 6) O dL_guardFor_9 rfl (zr_iconst (x := 0) O dL_guardFor_15 rfl (zr_ireturn O E (Nat.le_of_ble_eq_true rfl) (Nat.le_of_ble_eq_true rfl) dL_guardFor_16))))
  have B_8 := zr_xC (u := 0) (v := 0) (kE := fun _ => _) (tg := fun _ => 12) (ks := [eIA]) (ci := 9) (n := 1) O Ex m_X10_guardFor (bn_X10_guardFor ({ frames := 0, cells := 0, slots := 0, locals := 0 } : Room) ⟨rfl, rfl⟩) vw_X10_guardFor tv_1073 rc_X10_guardFor (zrx hR rfl rfl rfl rfl) (Nat.le_of_ble_eq_true rfl) (Nat.le_of_ble_eq_true rfl) dL_guardFor_4 (fun E hE => by rcases List.mem_singleton.mp hE with rfl; exact ⟨⟨[], ⟨0, 9, 12, 13⟩, [], rfl, rfl, rfl, by decide, tv_452, by decide, fun w hw => absurd hw List.not_mem_nil⟩, C_12⟩) B_9
  refine ⟨rfl, Nat.le_of_ble_eq_true rfl, _, zr_aload_n O dL_guardFor_0 rfl (zr_iconst (x := 0) O dL_guardFor_1 rfl (zr_aload_n O dL_guardFor_2 rfl (zr_iload_n O dL_guardFor_3 rfl (B_8)))), ?_⟩
  refine ⟨(Q, x, b), rfl, hP, fun E h1 hd => ?_, fun r h1 hq => ?_⟩
  · have e : E = eIA := by exact hd.2.1
    subst e
    exact ⟨List.mem_singleton.mpr rfl, fun q => Or.inr ⟨eIA, 0, hd, rfl, rfl⟩⟩
  · obtain ⟨w, e⟩ : ∃ w, r = some (vI w) := by exact ⟨_, hq.2.1⟩
    subst e
    exact ⟨0, rfl, by decide, Or.inl ⟨_, h1, hq, rfl, rfl⟩⟩
theorem dL_ways_0 : decode cL_ways 0 = .ok (.aload_n 2, 1) := by decide +kernel
theorem dL_ways_1 : decode cL_ways 1 = .ok (.iconst 0, 1) := by decide +kernel
theorem dL_ways_2 : decode cL_ways 2 = .ok (.aload_n 0, 1) := by decide +kernel
theorem dL_ways_3 : decode cL_ways 3 = .ok (.iload_n 1, 1) := by decide +kernel
theorem dL_ways_4 : decode cL_ways 4 = .ok (.invokevirtual 83, 3) := by decide +kernel
theorem dL_ways_7 : decode cL_ways 7 = .ok (.lastore, 1) := by decide +kernel
theorem dL_ways_8 : decode cL_ways 8 = .ok (.goto 6, 3) := by decide +kernel
theorem dL_ways_11 : decode cL_ways 11 = .ok (.astore_n 3, 1) := by decide +kernel
theorem dL_ways_12 : decode cL_ways 12 = .ok (.iconst 1, 1) := by decide +kernel
theorem dL_ways_13 : decode cL_ways 13 = .ok (.ireturn, 1) := by decide +kernel
theorem dL_ways_14 : decode cL_ways 14 = .ok (.iconst 0, 1) := by decide +kernel
theorem dL_ways_15 : decode cL_ways 15 = .ok (.ireturn, 1) := by decide +kernel
set_option maxHeartbeats 4000000 in
set_option maxRecDepth 100000 in
theorem w_ways : zMw yL_ways cL_ways 4 [(0, 8, 11, 13)] ({ frames := 9, cells := 1, slots := 6, locals := 147 } : Room) ((wA ca_X10_ways, wP cp_X10_ways, wQ cq_X10_ways cx_X10_ways [eIA]) : zC ((zQ × Nat × Int32) × Nat)) := by
  refine zMw_of (by decide) ?_
  rintro X Y ⟨⟨Q, x, w⟩, o⟩ h hP O Ex hR
  have E := zEw_E Ex
  have B_11 := zr_iconst (X := X) (Y := Y) (u := 1) (v := 6) (x := 1) O dL_ways_12 rfl (zr_ireturn O E (Nat.le_of_ble_eq_true rfl) (Nat.le_of_ble_eq_true rfl) dL_ways_13)
  have C_11 := zr_astore_n O dL_ways_11 rfl B_11
  have B_9 := zr_last (X := X) (Y := Y) (u := 1) (v := 6) O dL_ways_7 (zr_goto (X := X) (Y := Y) (u := 1) (v := 6) O dL_ways_8 rfl (zr_iconst (x := 0) O dL_ways_14 rfl (zr_ireturn O E (Nat.le_of_ble_eq_true rfl) (Nat.le_of_ble_eq_true rfl) dL_ways_15)))
  have B_8 := zr_xC (u := 0) (v := 0) (kE := fun _ => _) (tg := fun _ => 11) (ks := [eIA]) (ci := 9) (n := 1) O Ex m_X10_ways (bn_X10_ways ({ frames := 0, cells := 0, slots := 0, locals := 0 } : Room) ⟨rfl, rfl⟩) vw_X10_ways tv_1084 rc_X10_ways (zrx hR rfl rfl rfl rfl) (Nat.le_of_ble_eq_true rfl) (Nat.le_of_ble_eq_true rfl) dL_ways_4 (fun E hE => by rcases List.mem_singleton.mp hE with rfl; exact ⟨⟨[], ⟨0, 8, 11, 13⟩, [], rfl, rfl, rfl, by decide, tv_452, by decide, fun w hw => absurd hw List.not_mem_nil⟩, C_11⟩) B_9
  refine ⟨rfl, Nat.le_of_ble_eq_true rfl, _, zr_aload_n O dL_ways_0 rfl (zr_iconst (x := 0) O dL_ways_1 rfl (zr_aload_n O dL_ways_2 rfl (zr_iload_n O dL_ways_3 rfl (B_8)))), ?_⟩
  refine ⟨(Q, x, w), rfl, hP, fun E h1 hd => ?_, fun r h1 hq => ?_⟩
  · have e : E = eIA := by exact hd.2.1
    subst e
    exact ⟨List.mem_singleton.mpr rfl, fun q => Or.inr ⟨eIA, 0, hd, rfl, rfl⟩⟩
  · obtain ⟨w, e⟩ : ∃ w, r = some (vL w) := by exact ⟨_, hq.2.1⟩
    subst e
    exact ⟨0, rfl, by decide, Or.inl ⟨_, h1, hq, rfl, rfl⟩⟩
theorem dL_leak_0 : decode cL_leak 0 = .ok (.aload_n 2, 1) := by decide +kernel
theorem dL_leak_1 : decode cL_leak 1 = .ok (.iconst 0, 1) := by decide +kernel
theorem dL_leak_2 : decode cL_leak 2 = .ok (.aload_n 0, 1) := by decide +kernel
theorem dL_leak_3 : decode cL_leak 3 = .ok (.iload_n 1, 1) := by decide +kernel
theorem dL_leak_4 : decode cL_leak 4 = .ok (.invokevirtual 87, 3) := by decide +kernel
theorem dL_leak_7 : decode cL_leak 7 = .ok (.i2l, 1) := by decide +kernel
theorem dL_leak_8 : decode cL_leak 8 = .ok (.lastore, 1) := by decide +kernel
theorem dL_leak_9 : decode cL_leak 9 = .ok (.goto 9, 3) := by decide +kernel
theorem dL_leak_12 : decode cL_leak 12 = .ok (.astore_n 3, 1) := by decide +kernel
theorem dL_leak_13 : decode cL_leak 13 = .ok (.iconst 1, 1) := by decide +kernel
theorem dL_leak_14 : decode cL_leak 14 = .ok (.ireturn, 1) := by decide +kernel
theorem dL_leak_15 : decode cL_leak 15 = .ok (.astore_n 3, 1) := by decide +kernel
theorem dL_leak_16 : decode cL_leak 16 = .ok (.iconst 2, 1) := by decide +kernel
theorem dL_leak_17 : decode cL_leak 17 = .ok (.ireturn, 1) := by decide +kernel
theorem dL_leak_18 : decode cL_leak 18 = .ok (.iconst 0, 1) := by decide +kernel
theorem dL_leak_19 : decode cL_leak 19 = .ok (.ireturn, 1) := by decide +kernel
set_option maxHeartbeats 4000000 in
set_option maxRecDepth 100000 in
theorem w_leak : zMw yL_leak cL_leak 4 [(0, 9, 12, 28), (0, 9, 15, 13)] ({ frames := 24, cells := 2, slots := 12, locals := 677 } : Room) ((wA ca_X10_leak, wP cp_X10_leak, wQ cq_X10_leak cx_X10_leak [eIS, eIA]) : zC ((zQ × Nat × Int32) × Nat)) := by
  refine zMw_of (by decide) ?_
  rintro X Y ⟨⟨Q, x, w⟩, o⟩ h hP O Ex hR
  have E := zEw_E Ex
  have B_12 := zr_iconst (X := X) (Y := Y) (u := 2) (v := 12) (x := 1) O dL_leak_13 rfl (zr_ireturn O E (Nat.le_of_ble_eq_true rfl) (Nat.le_of_ble_eq_true rfl) dL_leak_14)
  have B_15 := zr_iconst (X := X) (Y := Y) (u := 2) (v := 12) (x := 2) O dL_leak_16 rfl (zr_ireturn O E (Nat.le_of_ble_eq_true rfl) (Nat.le_of_ble_eq_true rfl) dL_leak_17)
  have C_12 := zr_astore_n O dL_leak_12 rfl B_12
  have C_15 := zr_astore_n O dL_leak_15 rfl B_15
  have B_9 := zr_i2l (X := X) (Y := Y) (u := 2) (v := 12) O dL_leak_7 (zr_last (X := X) (Y := Y) (u := 2) (v := 12) O dL_leak_8 (zr_goto (X := X) (Y := Y) (u := 2) (v := 12) O dL_leak_9 rfl (zr_iconst (x := 0) O dL_leak_18 rfl (zr_ireturn O E (Nat.le_of_ble_eq_true rfl) (Nat.le_of_ble_eq_true rfl) dL_leak_19))))
  have B_8 := zr_xC (u := 0) (v := 0) (tg := kIf eIS 12 15) (ks := [eIS, eIA]) (ci := 9) (n := 1) O Ex m_X10_leak (bn_X10_leak ({ frames := 0, cells := 0, slots := 0, locals := 0 } : Room) ⟨rfl, rfl⟩) vw_X10_leak tv_1109 rc_X10_leak (zrx hR rfl rfl rfl rfl) (Nat.le_of_ble_eq_true rfl) (Nat.le_of_ble_eq_true rfl) dL_leak_4 (zcat2 (E1 := eIS) (E2 := eIA) ⟨[], ⟨0, 9, 12, 28⟩, [⟨0, 9, 15, 13⟩], rfl, rfl, rfl, by decide, tv_744, by decide, fun w hw => absurd hw List.not_mem_nil⟩ C_12 ⟨[⟨0, 9, 12, 28⟩], ⟨0, 9, 15, 13⟩, [], rfl, rfl, rfl, by decide, tv_452, by decide, fun w hw => by rcases List.mem_singleton.mp hw with rfl; exact ⟨by decide, _, tv_744, by decide⟩⟩ C_15 (by decide)) B_9
  refine ⟨rfl, Nat.le_of_ble_eq_true rfl, _, zr_aload_n O dL_leak_0 rfl (zr_iconst (x := 0) O dL_leak_1 rfl (zr_aload_n O dL_leak_2 rfl (zr_iload_n O dL_leak_3 rfl (B_8)))), ?_⟩
  refine ⟨(Q, x, w), rfl, hP, fun E h1 hd => ?_, fun r h1 hq => ?_⟩
  · rcases (show E = eIS ∨ E = eIA by exact hd.elim (fun z => by first | exact Or.inl z.2.1 | exact Or.inr z.2.1) (fun z => by first | exact Or.inr z.2.2.1 | exact Or.inl z.2.2.1)) with e | e
    · subst e
      exact ⟨List.mem_cons_self, fun q => by rw [kIf_1]; exact Or.inr ⟨eIS, 0, hd, rfl, rfl⟩⟩
    · subst e
      exact ⟨List.mem_cons_of_mem _ List.mem_cons_self, fun q => by rw [kIf_2 (by decide)]; exact Or.inr ⟨eIA, 1, hd, rfl, rfl⟩⟩
  · obtain ⟨w, e⟩ : ∃ w, r = some (vI w) := by exact ⟨_, hq.2.2.1⟩
    subst e
    exact ⟨0, rfl, by decide, Or.inl ⟨_, h1, hq, rfl, rfl⟩⟩
theorem dL_success_0 : decode cL_success 0 = .ok (.aload_n 2, 1) := by decide +kernel
theorem dL_success_1 : decode cL_success 1 = .ok (.iconst 0, 1) := by decide +kernel
theorem dL_success_2 : decode cL_success 2 = .ok (.aload_n 0, 1) := by decide +kernel
theorem dL_success_3 : decode cL_success 3 = .ok (.iload_n 1, 1) := by decide +kernel
theorem dL_success_4 : decode cL_success 4 = .ok (.invokevirtual 90, 3) := by decide +kernel
theorem dL_success_7 : decode cL_success 7 = .ok (.i2l, 1) := by decide +kernel
theorem dL_success_8 : decode cL_success 8 = .ok (.lastore, 1) := by decide +kernel
theorem dL_success_9 : decode cL_success 9 = .ok (.goto 6, 3) := by decide +kernel
theorem dL_success_12 : decode cL_success 12 = .ok (.astore_n 3, 1) := by decide +kernel
theorem dL_success_13 : decode cL_success 13 = .ok (.iconst 1, 1) := by decide +kernel
theorem dL_success_14 : decode cL_success 14 = .ok (.ireturn, 1) := by decide +kernel
theorem dL_success_15 : decode cL_success 15 = .ok (.iconst 0, 1) := by decide +kernel
theorem dL_success_16 : decode cL_success 16 = .ok (.ireturn, 1) := by decide +kernel
set_option maxHeartbeats 4000000 in
set_option maxRecDepth 100000 in
theorem w_success : zMw yL_success cL_success 4 [(0, 9, 12, 13)] ({ frames := 9, cells := 1, slots := 6, locals := 153 } : Room) ((wA ca_X10_success, wP cp_X10_success, wQ cq_X10_success cx_X10_success [eIA]) : zC ((zQ × Nat × Int32) × Nat)) := by
  refine zMw_of (by decide) ?_
  rintro X Y ⟨⟨Q, x, w⟩, o⟩ h hP O Ex hR
  have E := zEw_E Ex
  have B_12 := zr_iconst (X := X) (Y := Y) (u := 1) (v := 6) (x := 1) O dL_success_13 rfl (zr_ireturn O E (Nat.le_of_ble_eq_true rfl) (Nat.le_of_ble_eq_true rfl) dL_success_14)
  have C_12 := zr_astore_n O dL_success_12 rfl B_12
  have B_9 := zr_i2l (X := X) (Y := Y) (u := 1) (v := 6) O dL_success_7 (zr_last (X := X) (Y := Y) (u := 1) (v := 6) O dL_success_8 (zr_goto (X := X) (Y := Y) (u := 1) (v := 6) O dL_success_9 rfl (zr_iconst (x := 0) O dL_success_15 rfl (zr_ireturn O E (Nat.le_of_ble_eq_true rfl) (Nat.le_of_ble_eq_true rfl) dL_success_16))))
  have B_8 := zr_xC (u := 0) (v := 0) (kE := fun _ => _) (tg := fun _ => 12) (ks := [eIA]) (ci := 9) (n := 1) O Ex m_X10_success (bn_X10_success ({ frames := 0, cells := 0, slots := 0, locals := 0 } : Room) ⟨rfl, rfl⟩) vw_X10_success tv_1155 rc_X10_success (zrx hR rfl rfl rfl rfl) (Nat.le_of_ble_eq_true rfl) (Nat.le_of_ble_eq_true rfl) dL_success_4 (fun E hE => by rcases List.mem_singleton.mp hE with rfl; exact ⟨⟨[], ⟨0, 9, 12, 13⟩, [], rfl, rfl, rfl, by decide, tv_452, by decide, fun w hw => absurd hw List.not_mem_nil⟩, C_12⟩) B_9
  refine ⟨rfl, Nat.le_of_ble_eq_true rfl, _, zr_aload_n O dL_success_0 rfl (zr_iconst (x := 0) O dL_success_1 rfl (zr_aload_n O dL_success_2 rfl (zr_iload_n O dL_success_3 rfl (B_8)))), ?_⟩
  refine ⟨(Q, x, w), rfl, hP, fun E h1 hd => ?_, fun r h1 hq => ?_⟩
  · have e : E = eIA := by exact hd.2.1
    subst e
    exact ⟨List.mem_singleton.mpr rfl, fun q => Or.inr ⟨eIA, 0, hd, rfl, rfl⟩⟩
  · obtain ⟨w, e⟩ : ∃ w, r = some (vI w) := by exact ⟨_, hq.2.1⟩
    subst e
    exact ⟨0, rfl, by decide, Or.inl ⟨_, h1, hq, rfl, rfl⟩⟩
theorem dL_curve_0 : decode cL_curve 0 = .ok (.aload_n 3, 1) := by decide +kernel
theorem dL_curve_1 : decode cL_curve 1 = .ok (.iconst 0, 1) := by decide +kernel
theorem dL_curve_2 : decode cL_curve 2 = .ok (.aload_n 0, 1) := by decide +kernel
theorem dL_curve_3 : decode cL_curve 3 = .ok (.iload_n 1, 1) := by decide +kernel
theorem dL_curve_4 : decode cL_curve 4 = .ok (.iload_n 2, 1) := by decide +kernel
theorem dL_curve_5 : decode cL_curve 5 = .ok (.invokevirtual 93, 3) := by decide +kernel
theorem dL_curve_8 : decode cL_curve 8 = .ok (.i2l, 1) := by decide +kernel
theorem dL_curve_9 : decode cL_curve 9 = .ok (.lastore, 1) := by decide +kernel
theorem dL_curve_10 : decode cL_curve 10 = .ok (.goto 7, 3) := by decide +kernel
theorem dL_curve_13 : decode cL_curve 13 = .ok (.astore 4, 2) := by decide +kernel
theorem dL_curve_15 : decode cL_curve 15 = .ok (.iconst 1, 1) := by decide +kernel
theorem dL_curve_16 : decode cL_curve 16 = .ok (.ireturn, 1) := by decide +kernel
theorem dL_curve_17 : decode cL_curve 17 = .ok (.iconst 0, 1) := by decide +kernel
theorem dL_curve_18 : decode cL_curve 18 = .ok (.ireturn, 1) := by decide +kernel
set_option maxHeartbeats 4000000 in
set_option maxRecDepth 100000 in
theorem w_curve : zMw yL_curve cL_curve 5 [(0, 10, 13, 13)] ({ frames := 9, cells := 2, slots := 12, locals := 148 } : Room) ((wA ca_X10_curve, wP cp_X10_curve, wQ cq_X10_curve cx_X10_curve [eIA]) : zC ((zQ × Nat × Int32 × Int32) × Nat)) := by
  refine zMw_of (by decide) ?_
  rintro X Y ⟨⟨Q, x, m, w⟩, o⟩ h hP O Ex hR
  have E := zEw_E Ex
  have B_13 := zr_iconst (X := X) (Y := Y) (u := 2) (v := 12) (x := 1) O dL_curve_15 rfl (zr_ireturn O E (Nat.le_of_ble_eq_true rfl) (Nat.le_of_ble_eq_true rfl) dL_curve_16)
  have C_13 := zr_astore O dL_curve_13 B_13
  have B_9 := zr_i2l (X := X) (Y := Y) (u := 2) (v := 12) O dL_curve_8 (zr_last (X := X) (Y := Y) (u := 2) (v := 12) O dL_curve_9 (zr_goto (X := X) (Y := Y) (u := 2) (v := 12) O dL_curve_10 rfl (zr_iconst (x := 0) O dL_curve_17 rfl (zr_ireturn O E (Nat.le_of_ble_eq_true rfl) (Nat.le_of_ble_eq_true rfl) dL_curve_18))))
  have B_8 := zr_xC (u := 0) (v := 0) (kE := fun _ => _) (tg := fun _ => 13) (ks := [eIA]) (ci := 9) (n := 2) O Ex m_X10_curve (bn_X10_curve ({ frames := 0, cells := 0, slots := 0, locals := 0 } : Room) ⟨rfl, rfl⟩) vw_X10_curve tv_1162 rc_X10_curve (zrx hR rfl rfl rfl rfl) (Nat.le_of_ble_eq_true rfl) (Nat.le_of_ble_eq_true rfl) dL_curve_5 (fun E hE => by rcases List.mem_singleton.mp hE with rfl; exact ⟨⟨[], ⟨0, 10, 13, 13⟩, [], rfl, rfl, rfl, by decide, tv_452, by decide, fun w hw => absurd hw List.not_mem_nil⟩, C_13⟩) B_9
  refine ⟨rfl, Nat.le_of_ble_eq_true rfl, _, zr_aload_n O dL_curve_0 rfl (zr_iconst (x := 0) O dL_curve_1 rfl (zr_aload_n O dL_curve_2 rfl (zr_iload_n O dL_curve_3 rfl (zr_iload_n O dL_curve_4 rfl (B_8))))), ?_⟩
  refine ⟨(Q, x, m, w), rfl, hP, fun E h1 hd => ?_, fun r h1 hq => ?_⟩
  · have e : E = eIA := by exact hd.2.1
    subst e
    exact ⟨List.mem_singleton.mpr rfl, fun q => Or.inr ⟨eIA, 0, hd, rfl, rfl⟩⟩
  · obtain ⟨w, e⟩ : ∃ w, r = some (vI w) := by exact ⟨_, hq.2.1⟩
    subst e
    exact ⟨0, rfl, by decide, Or.inl ⟨_, h1, hq, rfl, rfl⟩⟩

