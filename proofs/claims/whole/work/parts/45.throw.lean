/-! NoSuchElementException thrown; began as vx_throwSW of the pasted rows -/
section ZNT
variable {p : Program} {l : Launch} {e : Env} {R : Room} {s : State} {m : MethodId} {args : Array Value} {below : List Frame} {meth : Method} {c : Code} {H : Heap} {locs : List Loc} {cells slots : Nat}
variable {free : Addr → Prop} {ls : Array Slot} {rest : List Value} {Qc : Array Value → State → Outcome → State → Prop} {XC : String → State → State → Prop}
theorem zthrowN {cc : ByteArray} {pc : Nat} (hexec : p.tables.exec = Jvm.exec) (hb : c.code = cc) (hl : l.stackTraces = false) {own K Q text : String} {r : List String} {ik is ic i mc ms sa : Nat} {b : ByteArray} {A : Nat → Prop}
    (hown : s.vm.findClass own = some m.cls) (hK : Bundle.fit K = true) (hQ : Bundle.fit Q = true) (hr : ∀ n ∈ r, Bundle.fit n = true)
    (b0 : decode b 0 = .ok (.aload_n 0, 1)) (b1 : decode b 1 = .ok (.aload_n 1, 1)) (b2 : decode b 2 = .ok (.invokespecial i, 3)) (b5 : decode b 5 = .ok (.return_, 1))
    (hk : (Cond.classLink own ik K).before args s = true) (hini : (Cond.initialized K).before args s = true) (hstr : vk_R own is text sa s) (hat : ∀ w ∈ (zNl own ic K Q i b r).filter vx_no, w.before args s = true)
    (hgood : ∀ w ∈ Cond.classLink own ik K :: Cond.initialized K :: (zNl own ic K Q i b r).filter vx_no, vx_ot w = true)
    (hU : vx_Zq Bundle.tN "UNASSIGNED_STACK" Bundle.steD A s s.heap) (hN : vx_Zq Bundle.tN "SUPPRESSED_SENTINEL" Bundle.listD A s s.heap) (hS : va_S A s.heap H locs) (hsize : ls.size = c.maxLocals)
    (d0 : decode cc pc = .ok (.new ik, 3)) (d3 : decode cc (pc + 3) = .ok (.dup, 1)) (d4 : decode cc (pc + 4) = .ok (.ldc_w is, 3)) (d7 : decode cc (pc + 7) = .ok (.invokespecial ic, 3)) (d10 : decode cc (pc + 10) = .ok (.athrow, 1))
    (hout : ∀ x ∈ c.exceptionTable.toList, covers x (pc + 10) = false)
    (hRf : r.length + 4 < R.frames) (hRl : (rest.map fun v => v.category).sum + (13 * (r.length + 2) + 43) ≤ R.locals) (hRcells : cells + 1 ≤ R.cells) (hRslots : slots + 6 ≤ R.slots) (hlocks : meth.locks = false)
    (hx : ∀ t : State, s.vm.Alike t.vm → H.size ≤ t.heap.size → (∀ q : Nat, q < H.size → t.heap[q]? = H[q]?) → XC K s t)
    (hf : ∀ z ∈ locs, free z.base) (hc : cells + 1 ≤ mc) (hs : slots + 6 ≤ ms) :
    W p l e R s m args below meth c H locs cells slots (vx_MQ below Qc XC args s mc ms free) (F0 m pc ls rest) := by
  intro T hT X
  have htr : e.platform.stackTraces = false := (show e.platform.stackTraces = l.stackTraces by rw [X.admits.platform]).trans hl
  have Y := vx_rebase X (R' := { frames := R.frames, locals := R.locals, cells := 1, slots := 6 }) (Nat.le_refl _) (Nat.le_refl _) hRcells hRslots
  obtain ⟨s', hA⟩ : ∃ z, z = (T.setVm s.vm).setFrames (.invoking m args :: below) := ⟨_, rfl⟩
  rw [← hA] at Y
  have hvm : s'.vm = s.vm := by rw [hA]; rfl
  have hhp : s'.heap = H := by rw [hA]; exact hT
  have hW0 : s.WarmedH s'.vm := by rw [hvm]; exact State.WarmedH.refl s
  have hat' : ∀ w ∈ (zNl own ic K Q i b r).filter vx_no, w.before args s' = true := fun w hw => vx_ot_at hW0 hvm.symm (hgood w (List.mem_cons_of_mem _ (List.mem_cons_of_mem _ hw))) (hat w hw)
  have hk' : (Cond.classLink own ik K).before args s' = true := vx_ot_at hW0 hvm.symm (hgood _ List.mem_cons_self) hk
  have hini' : (Cond.initialized K).before args s' = true := vx_ot_at hW0 hvm.symm (hgood _ (List.mem_cons_of_mem _ List.mem_cons_self)) hini
  have hU' : vx_Zq Bundle.tN "UNASSIGNED_STACK" Bundle.steD A s' s'.heap := by rw [hhp]; exact vx_Zq.moved hW0.alike (hU.kept hS.2.1)
  have hN' : vx_Zq Bundle.tN "SUPPRESSED_SENTINEL" Bundle.listD A s' s'.heap := by rw [hhp]; exact vx_Zq.moved hW0.alike (hN.kept hS.2.1)
  have h : ∀ w ∈ zNl own ic K Q i b r, w.before args s' = true := vx_own hat' (vx_isRefq hU'.1) (vx_isRefq hN'.1) hU'.2.word hN'.2.word
  have hown' : s'.vm.findClass own = some m.cls := by rw [hvm]; exact hown
  have hins : (Cond.instantiable K 6).before args s' = true := h _ (by simp [zNl, zTl])
  obtain ⟨vm₁, cX, kX, hfX, hkX, -, -, X₁, st1⟩ := Y.newCold hexec (own := own) (C := K) (index := ik) (n := 6) hown' hk' hins hini'
    (g := F0 m pc ls rest) rfl (by rw [hb]; exact d0) (Nat.le_refl _) (Nat.le_refl _)
  generalize hT1 : (T.setVm vm₁).pushCell { cls := cX, slots := kX.instanceTypes.map defaultValue, vm := .none } = T1 at X₁ st1
  have hcat : (Value.ref T.heap.size).category = 1 := rfl
  have hcellA : T1.heap[T.heap.size]? = some (freshCell cX kX) := by rw [← hT1]; exact State.heap_pushCell_size _ _
  have d3' : decode c.code (pc + 3) = .ok (.dup, 1) := by rw [hb]; exact d3
  have d4' : decode c.code (pc + 4) = .ok (.ldc_w is, 3) := by rw [hb]; exact d4
  have hstr' : vk_R own is text sa s' := vk_R.warm hW0 hstr
  obtain ⟨U, hsteps, hrun, hend, hW, hsame, ce, hce, hcv, hcl'⟩ := zctor X₁ hexec htr (own := own) (K := K) (Q := Q) (r := r) (ic := ic) hown' hK hQ hr b0 b1 b2 b5 h (fun x hx => nomatch hx) hfX hkX hcellA (by rw [hhp, hT]; exact Nat.le_refl _) (msg := .ref sa) rfl
    (g := { method := m, pc := pc + 7, locals := ls, stack := .ref sa :: .ref T.heap.size :: .ref T.heap.size :: rest, locked := none }) rfl hsize rfl rfl (rest := rest) rfl
    (by rw [hb]; exact d7) (by rw [hb]; exact d10) hout hRf (by simp only [List.map_cons, List.sum_cons, hcat]; show 2 * 0 + _ + _ ≤ R.locals; omega) hlocks
  obtain ⟨f1, f2⟩ := vx_frame hsame
  rw [hhp] at f1 f2
  have hWs : s.WarmedH U.vm := State.WarmedH.trans hW0 hW
  have hcl : s.vm.findClass K = some ce.cls := by
    rw [hvm] at hcl'
    exact hcl'
  have hall : s.sameButNew ({ U with vm := s.vm } : State) locs mc ms := by
    subst hA
    obtain ⟨e1, e2⟩ := hsame
    rw [State.setFrames_setFrames] at e1
    have h2 : (T.setVm s.vm).sameButNew ({ U with vm := s.vm } : State) [] (0 + 1) (0 + 6) := ⟨e1, e2⟩
    have h3 := X.same.trans h2
    rw [List.append_nil] at h3
    exact h3.mono hc hs
  refine ⟨U, ?_, .threw T.heap.size, hrun, hend, Or.inr ⟨T.heap.size, rfl, K, ce, locs, hx U hWs.alike f1 (fun q hq => f2 q hq (fun z hz => nomatch hz)), hce, hcv, hcl, hWs, hall, hf⟩⟩
  refine st1 _ ?_
  show Steps p.tables e below (T1.setTop { method := m, pc := pc + 3, locals := ls, stack := .ref T.heap.size :: rest, locked := none }) _
  jvm_step X₁.here [X₁.here.top, hexec, d3', Value.category]
  exact X₁.ldcStringW hexec (own := own) (text := text) (index := is) (a := sa) hown' hstr'.1 hstr'.2
    (g := { method := m, pc := pc + 4, locals := ls, stack := .ref T.heap.size :: .ref T.heap.size :: rest, locked := none }) rfl d4' _ hsteps
end ZNT
theorem zr_thrN {X : zX} {Y : zY} {u v pc : Nat} {cc : ByteArray} {own : String} {K Q text : String} {r : List String} {ik is ic i n mc ms : Nat} {b : ByteArray} {rt : Option FieldType} {F : Option zV → zH → Prop} {D : String → zH → Prop} (O : zOK X Y cc own) (Ex : zEx X Y rt mc ms F D) (hK : Bundle.fit K = true) (hQ : Bundle.fit Q = true) (hr : ∀ n ∈ r, Bundle.fit n = true)
    (b0 : decode b 0 = .ok (.aload_n 0, 1)) (b1 : decode b 1 = .ok (.aload_n 1, 1)) (b2 : decode b 2 = .ok (.invokespecial i, 3)) (b5 : decode b 5 = .ok (.return_, 1))
    (hk : Cond.classLink own ik K ∈ zTW) (hini : Cond.initialized K ∈ zTW) (hs : (own, is, text, n) ∈ zStr)
    (hg : ∀ w ∈ ((zNl own ic K Q i b r).filter vx_no).filter goodWord, w ∈ lw_tbl) (hbd : ∀ w ∈ ((zNl own ic K Q i b r).filter vx_no).filter (fun w => !goodWord w), w ∈ xBd K) (hE : K ∈ zExc) (hgood : ∀ w ∈ Cond.classLink own ik K :: Cond.initialized K :: (zNl own ic K Q i b r).filter vx_no, vx_ot w = true)
    (d0 : decode cc pc = .ok (.new ik, 3)) (d3 : decode cc (pc + 3) = .ok (.dup, 1)) (d4 : decode cc (pc + 4) = .ok (.ldc_w is, 3)) (d7 : decode cc (pc + 7) = .ok (.invokespecial ic, 3)) (d10 : decode cc (pc + 10) = .ok (.athrow, 1))
    (hrm : r.length + 4 < (xR X).frames ∧ 13 * (r.length + 2) + 43 ≤ (xR X).locals ∧ u + 1 ≤ (xR X).cells ∧ v + 6 ≤ (xR X).slots) (hu : u + 1 ≤ mc) (hv' : v + 6 ≤ ms) : zSd X Y u v pc (fun _ st h => st = [] ∧ D K h) := by
  intro ls st h t H locs lsA hR hL hv hS
  obtain ⟨rfl, hD⟩ := t
  have hts := O.2.2.2.1
  have hlo := zS_lo O.2.2.2.2.2.2.1 O.2.2.2.2.2.2.2 hS
  obtain ⟨adK, adV, g1, g2, g3, g4, g5⟩ := O.2.2.2.2.2.1.2.2.2.1
  have hZ := O.2.2.2.2.2.1.2.2.2.2.2.2.1
  unfold zW
  rw [Ex.2.2.2.2]
  refine zthrowN (text := text) (A := fun q => yO Y ≤ q) (rest := []) O.1 O.2.1 Ex.2.2.1 O.2.2.1 hK hQ hr b0 b1 b2 b5 (hts _ hk) (hts _ hini) (g2 _ hs).1 (vx_hat (B := xBd K) (fun w hw => hts w (List.mem_filter.mpr ⟨hg w hw, (List.mem_filter.mp hw).2⟩)) hbd (fun w hw => xBd_ok O hE w hw)) hgood hZ.1 hZ.2 hlo hL.1.1 d0 d3 d4 d7 d10 (fun z hz => (Ex.2.2.2.1 z hz).elim) hrm.1 (by simpa using hrm.2.1) hrm.2.2.1 hrm.2.2.2 Ex.2.1 (fun t hA h1 h2 => ⟨h, hD, zR_ext hR h2, Nat.le_trans hS.1 h1, fun q hq hA => ?_⟩) hS.2.2 hu hv'
  rw [h2 q (Nat.lt_of_lt_of_le hq hS.1)]
  exact hS.2.1 q hq hA
theorem xw_1 : ∀ w ∈ ((zNl RX10 376 eNS "java/lang/RuntimeException" 13 prog_30_method_4_code ["java/lang/Exception"]).filter vx_no).filter goodWord, w ∈ lw_tbl := by decide +kernel
theorem xb_1 : ∀ w ∈ ((zNl RX10 376 eNS "java/lang/RuntimeException" 13 prog_30_method_4_code ["java/lang/Exception"]).filter vx_no).filter (fun w => !goodWord w), w ∈ xBd eNS := by decide +kernel
theorem xg_1 : ∀ w ∈ Cond.classLink RX10 372 eNS :: Cond.initialized eNS :: (zNl RX10 376 eNS "java/lang/RuntimeException" 13 prog_30_method_4_code ["java/lang/Exception"]).filter vx_no, vx_ot w = true := by decide +kernel
theorem xn_1 : ∀ n ∈ (["java/lang/Exception"] : List String), Bundle.fit n = true := by decide +kernel

