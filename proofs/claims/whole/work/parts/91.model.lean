/-! new and <init>: what a constructor's contract gives its caller -/
theorem zPi_blind {Y : zY} {ci a : Nat} : FrameBlind (zPi Y ci a) := by
  intro av U g mk hp
  obtain ⟨h1, h2, h3, h4, h5, h6, h7⟩ := hp
  exact ⟨h1, h2, h3, va_K.moved (u := U) (U := U.calling g mk av) (Vm.Alike.refl U.vm) h4, zS_moved (s := U) (U := U.calling g mk av) (State.WarmedH.refl U) (by show yO Y ≤ U.heap.size; omega) (fun _ _ => rfl) h5, ⟨h6.1.moved (Vm.Alike.refl U.vm), h6.2.moved (Vm.Alike.refl U.vm)⟩, h7⟩
section ZD
variable {p : Program} {l : Launch} {e : Env} {R : Room} {s : State} {m : MethodId} {args : Array Value} {below : List Frame} {meth : Method} {c : Code} {H : Heap} {locs : List Loc} {cells slots mc ms : Nat} {Q : State → Prop}
variable {pc n cnt : Nat} {ls : Array Slot} {rest st0 : List Value} {av : Array Value} {Y : zY} {hh : zH} {A : Nat → Prop}
theorem cq_call (hr : va_Run p l e R s m args below meth c H locs cells slots mc ms (F0 m pc ls st0) rest (zQi Y n cnt hh av) (fun q => n ≤ q)) (hS : va_S A s.heap H locs) (hn : H.size = n + 1) (hA : ∀ q, n ≤ q → A q)
    (kk : ∀ (H1 : Heap) (locs1 : List Loc), H1.size = n + cnt → (∀ q, n ≤ q → q < n + cnt → zRa Y hh H1 q) → (∀ q : Nat, q < n → H1[q]? = H[q]?) → va_S A s.heap H1 locs1 → W p l e R s m args below meth c H1 locs1 (cells + mc) (slots + ms) Q (F0 m (pc + 3) ls rest)) : W p l e R s m args below meth c H locs cells slots Q (F0 m pc ls st0) := by
  intro T hT X
  obtain ⟨v, st₀, t, T', L, h0, X', hL, e1, e2, ⟨⟨hv, hz, hR⟩, hk1, hk2⟩, st⟩ := hr T hT X
  cases hv
  rw [h0] at hk1 hk2
  obtain ⟨t2, a1, b1⟩ := kk T'.heap (locs ++ L) (by rw [e1]; exact hz) (by rw [e1]; exact hR) (fun q hq => by rw [e1]; exact hk2 q (by omega) (by omega))
    ⟨Nat.le_trans hS.1 (by rw [e1]; exact hk1), fun q h1 h2 => by
      have q2 : ¬ n ≤ q := fun z => h2 (hA q z)
      rw [e1, hk2 q (by have := hS.1; omega) q2]; exact hS.2.1 q h1 h2, fun q hq => by
      rcases List.mem_append.mp hq with h | h
      · exact hS.2.2 q h
      · exact hA _ (hL q h)⟩ T' rfl X'
  exact ⟨t2, st t2 a1, b1⟩
end ZD
/-- new C; dup; invokespecial <init> -/
def zLn (X : zX) (own : String) (i2 : Nat) (y : MethodName) : Prop := Cond.methodLink own i2 y ∈ zTW ∨ ∃ host : String, (own, i2, y, host) ∈ zNest
def zMk (y : MethodName) (b : ByteArray) (nL : Nat) (rm : Room) (ci cnt sl : Nat) (kl : List (Nat × Nat)) (hF : zY → Nat → zH) (C : String) (N : Nat) : Prop := zCt y b nL rm ci cnt sl kl hF ∧ (∃ (T : u_T) (ty : Nat → FieldType), zCl ci C T N ty ∧ ∀ j, j < N → defaultValue (ty j) = zdf ci j) ∧ (Cond.instantiable C N ∈ zTW ∧ Cond.initialized C ∈ zTW) ∧ (y.name = "<init>" ∧ y.cls = C ∧ Cond.instanceMethod y ∈ zTW ∧ Cond.code y b nL none ∈ zTW) ∧ (y.cls ≠ "java/lang/invoke/MethodHandle" ∧ y.cls ≠ "java/lang/invoke/VarHandle" ∧ (parseMethodDescriptor y.desc).map (fun d => d.parameters.length) = some 0) ∧ (rm.cells = cnt - 1 ∧ rm.slots = sl ∧ 1 ≤ cnt)
section ZE
variable {X : zX} {Y : zY} {u v pc n : Nat} {ls : Array Slot} {st : List Value} {cc : ByteArray} {own : String} {A : Nat → Prop}
theorem cq_mk {y : MethodName} {b : ByteArray} {nL ci cnt sl i1 i2 N : Nat} {rm : Room} {kl : List (Nat × Nat)} {hF : zY → Nat → zH} {C : String} {H : Heap} {locs : List Loc} (O : zOg X Y cc own) (hMk : zMk y b nL rm ci cnt sl kl hF C N) (hcl : Cond.classLink own i1 C ∈ zTW) (hln : zLn X own i2 y) (d1 : decode cc pc = .ok (.new i1, 3)) (d2 : decode cc (pc + 3) = .ok (.dup, 1)) (d3 : decode cc (pc + 4) = .ok (.invokespecial i2, 3))
    (hr : rm.frames + 1 ≤ (xR X).frames ∧ 8 + (nL + 11) + rm.locals ≤ (xR X).locals) (hu : u + cnt ≤ (xR X).cells) (hv : v + N + sl ≤ (xR X).slots) (hsz : ls.size = (xC X).maxLocals) (hst : (st.map fun v => v.category).sum ≤ 7) (hkd : ∀ i, i < cnt → yK Y (n + i) = kl.getD i (0, 0)) (hn : H.size = n) (hyn : yO Y ≤ n) (hS : va_S A (xS X).heap H locs) (hA : ∀ q, n ≤ q → A q) (hAy : ∀ q, A q → yO Y ≤ q)
    (hk : ∀ (H1 : Heap) (locs1 : List Loc), H1.size = n + cnt → (∀ q, n ≤ q → q < n + cnt → zRa Y (hF Y n) H1 q) → (∀ q : Nat, q < n → H1[q]? = H[q]?) → va_S A (xS X).heap H1 locs1 → zW X H1 locs1 (u + cnt) (v + N + sl) (F0 (xM X) (pc + 7) ls (.ref n :: st))) : zW X H locs u v (F0 (xM X) pc ls st) := by
  obtain ⟨hM, ⟨T, ty, hc, hdv⟩, ⟨hinst, hini⟩, ⟨hy1, hy2, hyi, hyc⟩, hB, hrc, hrs, hc1⟩ := hMk
  obtain ⟨o1, o2, o3, hts, hK, hZ, hAO, hlo⟩ := O
  have hKn := hK.1 ci _ hc.1
  refine W.newcK o1 o2 o3 (hts _ hcl) (hts _ hinst) (hts _ hini) rfl d1 (by omega) (by omega) hKn.2.1 hn fun H1 kC hkC e1 z1 oo1 => ?_
  refine lv_dup o1 o2 d2 rfl ?_
  have hS1 : va_S A (xS X).heap H1 locs := ⟨by rw [z1]; have := hS.1; omega, fun q q1 q2 => (oo1 q (by have := hS.1; omega)).trans (hS.2.1 q q1 q2), hS.2.2⟩
  have hob : zob Y ci n H1 (zdf ci) := ⟨_, hc.1, (u_born ty hts hc.2.1 hKn hkC e1 hc.2.2.1).to (fun j hj => hdv j hj)⟩
  have hini2 : Cond.initialized y.cls ∈ zTW := by rw [hy2]; exact hini
  have hp : PreS (xS X) H1 (zPi Y ci n) (.ref n :: []) := ⟨zPi_blind, fun U hU hW => by
    refine ⟨rfl, by rw [hU]; exact z1, by rw [hU]; exact hob, va_K.moved hW.alike hK, ?_, ⟨hAO.1.moved hW.alike, hAO.2.moved hW.alike⟩, hyn⟩
    rw [hU]
    exact zS_moved hW hlo (fun q hq => hS1.2.1 q (by omega) (fun z => absurd (hAy q z) (by omega))) hZ⟩
  have hst2 : ((Value.ref n :: st).map fun v => v.category).sum ≤ 8 := by
    simp only [List.map_cons, List.sum_cons]
    have : (Value.ref n).category = 1 := rfl
    omega
  have kk : ∀ (H2 : Heap) (locs2 : List Loc), H2.size = n + cnt → (∀ q, n ≤ q → q < n + cnt → zRa Y (hF Y n) H2 q) → (∀ q : Nat, q < n → H2[q]? = H1[q]?) → va_S A (xS X).heap H2 locs2 → W X.1 X.2.1 X.2.2.1 (xR X) (xS X) (xM X) (xA X) (xB X) (xH X) (xC X) H2 locs2 (u + 1 + (cnt - 1)) (v + N + sl) (xQ X) (F0 (xM X) (pc + 4 + 3) ls (.ref n :: st)) := fun H2 locs2 g1 g2 g3 g4 => by
    have e5 : u + 1 + (cnt - 1) = u + cnt := by omega
    rw [e5]
    exact hk H2 locs2 g1 g2 (fun q hq => (g3 q hq).trans (oo1 q hq)) g4
  rcases hln with hl | ⟨host, hl⟩
  · exact cq_call (rest := .ref n :: st) (va_runI (Ts := zTW) (b := n) (As := []) (y := y) ⟨o1, o2, rfl, o3, hts⟩ (hM X.2.1 Y n hkd) ⟨callB_of 0 hts (zGood hyc) rfl hrc hrs (hts _ hini2) (hts _ hl) hB ⟨hr.1, hr.2⟩, hy1, hts _ hyi⟩ hp rfl rfl hsz rfl (lv_room hst2) d3 ⟨by omega, by omega⟩) hS1 z1 hA kk
  · exact cq_call (rest := .ref n :: st) (va_runIN (Ts := zTW) (b := n) (As := []) (y := y) ⟨o1, o2, rfl, o3, hts⟩ (hM X.2.1 Y n hkd) ⟨va_cnB 0 hts (zGood hyc) rfl hrc hrs (hZ.1 _ hl) (hts _ hini2) hB ⟨hr.1, hr.2⟩, hy1, hts _ hyi⟩ hp rfl rfl hsz rfl (lv_room hst2) d3 ⟨by omega, by omega⟩) hS1 z1 hA kk
theorem cr_mk {y : MethodName} {b : ByteArray} {nL ci cnt sl i1 i2 N ca a : Nat} {rm : Room} {kl : List (Nat × Nat)} {C : String} {w : Nat × Cell} {f : Nat → Value} (O : zOc X Y cc own a) (hMk : zMk y b nL rm ci cnt sl kl (fun Y _ => zh0 Y) C N) (hcl : Cond.classLink own i1 C ∈ zTW) (hln : zLn X own i2 y) (d1 : decode cc pc = .ok (.new i1, 3)) (d2 : decode cc (pc + 3) = .ok (.dup, 1)) (d3 : decode cc (pc + 4) = .ok (.invokespecial i2, 3))
    (hr : rm.frames + 1 ≤ (xR X).frames ∧ 8 + (nL + 11) + rm.locals ≤ (xR X).locals) (hu : u + cnt ≤ (xR X).cells) (hv : v + N + sl ≤ (xR X).slots) (hsz : ls.size = (xC X).maxLocals) (hst : (st.map fun v => v.category).sum ≤ 7) (hkd : ∀ i, i < cnt → yK Y (n + i) = kl.getD i (0, 0)) (hk : zSc X Y ca a w (u + cnt) (v + N + sl) (pc + 7) (n + cnt) f ls (.ref n :: st)) : zSc X Y ca a w u v pc n f ls st := by
  intro H locs hC
  obtain ⟨hs, hob, hreg, hS, han, hw⟩ := hC
  refine cq_mk O.1 hMk hcl hln d1 d2 d3 hr hu hv hsz hst hkd hs (by have := O.2.2; omega) hS (fun q hq => by show a ≤ q; omega) (fun q hq => Nat.le_trans O.2.2 hq) (fun H1 locs1 g1 g2 g3 g4 => hk H1 locs1 ⟨g1, zob_kept hob (g3 a han), fun q q1 q2 q3 => ?_, g4, by omega, fun z => ?_⟩)
  · by_cases e : q < n
    · exact zRa_congr (hreg q q1 e q3) (g3 q e) rfl rfl rfl
    · exact g2 q (by omega) q2
  · obtain ⟨w1, w2, w3⟩ := hw z
    exact ⟨w1, by omega, by rw [g3 _ w2]; exact w3⟩
end ZE
theorem zCt_of {y : MethodName} {b : ByteArray} {nL ci cnt sl : Nat} {rm : Room} {kl : List (Nat × Nat)} {hF : zY → Nat → zH} (hy : plainName y.cls = true) (hyn : y.name = "<init>") (hnL : 1 ≤ nL)
    (hb : ∀ (X : zX) (Y : zY) (a : Nat) (ls : Array Slot), (∀ i, i < cnt → yK Y (a + i) = kl.getD i (0, 0)) → zOc X Y b y.cls a → xR X = rm → (xH X).sig.returnType = none → (xH X).locks = false → xQ X = MQ (xB X) (zQi Y a cnt (hF Y a)) (xA X) (xS X) (cnt - 1) sl (fun q => a ≤ q) → (xC X).maxLocals = nL → (xS X).heap.size = a + 1 → lv_has ls nL [(0, .ref a)] → ∃ cl : Cell, zSc X Y ci a (a, cl) 0 0 0 (a + 1) (zdf ci) ls []) : zCt y b nL rm ci cnt sl kl hF := by
  intro l Y a hkd
  refine Met.ofW (cc := b) (maxL := nL) (ret := none) hy rfl ?_
  intro p e s m args below meth cd s₁ B hml hv
  obtain ⟨rfl, hsz, hob, hK, hZ, hAO, hlo⟩ := hv
  have hts := atoms_spec (ws := .code y b nL none :: zTW) B.pre
  have hl := lv_entry [.ref a] (n := nL) (by show 1 ≤ nL; exact hnL)
  have hnm : meth.name = y.name := (name_of_methodNamed B.named B.method).1
  have e0 : (#[.ref a] : Array Value) = ([.ref a] : List Value).toArray := rfl
  rw [e0, lg_entry_eq]
  generalize (lg_sl ([.ref a]) ++ List.replicate (nL - (lg_sl ([.ref a])).length) Slot.unset).toArray = ls at hl ⊢
  have hl : lv_has ls nL [(0, .ref a)] := hl
  obtain ⟨cl, hs⟩ := hb (p, l, e, rm, s, m, #[.ref a], below, meth, cd, MQ below (zQi Y a cnt (hF Y a)) #[.ref a] s (cnt - 1) sl (fun q => a ≤ q)) Y a ls hkd ⟨⟨B.exec, B.bytes, findClass_of_methodNamed B.named, fun w hw => hts w (List.mem_cons_of_mem _ hw), hK, hZ, hAO, by show yO Y ≤ s.heap.size; omega⟩, by show meth.name = _; rw [hnm, hyn], hlo⟩ rfl B.returns B.notSynchronized rfl hml hsz hl
  exact hs s.heap [] ⟨hsz, hob, fun q q1 q2 _ => by omega, va_S.rf, by omega, fun z => absurd rfl z⟩

