/-! the law: its end, its loop -/
/-! THE CLAIM OUT OF ONE WALK OF THE LAW'S BODY. Your part is whole_start (and what it stands on); all else here is the same for every law, but numbers. -/
def R_law : String := "SlipSecretLaw"
def lw_P (b : Addr) (xs : List Int32) (args : Array Value) (s : State) : Prop := args = #[.ref b] ∧ s.IntsAt b xs ∧ xs.length ≤ 3072 ∧ (Jvm.Cond.and given_1 narrow_1).before args s = true
def lw_Q (_ : Array Value) (s : State) (o : Outcome) (t : State) : Prop := o = .returned (some (.int 1)) ∧ Framed s o t [] 601024 7293033
def lw_Z (below : List Frame) (a : Array Value) (s : State) : State → Prop := fun t => ∃ o, t.status = .running ∧ Ended t below o ∧ lw_Q a s o t
/-- the law's own end, with 1 on the stack, nothing written that was there before, its room as the claim has it -/
theorem lw_ret {p : Program} {l : Launch} {e : Env} {s : State} {m : MethodId} {below : List Frame} {meth : Method} {c : Code} {b : Nat} (hx : p.tables.exec = Jvm.exec) (hb : c.code = code) (hr : meth.sig.returnType = ret) (hlocks : meth.locks = false) {pc : Nat} {H : Heap} {ls : Array Slot} (hdg : decode code pc = .ok (.ireturn, 1)) : W p l e room_1 s m #[Value.ref b] below meth c H [] 601024 7293033 (lw_Z below #[Value.ref b] s) (F0 m pc ls [.int 1]) := by
  intro T hT X
  obtain ⟨fs, hret, hrun, hended, hW, hframe⟩ := X.leave (v := some (.int 1)) (hlocks := hlocks) (fun h => by rw [hr] at h; cases h)
  have hmeth' : T.vm.method? m = some meth := X.method'
  refine ⟨T.setFrames fs, ?_, .returned (some (.int 1)), hrun, hended, rfl, ⟨_, rfl⟩, hW, hframe⟩
  jvm_step X.here [X.here.top, hx, hb, hdg, hmeth', hr, ret, narrow_b1]
  (try refine ⟨rfl, ?_⟩); (try refine ⟨rfl, ?_⟩)
  first | (intro acts; rw [hret _ acts rfl rfl rfl]) | rw [hret _ _ rfl rfl rfl]
  exact Steps.refl _
/-- what holds at the law's entry: the machine, the code, the tables' words (any of lw_tbl by 'hts w (by decide +kernel)'), the script of L ints xs at the cell b, what the Statement gives of the start (any of its parts by flat_of_before) -/
def lw_At (p : Program) (s : State) (m : MethodId) (meth : Method) (c : Code) (b L : Nat) (xs : Nat → Int32) : Prop :=
  p.tables.exec = Jvm.exec ∧ c.code = code ∧ meth.sig.returnType = ret ∧ c.maxLocals = 8 ∧ s.vm.findClass R_law = some m.cls ∧ (∀ w ∈ lw_tbl, w.before #[Value.ref b] s = true) ∧ va_X b L xs s s.heap ∧ b < s.heap.size ∧ meth.locks = false ∧ (Jvm.Cond.and given_1 narrow_1).before #[Value.ref b] s = true
theorem lsub6 {L : Nat} (h : L ≤ 3072) : (nI L - nI 6 : Int32).toInt = (L : Int) - 6 := by
  have h1 := nI_toInt (n := L) (by omega)
  have h2 := nI_toInt (n := 6) (by omega)
  rw [Int32.toInt_sub, h1, h2]
  rw [Int.bmod_eq_of_le (by omega) (by omega)]
  rfl
section LW
variable {X : zX} {Y : zY} {b L x : Nat} {xs : Nat → Int32} {kd : Nat × Nat}
/-- the law's end -/
theorem zr_law {u v pc : Nat} {b0 : Nat} {sA : State} {below : List Frame} (O : zOK X Y code RL) (hA : xA X = #[Value.ref b0]) (hQ : xQ X = lw_Z (xB X) #[Value.ref b0] (xS X)) (hrt : (xH X).sig.returnType = ret) (hlk : (xH X).locks = false) (hR : xR X = room_1) (hy : (xS X).heap.size ≤ yO Y) (hu : u ≤ 601024) (hv : v ≤ 7293033) (d : decode code pc = .ok (.ireturn, 1)) : zSd X Y u v pc (fun _ st _ => st = [.inl 1]) := by
  intro ls st h t H locs lsA hR1 hL hst hS
  subst t
  unfold zW
  rw [hQ, hA, hR]
  refine va_forget (fun q hq => ?_) (W.widen hu hv (lw_ret O.1 O.2.1 hrt hlk d))
  rcases hS.2.2 q hq with z | z
  · exact Nat.le_trans hy (O.2.2.2.2.2.2.1.2.1 _ z)
  · exact z
/-- the law's loop -/
theorem lw_loop {u0 v0 b0 : Nat} (O : zOK X Y code RL) (hst : X.2.1.stackTraces = false) (S : zSx X Y b L xs) (hA : xA X = #[Value.ref b0]) (hQ : xQ X = lw_Z (xB X) #[Value.ref b0] (xS X)) (hrt : (xH X).sig.returnType = ret) (hlk : (xH X).locks = false) (hR : xR X = room_1) (hy : (xS X).heap.size ≤ yO Y) (hu0 : u0 + 2560 ≤ 601024) (hv0 : v0 + 15360 ≤ 7293033) :
    ∀ (m i : Nat), 512 - i = m → i ≤ 512 → 6 * i ≤ L → zSd X Y (u0 + 5 * i) (v0 + 30 * i) 23 (LI x (kd, b) i) := by
  intro m
  have hL3 := S.2.2.2
  induction m with
  | zero =>
    intro i hm hi hL
    have e : i = 512 := by omega
    subst e
    have B_1997 := zr_iconst (X := X) (Y := Y) (u := u0 + 5 * 512) (v := v0 + 30 * 512) (x := 1) O dL_law_1997 rfl (zr_law (sA := xS X) (below := xB X) O hA hQ hrt hlk hR hy (by omega) (by omega) dL_law_1998)
    have B_23 := zr_iload (X := X) (Y := Y) (u := u0 + 5 * 512) (v := v0 + 30 * 512) O dL_law_23 (zr_aload_n O dL_law_25 rfl (zr_sn O S dL_law_26 (zr_bipush (x := nI 6) O dL_law_27 (by decide) (zr_isub O dL_law_29 (zr_icgt (tgt := 1997) O dL_law_30 rfl B_1997 (zr_dead (pc := 33)))))))
    refine zSd_weak B_23 ?_
    rintro ls st h ⟨w5, w6, w7, rfl, rfl, hJ⟩
    refine ⟨rfl, fun _ => rfl, fun z => z ?_⟩
    have e1 : (nI L - nI 6 : Int32).toInt = (L : Int) - 6 := lsub6 hL3
    refine (fa_lt _ _).mpr ?_
    rw [e1, nI_toInt (by omega)]
    omega
  | succ m ih =>
    intro i hm hi hL
    have e1 : (nI L - nI 6 : Int32).toInt = (L : Int) - 6 := lsub6 hL3
    have hcmp : (nI L - nI 6 < nI (6 * i)) ↔ (L : Int) - 6 < (6 * i : Nat) := by
      rw [fa_lt, e1, nI_toInt (by omega)]
    by_cases hend : L < 6 * i + 6
    · have B_1997 := zr_iconst (X := X) (Y := Y) (u := u0 + 5 * i) (v := v0 + 30 * i) (x := 1) O dL_law_1997 rfl (zr_law (sA := xS X) (below := xB X) O hA hQ hrt hlk hR hy (by omega) (by omega) dL_law_1998)
      have B_23 := zr_iload (X := X) (Y := Y) (u := u0 + 5 * i) (v := v0 + 30 * i) O dL_law_23 (zr_aload_n O dL_law_25 rfl (zr_sn O S dL_law_26 (zr_bipush (x := nI 6) O dL_law_27 (by decide) (zr_isub O dL_law_29 (zr_icgt (tgt := 1997) O dL_law_30 rfl B_1997 (zr_dead (pc := 33)))))))
      refine zSd_weak B_23 ?_
      rintro ls st h ⟨w5, w6, w7, rfl, rfl, hJ⟩
      exact ⟨rfl, fun _ => rfl, fun z => z (hcmp.mpr (by omega))⟩
    · have hO : LO X Y b L xs (u0 + 5 * i) (v0 + 30 * i) i := ⟨O, hst, S, hR, by omega, by omega, by omega⟩
      have hn := ih (i + 1) (by omega) (by omega) (by omega)
      have B_1991 : zSd X Y (u0 + 5 * i + 5) (v0 + 30 * i + 30) 1991 (LI x (kd, b) i) := by
        rw [show u0 + 5 * (i + 1) = u0 + 5 * i + 5 by omega, show v0 + 30 * (i + 1) = v0 + 30 * i + 30 by omega] at hn
        have B := zr_iinc (X := X) (Y := Y) (u := u0 + 5 * i + 5) (v := v0 + 30 * i + 30) (c := nI 6) O dL_law_1991 (by decide) (zr_goto (tgt := 23) O dL_law_1994 rfl hn)
        refine zSd_weak B ?_
        rintro ls st h ⟨w5, w6, w7, rfl, rfl, hJ⟩
        refine ⟨w5, w6, w7, ?_, rfl, hJ⟩
        rw [show 6 * (i + 1) = 6 * i + 6 by omega, ← nI_add]
      have B_40 := zr_switch2 (X := X) (Y := Y) (u := u0 + 5 * i) (v := v0 + 30 * i) (tgt := 1991) (ks := [_, _, _, _, _, _, _, _, _, _, _, _, _, _, _, _, _, _, _, _, _, _, _, _, _, _, _, _, _, _, _, _]) O dL_law_40 rfl rfl (zSd_more B_1991 (by omega) (by omega)) ⟨⟨_, 184, rfl, rfl, lc_feed hO B_1991⟩, ⟨_, 257, rfl, rfl, lc_text hO B_1991⟩, ⟨_, 313, rfl, rfl, lc_fault hO B_1991⟩, ⟨_, 326, rfl, rfl, lc_set hO B_1991⟩, ⟨_, 394, rfl, rfl, lc_wear hO B_1991⟩, ⟨_, 474, rfl, rfl, lc_enrol hO B_1991⟩, ⟨_, 530, rfl, rfl, lc_hear hO B_1991⟩, ⟨_, 586, rfl, rfl, lc_train hO B_1991⟩, ⟨_, 642, rfl, rfl, lc_turn hO B_1991⟩, ⟨_, 698, rfl, rfl, lc_undo hO B_1991⟩, ⟨_, 711, rfl, rfl, lc_told hO B_1991⟩, ⟨_, 767, rfl, rfl, lc_ring hO B_1991⟩, ⟨_, 835, rfl, rfl, lc_speed hO B_1991⟩, ⟨_, 903, rfl, rfl, lc_rank hO B_1991⟩, ⟨_, 971, rfl, rfl, lc_pair hO B_1991⟩, ⟨_, 1039, rfl, rfl, lc_bit hO B_1991⟩, ⟨_, 1107, rfl, rfl, lc_flips hO B_1991⟩, ⟨_, 1175, rfl, rfl, lc_odds hO B_1991⟩, ⟨_, 1271, rfl, rfl, lc_block hO B_1991⟩, ⟨_, 1339, rfl, rfl, lc_recover hO B_1991⟩, ⟨_, 1419, rfl, rfl, lc_fails hO B_1991⟩, ⟨_, 1511, rfl, rfl, lc_safe hO B_1991⟩, ⟨_, 1579, rfl, rfl, lc_range hO B_1991⟩, ⟨_, 1635, rfl, rfl, lc_guardFor hO B_1991⟩, ⟨_, 1691, rfl, rfl, lc_ways hO B_1991⟩, ⟨_, 1746, rfl, rfl, lc_leak hO B_1991⟩, ⟨_, 1802, rfl, rfl, lc_success hO B_1991⟩, ⟨_, 1858, rfl, rfl, lc_curve hO B_1991⟩, ⟨_, 1926, rfl, rfl, lc_nextPair hO B_1991⟩, ⟨_, 1939, rfl, rfl, lc_needs hO B_1991⟩, ⟨_, 1952, rfl, rfl, lc_print hO B_1991⟩, ⟨_, 1966, rfl, rfl, lc_status hO B_1991⟩, trivial⟩
      have B_23 := zr_iload (X := X) (Y := Y) (u := u0 + 5 * i) (v := v0 + 30 * i) O dL_law_23 (zr_aload_n O dL_law_25 rfl (zr_sn O S dL_law_26 (zr_bipush (x := nI 6) O dL_law_27 (by decide) (zr_isub O dL_law_29 (zr_icgt (tgt := 1997) O dL_law_30 rfl (zr_dead (pc := 1997)) (zr_aload_n O dL_law_33 rfl (zr_iload O dL_law_34 (zr_sl O S dL_law_36 (zr_bipush (x := 31) O dL_law_37 (by decide) (zr_iand O dL_law_39 B_40))))))))))
      refine zSd_weak B_23 ?_
      rintro ls st h ⟨w5, w6, w7, rfl, rfl, hJ⟩
      have hI : LI x (kd, b) i [some (.inr (.inr (kd, b))), some (vR 19 0 x), some (vR 20 0 (x + 229)), some (vR 3 1 (x + 247)), some (vI (nI (6 * i))), w5, w6, w7] [] h := ⟨w5, w6, w7, rfl, rfl, hJ⟩
      refine ⟨rfl, fun z => absurd (hcmp.mp z) (by omega), fun _ => ⟨rfl, 6 * i, rfl, by omega, ?_⟩⟩
      exact zsw_of ⟨fun _ => hI, fun _ => hI, fun _ => hI, fun _ => hI, fun _ => hI, fun _ => hI, fun _ => hI, fun _ => hI, fun _ => hI, fun _ => hI, fun _ => hI, fun _ => hI, fun _ => hI, fun _ => hI, fun _ => hI, fun _ => hI, fun _ => hI, fun _ => hI, fun _ => hI, fun _ => hI, fun _ => hI, fun _ => hI, fun _ => hI, fun _ => hI, fun _ => hI, fun _ => hI, fun _ => hI, fun _ => hI, fun _ => hI, fun _ => hI, fun _ => hI, fun _ => hI, trivial⟩ (fun _ => hI)
end LW

