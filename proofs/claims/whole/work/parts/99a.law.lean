/-! the law's body: rows for the script, for the wrappers, and its end -/
/-- the script: its cell, its length, its ints; the cell is never written -/
def zSx (X : zX) (Y : zY) (b L : Nat) (xs : Nat → Int32) : Prop := va_X b L xs (xS X) (xS X).heap ∧ b < (xS X).heap.size ∧ ¬ zA Y (xS X).heap.size b ∧ L ≤ 3072
def zi_sl (b L : Nat) (xs : Nat → Int32) (k : zT) : zT := fun ls st h => match st with
  | .inl i :: .inr (.inr (_, a)) :: st' => a = b ∧ ∃ j : Nat, i = nI j ∧ j < L ∧ k ls (.inl (xs j) :: st') h
  | _ => False
def zi_sn (b L : Nat) (k : zT) : zT := fun ls st h => match st with
  | .inr (.inr (_, a)) :: st' => a = b ∧ k ls (.inl (nI L) :: st') h
  | _ => False
section ZLW
variable {X : zX} {Y : zY} {u v pc b L : Nat} {xs : Nat → Int32} {cc : ByteArray} {own : String} {k : zT}
theorem zr_sl (O : zOK X Y cc own) (S : zSx X Y b L xs) (d : decode cc pc = .ok (.iaload, 1)) (hk : zSd X Y u v (pc + 1) k) : zSd X Y u v pc (zi_sl b L xs k) := by
  intro ls st h t H locs lsA hR hL hv hS
  rcases st with _ | ⟨i | _, _ | ⟨_ | _ | ⟨kd, a⟩, st⟩⟩ <;> first | exact False.elim t | skip
  obtain ⟨rfl, j, rfl, hj, t⟩ := t
  have hL2 := S.2.2.2
  refine va_sld O.1 O.2.1 S.1 S.2.1 S.2.2.1 hS (nI_in hj (by omega)) d ?_
  rw [nI_clamp (by omega)]
  exact hk _ _ _ t H locs lsA hR hL (zqc trivial (zq2 hv)) hS
theorem zr_sn (O : zOK X Y cc own) (S : zSx X Y b L xs) (d : decode cc pc = .ok (.arraylength, 1)) (hk : zSd X Y u v (pc + 1) k) : zSd X Y u v pc (zi_sn b L k) := by
  intro ls st h t H locs lsA hR hL hv hS
  rcases st with _ | ⟨_ | _ | ⟨kd, a⟩, st⟩ <;> first | exact False.elim t | skip
  obtain ⟨rfl, t⟩ := t
  exact va_slen O.1 O.2.1 S.1 S.2.1 S.2.2.1 hS d (hk _ _ _ t H locs lsA hR hL (zqc trivial (zq1 hv).2) hS)
theorem zr_dead : zSd X Y u v pc (fun _ _ _ => False) := fun _ _ _ t => t.elim
/-- a wrapper's words -/
def zBw (y : MethodName) (b : ByteArray) (nL : Nat) (hh : List (Nat × Nat × Nat × Nat)) (n : Nat) : Prop := Cond.codeWith y b nL (some .int) hh ∈ zTW ∧ Cond.initialized y.cls ∈ zTW ∧ Cond.static y ∈ zTW ∧ (y.cls ≠ "java/lang/invoke/MethodHandle" ∧ y.cls ≠ "java/lang/invoke/VarHandle" ∧ (parseMethodDescriptor y.desc).map (fun d => d.parameters.length) = some n)
theorem zr_cW {α : Type} {c : zC α} {y : MethodName} {b : ByteArray} {nLy idx n u' v' : Nat} {hh : List (Nat × Nat × Nat × Nat)} {rm : Room} (O : zOK X Y cc own) (hst : X.2.1.stackTraces = false) (hM : zMw y b nLy hh rm c) (hB : zBw y b nLy hh n) (hl : Cond.methodLink own idx y ∈ zTW)
    (hr : rm.frames + 1 ≤ (xR X).frames ∧ 8 + (nLy + 11) + rm.locals ≤ (xR X).locals ∧ u' ≤ (xR X).cells ∧ v' ≤ (xR X).slots) (hu : u + rm.cells ≤ u') (hv' : v + rm.slots ≤ v') (d : decode cc pc = .ok (.invokestatic idx, 3)) (hk : zSd X Y u' v' (pc + 3) k) : zSd X Y u v pc (zi_c' n c k) := by
  intro ls st h t H locs lsA hR hL hv hS
  obtain ⟨bs, st', rfl, hbs, t⟩ := zpop_spec _ _ _ _ t
  obtain ⟨b8, x, hx, hP, t⟩ := zcond t
  have hb8 := Nat.le_of_ble_eq_true b8
  rw [List.append_nil] at hx
  have hbs2 : bs = (c.1 x).reverse := by rw [← hx, List.reverse_reverse]
  have hAn : (c.1 x).length = n := by rw [← hx, List.length_reverse]; exact hbs
  have hok : ∀ q ∈ c.1 x, zok Y q := fun q hq => hv q (List.mem_append_left _ (by rw [← hx] at hq; exact List.mem_reverse.mp hq))
  have hts := O.2.2.2.1
  have hgood : GoodIn zTW (.codeWith y b nLy (some .int) hh :: zTW) := zGood hB.1
  have hcw : vx_CSW (xR X) (xS X) (xA X) own idx y b nLy (some .int) hh (.codeWith y b nLy (some .int) hh :: zTW) rm rm.cells rm.slots n := by
    refine ⟨⟨rfl, rfl, hr.1, hr.2.1, pay_in hts hgood, List.mem_cons_self⟩, hts _ hB.1, hts _ hB.2.1, ⟨hB.2.2.2.1, hB.2.2.2.2.1⟩, fun sig hsig => ?_, hts _ hl, hts _ hB.2.2.1⟩
    have h2 := hB.2.2.2.2.2
    rw [hsig] at h2
    exact (Option.some.inj h2).symm
  refine zq_callX (Y := Y) (F := c.2.2 x h) (D := zNX) (mc := rm.cells) (ms := rm.slots) (a := ((c.1 x).map zv).toArray) (rest := st'.map zv) (vx_runSX (Ts := zTW) (As := (c.1 x).map zv) ⟨O.1, O.2.1, rfl, O.2.2.1, hts⟩ (hM X.2.1 Y H.size x h hst O.2.2.2.2.2.2.1 hok hP) hcw ⟨zPc_blind, fun U hU hW => zpre O hR hS U hU hW⟩ rfl (by simp [hAn]) hL.1.1 (by rw [hbs2]; simp [zv]) (lv_room (by rw [zw_sum]; exact hb8)) d ⟨Nat.le_trans hu hr.2.2.1, Nat.le_trans hv' hr.2.2.2⟩) hS (fun E ce q9 h' H1 locs1 hD hR1 hS1 c1 c2 c3 => hD.elim) (fun r h' H1 locs1 hF hrok hR1 hS1 => ?_)
  rw [zpush_map]
  refine W.widen hu hv' (hk _ _ _ (t r h' hF) H1 locs1 lsA hR1 hL (fun q hq => ?_) hS1)
  cases r with
  | none => exact hv q (List.mem_append_right _ hq)
  | some w => exact (List.mem_cons.mp hq).elim (fun e => e ▸ hrok w rfl) (fun z => hv q (List.mem_append_right _ z))
end ZLW
/-- the law's locals between two calls -/
def LI (x : Nat) (kb : (Nat × Nat) × Nat) (i : Nat) : zT := fun ls st h => ∃ w5 w6 w7 : Option zV, ls = [some (.inr (.inr kb)), some (vR 19 0 x), some (vR 20 0 (x + 229)), some (vR 3 1 (x + 247)), some (vI (nI (6 * i))), w5, w6, w7] ∧ st = [] ∧ JE x h
/-- what a case of the law stands on -/
def LO (X : zX) (Y : zY) (b L : Nat) (xs : Nat → Int32) (u v i : Nat) : Prop := zOK X Y code RL ∧ X.2.1.stackTraces = false ∧ zSx X Y b L xs ∧ xR X = room_1 ∧ 6 * i + 6 ≤ L ∧ u + 5 ≤ 601024 ∧ v + 30 ≤ 7293033
theorem zrLw {X : zX} {a b u v : Nat} (hR : xR X = room_1) (h1 : Nat.ble a 2048 = true) (h2 : Nat.ble b 84000 = true) (h3 : u ≤ 601024) (h4 : v ≤ 7293033) : a ≤ (xR X).frames ∧ b ≤ (xR X).locals ∧ u ≤ (xR X).cells ∧ v ≤ (xR X).slots := by
  rw [hR]
  exact ⟨Nat.le_of_ble_eq_true h1, Nat.le_of_ble_eq_true h2, h3, h4⟩
theorem si_ (i k : Nat) : nI (6 * i) + nI k = nI (6 * i + k) := nI_add _ _
theorem lg_eq {x y : Int64} (h : x = y) : lg_cmp x y = 0 := by
  subst h
  unfold lg_cmp
  rw [if_neg (fun z => Int64.lt_irrefl z), if_pos rfl]

