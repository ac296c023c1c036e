/-! the law's beginning: the first state, and the whole walk -/
theorem tv_26 : Cond.classLink RL 8 RX10 ∈ zTW := zmem1 26 rfl rfl
theorem tv_1178 : Cond.classLink RL 97 RX11 ∈ zTW := zmem5 218 rfl rfl
theorem LL_9 : ∀ i, i < 229 → LL.getD i (0, 0) = kl_9.getD i (0, 0) := by decide +kernel
theorem LL_10 : ∀ i, i < 18 → LL.getD (229 + i) (0, 0) = kl_10.getD i (0, 0) := by decide +kernel
theorem LL_o : LL.getD 247 (0, 0) = (3, 1) := by decide +kernel
theorem LL_s : LL.getD 0 (0, 0) = (19, 0) ∧ LL.getD 2 (0, 0) = (15, 0) ∧ LL.getD 8 (0, 0) = (1, 5) ∧ LL.getD 9 (0, 0) = (10, 0) ∧ LL.getD 11 (0, 0) = (12, 0) ∧ LL.getD 13 (0, 0) = (1, 10) ∧ LL.getD 14 (0, 0) = (4, 12) ∧ LL.getD 171 (0, 0) = (17, 0) ∧ LL.getD 193 (0, 0) = (5, 17) ∧ LL.getD 229 (0, 0) = (20, 0) ∧ LL.getD 230 (0, 0) = (1, 3) ∧ LL.getD 231 (0, 0) = (1, 218) := by decide +kernel
theorem zRa_none {Y : zY} {h : zH} {H : Heap} {q : Nat} (hq : (yK Y q).1 = 0 ∨ (yK Y q).1 = 6 ∨ (yK Y q).1 = 7 ∨ (yK Y q).1 = 8) : zRa Y h H q := by
  refine ⟨fun m hm => ?_, fun m hm => ?_, fun m hm => ?_, fun m hm => ?_, fun m hm => ?_, fun cj m hm => ?_⟩
  all_goals
    rw [hm] at hq
    simp only at hq
    omega
theorem J_0 {Y : zY} {x : Nat} (hk : ∀ i, yK Y (x + i) = LL.getD i (0, 0)) : JJ x ((dE, eZ, gZ), fun _ => (dE, eZ, gZ), 0, 0, 0, fun j => j + 1) 0 (zsW (zh0 Y) (x + 231) clr) := by
  obtain ⟨l0, l2, l8, l9, l11, l13, l14, l171, l193, l229, l230, l231⟩ := LL_s
  have hr : ∀ i kd, LL.getD i (0, 0) = kd → i ≠ 231 → (zsW (zh0 Y) (x + 231) clr).1 (x + i) = iw kd := fun i kd e hi => by
    rw [zsW_n _ _ (by omega)]
    show iw (yK Y (x + i)) = iw kd
    rw [hk i, e]
  have hq : ∀ i kd, LL.getD i (0, 0) = kd → (zsW (zh0 Y) (x + 231) clr).2.2 (x + i) = rwz kd.1 (x + i) := fun i kd e => by
    show rwz (yK Y (x + i)).1 (x + i) = _
    rw [hk i, e]
  have r0 := hr 0 _ l0 (by omega)
  have r2 := hr 2 _ l2 (by omega)
  have r8 := hr 8 _ l8 (by omega)
  have r9 := hr 9 _ l9 (by omega)
  have r11 := hr 11 _ l11 (by omega)
  have r13 := hr 13 _ l13 (by omega)
  have r171 := hr 171 _ l171 (by omega)
  have r229 := hr 229 _ l229 (by omega)
  have r230 := hr 230 _ l230 (by omega)
  have r231 : (zsW (zh0 Y) (x + 231) clr).1 (x + 231) = clr := zsW_s _ _ _
  have q0 := hq 0 _ l0
  have q14 := hq 14 _ l14
  have q193 := hq 193 _ l193
  generalize zsW (zh0 Y) (x + 231) clr = h at *
  refine ⟨⟨⟨?_, by decide⟩, fun j hj => ⟨?_, by show j + 1 < 13; omega, by show j + 1 ≠ 0; omega⟩, fun i j hi hj e => by have e : i + 1 = j + 1 := e; omega, ⟨?_, by decide⟩, ⟨?_, by decide⟩, ?_, fun i hi => absurd hi (Nat.not_lt_zero _)⟩, ⟨?_, ?_, ?_, ⟨?_, by decide⟩, fun i hi => absurd hi (Nat.not_lt_zero _)⟩, ⟨⟨vS_dE, fun i hi => absurd hi (Nat.not_lt_zero _), fun i j hi => absurd hi (Nat.not_lt_zero _), fun i hi => absurd hi (Nat.not_lt_zero _)⟩, fun i hi => absurd hi (Nat.not_lt_zero _)⟩, ⟨?_, by decide, ?_, fun j hj => absurd hj (Nat.not_lt_zero _)⟩, ?_, fun j hj => ?_, fun k hk => ?_⟩
  · rw [show x = x + 0 by omega, q0]; rfl
  · rw [q14]
    show x + 14 + 1 + 13 * j = stA x (j + 1)
    unfold stA
    rw [if_neg (by omega)]
    omega
  · rw [show x = x + 0 by omega, r0]; rfl
  · rw [show x = x + 0 by omega, r0]; rfl
  · have es : stA x 0 = x + 1 := rfl
    rw [es]
    refine ⟨⟨⟨?_, by decide⟩, ⟨?_, by decide⟩, fun r hr => absurd hr (Nat.not_lt_zero _), fun r hr => absurd hr (Nat.not_lt_zero _), fun k hk => ?_⟩, ⟨?_, vE_eZ, fun z => absurd z (Nat.lt_irrefl _)⟩, ⟨?_, by decide⟩, fun i hi => absurd hi (Nat.not_lt_zero _), ⟨0, 0, ?_, ?_, by decide, by decide, fun p _ => ?_, fun p _ z => ?_⟩, fun r hr => ?_⟩
    · show h.1 (x + 2) 0 = _; rw [r2]; rfl
    · show h.1 (x + 2) 4 = _; rw [r2]; rfl
    · show h.1 (x + 8) k = _
      rw [r8]
      rcases (show k = 0 ∨ k = 1 ∨ k = 2 ∨ k = 3 ∨ k = 4 by omega) with rfl | rfl | rfl | rfl | rfl <;> rfl
    · show h.1 (x + 9) 0 = _; rw [r9]; rfl
    · show h.1 (x + 11) 0 = _; rw [r11]; rfl
    · show h.1 (x + 11) 2 = _; rw [r11]; rfl
    · show h.1 (x + 11) 3 = _; rw [r11]; rfl
    · rw [Nat.zero_testBit]; exact (gZ_H p).symm
    · rw [gZ_H p] at z; cases z
    · show h.1 (x + 13) r = _; rw [r13, iw_0 (by omega) (by omega)]; rfl
  · refine ⟨⟨?_, by decide⟩, ⟨?_, by decide⟩, fun r hr => absurd hr (Nat.not_lt_zero _), fun r hr => absurd hr (Nat.not_lt_zero _), fun k hk => ?_⟩
    · rw [r229]; rfl
    · rw [r229]; rfl
    · show h.1 (x + 231) k = _
      rw [r231]; rfl
  · show rmE eZ (h.1 (x + 231))
    rw [r231]
    exact ⟨by decide, vE_eZ, fun z => absurd z (Nat.lt_irrefl _)⟩
  · show rmL gZ (h.1 (x + 231))
    rw [r231]
    refine ⟨⟨by decide, by decide⟩, fun i hi => absurd hi (Nat.not_lt_zero _), fun r hr => ?_⟩
    show clr (35 + r) = 0
    unfold clr
    rw [if_neg (by omega), if_neg (by omega)]
  · rw [r229]; rfl
  · rw [r171]; rfl
  · rw [r229]; rfl
  · rw [r171, r229]; rfl
  · show h.2.2 (x + 193) j = _
    rw [q193]
    show x + 193 + 1 + 2 * j = x + 192 + 2 + 2 * j
    omega
  · rw [r230, iw_0 (by omega) (by omega), show h.1 x = iw (19, 0) from r0]
    rcases (show k = 0 ∨ k = 1 ∨ k = 2 by omega) with rfl | rfl | rfl <;> rfl
theorem lw_traces {l : Launch} (h : l.flags = flags0) : l.stackTraces = false := by
  unfold Launch.stackTraces
  rw [h]
  decide +kernel
set_option maxHeartbeats 4000000 in
set_option maxRecDepth 100000 in
theorem whole_start {p : Program} {e : Env} {s : State} {m : MethodId} {below : List Frame} {meth : Method} {c : Code} (l : Launch) (hflags : l.flags = flags0) {b L : Nat} {xs : Nat → Int32} (hL : L ≤ 3072) (C0 : lw_At p s m meth c b L xs) (hh : heapFits s = true) : W p l e room_1 s m #[Value.ref b] below meth c s.heap [] 0 0 (lw_Z below #[Value.ref b] s) (entryFrame m ([Value.ref b] : List Value).toArray 8) := by
  obtain ⟨hx, hb, hrt, hml, hown, hts, hX, hbl, hlk, hgv⟩ := C0
  obtain ⟨al, hal, hzS⟩ := lw_zS hts hgv hh
  obtain ⟨D, C, hzK, hAO⟩ := lw_zK hts
  obtain ⟨Y, hY⟩ : ∃ Y : zY, Y = (D, (C, (kY al s.heap.size, (s.heap.size, fun _ => 0)))) := ⟨_, rfl⟩
  have h1 : zK Y s := by rw [hY]; exact hzK _ _ _
  have h2 : zS Y s s.heap := by rw [hY]; exact hzS _ _ _
  have h3 : zWF Y := by rw [hY]; exact lw_zWF hal
  have h4 : yO Y = s.heap.size := by rw [hY]
  have hkd : ∀ i, yK Y (s.heap.size + i) = LL.getD i (0, 0) := fun i => by
    rw [hY]
    show kY al s.heap.size (s.heap.size + i) = _
    unfold kY
    rw [if_pos (by omega)]
    congr 1
    omega
  have hlow : ∀ q, q < s.heap.size → (yK Y q).1 = 0 ∨ (yK Y q).1 = 6 ∨ (yK Y q).1 = 7 ∨ (yK Y q).1 = 8 := fun q hq => by
    have e : yK Y q = look al q := by
      rw [hY]
      exact if_neg (Nat.not_le.mpr hq)
    rw [e]
    rcases hal q _ rfl with z | ⟨z, -⟩
    · left; rw [z]
    · right; exact z
  have hz : ∀ w ∈ zTW, w.before #[Value.ref b] s = true := fun w hw => hts w (List.mem_filter.mp hw).1
  generalize hx0 : s.heap.size = x at *
  obtain ⟨X, hXe⟩ : ∃ X : zX, X = (p, l, e, room_1, s, m, #[Value.ref b], below, meth, c, lw_Z below #[Value.ref b] s) := ⟨_, rfl⟩
  have Og : zOg X Y code RL := by
    rw [hXe]
    exact ⟨hx, hb, hown, hz, h1, h2, hAO, by show yO Y ≤ s.heap.size; omega⟩
  have Ok : zOK X Y code RL := by
    rw [hXe]
    exact ⟨hx, hb, hown, hz, h1, h2, h3, by show yO Y ≤ s.heap.size; omega⟩
  have hl := lv_entry [.ref b] (n := 8) (Nat.le_of_ble_eq_true rfl)
  rw [lg_entry_eq]
  generalize (lg_sl ([.ref b]) ++ List.replicate (8 - (lg_sl ([.ref b])).length) Slot.unset).toArray = ls at hl ⊢
  have hl : lv_has ls 8 [(0, .ref b)] := hl
  have key : zW X s.heap [] 0 0 (F0 (xM X) 0 ls []) := by
    have exm : (xC X).maxLocals = 8 := by rw [hXe]; exact hml
    have exs : (xS X).heap = s.heap := by rw [hXe]
    have exx : X.1.tables.exec = Jvm.exec := Og.1
    have exb : (xC X).code = code := Og.2.1
    have exR : xR X = room_1 := by rw [hXe]
    have ext : X.2.1.stackTraces = false := by rw [hXe]; exact lw_traces hflags
    refine cq_mk (A := fun q => x ≤ q) (n := x) Og mk_9 tv_26 (Or.inl tw_28) dL_law_0 dL_law_3 dL_law_4 ⟨by rw [exR]; exact Nat.le_of_ble_eq_true rfl, by rw [exR]; exact Nat.le_of_ble_eq_true rfl⟩ (by rw [exR]; exact Nat.le_of_ble_eq_true rfl) (by rw [exR]; exact Nat.le_of_ble_eq_true rfl) (by rw [exm]; exact hl.1) (Nat.le_of_ble_eq_true rfl) (fun i hi => by rw [hkd i]; exact LL_9 i hi) hx0 (by omega) (by rw [exs]; exact va_S.rf) (fun q hq => hq) (fun q hq => by have hq : x ≤ q := hq; omega) (fun H1 locs1 g1 g2 g3 g4 => ?_)
    refine lv_astore_n exx exb dL_law_7 rfl hl (by omega) rfl (fun ls1 hl1 => ?_)
    have hl1 : lv_has ls1 8 [(1, .ref x), (0, .ref b)] := hl1
    refine cq_mk (A := fun q => x ≤ q) (n := x + 229) (u := 229) (v := 5263) (pc := 8) Og mk_10 tv_1178 (Or.inl tw_1180) dL_law_8 dL_law_11 dL_law_12 ⟨by rw [exR]; exact Nat.le_of_ble_eq_true rfl, by rw [exR]; exact Nat.le_of_ble_eq_true rfl⟩ (by rw [exR]; exact Nat.le_of_ble_eq_true rfl) (by rw [exR]; exact Nat.le_of_ble_eq_true rfl) (by rw [exm]; exact hl1.1) (Nat.le_of_ble_eq_true rfl) (fun i hi => by rw [Nat.add_assoc, hkd (229 + i)]; exact LL_10 i hi) g1 (by omega) g4 (fun q hq => by show x ≤ q; omega) (fun q hq => by have hq : x ≤ q := hq; omega) (fun H2 locs2 k1 k2 k3 k4 => ?_)
    refine lv_astore_n exx exb dL_law_15 rfl hl1 (by omega) rfl (fun ls2 hl2 => ?_)
    have hl2 : lv_has ls2 8 [(2, .ref (x + 229)), (1, .ref x), (0, .ref b)] := hl2
    refine lv_iconst exx exb dL_law_16 (show Int32.ofInt 1 = nI 1 by decide) ?_
    refine va_newaK (atype := .long) (N := 1) (g := F0 (xM X) 17 ls2 [.int (nI 1)]) exx exb (Og.2.2.2.1 _ tv_273) rfl dL_law_17 rfl (by decide) (by decide) (by decide) (by rw [exR]; exact Nat.le_of_ble_eq_true rfl) (by rw [exR]; exact Nat.le_of_ble_eq_true rfl) k1 (fun H3 cA e1 z1 o1 _ hNm => ?_)
    have eA : cA = yC Y 3 := Option.some.inj (hNm.symm.trans (Og.2.2.2.2.1.2 2 _ rfl).2)
    refine lv_astore_n (pc := 19) exx exb dL_law_19 rfl hl2 (by omega) rfl (fun ls3 hl3 => ?_)
    have hl3 : lv_has ls3 8 [(3, .ref (x + 229 + 18)), (2, .ref (x + 229)), (1, .ref x), (0, .ref b)] := hl3
    refine lv_iconst (pc := 20) exx exb dL_law_20 (show Int32.ofInt 0 = nI 0 by decide) ?_
    refine lv_istore (pc := 21) exx exb dL_law_21 hl3 (by omega) rfl (fun ls4 hl4 => ?_)
    have hl4 : lv_has ls4 8 [(4, .int (nI 0)), (3, .ref (x + 229 + 18)), (2, .ref (x + 229)), (1, .ref x), (0, .ref b)] := hl4
    have hlo := lw_loop (X := X) (Y := Y) (b := b) (L := L) (x := x) (xs := xs) (kd := yK Y b) (u0 := 248) (v0 := 10570) (b0 := b) Ok ext ⟨by rw [hXe]; exact hX, by rw [exs, hx0]; exact hbl, by
        rw [exs, hx0]
        rintro (z | z)
        · obtain ⟨y0, y6, y7, y8, -⟩ := z
          rcases hlow b hbl with w | w | w | w
          · exact y0 w
          · exact y6 w
          · exact y7 w
          · exact y8 w
        · omega, hL⟩ (by rw [hXe]) (by rw [hXe]) (by rw [hXe]; exact hrt) (by rw [hXe]; exact hlk) exR (by rw [exs]; omega) (Nat.le_of_ble_eq_true rfl) (Nat.le_of_ble_eq_true rfl) 512 0 rfl (by omega) (by omega)
    have hJ := J_0 (Y := Y) (x := x) hkd
    refine hlo [some (.inr (.inr (yK Y b, b))), some (vR 19 0 x), some (vR 20 0 (x + 229)), some (vR 3 1 (x + 247)), some (vI (nI 0)), none, none, none] [] (zsW (zh0 Y) (x + 231) clr) ⟨none, none, none, rfl, rfl, _, _, hJ⟩ H3 locs2 ls4 ?_ ⟨by rw [exm]; exact lv_sub hl4 [4, 3, 2, 1, 0] rfl, by rw [exm]; rfl, fun j v hj => ?_⟩ (fun q hq => absurd hq List.not_mem_nil) ?_
    · intro q
      by_cases c0 : q < x
      · exact zRa_none (hlow q c0)
      by_cases c1 : q < x + 229
      · refine zRa_congr (g2 q (by omega) c1) ?_ (zsW_n _ _ (by omega)) rfl rfl
        rw [o1 q (by omega), k3 q c1]
      by_cases c2 : q < x + 229 + 18
      · exact zRa_congr (k2 q (by omega) c2) (o1 q c2) rfl rfl rfl
      by_cases c3 : q = x + 229 + 18
      · subst c3
        have hK : yK Y (x + 229 + 18) = (3, 1) := (hkd 247).trans LL_o
        refine zRa_ar hK (Or.inr (Or.inr rfl)) (fun z => by omega) (fun z => by omega) (fun _ => ?_)
        rw [e1, eA]
        rfl
      · refine zRa_none (Or.inl ?_)
        have : yK Y q = (0, 0) := by
          have e2 : q = x + (q - x) := by omega
          rw [e2, hkd, LL_out (by omega)]
        rw [this]
    · rcases j with _ | _ | _ | _ | _ | _ | _ | _ | j
      · cases hj; rfl
      · cases hj; exact (hkd 0).trans LL_s.1
      · cases hj; exact (hkd 229).trans LL_s.2.2.2.2.2.2.2.2.2.1
      · cases hj; exact (hkd 247).trans LL_o
      · cases hj; trivial
      · cases hj
      · cases hj
      · cases hj
      · simp at hj
    · rw [exs, hx0]
      exact ⟨by have := k4.1; rw [exs] at this; omega, fun q q1 q2 => by
        rw [o1 q (by omega)]
        have := k4.2.1 q (by rw [exs]; omega) (fun z => q2 (Or.inr z))
        rw [this, exs], fun z hz => Or.inr (k4.2.2 z hz)⟩
  rw [hXe] at key
  exact key

