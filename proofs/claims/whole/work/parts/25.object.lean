theorem dX10_status_43 : decode cX10_status 43 = .ok (.iconst (-1), 1) := by decide +kernel
theorem dX10_status_44 : decode cX10_status 44 = .ok (.ireturn, 1) := by decide +kernel
theorem dX10_status_38 : decode cX10_status 38 = .ok (.aload_n 0, 1) := by decide +kernel
theorem dX10_status_39 : decode cX10_status 39 = .ok (.getfield 357, 3) := by decide +kernel
theorem dX10_status_42 : decode cX10_status 42 = .ok (.ireturn, 1) := by decide +kernel
theorem dX10_status_33 : decode cX10_status 33 = .ok (.aload_n 0, 1) := by decide +kernel
theorem dX10_status_34 : decode cX10_status 34 = .ok (.getfield 354, 3) := by decide +kernel
theorem dX10_status_37 : decode cX10_status 37 = .ok (.ireturn, 1) := by decide +kernel
theorem dX10_status_28 : decode cX10_status 28 = .ok (.aload_n 0, 1) := by decide +kernel
theorem dX10_status_29 : decode cX10_status 29 = .ok (.getfield 351, 3) := by decide +kernel
theorem dX10_status_32 : decode cX10_status 32 = .ok (.ireturn, 1) := by decide +kernel
theorem dX10_status_0 : decode cX10_status 0 = .ok (.iload_n 1, 1) := by decide +kernel
theorem dX10_status_1 : decode cX10_status 1 = .ok (.tableswitch 42 0 2 #[27, 32, 37], 27) := by decide +kernel
theorem dX10_toldOfEnrolled_59 : decode cX10_toldOfEnrolled 59 = .ok (.aload_n 2, 1) := by decide +kernel
theorem dX10_toldOfEnrolled_60 : decode cX10_toldOfEnrolled 60 = .ok (.getfield 392, 3) := by decide +kernel
theorem dX10_toldOfEnrolled_63 : decode cX10_toldOfEnrolled 63 = .ok (.ireturn, 1) := by decide +kernel
theorem dX10_toldOfEnrolled_54 : decode cX10_toldOfEnrolled 54 = .ok (.aload_n 2, 1) := by decide +kernel
theorem dX10_toldOfEnrolled_55 : decode cX10_toldOfEnrolled 55 = .ok (.getfield 290, 3) := by decide +kernel
theorem dX10_toldOfEnrolled_58 : decode cX10_toldOfEnrolled 58 = .ok (.ireturn, 1) := by decide +kernel
theorem dX10_toldOfEnrolled_49 : decode cX10_toldOfEnrolled 49 = .ok (.aload_n 2, 1) := by decide +kernel
theorem dX10_toldOfEnrolled_50 : decode cX10_toldOfEnrolled 50 = .ok (.invokevirtual 389, 3) := by decide +kernel
theorem dX10_toldOfEnrolled_53 : decode cX10_toldOfEnrolled 53 = .ok (.ireturn, 1) := by decide +kernel
theorem dX10_toldOfEnrolled_44 : decode cX10_toldOfEnrolled 44 = .ok (.aload_n 2, 1) := by decide +kernel
theorem dX10_toldOfEnrolled_45 : decode cX10_toldOfEnrolled 45 = .ok (.getfield 174, 3) := by decide +kernel
theorem dX10_toldOfEnrolled_48 : decode cX10_toldOfEnrolled 48 = .ok (.ireturn, 1) := by decide +kernel
theorem dX10_toldOfEnrolled_17 : decode cX10_toldOfEnrolled 17 = .ok (.iload_n 1, 1) := by decide +kernel
theorem dX10_toldOfEnrolled_18 : decode cX10_toldOfEnrolled 18 = .ok (.tableswitch 41 14 16 #[26, 31, 36], 26) := by decide +kernel
theorem dX10_toldOfEnrolled_0 : decode cX10_toldOfEnrolled 0 = .ok (.aload_n 0, 1) := by decide +kernel
theorem dX10_toldOfEnrolled_1 : decode cX10_toldOfEnrolled 1 = .ok (.getfield 10, 3) := by decide +kernel
theorem dX10_toldOfEnrolled_4 : decode cX10_toldOfEnrolled 4 = .ok (.getfield 98, 3) := by decide +kernel
theorem dX10_toldOfEnrolled_7 : decode cX10_toldOfEnrolled 7 = .ok (.astore_n 2, 1) := by decide +kernel
theorem dX10_toldOfEnrolled_8 : decode cX10_toldOfEnrolled 8 = .ok (.aload_n 2, 1) := by decide +kernel
theorem dX10_toldOfEnrolled_9 : decode cX10_toldOfEnrolled 9 = .ok (.invokevirtual 310, 3) := by decide +kernel
theorem dX10_toldOfEnrolled_12 : decode cX10_toldOfEnrolled 12 = .ok (.ifCond .eq 5, 3) := by decide +kernel
theorem dX10_toldOfEnrolled_15 : decode cX10_toldOfEnrolled 15 = .ok (.iconst (-1), 1) := by decide +kernel
theorem dX10_toldOfEnrolled_16 : decode cX10_toldOfEnrolled 16 = .ok (.ireturn, 1) := by decide +kernel
/-! switches -/
def zswA (x : Int32) (ls : zL) (st : List zV) (h : zH) : Int → List zT → Prop
  | _, [] => True
  | lo, k :: ks => (x.toInt = lo → k ls st h) ∧ zswA x ls st h (lo + 1) ks
theorem zswA_at {x : Int32} {ls : zL} {st : List zV} {h : zH} : ∀ (ks : List zT) (lo : Int), zswA x ls st h lo ks → ∀ (j : Nat) (kj : zT), ks[j]? = some kj → x.toInt = lo + j → kj ls st h
  | [], _, _, j, kj, hj, _ => by simp at hj
  | k :: ks, lo, ha, 0, kj, hj, hx => by
    have e : k = kj := by simpa using hj
    rw [← e]
    exact ha.1 (by simpa using hx)
  | k :: ks, lo, ha, j + 1, kj, hj, hx => zswA_at ks (lo + 1) ha.2 j kj (by simpa using hj) (by rw [hx]; omega)
theorem zsw_of {x : Int32} {ls : zL} {st : List zV} {h : zH} {lo : Int} {ks : List zT} {kd : zT} (ha : zswA x ls st h lo ks) (hd : (x.toInt < lo ∨ lo + ks.length ≤ x.toInt) → kd ls st h) : zi_sw lo ks kd ls (.inl x :: st) h := ⟨zswA_at ks lo ha, hd⟩
def zKs (X : zX) (Y : zY) (u v pc : Nat) (offs : Array Int) : Nat → List zT → Prop
  | _, [] => True
  | j, k :: ks => (∃ (off : Int) (tt : Nat), offs[j]? = some off ∧ (pc : Int) + off = (tt : Int) ∧ zSd X Y u v tt k) ∧ zKs X Y u v pc offs (j + 1) ks
theorem zKs_at {X : zX} {Y : zY} {u v pc : Nat} {offs : Array Int} : ∀ (ks : List zT) (i : Nat), zKs X Y u v pc offs i ks → ∀ (j : Nat) (kj : zT), ks[j]? = some kj → ∃ (off : Int) (tt : Nat), offs[i + j]? = some off ∧ (pc : Int) + off = (tt : Int) ∧ zSd X Y u v tt kj
  | [], _, _, j, kj, hj => by simp at hj
  | k :: ks, i, ha, 0, kj, hj => by
    have e : k = kj := by simpa using hj
    rw [← e]
    exact ha.1
  | k :: ks, i, ha, j + 1, kj, hj => by
    have := zKs_at ks (i + 1) ha.2 j kj (by simpa using hj)
    rw [show i + 1 + j = i + (j + 1) by omega] at this
    exact this
theorem zr_switch2 {X : zX} {Y : zY} {u v pc : Nat} {cc : ByteArray} {own : String} {df lo hi : Int} {offs : Array Int} {len tgt : Nat} {ks : List zT} {kd : zT} (O : zOK X Y cc own) (d : decode cc pc = .ok (.tableswitch df lo hi offs, len)) (hn : lo + ks.length = hi + 1) (ht : (pc : Int) + df = (tgt : Int)) (hd : zSd X Y u v tgt kd) (hks : zKs X Y u v pc offs 0 ks) : zSd X Y u v pc (zi_sw lo ks kd) := by
  refine zr_switch O d hn ht hd (fun j kj hj => ?_)
  have := zKs_at ks 0 hks j kj hj
  rw [Nat.zero_add] at this
  exact this
def ca_X10_status : (Nat × Int32) → List zV := fun (x, w) => [vR 19 0 x, vI w]
def cp_X10_status : (Nat × Int32) → zH → Prop := fun _ _ => True
def cf_X10_status : (Nat × Int32) → zH → Int32 := fun (x, w) h => if w = 0 then h.1 x 5 else if w = 1 then h.1 x 6 else if w = 2 then h.1 x 7 else -1
theorem rc_X10_status : ∀ x : (Nat × Int32), ∃ (j a : Nat) (As : List zV), ca_X10_status x = vR (10 + 9) j a :: As := by
  rintro ⟨x, w⟩
  exact ⟨_, _, _, rfl⟩
set_option maxHeartbeats 4000000 in
set_option maxRecDepth 100000 in
theorem m_X10_status : zM yX10_status cX10_status 2 (some .int) ({ frames := 0, cells := 0, slots := 0, locals := 0 } : Room) (zcI ca_X10_status cp_X10_status cf_X10_status) := by
  refine zM_of (by decide) ?_
  rintro X Y ⟨x, w⟩ h _ O E hR
  have B_43 := zr_iconst (X := X) (Y := Y) (u := 0) (v := 0) (x := (-1)) O dX10_status_43 rfl (zr_ireturn O E (Nat.le_refl _) (Nat.le_refl _) dX10_status_44)
  have B_38 := zr_aload_n (X := X) (Y := Y) (u := 0) (v := 0) O dX10_status_38 rfl (zr_gI (ci := 9) (j := 7) O zc_9 (by decide) rfl tw_294 dX10_status_39 (zr_ireturn O E (Nat.le_refl _) (Nat.le_refl _) dX10_status_42))
  have B_33 := zr_aload_n (X := X) (Y := Y) (u := 0) (v := 0) O dX10_status_33 rfl (zr_gI (ci := 9) (j := 6) O zc_9 (by decide) rfl tw_293 dX10_status_34 (zr_ireturn O E (Nat.le_refl _) (Nat.le_refl _) dX10_status_37))
  have B_28 := zr_aload_n (X := X) (Y := Y) (u := 0) (v := 0) O dX10_status_28 rfl (zr_gI (ci := 9) (j := 5) O zc_9 (by decide) rfl tw_292 dX10_status_29 (zr_ireturn O E (Nat.le_refl _) (Nat.le_refl _) dX10_status_32))
  have B_0 := zr_iload_n (X := X) (Y := Y) (u := 0) (v := 0) O dX10_status_0 rfl (zr_switch2 (tgt := 43) (ks := [_, _, _]) O dX10_status_1 rfl rfl B_43 ⟨⟨_, 28, rfl, rfl, B_28⟩, ⟨_, 33, rfl, rfl, B_33⟩, ⟨_, 38, rfl, rfl, B_38⟩, trivial⟩)
  refine ⟨rfl, Nat.le_of_ble_eq_true rfl, _, B_0, ?_⟩
  refine zsw_of ⟨fun e => ⟨zri ?_, rfl⟩, fun e => ⟨zri ?_, rfl⟩, fun e => ⟨zri ?_, rfl⟩, trivial⟩ (fun e => ⟨zri ?_, rfl⟩)
  · have hw : w = 0 := (fa_eq _ _).mpr e
    show _ = if w = 0 then _ else _
    rw [if_pos hw]
  · have hw : w = 1 := (fa_eq _ _).mpr e
    rw [hw]
    rfl
  · have hw : w = 2 := (fa_eq _ _).mpr e
    rw [hw]
    rfl
  · have e : w.toInt < 0 ∨ (0 : Int) + 3 ≤ w.toInt := e
    have h0 : ¬ w = 0 := fun z => by rw [z] at e; revert e; decide
    have h1 : ¬ w = 1 := fun z => by rw [z] at e; revert e; decide
    have h2 : ¬ w = 2 := fun z => by rw [z] at e; revert e; decide
    show _ = if w = 0 then _ else if w = 1 then _ else if w = 2 then _ else _
    rw [if_neg h0, if_neg h1, if_neg h2]
def ca_X10_toldOfEnrolled : (zQ × Nat × Nat) → List zV := fun (Q, x, w) => [vR 19 0 x, vI (nI w)]
def cp_X10_toldOfEnrolled : (zQ × Nat × Nat) → zH → Prop := fun (Q, x, w) h => rpN Q h x ∧ 14 ≤ w ∧ w ≤ 17
def cf_X10_toldOfEnrolled : (zQ × Nat × Nat) → zH → Int32 := fun (Q, x, w) _ => tle Q.2.1 w
theorem rc_X10_toldOfEnrolled : ∀ x : (zQ × Nat × Nat), ∃ (j a : Nat) (As : List zV), ca_X10_toldOfEnrolled x = vR (10 + 9) j a :: As := by
  rintro ⟨⟨S, K, M⟩, x, w⟩
  exact ⟨_, _, _, rfl⟩
set_option maxHeartbeats 4000000 in
set_option maxRecDepth 100000 in
theorem m_X10_toldOfEnrolled : zM yX10_toldOfEnrolled cX10_toldOfEnrolled 3 (some .int) ({ frames := 2, cells := 0, slots := 0, locals := 40 } : Room) (zcI ca_X10_toldOfEnrolled cp_X10_toldOfEnrolled cf_X10_toldOfEnrolled) := by
  refine zM_of (by decide) ?_
  rintro X Y ⟨⟨S, K, M⟩, x, w⟩ h ⟨hN, hw1, hw2⟩ O E hR
  have B_59 := zr_aload_n (X := X) (Y := Y) (u := 0) (v := 0) O dX10_toldOfEnrolled_59 rfl (zr_gI (ci := 0) (j := 8) O zc_0 (by decide) rfl tw_126 dX10_toldOfEnrolled_60 (zr_ireturn O E (Nat.le_refl _) (Nat.le_refl _) dX10_toldOfEnrolled_63))
  have B_54 := zr_aload_n (X := X) (Y := Y) (u := 0) (v := 0) O dX10_toldOfEnrolled_54 rfl (zr_gI (ci := 0) (j := 7) O zc_0 (by decide) rfl tw_122 dX10_toldOfEnrolled_55 (zr_ireturn O E (Nat.le_refl _) (Nat.le_refl _) dX10_toldOfEnrolled_58))
  have B_49 := zr_aload_n (X := X) (Y := Y) (u := 0) (v := 0) O dX10_toldOfEnrolled_49 rfl (zr_cI (zr_cV (ci := 0) (n := 0) O m_X1_secretBits (bn_X1_secretBits _ ⟨rfl, rfl⟩) vw_X1_secretBits tw_881 rc_X1_secretBits (zrm hR rfl rfl) dX10_toldOfEnrolled_50 (zr_ireturn O E (Nat.le_refl _) (Nat.le_refl _) dX10_toldOfEnrolled_53)))
  have B_44 := zr_aload_n (X := X) (Y := Y) (u := 0) (v := 0) O dX10_toldOfEnrolled_44 rfl (zr_gI (ci := 0) (j := 0) O zc_0 (by decide) rfl tw_103 dX10_toldOfEnrolled_45 (zr_ireturn O E (Nat.le_refl _) (Nat.le_refl _) dX10_toldOfEnrolled_48))
  have B_17 := zr_iload_n (X := X) (Y := Y) (u := 0) (v := 0) O dX10_toldOfEnrolled_17 rfl (zr_switch2 (tgt := 59) (ks := [_, _, _]) O dX10_toldOfEnrolled_18 rfl rfl B_59 ⟨⟨_, 44, rfl, rfl, B_44⟩, ⟨_, 49, rfl, rfl, B_49⟩, ⟨_, 54, rfl, rfl, B_54⟩, trivial⟩)
  have B_0 := zr_aload_n (X := X) (Y := Y) (u := 0) (v := 0) O dX10_toldOfEnrolled_0 rfl (zr_gR (ci := 9) (j := 0) (off := 0) (t := 16) (n := 0) O zc_9 (by decide) rfl tw_287 dX10_toldOfEnrolled_1 (zr_gS (ci := 6) (j := 1) (off := 8) (t := 10) (n := 0) O zc_6 (by decide) rfl tw_175 dX10_toldOfEnrolled_4 (zr_astore_n O dX10_toldOfEnrolled_7 rfl (zr_aload_n O dX10_toldOfEnrolled_8 rfl (zr_cI (zr_cV (ci := 0) (n := 0) O m_X1_isEmpty (bn_X1_isEmpty _ ⟨rfl, rfl⟩) vw_X1_isEmpty tw_863 rc_X1_isEmpty (zrm hR rfl rfl) dX10_toldOfEnrolled_9 (zr_ifeq (tgt := 17) O dX10_toldOfEnrolled_12 rfl B_17 (zr_iconst (x := (-1)) O dX10_toldOfEnrolled_15 rfl (zr_ireturn O E (Nat.le_refl _) (Nat.le_refl _) dX10_toldOfEnrolled_16)))))))))
  refine ⟨rfl, Nat.le_of_ble_eq_true rfl, _, B_0, ?_⟩
  have hE : rpE K h (h.2.2 x 0 + 8) := hN.1.2.1
  have hw1 : 14 ≤ w := hw1
  have hw2 : w ≤ 17 := hw2
  have ew : (nI w).toInt = w := nI_toInt (by omega)
  refine ⟨(h.2.2 x 0 + 8, eN K), rfl, ⟨hE.1, hE.2.1.1⟩, fun cq => ?_, fun cq => ⟨zri ?_, rfl⟩⟩
  · have hz : ¬ eN K = 0 := of_decide_eq_false ((bI_0 _).mp cq)
    obtain ⟨p1, ⟨a1, a2⟩, ⟨a3, a4, a5⟩, a6, a7⟩ := hE.2.2 (by omega)
    obtain ⟨-, hr, -⟩ := hE.2.1.2 (by omega)
    refine zsw_of ⟨fun e => ⟨zri ?_, rfl⟩, fun e => ⟨(h.2.2 x 0 + 8, eR K, eK K), rfl, ⟨a1, a2, hr⟩, zri ?_, rfl⟩, fun e => ⟨zri ?_, rfl⟩, trivial⟩ (fun e => ⟨zri ?_, rfl⟩)
    · rw [ew] at e
      show h.1 (h.2.2 x 0 + 8) 0 = tle K w
      rw [tle, if_neg hz, if_pos (by omega)]
      exact hE.1
    · rw [ew] at e
      show nI (eK K * btR (eR K)) = tle K w
      rw [tle, if_neg hz, if_neg (by omega), if_pos (by omega)]
    · rw [ew] at e
      show h.1 (h.2.2 x 0 + 8) 7 = tle K w
      rw [tle, if_neg hz, if_neg (by omega), if_neg (by omega), if_pos (by omega)]
      exact a6
    · rw [ew] at e
      have e : (w : Int) < 14 ∨ (14 : Int) + 3 ≤ w := e
      show h.1 (h.2.2 x 0 + 8) 8 = tle K w
      rw [tle, if_neg hz, if_neg (by omega), if_neg (by omega), if_neg (by omega)]
      exact a7
  · have hz : eN K = 0 := by
      rcases Nat.eq_zero_or_pos (eN K) with z | z
      · exact z
      · exact absurd ((bI_0 _).mpr (decide_eq_false (by omega))) cq
    show (-1 : Int32) = tle K w
    rw [tle, if_pos hz]

