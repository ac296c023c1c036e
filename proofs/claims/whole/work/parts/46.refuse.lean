theorem dX10_refuseArgument_0 : decode cX10_refuseArgument 0 = .ok (.aload_n 0, 1) := by decide +kernel
theorem dX10_refuseArgument_1 : decode cX10_refuseArgument 1 = .ok (.dup, 1) := by decide +kernel
theorem dX10_refuseArgument_2 : decode cX10_refuseArgument 2 = .ok (.getfield 354, 3) := by decide +kernel
theorem dX10_refuseArgument_5 : decode cX10_refuseArgument 5 = .ok (.iconst 1, 1) := by decide +kernel
theorem dX10_refuseArgument_6 : decode cX10_refuseArgument 6 = .ok (.iadd, 1) := by decide +kernel
theorem dX10_refuseArgument_7 : decode cX10_refuseArgument 7 = .ok (.putfield 354, 3) := by decide +kernel
theorem dX10_refuseArgument_10 : decode cX10_refuseArgument 10 = .ok (.new 360, 3) := by decide +kernel
theorem dX10_refuseArgument_13 : decode cX10_refuseArgument 13 = .ok (.dup, 1) := by decide +kernel
theorem dX10_refuseArgument_14 : decode cX10_refuseArgument 14 = .ok (.ldc_w 362, 3) := by decide +kernel
theorem dX10_refuseArgument_17 : decode cX10_refuseArgument 17 = .ok (.invokespecial 364, 3) := by decide +kernel
theorem dX10_refuseArgument_20 : decode cX10_refuseArgument 20 = .ok (.athrow, 1) := by decide +kernel
theorem dX10_refuseState_0 : decode cX10_refuseState 0 = .ok (.aload_n 0, 1) := by decide +kernel
theorem dX10_refuseState_1 : decode cX10_refuseState 1 = .ok (.dup, 1) := by decide +kernel
theorem dX10_refuseState_2 : decode cX10_refuseState 2 = .ok (.getfield 357, 3) := by decide +kernel
theorem dX10_refuseState_5 : decode cX10_refuseState 5 = .ok (.iconst 1, 1) := by decide +kernel
theorem dX10_refuseState_6 : decode cX10_refuseState 6 = .ok (.iadd, 1) := by decide +kernel
theorem dX10_refuseState_7 : decode cX10_refuseState 7 = .ok (.putfield 357, 3) := by decide +kernel
theorem dX10_refuseState_10 : decode cX10_refuseState 10 = .ok (.new 367, 3) := by decide +kernel
theorem dX10_refuseState_13 : decode cX10_refuseState 13 = .ok (.dup, 1) := by decide +kernel
theorem dX10_refuseState_14 : decode cX10_refuseState 14 = .ok (.ldc_w 369, 3) := by decide +kernel
theorem dX10_refuseState_17 : decode cX10_refuseState 17 = .ok (.invokespecial 371, 3) := by decide +kernel
theorem dX10_refuseState_20 : decode cX10_refuseState 20 = .ok (.athrow, 1) := by decide +kernel
theorem dX10_refuseMissing_0 : decode cX10_refuseMissing 0 = .ok (.aload_n 0, 1) := by decide +kernel
theorem dX10_refuseMissing_1 : decode cX10_refuseMissing 1 = .ok (.dup, 1) := by decide +kernel
theorem dX10_refuseMissing_2 : decode cX10_refuseMissing 2 = .ok (.getfield 351, 3) := by decide +kernel
theorem dX10_refuseMissing_5 : decode cX10_refuseMissing 5 = .ok (.iconst 1, 1) := by decide +kernel
theorem dX10_refuseMissing_6 : decode cX10_refuseMissing 6 = .ok (.iadd, 1) := by decide +kernel
theorem dX10_refuseMissing_7 : decode cX10_refuseMissing 7 = .ok (.putfield 351, 3) := by decide +kernel
theorem dX10_refuseMissing_10 : decode cX10_refuseMissing 10 = .ok (.new 372, 3) := by decide +kernel
theorem dX10_refuseMissing_13 : decode cX10_refuseMissing 13 = .ok (.dup, 1) := by decide +kernel
theorem dX10_refuseMissing_14 : decode cX10_refuseMissing 14 = .ok (.ldc_w 374, 3) := by decide +kernel
theorem dX10_refuseMissing_17 : decode cX10_refuseMissing 17 = .ok (.invokespecial 376, 3) := by decide +kernel
theorem dX10_refuseMissing_20 : decode cX10_refuseMissing 20 = .ok (.athrow, 1) := by decide +kernel
theorem dX10_needCounted_13 : decode cX10_needCounted 13 = .ok (.return_, 1) := by decide +kernel
theorem dX10_needCounted_9 : decode cX10_needCounted 9 = .ok (.aload_n 0, 1) := by decide +kernel
theorem dX10_needCounted_10 : decode cX10_needCounted 10 = .ok (.invokevirtual 377, 3) := by decide +kernel
theorem dX10_needCounted_0 : decode cX10_needCounted 0 = .ok (.iload_n 1, 1) := by decide +kernel
theorem dX10_needCounted_1 : decode cX10_needCounted 1 = .ok (.ifCond .lt 8, 3) := by decide +kernel
theorem dX10_needCounted_4 : decode cX10_needCounted 4 = .ok (.iload_n 1, 1) := by decide +kernel
theorem dX10_needCounted_5 : decode cX10_needCounted 5 = .ok (.iload_n 2, 1) := by decide +kernel
theorem dX10_needCounted_6 : decode cX10_needCounted 6 = .ok (.if_icmp .lt 7, 3) := by decide +kernel
theorem dX10_needBetween_14 : decode cX10_needBetween 14 = .ok (.return_, 1) := by decide +kernel
theorem dX10_needBetween_10 : decode cX10_needBetween 10 = .ok (.aload_n 0, 1) := by decide +kernel
theorem dX10_needBetween_11 : decode cX10_needBetween 11 = .ok (.invokevirtual 380, 3) := by decide +kernel
theorem dX10_needBetween_0 : decode cX10_needBetween 0 = .ok (.iload_n 1, 1) := by decide +kernel
theorem dX10_needBetween_1 : decode cX10_needBetween 1 = .ok (.iload_n 2, 1) := by decide +kernel
theorem dX10_needBetween_2 : decode cX10_needBetween 2 = .ok (.if_icmp .lt 8, 3) := by decide +kernel
theorem dX10_needBetween_5 : decode cX10_needBetween 5 = .ok (.iload_n 1, 1) := by decide +kernel
theorem dX10_needBetween_6 : decode cX10_needBetween 6 = .ok (.iload_n 3, 1) := by decide +kernel
theorem dX10_needBetween_7 : decode cX10_needBetween 7 = .ok (.if_icmp .le 7, 3) := by decide +kernel
theorem dX10_needHeat_0 : decode cX10_needHeat 0 = .ok (.aload_n 0, 1) := by decide +kernel
theorem dX10_needHeat_1 : decode cX10_needHeat 1 = .ok (.iload_n 1, 1) := by decide +kernel
theorem dX10_needHeat_2 : decode cX10_needHeat 2 = .ok (.bipush (-40), 2) := by decide +kernel
theorem dX10_needHeat_4 : decode cX10_needHeat 4 = .ok (.bipush 125, 2) := by decide +kernel
theorem dX10_needHeat_6 : decode cX10_needHeat 6 = .ok (.invokevirtual 77, 3) := by decide +kernel
theorem dX10_needHeat_9 : decode cX10_needHeat 9 = .ok (.return_, 1) := by decide +kernel
theorem dX10_needEnrolled_17 : decode cX10_needEnrolled 17 = .ok (.return_, 1) := by decide +kernel
theorem dX10_needEnrolled_0 : decode cX10_needEnrolled 0 = .ok (.aload_n 0, 1) := by decide +kernel
theorem dX10_needEnrolled_1 : decode cX10_needEnrolled 1 = .ok (.getfield 10, 3) := by decide +kernel
theorem dX10_needEnrolled_4 : decode cX10_needEnrolled 4 = .ok (.getfield 98, 3) := by decide +kernel
theorem dX10_needEnrolled_7 : decode cX10_needEnrolled 7 = .ok (.invokevirtual 310, 3) := by decide +kernel
theorem dX10_needEnrolled_10 : decode cX10_needEnrolled 10 = .ok (.ifCond .eq 7, 3) := by decide +kernel
theorem dX10_needEnrolled_13 : decode cX10_needEnrolled 13 = .ok (.aload_n 0, 1) := by decide +kernel
theorem dX10_needEnrolled_14 : decode cX10_needEnrolled 14 = .ok (.invokevirtual 150, 3) := by decide +kernel
theorem dX10_needTrait_60 : decode cX10_needTrait 60 = .ok (.return_, 1) := by decide +kernel
theorem dX10_needTrait_52 : decode cX10_needTrait 52 = .ok (.aload_n 0, 1) := by decide +kernel
theorem dX10_needTrait_53 : decode cX10_needTrait 53 = .ok (.iload_n 2, 1) := by decide +kernel
theorem dX10_needTrait_54 : decode cX10_needTrait 54 = .ok (.iconst 0, 1) := by decide +kernel
theorem dX10_needTrait_55 : decode cX10_needTrait 55 = .ok (.bipush 50, 2) := by decide +kernel
theorem dX10_needTrait_57 : decode cX10_needTrait 57 = .ok (.invokevirtual 77, 3) := by decide +kernel
theorem dX10_needTrait_40 : decode cX10_needTrait 40 = .ok (.aload_n 0, 1) := by decide +kernel
theorem dX10_needTrait_41 : decode cX10_needTrait 41 = .ok (.iload_n 2, 1) := by decide +kernel
theorem dX10_needTrait_42 : decode cX10_needTrait 42 = .ok (.bipush (-99), 2) := by decide +kernel
theorem dX10_needTrait_44 : decode cX10_needTrait 44 = .ok (.bipush 99, 2) := by decide +kernel
theorem dX10_needTrait_46 : decode cX10_needTrait 46 = .ok (.invokevirtual 77, 3) := by decide +kernel
theorem dX10_needTrait_49 : decode cX10_needTrait 49 = .ok (.goto 11, 3) := by decide +kernel
theorem dX10_needTrait_28 : decode cX10_needTrait 28 = .ok (.aload_n 0, 1) := by decide +kernel
theorem dX10_needTrait_29 : decode cX10_needTrait 29 = .ok (.iload_n 2, 1) := by decide +kernel
theorem dX10_needTrait_30 : decode cX10_needTrait 30 = .ok (.iconst 0, 1) := by decide +kernel
theorem dX10_needTrait_31 : decode cX10_needTrait 31 = .ok (.sipush 9999, 3) := by decide +kernel
theorem dX10_needTrait_34 : decode cX10_needTrait 34 = .ok (.invokevirtual 77, 3) := by decide +kernel
theorem dX10_needTrait_37 : decode cX10_needTrait 37 = .ok (.goto 23, 3) := by decide +kernel
theorem dX10_needTrait_0 : decode cX10_needTrait 0 = .ok (.iload_n 1, 1) := by decide +kernel
theorem dX10_needTrait_1 : decode cX10_needTrait 1 = .ok (.lookupswitch 51 #[(0, 27), (1, 39)], 27) := by decide +kernel
/-! refusals -/
def zi_ls2 (k0 k1 kd : zT) : zT := fun ls st h => match st with
  | .inl x :: st' => (x = 0 → k0 ls st' h) ∧ (x = 1 → k1 ls st' h) ∧ (¬ x = 0 → ¬ x = 1 → kd ls st' h)
  | _ => False
theorem zr_lsw2 {X : zX} {Y : zY} {u v pc : Nat} {cc : ByteArray} {own : String} {k0 k1 kd : zT} {df o0 o1 : Int} {len t0 t1 td : Nat} (O : zOK X Y cc own) (d : decode cc pc = .ok (.lookupswitch df #[(0, o0), (1, o1)], len)) (h0 : (pc : Int) + o0 = (t0 : Int)) (h1 : (pc : Int) + o1 = (t1 : Int)) (hd : (pc : Int) + df = (td : Int)) (s0 : zSd X Y u v t0 k0) (s1 : zSd X Y u v t1 k1) (sd : zSd X Y u v td kd) : zSd X Y u v pc (zi_ls2 k0 k1 kd) := by
  intro ls st h t H locs lsA hR hL hv hS
  rcases st with _ | ⟨x | _, st⟩ <;> first | exact False.elim t | skip
  obtain ⟨ta, tb, tc⟩ := t
  by_cases e0 : x = 0
  · exact lv_lookup O.1 O.2.1 d rfl (off := o0) (by rw [e0]; simp [Op.lookupswitch.offset_cons]) h0 (s0 _ _ _ (ta e0) H locs lsA hR hL (zq1 hv).2 hS)
  · by_cases e1 : x = 1
    · exact lv_lookup O.1 O.2.1 d rfl (off := o1) (by rw [e1]; simp [Op.lookupswitch.offset_cons]) h1 (s1 _ _ _ (tb e1) H locs lsA hR hL (zq1 hv).2 hS)
    · have n0 : ¬ x.toInt = 0 := fun z => e0 ((fa_eq _ _).mpr z)
      have n1 : ¬ x.toInt = 1 := fun z => e1 ((fa_eq _ _).mpr z)
      refine lv_lookup O.1 O.2.1 d rfl (off := df) ?_ hd (sd _ _ _ (tc e0 e1) H locs lsA hR hL (zq1 hv).2 hS)
      show Op.lookupswitch.offset [(0, o0), (1, o1)] df x.toInt = df
      rw [Op.lookupswitch.offset_cons, Op.lookupswitch.offset_cons, Op.lookupswitch.offset_nil]
      simp [n0, n1, Ne.symm n0, Ne.symm n1]
def ca_X10_refuseArgument : (Nat) → List zV := fun x => [vR 19 0 x]
def cp_X10_refuseArgument : (Nat) → zH → Prop := fun _ _ => True
def cq_X10_refuseArgument : (Nat) → zH → Option zV → zH → Prop := fun _ _ _ _ => False
def cx_X10_refuseArgument : (Nat) → zH → String → zH → Prop := fun x h E h' => E = eIA ∧ h' = zsI h x 6 (h.1 x 6 + 1)
theorem rc_X10_refuseArgument : ∀ x : (Nat), ∃ (j a : Nat) (As : List zV), ca_X10_refuseArgument x = vR (10 + 9) j a :: As := by
  rintro x
  exact ⟨_, _, _, rfl⟩
set_option maxHeartbeats 4000000 in
set_option maxRecDepth 100000 in
theorem m_X10_refuseArgument : zMx yX10_refuseArgument cX10_refuseArgument 1 none ({ frames := 6, cells := 1, slots := 6, locals := 82 } : Room) ((ca_X10_refuseArgument, cp_X10_refuseArgument, cq_X10_refuseArgument) : zC (Nat)) cx_X10_refuseArgument := by
  refine zMx_of (by decide) ?_
  rintro X Y x h _ O Ex hR
  have E := zEx_E Ex
  have B_0 := zr_aload_n (X := X) (Y := Y) (u := 0) (v := 0) O dX10_refuseArgument_0 rfl (zr_dup O dX10_refuseArgument_1 (zr_gI (ci := 9) (j := 6) O zc_9 (by decide) rfl tw_293 dX10_refuseArgument_2 (zr_iconst (x := 1) O dX10_refuseArgument_5 rfl (zr_iadd O dX10_refuseArgument_6 (zr_pI (ci := 9) (j := 6) O zc_9 (by decide) rfl rfl rfl tw_293 dX10_refuseArgument_7 (zr_thr O Ex (by decide +kernel) xn_0 xk_0 xi_0 ws_RX10_362 xw_0 xb_0 (by decide) xg_0 dX10_refuseArgument_10 dX10_refuseArgument_13 dX10_refuseArgument_14 dX10_refuseArgument_17 dX10_refuseArgument_20 (zrx hR rfl rfl rfl rfl) (Nat.le_of_ble_eq_true rfl) (Nat.le_of_ble_eq_true rfl)))))))
  refine ⟨rfl, Nat.le_of_ble_eq_true rfl, _, B_0, ?_⟩
  exact ⟨rfl, rfl, rfl⟩
def ca_X10_refuseState : (Nat) → List zV := fun x => [vR 19 0 x]
def cp_X10_refuseState : (Nat) → zH → Prop := fun _ _ => True
def cq_X10_refuseState : (Nat) → zH → Option zV → zH → Prop := fun _ _ _ _ => False
def cx_X10_refuseState : (Nat) → zH → String → zH → Prop := fun x h E h' => E = eIS ∧ h' = zsI h x 7 (h.1 x 7 + 1)
theorem rc_X10_refuseState : ∀ x : (Nat), ∃ (j a : Nat) (As : List zV), ca_X10_refuseState x = vR (10 + 9) j a :: As := by
  rintro x
  exact ⟨_, _, _, rfl⟩
set_option maxHeartbeats 4000000 in
set_option maxRecDepth 100000 in
theorem m_X10_refuseState : zMx yX10_refuseState cX10_refuseState 1 none ({ frames := 6, cells := 1, slots := 6, locals := 82 } : Room) ((ca_X10_refuseState, cp_X10_refuseState, cq_X10_refuseState) : zC (Nat)) cx_X10_refuseState := by
  refine zMx_of (by decide) ?_
  rintro X Y x h _ O Ex hR
  have E := zEx_E Ex
  have B_0 := zr_aload_n (X := X) (Y := Y) (u := 0) (v := 0) O dX10_refuseState_0 rfl (zr_dup O dX10_refuseState_1 (zr_gI (ci := 9) (j := 7) O zc_9 (by decide) rfl tw_294 dX10_refuseState_2 (zr_iconst (x := 1) O dX10_refuseState_5 rfl (zr_iadd O dX10_refuseState_6 (zr_pI (ci := 9) (j := 7) O zc_9 (by decide) rfl rfl rfl tw_294 dX10_refuseState_7 (zr_thr O Ex (by decide +kernel) xn_0 xk_2 xi_2 ws_RX10_369 xw_2 xb_2 (by decide) xg_2 dX10_refuseState_10 dX10_refuseState_13 dX10_refuseState_14 dX10_refuseState_17 dX10_refuseState_20 (zrx hR rfl rfl rfl rfl) (Nat.le_of_ble_eq_true rfl) (Nat.le_of_ble_eq_true rfl)))))))
  refine ⟨rfl, Nat.le_of_ble_eq_true rfl, _, B_0, ?_⟩
  exact ⟨rfl, rfl, rfl⟩
def ca_X10_refuseMissing : (Nat) → List zV := fun x => [vR 19 0 x]
def cp_X10_refuseMissing : (Nat) → zH → Prop := fun _ _ => True
def cq_X10_refuseMissing : (Nat) → zH → Option zV → zH → Prop := fun _ _ _ _ => False
def cx_X10_refuseMissing : (Nat) → zH → String → zH → Prop := fun x h E h' => E = eNS ∧ h' = zsI h x 5 (h.1 x 5 + 1)
theorem rc_X10_refuseMissing : ∀ x : (Nat), ∃ (j a : Nat) (As : List zV), ca_X10_refuseMissing x = vR (10 + 9) j a :: As := by
  rintro x
  exact ⟨_, _, _, rfl⟩
set_option maxHeartbeats 4000000 in
set_option maxRecDepth 100000 in
theorem m_X10_refuseMissing : zMx yX10_refuseMissing cX10_refuseMissing 1 none ({ frames := 6, cells := 1, slots := 6, locals := 82 } : Room) ((ca_X10_refuseMissing, cp_X10_refuseMissing, cq_X10_refuseMissing) : zC (Nat)) cx_X10_refuseMissing := by
  refine zMx_of (by decide) ?_
  rintro X Y x h _ O Ex hR
  have E := zEx_E Ex
  have B_0 := zr_aload_n (X := X) (Y := Y) (u := 0) (v := 0) O dX10_refuseMissing_0 rfl (zr_dup O dX10_refuseMissing_1 (zr_gI (ci := 9) (j := 5) O zc_9 (by decide) rfl tw_292 dX10_refuseMissing_2 (zr_iconst (x := 1) O dX10_refuseMissing_5 rfl (zr_iadd O dX10_refuseMissing_6 (zr_pI (ci := 9) (j := 5) O zc_9 (by decide) rfl rfl rfl tw_292 dX10_refuseMissing_7 (zr_thrN O Ex (by decide +kernel) (by decide +kernel) xn_1 (b := prog_30_method_4_code) (by decide +kernel) (by decide +kernel) (by decide +kernel) (by decide +kernel) xk_1 xi_1 ws_RX10_374 xw_1 xb_1 (by decide) xg_1 dX10_refuseMissing_10 dX10_refuseMissing_13 dX10_refuseMissing_14 dX10_refuseMissing_17 dX10_refuseMissing_20 (zrx hR rfl rfl rfl rfl) (Nat.le_of_ble_eq_true rfl) (Nat.le_of_ble_eq_true rfl)))))))
  refine ⟨rfl, Nat.le_of_ble_eq_true rfl, _, B_0, ?_⟩
  exact ⟨rfl, rfl, rfl⟩
/-- what a refusal leaves: the class of what is thrown, the count that grows -/
def xNS (x : Nat) (h : zH) (E : String) (h' : zH) : Prop := E = eNS ∧ h' = zsI h x 5 (h.1 x 5 + 1)
def xIA (x : Nat) (h : zH) (E : String) (h' : zH) : Prop := E = eIA ∧ h' = zsI h x 6 (h.1 x 6 + 1)
def xIS (x : Nat) (h : zH) (E : String) (h' : zH) : Prop := E = eIS ∧ h' = zsI h x 7 (h.1 x 7 + 1)
def ca_X10_needCounted : (Nat × Int32 × Int32) → List zV := fun (x, i, n) => [vR 19 0 x, vI i, vI n]
def cp_X10_needCounted : (Nat × Int32 × Int32) → zH → Prop := fun _ _ => True
def cq_X10_needCounted : (Nat × Int32 × Int32) → zH → Option zV → zH → Prop := fun (x, i, n) h r h' => r = none ∧ h' = h ∧ (0 ≤ i ∧ i < n)
def cx_X10_needCounted : (Nat × Int32 × Int32) → zH → String → zH → Prop := fun (x, i, n) h E h' => ¬ (0 ≤ i ∧ i < n) ∧ xNS x h E h'
theorem rc_X10_needCounted : ∀ x : (Nat × Int32 × Int32), ∃ (j a : Nat) (As : List zV), ca_X10_needCounted x = vR (10 + 9) j a :: As := by
  rintro ⟨x, i, n⟩
  exact ⟨_, _, _, rfl⟩
set_option maxHeartbeats 4000000 in
set_option maxRecDepth 100000 in
theorem m_X10_needCounted : zMx yX10_needCounted cX10_needCounted 3 none ({ frames := 7, cells := 1, slots := 6, locals := 102 } : Room) ((ca_X10_needCounted, cp_X10_needCounted, cq_X10_needCounted) : zC (Nat × Int32 × Int32)) cx_X10_needCounted := by
  refine zMx_of (by decide) ?_
  rintro X Y ⟨x, i, n⟩ h _ O Ex hR
  have E := zEx_E Ex
  have B_13 := zr_return (X := X) (Y := Y) (u := 1) (v := 6) O E (Nat.le_of_ble_eq_true rfl) (Nat.le_of_ble_eq_true rfl) dX10_needCounted_13
  have B_9 := zr_aload_n (X := X) (Y := Y) (u := 0) (v := 0) O dX10_needCounted_9 rfl (zr_xV (u' := 1) (v' := 6) (ci := 9) (n := 0) O Ex m_X10_refuseMissing (bn_X10_refuseMissing { frames := 0, cells := 0, slots := 0, locals := 0 } ⟨rfl, rfl⟩) vw_X10_refuseMissing tw_713 rc_X10_refuseMissing (zrx hR rfl rfl rfl rfl) (Nat.le_of_ble_eq_true rfl) (Nat.le_of_ble_eq_true rfl) (Nat.le_of_ble_eq_true rfl) (Nat.le_of_ble_eq_true rfl) dX10_needCounted_10 (B_13))
  have B_0 := zr_iload_n (X := X) (Y := Y) (u := 0) (v := 0) O dX10_needCounted_0 rfl (zr_iflt (tgt := 9) O dX10_needCounted_1 rfl B_9 (zr_iload_n O dX10_needCounted_4 rfl (zr_iload_n O dX10_needCounted_5 rfl (zr_iclt (tgt := 13) O dX10_needCounted_6 rfl (zSd_more B_13 (Nat.le_of_ble_eq_true rfl) (Nat.le_of_ble_eq_true rfl)) (B_9)))))
  refine ⟨rfl, Nat.le_of_ble_eq_true rfl, _, B_0, ?_⟩
  have key : ¬ ((0 : Int32) ≤ i ∧ i < n) → ∀ (E : String) (h' : zH), cx_X10_refuseMissing x h E h' → cx_X10_needCounted (x, i, n) h E h' := fun hc E h' hd => ⟨hc, hd⟩
  refine ⟨fun cq => ⟨x, rfl, trivial, key (fun z => Int32.not_le.mpr cq z.1), fun r h' hq => hq.elim⟩, fun cq => ⟨fun dq => ⟨rfl, rfl, Int32.not_lt.mp cq, dq⟩, fun dq => ⟨x, rfl, trivial, key (fun z => dq z.2), fun r h' hq => hq.elim⟩⟩⟩
def ca_X10_needBetween : (Nat × Int32 × Int32 × Int32) → List zV := fun (x, i, lo, up) => [vR 19 0 x, vI i, vI lo, vI up]
def cp_X10_needBetween : (Nat × Int32 × Int32 × Int32) → zH → Prop := fun _ _ => True
def cq_X10_needBetween : (Nat × Int32 × Int32 × Int32) → zH → Option zV → zH → Prop := fun (x, i, lo, up) h r h' => r = none ∧ h' = h ∧ (lo ≤ i ∧ i ≤ up)
def cx_X10_needBetween : (Nat × Int32 × Int32 × Int32) → zH → String → zH → Prop := fun (x, i, lo, up) h E h' => ¬ (lo ≤ i ∧ i ≤ up) ∧ xIA x h E h'
theorem rc_X10_needBetween : ∀ x : (Nat × Int32 × Int32 × Int32), ∃ (j a : Nat) (As : List zV), ca_X10_needBetween x = vR (10 + 9) j a :: As := by
  rintro ⟨x, i, lo, up⟩
  exact ⟨_, _, _, rfl⟩
set_option maxHeartbeats 4000000 in
set_option maxRecDepth 100000 in
theorem m_X10_needBetween : zMx yX10_needBetween cX10_needBetween 4 none ({ frames := 7, cells := 1, slots := 6, locals := 102 } : Room) ((ca_X10_needBetween, cp_X10_needBetween, cq_X10_needBetween) : zC (Nat × Int32 × Int32 × Int32)) cx_X10_needBetween := by
  refine zMx_of (by decide) ?_
  rintro X Y ⟨x, i, lo, up⟩ h _ O Ex hR
  have E := zEx_E Ex
  have B_14 := zr_return (X := X) (Y := Y) (u := 1) (v := 6) O E (Nat.le_of_ble_eq_true rfl) (Nat.le_of_ble_eq_true rfl) dX10_needBetween_14
  have B_10 := zr_aload_n (X := X) (Y := Y) (u := 0) (v := 0) O dX10_needBetween_10 rfl (zr_xV (u' := 1) (v' := 6) (ci := 9) (n := 0) O Ex m_X10_refuseArgument (bn_X10_refuseArgument { frames := 0, cells := 0, slots := 0, locals := 0 } ⟨rfl, rfl⟩) vw_X10_refuseArgument tw_461 rc_X10_refuseArgument (zrx hR rfl rfl rfl rfl) (Nat.le_of_ble_eq_true rfl) (Nat.le_of_ble_eq_true rfl) (Nat.le_of_ble_eq_true rfl) (Nat.le_of_ble_eq_true rfl) dX10_needBetween_11 (B_14))
  have B_0 := zr_iload_n (X := X) (Y := Y) (u := 0) (v := 0) O dX10_needBetween_0 rfl (zr_iload_n O dX10_needBetween_1 rfl (zr_iclt (tgt := 10) O dX10_needBetween_2 rfl B_10 (zr_iload_n O dX10_needBetween_5 rfl (zr_iload_n O dX10_needBetween_6 rfl (zr_icle (tgt := 14) O dX10_needBetween_7 rfl (zSd_more B_14 (Nat.le_of_ble_eq_true rfl) (Nat.le_of_ble_eq_true rfl)) (B_10))))))
  refine ⟨rfl, Nat.le_of_ble_eq_true rfl, _, B_0, ?_⟩
  have key : ¬ (lo ≤ i ∧ i ≤ up) → ∀ (E : String) (h' : zH), cx_X10_refuseArgument x h E h' → cx_X10_needBetween (x, i, lo, up) h E h' := fun hc E h' hd => ⟨hc, hd⟩
  refine ⟨fun cq => ⟨x, rfl, trivial, key (fun z => Int32.not_le.mpr cq z.1), fun r h' hq => hq.elim⟩, fun cq => ⟨fun dq => ⟨rfl, rfl, Int32.not_lt.mp cq, dq⟩, fun dq => ⟨x, rfl, trivial, key (fun z => dq z.2), fun r h' hq => hq.elim⟩⟩⟩
def ca_X10_needHeat : (Nat × Int32) → List zV := fun (x, te) => [vR 19 0 x, vI te]
def cp_X10_needHeat : (Nat × Int32) → zH → Prop := fun _ _ => True
def cq_X10_needHeat : (Nat × Int32) → zH → Option zV → zH → Prop := fun (x, te) h r h' => r = none ∧ h' = h ∧ (-40 ≤ te ∧ te ≤ 125)
def cx_X10_needHeat : (Nat × Int32) → zH → String → zH → Prop := fun (x, te) h E h' => ¬ (-40 ≤ te ∧ te ≤ 125) ∧ xIA x h E h'
theorem rc_X10_needHeat : ∀ x : (Nat × Int32), ∃ (j a : Nat) (As : List zV), ca_X10_needHeat x = vR (10 + 9) j a :: As := by
  rintro ⟨x, te⟩
  exact ⟨_, _, _, rfl⟩
set_option maxHeartbeats 4000000 in
set_option maxRecDepth 100000 in
theorem m_X10_needHeat : zMx yX10_needHeat cX10_needHeat 2 none ({ frames := 8, cells := 1, slots := 6, locals := 125 } : Room) ((ca_X10_needHeat, cp_X10_needHeat, cq_X10_needHeat) : zC (Nat × Int32)) cx_X10_needHeat := by
  refine zMx_of (by decide) ?_
  rintro X Y ⟨x, te⟩ h _ O Ex hR
  have E := zEx_E Ex
  have B_0 := zr_aload_n (X := X) (Y := Y) (u := 0) (v := 0) O dX10_needHeat_0 rfl (zr_iload_n O dX10_needHeat_1 rfl (zr_bipush (x := (-40)) O dX10_needHeat_2 (by decide) (zr_bipush (x := (125)) O dX10_needHeat_4 (by decide) (zr_xV (u' := 1) (v' := 6) (ci := 9) (n := 3) O Ex m_X10_needBetween (bn_X10_needBetween { frames := 0, cells := 0, slots := 0, locals := 0 } ⟨rfl, rfl⟩) vw_X10_needBetween tw_457 rc_X10_needBetween (zrx hR rfl rfl rfl rfl) (Nat.le_of_ble_eq_true rfl) (Nat.le_of_ble_eq_true rfl) (Nat.le_of_ble_eq_true rfl) (Nat.le_of_ble_eq_true rfl) dX10_needHeat_6 (zr_return O E (Nat.le_of_ble_eq_true rfl) (Nat.le_of_ble_eq_true rfl) dX10_needHeat_9)))))
  refine ⟨rfl, Nat.le_of_ble_eq_true rfl, _, B_0, ?_⟩
  refine ⟨(x, te, -40, 125), rfl, trivial, fun E h' hd => hd, fun r h' hq => ?_⟩
  obtain ⟨rfl, rfl, hq⟩ := hq
  exact ⟨rfl, rfl, hq⟩
def ca_X10_needEnrolled : (zQ × Nat) → List zV := fun (Q, x) => [vR 19 0 x]
def cp_X10_needEnrolled : (zQ × Nat) → zH → Prop := fun (Q, x) h => rpN Q h x
def cq_X10_needEnrolled : (zQ × Nat) → zH → Option zV → zH → Prop := fun (Q, x) h r h' => r = none ∧ h' = h ∧ 0 < eN Q.2.1
def cx_X10_needEnrolled : (zQ × Nat) → zH → String → zH → Prop := fun (Q, x) h E h' => eN Q.2.1 = 0 ∧ xIS x h E h'
theorem rc_X10_needEnrolled : ∀ x : (zQ × Nat), ∃ (j a : Nat) (As : List zV), ca_X10_needEnrolled x = vR (10 + 9) j a :: As := by
  rintro ⟨⟨S, K, M⟩, x⟩
  exact ⟨_, _, _, rfl⟩
set_option maxHeartbeats 4000000 in
set_option maxRecDepth 100000 in
theorem m_X10_needEnrolled : zMx yX10_needEnrolled cX10_needEnrolled 1 none ({ frames := 7, cells := 1, slots := 6, locals := 102 } : Room) ((ca_X10_needEnrolled, cp_X10_needEnrolled, cq_X10_needEnrolled) : zC (zQ × Nat)) cx_X10_needEnrolled := by
  refine zMx_of (by decide) ?_
  rintro X Y ⟨⟨S, K, M⟩, x⟩ h hN O Ex hR
  have E := zEx_E Ex
  have B_17 := zr_return (X := X) (Y := Y) (u := 1) (v := 6) O E (Nat.le_of_ble_eq_true rfl) (Nat.le_of_ble_eq_true rfl) dX10_needEnrolled_17
  have B_0 := zr_aload_n (X := X) (Y := Y) (u := 0) (v := 0) O dX10_needEnrolled_0 rfl (zr_gR (ci := 9) (j := 0) (off := 0) (t := 16) (n := 0) O zc_9 (by decide) rfl tw_287 dX10_needEnrolled_1 (zr_gS (ci := 6) (j := 1) (off := 8) (t := 10) (n := 0) O zc_6 (by decide) rfl tw_175 dX10_needEnrolled_4 (zr_cI (zr_cV (ci := 0) (n := 0) O m_X1_isEmpty (bn_X1_isEmpty _ ⟨rfl, rfl⟩) vw_X1_isEmpty tw_863 rc_X1_isEmpty (zrx hR rfl rfl rfl rfl) dX10_needEnrolled_7 (zr_ifeq (tgt := 17) O dX10_needEnrolled_10 rfl (zSd_more B_17 (Nat.le_of_ble_eq_true rfl) (Nat.le_of_ble_eq_true rfl)) (zr_aload_n O dX10_needEnrolled_13 rfl (zr_xV (u' := 1) (v' := 6) (ci := 9) (n := 0) O Ex m_X10_refuseState (bn_X10_refuseState { frames := 0, cells := 0, slots := 0, locals := 0 } ⟨rfl, rfl⟩) vw_X10_refuseState tw_781 rc_X10_refuseState (zrx hR rfl rfl rfl rfl) (Nat.le_of_ble_eq_true rfl) (Nat.le_of_ble_eq_true rfl) (Nat.le_of_ble_eq_true rfl) (Nat.le_of_ble_eq_true rfl) dX10_needEnrolled_14 (B_17))))))))
  refine ⟨rfl, Nat.le_of_ble_eq_true rfl, _, B_0, ?_⟩
  have hE : rpE K h (h.2.2 x 0 + 8) := hN.1.2.1
  refine ⟨(h.2.2 x 0 + 8, eN K), rfl, ⟨hE.1, hE.2.1.1⟩, fun cq => ⟨rfl, rfl, ?_⟩, fun cq => ⟨x, rfl, trivial, fun E h' hd => ⟨?_, hd⟩, fun r h' hq => hq.elim⟩⟩
  · have hz : ¬ eN K = 0 := of_decide_eq_false ((bI_0 _).mp cq)
    exact Nat.pos_of_ne_zero hz
  · show eN K = 0
    rcases Nat.eq_zero_or_pos (eN K) with z | z
    · exact z
    · exact absurd ((bI_0 _).mpr (decide_eq_false (by omega))) cq
/-- which numbers a setting and a ring's trait may be -/
def okT (w v : Int32) : Prop := if w = 0 then 0 ≤ v ∧ v ≤ 9999 else if w = 1 then -99 ≤ v ∧ v ≤ 99 else 0 ≤ v ∧ v ≤ 50
def ca_X10_needTrait : (Nat × Int32 × Int32) → List zV := fun (x, w, v) => [vR 19 0 x, vI w, vI v]
def cp_X10_needTrait : (Nat × Int32 × Int32) → zH → Prop := fun _ _ => True
def cq_X10_needTrait : (Nat × Int32 × Int32) → zH → Option zV → zH → Prop := fun (x, w, v) h r h' => r = none ∧ h' = h ∧ okT w v
def cx_X10_needTrait : (Nat × Int32 × Int32) → zH → String → zH → Prop := fun (x, w, v) h E h' => ¬ okT w v ∧ xIA x h E h'
theorem rc_X10_needTrait : ∀ x : (Nat × Int32 × Int32), ∃ (j a : Nat) (As : List zV), ca_X10_needTrait x = vR (10 + 9) j a :: As := by
  rintro ⟨x, w, v⟩
  exact ⟨_, _, _, rfl⟩
set_option maxHeartbeats 4000000 in
set_option maxRecDepth 100000 in
theorem m_X10_needTrait : zMx yX10_needTrait cX10_needTrait 3 none ({ frames := 8, cells := 1, slots := 6, locals := 125 } : Room) ((ca_X10_needTrait, cp_X10_needTrait, cq_X10_needTrait) : zC (Nat × Int32 × Int32)) cx_X10_needTrait := by
  refine zMx_of (by decide) ?_
  rintro X Y ⟨x, w, v⟩ h _ O Ex hR
  have E := zEx_E Ex
  have B_60 := zr_return (X := X) (Y := Y) (u := 1) (v := 6) O E (Nat.le_of_ble_eq_true rfl) (Nat.le_of_ble_eq_true rfl) dX10_needTrait_60
  have B_52 := zr_aload_n (X := X) (Y := Y) (u := 0) (v := 0) O dX10_needTrait_52 rfl (zr_iload_n O dX10_needTrait_53 rfl (zr_iconst (x := 0) O dX10_needTrait_54 rfl (zr_bipush (x := (50)) O dX10_needTrait_55 (by decide) (zr_xV (u' := 1) (v' := 6) (ci := 9) (n := 3) O Ex m_X10_needBetween (bn_X10_needBetween { frames := 0, cells := 0, slots := 0, locals := 0 } ⟨rfl, rfl⟩) vw_X10_needBetween tw_457 rc_X10_needBetween (zrx hR rfl rfl rfl rfl) (Nat.le_of_ble_eq_true rfl) (Nat.le_of_ble_eq_true rfl) (Nat.le_of_ble_eq_true rfl) (Nat.le_of_ble_eq_true rfl) dX10_needTrait_57 (B_60)))))
  have B_40 := zr_aload_n (X := X) (Y := Y) (u := 0) (v := 0) O dX10_needTrait_40 rfl (zr_iload_n O dX10_needTrait_41 rfl (zr_bipush (x := (-99)) O dX10_needTrait_42 (by decide) (zr_bipush (x := (99)) O dX10_needTrait_44 (by decide) (zr_xV (u' := 1) (v' := 6) (ci := 9) (n := 3) O Ex m_X10_needBetween (bn_X10_needBetween { frames := 0, cells := 0, slots := 0, locals := 0 } ⟨rfl, rfl⟩) vw_X10_needBetween tw_457 rc_X10_needBetween (zrx hR rfl rfl rfl rfl) (Nat.le_of_ble_eq_true rfl) (Nat.le_of_ble_eq_true rfl) (Nat.le_of_ble_eq_true rfl) (Nat.le_of_ble_eq_true rfl) dX10_needTrait_46 (zr_goto (tgt := 60) O dX10_needTrait_49 rfl B_60)))))
  have B_28 := zr_aload_n (X := X) (Y := Y) (u := 0) (v := 0) O dX10_needTrait_28 rfl (zr_iload_n O dX10_needTrait_29 rfl (zr_iconst (x := 0) O dX10_needTrait_30 rfl (zr_sipush (x := (9999)) O dX10_needTrait_31 (by decide) (zr_xV (u' := 1) (v' := 6) (ci := 9) (n := 3) O Ex m_X10_needBetween (bn_X10_needBetween { frames := 0, cells := 0, slots := 0, locals := 0 } ⟨rfl, rfl⟩) vw_X10_needBetween tw_457 rc_X10_needBetween (zrx hR rfl rfl rfl rfl) (Nat.le_of_ble_eq_true rfl) (Nat.le_of_ble_eq_true rfl) (Nat.le_of_ble_eq_true rfl) (Nat.le_of_ble_eq_true rfl) dX10_needTrait_34 (zr_goto (tgt := 60) O dX10_needTrait_37 rfl B_60)))))
  have B_0 := zr_iload_n (X := X) (Y := Y) (u := 0) (v := 0) O dX10_needTrait_0 rfl (zr_lsw2 (t0 := 28) (t1 := 40) (td := 52) O dX10_needTrait_1 rfl rfl rfl B_28 B_40 B_52)
  refine ⟨rfl, Nat.le_of_ble_eq_true rfl, _, B_0, ?_⟩
  refine ⟨fun e0 => ⟨(x, v, 0, 9999), rfl, trivial, fun E h' hd => ⟨?_, hd.2⟩, fun r h' hq => ?_⟩, fun e1 => ⟨(x, v, -99, 99), rfl, trivial, fun E h' hd => ⟨?_, hd.2⟩, fun r h' hq => ?_⟩, fun e0 e1 => ⟨(x, v, 0, 50), rfl, trivial, fun E h' hd => ⟨?_, hd.2⟩, fun r h' hq => ?_⟩⟩
  · rw [okT, if_pos e0]; exact hd.1
  · obtain ⟨rfl, rfl, hq⟩ := hq
    refine ⟨rfl, rfl, ?_⟩
    rw [okT, if_pos e0]; exact hq
  · rw [okT, e1, if_neg (by decide), if_pos rfl]; exact hd.1
  · obtain ⟨rfl, rfl, hq⟩ := hq
    refine ⟨rfl, rfl, ?_⟩
    rw [okT, e1, if_neg (by decide), if_pos rfl]; exact hq
  · rw [okT, if_neg e0, if_neg e1]; exact hd.1
  · obtain ⟨rfl, rfl, hq⟩ := hq
    refine ⟨rfl, rfl, ?_⟩
    rw [okT, if_neg e0, if_neg e1]; exact hq

