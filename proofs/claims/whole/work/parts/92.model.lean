/-! constructors without a loop -/
def cl0 : Cell := arrV 0 0 (fun _ => .int 0)
theorem tv_2 : Cond.initialized RX7 ∈ zTW := zmem1 2 rfl rfl
theorem tv_3 : Cond.initialized RX6 ∈ zTW := zmem1 3 rfl rfl
theorem tv_4 : Cond.initialized RX1 ∈ zTW := zmem1 4 rfl rfl
theorem tv_5 : Cond.initialized RX3 ∈ zTW := zmem1 5 rfl rfl
theorem tv_6 : Cond.initialized RX8 ∈ zTW := zmem1 6 rfl rfl
theorem tv_7 : Cond.initialized RX5 ∈ zTW := zmem1 7 rfl rfl
theorem tv_8 : Cond.initialized RX4 ∈ zTW := zmem1 8 rfl rfl
theorem tv_9 : Cond.initialized RX9 ∈ zTW := zmem1 9 rfl rfl
theorem tv_32 : Cond.instanceMethod objectInit ∈ zTW := zmem1 32 rfl rfl
theorem tv_33 : Cond.code objectInit ⟨#[0xb1]⟩ 1 none ∈ zTW := zmem1 33 rfl rfl
theorem tv_35 : Cond.instantiable RX7 3 ∈ zTW := zmem1 35 rfl rfl
theorem tv_37 : Cond.instanceMethod yX7_init ∈ zTW := zmem1 37 rfl rfl
theorem tv_38 : Cond.code yX7_init cX7_init 1 none ∈ zTW := zmem1 38 rfl rfl
theorem tv_39 : Cond.methodLink RX7 1 objectInit ∈ zTW := zmem1 39 rfl rfl
theorem tv_40 : Cond.classLink RX7 7 RX6 ∈ zTW := zmem1 40 rfl rfl
theorem tv_41 : Cond.instantiable RX6 8 ∈ zTW := zmem1 41 rfl rfl
theorem tv_42 : Cond.methodLink RX7 9 yX6_init ∈ zTW := zmem1 42 rfl rfl
theorem tv_43 : Cond.instanceMethod yX6_init ∈ zTW := zmem1 43 rfl rfl
theorem tv_44 : Cond.code yX6_init cX6_init 1 none ∈ zTW := zmem1 44 rfl rfl
theorem tv_45 : Cond.methodLink RX6 3 objectInit ∈ zTW := zmem1 45 rfl rfl
theorem tv_50 : Cond.fieldLink RX6 9 (TX6 1).1 (TX6 1).2.1 (TX6 1).2.2.1 ∈ zTW := zmem1 50 rfl rfl
theorem tv_51 : Cond.fieldLink RX6 15 (TX6 2).1 (TX6 2).2.1 (TX6 2).2.2.1 ∈ zTW := zmem1 51 rfl rfl
theorem tv_52 : Cond.fieldLink RX6 18 (TX6 3).1 (TX6 3).2.1 (TX6 3).2.2.1 ∈ zTW := zmem1 52 rfl rfl
theorem tv_59 : Cond.fieldLink RX6 21 (TX6 5).1 (TX6 5).2.1 (TX6 5).2.2.1 ∈ zTW := zmem1 59 rfl rfl
theorem tv_66 : Cond.fieldLink RX6 24 (TX6 6).1 (TX6 6).2.1 (TX6 6).2.2.1 ∈ zTW := zmem1 66 rfl rfl
theorem tv_73 : Cond.fieldLink RX6 27 (TX6 7).1 (TX6 7).2.1 (TX6 7).2.2.1 ∈ zTW := zmem1 73 rfl rfl
theorem tv_94 : Cond.arrayClass .int ∈ zTW := zmem1 94 rfl rfl
theorem tv_95 : Cond.classLink RX7 16 RX1 ∈ zTW := zmem1 95 rfl rfl
theorem tv_96 : Cond.instantiable RX1 9 ∈ zTW := zmem1 96 rfl rfl
theorem tv_98 : Cond.instanceMethod yX1_init ∈ zTW := zmem1 98 rfl rfl
theorem tv_99 : Cond.code yX1_init cX1_init 1 none ∈ zTW := zmem1 99 rfl rfl
theorem tv_100 : Cond.methodLink RX1 3 objectInit ∈ zTW := zmem1 100 rfl rfl
theorem tv_104 : Cond.fieldLink RX1 9 (TX1 1).1 (TX1 1).2.1 (TX1 1).2.2.1 ∈ zTW := zmem1 104 rfl rfl
theorem tv_146 : Cond.classLink RX7 23 RX3 ∈ zTW := zmem1 146 rfl rfl
theorem tv_147 : Cond.instantiable RX3 5 ∈ zTW := zmem1 147 rfl rfl
theorem tv_149 : Cond.instanceMethod yX3_init ∈ zTW := zmem1 149 rfl rfl
theorem tv_150 : Cond.code yX3_init cX3_init 1 none ∈ zTW := zmem1 150 rfl rfl
theorem tv_151 : Cond.methodLink RX3 3 objectInit ∈ zTW := zmem1 151 rfl rfl
theorem tv_154 : Cond.fieldLink RX3 9 (TX3 1).1 (TX3 1).2.1 (TX3 1).2.2.1 ∈ zTW := zmem1 154 rfl rfl
theorem tv_157 : Cond.fieldLink RX3 15 (TX3 4).1 (TX3 4).2.1 (TX3 4).2.2.1 ∈ zTW := zmem1 157 rfl rfl
theorem tv_170 : Cond.fieldLink RX7 10 (TX7 0).1 (TX7 0).2.1 (TX7 0).2.2.1 ∈ zTW := zmem1 170 rfl rfl
theorem tv_173 : Cond.fieldLink RX7 19 (TX7 1).1 (TX7 1).2.1 (TX7 1).2.2.1 ∈ zTW := zmem1 173 rfl rfl
theorem tv_176 : Cond.fieldLink RX7 26 (TX7 2).1 (TX7 2).2.1 (TX7 2).2.2.1 ∈ zTW := zmem1 176 rfl rfl
theorem tv_187 : Cond.instantiable RX8 8 ∈ zTW := zmem1 187 rfl rfl
theorem tv_189 : Cond.instanceMethod yX8_init ∈ zTW := zmem1 189 rfl rfl
theorem tv_190 : Cond.code yX8_init cX8_init 1 none ∈ zTW := zmem1 190 rfl rfl
theorem tv_191 : Cond.methodLink RX8 3 objectInit ∈ zTW := zmem1 191 rfl rfl
theorem tv_192 : Cond.classLink RX8 9 RX6 ∈ zTW := zmem1 192 rfl rfl
theorem tv_193 : Cond.methodLink RX8 11 yX6_init ∈ zTW := zmem1 193 rfl rfl
theorem tv_194 : Cond.fieldLink RX8 12 (TX8 0).1 (TX8 0).2.1 (TX8 0).2.2.1 ∈ zTW := zmem1 194 rfl rfl
theorem tv_196 : Cond.fieldLink RX8 18 (TX8 1).1 (TX8 1).2.1 (TX8 1).2.2.1 ∈ zTW := zmem1 196 rfl rfl
theorem tv_199 : Cond.fieldLink RX8 22 (TX8 3).1 (TX8 3).2.1 (TX8 3).2.2.1 ∈ zTW := zmem1 199 rfl rfl
theorem tv_223 : Cond.instantiable RX5 4 ∈ zTW := zmem1 223 rfl rfl
theorem tv_225 : Cond.instanceMethod yX5_init ∈ zTW := zmem1 225 rfl rfl
theorem tv_226 : Cond.code yX5_init cX5_init 1 none ∈ zTW := zmem1 226 rfl rfl
theorem tv_227 : Cond.methodLink RX5 1 objectInit ∈ zTW := zmem1 227 rfl rfl
theorem tv_246 : Cond.instantiable RX4 1 ∈ zTW := zmem2 6 rfl rfl
theorem tv_248 : Cond.instanceMethod yX4_init ∈ zTW := zmem2 8 rfl rfl
theorem tv_249 : Cond.code yX4_init cX4_init 1 none ∈ zTW := zmem2 9 rfl rfl
theorem tv_250 : Cond.methodLink RX4 3 objectInit ∈ zTW := zmem2 10 rfl rfl
theorem tv_251 : Cond.fieldLink RX4 9 (TX4 0).1 (TX4 0).2.1 (TX4 0).2.2.1 ∈ zTW := zmem2 11 rfl rfl
theorem tv_258 : Cond.instantiable RX9 3 ∈ zTW := zmem2 18 rfl rfl
theorem tv_260 : Cond.instanceMethod yX9_init ∈ zTW := zmem2 20 rfl rfl
theorem tv_261 : Cond.code yX9_init cX9_init 1 none ∈ zTW := zmem2 21 rfl rfl
theorem tv_262 : Cond.methodLink RX9 3 objectInit ∈ zTW := zmem2 22 rfl rfl
theorem tv_263 : Cond.fieldLink RX9 9 (TX9 0).1 (TX9 0).2.1 (TX9 0).2.2.1 ∈ zTW := zmem2 23 rfl rfl
theorem tv_264 : Cond.fieldLink RX9 15 (TX9 1).1 (TX9 1).2.1 (TX9 1).2.2.1 ∈ zTW := zmem2 24 rfl rfl
theorem tv_265 : Cond.fieldLink RX9 18 (TX9 2).1 (TX9 2).2.1 (TX9 2).2.2.1 ∈ zTW := zmem2 25 rfl rfl
theorem tv_273 : Cond.arrayClass .long ∈ zTW := zmem2 33 rfl rfl
theorem zF_2 {ci k : Nat} (h : (zF ci k).1 = 2) : ci = 9 ∧ k = 0 := by
  unfold zF at h
  split at h <;> first | exact ⟨rfl, rfl⟩ | (exfalso; revert h; decide)
theorem iw_5 {Y : zY} {q : Nat} (h : yK Y q = (1, 5)) : some (arrV (yC Y 1) 5 (fun i => Value.int (va_up (va_up (va_up (fun _ => 0) 1 20) 2 20) 4 3 i))) = some (vp_cell (yC Y 1) (5, .inl ((zh0 Y).1 q))) := by
  show _ = some (arrV (yC Y 1) 5 (fun i => Value.int (iw (yK Y q) i)))
  rw [h]
  congr 2
  funext i
  congr 1
  by_cases e1 : i = 1
  · subst e1; rfl
  · by_cases e2 : i = 2
    · subst e2; rfl
    · by_cases e4 : i = 4
      · subst e4; rfl
      · simp [va_up, iw, e1, e2, e4]
theorem dX1_init_0 : decode cX1_init 0 = .ok (.aload_n 0, 1) := by decide +kernel
theorem dX1_init_1 : decode cX1_init 1 = .ok (.invokespecial 3, 3) := by decide +kernel
theorem dX1_init_4 : decode cX1_init 4 = .ok (.aload_n 0, 1) := by decide +kernel
theorem dX1_init_5 : decode cX1_init 5 = .ok (.bipush 28, 2) := by decide +kernel
theorem dX1_init_7 : decode cX1_init 7 = .ok (.newarray .int, 2) := by decide +kernel
theorem dX1_init_9 : decode cX1_init 9 = .ok (.putfield 9, 3) := by decide +kernel
theorem dX1_init_12 : decode cX1_init 12 = .ok (.return_, 1) := by decide +kernel
def kl_0 : List (Nat × Nat) := [(10, 0), (1, 28)]
set_option maxHeartbeats 4000000 in
set_option maxRecDepth 100000 in
theorem ct_0 : zCt yX1_init cX1_init 1 ({ frames := 1, cells := 1, slots := 28, locals := 12 } : Room) 0 2 28 kl_0 (fun Y _ => zh0 Y) := by
  refine zCt_of rfl rfl (by omega) ?_
  intro X Y a ls hkd O hR hr hlk hQ hml hsz hl
  refine ⟨cl0, ?_⟩
  refine cr_al (pc := 0) (u := 0) (v := 0) (n := a + 1) O dX1_init_0 (lv_at hl 0 rfl) ?_
  refine cr_ob (pc := 1) (u := 0) (v := 0) (n := a + 1) O tv_100 tv_32 tv_33 dX1_init_1 (by rw [hml]; exact hl.1) (by rw [hR]; exact Nat.le_of_ble_eq_true rfl) (by rw [hR]; exact Nat.le_of_ble_eq_true rfl) ?_
  refine cr_al (pc := 4) (u := 0) (v := 0) (n := a + 1) O dX1_init_4 (lv_at hl 0 rfl) ?_
  refine cr_bi (pc := 5) (u := 0) (v := 0) (n := a + 1) (x := nI 28) O dX1_init_5 (by decide) ?_
  refine cr_nI (k := 28) (pc := 7) (u := 0) (v := 0) (n := a + 1) O tv_94 dX1_init_7 (by omega) (by omega) (hkd 1 (by omega)) (by rw [hR]; exact Nat.le_of_ble_eq_true rfl) (by rw [hR]; exact Nat.le_of_ble_eq_true rfl) ?_
  refine cr_pF (pc := 9) (u := 1) (v := 28) (n := a + 2) (j := 1) (x := .ref (a + 1)) O zc_0 (by omega) rfl rfl tv_104 rfl rfl dX1_init_9 ?_
  refine cr_rt (cnt := 2) O rfl hr hlk hQ dX1_init_12 rfl (hkd 0 (by omega)) (fun C T N hC => ?_) (fun k hk => absurd (zF_2 hk).1 (by decide))
  cases hC
  intro k hk
  have e0 : yK Y a = (10, 0) := hkd 0 (by omega)
  rcases (show k = 0 ∨ k = 1 ∨ k = 2 ∨ k = 3 ∨ k = 4 ∨ k = 5 ∨ k = 6 ∨ k = 7 ∨ k = 8 by omega) with rfl | rfl | rfl | rfl | rfl | rfl | rfl | rfl | rfl
  · show _ = Value.int (iw (yK Y a) 0); rw [e0]; rfl
  · rfl
  · show _ = Value.int (iw (yK Y a) 2); rw [e0]; rfl
  · show _ = Value.int (iw (yK Y a) 3); rw [e0]; rfl
  · show _ = Value.int (iw (yK Y a) 4); rw [e0]; rfl
  · show _ = Value.int (iw (yK Y a) 5); rw [e0]; rfl
  · show _ = Value.int (iw (yK Y a) 6); rw [e0]; rfl
  · show _ = Value.int (iw (yK Y a) 7); rw [e0]; rfl
  · show _ = Value.int (iw (yK Y a) 8); rw [e0]; rfl
theorem mk_0 : zMk yX1_init cX1_init 1 ({ frames := 1, cells := 1, slots := 28, locals := 12 } : Room) 0 2 28 kl_0 (fun Y _ => zh0 Y) RX1 9 := ⟨ct_0, ⟨TX1, tyX1, zc_0, fun j hj => by
  rcases (show j = 0 ∨ j = 1 ∨ j = 2 ∨ j = 3 ∨ j = 4 ∨ j = 5 ∨ j = 6 ∨ j = 7 ∨ j = 8 by omega) with rfl | rfl | rfl | rfl | rfl | rfl | rfl | rfl | rfl <;> rfl⟩, ⟨tv_96, tv_4⟩, ⟨rfl, rfl, tv_98, tv_99⟩, ⟨by decide, by decide, by decide +kernel⟩, rfl, rfl, Nat.le_of_ble_eq_true rfl⟩
theorem dX3_init_0 : decode cX3_init 0 = .ok (.aload_n 0, 1) := by decide +kernel
theorem dX3_init_1 : decode cX3_init 1 = .ok (.invokespecial 3, 3) := by decide +kernel
theorem dX3_init_4 : decode cX3_init 4 = .ok (.aload_n 0, 1) := by decide +kernel
theorem dX3_init_5 : decode cX3_init 5 = .ok (.bipush 28, 2) := by decide +kernel
theorem dX3_init_7 : decode cX3_init 7 = .ok (.newarray .int, 2) := by decide +kernel
theorem dX3_init_9 : decode cX3_init 9 = .ok (.putfield 9, 3) := by decide +kernel
theorem dX3_init_12 : decode cX3_init 12 = .ok (.aload_n 0, 1) := by decide +kernel
theorem dX3_init_13 : decode cX3_init 13 = .ok (.bipush 10, 2) := by decide +kernel
theorem dX3_init_15 : decode cX3_init 15 = .ok (.newarray .int, 2) := by decide +kernel
theorem dX3_init_17 : decode cX3_init 17 = .ok (.putfield 15, 3) := by decide +kernel
theorem dX3_init_20 : decode cX3_init 20 = .ok (.return_, 1) := by decide +kernel
def kl_2 : List (Nat × Nat) := [(12, 0), (1, 28), (1, 10)]
set_option maxHeartbeats 4000000 in
set_option maxRecDepth 100000 in
theorem ct_2 : zCt yX3_init cX3_init 1 ({ frames := 1, cells := 2, slots := 38, locals := 12 } : Room) 2 3 38 kl_2 (fun Y _ => zh0 Y) := by
  refine zCt_of rfl rfl (by omega) ?_
  intro X Y a ls hkd O hR hr hlk hQ hml hsz hl
  refine ⟨cl0, ?_⟩
  refine cr_al (pc := 0) (u := 0) (v := 0) (n := a + 1) O dX3_init_0 (lv_at hl 0 rfl) ?_
  refine cr_ob (pc := 1) (u := 0) (v := 0) (n := a + 1) O tv_151 tv_32 tv_33 dX3_init_1 (by rw [hml]; exact hl.1) (by rw [hR]; exact Nat.le_of_ble_eq_true rfl) (by rw [hR]; exact Nat.le_of_ble_eq_true rfl) ?_
  refine cr_al (pc := 4) (u := 0) (v := 0) (n := a + 1) O dX3_init_4 (lv_at hl 0 rfl) ?_
  refine cr_bi (pc := 5) (u := 0) (v := 0) (n := a + 1) (x := nI 28) O dX3_init_5 (by decide) ?_
  refine cr_nI (k := 28) (pc := 7) (u := 0) (v := 0) (n := a + 1) O tv_94 dX3_init_7 (by omega) (by omega) (hkd 1 (by omega)) (by rw [hR]; exact Nat.le_of_ble_eq_true rfl) (by rw [hR]; exact Nat.le_of_ble_eq_true rfl) ?_
  refine cr_pF (pc := 9) (u := 1) (v := 28) (n := a + 2) (j := 1) (x := .ref (a + 1)) O zc_2 (by omega) rfl rfl tv_154 rfl rfl dX3_init_9 ?_
  refine cr_al (pc := 12) (u := 1) (v := 28) (n := a + 2) O dX3_init_12 (lv_at hl 0 rfl) ?_
  refine cr_bi (pc := 13) (u := 1) (v := 28) (n := a + 2) (x := nI 10) O dX3_init_13 (by decide) ?_
  refine cr_nI (k := 10) (pc := 15) (u := 1) (v := 28) (n := a + 2) O tv_94 dX3_init_15 (by omega) (by omega) (hkd 2 (by omega)) (by rw [hR]; exact Nat.le_of_ble_eq_true rfl) (by rw [hR]; exact Nat.le_of_ble_eq_true rfl) ?_
  refine cr_pF (pc := 17) (u := 2) (v := 38) (n := a + 3) (j := 4) (x := .ref (a + 2)) O zc_2 (by omega) rfl rfl tv_157 rfl rfl dX3_init_17 ?_
  refine cr_rt (cnt := 3) O rfl hr hlk hQ dX3_init_20 rfl (hkd 0 (by omega)) (fun C T N hC => ?_) (fun k hk => absurd (zF_2 hk).1 (by decide))
  cases hC
  intro k hk
  have e0 : yK Y a = (12, 0) := hkd 0 (by omega)
  rcases (show k = 0 ∨ k = 1 ∨ k = 2 ∨ k = 3 ∨ k = 4 by omega) with rfl | rfl | rfl | rfl | rfl
  · show _ = Value.int (iw (yK Y a) 0); rw [e0]; rfl
  · rfl
  · show _ = Value.int (iw (yK Y a) 2); rw [e0]; rfl
  · show _ = Value.int (iw (yK Y a) 3); rw [e0]; rfl
  · rfl
theorem mk_2 : zMk yX3_init cX3_init 1 ({ frames := 1, cells := 2, slots := 38, locals := 12 } : Room) 2 3 38 kl_2 (fun Y _ => zh0 Y) RX3 5 := ⟨ct_2, ⟨TX3, tyX3, zc_2, fun j hj => by
  rcases (show j = 0 ∨ j = 1 ∨ j = 2 ∨ j = 3 ∨ j = 4 by omega) with rfl | rfl | rfl | rfl | rfl <;> rfl⟩, ⟨tv_147, tv_5⟩, ⟨rfl, rfl, tv_149, tv_150⟩, ⟨by decide, by decide, by decide +kernel⟩, rfl, rfl, Nat.le_of_ble_eq_true rfl⟩
theorem dX4_init_0 : decode cX4_init 0 = .ok (.aload_n 0, 1) := by decide +kernel
theorem dX4_init_1 : decode cX4_init 1 = .ok (.invokespecial 3, 3) := by decide +kernel
theorem dX4_init_4 : decode cX4_init 4 = .ok (.aload_n 0, 1) := by decide +kernel
theorem dX4_init_5 : decode cX4_init 5 = .ok (.bipush 10, 2) := by decide +kernel
theorem dX4_init_7 : decode cX4_init 7 = .ok (.newarray .int, 2) := by decide +kernel
theorem dX4_init_9 : decode cX4_init 9 = .ok (.putfield 9, 3) := by decide +kernel
theorem dX4_init_12 : decode cX4_init 12 = .ok (.return_, 1) := by decide +kernel
def kl_3 : List (Nat × Nat) := [(13, 0), (1, 10)]
set_option maxHeartbeats 4000000 in
set_option maxRecDepth 100000 in
theorem ct_3 : zCt yX4_init cX4_init 1 ({ frames := 1, cells := 1, slots := 10, locals := 12 } : Room) 3 2 10 kl_3 (fun Y _ => zh0 Y) := by
  refine zCt_of rfl rfl (by omega) ?_
  intro X Y a ls hkd O hR hr hlk hQ hml hsz hl
  refine ⟨cl0, ?_⟩
  refine cr_al (pc := 0) (u := 0) (v := 0) (n := a + 1) O dX4_init_0 (lv_at hl 0 rfl) ?_
  refine cr_ob (pc := 1) (u := 0) (v := 0) (n := a + 1) O tv_250 tv_32 tv_33 dX4_init_1 (by rw [hml]; exact hl.1) (by rw [hR]; exact Nat.le_of_ble_eq_true rfl) (by rw [hR]; exact Nat.le_of_ble_eq_true rfl) ?_
  refine cr_al (pc := 4) (u := 0) (v := 0) (n := a + 1) O dX4_init_4 (lv_at hl 0 rfl) ?_
  refine cr_bi (pc := 5) (u := 0) (v := 0) (n := a + 1) (x := nI 10) O dX4_init_5 (by decide) ?_
  refine cr_nI (k := 10) (pc := 7) (u := 0) (v := 0) (n := a + 1) O tv_94 dX4_init_7 (by omega) (by omega) (hkd 1 (by omega)) (by rw [hR]; exact Nat.le_of_ble_eq_true rfl) (by rw [hR]; exact Nat.le_of_ble_eq_true rfl) ?_
  refine cr_pF (pc := 9) (u := 1) (v := 10) (n := a + 2) (j := 0) (x := .ref (a + 1)) O zc_3 (by omega) rfl rfl tv_251 rfl rfl dX4_init_9 ?_
  refine cr_rt (cnt := 2) O rfl hr hlk hQ dX4_init_12 rfl (hkd 0 (by omega)) (fun C T N hC => ?_) (fun k hk => absurd (zF_2 hk).1 (by decide))
  cases hC
  intro k hk
  have e0 : yK Y a = (13, 0) := hkd 0 (by omega)
  rcases (show k = 0 by omega) with rfl
  · rfl
theorem mk_3 : zMk yX4_init cX4_init 1 ({ frames := 1, cells := 1, slots := 10, locals := 12 } : Room) 3 2 10 kl_3 (fun Y _ => zh0 Y) RX4 1 := ⟨ct_3, ⟨TX4, tyX4, zc_3, fun j hj => by
  rcases (show j = 0 by omega) with rfl <;> rfl⟩, ⟨tv_246, tv_8⟩, ⟨rfl, rfl, tv_248, tv_249⟩, ⟨by decide, by decide, by decide +kernel⟩, rfl, rfl, Nat.le_of_ble_eq_true rfl⟩
theorem dX5_init_0 : decode cX5_init 0 = .ok (.aload_n 0, 1) := by decide +kernel
theorem dX5_init_1 : decode cX5_init 1 = .ok (.invokespecial 1, 3) := by decide +kernel
theorem dX5_init_4 : decode cX5_init 4 = .ok (.return_, 1) := by decide +kernel
def kl_4 : List (Nat × Nat) := [(14, 0)]
set_option maxHeartbeats 4000000 in
set_option maxRecDepth 100000 in
theorem ct_4 : zCt yX5_init cX5_init 1 ({ frames := 1, cells := 0, slots := 0, locals := 12 } : Room) 4 1 0 kl_4 (fun Y _ => zh0 Y) := by
  refine zCt_of rfl rfl (by omega) ?_
  intro X Y a ls hkd O hR hr hlk hQ hml hsz hl
  refine ⟨cl0, ?_⟩
  refine cr_al (pc := 0) (u := 0) (v := 0) (n := a + 1) O dX5_init_0 (lv_at hl 0 rfl) ?_
  refine cr_ob (pc := 1) (u := 0) (v := 0) (n := a + 1) O tv_227 tv_32 tv_33 dX5_init_1 (by rw [hml]; exact hl.1) (by rw [hR]; exact Nat.le_of_ble_eq_true rfl) (by rw [hR]; exact Nat.le_of_ble_eq_true rfl) ?_
  refine cr_rt (cnt := 1) O rfl hr hlk hQ dX5_init_4 rfl (hkd 0 (by omega)) (fun C T N hC => ?_) (fun k hk => absurd (zF_2 hk).1 (by decide))
  cases hC
  intro k hk
  have e0 : yK Y a = (14, 0) := hkd 0 (by omega)
  rcases (show k = 0 ∨ k = 1 ∨ k = 2 ∨ k = 3 by omega) with rfl | rfl | rfl | rfl
  · show _ = Value.int (iw (yK Y a) 0); rw [e0]; rfl
  · show _ = Value.int (iw (yK Y a) 1); rw [e0]; rfl
  · show _ = Value.int (iw (yK Y a) 2); rw [e0]; rfl
  · show _ = Value.int (iw (yK Y a) 3); rw [e0]; rfl
theorem mk_4 : zMk yX5_init cX5_init 1 ({ frames := 1, cells := 0, slots := 0, locals := 12 } : Room) 4 1 0 kl_4 (fun Y _ => zh0 Y) RX5 4 := ⟨ct_4, ⟨TX5, tyX5, zc_4, fun j hj => by
  rcases (show j = 0 ∨ j = 1 ∨ j = 2 ∨ j = 3 by omega) with rfl | rfl | rfl | rfl <;> rfl⟩, ⟨tv_223, tv_7⟩, ⟨rfl, rfl, tv_225, tv_226⟩, ⟨by decide, by decide, by decide +kernel⟩, rfl, rfl, Nat.le_of_ble_eq_true rfl⟩
theorem dX6_init_0 : decode cX6_init 0 = .ok (.aload_n 0, 1) := by decide +kernel
theorem dX6_init_1 : decode cX6_init 1 = .ok (.invokespecial 3, 3) := by decide +kernel
theorem dX6_init_4 : decode cX6_init 4 = .ok (.aload_n 0, 1) := by decide +kernel
theorem dX6_init_5 : decode cX6_init 5 = .ok (.bipush 10, 2) := by decide +kernel
theorem dX6_init_7 : decode cX6_init 7 = .ok (.newarray .int, 2) := by decide +kernel
theorem dX6_init_9 : decode cX6_init 9 = .ok (.putfield 9, 3) := by decide +kernel
theorem dX6_init_12 : decode cX6_init 12 = .ok (.aload_n 0, 1) := by decide +kernel
theorem dX6_init_13 : decode cX6_init 13 = .ok (.bipush 10, 2) := by decide +kernel
theorem dX6_init_15 : decode cX6_init 15 = .ok (.newarray .int, 2) := by decide +kernel
theorem dX6_init_17 : decode cX6_init 17 = .ok (.putfield 15, 3) := by decide +kernel
theorem dX6_init_20 : decode cX6_init 20 = .ok (.aload_n 0, 1) := by decide +kernel
theorem dX6_init_21 : decode cX6_init 21 = .ok (.bipush 10, 2) := by decide +kernel
theorem dX6_init_23 : decode cX6_init 23 = .ok (.newarray .int, 2) := by decide +kernel
theorem dX6_init_25 : decode cX6_init 25 = .ok (.putfield 18, 3) := by decide +kernel
theorem dX6_init_28 : decode cX6_init 28 = .ok (.aload_n 0, 1) := by decide +kernel
theorem dX6_init_29 : decode cX6_init 29 = .ok (.bipush 28, 2) := by decide +kernel
theorem dX6_init_31 : decode cX6_init 31 = .ok (.newarray .int, 2) := by decide +kernel
theorem dX6_init_33 : decode cX6_init 33 = .ok (.putfield 21, 3) := by decide +kernel
theorem dX6_init_36 : decode cX6_init 36 = .ok (.aload_n 0, 1) := by decide +kernel
theorem dX6_init_37 : decode cX6_init 37 = .ok (.bipush 28, 2) := by decide +kernel
theorem dX6_init_39 : decode cX6_init 39 = .ok (.newarray .int, 2) := by decide +kernel
theorem dX6_init_41 : decode cX6_init 41 = .ok (.putfield 24, 3) := by decide +kernel
theorem dX6_init_44 : decode cX6_init 44 = .ok (.aload_n 0, 1) := by decide +kernel
theorem dX6_init_45 : decode cX6_init 45 = .ok (.iconst 5, 1) := by decide +kernel
theorem dX6_init_46 : decode cX6_init 46 = .ok (.newarray .int, 2) := by decide +kernel
theorem dX6_init_48 : decode cX6_init 48 = .ok (.putfield 27, 3) := by decide +kernel
theorem dX6_init_51 : decode cX6_init 51 = .ok (.aload_n 0, 1) := by decide +kernel
theorem dX6_init_52 : decode cX6_init 52 = .ok (.getfield 27, 3) := by decide +kernel
theorem dX6_init_55 : decode cX6_init 55 = .ok (.iconst 1, 1) := by decide +kernel
theorem dX6_init_56 : decode cX6_init 56 = .ok (.bipush 20, 2) := by decide +kernel
theorem dX6_init_58 : decode cX6_init 58 = .ok (.iastore, 1) := by decide +kernel
theorem dX6_init_59 : decode cX6_init 59 = .ok (.aload_n 0, 1) := by decide +kernel
theorem dX6_init_60 : decode cX6_init 60 = .ok (.getfield 27, 3) := by decide +kernel
theorem dX6_init_63 : decode cX6_init 63 = .ok (.iconst 2, 1) := by decide +kernel
theorem dX6_init_64 : decode cX6_init 64 = .ok (.bipush 20, 2) := by decide +kernel
theorem dX6_init_66 : decode cX6_init 66 = .ok (.iastore, 1) := by decide +kernel
theorem dX6_init_67 : decode cX6_init 67 = .ok (.aload_n 0, 1) := by decide +kernel
theorem dX6_init_68 : decode cX6_init 68 = .ok (.getfield 27, 3) := by decide +kernel
theorem dX6_init_71 : decode cX6_init 71 = .ok (.iconst 4, 1) := by decide +kernel
theorem dX6_init_72 : decode cX6_init 72 = .ok (.iconst 3, 1) := by decide +kernel
theorem dX6_init_73 : decode cX6_init 73 = .ok (.iastore, 1) := by decide +kernel
theorem dX6_init_74 : decode cX6_init 74 = .ok (.return_, 1) := by decide +kernel
def kl_5 : List (Nat × Nat) := [(15, 0), (1, 10), (1, 10), (1, 10), (1, 28), (1, 28), (1, 5)]
set_option maxHeartbeats 4000000 in
set_option maxRecDepth 100000 in
theorem ct_5 : zCt yX6_init cX6_init 1 ({ frames := 1, cells := 6, slots := 91, locals := 12 } : Room) 5 7 91 kl_5 (fun Y _ => zh0 Y) := by
  refine zCt_of rfl rfl (by omega) ?_
  intro X Y a ls hkd O hR hr hlk hQ hml hsz hl
  refine ⟨cl0, ?_⟩
  refine cr_al (pc := 0) (u := 0) (v := 0) (n := a + 1) O dX6_init_0 (lv_at hl 0 rfl) ?_
  refine cr_ob (pc := 1) (u := 0) (v := 0) (n := a + 1) O tv_45 tv_32 tv_33 dX6_init_1 (by rw [hml]; exact hl.1) (by rw [hR]; exact Nat.le_of_ble_eq_true rfl) (by rw [hR]; exact Nat.le_of_ble_eq_true rfl) ?_
  refine cr_al (pc := 4) (u := 0) (v := 0) (n := a + 1) O dX6_init_4 (lv_at hl 0 rfl) ?_
  refine cr_bi (pc := 5) (u := 0) (v := 0) (n := a + 1) (x := nI 10) O dX6_init_5 (by decide) ?_
  refine cr_nI (k := 10) (pc := 7) (u := 0) (v := 0) (n := a + 1) O tv_94 dX6_init_7 (by omega) (by omega) (hkd 1 (by omega)) (by rw [hR]; exact Nat.le_of_ble_eq_true rfl) (by rw [hR]; exact Nat.le_of_ble_eq_true rfl) ?_
  refine cr_pF (pc := 9) (u := 1) (v := 10) (n := a + 2) (j := 1) (x := .ref (a + 1)) O zc_5 (by omega) rfl rfl tv_50 rfl rfl dX6_init_9 ?_
  refine cr_al (pc := 12) (u := 1) (v := 10) (n := a + 2) O dX6_init_12 (lv_at hl 0 rfl) ?_
  refine cr_bi (pc := 13) (u := 1) (v := 10) (n := a + 2) (x := nI 10) O dX6_init_13 (by decide) ?_
  refine cr_nI (k := 10) (pc := 15) (u := 1) (v := 10) (n := a + 2) O tv_94 dX6_init_15 (by omega) (by omega) (hkd 2 (by omega)) (by rw [hR]; exact Nat.le_of_ble_eq_true rfl) (by rw [hR]; exact Nat.le_of_ble_eq_true rfl) ?_
  refine cr_pF (pc := 17) (u := 2) (v := 20) (n := a + 3) (j := 2) (x := .ref (a + 2)) O zc_5 (by omega) rfl rfl tv_51 rfl rfl dX6_init_17 ?_
  refine cr_al (pc := 20) (u := 2) (v := 20) (n := a + 3) O dX6_init_20 (lv_at hl 0 rfl) ?_
  refine cr_bi (pc := 21) (u := 2) (v := 20) (n := a + 3) (x := nI 10) O dX6_init_21 (by decide) ?_
  refine cr_nI (k := 10) (pc := 23) (u := 2) (v := 20) (n := a + 3) O tv_94 dX6_init_23 (by omega) (by omega) (hkd 3 (by omega)) (by rw [hR]; exact Nat.le_of_ble_eq_true rfl) (by rw [hR]; exact Nat.le_of_ble_eq_true rfl) ?_
  refine cr_pF (pc := 25) (u := 3) (v := 30) (n := a + 4) (j := 3) (x := .ref (a + 3)) O zc_5 (by omega) rfl rfl tv_52 rfl rfl dX6_init_25 ?_
  refine cr_al (pc := 28) (u := 3) (v := 30) (n := a + 4) O dX6_init_28 (lv_at hl 0 rfl) ?_
  refine cr_bi (pc := 29) (u := 3) (v := 30) (n := a + 4) (x := nI 28) O dX6_init_29 (by decide) ?_
  refine cr_nI (k := 28) (pc := 31) (u := 3) (v := 30) (n := a + 4) O tv_94 dX6_init_31 (by omega) (by omega) (hkd 4 (by omega)) (by rw [hR]; exact Nat.le_of_ble_eq_true rfl) (by rw [hR]; exact Nat.le_of_ble_eq_true rfl) ?_
  refine cr_pF (pc := 33) (u := 4) (v := 58) (n := a + 5) (j := 5) (x := .ref (a + 4)) O zc_5 (by omega) rfl rfl tv_59 rfl rfl dX6_init_33 ?_
  refine cr_al (pc := 36) (u := 4) (v := 58) (n := a + 5) O dX6_init_36 (lv_at hl 0 rfl) ?_
  refine cr_bi (pc := 37) (u := 4) (v := 58) (n := a + 5) (x := nI 28) O dX6_init_37 (by decide) ?_
  refine cr_nI (k := 28) (pc := 39) (u := 4) (v := 58) (n := a + 5) O tv_94 dX6_init_39 (by omega) (by omega) (hkd 5 (by omega)) (by rw [hR]; exact Nat.le_of_ble_eq_true rfl) (by rw [hR]; exact Nat.le_of_ble_eq_true rfl) ?_
  refine cr_pF (pc := 41) (u := 5) (v := 86) (n := a + 6) (j := 6) (x := .ref (a + 5)) O zc_5 (by omega) rfl rfl tv_66 rfl rfl dX6_init_41 ?_
  refine cr_al (pc := 44) (u := 5) (v := 86) (n := a + 6) O dX6_init_44 (lv_at hl 0 rfl) ?_
  refine cr_ic (pc := 45) (u := 5) (v := 86) (n := a + 6) (x := nI 5) O dX6_init_45 (by decide) ?_
  refine cr_nO (k := 5) (pc := 46) (u := 5) (v := 86) (n := a + 6) O rfl tv_94 dX6_init_46 (by omega) (by rw [hR]; exact Nat.le_of_ble_eq_true rfl) (by rw [hR]; exact Nat.le_of_ble_eq_true rfl) ?_
  refine cr_pF (pc := 48) (u := 6) (v := 91) (n := a + 7) (j := 7) (x := .ref (a + 6)) O zc_5 (by omega) rfl rfl tv_73 rfl rfl dX6_init_48 ?_
  refine cr_al (pc := 51) (u := 6) (v := 91) (n := a + 7) O dX6_init_51 (lv_at hl 0 rfl) ?_
  refine cr_gt (pc := 52) (u := 6) (v := 91) (n := a + 7) (j := 7) O zc_5 (by omega) tv_73 dX6_init_52 ?_
  refine cr_ic (pc := 55) (u := 6) (v := 91) (n := a + 7) (x := nI 1) O dX6_init_55 (by decide) ?_
  refine cr_bi (pc := 56) (u := 6) (v := 91) (n := a + 7) (x := 20) O dX6_init_56 (by decide) ?_
  refine cr_ia (pc := 58) (u := 6) (v := 91) (n := a + 7) (b := a + 6) (k := 5) (j := 1) (x := 20) (g := fun _ => 0) O (by omega) (by omega) (by omega) dX6_init_58 ?_
  refine cr_al (pc := 59) (u := 6) (v := 91) (n := a + 7) O dX6_init_59 (lv_at hl 0 rfl) ?_
  refine cr_gt (pc := 60) (u := 6) (v := 91) (n := a + 7) (j := 7) O zc_5 (by omega) tv_73 dX6_init_60 ?_
  refine cr_ic (pc := 63) (u := 6) (v := 91) (n := a + 7) (x := nI 2) O dX6_init_63 (by decide) ?_
  refine cr_bi (pc := 64) (u := 6) (v := 91) (n := a + 7) (x := 20) O dX6_init_64 (by decide) ?_
  refine cr_ia (pc := 66) (u := 6) (v := 91) (n := a + 7) (b := a + 6) (k := 5) (j := 2) (x := 20) (g := va_up (fun _ => 0) 1 20) O (by omega) (by omega) (by omega) dX6_init_66 ?_
  refine cr_al (pc := 67) (u := 6) (v := 91) (n := a + 7) O dX6_init_67 (lv_at hl 0 rfl) ?_
  refine cr_gt (pc := 68) (u := 6) (v := 91) (n := a + 7) (j := 7) O zc_5 (by omega) tv_73 dX6_init_68 ?_
  refine cr_ic (pc := 71) (u := 6) (v := 91) (n := a + 7) (x := nI 4) O dX6_init_71 (by decide) ?_
  refine cr_ic (pc := 72) (u := 6) (v := 91) (n := a + 7) (x := 3) O dX6_init_72 (by decide) ?_
  refine cr_ia (pc := 73) (u := 6) (v := 91) (n := a + 7) (b := a + 6) (k := 5) (j := 4) (x := 3) (g := va_up (va_up (fun _ => 0) 1 20) 2 20) O (by omega) (by omega) (by omega) dX6_init_73 ?_
  refine cr_cl (cl0 := cl0) (by show a + 6 ≠ a; omega) (fun H hw => zRa_ar (hkd 6 (by omega)) (Or.inl rfl) (fun _ => hw.trans (iw_5 (hkd 6 (by omega)))) (fun z => by cases z) (fun z => by cases z)) ?_
  refine cr_rt (cnt := 7) O rfl hr hlk hQ dX6_init_74 rfl (hkd 0 (by omega)) (fun C T N hC => ?_) (fun k hk => absurd (zF_2 hk).1 (by decide))
  cases hC
  intro k hk
  have e0 : yK Y a = (15, 0) := hkd 0 (by omega)
  rcases (show k = 0 ∨ k = 1 ∨ k = 2 ∨ k = 3 ∨ k = 4 ∨ k = 5 ∨ k = 6 ∨ k = 7 by omega) with rfl | rfl | rfl | rfl | rfl | rfl | rfl | rfl
  · show _ = Value.int (iw (yK Y a) 0); rw [e0]; rfl
  · rfl
  · rfl
  · rfl
  · show _ = Value.int (iw (yK Y a) 4); rw [e0]; rfl
  · rfl
  · rfl
  · rfl
theorem mk_5 : zMk yX6_init cX6_init 1 ({ frames := 1, cells := 6, slots := 91, locals := 12 } : Room) 5 7 91 kl_5 (fun Y _ => zh0 Y) RX6 8 := ⟨ct_5, ⟨TX6, tyX6, zc_5, fun j hj => by
  rcases (show j = 0 ∨ j = 1 ∨ j = 2 ∨ j = 3 ∨ j = 4 ∨ j = 5 ∨ j = 6 ∨ j = 7 by omega) with rfl | rfl | rfl | rfl | rfl | rfl | rfl | rfl <;> rfl⟩, ⟨tv_41, tv_3⟩, ⟨rfl, rfl, tv_43, tv_44⟩, ⟨by decide, by decide, by decide +kernel⟩, rfl, rfl, Nat.le_of_ble_eq_true rfl⟩
theorem dX9_init_0 : decode cX9_init 0 = .ok (.aload_n 0, 1) := by decide +kernel
theorem dX9_init_1 : decode cX9_init 1 = .ok (.invokespecial 3, 3) := by decide +kernel
theorem dX9_init_4 : decode cX9_init 4 = .ok (.aload_n 0, 1) := by decide +kernel
theorem dX9_init_5 : decode cX9_init 5 = .ok (.bipush 10, 2) := by decide +kernel
theorem dX9_init_7 : decode cX9_init 7 = .ok (.newarray .int, 2) := by decide +kernel
theorem dX9_init_9 : decode cX9_init 9 = .ok (.putfield 9, 3) := by decide +kernel
theorem dX9_init_12 : decode cX9_init 12 = .ok (.aload_n 0, 1) := by decide +kernel
theorem dX9_init_13 : decode cX9_init 13 = .ok (.sipush 1024, 3) := by decide +kernel
theorem dX9_init_16 : decode cX9_init 16 = .ok (.newarray .int, 2) := by decide +kernel
theorem dX9_init_18 : decode cX9_init 18 = .ok (.putfield 15, 3) := by decide +kernel
theorem dX9_init_21 : decode cX9_init 21 = .ok (.aload_n 0, 1) := by decide +kernel
theorem dX9_init_22 : decode cX9_init 22 = .ok (.sipush 1024, 3) := by decide +kernel
theorem dX9_init_25 : decode cX9_init 25 = .ok (.newarray .long, 2) := by decide +kernel
theorem dX9_init_27 : decode cX9_init 27 = .ok (.putfield 18, 3) := by decide +kernel
theorem dX9_init_30 : decode cX9_init 30 = .ok (.return_, 1) := by decide +kernel
def kl_8 : List (Nat × Nat) := [(18, 0), (1, 10), (1, 1024), (3, 1024)]
set_option maxHeartbeats 4000000 in
set_option maxRecDepth 100000 in
theorem ct_8 : zCt yX9_init cX9_init 1 ({ frames := 1, cells := 3, slots := 2058, locals := 12 } : Room) 8 4 2058 kl_8 (fun Y _ => zh0 Y) := by
  refine zCt_of rfl rfl (by omega) ?_
  intro X Y a ls hkd O hR hr hlk hQ hml hsz hl
  refine ⟨cl0, ?_⟩
  refine cr_al (pc := 0) (u := 0) (v := 0) (n := a + 1) O dX9_init_0 (lv_at hl 0 rfl) ?_
  refine cr_ob (pc := 1) (u := 0) (v := 0) (n := a + 1) O tv_262 tv_32 tv_33 dX9_init_1 (by rw [hml]; exact hl.1) (by rw [hR]; exact Nat.le_of_ble_eq_true rfl) (by rw [hR]; exact Nat.le_of_ble_eq_true rfl) ?_
  refine cr_al (pc := 4) (u := 0) (v := 0) (n := a + 1) O dX9_init_4 (lv_at hl 0 rfl) ?_
  refine cr_bi (pc := 5) (u := 0) (v := 0) (n := a + 1) (x := nI 10) O dX9_init_5 (by decide) ?_
  refine cr_nI (k := 10) (pc := 7) (u := 0) (v := 0) (n := a + 1) O tv_94 dX9_init_7 (by omega) (by omega) (hkd 1 (by omega)) (by rw [hR]; exact Nat.le_of_ble_eq_true rfl) (by rw [hR]; exact Nat.le_of_ble_eq_true rfl) ?_
  refine cr_pF (pc := 9) (u := 1) (v := 10) (n := a + 2) (j := 0) (x := .ref (a + 1)) O zc_8 (by omega) rfl rfl tv_263 rfl rfl dX9_init_9 ?_
  refine cr_al (pc := 12) (u := 1) (v := 10) (n := a + 2) O dX9_init_12 (lv_at hl 0 rfl) ?_
  refine cr_si (pc := 13) (u := 1) (v := 10) (n := a + 2) (x := nI 1024) O dX9_init_13 (by decide) ?_
  refine cr_nI (k := 1024) (pc := 16) (u := 1) (v := 10) (n := a + 2) O tv_94 dX9_init_16 (by omega) (by omega) (hkd 2 (by omega)) (by rw [hR]; exact Nat.le_of_ble_eq_true rfl) (by rw [hR]; exact Nat.le_of_ble_eq_true rfl) ?_
  refine cr_pF (pc := 18) (u := 2) (v := 1034) (n := a + 3) (j := 1) (x := .ref (a + 2)) O zc_8 (by omega) rfl rfl tv_264 rfl rfl dX9_init_18 ?_
  refine cr_al (pc := 21) (u := 2) (v := 1034) (n := a + 3) O dX9_init_21 (lv_at hl 0 rfl) ?_
  refine cr_si (pc := 22) (u := 2) (v := 1034) (n := a + 3) (x := nI 1024) O dX9_init_22 (by decide) ?_
  refine cr_nL (k := 1024) (pc := 25) (u := 2) (v := 1034) (n := a + 3) O tv_273 dX9_init_25 (by omega) (hkd 3 (by omega)) (by rw [hR]; exact Nat.le_of_ble_eq_true rfl) (by rw [hR]; exact Nat.le_of_ble_eq_true rfl) ?_
  refine cr_pF (pc := 27) (u := 3) (v := 2058) (n := a + 4) (j := 2) (x := .ref (a + 3)) O zc_8 (by omega) rfl rfl tv_265 rfl rfl dX9_init_27 ?_
  refine cr_rt (cnt := 4) O rfl hr hlk hQ dX9_init_30 rfl (hkd 0 (by omega)) (fun C T N hC => ?_) (fun k hk => absurd (zF_2 hk).1 (by decide))
  cases hC
  intro k hk
  have e0 : yK Y a = (18, 0) := hkd 0 (by omega)
  rcases (show k = 0 ∨ k = 1 ∨ k = 2 by omega) with rfl | rfl | rfl
  · rfl
  · rfl
  · rfl
theorem mk_8 : zMk yX9_init cX9_init 1 ({ frames := 1, cells := 3, slots := 2058, locals := 12 } : Room) 8 4 2058 kl_8 (fun Y _ => zh0 Y) RX9 3 := ⟨ct_8, ⟨TX9, tyX9, zc_8, fun j hj => by
  rcases (show j = 0 ∨ j = 1 ∨ j = 2 by omega) with rfl | rfl | rfl <;> rfl⟩, ⟨tv_258, tv_9⟩, ⟨rfl, rfl, tv_260, tv_261⟩, ⟨by decide, by decide, by decide +kernel⟩, rfl, rfl, Nat.le_of_ble_eq_true rfl⟩
theorem dX7_init_0 : decode cX7_init 0 = .ok (.aload_n 0, 1) := by decide +kernel
theorem dX7_init_1 : decode cX7_init 1 = .ok (.invokespecial 1, 3) := by decide +kernel
theorem dX7_init_4 : decode cX7_init 4 = .ok (.aload_n 0, 1) := by decide +kernel
theorem dX7_init_5 : decode cX7_init 5 = .ok (.new 7, 3) := by decide +kernel
theorem dX7_init_8 : decode cX7_init 8 = .ok (.dup, 1) := by decide +kernel
theorem dX7_init_9 : decode cX7_init 9 = .ok (.invokespecial 9, 3) := by decide +kernel
theorem dX7_init_12 : decode cX7_init 12 = .ok (.putfield 10, 3) := by decide +kernel
theorem dX7_init_15 : decode cX7_init 15 = .ok (.aload_n 0, 1) := by decide +kernel
theorem dX7_init_16 : decode cX7_init 16 = .ok (.new 16, 3) := by decide +kernel
theorem dX7_init_19 : decode cX7_init 19 = .ok (.dup, 1) := by decide +kernel
theorem dX7_init_20 : decode cX7_init 20 = .ok (.invokespecial 18, 3) := by decide +kernel
theorem dX7_init_23 : decode cX7_init 23 = .ok (.putfield 19, 3) := by decide +kernel
theorem dX7_init_26 : decode cX7_init 26 = .ok (.aload_n 0, 1) := by decide +kernel
theorem dX7_init_27 : decode cX7_init 27 = .ok (.new 23, 3) := by decide +kernel
theorem dX7_init_30 : decode cX7_init 30 = .ok (.dup, 1) := by decide +kernel
theorem dX7_init_31 : decode cX7_init 31 = .ok (.invokespecial 25, 3) := by decide +kernel
theorem dX7_init_34 : decode cX7_init 34 = .ok (.putfield 26, 3) := by decide +kernel
theorem dX7_init_37 : decode cX7_init 37 = .ok (.return_, 1) := by decide +kernel
def kl_6 : List (Nat × Nat) := [(16, 0), (15, 0), (1, 10), (1, 10), (1, 10), (1, 28), (1, 28), (1, 5), (10, 0), (1, 28), (12, 0), (1, 28), (1, 10)]
theorem kd_6_1 : ∀ i, i < 7 → (kl_6).getD (1 + i) (0, 0) = (kl_5).getD i (0, 0) := by decide +kernel
theorem kd_6_8 : ∀ i, i < 2 → (kl_6).getD (8 + i) (0, 0) = (kl_0).getD i (0, 0) := by decide +kernel
theorem kd_6_10 : ∀ i, i < 3 → (kl_6).getD (10 + i) (0, 0) = (kl_2).getD i (0, 0) := by decide +kernel
set_option maxHeartbeats 4000000 in
set_option maxRecDepth 100000 in
theorem ct_6 : zCt yX7_init cX7_init 1 ({ frames := 2, cells := 12, slots := 179, locals := 32 } : Room) 6 13 179 kl_6 (fun Y _ => zh0 Y) := by
  refine zCt_of rfl rfl (by omega) ?_
  intro X Y a ls hkd O hR hr hlk hQ hml hsz hl
  refine ⟨cl0, ?_⟩
  refine cr_al (pc := 0) (u := 0) (v := 0) (n := a + 1) O dX7_init_0 (lv_at hl 0 rfl) ?_
  refine cr_ob (pc := 1) (u := 0) (v := 0) (n := a + 1) O tv_39 tv_32 tv_33 dX7_init_1 (by rw [hml]; exact hl.1) (by rw [hR]; exact Nat.le_of_ble_eq_true rfl) (by rw [hR]; exact Nat.le_of_ble_eq_true rfl) ?_
  refine cr_al (pc := 4) (u := 0) (v := 0) (n := a + 1) O dX7_init_4 (lv_at hl 0 rfl) ?_
  refine cr_mk (pc := 5) (u := 0) (v := 0) (n := a + 1) O mk_5 tv_40 (Or.inl tv_42) dX7_init_5 dX7_init_8 dX7_init_9 ⟨by rw [hR]; exact Nat.le_of_ble_eq_true rfl, by rw [hR]; exact Nat.le_of_ble_eq_true rfl⟩ (by rw [hR]; exact Nat.le_of_ble_eq_true rfl) (by rw [hR]; exact Nat.le_of_ble_eq_true rfl) (by rw [hml]; exact hl.1) (Nat.le_of_ble_eq_true rfl) (fun i hi => by have := hkd (1 + i) (by omega); rw [← Nat.add_assoc] at this; rw [this]; exact kd_6_1 i hi) ?_
  refine cr_pF (pc := 12) (u := 7) (v := 99) (n := a + 8) (j := 0) (x := .ref (a + 1)) O zc_6 (by omega) rfl rfl tv_170 rfl rfl dX7_init_12 ?_
  refine cr_al (pc := 15) (u := 7) (v := 99) (n := a + 8) O dX7_init_15 (lv_at hl 0 rfl) ?_
  refine cr_mk (pc := 16) (u := 7) (v := 99) (n := a + 8) O mk_0 tv_95 (Or.inr ⟨_, List.mem_of_getElem? (i := 1) rfl⟩) dX7_init_16 dX7_init_19 dX7_init_20 ⟨by rw [hR]; exact Nat.le_of_ble_eq_true rfl, by rw [hR]; exact Nat.le_of_ble_eq_true rfl⟩ (by rw [hR]; exact Nat.le_of_ble_eq_true rfl) (by rw [hR]; exact Nat.le_of_ble_eq_true rfl) (by rw [hml]; exact hl.1) (Nat.le_of_ble_eq_true rfl) (fun i hi => by have := hkd (8 + i) (by omega); rw [← Nat.add_assoc] at this; rw [this]; exact kd_6_8 i hi) ?_
  refine cr_pF (pc := 23) (u := 9) (v := 136) (n := a + 10) (j := 1) (x := .ref (a + 8)) O zc_6 (by omega) rfl rfl tv_173 rfl rfl dX7_init_23 ?_
  refine cr_al (pc := 26) (u := 9) (v := 136) (n := a + 10) O dX7_init_26 (lv_at hl 0 rfl) ?_
  refine cr_mk (pc := 27) (u := 9) (v := 136) (n := a + 10) O mk_2 tv_146 (Or.inr ⟨_, List.mem_of_getElem? (i := 2) rfl⟩) dX7_init_27 dX7_init_30 dX7_init_31 ⟨by rw [hR]; exact Nat.le_of_ble_eq_true rfl, by rw [hR]; exact Nat.le_of_ble_eq_true rfl⟩ (by rw [hR]; exact Nat.le_of_ble_eq_true rfl) (by rw [hR]; exact Nat.le_of_ble_eq_true rfl) (by rw [hml]; exact hl.1) (Nat.le_of_ble_eq_true rfl) (fun i hi => by have := hkd (10 + i) (by omega); rw [← Nat.add_assoc] at this; rw [this]; exact kd_6_10 i hi) ?_
  refine cr_pF (pc := 34) (u := 12) (v := 179) (n := a + 13) (j := 2) (x := .ref (a + 10)) O zc_6 (by omega) rfl rfl tv_176 rfl rfl dX7_init_34 ?_
  refine cr_rt (cnt := 13) O rfl hr hlk hQ dX7_init_37 rfl (hkd 0 (by omega)) (fun C T N hC => ?_) (fun k hk => absurd (zF_2 hk).1 (by decide))
  cases hC
  intro k hk
  have e0 : yK Y a = (16, 0) := hkd 0 (by omega)
  rcases (show k = 0 ∨ k = 1 ∨ k = 2 by omega) with rfl | rfl | rfl
  · rfl
  · rfl
  · rfl
theorem mk_6 : zMk yX7_init cX7_init 1 ({ frames := 2, cells := 12, slots := 179, locals := 32 } : Room) 6 13 179 kl_6 (fun Y _ => zh0 Y) RX7 3 := ⟨ct_6, ⟨TX7, tyX7, zc_6, fun j hj => by
  rcases (show j = 0 ∨ j = 1 ∨ j = 2 by omega) with rfl | rfl | rfl <;> rfl⟩, ⟨tv_35, tv_2⟩, ⟨rfl, rfl, tv_37, tv_38⟩, ⟨by decide, by decide, by decide +kernel⟩, rfl, rfl, Nat.le_of_ble_eq_true rfl⟩
theorem dX8_init_0 : decode cX8_init 0 = .ok (.aload_n 0, 1) := by decide +kernel
theorem dX8_init_1 : decode cX8_init 1 = .ok (.invokespecial 3, 3) := by decide +kernel
theorem dX8_init_4 : decode cX8_init 4 = .ok (.aload_n 0, 1) := by decide +kernel
theorem dX8_init_5 : decode cX8_init 5 = .ok (.new 9, 3) := by decide +kernel
theorem dX8_init_8 : decode cX8_init 8 = .ok (.dup, 1) := by decide +kernel
theorem dX8_init_9 : decode cX8_init 9 = .ok (.invokespecial 11, 3) := by decide +kernel
theorem dX8_init_12 : decode cX8_init 12 = .ok (.putfield 12, 3) := by decide +kernel
theorem dX8_init_15 : decode cX8_init 15 = .ok (.aload_n 0, 1) := by decide +kernel
theorem dX8_init_16 : decode cX8_init 16 = .ok (.iconst (-1), 1) := by decide +kernel
theorem dX8_init_17 : decode cX8_init 17 = .ok (.putfield 18, 3) := by decide +kernel
theorem dX8_init_20 : decode cX8_init 20 = .ok (.aload_n 0, 1) := by decide +kernel
theorem dX8_init_21 : decode cX8_init 21 = .ok (.sipush 400, 3) := by decide +kernel
theorem dX8_init_24 : decode cX8_init 24 = .ok (.newarray .int, 2) := by decide +kernel
theorem dX8_init_26 : decode cX8_init 26 = .ok (.putfield 22, 3) := by decide +kernel
theorem dX8_init_29 : decode cX8_init 29 = .ok (.return_, 1) := by decide +kernel
def kl_7 : List (Nat × Nat) := [(17, 0), (15, 0), (1, 10), (1, 10), (1, 10), (1, 28), (1, 28), (1, 5), (1, 400)]
theorem kd_7_1 : ∀ i, i < 7 → (kl_7).getD (1 + i) (0, 0) = (kl_5).getD i (0, 0) := by decide +kernel
set_option maxHeartbeats 4000000 in
set_option maxRecDepth 100000 in
theorem ct_7 : zCt yX8_init cX8_init 1 ({ frames := 2, cells := 8, slots := 499, locals := 32 } : Room) 7 9 499 kl_7 (fun Y _ => zh0 Y) := by
  refine zCt_of rfl rfl (by omega) ?_
  intro X Y a ls hkd O hR hr hlk hQ hml hsz hl
  refine ⟨cl0, ?_⟩
  refine cr_al (pc := 0) (u := 0) (v := 0) (n := a + 1) O dX8_init_0 (lv_at hl 0 rfl) ?_
  refine cr_ob (pc := 1) (u := 0) (v := 0) (n := a + 1) O tv_191 tv_32 tv_33 dX8_init_1 (by rw [hml]; exact hl.1) (by rw [hR]; exact Nat.le_of_ble_eq_true rfl) (by rw [hR]; exact Nat.le_of_ble_eq_true rfl) ?_
  refine cr_al (pc := 4) (u := 0) (v := 0) (n := a + 1) O dX8_init_4 (lv_at hl 0 rfl) ?_
  refine cr_mk (pc := 5) (u := 0) (v := 0) (n := a + 1) O mk_5 tv_192 (Or.inl tv_193) dX8_init_5 dX8_init_8 dX8_init_9 ⟨by rw [hR]; exact Nat.le_of_ble_eq_true rfl, by rw [hR]; exact Nat.le_of_ble_eq_true rfl⟩ (by rw [hR]; exact Nat.le_of_ble_eq_true rfl) (by rw [hR]; exact Nat.le_of_ble_eq_true rfl) (by rw [hml]; exact hl.1) (Nat.le_of_ble_eq_true rfl) (fun i hi => by have := hkd (1 + i) (by omega); rw [← Nat.add_assoc] at this; rw [this]; exact kd_7_1 i hi) ?_
  refine cr_pF (pc := 12) (u := 7) (v := 99) (n := a + 8) (j := 0) (x := .ref (a + 1)) O zc_7 (by omega) rfl rfl tv_194 rfl rfl dX8_init_12 ?_
  refine cr_al (pc := 15) (u := 7) (v := 99) (n := a + 8) O dX8_init_15 (lv_at hl 0 rfl) ?_
  refine cr_ic (pc := 16) (u := 7) (v := 99) (n := a + 8) (x := -1) O dX8_init_16 (by decide) ?_
  refine cr_pN (pc := 17) (u := 7) (v := 99) (n := a + 8) (j := 1) (x := .int (-1)) O zc_7 (by omega) rfl tv_196 rfl rfl dX8_init_17 ?_
  refine cr_al (pc := 20) (u := 7) (v := 99) (n := a + 8) O dX8_init_20 (lv_at hl 0 rfl) ?_
  refine cr_si (pc := 21) (u := 7) (v := 99) (n := a + 8) (x := nI 400) O dX8_init_21 (by decide) ?_
  refine cr_nI (k := 400) (pc := 24) (u := 7) (v := 99) (n := a + 8) O tv_94 dX8_init_24 (by omega) (by omega) (hkd 8 (by omega)) (by rw [hR]; exact Nat.le_of_ble_eq_true rfl) (by rw [hR]; exact Nat.le_of_ble_eq_true rfl) ?_
  refine cr_pF (pc := 26) (u := 8) (v := 499) (n := a + 9) (j := 3) (x := .ref (a + 8)) O zc_7 (by omega) rfl rfl tv_199 rfl rfl dX8_init_26 ?_
  refine cr_rt (cnt := 9) O rfl hr hlk hQ dX8_init_29 rfl (hkd 0 (by omega)) (fun C T N hC => ?_) (fun k hk => absurd (zF_2 hk).1 (by decide))
  cases hC
  intro k hk
  have e0 : yK Y a = (17, 0) := hkd 0 (by omega)
  rcases (show k = 0 ∨ k = 1 ∨ k = 2 ∨ k = 3 ∨ k = 4 ∨ k = 5 ∨ k = 6 ∨ k = 7 by omega) with rfl | rfl | rfl | rfl | rfl | rfl | rfl | rfl
  · rfl
  · show _ = Value.int (iw (yK Y a) 1); rw [e0]; rfl
  · show _ = Value.int (iw (yK Y a) 2); rw [e0]; rfl
  · rfl
  · show _ = Value.int (iw (yK Y a) 4); rw [e0]; rfl
  · show _ = Value.int (iw (yK Y a) 5); rw [e0]; rfl
  · show _ = Value.int (iw (yK Y a) 6); rw [e0]; rfl
  · show _ = Value.int (iw (yK Y a) 7); rw [e0]; rfl
theorem mk_7 : zMk yX8_init cX8_init 1 ({ frames := 2, cells := 8, slots := 499, locals := 32 } : Room) 7 9 499 kl_7 (fun Y _ => zh0 Y) RX8 8 := ⟨ct_7, ⟨TX8, tyX8, zc_7, fun j hj => by
  rcases (show j = 0 ∨ j = 1 ∨ j = 2 ∨ j = 3 ∨ j = 4 ∨ j = 5 ∨ j = 6 ∨ j = 7 by omega) with rfl | rfl | rfl | rfl | rfl | rfl | rfl | rfl <;> rfl⟩, ⟨tv_187, tv_6⟩, ⟨rfl, rfl, tv_189, tv_190⟩, ⟨by decide, by decide, by decide +kernel⟩, rfl, rfl, Nat.le_of_ble_eq_true rfl⟩

