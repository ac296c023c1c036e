/-! constructors with a loop that makes objects -/
theorem arrV_cg {cI : ClassId} {N : Nat} {f g : Nat → Value} (h : ∀ j, j < N → f j = g j) : arrV cI N f = arrV cI N g := by
  unfold arrV
  congr 2
  funext j
  exact h j.val j.isLt
def lpg (b cnt i q : Nat) : Option Nat := if q < i then some (b + 1 + cnt * q) else none
theorem lpg_0 (b cnt : Nat) : (fun _ : Nat => Value.null) = fun q => va_rf (lpg b cnt 0 q) := by
  funext q
  simp [lpg, va_rf]
theorem lpg_s (b cnt i : Nat) : va_up (lpg b cnt i) i (some (b + 1 + cnt * i)) = lpg b cnt (i + 1) := by
  funext q
  by_cases h : q = i
  · subst h; simp [va_up, lpg]
  · simp only [va_up, lpg, h, if_false]
    by_cases h2 : q < i
    · rw [if_pos h2, if_pos (by omega)]
    · rw [if_neg h2, if_neg (by omega)]
section ZL
variable {X : zX} {Y : zY} {ci a u v pc n : Nat} {w : Nat × Cell} {f : Nat → Value} {ls : Array Slot} {st : List Value} {cc : ByteArray} {own : String}
theorem cr_ist {x : Int32} (O : zOc X Y cc own a) (d : decode cc pc = .ok (.istore_n 1, 1)) (hl : lv_has ls 2 [(0, .ref a)]) (hk : ∀ ls' : Array Slot, lv_has ls' 2 [(1, .int x), (0, .ref a)] → zSc X Y ci a w u v (pc + 1) n f ls' st) : zSc X Y ci a w u v pc n f ls (.int x :: st) := fun H locs hC => lv_istore_n O.1.1 O.1.2.1 d rfl hl (by omega) rfl (fun ls' hl' => hk ls' hl' H locs hC)
theorem cr_il {x : Int32} (O : zOc X Y cc own a) (d : decode cc pc = .ok (.iload_n 1, 1)) (h1 : ls[1]? = some (.val (.int x))) (hk : zSc X Y ci a w u v (pc + 1) n f ls (.int x :: st)) : zSc X Y ci a w u v pc n f ls st := fun H locs hC => lv_iload_n O.1.1 O.1.2.1 d rfl h1 (hk H locs hC)
theorem cr_gtI {x y : Int32} {off : Int} {tgt : Nat} (O : zOc X Y cc own a) (d : decode cc pc = .ok (.if_icmp .gt off, 3)) (ht : (pc : Int) + off = (tgt : Int)) (k1 : y < x → zSc X Y ci a w u v tgt n f ls st) (k2 : ¬ y < x → zSc X Y ci a w u v (pc + 3) n f ls st) : zSc X Y ci a w u v pc n f ls (.int y :: .int x :: st) := fun H locs hC => lv_icmp_gt O.1.1 O.1.2.1 d ht (fun z => k1 z H locs hC) (fun z => k2 z H locs hC)
theorem cr_geI {x y : Int32} {off : Int} {tgt : Nat} (O : zOc X Y cc own a) (d : decode cc pc = .ok (.if_icmp .ge off, 3)) (ht : (pc : Int) + off = (tgt : Int)) (k1 : y ≤ x → zSc X Y ci a w u v tgt n f ls st) (k2 : ¬ y ≤ x → zSc X Y ci a w u v (pc + 3) n f ls st) : zSc X Y ci a w u v pc n f ls (.int y :: .int x :: st) := fun H locs hC => lv_icmp_ge O.1.1 O.1.2.1 d ht (fun z => k1 z H locs hC) (fun z => k2 z H locs hC)
theorem cr_go {off : Int} {tgt : Nat} (O : zOc X Y cc own a) (d : decode cc pc = .ok (.goto off, 3)) (ht : (pc : Int) + off = (tgt : Int)) (hk : zSc X Y ci a w u v tgt n f ls st) : zSc X Y ci a w u v pc n f ls st := fun H locs hC => lv_goto O.1.1 O.1.2.1 d ht (hk H locs hC)
theorem cr_inc {x x' : Int32} (O : zOc X Y cc own a) (d : decode cc pc = .ok (.iinc 1 1, 3)) (hl : lv_has ls 2 [(1, .int x), (0, .ref a)]) (hx : x + 1 = x') (hk : ∀ ls' : Array Slot, lv_has ls' 2 [(1, .int x'), (0, .ref a)] → zSc X Y ci a w u v (pc + 3) n f ls' st) : zSc X Y ci a w u v pc n f ls st := fun H locs hC => lv_iinc (k := 0) (i := 1) (n := 1) O.1.1 O.1.2.1 d hl rfl hx (by omega) rfl (fun ls' hl' => hk ls' hl' H locs hC)
/-- the loop: an array of K references, each to a new object -/
theorem cr_lp {y : MethodName} {b : ByteArray} {nL cj cnt sl i1 i2 N idx j0 K t t0 ex ba u0 v0 : Nat} {rm : Room} {kl : List (Nat × Nat)} {C Cx : String} {T Tx : u_T} {Nx : Nat} {tyx : Nat → FieldType} (O : zOc X Y cc own a) (hMk : zMk y b nL rm cj cnt sl kl (fun Y _ => zh0 Y) C N) (hcl : Cond.classLink own i1 C ∈ zTW) (hln : zLn X own i2 y) (hcj : vwCl[cj]? = some (C, T, N)) (hty : ([(yC Y 1, .int), (yC Y 2, .byte), (yC Y 3, .long), (yC Y 4, .object RX7), (yC Y 5, .object RX4)] : List (ClassId × FieldType))[t0]? = some (yC Y t, .object C))
    (hcx : zCl ci Cx Tx Nx tyx) (hj0 : j0 < Nx) (hf0 : f j0 = .ref ba) (hfl : Cond.fieldLink own idx (Tx j0).1 (Tx j0).2.1 (Tx j0).2.2.1 ∈ zTW)
    (hr : rm.frames + 1 ≤ (xR X).frames ∧ 8 + (nL + 11) + rm.locals ≤ (xR X).locals) (hu : u0 + cnt * K ≤ (xR X).cells) (hv : v0 + (N + sl) * K ≤ (xR X).slots) (hml : (xC X).maxLocals = 2) (hK : K ≤ 1000) (hba : a < ba) (hcnt : 1 ≤ cnt) (hkb : ∀ i, i < K → ∀ j, j < cnt → yK Y (ba + 1 + cnt * i + j) = kl.getD j (0, 0)) (hk0 : kl.getD 0 (0, 0) = (10 + cj, 0))
    (d6 : decode cc (pc + 6) = .ok (.aload_n 0, 1)) (d7 : decode cc (pc + 7) = .ok (.getfield idx, 3)) (d10 : decode cc (pc + 10) = .ok (.iload_n 1, 1)) (d11 : decode cc (pc + 11) = .ok (.new i1, 3)) (d14 : decode cc (pc + 14) = .ok (.dup, 1)) (d15 : decode cc (pc + 15) = .ok (.invokespecial i2, 3)) (d18 : decode cc (pc + 18) = .ok (.aastore, 1)) (d19 : decode cc (pc + 19) = .ok (.iinc 1 1, 3)) (d22 : decode cc (pc + 22) = .ok (.goto (-22), 3))
    (hcmp : ∀ (i u v n : Nat) (w : Nat × Cell) (ls : Array Slot), i ≤ K → ls[1]? = some (.val (.int (nI i))) → (i < K → zSc X Y ci a w u v (pc + 6) n f ls []) → (i = K → zSc X Y ci a w u v ex n f ls []) → zSc X Y ci a w u v pc n f ls [])
    (hex : ∀ ls : Array Slot, lv_has ls 2 [(1, .int (nI K)), (0, .ref a)] → zSc X Y ci a (ba, arrV (yC Y t) K (fun q => va_rf (lpg ba cnt K q))) (u0 + cnt * K) (v0 + (N + sl) * K) ex (ba + 1 + cnt * K) f ls []) :
    ∀ (m i : Nat) (ls : Array Slot), K - i = m → i ≤ K → lv_has ls 2 [(1, .int (nI i)), (0, .ref a)] → zSc X Y ci a (ba, arrV (yC Y t) K (fun q => va_rf (lpg ba cnt i q))) (u0 + cnt * i) (v0 + (N + sl) * i) pc (ba + 1 + cnt * i) f ls [] := by
  intro m
  induction m with
  | zero =>
    intro i ls hm hi hl
    have e : i = K := by omega
    subst e
    exact hcmp i _ _ _ _ ls hi (lv_at hl 0 rfl) (fun z => by omega) (fun _ => hex ls hl)
  | succ m ih =>
    intro i ls hm hi hl
    refine hcmp i _ _ _ _ ls hi (lv_at hl 0 rfl) (fun hlt => ?_) (fun z => by omega)
    have s1 : cnt * (i + 1) ≤ cnt * K := Nat.mul_le_mul_left _ hlt
    have s2 : (N + sl) * (i + 1) ≤ (N + sl) * K := Nat.mul_le_mul_left _ hlt
    rw [Nat.mul_succ] at s1 s2
    refine cr_al (pc := pc + 6) O d6 (lv_at hl 1 rfl) ?_
    refine cr_gt (pc := pc + 7) (j := j0) O hcx hj0 hfl d7 ?_
    rw [hf0]
    refine cr_il (pc := pc + 10) O d10 (lv_at hl 0 rfl) ?_
    refine cr_mk (pc := pc + 11) O hMk hcl hln d11 d14 d15 hr (by omega) (by omega) (by rw [hml]; exact hl.1) (Nat.le_of_ble_eq_true rfl) (fun j hj => hkb i hlt j hj) ?_
    have hx : yK Y (ba + 1 + cnt * i) = (10 + cj, 0) := by
      have := hkb i hlt 0 (by omega)
      rw [hk0] at this
      exact this
    refine cr_aa (pc := pc + 18) (b := ba) (k := K) (j := i) (x := ba + 1 + cnt * i) (g := lpg ba cnt i) O (by omega) hlt (by omega) hcj hty (by omega) (by omega) (by omega) hx d18 ?_
    rw [lpg_s]
    refine cr_inc (pc := pc + 19) O d19 hl (nI_1 i) (fun ls' hl' => ?_)
    refine cr_go (pc := pc + 22) (tgt := pc) O d22 (by omega) ?_
    have := ih (i + 1) ls' (by omega) hlt hl'
    rw [show u0 + cnt * i + cnt = u0 + cnt * (i + 1) by rw [Nat.mul_succ]; omega, show v0 + (N + sl) * i + N + sl = v0 + (N + sl) * (i + 1) by rw [Nat.mul_succ]; omega, show ba + 1 + cnt * i + cnt = ba + 1 + cnt * (i + 1) by rw [Nat.mul_succ]; omega]
    exact this
theorem zRa_q4 {H : Heap} {q : Nat} (hK : yK Y q = (4, 12)) (hs : ∀ j, j < 12 → yK Y (q + 1 + 13 * j) = (16, 0)) (h : H[q]? = some (arrV (yC Y 4) 12 (fun j => va_rf (lpg q 13 12 j)))) : zRa Y (zh0 Y) H q := by
  refine ⟨fun m hm => ?_, fun m hm => ?_, fun m hm => ?_, fun m hm => ?_, fun m hm => ?_, fun cj m hm => ?_⟩
  all_goals
    rw [hK] at hm
    have e1 := congrArg Prod.fst hm
    have e2 := congrArg Prod.snd hm
    simp only at e1 e2
  rotate_left 3
  · subst e2
    refine ⟨?_, fun j hj => ?_⟩
    · rw [h, vp_cell_q]
      refine congrArg some (arrV_cg (fun j hj => ?_))
      show va_rf (lpg q 13 12 j) = va_rf (some (rwz (yK Y q).1 q j))
      rw [hK]
      simp [lpg, hj, rwz]
    · show yK Y (rwz (yK Y q).1 q j) = (16, 0)
      rw [hK]
      exact hs j hj
  all_goals omega
theorem zRa_q5 {H : Heap} {q : Nat} (hK : yK Y q = (5, 17)) (hs : ∀ j, j < 17 → yK Y (q + 1 + 2 * j) = (13, 0)) (h : H[q]? = some (arrV (yC Y 5) 17 (fun j => va_rf (lpg q 2 17 j)))) : zRa Y (zh0 Y) H q := by
  refine ⟨fun m hm => ?_, fun m hm => ?_, fun m hm => ?_, fun m hm => ?_, fun m hm => ?_, fun cj m hm => ?_⟩
  all_goals
    rw [hK] at hm
    have e1 := congrArg Prod.fst hm
    have e2 := congrArg Prod.snd hm
    simp only at e1 e2
  rotate_left 4
  · subst e2
    refine ⟨?_, fun j hj => ?_⟩
    · rw [h, vp_cell_q]
      refine congrArg some (arrV_cg (fun j hj => ?_))
      show va_rf (lpg q 2 17 j) = va_rf (some (rwz (yK Y q).1 q j))
      rw [hK]
      simp [lpg, hj, rwz]
    · show yK Y (rwz (yK Y q).1 q j) = (13, 0)
      rw [hK]
      exact hs j hj
  all_goals omega
end ZL
theorem tv_1 : Cond.initialized RX10 ∈ zTW := zmem1 1 rfl rfl
theorem tv_10 : Cond.initialized RX2 ∈ zTW := zmem1 10 rfl rfl
theorem tv_27 : Cond.instantiable RX10 15 ∈ zTW := zmem1 27 rfl rfl
theorem tv_29 : Cond.instanceMethod yX10_init ∈ zTW := zmem1 29 rfl rfl
theorem tv_30 : Cond.code yX10_init cX10_init 2 none ∈ zTW := zmem1 30 rfl rfl
theorem tv_31 : Cond.methodLink RX10 1 objectInit ∈ zTW := zmem1 31 rfl rfl
theorem tv_34 : Cond.classLink RX10 7 RX7 ∈ zTW := zmem1 34 rfl rfl
theorem tv_186 : Cond.classLink RX10 20 RX8 ∈ zTW := zmem1 186 rfl rfl
theorem tv_222 : Cond.classLink RX10 27 RX5 ∈ zTW := zmem1 222 rfl rfl
theorem tv_245 : Cond.classLink RX10 34 RX4 ∈ zTW := zmem2 5 rfl rfl
theorem tv_255 : Cond.classLink RX10 44 RX3 ∈ zTW := zmem2 15 rfl rfl
theorem tv_257 : Cond.classLink RX10 51 RX9 ∈ zTW := zmem2 17 rfl rfl
theorem tv_274 : Cond.classLink RX10 58 RX2 ∈ zTW := zmem2 34 rfl rfl
theorem tv_275 : Cond.instantiable RX2 1 ∈ zTW := zmem2 35 rfl rfl
theorem tv_276 : Cond.methodLink RX10 60 yX2_init ∈ zTW := zmem2 36 rfl rfl
theorem tv_277 : Cond.instanceMethod yX2_init ∈ zTW := zmem2 37 rfl rfl
theorem tv_278 : Cond.code yX2_init cX2_init 2 none ∈ zTW := zmem2 38 rfl rfl
theorem tv_279 : Cond.methodLink RX2 3 objectInit ∈ zTW := zmem2 39 rfl rfl
theorem tv_280 : Cond.classLink RX2 9 RX4 ∈ zTW := zmem2 40 rfl rfl
theorem tv_283 : Cond.fieldLink RX2 11 (TX2 0).1 (TX2 0).2.1 (TX2 0).2.2.1 ∈ zTW := zmem2 43 rfl rfl
theorem tv_287 : Cond.fieldLink RX10 10 (TX10 0).1 (TX10 0).2.1 (TX10 0).2.2.1 ∈ zTW := zmem2 47 rfl rfl
theorem tv_288 : Cond.fieldLink RX10 16 (TX10 1).1 (TX10 1).2.1 (TX10 1).2.2.1 ∈ zTW := zmem2 48 rfl rfl
theorem tv_291 : Cond.fieldLink RX10 23 (TX10 4).1 (TX10 4).2.1 (TX10 4).2.2.1 ∈ zTW := zmem2 51 rfl rfl
theorem tv_295 : Cond.fieldLink RX10 30 (TX10 8).1 (TX10 8).2.1 (TX10 8).2.2.1 ∈ zTW := zmem2 55 rfl rfl
theorem tv_296 : Cond.fieldLink RX10 37 (TX10 9).1 (TX10 9).2.1 (TX10 9).2.2.1 ∈ zTW := zmem2 56 rfl rfl
theorem tv_297 : Cond.fieldLink RX10 41 (TX10 10).1 (TX10 10).2.1 (TX10 10).2.2.1 ∈ zTW := zmem2 57 rfl rfl
theorem tv_298 : Cond.fieldLink RX10 47 (TX10 11).1 (TX10 11).2.1 (TX10 11).2.2.1 ∈ zTW := zmem2 58 rfl rfl
theorem tv_299 : Cond.fieldLink RX10 54 (TX10 12).1 (TX10 12).2.1 (TX10 12).2.2.1 ∈ zTW := zmem2 59 rfl rfl
theorem tv_300 : Cond.fieldLink RX10 61 (TX10 13).1 (TX10 13).2.1 (TX10 13).2.2.1 ∈ zTW := zmem2 60 rfl rfl
theorem tv_301 : Cond.fieldLink RX10 65 (TX10 14).1 (TX10 14).2.1 (TX10 14).2.2.1 ∈ zTW := zmem2 61 rfl rfl
theorem dX2_init_0 : decode cX2_init 0 = .ok (.aload_n 0, 1) := by decide +kernel
theorem dX2_init_1 : decode cX2_init 1 = .ok (.invokespecial 3, 3) := by decide +kernel
theorem dX2_init_4 : decode cX2_init 4 = .ok (.aload_n 0, 1) := by decide +kernel
theorem dX2_init_5 : decode cX2_init 5 = .ok (.bipush 17, 2) := by decide +kernel
theorem dX2_init_7 : decode cX2_init 7 = .ok (.anewarray 9, 3) := by decide +kernel
theorem dX2_init_10 : decode cX2_init 10 = .ok (.putfield 11, 3) := by decide +kernel
theorem dX2_init_13 : decode cX2_init 13 = .ok (.iconst 0, 1) := by decide +kernel
theorem dX2_init_14 : decode cX2_init 14 = .ok (.istore_n 1, 1) := by decide +kernel
theorem dX2_init_15 : decode cX2_init 15 = .ok (.iload_n 1, 1) := by decide +kernel
theorem dX2_init_16 : decode cX2_init 16 = .ok (.bipush 16, 2) := by decide +kernel
theorem dX2_init_18 : decode cX2_init 18 = .ok (.if_icmp .gt 22, 3) := by decide +kernel
theorem dX2_init_21 : decode cX2_init 21 = .ok (.aload_n 0, 1) := by decide +kernel
theorem dX2_init_22 : decode cX2_init 22 = .ok (.getfield 11, 3) := by decide +kernel
theorem dX2_init_25 : decode cX2_init 25 = .ok (.iload_n 1, 1) := by decide +kernel
theorem dX2_init_26 : decode cX2_init 26 = .ok (.new 9, 3) := by decide +kernel
theorem dX2_init_29 : decode cX2_init 29 = .ok (.dup, 1) := by decide +kernel
theorem dX2_init_30 : decode cX2_init 30 = .ok (.invokespecial 17, 3) := by decide +kernel
theorem dX2_init_33 : decode cX2_init 33 = .ok (.aastore, 1) := by decide +kernel
theorem dX2_init_34 : decode cX2_init 34 = .ok (.iinc 1 1, 3) := by decide +kernel
theorem dX2_init_37 : decode cX2_init 37 = .ok (.goto (-22), 3) := by decide +kernel
theorem dX2_init_40 : decode cX2_init 40 = .ok (.return_, 1) := by decide +kernel
def kl_1 : List (Nat × Nat) := [(11, 0), (5, 17), (13, 0), (1, 10), (13, 0), (1, 10), (13, 0), (1, 10), (13, 0), (1, 10), (13, 0), (1, 10), (13, 0), (1, 10), (13, 0), (1, 10), (13, 0), (1, 10), (13, 0), (1, 10), (13, 0), (1, 10), (13, 0), (1, 10), (13, 0), (1, 10), (13, 0), (1, 10), (13, 0), (1, 10), (13, 0), (1, 10), (13, 0), (1, 10), (13, 0), (1, 10)]
theorem kd_1_lp : ∀ i, i < 17 → ∀ j, j < 2 → (kl_1).getD (2 + (2 * i + j)) (0, 0) = (kl_3).getD j (0, 0) := by decide +kernel
theorem kd_1_lq : ∀ i, i < 17 → (kl_1).getD (2 + 2 * i) (0, 0) = (13, 0) := by decide +kernel
set_option maxHeartbeats 4000000 in
set_option maxRecDepth 100000 in
theorem ct_1 : zCt yX2_init cX2_init 2 ({ frames := 2, cells := 35, slots := 204, locals := 32 } : Room) 1 36 204 kl_1 (fun Y _ => zh0 Y) := by
  refine zCt_of rfl rfl (by omega) ?_
  intro X Y a ls hkd O hR hr hlk hQ hml hsz hl
  refine ⟨cl0, ?_⟩
  refine cr_al (pc := 0) (u := 0) (v := 0) (n := a + 1) O dX2_init_0 (lv_at hl 0 rfl) ?_
  refine cr_ob (pc := 1) (u := 0) (v := 0) (n := a + 1) O tv_279 tv_32 tv_33 dX2_init_1 (by rw [hml]; exact hl.1) (by rw [hR]; exact Nat.le_of_ble_eq_true rfl) (by rw [hR]; exact Nat.le_of_ble_eq_true rfl) ?_
  refine cr_al (pc := 4) (u := 0) (v := 0) (n := a + 1) O dX2_init_4 (lv_at hl 0 rfl) ?_
  refine cr_bi (pc := 5) (u := 0) (v := 0) (n := a + 1) (x := nI 17) O dX2_init_5 (by decide) ?_
  refine cr_nq (k := 17) (t := 5) (t0 := 4) (pc := 7) (u := 0) (v := 0) (n := a + 1) O rfl tv_280 O.1.2.2.2.2.2.2.1.2 rfl dX2_init_7 (by omega) (by rw [hR]; exact Nat.le_of_ble_eq_true rfl) (by rw [hR]; exact Nat.le_of_ble_eq_true rfl) ?_
  refine cr_pF (pc := 10) (u := 1) (v := 17) (n := a + 2) (j := 0) (x := .ref (a + 1)) O zc_1 (by omega) rfl rfl tv_283 rfl rfl dX2_init_10 ?_
  refine cr_ic (pc := 13) (u := 1) (v := 17) (n := a + 2) (x := nI 0) O dX2_init_13 (by decide) ?_
  refine cr_ist (pc := 14) (u := 1) (v := 17) (n := a + 2) O dX2_init_14 hl (fun ls1 hl1 => ?_)
  rw [lpg_0 (a + 1) 2]
  have hkb : ∀ i, i < 17 → ∀ j, j < 2 → yK Y (a + 1 + 1 + 2 * i + j) = (kl_3).getD j (0, 0) := fun i hi j hj => by
    have := hkd (2 + (2 * i + j)) (by omega)
    rw [kd_1_lp i hi j hj] at this
    rw [← this]; congr 1; omega
  refine cr_lp (ci := 1) (a := a) (pc := 15) (ex := 40) (ba := a + 1) (u0 := 1) (v0 := 17) (K := 17) (t := 5) (t0 := 4) (j0 := 0) (cnt := 2) (N := 1) (sl := 10) (T := TX4) O mk_3 tv_280 (Or.inr ⟨_, List.mem_of_getElem? (i := 8) rfl⟩) rfl rfl zc_1 (by omega) rfl tv_283 ⟨by rw [hR]; exact Nat.le_of_ble_eq_true rfl, by rw [hR]; exact Nat.le_of_ble_eq_true rfl⟩ (by rw [hR]; exact Nat.le_of_ble_eq_true rfl) (by rw [hR]; exact Nat.le_of_ble_eq_true rfl) hml (by omega) (by omega) (by omega) hkb rfl dX2_init_21 dX2_init_22 dX2_init_25 dX2_init_26 dX2_init_29 dX2_init_30 dX2_init_33 dX2_init_34 dX2_init_37 (fun i u v n w ls hi h1 k1 k2 => cr_il (pc := 15) O dX2_init_15 h1 (cr_bi (pc := 16) (x := nI 16) O dX2_init_16 (by decide) (cr_gtI (pc := 18) (tgt := 40) O dX2_init_18 (by decide) (fun z => k2 (by have := (nI_ltI (by omega) (by omega)).mp z; omega)) (fun z => k1 (by have := mt (nI_ltI (a := 16) (b := i) (by omega) (by omega)).mpr z; omega))))) (fun ls2 hl2 => ?_) 17 0 ls1 rfl (by omega) hl1
  refine cr_cl (cl0 := cl0) (by show a + 1 ≠ a; omega) (fun H hw => zRa_q5 (hkd 1 (by omega)) (fun j hj => by have := hkb j hj 0 (by omega); exact this) hw) ?_
  refine cr_rt (cnt := 36) O rfl hr hlk hQ dX2_init_40 rfl (hkd 0 (by omega)) (fun C T N hC => ?_) (fun k hk => absurd (zF_2 hk).1 (by decide))
  · cases hC
    intro k hk
    have e0 : yK Y a = (11, 0) := hkd 0 (by omega)
    rcases (show k = 0 by omega) with rfl
    · rfl
theorem mk_1 : zMk yX2_init cX2_init 2 ({ frames := 2, cells := 35, slots := 204, locals := 32 } : Room) 1 36 204 kl_1 (fun Y _ => zh0 Y) RX2 1 := ⟨ct_1, ⟨TX2, tyX2, zc_1, fun j hj => by
  rcases (show j = 0 by omega) with rfl <;> rfl⟩, ⟨tv_275, tv_10⟩, ⟨rfl, rfl, tv_277, tv_278⟩, ⟨by decide, by decide, by decide +kernel⟩, rfl, rfl, Nat.le_of_ble_eq_true rfl⟩
theorem dX10_init_0 : decode cX10_init 0 = .ok (.aload_n 0, 1) := by decide +kernel
theorem dX10_init_1 : decode cX10_init 1 = .ok (.invokespecial 1, 3) := by decide +kernel
theorem dX10_init_4 : decode cX10_init 4 = .ok (.aload_n 0, 1) := by decide +kernel
theorem dX10_init_5 : decode cX10_init 5 = .ok (.new 7, 3) := by decide +kernel
theorem dX10_init_8 : decode cX10_init 8 = .ok (.dup, 1) := by decide +kernel
theorem dX10_init_9 : decode cX10_init 9 = .ok (.invokespecial 9, 3) := by decide +kernel
theorem dX10_init_12 : decode cX10_init 12 = .ok (.putfield 10, 3) := by decide +kernel
theorem dX10_init_15 : decode cX10_init 15 = .ok (.aload_n 0, 1) := by decide +kernel
theorem dX10_init_16 : decode cX10_init 16 = .ok (.bipush 12, 2) := by decide +kernel
theorem dX10_init_18 : decode cX10_init 18 = .ok (.anewarray 7, 3) := by decide +kernel
theorem dX10_init_21 : decode cX10_init 21 = .ok (.putfield 16, 3) := by decide +kernel
theorem dX10_init_24 : decode cX10_init 24 = .ok (.iconst 0, 1) := by decide +kernel
theorem dX10_init_25 : decode cX10_init 25 = .ok (.istore_n 1, 1) := by decide +kernel
theorem dX10_init_26 : decode cX10_init 26 = .ok (.iload_n 1, 1) := by decide +kernel
theorem dX10_init_27 : decode cX10_init 27 = .ok (.bipush 12, 2) := by decide +kernel
theorem dX10_init_29 : decode cX10_init 29 = .ok (.if_icmp .ge 22, 3) := by decide +kernel
theorem dX10_init_32 : decode cX10_init 32 = .ok (.aload_n 0, 1) := by decide +kernel
theorem dX10_init_33 : decode cX10_init 33 = .ok (.getfield 16, 3) := by decide +kernel
theorem dX10_init_36 : decode cX10_init 36 = .ok (.iload_n 1, 1) := by decide +kernel
theorem dX10_init_37 : decode cX10_init 37 = .ok (.new 7, 3) := by decide +kernel
theorem dX10_init_40 : decode cX10_init 40 = .ok (.dup, 1) := by decide +kernel
theorem dX10_init_41 : decode cX10_init 41 = .ok (.invokespecial 9, 3) := by decide +kernel
theorem dX10_init_44 : decode cX10_init 44 = .ok (.aastore, 1) := by decide +kernel
theorem dX10_init_45 : decode cX10_init 45 = .ok (.iinc 1 1, 3) := by decide +kernel
theorem dX10_init_48 : decode cX10_init 48 = .ok (.goto (-22), 3) := by decide +kernel
theorem dX10_init_51 : decode cX10_init 51 = .ok (.aload_n 0, 1) := by decide +kernel
theorem dX10_init_52 : decode cX10_init 52 = .ok (.new 20, 3) := by decide +kernel
theorem dX10_init_55 : decode cX10_init 55 = .ok (.dup, 1) := by decide +kernel
theorem dX10_init_56 : decode cX10_init 56 = .ok (.invokespecial 22, 3) := by decide +kernel
theorem dX10_init_59 : decode cX10_init 59 = .ok (.putfield 23, 3) := by decide +kernel
theorem dX10_init_62 : decode cX10_init 62 = .ok (.aload_n 0, 1) := by decide +kernel
theorem dX10_init_63 : decode cX10_init 63 = .ok (.new 27, 3) := by decide +kernel
theorem dX10_init_66 : decode cX10_init 66 = .ok (.dup, 1) := by decide +kernel
theorem dX10_init_67 : decode cX10_init 67 = .ok (.invokespecial 29, 3) := by decide +kernel
theorem dX10_init_70 : decode cX10_init 70 = .ok (.putfield 30, 3) := by decide +kernel
theorem dX10_init_73 : decode cX10_init 73 = .ok (.aload_n 0, 1) := by decide +kernel
theorem dX10_init_74 : decode cX10_init 74 = .ok (.new 34, 3) := by decide +kernel
theorem dX10_init_77 : decode cX10_init 77 = .ok (.dup, 1) := by decide +kernel
theorem dX10_init_78 : decode cX10_init 78 = .ok (.invokespecial 36, 3) := by decide +kernel
theorem dX10_init_81 : decode cX10_init 81 = .ok (.putfield 37, 3) := by decide +kernel
theorem dX10_init_84 : decode cX10_init 84 = .ok (.aload_n 0, 1) := by decide +kernel
theorem dX10_init_85 : decode cX10_init 85 = .ok (.new 34, 3) := by decide +kernel
theorem dX10_init_88 : decode cX10_init 88 = .ok (.dup, 1) := by decide +kernel
theorem dX10_init_89 : decode cX10_init 89 = .ok (.invokespecial 36, 3) := by decide +kernel
theorem dX10_init_92 : decode cX10_init 92 = .ok (.putfield 41, 3) := by decide +kernel
theorem dX10_init_95 : decode cX10_init 95 = .ok (.aload_n 0, 1) := by decide +kernel
theorem dX10_init_96 : decode cX10_init 96 = .ok (.new 44, 3) := by decide +kernel
theorem dX10_init_99 : decode cX10_init 99 = .ok (.dup, 1) := by decide +kernel
theorem dX10_init_100 : decode cX10_init 100 = .ok (.invokespecial 46, 3) := by decide +kernel
theorem dX10_init_103 : decode cX10_init 103 = .ok (.putfield 47, 3) := by decide +kernel
theorem dX10_init_106 : decode cX10_init 106 = .ok (.aload_n 0, 1) := by decide +kernel
theorem dX10_init_107 : decode cX10_init 107 = .ok (.new 51, 3) := by decide +kernel
theorem dX10_init_110 : decode cX10_init 110 = .ok (.dup, 1) := by decide +kernel
theorem dX10_init_111 : decode cX10_init 111 = .ok (.invokespecial 53, 3) := by decide +kernel
theorem dX10_init_114 : decode cX10_init 114 = .ok (.putfield 54, 3) := by decide +kernel
theorem dX10_init_117 : decode cX10_init 117 = .ok (.aload_n 0, 1) := by decide +kernel
theorem dX10_init_118 : decode cX10_init 118 = .ok (.new 58, 3) := by decide +kernel
theorem dX10_init_121 : decode cX10_init 121 = .ok (.dup, 1) := by decide +kernel
theorem dX10_init_122 : decode cX10_init 122 = .ok (.invokespecial 60, 3) := by decide +kernel
theorem dX10_init_125 : decode cX10_init 125 = .ok (.putfield 61, 3) := by decide +kernel
theorem dX10_init_128 : decode cX10_init 128 = .ok (.aload_n 0, 1) := by decide +kernel
theorem dX10_init_129 : decode cX10_init 129 = .ok (.bipush 28, 2) := by decide +kernel
theorem dX10_init_131 : decode cX10_init 131 = .ok (.newarray .int, 2) := by decide +kernel
theorem dX10_init_133 : decode cX10_init 133 = .ok (.putfield 65, 3) := by decide +kernel
theorem dX10_init_136 : decode cX10_init 136 = .ok (.return_, 1) := by decide +kernel
def kl_9 : List (Nat × Nat) := [(19, 0), (16, 0), (15, 0), (1, 10), (1, 10), (1, 10), (1, 28), (1, 28), (1, 5), (10, 0), (1, 28), (12, 0), (1, 28), (1, 10), (4, 12), (16, 0), (15, 0), (1, 10), (1, 10), (1, 10), (1, 28), (1, 28), (1, 5), (10, 0), (1, 28), (12, 0), (1, 28), (1, 10), (16, 0), (15, 0), (1, 10), (1, 10), (1, 10), (1, 28), (1, 28), (1, 5), (10, 0), (1, 28), (12, 0), (1, 28), (1, 10), (16, 0), (15, 0), (1, 10), (1, 10), (1, 10), (1, 28), (1, 28), (1, 5), (10, 0), (1, 28), (12, 0), (1, 28), (1, 10), (16, 0), (15, 0), (1, 10), (1, 10), (1, 10), (1, 28), (1, 28), (1, 5), (10, 0), (1, 28), (12, 0), (1, 28), (1, 10), (16, 0), (15, 0), (1, 10), (1, 10), (1, 10), (1, 28), (1, 28), (1, 5), (10, 0), (1, 28), (12, 0), (1, 28), (1, 10), (16, 0), (15, 0), (1, 10), (1, 10), (1, 10), (1, 28), (1, 28), (1, 5), (10, 0), (1, 28), (12, 0), (1, 28), (1, 10), (16, 0), (15, 0), (1, 10), (1, 10), (1, 10), (1, 28), (1, 28), (1, 5), (10, 0), (1, 28), (12, 0), (1, 28), (1, 10), (16, 0), (15, 0), (1, 10), (1, 10), (1, 10), (1, 28), (1, 28), (1, 5), (10, 0), (1, 28), (12, 0), (1, 28), (1, 10), (16, 0), (15, 0), (1, 10), (1, 10), (1, 10), (1, 28), (1, 28), (1, 5), (10, 0), (1, 28), (12, 0), (1, 28), (1, 10), (16, 0), (15, 0), (1, 10), (1, 10), (1, 10), (1, 28), (1, 28), (1, 5), (10, 0), (1, 28), (12, 0), (1, 28), (1, 10), (16, 0), (15, 0), (1, 10), (1, 10), (1, 10), (1, 28), (1, 28), (1, 5), (10, 0), (1, 28), (12, 0), (1, 28), (1, 10), (16, 0), (15, 0), (1, 10), (1, 10), (1, 10), (1, 28), (1, 28), (1, 5), (10, 0), (1, 28), (12, 0), (1, 28), (1, 10), (17, 0), (15, 0), (1, 10), (1, 10), (1, 10), (1, 28), (1, 28), (1, 5), (1, 400), (14, 0), (13, 0), (1, 10), (13, 0), (1, 10), (12, 0), (1, 28), (1, 10), (18, 0), (1, 10), (1, 1024), (3, 1024), (11, 0), (5, 17), (13, 0), (1, 10), (13, 0), (1, 10), (13, 0), (1, 10), (13, 0), (1, 10), (13, 0), (1, 10), (13, 0), (1, 10), (13, 0), (1, 10), (13, 0), (1, 10), (13, 0), (1, 10), (13, 0), (1, 10), (13, 0), (1, 10), (13, 0), (1, 10), (13, 0), (1, 10), (13, 0), (1, 10), (13, 0), (1, 10), (13, 0), (1, 10), (13, 0), (1, 10), (1, 28)]
theorem kd_9_1 : ∀ i, i < 13 → (kl_9).getD (1 + i) (0, 0) = (kl_6).getD i (0, 0) := by decide +kernel
theorem kd_9_lp : ∀ i, i < 12 → ∀ j, j < 13 → (kl_9).getD (15 + (13 * i + j)) (0, 0) = (kl_6).getD j (0, 0) := by decide +kernel
theorem kd_9_lq : ∀ i, i < 12 → (kl_9).getD (15 + 13 * i) (0, 0) = (16, 0) := by decide +kernel
theorem kd_9_171 : ∀ i, i < 9 → (kl_9).getD (171 + i) (0, 0) = (kl_7).getD i (0, 0) := by decide +kernel
theorem kd_9_180 : ∀ i, i < 1 → (kl_9).getD (180 + i) (0, 0) = (kl_4).getD i (0, 0) := by decide +kernel
theorem kd_9_181 : ∀ i, i < 2 → (kl_9).getD (181 + i) (0, 0) = (kl_3).getD i (0, 0) := by decide +kernel
theorem kd_9_183 : ∀ i, i < 2 → (kl_9).getD (183 + i) (0, 0) = (kl_3).getD i (0, 0) := by decide +kernel
theorem kd_9_185 : ∀ i, i < 3 → (kl_9).getD (185 + i) (0, 0) = (kl_2).getD i (0, 0) := by decide +kernel
theorem kd_9_188 : ∀ i, i < 4 → (kl_9).getD (188 + i) (0, 0) = (kl_8).getD i (0, 0) := by decide +kernel
theorem kd_9_192 : ∀ i, i < 36 → (kl_9).getD (192 + i) (0, 0) = (kl_1).getD i (0, 0) := by decide +kernel
set_option maxHeartbeats 4000000 in
set_option maxRecDepth 100000 in
theorem ct_9 : zCt yX10_init cX10_init 2 ({ frames := 3, cells := 228, slots := 5248, locals := 53 } : Room) 9 229 5248 kl_9 (fun Y _ => zh0 Y) := by
  refine zCt_of rfl rfl (by omega) ?_
  intro X Y a ls hkd O hR hr hlk hQ hml hsz hl
  refine ⟨cl0, ?_⟩
  refine cr_al (pc := 0) (u := 0) (v := 0) (n := a + 1) O dX10_init_0 (lv_at hl 0 rfl) ?_
  refine cr_ob (pc := 1) (u := 0) (v := 0) (n := a + 1) O tv_31 tv_32 tv_33 dX10_init_1 (by rw [hml]; exact hl.1) (by rw [hR]; exact Nat.le_of_ble_eq_true rfl) (by rw [hR]; exact Nat.le_of_ble_eq_true rfl) ?_
  refine cr_al (pc := 4) (u := 0) (v := 0) (n := a + 1) O dX10_init_4 (lv_at hl 0 rfl) ?_
  refine cr_mk (pc := 5) (u := 0) (v := 0) (n := a + 1) O mk_6 tv_34 (Or.inr ⟨_, List.mem_of_getElem? (i := 0) rfl⟩) dX10_init_5 dX10_init_8 dX10_init_9 ⟨by rw [hR]; exact Nat.le_of_ble_eq_true rfl, by rw [hR]; exact Nat.le_of_ble_eq_true rfl⟩ (by rw [hR]; exact Nat.le_of_ble_eq_true rfl) (by rw [hR]; exact Nat.le_of_ble_eq_true rfl) (by rw [hml]; exact hl.1) (Nat.le_of_ble_eq_true rfl) (fun i hi => by have := hkd (1 + i) (by omega); rw [← Nat.add_assoc] at this; rw [this]; exact kd_9_1 i hi) ?_
  refine cr_pN (pc := 12) (u := 13) (v := 182) (n := a + 14) (j := 0) (x := .ref (a + 1)) O zc_9 (by omega) rfl tv_287 rfl rfl dX10_init_12 ?_
  refine cr_al (pc := 15) (u := 13) (v := 182) (n := a + 14) O dX10_init_15 (lv_at hl 0 rfl) ?_
  refine cr_bi (pc := 16) (u := 13) (v := 182) (n := a + 14) (x := nI 12) O dX10_init_16 (by decide) ?_
  refine cr_nq (k := 12) (t := 4) (t0 := 3) (pc := 18) (u := 13) (v := 182) (n := a + 14) O rfl tv_34 O.1.2.2.2.2.2.2.1.1 rfl dX10_init_18 (by omega) (by rw [hR]; exact Nat.le_of_ble_eq_true rfl) (by rw [hR]; exact Nat.le_of_ble_eq_true rfl) ?_
  refine cr_pF (pc := 21) (u := 14) (v := 194) (n := a + 15) (j := 1) (x := .ref (a + 14)) O zc_9 (by omega) rfl rfl tv_288 rfl rfl dX10_init_21 ?_
  refine cr_ic (pc := 24) (u := 14) (v := 194) (n := a + 15) (x := nI 0) O dX10_init_24 (by decide) ?_
  refine cr_ist (pc := 25) (u := 14) (v := 194) (n := a + 15) O dX10_init_25 hl (fun ls1 hl1 => ?_)
  rw [lpg_0 (a + 14) 13]
  have hkb : ∀ i, i < 12 → ∀ j, j < 13 → yK Y (a + 14 + 1 + 13 * i + j) = (kl_6).getD j (0, 0) := fun i hi j hj => by
    have := hkd (15 + (13 * i + j)) (by omega)
    rw [kd_9_lp i hi j hj] at this
    rw [← this]; congr 1; omega
  refine cr_lp (ci := 9) (a := a) (pc := 26) (ex := 51) (ba := a + 14) (u0 := 14) (v0 := 194) (K := 12) (t := 4) (t0 := 3) (j0 := 1) (cnt := 13) (N := 3) (sl := 179) (T := TX7) O mk_6 tv_34 (Or.inr ⟨_, List.mem_of_getElem? (i := 0) rfl⟩) rfl rfl zc_9 (by omega) rfl tv_288 ⟨by rw [hR]; exact Nat.le_of_ble_eq_true rfl, by rw [hR]; exact Nat.le_of_ble_eq_true rfl⟩ (by rw [hR]; exact Nat.le_of_ble_eq_true rfl) (by rw [hR]; exact Nat.le_of_ble_eq_true rfl) hml (by omega) (by omega) (by omega) hkb rfl dX10_init_32 dX10_init_33 dX10_init_36 dX10_init_37 dX10_init_40 dX10_init_41 dX10_init_44 dX10_init_45 dX10_init_48 (fun i u v n w ls hi h1 k1 k2 => cr_il (pc := 26) O dX10_init_26 h1 (cr_bi (pc := 27) (x := nI 12) O dX10_init_27 (by decide) (cr_geI (pc := 29) (tgt := 51) O dX10_init_29 (by decide) (fun z => k2 (by have := (nI_leI (by omega) (by omega)).mp z; omega)) (fun z => k1 (by have := mt (nI_leI (a := 12) (b := i) (by omega) (by omega)).mpr z; omega))))) (fun ls2 hl2 => ?_) 12 0 ls1 rfl (by omega) hl1
  refine cr_cl (cl0 := cl0) (by show a + 14 ≠ a; omega) (fun H hw => zRa_q4 (hkd 14 (by omega)) (fun j hj => by have := hkb j hj 0 (by omega); exact this) hw) ?_
  refine cr_al (pc := 51) (u := 170) (v := 2378) (n := a + 171) O dX10_init_51 (lv_at hl2 1 rfl) ?_
  refine cr_mk (pc := 52) (u := 170) (v := 2378) (n := a + 171) O mk_7 tv_186 (Or.inr ⟨_, List.mem_of_getElem? (i := 3) rfl⟩) dX10_init_52 dX10_init_55 dX10_init_56 ⟨by rw [hR]; exact Nat.le_of_ble_eq_true rfl, by rw [hR]; exact Nat.le_of_ble_eq_true rfl⟩ (by rw [hR]; exact Nat.le_of_ble_eq_true rfl) (by rw [hR]; exact Nat.le_of_ble_eq_true rfl) (by rw [hml]; exact hl2.1) (Nat.le_of_ble_eq_true rfl) (fun i hi => by have := hkd (171 + i) (by omega); rw [← Nat.add_assoc] at this; rw [this]; exact kd_9_171 i hi) ?_
  refine cr_pF (pc := 59) (u := 179) (v := 2885) (n := a + 180) (j := 4) (x := .ref (a + 171)) O zc_9 (by omega) rfl rfl tv_291 rfl rfl dX10_init_59 ?_
  refine cr_al (pc := 62) (u := 179) (v := 2885) (n := a + 180) O dX10_init_62 (lv_at hl2 1 rfl) ?_
  refine cr_mk (pc := 63) (u := 179) (v := 2885) (n := a + 180) O mk_4 tv_222 (Or.inr ⟨_, List.mem_of_getElem? (i := 4) rfl⟩) dX10_init_63 dX10_init_66 dX10_init_67 ⟨by rw [hR]; exact Nat.le_of_ble_eq_true rfl, by rw [hR]; exact Nat.le_of_ble_eq_true rfl⟩ (by rw [hR]; exact Nat.le_of_ble_eq_true rfl) (by rw [hR]; exact Nat.le_of_ble_eq_true rfl) (by rw [hml]; exact hl2.1) (Nat.le_of_ble_eq_true rfl) (fun i hi => by have := hkd (180 + i) (by omega); rw [← Nat.add_assoc] at this; rw [this]; exact kd_9_180 i hi) ?_
  refine cr_pF (pc := 70) (u := 180) (v := 2889) (n := a + 181) (j := 8) (x := .ref (a + 180)) O zc_9 (by omega) rfl rfl tv_295 rfl rfl dX10_init_70 ?_
  refine cr_al (pc := 73) (u := 180) (v := 2889) (n := a + 181) O dX10_init_73 (lv_at hl2 1 rfl) ?_
  refine cr_mk (pc := 74) (u := 180) (v := 2889) (n := a + 181) O mk_3 tv_245 (Or.inr ⟨_, List.mem_of_getElem? (i := 5) rfl⟩) dX10_init_74 dX10_init_77 dX10_init_78 ⟨by rw [hR]; exact Nat.le_of_ble_eq_true rfl, by rw [hR]; exact Nat.le_of_ble_eq_true rfl⟩ (by rw [hR]; exact Nat.le_of_ble_eq_true rfl) (by rw [hR]; exact Nat.le_of_ble_eq_true rfl) (by rw [hml]; exact hl2.1) (Nat.le_of_ble_eq_true rfl) (fun i hi => by have := hkd (181 + i) (by omega); rw [← Nat.add_assoc] at this; rw [this]; exact kd_9_181 i hi) ?_
  refine cr_pF (pc := 81) (u := 182) (v := 2900) (n := a + 183) (j := 9) (x := .ref (a + 181)) O zc_9 (by omega) rfl rfl tv_296 rfl rfl dX10_init_81 ?_
  refine cr_al (pc := 84) (u := 182) (v := 2900) (n := a + 183) O dX10_init_84 (lv_at hl2 1 rfl) ?_
  refine cr_mk (pc := 85) (u := 182) (v := 2900) (n := a + 183) O mk_3 tv_245 (Or.inr ⟨_, List.mem_of_getElem? (i := 5) rfl⟩) dX10_init_85 dX10_init_88 dX10_init_89 ⟨by rw [hR]; exact Nat.le_of_ble_eq_true rfl, by rw [hR]; exact Nat.le_of_ble_eq_true rfl⟩ (by rw [hR]; exact Nat.le_of_ble_eq_true rfl) (by rw [hR]; exact Nat.le_of_ble_eq_true rfl) (by rw [hml]; exact hl2.1) (Nat.le_of_ble_eq_true rfl) (fun i hi => by have := hkd (183 + i) (by omega); rw [← Nat.add_assoc] at this; rw [this]; exact kd_9_183 i hi) ?_
  refine cr_pF (pc := 92) (u := 184) (v := 2911) (n := a + 185) (j := 10) (x := .ref (a + 183)) O zc_9 (by omega) rfl rfl tv_297 rfl rfl dX10_init_92 ?_
  refine cr_al (pc := 95) (u := 184) (v := 2911) (n := a + 185) O dX10_init_95 (lv_at hl2 1 rfl) ?_
  refine cr_mk (pc := 96) (u := 184) (v := 2911) (n := a + 185) O mk_2 tv_255 (Or.inr ⟨_, List.mem_of_getElem? (i := 6) rfl⟩) dX10_init_96 dX10_init_99 dX10_init_100 ⟨by rw [hR]; exact Nat.le_of_ble_eq_true rfl, by rw [hR]; exact Nat.le_of_ble_eq_true rfl⟩ (by rw [hR]; exact Nat.le_of_ble_eq_true rfl) (by rw [hR]; exact Nat.le_of_ble_eq_true rfl) (by rw [hml]; exact hl2.1) (Nat.le_of_ble_eq_true rfl) (fun i hi => by have := hkd (185 + i) (by omega); rw [← Nat.add_assoc] at this; rw [this]; exact kd_9_185 i hi) ?_
  refine cr_pF (pc := 103) (u := 187) (v := 2954) (n := a + 188) (j := 11) (x := .ref (a + 185)) O zc_9 (by omega) rfl rfl tv_298 rfl rfl dX10_init_103 ?_
  refine cr_al (pc := 106) (u := 187) (v := 2954) (n := a + 188) O dX10_init_106 (lv_at hl2 1 rfl) ?_
  refine cr_mk (pc := 107) (u := 187) (v := 2954) (n := a + 188) O mk_8 tv_257 (Or.inr ⟨_, List.mem_of_getElem? (i := 7) rfl⟩) dX10_init_107 dX10_init_110 dX10_init_111 ⟨by rw [hR]; exact Nat.le_of_ble_eq_true rfl, by rw [hR]; exact Nat.le_of_ble_eq_true rfl⟩ (by rw [hR]; exact Nat.le_of_ble_eq_true rfl) (by rw [hR]; exact Nat.le_of_ble_eq_true rfl) (by rw [hml]; exact hl2.1) (Nat.le_of_ble_eq_true rfl) (fun i hi => by have := hkd (188 + i) (by omega); rw [← Nat.add_assoc] at this; rw [this]; exact kd_9_188 i hi) ?_
  refine cr_pF (pc := 114) (u := 191) (v := 5015) (n := a + 192) (j := 12) (x := .ref (a + 188)) O zc_9 (by omega) rfl rfl tv_299 rfl rfl dX10_init_114 ?_
  refine cr_al (pc := 117) (u := 191) (v := 5015) (n := a + 192) O dX10_init_117 (lv_at hl2 1 rfl) ?_
  refine cr_mk (pc := 118) (u := 191) (v := 5015) (n := a + 192) O mk_1 tv_274 (Or.inl tv_276) dX10_init_118 dX10_init_121 dX10_init_122 ⟨by rw [hR]; exact Nat.le_of_ble_eq_true rfl, by rw [hR]; exact Nat.le_of_ble_eq_true rfl⟩ (by rw [hR]; exact Nat.le_of_ble_eq_true rfl) (by rw [hR]; exact Nat.le_of_ble_eq_true rfl) (by rw [hml]; exact hl2.1) (Nat.le_of_ble_eq_true rfl) (fun i hi => by have := hkd (192 + i) (by omega); rw [← Nat.add_assoc] at this; rw [this]; exact kd_9_192 i hi) ?_
  refine cr_pF (pc := 125) (u := 227) (v := 5220) (n := a + 228) (j := 13) (x := .ref (a + 192)) O zc_9 (by omega) rfl rfl tv_300 rfl rfl dX10_init_125 ?_
  refine cr_al (pc := 128) (u := 227) (v := 5220) (n := a + 228) O dX10_init_128 (lv_at hl2 1 rfl) ?_
  refine cr_bi (pc := 129) (u := 227) (v := 5220) (n := a + 228) (x := nI 28) O dX10_init_129 (by decide) ?_
  refine cr_nI (k := 28) (pc := 131) (u := 227) (v := 5220) (n := a + 228) O tv_94 dX10_init_131 (by omega) (by omega) (hkd 228 (by omega)) (by rw [hR]; exact Nat.le_of_ble_eq_true rfl) (by rw [hR]; exact Nat.le_of_ble_eq_true rfl) ?_
  refine cr_pF (pc := 133) (u := 228) (v := 5248) (n := a + 229) (j := 14) (x := .ref (a + 228)) O zc_9 (by omega) rfl rfl tv_301 rfl rfl dX10_init_133 ?_
  refine cr_rt (cnt := 229) O rfl hr hlk hQ dX10_init_136 rfl (hkd 0 (by omega)) (fun C T N hC => ?_) (fun k hk => ?_)
  · cases hC
    intro k hk
    have e0 : yK Y a = (19, 0) := hkd 0 (by omega)
    rcases (show k = 0 ∨ k = 1 ∨ k = 2 ∨ k = 3 ∨ k = 4 ∨ k = 5 ∨ k = 6 ∨ k = 7 ∨ k = 8 ∨ k = 9 ∨ k = 10 ∨ k = 11 ∨ k = 12 ∨ k = 13 ∨ k = 14 by omega) with rfl | rfl | rfl | rfl | rfl | rfl | rfl | rfl | rfl | rfl | rfl | rfl | rfl | rfl | rfl
    · show _ = Value.ref (rwz (yK Y a).1 a 0); rw [e0]; rfl
    · rfl
    · show _ = Value.int (iw (yK Y a) 2); rw [e0]; rfl
    · show _ = Value.int (iw (yK Y a) 3); rw [e0]; rfl
    · rfl
    · show _ = Value.int (iw (yK Y a) 5); rw [e0]; rfl
    · show _ = Value.int (iw (yK Y a) 6); rw [e0]; rfl
    · show _ = Value.int (iw (yK Y a) 7); rw [e0]; rfl
    · rfl
    · rfl
    · rfl
    · rfl
    · rfl
    · rfl
    · rfl
  · obtain ⟨-, rfl⟩ := zF_2 hk
    have e0 : yK Y a = (19, 0) := hkd 0 (by omega)
    show yK Y (rwz (yK Y a).1 a 0) = (16, 0)
    rw [e0]
    exact hkd 1 (by omega)
theorem mk_9 : zMk yX10_init cX10_init 2 ({ frames := 3, cells := 228, slots := 5248, locals := 53 } : Room) 9 229 5248 kl_9 (fun Y _ => zh0 Y) RX10 15 := ⟨ct_9, ⟨TX10, tyX10, zc_9, fun j hj => by
  rcases (show j = 0 ∨ j = 1 ∨ j = 2 ∨ j = 3 ∨ j = 4 ∨ j = 5 ∨ j = 6 ∨ j = 7 ∨ j = 8 ∨ j = 9 ∨ j = 10 ∨ j = 11 ∨ j = 12 ∨ j = 13 ∨ j = 14 by omega) with rfl | rfl | rfl | rfl | rfl | rfl | rfl | rfl | rfl | rfl | rfl | rfl | rfl | rfl | rfl <;> rfl⟩, ⟨tv_27, tv_1⟩, ⟨rfl, rfl, tv_29, tv_30⟩, ⟨by decide, by decide, by decide +kernel⟩, rfl, rfl, Nat.le_of_ble_eq_true rfl⟩

