theorem dJ0_coder_7d493_14 : decode cJ0_coder_7d493 14 = .ok (.ireturn, 1) := by decide +kernel
theorem dJ0_coder_7d493_13 : decode cJ0_coder_7d493 13 = .ok (.iconst 1, 1) := by decide +kernel
theorem dJ0_coder_7d493_0 : decode cJ0_coder_7d493 0 = .ok (.getstatic 38, 3) := by decide +kernel
theorem dJ0_coder_7d493_3 : decode cJ0_coder_7d493 3 = .ok (.ifCond .eq 10, 3) := by decide +kernel
theorem dJ0_coder_7d493_6 : decode cJ0_coder_7d493 6 = .ok (.aload_n 0, 1) := by decide +kernel
theorem dJ0_coder_7d493_7 : decode cJ0_coder_7d493 7 = .ok (.getfield 15, 3) := by decide +kernel
theorem dJ0_coder_7d493_10 : decode cJ0_coder_7d493 10 = .ok (.goto 4, 3) := by decide +kernel
theorem dJ0_isLatin1_aae02_18 : decode cJ0_isLatin1_aae02 18 = .ok (.ireturn, 1) := by decide +kernel
theorem dJ0_isLatin1_aae02_17 : decode cJ0_isLatin1_aae02 17 = .ok (.iconst 0, 1) := by decide +kernel
theorem dJ0_isLatin1_aae02_0 : decode cJ0_isLatin1_aae02 0 = .ok (.getstatic 38, 3) := by decide +kernel
theorem dJ0_isLatin1_aae02_3 : decode cJ0_isLatin1_aae02 3 = .ok (.ifCond .eq 14, 3) := by decide +kernel
theorem dJ0_isLatin1_aae02_6 : decode cJ0_isLatin1_aae02 6 = .ok (.aload_n 0, 1) := by decide +kernel
theorem dJ0_isLatin1_aae02_7 : decode cJ0_isLatin1_aae02 7 = .ok (.getfield 15, 3) := by decide +kernel
theorem dJ0_isLatin1_aae02_10 : decode cJ0_isLatin1_aae02 10 = .ok (.ifCond .ne 7, 3) := by decide +kernel
theorem dJ0_isLatin1_aae02_13 : decode cJ0_isLatin1_aae02 13 = .ok (.iconst 1, 1) := by decide +kernel
theorem dJ0_isLatin1_aae02_14 : decode cJ0_isLatin1_aae02 14 = .ok (.goto 4, 3) := by decide +kernel
theorem dJ1_charAt_3b067_0 : decode cJ1_charAt_3b067 0 = .ok (.iload_n 1, 1) := by decide +kernel
theorem dJ1_charAt_3b067_1 : decode cJ1_charAt_3b067 1 = .ok (.aload_n 0, 1) := by decide +kernel
theorem dJ1_charAt_3b067_2 : decode cJ1_charAt_3b067 2 = .ok (.arraylength, 1) := by decide +kernel
theorem dJ1_charAt_3b067_3 : decode cJ1_charAt_3b067 3 = .ok (.invokestatic 9, 3) := by decide +kernel
theorem dJ1_charAt_3b067_6 : decode cJ1_charAt_3b067 6 = .ok (.aload_n 0, 1) := by decide +kernel
theorem dJ1_charAt_3b067_7 : decode cJ1_charAt_3b067 7 = .ok (.iload_n 1, 1) := by decide +kernel
theorem dJ1_charAt_3b067_8 : decode cJ1_charAt_3b067 8 = .ok (.baload, 1) := by decide +kernel
theorem dJ1_charAt_3b067_9 : decode cJ1_charAt_3b067 9 = .ok (.sipush 255, 3) := by decide +kernel
theorem dJ1_charAt_3b067_12 : decode cJ1_charAt_3b067 12 = .ok (.iand, 1) := by decide +kernel
theorem dJ1_charAt_3b067_13 : decode cJ1_charAt_3b067 13 = .ok (.i2c, 1) := by decide +kernel
theorem dJ1_charAt_3b067_14 : decode cJ1_charAt_3b067 14 = .ok (.ireturn, 1) := by decide +kernel
theorem dJ0_charAt_5068e_0 : decode cJ0_charAt_5068e 0 = .ok (.aload_n 0, 1) := by decide +kernel
theorem dJ0_charAt_5068e_1 : decode cJ0_charAt_5068e 1 = .ok (.invokevirtual 492, 3) := by decide +kernel
theorem dJ0_charAt_5068e_4 : decode cJ0_charAt_5068e 4 = .ok (.ifCond .eq 12, 3) := by decide +kernel
theorem dJ0_charAt_5068e_7 : decode cJ0_charAt_5068e 7 = .ok (.aload_n 0, 1) := by decide +kernel
theorem dJ0_charAt_5068e_8 : decode cJ0_charAt_5068e 8 = .ok (.getfield 9, 3) := by decide +kernel
theorem dJ0_charAt_5068e_11 : decode cJ0_charAt_5068e 11 = .ok (.iload_n 1, 1) := by decide +kernel
theorem dJ0_charAt_5068e_12 : decode cJ0_charAt_5068e 12 = .ok (.invokestatic 495, 3) := by decide +kernel
theorem dJ0_charAt_5068e_15 : decode cJ0_charAt_5068e 15 = .ok (.ireturn, 1) := by decide +kernel
theorem dJ0_length_8abf5_0 : decode cJ0_length_8abf5 0 = .ok (.aload_n 0, 1) := by decide +kernel
theorem dJ0_length_8abf5_1 : decode cJ0_length_8abf5 1 = .ok (.getfield 9, 3) := by decide +kernel
theorem dJ0_length_8abf5_4 : decode cJ0_length_8abf5 4 = .ok (.arraylength, 1) := by decide +kernel
theorem dJ0_length_8abf5_5 : decode cJ0_length_8abf5 5 = .ok (.aload_n 0, 1) := by decide +kernel
theorem dJ0_length_8abf5_6 : decode cJ0_length_8abf5 6 = .ok (.invokevirtual 335, 3) := by decide +kernel
theorem dJ0_length_8abf5_9 : decode cJ0_length_8abf5 9 = .ok (.ishr, 1) := by decide +kernel
theorem dJ0_length_8abf5_10 : decode cJ0_length_8abf5 10 = .ok (.ireturn, 1) := by decide +kernel
/-! String constants: length and charAt -/
theorem zSd_dead {X : zX} {Y : zY} {u v pc : Nat} : zSd X Y u v pc (fun _ _ _ => False) := fun _ _ _ t => t.elim
def stL (n : Nat) : Nat := zLen.getD n 0
def stC (n j : Nat) : Int32 := (zByt.getD n []).getD j 0
theorem stC_ok : ∀ n, n < zNT → ∀ j, j < stL n → ((stC n j &&& 255).toUInt32 % 65536).toInt32 = stC n j := by decide +kernel
theorem stC_nar : ∀ n, n < zNT → ∀ j, j < stL n → narrow .char (.int (stC n j)) = .int (stC n j) := by decide +kernel
theorem stL_lt : ∀ n, n < zNT → stL n < 32 := by decide +kernel
section ZS
variable {X : zX} {Y : zY} {u v pc : Nat} {cc : ByteArray} {own : String} {k : zT}
theorem zr_gcs {idx : Nat} (O : zOK X Y cc own) (hl : Cond.fieldLink own idx "java/lang/String" "COMPACT_STRINGS" "Z" ∈ zTW) (d : decode cc pc = .ok (.getstatic idx, 3)) (hk : zSd X Y u v (pc + 3) k) : zSd X Y u v pc (zi_c 1 k) := by
  intro ls st h t H locs lsA hR hL hv hS
  exact va_gets O.1 O.2.1 O.2.2.2.2.2.1.2.2.2.2.2.1.1 (zS_lo O.2.2.2.2.2.2.1 O.2.2.2.2.2.2.2 hS) O.2.2.1 (O.2.2.2.1 _ hl) (fun _ h9 => h9) d (hk _ _ _ t H locs lsA hR hL (zqc trivial hv) hS)
def zi_gcd (k : zT) : zT := fun ls st h => match st with
  | .inr (.inr (kd, a)) :: st' => cond (Nat.beq kd.1 7) (k ls (.inl 0 :: st') h) False
  | _ => False
theorem zr_gcd {idx : Nat} (O : zOK X Y cc own) (hl : Cond.fieldLink own idx "java/lang/String" "coder" "B" ∈ zTW) (d : decode cc pc = .ok (.getfield idx, 3)) (hk : zSd X Y u v (pc + 3) k) : zSd X Y u v pc (zi_gcd k) := by
  intro ls st h t H locs lsA hR hL hv hS
  rcases st with _ | ⟨_ | _ | ⟨kd, a⟩, st⟩ <;> first | exact False.elim t | skip
  obtain ⟨b, tk⟩ := zcond t
  have hka : yK Y a = kd := (zq1 hv).1
  rw [zkd (zbeq b)] at hka
  obtain ⟨adK, adV, g1, g2, g3, g4, g5⟩ := O.2.2.2.2.2.1.2.2.2.1
  obtain ⟨hn, ha⟩ := g3 a _ hka
  subst ha
  exact vk_getf O.1 O.2.1 (g1.1 _ hn).2.1 (zS_lo O.2.2.2.2.2.2.1 O.2.2.2.2.2.2.2 hS) O.2.2.1 (O.2.2.2.1 _ hl) (fun _ h9 => h9) d (hk _ _ _ tk H locs lsA hR hL (zqc trivial (zq1 hv).2) hS)
def zi_gvl (k : zT) : zT := fun ls st h => match st with
  | .inr (.inr (kd, a)) :: st' => cond (Nat.beq kd.1 7) (∀ b : Nat, kd.2 < zNT → k ls (.inr (.inr ((6, kd.2), b)) :: st') h) False
  | _ => False
theorem zr_gvl {idx : Nat} (O : zOK X Y cc own) (hl : Cond.fieldLink own idx "java/lang/String" "value" "[B" ∈ zTW) (d : decode cc pc = .ok (.getfield idx, 3)) (hk : zSd X Y u v (pc + 3) k) : zSd X Y u v pc (zi_gvl k) := by
  intro ls st h t H locs lsA hR hL hv hS
  rcases st with _ | ⟨_ | _ | ⟨kd, a⟩, st⟩ <;> first | exact False.elim t | skip
  obtain ⟨b, tk⟩ := zcond t
  have hka : yK Y a = kd := (zq1 hv).1
  rw [zkd (zbeq b)] at hka
  obtain ⟨adK, adV, g1, g2, g3, g4, g5⟩ := O.2.2.2.2.2.1.2.2.2.1
  obtain ⟨hn, ha⟩ := g3 a _ hka
  subst ha
  exact vk_getf O.1 O.2.1 (g1.1 _ hn).2.2.1 (zS_lo O.2.2.2.2.2.2.1 O.2.2.2.2.2.2.2 hS) O.2.2.1 (O.2.2.2.1 _ hl) (fun _ h9 => h9) d (hk _ _ _ (tk _ hn) H locs lsA hR hL (zqc (g4 _ hn) (zq1 hv).2) hS)
def zi_alen6 (k : zT) : zT := fun ls st h => match st with
  | .inr (.inr (kd, a)) :: st' => cond (Nat.beq kd.1 6) (k ls (.inl (nI (stL kd.2)) :: st') h) False
  | _ => False
theorem zr_alen6 (O : zOK X Y cc own) (d : decode cc pc = .ok (.arraylength, 1)) (hk : zSd X Y u v (pc + 1) k) : zSd X Y u v pc (zi_alen6 k) := by
  intro ls st h t H locs lsA hR hL hv hS
  rcases st with _ | ⟨_ | _ | ⟨kd, a⟩, st⟩ <;> first | exact False.elim t | skip
  obtain ⟨b, tk⟩ := zcond t
  have hka : yK Y a = kd := (zq1 hv).1
  rw [zkd (zbeq b)] at hka
  obtain ⟨adK, adV, g1, g2, g3, g4, g5⟩ := O.2.2.2.2.2.1.2.2.2.1
  obtain ⟨hn, ha⟩ := g5 a _ hka
  subst ha
  exact va_tlen O.1 O.2.1 (g1.1 _ hn).2.2.2 (zS_lo O.2.2.2.2.2.2.1 O.2.2.2.2.2.2.2 hS) (v := nI (stL kd.2)) rfl d (hk _ _ _ tk H locs lsA hR hL (zqc trivial (zq1 hv).2) hS)
def zi_bald6 (k : zT) : zT := fun ls st h => match st with
  | .inl i :: .inr (.inr (kd, a)) :: st' => cond (Nat.beq kd.1 6) (∃ j : Nat, i = nI j ∧ j < stL kd.2 ∧ k ls (.inl (stC kd.2 j) :: st') h) False
  | _ => False
theorem zr_bald6 (O : zOK X Y cc own) (d : decode cc pc = .ok (.baload, 1)) (hk : zSd X Y u v (pc + 1) k) : zSd X Y u v pc (zi_bald6 k) := by
  intro ls st h t H locs lsA hR hL hv hS
  rcases st with _ | ⟨i | _, _ | ⟨_ | _ | ⟨kd, a⟩, st⟩⟩ <;> first | exact False.elim t | skip
  obtain ⟨b, j, rfl, hj, tk⟩ := zcond t
  have hka : yK Y a = kd := (zq1 (zq1 hv).2).1
  rw [zkd (zbeq b)] at hka
  obtain ⟨adK, adV, g1, g2, g3, g4, g5⟩ := O.2.2.2.2.2.1.2.2.2.1
  obtain ⟨hn, ha⟩ := g5 a _ hka
  subst ha
  have hlt := stL_lt _ hn
  have hcl : (nI j).toNatClampNeg = j := nI_clamp (by omega)
  exact va_tb O.1 O.2.1 (g1.1 _ hn).2.2.2 (zS_lo O.2.2.2.2.2.2.1 O.2.2.2.2.2.2.2 hS) (vp_in_nI hj (show stL kd.2 < 2 ^ 31 by omega)) (v := .int (stC kd.2 j)) (by rw [hcl]; rfl) d (hk _ _ _ tk H locs lsA hR hL (zqc trivial (zq2 hv)) hS)
def zi_i2c (k : zT) : zT := fun ls st h => match st with
  | .inl x :: st' => k ls (.inl (x.toUInt32 % 65536).toInt32 :: st') h
  | _ => False
theorem zr_i2c (O : zOK X Y cc own) (d : decode cc pc = .ok (.i2c, 1)) (hk : zSd X Y u v (pc + 1) k) : zSd X Y u v pc (zi_i2c k) := by
  intro ls st h t H locs lsA hR hL hv hS
  rcases st with _ | ⟨x | _, st⟩ <;> first | exact False.elim t | skip
  exact lv_i2c O.1 O.2.1 d rfl (hk _ _ _ t H locs lsA hR hL (zqc trivial (zq1 hv).2) hS)
def zi_nret (ty : FieldType) (F : Option zV → zH → Prop) : zT := fun _ st h => match st with
  | [.inl x] => narrow ty (.int x) = .int x ∧ F (some (.inl x)) h
  | _ => False
variable {mc ms : Nat} {F : Option zV → zH → Prop}
theorem zr_nreturn {ty : FieldType} (O : zOK X Y cc own) (E : zEnd X Y (some ty) mc ms F) (hu : u ≤ mc) (hw : v ≤ ms) (d : decode cc pc = .ok (.ireturn, 1)) : zSd X Y u v pc (zi_nret ty F) := by
  intro ls st h t H locs lsA hR hL hv hS
  rcases st with _ | ⟨x | _, _ | ⟨_, _⟩⟩ <;> first | exact False.elim t | skip
  exact W.widen hu hw (E.2.2 _ _ _ (W.zret O.1 O.2.1 E.1 t.1 (fun T hT hW => ⟨⟨some (.inl x), h, rfl, t.2, fun q hq => by cases hq; trivial, by rw [hT]; exact hR⟩, hS.F hT⟩) hS.2.2 d (hlocks := E.2.1)))
theorem zr_cK {α : Type} {c : zC α} {y : MethodName} {b : ByteArray} {nLy idx n : Nat} {rty : Option FieldType} {rm : Room} (O : zOK X Y cc own) (hM : zM y b nLy rty rm c) (hB : zBn y b nLy rty rm n) (hV : Cond.instanceMethod y ∈ zTW ∧ Cond.selects y.cls y y ∈ zTW) (hl : Cond.methodLink own idx y ∈ zTW) (hrc : ∀ x : α, ∃ (j a : Nat) (As : List zV), c.1 x = vR 7 j a :: As)
    (hr : rm.frames + 1 ≤ (xR X).frames ∧ 8 + (nLy + 11) + rm.locals ≤ (xR X).locals ∧ u ≤ (xR X).cells ∧ v ≤ (xR X).slots) (d : decode cc pc = .ok (.invokevirtual idx, 3)) (hk : zSd X Y u v (pc + 3) k) (hy : y.cls = "java/lang/String" := by rfl) : zSd X Y u v pc (zi_c' (n + 1) c k) := by
  intro ls st h t H locs lsA hR hL hv hS
  obtain ⟨bs, st', rfl, hbs, t⟩ := zpop_spec _ _ _ _ t
  obtain ⟨b8, x, hx, hP, t⟩ := zcond t
  have hb8 := Nat.le_of_ble_eq_true b8
  rw [List.append_nil] at hx
  obtain ⟨j, a, As, hA⟩ := hrc x
  have hbs2 : bs = As.reverse ++ [vR 7 j a] := by
    have := congrArg List.reverse (hx.trans hA)
    rw [List.reverse_reverse, List.reverse_cons] at this
    exact this
  have hAn : As.length = n := by rw [hbs2] at hbs; simp at hbs; exact hbs
  have hok : ∀ q ∈ c.1 x, zok Y q := fun q hq => hv q (List.mem_append_left _ (by rw [← hx] at hq; exact List.mem_reverse.mp hq))
  have hka : yK Y a = (7, j) := hok (vR 7 j a) (by rw [hA]; exact List.mem_cons_self)
  obtain ⟨adK, adV, w1, w2, w3, w4, w5⟩ := O.2.2.2.2.2.1.2.2.2.1
  obtain ⟨hn, ha⟩ := w3 a _ hka
  obtain ⟨cell, g1, g2, g3⟩ := vk_recv w1 hn (zS_lo O.2.2.2.2.2.2.1 O.2.2.2.2.2.2.2 hS)
  rw [← ha] at g1
  rw [← hy] at g3
  obtain ⟨hVi, hVs⟩ := hV
  have hts := O.2.2.2.1
  have hmap : (c.1 x).map zv = .ref a :: As.map zv := by rw [hA]; rfl
  refine zq_call (F := c.2.2 x h) (a := (.ref a :: As.map zv : List Value).toArray) (rest := st'.map zv) (va_runV (Ts := zTW) (C := y.cls) (b := a) (As := As.map zv) ⟨O.1, O.2.1, rfl, O.2.2.1, hts⟩ (hM X.2.1 Y H.size x h O.2.2.2.2.2.2.1 hok hP) ⟨callB_of n hts (zGood hB.1) rfl hB.2.2.2.1 hB.2.2.2.2 (hts _ hB.2.1) (hts _ hl) hB.2.2.1 ⟨hr.1, hr.2.1⟩, hts _ hVi, hts _ hVs⟩ ⟨zPc_blind, ⟨cell, g1, g2, g3⟩, fun U hU hW => by rw [← hmap]; exact zpre O hR hS U hU hW⟩ rfl (by simp [hAn]) hL.1.1 (by rw [hbs2]; simp [zv]) (lv_room (by rw [zw_sum]; exact hb8)) d ⟨hr.2.2.1, hr.2.2.2⟩) hS (fun r h' H1 locs1 hF hrok hR1 _ _ hS1 => ?_)
  rw [zpush_map]
  refine hk _ _ _ (t r h' hF) H1 locs1 lsA hR1 hL (fun q hq => ?_) hS1
  cases r with
  | none => exact hv q (List.mem_append_right _ hq)
  | some w => exact (List.mem_cons.mp hq).elim (fun e => e ▸ hrok w rfl) (fun z => hv q (List.mem_append_right _ z))
end ZS
/-! checkIndex -/
def zPw (Y : zY) (sz : Nat) (a0 : Array Value) (h : zH) : Array Value → State → Prop := fun a U => a = a0 ∧ U.heap.size = sz ∧ zR Y h U.heap ∧ zK Y U ∧ zS Y U U.heap ∧ yO Y ≤ U.heap.size
theorem zPw_blind {Y : zY} {sz : Nat} {a0 : Array Value} {h : zH} : FrameBlind (zPw Y sz a0 h) := by
  intro a U g mk hp
  obtain ⟨h1, h2, h3, h4, h5, h6⟩ := hp
  exact ⟨h1, h2, h3, va_K.moved (u := U) (U := U.calling g mk a) (Vm.Alike.refl U.vm) h4, zS_moved (s := U) (U := U.calling g mk a) (State.WarmedH.refl U) h6 (fun _ _ => rfl) h5, h6⟩
theorem dJ3_checkIndex_8e157_0 : decode cJ3_checkIndex_8e157 0 = .ok (.iload_n 0, 1) := by decide +kernel
theorem dJ3_checkIndex_8e157_1 : decode cJ3_checkIndex_8e157 1 = .ok (.ifCond .lt 8, 3) := by decide +kernel
theorem dJ3_checkIndex_8e157_4 : decode cJ3_checkIndex_8e157 4 = .ok (.iload_n 0, 1) := by decide +kernel
theorem dJ3_checkIndex_8e157_5 : decode cJ3_checkIndex_8e157 5 = .ok (.iload_n 1, 1) := by decide +kernel
theorem dJ3_checkIndex_8e157_6 : decode cJ3_checkIndex_8e157 6 = .ok (.if_icmp .lt 10, 3) := by decide +kernel
theorem dJ3_checkIndex_8e157_16 : decode cJ3_checkIndex_8e157 16 = .ok (.iload_n 0, 1) := by decide +kernel
theorem dJ3_checkIndex_8e157_17 : decode cJ3_checkIndex_8e157 17 = .ok (.ireturn, 1) := by decide +kernel
theorem dJ0_checkIndex_df160_0 : decode cJ0_checkIndex_df160 0 = .ok (.iload_n 0, 1) := by decide +kernel
theorem dJ0_checkIndex_df160_1 : decode cJ0_checkIndex_df160 1 = .ok (.iload_n 1, 1) := by decide +kernel
theorem dJ0_checkIndex_df160_2 : decode cJ0_checkIndex_df160 2 = .ok (.getstatic 1053, 3) := by decide +kernel
theorem dJ0_checkIndex_df160_5 : decode cJ0_checkIndex_df160 5 = .ok (.invokestatic 1059, 3) := by decide +kernel
theorem dJ0_checkIndex_df160_8 : decode cJ0_checkIndex_df160 8 = .ok (.pop, 1) := by decide +kernel
theorem dJ0_checkIndex_df160_9 : decode cJ0_checkIndex_df160 9 = .ok (.return_, 1) := by decide +kernel
theorem m_J3ck (l : Launch) (Y : zY) (sz : Nat) (h : zH) {i n : Int32} {v : Value} (hv : v = .null ∨ ∃ t, v = .ref t) (h1 : ¬ i < 0) (h2 : i < n) : Met l yJ3_checkIndex_8e157 (.code yJ3_checkIndex_8e157 cJ3_checkIndex_8e157 3 (some .int) :: zTW) ({ frames := 0, cells := 0, slots := 0, locals := 0 } : Room) (zPw Y sz ([.int i, .int n, v] : List Value).toArray h) (zQc Y sz (fun r h' => r = some (vI i) ∧ h' = h)) 0 0 (zA Y sz) := by
  refine Met.ofW (cc := cJ3_checkIndex_8e157) (maxL := 3) (ret := some .int) (by decide) rfl ?_
  intro p e s m args below meth cd s₁ B hml hw
  obtain ⟨rfl, rfl, hR, hK, hS, hlo⟩ := hw
  rw [lg_entry_eq]
  have hl := lv_entry [.int i, .int n, v] (n := 3) (by rcases hv with rfl | ⟨t, rfl⟩ <;> exact Nat.le_refl 3)
  refine lv_iload_n B.exec B.bytes dJ3_checkIndex_8e157_0 rfl (lv_at hl 0 rfl) ?_
  refine lv_if_lt (tgt := 9) B.exec B.bytes dJ3_checkIndex_8e157_1 rfl (fun c => absurd c h1) (fun _ => ?_)
  refine lv_iload_n B.exec B.bytes dJ3_checkIndex_8e157_4 rfl (lv_at hl 0 rfl) ?_
  refine lv_iload_n B.exec B.bytes dJ3_checkIndex_8e157_5 rfl (lv_at hl 1 rfl) ?_
  refine lv_icmp_lt (tgt := 16) B.exec B.bytes dJ3_checkIndex_8e157_6 rfl (fun _ => ?_) (fun c => absurd h2 c)
  refine lv_iload_n B.exec B.bytes dJ3_checkIndex_8e157_16 rfl (lv_at hl 0 rfl) ?_
  exact W.iret B.exec B.bytes B.returns (fun T hT hW => ⟨⟨some (.inl i), h, rfl, ⟨rfl, rfl⟩, fun q hq => by cases hq; trivial, by rw [hT]; exact hR⟩, (va_S.rf (A := zA Y s.heap.size)).F hT⟩) (va_S.rf (A := zA Y s.heap.size) (H0 := s.heap)).2.2 dJ3_checkIndex_8e157_17 (hlocks := B.notSynchronized)
def ca_J0_checkIndex_df160 : (Int32 × Int32) → List zV := fun (i, n) => [vI i, vI n]
def cp_J0_checkIndex_df160 : (Int32 × Int32) → zH → Prop := fun (i, n) _ => ¬ i < 0 ∧ i < n
def cg_J0_checkIndex_df160 : (Int32 × Int32) → zH → zH := fun _ h => h
def zi_chk (k : zT) : zT := fun ls st h => match st with
  | [.inl n, .inl i] => ¬ i < 0 ∧ i < n ∧ k ls [] h
  | _ => False
theorem zr_chk {X : zX} {Y : zY} {k : zT} (O : zOK X Y cJ0_checkIndex_df160 RJ0) (hr : 1 ≤ (xR X).frames ∧ 22 ≤ (xR X).locals ∧ 0 ≤ (xR X).cells ∧ 0 ≤ (xR X).slots) (hk : zSd X Y 0 0 9 k) : zSd X Y 0 0 2 (zi_chk k) := by
  intro ls st h t H locs lsA hR hL hv hS
  rcases st with _ | ⟨n | _, _ | ⟨i | _, _ | ⟨_, _⟩⟩⟩ <;> first | exact False.elim t | skip
  obtain ⟨t1, t2, t⟩ := t
  have hlo := zS_lo O.2.2.2.2.2.2.1 O.2.2.2.2.2.2.2 hS
  have hts := O.2.2.2.1
  have key : ∀ w : Value, (w = .null ∨ ∃ t, w = .ref t) → W X.1 X.2.1 X.2.2.1 (xR X) (xS X) (xM X) (xA X) (xB X) (xH X) (xC X) H locs 0 0 (xQ X) (F0 (xM X) 5 lsA [w, .int n, .int i]) := by
    intro w hw
    have hB := bn_J3_checkIndex_8e157 ({ frames := 0, cells := 0, slots := 0, locals := 0 } : Room) ⟨rfl, rfl⟩
    refine zq_call (Y := Y) (F := fun r h' => r = some (vI i) ∧ h' = h) (a := ([.int i, .int n, w] : List Value).toArray) (rest := []) (va_runS (Ts := zTW) (As := [.int i, .int n, w]) ⟨O.1, O.2.1, rfl, O.2.2.1, hts⟩ (m_J3ck X.2.1 Y H.size h hw t1 t2) ⟨callB_of 3 hts (zGood hB.1) rfl rfl rfl (hts _ hB.2.1) (hts _ tw_581) hB.2.2.1 ⟨hr.1, hr.2.1⟩, hts _ tw_582⟩ ⟨zPw_blind, fun U hU hW => ?_⟩ rfl rfl hL.1.1 rfl (lv_room (by decide)) dJ0_checkIndex_df160_5 ⟨hr.2.2.1, hr.2.2.2⟩) hS (fun r h' H1 locs1 hF hrok hR1 _ _ hS1 => ?_)
    · obtain ⟨-, z2⟩ := zpre (av := []) O hR hS U hU hW
      exact ⟨rfl, z2⟩
    · obtain ⟨rfl, rfl⟩ := hF
      exact lv_pop O.1 O.2.1 dJ0_checkIndex_df160_8 rfl (hk _ _ _ t H1 locs1 lsA hR1 hL (fun q hq => by cases hq) hS1)
  rcases O.2.2.2.2.2.1.2.2.2.2.2.1.2 with hZ | ⟨t0, hZ⟩
  · exact va_gets O.1 O.2.1 hZ hlo O.2.2.1 (hts _ tw_579) (fun _ h9 => h9) dJ0_checkIndex_df160_2 (key _ (Or.inl rfl))
  · exact va_gets O.1 O.2.1 hZ hlo O.2.2.1 (hts _ tw_579) (fun _ h9 => h9) dJ0_checkIndex_df160_2 (key _ (Or.inr ⟨t0, rfl⟩))
theorem m_J0_checkIndex_df160 : zM yJ0_checkIndex_df160 cJ0_checkIndex_df160 2 none ({ frames := 1, cells := 0, slots := 0, locals := 22 } : Room) (zcV ca_J0_checkIndex_df160 cp_J0_checkIndex_df160 cg_J0_checkIndex_df160) := by
  refine zM_of (by decide) ?_
  rintro X Y ⟨i, n⟩ h ⟨h1, h2⟩ O E hR
  have B := zr_iload_n (X := X) (Y := Y) (u := 0) (v := 0) O dJ0_checkIndex_df160_0 rfl (zr_iload_n O dJ0_checkIndex_df160_1 rfl (zr_chk O (zrm hR rfl rfl) (zr_return O E (Nat.le_refl _) (Nat.le_refl _) dJ0_checkIndex_df160_9)))
  exact ⟨rfl, Nat.le_of_ble_eq_true rfl, _, B, h1, h2, rfl, rfl⟩
def ca_J0_coder_7d493 : (Nat × Nat) → List zV := fun (n, a) => [vR 7 n a]
def cp_J0_coder_7d493 : (Nat × Nat) → zH → Prop := fun _ _ => True
def cf_J0_coder_7d493 : (Nat × Nat) → zH → Int32 := fun _ _ => 0
theorem rc_J0_coder_7d493 : ∀ x : (Nat × Nat), ∃ (j a : Nat) (As : List zV), ca_J0_coder_7d493 x = vR 7 j a :: As := by
  rintro ⟨n, a⟩
  exact ⟨_, _, _, rfl⟩
set_option maxHeartbeats 4000000 in
set_option maxRecDepth 100000 in
theorem m_J0_coder_7d493 : zM yJ0_coder_7d493 cJ0_coder_7d493 1 (some .byte) ({ frames := 0, cells := 0, slots := 0, locals := 0 } : Room) (zcI ca_J0_coder_7d493 cp_J0_coder_7d493 cf_J0_coder_7d493) := by
  refine zM_of (by decide) ?_
  rintro X Y ⟨n, a⟩ h _ O E hR
  have B_14 := zr_nreturn (X := X) (Y := Y) (u := 0) (v := 0) O E (Nat.le_refl _) (Nat.le_refl _) dJ0_coder_7d493_14
  have B_13 := zr_iconst (X := X) (Y := Y) (u := 0) (v := 0) (x := 1) O dJ0_coder_7d493_13 rfl (B_14)
  have B_0 := zr_gcs (X := X) (Y := Y) (u := 0) (v := 0) O tw_563 dJ0_coder_7d493_0 (zr_ifeq (tgt := 13) O dJ0_coder_7d493_3 rfl B_13 (zr_aload_n O dJ0_coder_7d493_6 rfl (zr_gcd O tw_1739 dJ0_coder_7d493_7 (zr_goto (tgt := 14) O dJ0_coder_7d493_10 rfl B_14))))
  refine ⟨rfl, Nat.le_of_ble_eq_true rfl, _, B_0, ?_⟩
  exact ⟨fun c => absurd c (by decide), fun _ => ⟨by decide, rfl, rfl⟩⟩
def ca_J0_isLatin1_aae02 : (Nat × Nat) → List zV := fun (n, a) => [vR 7 n a]
def cp_J0_isLatin1_aae02 : (Nat × Nat) → zH → Prop := fun _ _ => True
def cf_J0_isLatin1_aae02 : (Nat × Nat) → zH → Int32 := fun _ _ => 1
theorem rc_J0_isLatin1_aae02 : ∀ x : (Nat × Nat), ∃ (j a : Nat) (As : List zV), ca_J0_isLatin1_aae02 x = vR 7 j a :: As := by
  rintro ⟨n, a⟩
  exact ⟨_, _, _, rfl⟩
set_option maxHeartbeats 4000000 in
set_option maxRecDepth 100000 in
theorem m_J0_isLatin1_aae02 : zM yJ0_isLatin1_aae02 cJ0_isLatin1_aae02 1 (some .boolean) ({ frames := 0, cells := 0, slots := 0, locals := 0 } : Room) (zcI ca_J0_isLatin1_aae02 cp_J0_isLatin1_aae02 cf_J0_isLatin1_aae02) := by
  refine zM_of (by decide) ?_
  rintro X Y ⟨n, a⟩ h _ O E hR
  have B_18 := zr_zreturn (X := X) (Y := Y) (u := 0) (v := 0) O E (Nat.le_refl _) (Nat.le_refl _) dJ0_isLatin1_aae02_18
  have B_17 := zr_iconst (X := X) (Y := Y) (u := 0) (v := 0) (x := 0) O dJ0_isLatin1_aae02_17 rfl (B_18)
  have B_0 := zr_gcs (X := X) (Y := Y) (u := 0) (v := 0) O tw_563 dJ0_isLatin1_aae02_0 (zr_ifeq (tgt := 17) O dJ0_isLatin1_aae02_3 rfl B_17 (zr_aload_n O dJ0_isLatin1_aae02_6 rfl (zr_gcd O tw_1739 dJ0_isLatin1_aae02_7 (zr_ifne (tgt := 17) O dJ0_isLatin1_aae02_10 rfl B_17 (zr_iconst (x := 1) O dJ0_isLatin1_aae02_13 rfl (zr_goto (tgt := 18) O dJ0_isLatin1_aae02_14 rfl B_18))))))
  refine ⟨rfl, Nat.le_of_ble_eq_true rfl, _, B_0, ?_⟩
  exact ⟨fun c => absurd c (by decide), fun _ => ⟨fun c => absurd rfl c, fun _ => ⟨Or.inr rfl, rfl, rfl⟩⟩⟩
def ca_J1_charAt_3b067 : (Nat × Nat × Nat) → List zV := fun (n, a, j) => [vR 6 n a, vI (nI j)]
def cp_J1_charAt_3b067 : (Nat × Nat × Nat) → zH → Prop := fun (n, a, j) _ => n < zNT ∧ j < stL n
def cf_J1_charAt_3b067 : (Nat × Nat × Nat) → zH → Int32 := fun (n, a, j) _ => stC n j
set_option maxHeartbeats 4000000 in
set_option maxRecDepth 100000 in
theorem m_J1_charAt_3b067 : zM yJ1_charAt_3b067 cJ1_charAt_3b067 2 (some .char) ({ frames := 2, cells := 0, slots := 0, locals := 43 } : Room) (zcI ca_J1_charAt_3b067 cp_J1_charAt_3b067 cf_J1_charAt_3b067) := by
  refine zM_of (by decide) ?_
  rintro X Y ⟨n, a, j⟩ h ⟨hn, hj⟩ O E hR
  have B_0 := zr_iload_n (X := X) (Y := Y) (u := 0) (v := 0) O dJ1_charAt_3b067_0 rfl (zr_aload_n O dJ1_charAt_3b067_1 rfl (zr_alen6 O dJ1_charAt_3b067_2 (zr_cVv (zr_cS (n := 2) O m_J0_checkIndex_df160 (bn_J0_checkIndex_df160 _ ⟨rfl, rfl⟩) tw_577 tw_576 (zrm hR rfl rfl) dJ1_charAt_3b067_3 (zr_aload_n O dJ1_charAt_3b067_6 rfl (zr_iload_n O dJ1_charAt_3b067_7 rfl (zr_bald6 O dJ1_charAt_3b067_8 (zr_sipush (x := (255)) O dJ1_charAt_3b067_9 (by decide) (zr_iand O dJ1_charAt_3b067_12 (zr_i2c O dJ1_charAt_3b067_13 (zr_nreturn O E (Nat.le_refl _) (Nat.le_refl _) dJ1_charAt_3b067_14)))))))))))
  refine ⟨rfl, Nat.le_of_ble_eq_true rfl, _, B_0, ?_⟩
  have hlt := stL_lt n hn
  have hj : j < stL n := hj
  have e1 := stC_ok n hn j hj
  refine ⟨(nI j, nI (stL n)), rfl, ⟨nI_pos (by omega), nI_lt hj (by omega)⟩, j, rfl, hj, ?_, zri e1, rfl⟩
  have e2 := stC_nar n hn j hj
  rw [← e1] at e2
  exact e2
def ca_J0_charAt_5068e : (Nat × Nat × Nat) → List zV := fun (n, a, j) => [vR 7 n a, vI (nI j)]
def cp_J0_charAt_5068e : (Nat × Nat × Nat) → zH → Prop := fun (n, a, j) _ => n < zNT ∧ j < stL n
def cf_J0_charAt_5068e : (Nat × Nat × Nat) → zH → Int32 := fun (n, a, j) _ => stC n j
theorem rc_J0_charAt_5068e : ∀ x : (Nat × Nat × Nat), ∃ (j a : Nat) (As : List zV), ca_J0_charAt_5068e x = vR 7 j a :: As := by
  rintro ⟨n, a, j⟩
  exact ⟨_, _, _, rfl⟩
set_option maxHeartbeats 4000000 in
set_option maxRecDepth 100000 in
theorem m_J0_charAt_5068e : zM yJ0_charAt_5068e cJ0_charAt_5068e 2 (some .char) ({ frames := 3, cells := 0, slots := 0, locals := 64 } : Room) (zcI ca_J0_charAt_5068e cp_J0_charAt_5068e cf_J0_charAt_5068e) := by
  refine zM_of (by decide) ?_
  rintro X Y ⟨n, a, j⟩ h ⟨hn, hj⟩ O E hR
  have B_0 := zr_aload_n (X := X) (Y := Y) (u := 0) (v := 0) O dJ0_charAt_5068e_0 rfl (zr_cI (zr_cK (n := 0) O m_J0_isLatin1_aae02 (bn_J0_isLatin1_aae02 _ ⟨rfl, rfl⟩) vw_J0_isLatin1_aae02 tw_569 rc_J0_isLatin1_aae02 (zrm hR rfl rfl) dJ0_charAt_5068e_1 (zr_ifeq (tgt := 16) O dJ0_charAt_5068e_4 rfl zSd_dead (zr_aload_n O dJ0_charAt_5068e_7 rfl (zr_gvl O tw_1738 dJ0_charAt_5068e_8 (zr_iload_n O dJ0_charAt_5068e_11 rfl (zr_cI (zr_cS (n := 2) O m_J1_charAt_3b067 (bn_J1_charAt_3b067 _ ⟨rfl, rfl⟩) tw_574 tw_573 (zrm hR rfl rfl) dJ0_charAt_5068e_12 (zr_nreturn O E (Nat.le_refl _) (Nat.le_refl _) dJ0_charAt_5068e_15)))))))))
  refine ⟨rfl, Nat.le_of_ble_eq_true rfl, _, B_0, ?_⟩
  exact ⟨(n, a), rfl, trivial, fun c => absurd (show (1 : Int32) = 0 from c) (by decide), fun _ b hb => ⟨(n, b, j), rfl, ⟨hn, hj⟩, stC_nar n hn j hj, rfl, rfl⟩⟩
def ca_J0_length_8abf5 : (Nat × Nat) → List zV := fun (n, a) => [vR 7 n a]
def cp_J0_length_8abf5 : (Nat × Nat) → zH → Prop := fun (n, a) _ => n < zNT
def cf_J0_length_8abf5 : (Nat × Nat) → zH → Int32 := fun (n, a) _ => nI (stL n)
theorem rc_J0_length_8abf5 : ∀ x : (Nat × Nat), ∃ (j a : Nat) (As : List zV), ca_J0_length_8abf5 x = vR 7 j a :: As := by
  rintro ⟨n, a⟩
  exact ⟨_, _, _, rfl⟩
set_option maxHeartbeats 4000000 in
set_option maxRecDepth 100000 in
theorem m_J0_length_8abf5 : zM yJ0_length_8abf5 cJ0_length_8abf5 1 (some .int) ({ frames := 1, cells := 0, slots := 0, locals := 20 } : Room) (zcI ca_J0_length_8abf5 cp_J0_length_8abf5 cf_J0_length_8abf5) := by
  refine zM_of (by decide) ?_
  rintro X Y ⟨n, a⟩ h hn O E hR
  have B_0 := zr_aload_n (X := X) (Y := Y) (u := 0) (v := 0) O dJ0_length_8abf5_0 rfl (zr_gvl O tw_1738 dJ0_length_8abf5_1 (zr_alen6 O dJ0_length_8abf5_4 (zr_aload_n O dJ0_length_8abf5_5 rfl (zr_cI (zr_cK (n := 0) O m_J0_coder_7d493 (bn_J0_coder_7d493 _ ⟨rfl, rfl⟩) vw_J0_coder_7d493 tw_559 rc_J0_coder_7d493 (zrm hR rfl rfl) dJ0_length_8abf5_6 (zr_ishr O dJ0_length_8abf5_9 (zr_ireturn O E (Nat.le_refl _) (Nat.le_refl _) dJ0_length_8abf5_10)))))))
  refine ⟨rfl, Nat.le_of_ble_eq_true rfl, _, B_0, ?_⟩
  have hlt := stL_lt n hn
  refine fun b hb => ⟨(n, a), rfl, trivial, zri ?_, rfl⟩
  have key : ∀ q, q < 32 → nI q >>> ((0 : Int32) &&& 31) = nI q := by decide +kernel
  exact key _ hlt

