/-! the reference's constructor: it ends with a call -/
def kcut (Y : zY) (b : Nat) (q : Nat) : Nat × Nat := if q = b then (1, 218) else if (yK Y q).1 = 6 ∨ (yK Y q).1 = 7 ∨ ((yK Y q).1 = 8 ∧ (yK Y q).2 < 2) then yK Y q else (0, 0)
def Ycut (Y : zY) (b : Nat) : zY := (Y.1, (Y.2.1, (kcut Y b, Y.2.2.2)))
theorem kcut_in {Y : zY} {b q t n : Nat} (hb : yK Y b = (1, 218)) (ht : t = 6 ∨ t = 7 ∨ (t = 8 ∧ n < 2)) (h : yK Y q = (t, n)) : kcut Y b q = (t, n) := by
  have hq : q ≠ b := by
    rintro rfl
    rw [hb] at h
    have := congrArg Prod.fst h
    simp only at this
    omega
  unfold kcut
  rw [if_neg hq, h, if_pos ht]
theorem kcut_out {Y : zY} {b q t n : Nat} (h : kcut Y b q = (t, n)) : (q = b ∧ t = 1 ∧ n = 218) ∨ (q ≠ b ∧ (t = 6 ∨ t = 7 ∨ (t = 8 ∧ n < 2)) ∧ yK Y q = (t, n)) ∨ (q ≠ b ∧ t = 0 ∧ n = 0) := by
  unfold kcut at h
  by_cases e : q = b
  · rw [if_pos e] at h
    cases h
    exact Or.inl ⟨e, rfl, rfl⟩
  · rw [if_neg e] at h
    split at h
    · rename_i hc
      rw [h] at hc
      exact Or.inr (Or.inl ⟨e, hc, h⟩)
    · cases h
      exact Or.inr (Or.inr ⟨e, rfl, rfl⟩)
theorem zS_cut {Y : zY} {b : Nat} {U : State} {H : Heap} (hb : yK Y b = (1, 218)) (h : zS Y U H) : zS (Ycut Y b) U H := by
  obtain ⟨h1, h2, h3, ⟨adK, adV, h4, h5, h6, h6b, h6c⟩, ⟨h7, h8⟩, h9, h10, h12⟩ := h
  refine ⟨h1, h2, h3, ⟨adK, adV, h4, fun q hq => ⟨(h5 q hq).1, kcut_in hb (Or.inr (Or.inl rfl)) (h5 q hq).2⟩, fun a n hn => ?_, fun i hi => kcut_in hb (Or.inl rfl) (h6b i hi), fun a n hn => ?_⟩, ⟨fun n hn => ?_, fun t n hn => ?_⟩, h9, h10, fun a n hn => ?_⟩
  · rcases kcut_out hn with ⟨-, z, -⟩ | ⟨-, -, z⟩ | ⟨-, z, -⟩
    · omega
    · exact h6 a n z
    · omega
  · rcases kcut_out hn with ⟨-, z, -⟩ | ⟨-, -, z⟩ | ⟨-, z, -⟩
    · omega
    · exact h6c a n z
    · omega
  · obtain ⟨t, ht, hz⟩ := h7 n hn
    exact ⟨t, kcut_in hb (Or.inr (Or.inr ⟨rfl, hn⟩)) ht, hz⟩
  · rcases kcut_out hn with ⟨-, z, -⟩ | ⟨-, -, z⟩ | ⟨-, z, -⟩
    · omega
    · exact h8 t n z
    · omega
  · rcases kcut_out hn with ⟨-, z, -⟩ | ⟨-, z, -⟩ | ⟨-, z, -⟩
    · omega
    · omega
    · omega
theorem zWF_cut {Y : zY} {b : Nat} {U : State} {H : Heap} (hlo : yO Y ≤ b) (h : zS Y U H) : zWF (Ycut Y b) := by
  refine ⟨fun a ci n k hn _ => ?_, fun a ha => ?_, fun a => ?_⟩
  · rcases kcut_out hn with ⟨-, z, -⟩ | ⟨-, z, -⟩ | ⟨-, z, -⟩ <;> omega
  · obtain ⟨z0, z6, z7, z8, z9⟩ := ha
    have hn : kcut Y b a = ((kcut Y b a).1, (kcut Y b a).2) := rfl
    rcases kcut_out hn with ⟨z, -, -⟩ | ⟨-, z, -⟩ | ⟨-, z, -⟩
    · subst z; exact hlo
    · exfalso
      rcases z with z | z | z
      · exact z6 z
      · exact z7 z
      · exact z8 z.1
    · exact absurd z z0
  · have hn : kcut Y b a = ((kcut Y b a).1, (kcut Y b a).2) := rfl
    show (kcut Y b a).2 < 2 ^ 31
    rcases kcut_out hn with ⟨-, -, z⟩ | ⟨-, z, zz⟩ | ⟨-, -, z⟩
    · rw [z]; decide
    · obtain ⟨h1, h2, h3, ⟨adK, adV, h4, h5, h6, h6b, h6c⟩, -⟩ := h
      have hNT : zNT = 10 := rfl
      rcases z with z | z | z
      · rw [z] at zz; have := (h6c a _ zz).1; omega
      · rw [z] at zz; have := (h6 a _ zz).1; omega
      · omega
    · rw [z]; decide
section ZM
variable {X : zX} {Y : zY} {ci a u v pc n : Nat} {f : Nat → Value} {ls : Array Slot} {st : List Value} {cc : ByteArray} {own : String}
theorem cr_clr {idx : Nat} {cl : Cell} (O : zOc X Y cc own a) (hl : Cond.methodLink own idx yX11_clears ∈ zTW) (hst : Cond.static yX11_clears ∈ zTW) (hcd : Cond.code yX11_clears cX11_clears 2 none ∈ zTW) (hin : Cond.initialized yX11_clears.cls ∈ zTW) (d : decode cc pc = .ok (.invokestatic idx, 3)) (hr : 1 ≤ (xR X).frames ∧ 21 ≤ (xR X).locals ∧ u ≤ (xR X).cells ∧ v ≤ (xR X).slots) (hsz : ls.size = (xC X).maxLocals) (hst8 : (st.map fun v => v.category).sum ≤ 8) (hK : yK Y (a + 2) = (1, 218)) (h0 : (xS X).heap.size = a + 1) (hn : n = a + 1 + u) (hn2 : a + 2 < n)
    (hk : ∀ (H : Heap) (locs : List Loc), H.size = n → zob Y ci a H f → (∀ q, a < q → q < n → zRa Y (zsW (zh0 Y) (a + 2) clr) H q) → va_S (fun q => a ≤ q) (xS X).heap H locs → zW X H locs u v (F0 (xM X) (pc + 3) ls st)) : zSc X Y ci a (a, cl) u v pc n f ls (.ref (a + 2) :: st) := by
  intro H locs hC
  obtain ⟨hs, hob, hreg, hS, han, -⟩ := hC
  have hlo := O.2.2
  have hts := O.1.2.2.2.1
  have hF : zWF (Ycut Y (a + 2)) := zWF_cut (by omega) O.1.2.2.2.2.2.1
  have hR : zR (Ycut Y (a + 2)) (zh0 Y) H := by
    intro q
    have hq := fun t n => @kcut_out Y (a + 2) q t n
    refine ⟨fun m hm => ?_, fun m hm => ?_, fun m hm => ?_, fun m hm => ?_, fun m hm => ?_, fun cj m hm => ?_⟩
    · rcases hq _ _ hm with ⟨z, -, z2⟩ | ⟨-, z, -⟩ | ⟨-, z, -⟩
      · subst z; subst z2
        exact (hreg (a + 2) (by omega) hn2 (by show a + 2 ≠ a; omega)).1 _ hK
      · omega
      · omega
    all_goals
      rcases hq _ _ hm with ⟨-, z, -⟩ | ⟨-, z, -⟩ | ⟨-, z, -⟩ <;> omega
  have hrun := va_runS (Ts := zTW) (As := ([vR 1 218 (a + 2)] : List zV).map zv) (y := yX11_clears) (rest := st) (g := F0 (xM X) pc ls (.ref (a + 2) :: st)) (p := X.1) (l := X.2.1) (e := X.2.2.1) (R := xR X) (below := xB X) (meth := xH X) (locs := locs) (cells := u) (slots := v) ⟨O.1.1, O.1.2.1, rfl, O.1.2.2.1, hts⟩ (m_X11_clears X.2.1 (Ycut Y (a + 2)) H.size (a + 2) (zh0 Y) hF (fun q hq => by
    rcases List.mem_singleton.mp hq with rfl
    show kcut Y (a + 2) (a + 2) = (1, 218)
    unfold kcut; rw [if_pos rfl]) trivial) ⟨callB_of 1 hts (zGood hcd) rfl rfl rfl (hts _ hin) (hts _ hl) ⟨by decide, by decide, by decide +kernel⟩ ⟨hr.1, hr.2.1⟩, hts _ hst⟩ ⟨zPc_blind, fun U hU hW => ⟨rfl, by rw [hU], by rw [hU]; exact hR, va_K.moved hW.alike O.1.2.2.2.2.1, by
      rw [hU]
      refine zS_cut hK (zS_moved hW O.1.2.2.2.2.2.2.2 (fun q hq => hS.2.1 q (by omega) (by omega)) O.1.2.2.2.2.2.1), by rw [hU]; show yO Y ≤ H.size; omega⟩⟩ rfl rfl hsz rfl (lv_room hst8) d ⟨hr.2.2.1, hr.2.2.2⟩
  intro T hT XX
  obtain ⟨v1, st₀, t, T', L, e0, X', hL, e1, e2, ⟨⟨r, h', hv, ⟨hr1, g, hg, hgk⟩, hok, hR'⟩, hz1, hz2⟩, sst⟩ := hrun T hT XX
  subst hr1
  cases hv
  subst hg
  rw [e0] at hz1 hz2
  have hsz1 : T'.heap.size ≤ (xS X).heap.size + u := X'.same.2.2.1
  have hsz2 : T'.heap.size = n := by rw [e1] at hsz1 ⊢; omega
  have hold : ∀ q, q < n → q ≠ a + 2 → T'.heap[q]? = H[q]? := fun q q1 q2 => by
    rw [e1]
    refine hz2 q (by omega) ?_
    rintro (z | z)
    · obtain ⟨z0, z6, z7, z8, z9⟩ := z
      have hn : kcut Y (a + 2) q = ((kcut Y (a + 2) q).1, (kcut Y (a + 2) q).2) := rfl
      rcases kcut_out hn with ⟨z, -, -⟩ | ⟨-, z, -⟩ | ⟨-, z, -⟩
      · exact q2 z
      · rcases z with z | z | z
        · exact z6 z
        · exact z7 z
        · exact z8 z.1
      · exact absurd z z0
    · omega
  obtain ⟨t2, a1, b1⟩ := hk T'.heap (locs ++ L) hsz2 (zob_kept hob (hold a (by omega) (by omega))) (fun q q1 q2 => by
    by_cases e : q = a + 2
    · subst e
      refine zRa_ar hK (Or.inl rfl) (fun _ => ?_) (fun z => by omega) (fun z => by omega)
      have hk1 : yK (Ycut Y (a + 2)) (a + 2) = (1, 218) := by
        show kcut Y (a + 2) (a + 2) = (1, 218)
        unfold kcut; rw [if_pos rfl]
      rw [e1, (hR' (a + 2)).1 218 hk1, zsW_s, zsW_s]
      show some (arrV (yC Y 1) 218 (fun j => Value.int (g j))) = some (arrV (yC Y 1) 218 (fun j => Value.int (clr j)))
      refine congrArg some (arrV_cg (fun j hj => ?_))
      exact congrArg Value.int (hgk j hj)
    · exact zRa_congr (hreg q q1 q2 (by show q ≠ a; omega)) (hold q q2 e) (zsW_n _ _ e) rfl rfl)
    ⟨by rw [hsz2]; omega, fun q q1 q2 => (hold q (by omega) (by omega)).trans (hS.2.1 q q1 q2), fun q hq => by
      rcases List.mem_append.mp hq with z | z
      · exact hS.2.2 q z
      · show a ≤ q.base
        rcases hL q z with z | z
        · have := hF.2.1 q.base z
          have hn : kcut Y (a + 2) q.base = ((kcut Y (a + 2) q.base).1, (kcut Y (a + 2) q.base).2) := rfl
          obtain ⟨z0, z6, z7, z8, z9⟩ := z
          rcases kcut_out hn with ⟨y1, -, -⟩ | ⟨-, y1, -⟩ | ⟨-, y1, -⟩
          · omega
          · rcases y1 with y1 | y1 | y1
            · exact absurd y1 z6
            · exact absurd y1 z7
            · exact absurd y1.1 z8
          · exact absurd y1 z0
        · omega⟩ T' rfl X'
  exact ⟨t2, sst t2 a1, b1⟩
theorem cr_rtg {cnt : Nat} {hh : zH} {H : Heap} {locs : List Loc} (O : zOc X Y cc own a) (hr : (xH X).sig.returnType = none) (hlk : (xH X).locks = false) (hQ : xQ X = MQ (xB X) (zQi Y a cnt hh) (xA X) (xS X) u v (fun q => a ≤ q)) (d : decode cc pc = .ok (.return_, 1)) (hn : H.size = a + cnt) (hK : yK Y a = (10 + ci, 0)) (hob : zob Y ci a H f) (hreg : ∀ q, a < q → q < a + cnt → zRa Y hh H q) (hS : va_S (fun q => a ≤ q) (xS X).heap H locs) (hf : ∀ (C : String) (T : u_T) (N : Nat), vwCl[ci]? = some (C, T, N) → ∀ k, k < N → f k = zfv ci k a hh) (hm2 : ∀ k : Nat, (zF ci k).1 = 2 → yK Y (hh.2.2 a k) = (zF ci k).2.2) : zW X H locs u v (F0 (xM X) pc ls []) := by
  unfold zW
  rw [hQ]
  refine W.vret O.1.1 O.1.2.1 hr (fun t ht hW => ⟨⟨rfl, by rw [ht, hn], fun q q1 q2 => ?_⟩, hS.F ht⟩) hS.2.2 d hlk
  rw [ht]
  by_cases e : q = a
  · subst e
    refine ⟨fun m hm => ?_, fun m hm => ?_, fun m hm => ?_, fun m hm => ?_, fun m hm => ?_, fun cj m hm => ?_⟩
    rotate_left 5
    · rw [hK] at hm
      have e1 := congrArg Prod.fst hm
      simp only at e1
      have e2 : cj = ci := by omega
      subst e2
      obtain ⟨r, h1, h2⟩ := hob
      exact ⟨r, h1, h2.to (fun k hk => hf r.1 r.2.1 r.2.2 h1 k hk), hm2⟩
    all_goals
      rw [hK] at hm
      have := congrArg Prod.fst hm
      simp only at this
      omega
  · exact hreg q (by omega) (by omega)
end ZM
theorem tv_11 : Cond.initialized RX11 ∈ zTW := zmem1 11 rfl rfl
theorem tv_532 : Cond.arrayClass .byte ∈ zTW := zmem3 52 rfl rfl
theorem tv_1179 : Cond.instantiable RX11 35 ∈ zTW := zmem5 219 rfl rfl
theorem tv_1181 : Cond.instanceMethod yX11_init ∈ zTW := zmem5 221 rfl rfl
theorem tv_1182 : Cond.code yX11_init cX11_init 1 none ∈ zTW := zmem5 222 rfl rfl
theorem tv_1183 : Cond.methodLink RX11 11 objectInit ∈ zTW := zmem5 223 rfl rfl
theorem tv_1184 : Cond.methodLink RX11 70 yX11_clears ∈ zTW := zmem5 224 rfl rfl
theorem tv_1185 : Cond.static yX11_clears ∈ zTW := zmem5 225 rfl rfl
theorem tv_1186 : Cond.code yX11_clears cX11_clears 2 none ∈ zTW := zmem5 226 rfl rfl
theorem tv_1188 : Cond.fieldLink RX11 7 (TX11 1).1 (TX11 1).2.1 (TX11 1).2.2.1 ∈ zTW := zmem5 228 rfl rfl
theorem tv_1189 : Cond.fieldLink RX11 17 (TX11 2).1 (TX11 2).2.1 (TX11 2).2.2.1 ∈ zTW := zmem5 229 rfl rfl
theorem tv_1190 : Cond.fieldLink RX11 20 (TX11 3).1 (TX11 3).2.1 (TX11 3).2.2.1 ∈ zTW := zmem5 230 rfl rfl
theorem tv_1191 : Cond.fieldLink RX11 23 (TX11 4).1 (TX11 4).2.1 (TX11 4).2.2.1 ∈ zTW := zmem5 231 rfl rfl
theorem tv_1192 : Cond.fieldLink RX11 26 (TX11 5).1 (TX11 5).2.1 (TX11 5).2.2.1 ∈ zTW := zmem5 232 rfl rfl
theorem tv_1193 : Cond.fieldLink RX11 29 (TX11 6).1 (TX11 6).2.1 (TX11 6).2.2.1 ∈ zTW := zmem5 233 rfl rfl
theorem tv_1194 : Cond.fieldLink RX11 32 (TX11 7).1 (TX11 7).2.1 (TX11 7).2.2.1 ∈ zTW := zmem5 234 rfl rfl
theorem tv_1195 : Cond.fieldLink RX11 35 (TX11 8).1 (TX11 8).2.1 (TX11 8).2.2.1 ∈ zTW := zmem5 235 rfl rfl
theorem tv_1199 : Cond.fieldLink RX11 38 (TX11 12).1 (TX11 12).2.1 (TX11 12).2.2.1 ∈ zTW := zmem5 239 rfl rfl
theorem tv_1200 : Cond.fieldLink RX11 41 (TX11 13).1 (TX11 13).2.1 (TX11 13).2.2.1 ∈ zTW := zmem6 0 rfl rfl
theorem tv_1201 : Cond.fieldLink RX11 44 (TX11 14).1 (TX11 14).2.1 (TX11 14).2.2.1 ∈ zTW := zmem6 1 rfl rfl
theorem tv_1202 : Cond.fieldLink RX11 47 (TX11 15).1 (TX11 15).2.1 (TX11 15).2.2.1 ∈ zTW := zmem6 2 rfl rfl
theorem tv_1203 : Cond.fieldLink RX11 51 (TX11 16).1 (TX11 16).2.1 (TX11 16).2.2.1 ∈ zTW := zmem6 3 rfl rfl
theorem tv_1210 : Cond.fieldLink RX11 54 (TX11 23).1 (TX11 23).2.1 (TX11 23).2.2.1 ∈ zTW := zmem6 10 rfl rfl
theorem tv_1218 : Cond.fieldLink RX11 57 (TX11 31).1 (TX11 31).2.1 (TX11 31).2.2.1 ∈ zTW := zmem6 18 rfl rfl
theorem tv_1219 : Cond.fieldLink RX11 60 (TX11 32).1 (TX11 32).2.1 (TX11 32).2.2.1 ∈ zTW := zmem6 19 rfl rfl
theorem tv_1220 : Cond.fieldLink RX11 63 (TX11 33).1 (TX11 33).2.1 (TX11 33).2.2.1 ∈ zTW := zmem6 20 rfl rfl
theorem tv_1221 : Cond.fieldLink RX11 67 (TX11 34).1 (TX11 34).2.1 (TX11 34).2.2.1 ∈ zTW := zmem6 21 rfl rfl
theorem dX11_init_0 : decode cX11_init 0 = .ok (.aload_n 0, 1) := by decide +kernel
theorem dX11_init_1 : decode cX11_init 1 = .ok (.invokespecial 11, 3) := by decide +kernel
theorem dX11_init_4 : decode cX11_init 4 = .ok (.aload_n 0, 1) := by decide +kernel
theorem dX11_init_5 : decode cX11_init 5 = .ok (.iconst 3, 1) := by decide +kernel
theorem dX11_init_6 : decode cX11_init 6 = .ok (.newarray .int, 2) := by decide +kernel
theorem dX11_init_8 : decode cX11_init 8 = .ok (.putfield 7, 3) := by decide +kernel
theorem dX11_init_11 : decode cX11_init 11 = .ok (.aload_n 0, 1) := by decide +kernel
theorem dX11_init_12 : decode cX11_init 12 = .ok (.sipush 218, 3) := by decide +kernel
theorem dX11_init_15 : decode cX11_init 15 = .ok (.newarray .int, 2) := by decide +kernel
theorem dX11_init_17 : decode cX11_init 17 = .ok (.putfield 17, 3) := by decide +kernel
theorem dX11_init_20 : decode cX11_init 20 = .ok (.aload_n 0, 1) := by decide +kernel
theorem dX11_init_21 : decode cX11_init 21 = .ok (.sipush 218, 3) := by decide +kernel
theorem dX11_init_24 : decode cX11_init 24 = .ok (.newarray .int, 2) := by decide +kernel
theorem dX11_init_26 : decode cX11_init 26 = .ok (.putfield 20, 3) := by decide +kernel
theorem dX11_init_29 : decode cX11_init 29 = .ok (.aload_n 0, 1) := by decide +kernel
theorem dX11_init_30 : decode cX11_init 30 = .ok (.sipush 2616, 3) := by decide +kernel
theorem dX11_init_33 : decode cX11_init 33 = .ok (.newarray .int, 2) := by decide +kernel
theorem dX11_init_35 : decode cX11_init 35 = .ok (.putfield 23, 3) := by decide +kernel
theorem dX11_init_38 : decode cX11_init 38 = .ok (.aload_n 0, 1) := by decide +kernel
theorem dX11_init_39 : decode cX11_init 39 = .ok (.bipush 28, 2) := by decide +kernel
theorem dX11_init_41 : decode cX11_init 41 = .ok (.newarray .int, 2) := by decide +kernel
theorem dX11_init_43 : decode cX11_init 43 = .ok (.putfield 26, 3) := by decide +kernel
theorem dX11_init_46 : decode cX11_init 46 = .ok (.aload_n 0, 1) := by decide +kernel
theorem dX11_init_47 : decode cX11_init 47 = .ok (.bipush 28, 2) := by decide +kernel
theorem dX11_init_49 : decode cX11_init 49 = .ok (.newarray .int, 2) := by decide +kernel
theorem dX11_init_51 : decode cX11_init 51 = .ok (.putfield 29, 3) := by decide +kernel
theorem dX11_init_54 : decode cX11_init 54 = .ok (.aload_n 0, 1) := by decide +kernel
theorem dX11_init_55 : decode cX11_init 55 = .ok (.bipush 28, 2) := by decide +kernel
theorem dX11_init_57 : decode cX11_init 57 = .ok (.newarray .int, 2) := by decide +kernel
theorem dX11_init_59 : decode cX11_init 59 = .ok (.putfield 32, 3) := by decide +kernel
theorem dX11_init_62 : decode cX11_init 62 = .ok (.aload_n 0, 1) := by decide +kernel
theorem dX11_init_63 : decode cX11_init 63 = .ok (.bipush 28, 2) := by decide +kernel
theorem dX11_init_65 : decode cX11_init 65 = .ok (.newarray .int, 2) := by decide +kernel
theorem dX11_init_67 : decode cX11_init 67 = .ok (.putfield 35, 3) := by decide +kernel
theorem dX11_init_70 : decode cX11_init 70 = .ok (.aload_n 0, 1) := by decide +kernel
theorem dX11_init_71 : decode cX11_init 71 = .ok (.bipush 28, 2) := by decide +kernel
theorem dX11_init_73 : decode cX11_init 73 = .ok (.newarray .int, 2) := by decide +kernel
theorem dX11_init_75 : decode cX11_init 75 = .ok (.putfield 38, 3) := by decide +kernel
theorem dX11_init_78 : decode cX11_init 78 = .ok (.aload_n 0, 1) := by decide +kernel
theorem dX11_init_79 : decode cX11_init 79 = .ok (.bipush 7, 2) := by decide +kernel
theorem dX11_init_81 : decode cX11_init 81 = .ok (.newarray .int, 2) := by decide +kernel
theorem dX11_init_83 : decode cX11_init 83 = .ok (.putfield 41, 3) := by decide +kernel
theorem dX11_init_86 : decode cX11_init 86 = .ok (.aload_n 0, 1) := by decide +kernel
theorem dX11_init_87 : decode cX11_init 87 = .ok (.bipush 7, 2) := by decide +kernel
theorem dX11_init_89 : decode cX11_init 89 = .ok (.newarray .int, 2) := by decide +kernel
theorem dX11_init_91 : decode cX11_init 91 = .ok (.putfield 44, 3) := by decide +kernel
theorem dX11_init_94 : decode cX11_init 94 = .ok (.aload_n 0, 1) := by decide +kernel
theorem dX11_init_95 : decode cX11_init 95 = .ok (.sipush 400, 3) := by decide +kernel
theorem dX11_init_98 : decode cX11_init 98 = .ok (.newarray .byte, 2) := by decide +kernel
theorem dX11_init_100 : decode cX11_init 100 = .ok (.putfield 47, 3) := by decide +kernel
theorem dX11_init_103 : decode cX11_init 103 = .ok (.aload_n 0, 1) := by decide +kernel
theorem dX11_init_104 : decode cX11_init 104 = .ok (.sipush 400, 3) := by decide +kernel
theorem dX11_init_107 : decode cX11_init 107 = .ok (.newarray .byte, 2) := by decide +kernel
theorem dX11_init_109 : decode cX11_init 109 = .ok (.putfield 51, 3) := by decide +kernel
theorem dX11_init_112 : decode cX11_init 112 = .ok (.aload_n 0, 1) := by decide +kernel
theorem dX11_init_113 : decode cX11_init 113 = .ok (.iconst (-1), 1) := by decide +kernel
theorem dX11_init_114 : decode cX11_init 114 = .ok (.putfield 54, 3) := by decide +kernel
theorem dX11_init_117 : decode cX11_init 117 = .ok (.aload_n 0, 1) := by decide +kernel
theorem dX11_init_118 : decode cX11_init 118 = .ok (.bipush 10, 2) := by decide +kernel
theorem dX11_init_120 : decode cX11_init 120 = .ok (.newarray .int, 2) := by decide +kernel
theorem dX11_init_122 : decode cX11_init 122 = .ok (.putfield 57, 3) := by decide +kernel
theorem dX11_init_125 : decode cX11_init 125 = .ok (.aload_n 0, 1) := by decide +kernel
theorem dX11_init_126 : decode cX11_init 126 = .ok (.bipush 10, 2) := by decide +kernel
theorem dX11_init_128 : decode cX11_init 128 = .ok (.newarray .int, 2) := by decide +kernel
theorem dX11_init_130 : decode cX11_init 130 = .ok (.putfield 60, 3) := by decide +kernel
theorem dX11_init_133 : decode cX11_init 133 = .ok (.aload_n 0, 1) := by decide +kernel
theorem dX11_init_134 : decode cX11_init 134 = .ok (.sipush 1024, 3) := by decide +kernel
theorem dX11_init_137 : decode cX11_init 137 = .ok (.newarray .long, 2) := by decide +kernel
theorem dX11_init_139 : decode cX11_init 139 = .ok (.putfield 63, 3) := by decide +kernel
theorem dX11_init_142 : decode cX11_init 142 = .ok (.aload_n 0, 1) := by decide +kernel
theorem dX11_init_143 : decode cX11_init 143 = .ok (.sipush 218, 3) := by decide +kernel
theorem dX11_init_146 : decode cX11_init 146 = .ok (.newarray .int, 2) := by decide +kernel
theorem dX11_init_148 : decode cX11_init 148 = .ok (.putfield 67, 3) := by decide +kernel
theorem dX11_init_151 : decode cX11_init 151 = .ok (.aload_n 0, 1) := by decide +kernel
theorem dX11_init_152 : decode cX11_init 152 = .ok (.getfield 17, 3) := by decide +kernel
theorem dX11_init_155 : decode cX11_init 155 = .ok (.invokestatic 70, 3) := by decide +kernel
theorem dX11_init_158 : decode cX11_init 158 = .ok (.return_, 1) := by decide +kernel
def kl_10 : List (Nat × Nat) := [(20, 0), (1, 3), (1, 218), (1, 218), (1, 2616), (1, 28), (1, 28), (1, 28), (1, 28), (1, 28), (1, 7), (1, 7), (2, 400), (2, 400), (1, 10), (1, 10), (3, 1024), (1, 218)]
set_option maxHeartbeats 4000000 in
set_option maxRecDepth 100000 in
theorem ct_10 : zCt yX11_init cX11_init 1 ({ frames := 1, cells := 17, slots := 5271, locals := 21 } : Room) 10 18 5271 kl_10 (fun Y a => zsW (zh0 Y) (a + 2) clr) := by
  refine zCt_of rfl rfl (by omega) ?_
  intro X Y a ls hkd O hR hr hlk hQ hml hsz hl
  refine ⟨cl0, ?_⟩
  refine cr_al (pc := 0) (u := 0) (v := 0) (n := a + 1) O dX11_init_0 (lv_at hl 0 rfl) ?_
  refine cr_ob (pc := 1) (u := 0) (v := 0) (n := a + 1) O tv_1183 tv_32 tv_33 dX11_init_1 (by rw [hml]; exact hl.1) (by rw [hR]; exact Nat.le_of_ble_eq_true rfl) (by rw [hR]; exact Nat.le_of_ble_eq_true rfl) ?_
  refine cr_al (pc := 4) (u := 0) (v := 0) (n := a + 1) O dX11_init_4 (lv_at hl 0 rfl) ?_
  refine cr_ic (pc := 5) (u := 0) (v := 0) (n := a + 1) (x := nI 3) O dX11_init_5 (by decide) ?_
  refine cr_nI (k := 3) (pc := 6) (u := 0) (v := 0) (n := a + 1) O tv_94 dX11_init_6 (by omega) (by omega) (hkd 1 (by omega)) (by rw [hR]; exact Nat.le_of_ble_eq_true rfl) (by rw [hR]; exact Nat.le_of_ble_eq_true rfl) ?_
  refine cr_pF (pc := 8) (u := 1) (v := 3) (n := a + 2) (j := 1) (x := .ref (a + 1)) O zc_10 (by omega) rfl rfl tv_1188 rfl rfl dX11_init_8 ?_
  refine cr_al (pc := 11) (u := 1) (v := 3) (n := a + 2) O dX11_init_11 (lv_at hl 0 rfl) ?_
  refine cr_si (pc := 12) (u := 1) (v := 3) (n := a + 2) (x := nI 218) O dX11_init_12 (by decide) ?_
  refine cr_nI (k := 218) (pc := 15) (u := 1) (v := 3) (n := a + 2) O tv_94 dX11_init_15 (by omega) (by omega) (hkd 2 (by omega)) (by rw [hR]; exact Nat.le_of_ble_eq_true rfl) (by rw [hR]; exact Nat.le_of_ble_eq_true rfl) ?_
  refine cr_pF (pc := 17) (u := 2) (v := 221) (n := a + 3) (j := 2) (x := .ref (a + 2)) O zc_10 (by omega) rfl rfl tv_1189 rfl rfl dX11_init_17 ?_
  refine cr_al (pc := 20) (u := 2) (v := 221) (n := a + 3) O dX11_init_20 (lv_at hl 0 rfl) ?_
  refine cr_si (pc := 21) (u := 2) (v := 221) (n := a + 3) (x := nI 218) O dX11_init_21 (by decide) ?_
  refine cr_nI (k := 218) (pc := 24) (u := 2) (v := 221) (n := a + 3) O tv_94 dX11_init_24 (by omega) (by omega) (hkd 3 (by omega)) (by rw [hR]; exact Nat.le_of_ble_eq_true rfl) (by rw [hR]; exact Nat.le_of_ble_eq_true rfl) ?_
  refine cr_pF (pc := 26) (u := 3) (v := 439) (n := a + 4) (j := 3) (x := .ref (a + 3)) O zc_10 (by omega) rfl rfl tv_1190 rfl rfl dX11_init_26 ?_
  refine cr_al (pc := 29) (u := 3) (v := 439) (n := a + 4) O dX11_init_29 (lv_at hl 0 rfl) ?_
  refine cr_si (pc := 30) (u := 3) (v := 439) (n := a + 4) (x := nI 2616) O dX11_init_30 (by decide) ?_
  refine cr_nI (k := 2616) (pc := 33) (u := 3) (v := 439) (n := a + 4) O tv_94 dX11_init_33 (by omega) (by omega) (hkd 4 (by omega)) (by rw [hR]; exact Nat.le_of_ble_eq_true rfl) (by rw [hR]; exact Nat.le_of_ble_eq_true rfl) ?_
  refine cr_pF (pc := 35) (u := 4) (v := 3055) (n := a + 5) (j := 4) (x := .ref (a + 4)) O zc_10 (by omega) rfl rfl tv_1191 rfl rfl dX11_init_35 ?_
  refine cr_al (pc := 38) (u := 4) (v := 3055) (n := a + 5) O dX11_init_38 (lv_at hl 0 rfl) ?_
  refine cr_bi (pc := 39) (u := 4) (v := 3055) (n := a + 5) (x := nI 28) O dX11_init_39 (by decide) ?_
  refine cr_nI (k := 28) (pc := 41) (u := 4) (v := 3055) (n := a + 5) O tv_94 dX11_init_41 (by omega) (by omega) (hkd 5 (by omega)) (by rw [hR]; exact Nat.le_of_ble_eq_true rfl) (by rw [hR]; exact Nat.le_of_ble_eq_true rfl) ?_
  refine cr_pF (pc := 43) (u := 5) (v := 3083) (n := a + 6) (j := 5) (x := .ref (a + 5)) O zc_10 (by omega) rfl rfl tv_1192 rfl rfl dX11_init_43 ?_
  refine cr_al (pc := 46) (u := 5) (v := 3083) (n := a + 6) O dX11_init_46 (lv_at hl 0 rfl) ?_
  refine cr_bi (pc := 47) (u := 5) (v := 3083) (n := a + 6) (x := nI 28) O dX11_init_47 (by decide) ?_
  refine cr_nI (k := 28) (pc := 49) (u := 5) (v := 3083) (n := a + 6) O tv_94 dX11_init_49 (by omega) (by omega) (hkd 6 (by omega)) (by rw [hR]; exact Nat.le_of_ble_eq_true rfl) (by rw [hR]; exact Nat.le_of_ble_eq_true rfl) ?_
  refine cr_pF (pc := 51) (u := 6) (v := 3111) (n := a + 7) (j := 6) (x := .ref (a + 6)) O zc_10 (by omega) rfl rfl tv_1193 rfl rfl dX11_init_51 ?_
  refine cr_al (pc := 54) (u := 6) (v := 3111) (n := a + 7) O dX11_init_54 (lv_at hl 0 rfl) ?_
  refine cr_bi (pc := 55) (u := 6) (v := 3111) (n := a + 7) (x := nI 28) O dX11_init_55 (by decide) ?_
  refine cr_nI (k := 28) (pc := 57) (u := 6) (v := 3111) (n := a + 7) O tv_94 dX11_init_57 (by omega) (by omega) (hkd 7 (by omega)) (by rw [hR]; exact Nat.le_of_ble_eq_true rfl) (by rw [hR]; exact Nat.le_of_ble_eq_true rfl) ?_
  refine cr_pF (pc := 59) (u := 7) (v := 3139) (n := a + 8) (j := 7) (x := .ref (a + 7)) O zc_10 (by omega) rfl rfl tv_1194 rfl rfl dX11_init_59 ?_
  refine cr_al (pc := 62) (u := 7) (v := 3139) (n := a + 8) O dX11_init_62 (lv_at hl 0 rfl) ?_
  refine cr_bi (pc := 63) (u := 7) (v := 3139) (n := a + 8) (x := nI 28) O dX11_init_63 (by decide) ?_
  refine cr_nI (k := 28) (pc := 65) (u := 7) (v := 3139) (n := a + 8) O tv_94 dX11_init_65 (by omega) (by omega) (hkd 8 (by omega)) (by rw [hR]; exact Nat.le_of_ble_eq_true rfl) (by rw [hR]; exact Nat.le_of_ble_eq_true rfl) ?_
  refine cr_pF (pc := 67) (u := 8) (v := 3167) (n := a + 9) (j := 8) (x := .ref (a + 8)) O zc_10 (by omega) rfl rfl tv_1195 rfl rfl dX11_init_67 ?_
  refine cr_al (pc := 70) (u := 8) (v := 3167) (n := a + 9) O dX11_init_70 (lv_at hl 0 rfl) ?_
  refine cr_bi (pc := 71) (u := 8) (v := 3167) (n := a + 9) (x := nI 28) O dX11_init_71 (by decide) ?_
  refine cr_nI (k := 28) (pc := 73) (u := 8) (v := 3167) (n := a + 9) O tv_94 dX11_init_73 (by omega) (by omega) (hkd 9 (by omega)) (by rw [hR]; exact Nat.le_of_ble_eq_true rfl) (by rw [hR]; exact Nat.le_of_ble_eq_true rfl) ?_
  refine cr_pF (pc := 75) (u := 9) (v := 3195) (n := a + 10) (j := 12) (x := .ref (a + 9)) O zc_10 (by omega) rfl rfl tv_1199 rfl rfl dX11_init_75 ?_
  refine cr_al (pc := 78) (u := 9) (v := 3195) (n := a + 10) O dX11_init_78 (lv_at hl 0 rfl) ?_
  refine cr_bi (pc := 79) (u := 9) (v := 3195) (n := a + 10) (x := nI 7) O dX11_init_79 (by decide) ?_
  refine cr_nI (k := 7) (pc := 81) (u := 9) (v := 3195) (n := a + 10) O tv_94 dX11_init_81 (by omega) (by omega) (hkd 10 (by omega)) (by rw [hR]; exact Nat.le_of_ble_eq_true rfl) (by rw [hR]; exact Nat.le_of_ble_eq_true rfl) ?_
  refine cr_pF (pc := 83) (u := 10) (v := 3202) (n := a + 11) (j := 13) (x := .ref (a + 10)) O zc_10 (by omega) rfl rfl tv_1200 rfl rfl dX11_init_83 ?_
  refine cr_al (pc := 86) (u := 10) (v := 3202) (n := a + 11) O dX11_init_86 (lv_at hl 0 rfl) ?_
  refine cr_bi (pc := 87) (u := 10) (v := 3202) (n := a + 11) (x := nI 7) O dX11_init_87 (by decide) ?_
  refine cr_nI (k := 7) (pc := 89) (u := 10) (v := 3202) (n := a + 11) O tv_94 dX11_init_89 (by omega) (by omega) (hkd 11 (by omega)) (by rw [hR]; exact Nat.le_of_ble_eq_true rfl) (by rw [hR]; exact Nat.le_of_ble_eq_true rfl) ?_
  refine cr_pF (pc := 91) (u := 11) (v := 3209) (n := a + 12) (j := 14) (x := .ref (a + 11)) O zc_10 (by omega) rfl rfl tv_1201 rfl rfl dX11_init_91 ?_
  refine cr_al (pc := 94) (u := 11) (v := 3209) (n := a + 12) O dX11_init_94 (lv_at hl 0 rfl) ?_
  refine cr_si (pc := 95) (u := 11) (v := 3209) (n := a + 12) (x := nI 400) O dX11_init_95 (by decide) ?_
  refine cr_nB (k := 400) (pc := 98) (u := 11) (v := 3209) (n := a + 12) O tv_532 dX11_init_98 (by omega) (hkd 12 (by omega)) (by rw [hR]; exact Nat.le_of_ble_eq_true rfl) (by rw [hR]; exact Nat.le_of_ble_eq_true rfl) ?_
  refine cr_pF (pc := 100) (u := 12) (v := 3609) (n := a + 13) (j := 15) (x := .ref (a + 12)) O zc_10 (by omega) rfl rfl tv_1202 rfl rfl dX11_init_100 ?_
  refine cr_al (pc := 103) (u := 12) (v := 3609) (n := a + 13) O dX11_init_103 (lv_at hl 0 rfl) ?_
  refine cr_si (pc := 104) (u := 12) (v := 3609) (n := a + 13) (x := nI 400) O dX11_init_104 (by decide) ?_
  refine cr_nB (k := 400) (pc := 107) (u := 12) (v := 3609) (n := a + 13) O tv_532 dX11_init_107 (by omega) (hkd 13 (by omega)) (by rw [hR]; exact Nat.le_of_ble_eq_true rfl) (by rw [hR]; exact Nat.le_of_ble_eq_true rfl) ?_
  refine cr_pF (pc := 109) (u := 13) (v := 4009) (n := a + 14) (j := 16) (x := .ref (a + 13)) O zc_10 (by omega) rfl rfl tv_1203 rfl rfl dX11_init_109 ?_
  refine cr_al (pc := 112) (u := 13) (v := 4009) (n := a + 14) O dX11_init_112 (lv_at hl 0 rfl) ?_
  refine cr_ic (pc := 113) (u := 13) (v := 4009) (n := a + 14) (x := -1) O dX11_init_113 (by decide) ?_
  refine cr_pN (pc := 114) (u := 13) (v := 4009) (n := a + 14) (j := 23) (x := .int (-1)) O zc_10 (by omega) rfl tv_1210 rfl rfl dX11_init_114 ?_
  refine cr_al (pc := 117) (u := 13) (v := 4009) (n := a + 14) O dX11_init_117 (lv_at hl 0 rfl) ?_
  refine cr_bi (pc := 118) (u := 13) (v := 4009) (n := a + 14) (x := nI 10) O dX11_init_118 (by decide) ?_
  refine cr_nI (k := 10) (pc := 120) (u := 13) (v := 4009) (n := a + 14) O tv_94 dX11_init_120 (by omega) (by omega) (hkd 14 (by omega)) (by rw [hR]; exact Nat.le_of_ble_eq_true rfl) (by rw [hR]; exact Nat.le_of_ble_eq_true rfl) ?_
  refine cr_pF (pc := 122) (u := 14) (v := 4019) (n := a + 15) (j := 31) (x := .ref (a + 14)) O zc_10 (by omega) rfl rfl tv_1218 rfl rfl dX11_init_122 ?_
  refine cr_al (pc := 125) (u := 14) (v := 4019) (n := a + 15) O dX11_init_125 (lv_at hl 0 rfl) ?_
  refine cr_bi (pc := 126) (u := 14) (v := 4019) (n := a + 15) (x := nI 10) O dX11_init_126 (by decide) ?_
  refine cr_nI (k := 10) (pc := 128) (u := 14) (v := 4019) (n := a + 15) O tv_94 dX11_init_128 (by omega) (by omega) (hkd 15 (by omega)) (by rw [hR]; exact Nat.le_of_ble_eq_true rfl) (by rw [hR]; exact Nat.le_of_ble_eq_true rfl) ?_
  refine cr_pF (pc := 130) (u := 15) (v := 4029) (n := a + 16) (j := 32) (x := .ref (a + 15)) O zc_10 (by omega) rfl rfl tv_1219 rfl rfl dX11_init_130 ?_
  refine cr_al (pc := 133) (u := 15) (v := 4029) (n := a + 16) O dX11_init_133 (lv_at hl 0 rfl) ?_
  refine cr_si (pc := 134) (u := 15) (v := 4029) (n := a + 16) (x := nI 1024) O dX11_init_134 (by decide) ?_
  refine cr_nL (k := 1024) (pc := 137) (u := 15) (v := 4029) (n := a + 16) O tv_273 dX11_init_137 (by omega) (hkd 16 (by omega)) (by rw [hR]; exact Nat.le_of_ble_eq_true rfl) (by rw [hR]; exact Nat.le_of_ble_eq_true rfl) ?_
  refine cr_pF (pc := 139) (u := 16) (v := 5053) (n := a + 17) (j := 33) (x := .ref (a + 16)) O zc_10 (by omega) rfl rfl tv_1220 rfl rfl dX11_init_139 ?_
  refine cr_al (pc := 142) (u := 16) (v := 5053) (n := a + 17) O dX11_init_142 (lv_at hl 0 rfl) ?_
  refine cr_si (pc := 143) (u := 16) (v := 5053) (n := a + 17) (x := nI 218) O dX11_init_143 (by decide) ?_
  refine cr_nI (k := 218) (pc := 146) (u := 16) (v := 5053) (n := a + 17) O tv_94 dX11_init_146 (by omega) (by omega) (hkd 17 (by omega)) (by rw [hR]; exact Nat.le_of_ble_eq_true rfl) (by rw [hR]; exact Nat.le_of_ble_eq_true rfl) ?_
  refine cr_pF (pc := 148) (u := 17) (v := 5271) (n := a + 18) (j := 34) (x := .ref (a + 17)) O zc_10 (by omega) rfl rfl tv_1221 rfl rfl dX11_init_148 ?_
  refine cr_al (pc := 151) (u := 17) (v := 5271) (n := a + 18) O dX11_init_151 (lv_at hl 0 rfl) ?_
  refine cr_gt (pc := 152) (u := 17) (v := 5271) (n := a + 18) (j := 2) O zc_10 (by omega) tv_1189 dX11_init_152 ?_
  refine cr_clr (pc := 155) (u := 17) (v := 5271) (n := a + 18) (cl := cl0) O tv_1184 tv_1185 tv_1186 tv_11 dX11_init_155 ⟨by rw [hR]; exact Nat.le_of_ble_eq_true rfl, by rw [hR]; exact Nat.le_of_ble_eq_true rfl, by rw [hR]; exact Nat.le_of_ble_eq_true rfl, by rw [hR]; exact Nat.le_of_ble_eq_true rfl⟩ (by rw [hml]; exact hl.1) (Nat.le_of_ble_eq_true rfl) (hkd 2 (by omega)) hsz (by omega) (by omega) (fun H locs g1 g2 g3 g4 => ?_)
  refine cr_rtg (ci := 10) (cnt := 18) O hr hlk hQ dX11_init_158 g1 (hkd 0 (by omega)) g2 g3 g4 (fun C T N hC => ?_) (fun k hk => absurd (zF_2 hk).1 (by decide))
  cases hC
  intro k hk
  have e0 : yK Y a = (20, 0) := hkd 0 (by omega)
  have e3 : (zsW (zh0 Y) (a + 2) clr).1 a = iw (20, 0) := by rw [zsW_n _ _ (by omega)]; show iw (yK Y a) = _; rw [e0]
  rcases (show k = 0 ∨ k = 1 ∨ k = 2 ∨ k = 3 ∨ k = 4 ∨ k = 5 ∨ k = 6 ∨ k = 7 ∨ k = 8 ∨ k = 9 ∨ k = 10 ∨ k = 11 ∨ k = 12 ∨ k = 13 ∨ k = 14 ∨ k = 15 ∨ k = 16 ∨ k = 17 ∨ k = 18 ∨ k = 19 ∨ k = 20 ∨ k = 21 ∨ k = 22 ∨ k = 23 ∨ k = 24 ∨ k = 25 ∨ k = 26 ∨ k = 27 ∨ k = 28 ∨ k = 29 ∨ k = 30 ∨ k = 31 ∨ k = 32 ∨ k = 33 ∨ k = 34 by omega) with rfl | rfl | rfl | rfl | rfl | rfl | rfl | rfl | rfl | rfl | rfl | rfl | rfl | rfl | rfl | rfl | rfl | rfl | rfl | rfl | rfl | rfl | rfl | rfl | rfl | rfl | rfl | rfl | rfl | rfl | rfl | rfl | rfl | rfl | rfl
  · show _ = Value.int ((zsW (zh0 Y) (a + 2) clr).1 a 0); rw [e3]; rfl
  · rfl
  · rfl
  · rfl
  · rfl
  · rfl
  · rfl
  · rfl
  · rfl
  · show _ = Value.int ((zsW (zh0 Y) (a + 2) clr).1 a 9); rw [e3]; rfl
  · show _ = Value.int ((zsW (zh0 Y) (a + 2) clr).1 a 10); rw [e3]; rfl
  · show _ = Value.int ((zsW (zh0 Y) (a + 2) clr).1 a 11); rw [e3]; rfl
  · rfl
  · rfl
  · rfl
  · rfl
  · rfl
  · show _ = Value.int ((zsW (zh0 Y) (a + 2) clr).1 a 17); rw [e3]; rfl
  · show _ = Value.int ((zsW (zh0 Y) (a + 2) clr).1 a 18); rw [e3]; rfl
  · show _ = Value.int ((zsW (zh0 Y) (a + 2) clr).1 a 19); rw [e3]; rfl
  · show _ = Value.int ((zsW (zh0 Y) (a + 2) clr).1 a 20); rw [e3]; rfl
  · show _ = Value.int ((zsW (zh0 Y) (a + 2) clr).1 a 21); rw [e3]; rfl
  · show _ = Value.int ((zsW (zh0 Y) (a + 2) clr).1 a 22); rw [e3]; rfl
  · show _ = Value.int ((zsW (zh0 Y) (a + 2) clr).1 a 23); rw [e3]; rfl
  · show _ = Value.int ((zsW (zh0 Y) (a + 2) clr).1 a 24); rw [e3]; rfl
  · show _ = Value.int ((zsW (zh0 Y) (a + 2) clr).1 a 25); rw [e3]; rfl
  · show _ = Value.int ((zsW (zh0 Y) (a + 2) clr).1 a 26); rw [e3]; rfl
  · show _ = Value.int ((zsW (zh0 Y) (a + 2) clr).1 a 27); rw [e3]; rfl
  · show _ = Value.int ((zsW (zh0 Y) (a + 2) clr).1 a 28); rw [e3]; rfl
  · show _ = Value.int ((zsW (zh0 Y) (a + 2) clr).1 a 29); rw [e3]; rfl
  · show _ = Value.int ((zsW (zh0 Y) (a + 2) clr).1 a 30); rw [e3]; rfl
  · rfl
  · rfl
  · rfl
  · rfl
theorem mk_10 : zMk yX11_init cX11_init 1 ({ frames := 1, cells := 17, slots := 5271, locals := 21 } : Room) 10 18 5271 kl_10 (fun Y a => zsW (zh0 Y) (a + 2) clr) RX11 35 := ⟨ct_10, ⟨TX11, tyX11, zc_10, fun j hj => by
  rcases (show j = 0 ∨ j = 1 ∨ j = 2 ∨ j = 3 ∨ j = 4 ∨ j = 5 ∨ j = 6 ∨ j = 7 ∨ j = 8 ∨ j = 9 ∨ j = 10 ∨ j = 11 ∨ j = 12 ∨ j = 13 ∨ j = 14 ∨ j = 15 ∨ j = 16 ∨ j = 17 ∨ j = 18 ∨ j = 19 ∨ j = 20 ∨ j = 21 ∨ j = 22 ∨ j = 23 ∨ j = 24 ∨ j = 25 ∨ j = 26 ∨ j = 27 ∨ j = 28 ∨ j = 29 ∨ j = 30 ∨ j = 31 ∨ j = 32 ∨ j = 33 ∨ j = 34 by omega) with rfl | rfl | rfl | rfl | rfl | rfl | rfl | rfl | rfl | rfl | rfl | rfl | rfl | rfl | rfl | rfl | rfl | rfl | rfl | rfl | rfl | rfl | rfl | rfl | rfl | rfl | rfl | rfl | rfl | rfl | rfl | rfl | rfl | rfl | rfl <;> rfl⟩, ⟨tv_1179, tv_11⟩, ⟨rfl, rfl, tv_1181, tv_1182⟩, ⟨by decide, by decide, by decide +kernel⟩, rfl, rfl, Nat.le_of_ble_eq_true rfl⟩

