theorem dX11_keeps_86 : decode cX11_keeps 86 = .ok (.aload_n 0, 1) := by decide +kernel
theorem dX11_keeps_87 : decode cX11_keeps 87 = .ok (.dup, 1) := by decide +kernel
theorem dX11_keeps_88 : decode cX11_keeps 88 = .ok (.getfield 227, 3) := by decide +kernel
theorem dX11_keeps_91 : decode cX11_keeps 91 = .ok (.iconst 1, 1) := by decide +kernel
theorem dX11_keeps_92 : decode cX11_keeps 92 = .ok (.iadd, 1) := by decide +kernel
theorem dX11_keeps_93 : decode cX11_keeps 93 = .ok (.putfield 227, 3) := by decide +kernel
theorem dX11_keeps_96 : decode cX11_keeps 96 = .ok (.return_, 1) := by decide +kernel
theorem dX11_keeps_52 : decode cX11_keeps 52 = .ok (.iload_n 1, 1) := by decide +kernel
theorem dX11_keeps_53 : decode cX11_keeps 53 = .ok (.sipush 218, 3) := by decide +kernel
theorem dX11_keeps_56 : decode cX11_keeps 56 = .ok (.if_icmp .ge 30, 3) := by decide +kernel
theorem dX11_keeps_59 : decode cX11_keeps 59 = .ok (.aload_n 0, 1) := by decide +kernel
theorem dX11_keeps_60 : decode cX11_keeps 60 = .ok (.getfield 23, 3) := by decide +kernel
theorem dX11_keeps_63 : decode cX11_keeps 63 = .ok (.sipush 218, 3) := by decide +kernel
theorem dX11_keeps_66 : decode cX11_keeps 66 = .ok (.aload_n 0, 1) := by decide +kernel
theorem dX11_keeps_67 : decode cX11_keeps 67 = .ok (.getfield 227, 3) := by decide +kernel
theorem dX11_keeps_70 : decode cX11_keeps 70 = .ok (.imul, 1) := by decide +kernel
theorem dX11_keeps_71 : decode cX11_keeps 71 = .ok (.iload_n 1, 1) := by decide +kernel
theorem dX11_keeps_72 : decode cX11_keeps 72 = .ok (.iadd, 1) := by decide +kernel
theorem dX11_keeps_73 : decode cX11_keeps 73 = .ok (.aload_n 0, 1) := by decide +kernel
theorem dX11_keeps_74 : decode cX11_keeps 74 = .ok (.getfield 17, 3) := by decide +kernel
theorem dX11_keeps_77 : decode cX11_keeps 77 = .ok (.iload_n 1, 1) := by decide +kernel
theorem dX11_keeps_78 : decode cX11_keeps 78 = .ok (.iaload, 1) := by decide +kernel
theorem dX11_keeps_79 : decode cX11_keeps 79 = .ok (.iastore, 1) := by decide +kernel
theorem dX11_keeps_80 : decode cX11_keeps 80 = .ok (.iinc 1 1, 3) := by decide +kernel
theorem dX11_keeps_83 : decode cX11_keeps 83 = .ok (.goto (-31), 3) := by decide +kernel
theorem dX11_keeps_50 : decode cX11_keeps 50 = .ok (.iconst 0, 1) := by decide +kernel
theorem dX11_keeps_51 : decode cX11_keeps 51 = .ok (.istore_n 1, 1) := by decide +kernel
theorem dX11_keeps_40 : decode cX11_keeps 40 = .ok (.aload_n 0, 1) := by decide +kernel
theorem dX11_keeps_41 : decode cX11_keeps 41 = .ok (.dup, 1) := by decide +kernel
theorem dX11_keeps_42 : decode cX11_keeps 42 = .ok (.getfield 227, 3) := by decide +kernel
theorem dX11_keeps_45 : decode cX11_keeps 45 = .ok (.iconst 1, 1) := by decide +kernel
theorem dX11_keeps_46 : decode cX11_keeps 46 = .ok (.isub, 1) := by decide +kernel
theorem dX11_keeps_47 : decode cX11_keeps 47 = .ok (.putfield 227, 3) := by decide +kernel
theorem dX11_keeps_11 : decode cX11_keeps 11 = .ok (.iload_n 1, 1) := by decide +kernel
theorem dX11_keeps_12 : decode cX11_keeps 12 = .ok (.sipush 2398, 3) := by decide +kernel
theorem dX11_keeps_15 : decode cX11_keeps 15 = .ok (.if_icmp .ge 25, 3) := by decide +kernel
theorem dX11_keeps_18 : decode cX11_keeps 18 = .ok (.aload_n 0, 1) := by decide +kernel
theorem dX11_keeps_19 : decode cX11_keeps 19 = .ok (.getfield 23, 3) := by decide +kernel
theorem dX11_keeps_22 : decode cX11_keeps 22 = .ok (.iload_n 1, 1) := by decide +kernel
theorem dX11_keeps_23 : decode cX11_keeps 23 = .ok (.aload_n 0, 1) := by decide +kernel
theorem dX11_keeps_24 : decode cX11_keeps 24 = .ok (.getfield 23, 3) := by decide +kernel
theorem dX11_keeps_27 : decode cX11_keeps 27 = .ok (.iload_n 1, 1) := by decide +kernel
theorem dX11_keeps_28 : decode cX11_keeps 28 = .ok (.sipush 218, 3) := by decide +kernel
theorem dX11_keeps_31 : decode cX11_keeps 31 = .ok (.iadd, 1) := by decide +kernel
theorem dX11_keeps_32 : decode cX11_keeps 32 = .ok (.iaload, 1) := by decide +kernel
theorem dX11_keeps_33 : decode cX11_keeps 33 = .ok (.iastore, 1) := by decide +kernel
theorem dX11_keeps_34 : decode cX11_keeps 34 = .ok (.iinc 1 1, 3) := by decide +kernel
theorem dX11_keeps_37 : decode cX11_keeps 37 = .ok (.goto (-26), 3) := by decide +kernel
theorem dX11_keeps_0 : decode cX11_keeps 0 = .ok (.aload_n 0, 1) := by decide +kernel
theorem dX11_keeps_1 : decode cX11_keeps 1 = .ok (.getfield 227, 3) := by decide +kernel
theorem dX11_keeps_4 : decode cX11_keeps 4 = .ok (.bipush 12, 2) := by decide +kernel
theorem dX11_keeps_6 : decode cX11_keeps 6 = .ok (.if_icmp .ne 44, 3) := by decide +kernel
theorem dX11_keeps_9 : decode cX11_keeps 9 = .ok (.iconst 0, 1) := by decide +kernel
theorem dX11_keeps_10 : decode cX11_keeps 10 = .ok (.istore_n 1, 1) := by decide +kernel
theorem dX11_undo_60 : decode cX11_undo 60 = .ok (.aload_n 0, 1) := by decide +kernel
theorem dX11_undo_61 : decode cX11_undo 61 = .ok (.getfield 227, 3) := by decide +kernel
theorem dX11_undo_64 : decode cX11_undo 64 = .ok (.ireturn, 1) := by decide +kernel
theorem dX11_undo_26 : decode cX11_undo 26 = .ok (.iload_n 1, 1) := by decide +kernel
theorem dX11_undo_27 : decode cX11_undo 27 = .ok (.sipush 218, 3) := by decide +kernel
theorem dX11_undo_30 : decode cX11_undo 30 = .ok (.if_icmp .ge 30, 3) := by decide +kernel
theorem dX11_undo_33 : decode cX11_undo 33 = .ok (.aload_n 0, 1) := by decide +kernel
theorem dX11_undo_34 : decode cX11_undo 34 = .ok (.getfield 17, 3) := by decide +kernel
theorem dX11_undo_37 : decode cX11_undo 37 = .ok (.iload_n 1, 1) := by decide +kernel
theorem dX11_undo_38 : decode cX11_undo 38 = .ok (.aload_n 0, 1) := by decide +kernel
theorem dX11_undo_39 : decode cX11_undo 39 = .ok (.getfield 23, 3) := by decide +kernel
theorem dX11_undo_42 : decode cX11_undo 42 = .ok (.sipush 218, 3) := by decide +kernel
theorem dX11_undo_45 : decode cX11_undo 45 = .ok (.aload_n 0, 1) := by decide +kernel
theorem dX11_undo_46 : decode cX11_undo 46 = .ok (.getfield 227, 3) := by decide +kernel
theorem dX11_undo_49 : decode cX11_undo 49 = .ok (.imul, 1) := by decide +kernel
theorem dX11_undo_50 : decode cX11_undo 50 = .ok (.iload_n 1, 1) := by decide +kernel
theorem dX11_undo_51 : decode cX11_undo 51 = .ok (.iadd, 1) := by decide +kernel
theorem dX11_undo_52 : decode cX11_undo 52 = .ok (.iaload, 1) := by decide +kernel
theorem dX11_undo_53 : decode cX11_undo 53 = .ok (.iastore, 1) := by decide +kernel
theorem dX11_undo_54 : decode cX11_undo 54 = .ok (.iinc 1 1, 3) := by decide +kernel
theorem dX11_undo_57 : decode cX11_undo 57 = .ok (.goto (-31), 3) := by decide +kernel
theorem dX11_undo_14 : decode cX11_undo 14 = .ok (.aload_n 0, 1) := by decide +kernel
theorem dX11_undo_15 : decode cX11_undo 15 = .ok (.dup, 1) := by decide +kernel
theorem dX11_undo_16 : decode cX11_undo 16 = .ok (.getfield 227, 3) := by decide +kernel
theorem dX11_undo_19 : decode cX11_undo 19 = .ok (.iconst 1, 1) := by decide +kernel
theorem dX11_undo_20 : decode cX11_undo 20 = .ok (.isub, 1) := by decide +kernel
theorem dX11_undo_21 : decode cX11_undo 21 = .ok (.putfield 227, 3) := by decide +kernel
theorem dX11_undo_24 : decode cX11_undo 24 = .ok (.iconst 0, 1) := by decide +kernel
theorem dX11_undo_25 : decode cX11_undo 25 = .ok (.istore_n 1, 1) := by decide +kernel
theorem dX11_undo_0 : decode cX11_undo 0 = .ok (.aload_n 0, 1) := by decide +kernel
theorem dX11_undo_1 : decode cX11_undo 1 = .ok (.iconst 0, 1) := by decide +kernel
theorem dX11_undo_2 : decode cX11_undo 2 = .ok (.putfield 1, 3) := by decide +kernel
theorem dX11_undo_5 : decode cX11_undo 5 = .ok (.aload_n 0, 1) := by decide +kernel
theorem dX11_undo_6 : decode cX11_undo 6 = .ok (.getfield 227, 3) := by decide +kernel
theorem dX11_undo_9 : decode cX11_undo 9 = .ok (.ifCond .ne 5, 3) := by decide +kernel
theorem dX11_undo_12 : decode cX11_undo 12 = .ok (.iconst (-1), 1) := by decide +kernel
theorem dX11_undo_13 : decode cX11_undo 13 = .ok (.ireturn, 1) := by decide +kernel
/-! the reference: what is kept to be taken back; set, wear -/
def rmr (S : zD) (f : Nat → Int32) : Prop := (∀ r, r < dN S → f (5 + 3 * r) = dB S r ∧ f (5 + 3 * r + 1) = dD S r ∧ f (5 + 3 * r + 2) = dZ S r) ∧ ∀ k, k < 5 → f k = dT S k
def rmH (Q : zQ) (f : Nat → Int32) : Prop := rmr Q.1 f ∧ rmE Q.2.1 f ∧ rmL Q.2.2 f
def shp (S R : zD) : Prop := dN R = dN S ∧ dP R = dP S ∧ dF R = dF S ∧ dS R = dS S
def rmZ (Z : zQ × (Nat → zQ) × Nat) (y : Nat) (h : zH) : Prop := match Z with
  | (Q, Hs, c) => rmS Q.1 h y ∧ rmE Q.2.1 (h.1 (y + 2)) ∧ rmL Q.2.2 (h.1 (y + 2)) ∧ (h.1 y 9 = nI c ∧ c ≤ 12) ∧ ∀ i, i < c → shp Q.1 (Hs i).1 ∧ rmH (Hs i) (fun k => h.1 (y + 4) (218 * (c - 1 - i) + k))
theorem rmr_cg {S : zD} {f g : Nat → Int32} (hN : dN S ≤ 10) (e : ∀ k, k < 35 → g k = f k) (hr : rmr S f) : rmr S g := ⟨fun r hr1 => by rw [e _ (by omega), e _ (by omega), e _ (by omega)]; exact hr.1 r hr1, fun k hk => by rw [e _ (by omega)]; exact hr.2 k hk⟩
theorem rmE_cg {K : zE} {f g : Nat → Int32} (e : ∀ k, 45 ≤ k → k < 161 → g k = f k) (hE : rmE K f) : rmE K g := by
  obtain ⟨a1, a2, a3⟩ := hE
  have h28 := a2.1
  refine ⟨by rw [e 45 (by omega) (by omega)]; exact a1, a2, fun h0 => ?_⟩
  obtain ⟨b1, b2⟩ := a3 h0
  refine ⟨by rw [e 46 (by omega) (by omega), e 47 (by omega) (by omega), e 48 (by omega) (by omega)]; exact b1, fun i hi => ?_⟩
  rw [e _ (by omega) (by omega), e _ (by omega) (by omega), e _ (by omega) (by omega), e _ (by omega) (by omega)]
  exact b2 i hi
theorem rmL_cg {M : zG} {f g : Nat → Int32} (e : ∀ k, 35 ≤ k → k < 45 ∨ 161 ≤ k → k < 218 → g k = f k) (hL : rmL M f) : rmL M g := by
  obtain ⟨⟨a1, a2⟩, a3, a4⟩ := hL
  refine ⟨⟨by rw [e 161 (by omega) (by omega) (by omega)]; exact a1, a2⟩, fun i hi => ?_, fun r hr => by rw [e _ (by omega) (by omega) (by omega)]; exact a4 r hr⟩
  rw [e _ (by omega) (by omega) (by omega), e _ (by omega) (by omega) (by omega)]
  exact a3 i hi
theorem rmH_cg {Q : zQ} {f g : Nat → Int32} (hN : dN Q.1 ≤ 10) (e : ∀ k, k < 218 → g k = f k) (hH : rmH Q f) : rmH Q g := ⟨rmr_cg hN (fun k hk => e k (by omega)) hH.1, rmE_cg (fun k _ hk => e k (by omega)) hH.2.1, rmL_cg (fun k _ _ hk => e k hk) hH.2.2⟩
theorem rmZ_fq {Z : zQ × (Nat → zQ) × Nat} {y : Nat} {h h' : zH} (f : fq y h h') (hZ : rmZ Z y h) : rmZ Z y h' := by
  obtain ⟨Q, Hs, c⟩ := Z
  obtain ⟨a1, a2, a3, a4, a5⟩ := hZ
  refine ⟨rmS_cg ⟨f.2.2.1 10 (by omega), f.2.2.1 11 (by omega)⟩ (f.2.2.2 2 (by omega)) (f.2.2.2 5 (by omega)) (f.2.2.2 6 (by omega)) a1, by rw [f.2.2.2 2 (by omega)]; exact a2, by rw [f.2.2.2 2 (by omega)]; exact a3, by rw [f.2.2.1 9 (by omega)]; exact a4, ?_⟩
  rw [f.2.2.2 4 (by omega)]
  exact a5
/-- what a change of the reference may change -/
def fs (y : Nat) (h h' : zH) : Prop := (∀ q, q < y ∨ y + 18 ≤ q → h'.1 q = h.1 q ∧ h'.2.1 q = h.2.1 q) ∧ h'.2.2 = h.2.2 ∧ (∀ k, k = 10 ∨ k = 11 ∨ k = 17 ∨ k = 23 → h'.1 y k = h.1 y k) ∧ ∀ j, j = 5 ∨ j = 6 ∨ j = 12 → h'.1 (y + j) = h.1 (y + j)
theorem fs_q {y : Nat} {h h' : zH} (f : fq y h h') : fs y h h' := ⟨f.1, f.2.1, fun k hk => f.2.2.1 k (by omega), fun j hj => f.2.2.2 j (by omega)⟩
theorem fs_t {y : Nat} {h h1 h2 : zH} (a : fs y h h1) (b : fs y h1 h2) : fs y h h2 := ⟨fun q hq => ⟨((b.1 q hq).1).trans (a.1 q hq).1, ((b.1 q hq).2).trans (a.1 q hq).2⟩, b.2.1.trans a.2.1, fun k hk => (b.2.2.1 k hk).trans (a.2.2.1 k hk), fun j hj => (b.2.2.2 j hj).trans (a.2.2.2 j hj)⟩
theorem fs_W {y j : Nat} (h : zH) (f : Nat → Int32) (hj : j = 2 ∨ j = 3 ∨ j = 4 ∨ (7 ≤ j ∧ j ≤ 11) ∨ (13 ≤ j ∧ j < 18)) : fs y h (zsW h (y + j) f) := ⟨fun q hq => ⟨zsW_n _ _ (by omega), rfl⟩, rfl, fun k _ => by rw [zsW_n _ _ (by omega)], fun i hi => zsW_n _ _ (by omega)⟩
/-- the reference's rows after keeping -/
def kpd (y : Nat) (h h' : zH) : Prop := ∃ B F : Nat → Int32, h' = zsW (zsW h (y + 4) B) y F ∧ ∀ k, k ≠ 9 → F k = h.1 y k
theorem kpd_f {y : Nat} {h h' : zH} (z : kpd y h h') : fs y h h' ∧ h'.1 y 0 = h.1 y 0 ∧ ∀ j, 0 < j → j ≠ 4 → h'.1 (y + j) = h.1 (y + j) := by
  obtain ⟨B, F, rfl, hF⟩ := z
  refine ⟨⟨fun q hq => ⟨by rw [zsW_n _ _ (by omega), zsW_n _ _ (by omega)], rfl⟩, rfl, fun k hk => by rw [zsW_s]; exact hF k (by omega), fun j hj => by rw [zsW_n _ _ (by omega), zsW_n _ _ (by omega)]⟩, by rw [zsW_s]; exact hF 0 (by omega), fun j h0 h4 => by rw [zsW_n _ _ (by omega), zsW_n _ _ (by omega)]⟩
def ca_X11_keeps : (zQ × (Nat → zQ) × Nat × Nat) → List zV := fun (Q, Hs, c, y) => [vR 20 0 y]
def cp_X11_keeps : (zQ × (Nat → zQ) × Nat × Nat) → zH → Prop := fun (Q, Hs, c, y) h => rmZ (Q, Hs, c) y h
def cq_X11_keeps : (zQ × (Nat → zQ) × Nat × Nat) → zH → Option zV → zH → Prop := fun (Q, Hs, c, y) h r h' => r = none ∧ rmZ (Q, hcn Q Hs, min (c + 1) 12) y h' ∧ kpd y h h'
theorem rc_X11_keeps : ∀ x : (zQ × (Nat → zQ) × Nat × Nat), ∃ (j a : Nat) (As : List zV), ca_X11_keeps x = vR (10 + 10) j a :: As := by
  rintro ⟨Q, Hs, c, y⟩
  exact ⟨_, _, _, rfl⟩
set_option maxHeartbeats 4000000 in
set_option maxRecDepth 100000 in
theorem m_X11_keeps : zM yX11_keeps cX11_keeps 2 none ({ frames := 0, cells := 0, slots := 0, locals := 0 } : Room) ((ca_X11_keeps, cp_X11_keeps, cq_X11_keeps) : zC (zQ × (Nat → zQ) × Nat × Nat)) := by
  refine zM_of (by decide) ?_
  rintro X Y ⟨Q, Hs, c, y⟩ h hZ O E hR
  have hZ : rmZ (Q, Hs, c) y h := hZ
  obtain ⟨hS, hE, hL, ⟨h9, hc⟩, hH⟩ := hZ
  have hN10 : dN Q.1 ≤ 10 := hS.1.2
  have B_86 := zr_aload_n (X := X) (Y := Y) (u := 0) (v := 0) O dX11_keeps_86 rfl (zr_dup O dX11_keeps_87 (zr_gI (ci := 10) (j := 9) O zc_10 (by decide) rfl tw_1196 dX11_keeps_88 (zr_iconst (x := 1) O dX11_keeps_91 rfl (zr_iadd O dX11_keeps_92 (zr_pI (ci := 10) (j := 9) O zc_10 (by decide) rfl rfl rfl tw_1196 dX11_keeps_93 (zr_return O E (Nat.le_refl _) (Nat.le_refl _) dX11_keeps_96))))))
  have L_52 : ∀ nn : Nat, zSd X Y 0 0 52 ((fun d ls st h1 => ∃ (k n : Nat) (z : Int32) (B F : Nat → Int32), d = 218 - k ∧ k ≤ 218 ∧ ls = [some (vR 20 0 y), some (vI z)] ∧ z = nI k ∧ st = [] ∧ h1 = zsW (zsW h (y + 4) B) y F ∧ (∀ k, k ≠ 9 → F k = h.1 y k) ∧ F 9 = nI n ∧ n ≤ 11 ∧ n + 1 = min (c + 1) 12 ∧ (∀ j, j < k → B (218 * n + j) = h.1 (y + 2) j) ∧ ∀ i, i < n → ∀ j, j < 218 → B (218 * (n - 1 - i) + j) = h.1 (y + 4) (218 * (c - 1 - i) + j) : Nat → zT) nn) := by
    refine zSd_loop (fun nn ih => ?_)
    have B_52 := zr_iload_n (X := X) (Y := Y) (u := 0) (v := 0) O dX11_keeps_52 rfl (zr_sipush (x := (218)) O dX11_keeps_53 (by decide) (zr_icge (tgt := 86) O dX11_keeps_56 rfl B_86 (zr_aload_n O dX11_keeps_59 rfl (zr_gS (ci := 10) (j := 4) (off := 4) (t := 1) (n := 2616) O zc_10 (by decide) rfl tw_1191 dX11_keeps_60 (zr_sipush (x := (218)) O dX11_keeps_63 (by decide) (zr_aload_n O dX11_keeps_66 rfl (zr_gI (ci := 10) (j := 9) O zc_10 (by decide) rfl tw_1196 dX11_keeps_67 (zr_imul O dX11_keeps_70 (zr_iload_n O dX11_keeps_71 rfl (zr_iadd O dX11_keeps_72 (zr_aload_n O dX11_keeps_73 rfl (zr_gS (ci := 10) (j := 2) (off := 2) (t := 1) (n := 218) O zc_10 (by decide) rfl tw_1189 dX11_keeps_74 (zr_iload_n O dX11_keeps_77 rfl (zr_iald O dX11_keeps_78 (zr_iast O dX11_keeps_79 (zr_iinc (c := 1) O dX11_keeps_80 rfl (zr_goto (tgt := 52) O dX11_keeps_83 rfl ih)))))))))))))))))
    refine zSd_weak B_52 (fun ls st h1 t => ?_)
    obtain ⟨k, n, z, B, F, rfl, hk, rfl, rfl, rfl, rfl, hF, hF9, hn, en, hB, hO⟩ := t
    have e9 : (zsW (zsW h (y + 4) B) y F).1 y 9 = nI n := by rw [zsW_s]; exact hF9
    refine ⟨fun cq => ?_, fun cq => ?_⟩
    · have := (nI_leI (a := 218) (by omega) (by omega)).mp cq
      have hk2 : k = 218 := by omega
      subst hk2
      show cq_X11_keeps (Q, Hs, c, y) h none (zsI (zsW (zsW h (y + 4) B) y F) y 9 ((zsW (zsW h (y + 4) B) y F).1 y 9 + 1))
      rw [e9]
      have e1 : (nI n + 1 : Int32) = nI (n + 1) := nI_1 n
      rw [e1]
      have eh : zsI (zsW (zsW h (y + 4) B) y F) y 9 (nI (n + 1)) = zsW (zsW h (y + 4) B) y (va_up F 9 (nI (n + 1))) := by rw [zsI_W, zsW_W, zsW_s]
      rw [eh]
      have hF2 : ∀ k, k ≠ 9 → va_up F 9 (nI (n + 1)) k = h.1 y k := fun k hk => by rw [zup_n _ _ hk]; exact hF k hk
      refine ⟨rfl, ⟨?_, ?_, ?_, ?_, fun i hi => ?_⟩, B, _, rfl, hF2⟩
      · refine rmS_cg ⟨by rw [zsW_s]; exact hF2 10 (by decide), by rw [zsW_s]; exact hF2 11 (by decide)⟩ ?_ ?_ ?_ hS
        · rw [zsW_n _ _ (by omega), zsW_n _ _ (by omega)]
        · rw [zsW_n _ _ (by omega), zsW_n _ _ (by omega)]
        · rw [zsW_n _ _ (by omega), zsW_n _ _ (by omega)]
      · rw [zsW_n _ _ (by omega), zsW_n _ _ (by omega)]; exact hE
      · rw [zsW_n _ _ (by omega), zsW_n _ _ (by omega)]; exact hL
      · refine ⟨?_, by omega⟩
        rw [zsW_s, zup_s, en]
      · rw [zsW_n _ _ (by omega : y + 4 ≠ y), zsW_s, ← en]
        cases i with
        | zero =>
          refine ⟨⟨rfl, rfl, rfl, rfl⟩, rmH_cg (f := h.1 (y + 2)) hN10 (fun j hj => hB j hj) ⟨⟨hS.2.2.1, hS.2.2.2.2⟩, hE, hL⟩⟩
        | succ i =>
          have hi2 : i < c := by omega
          obtain ⟨q1, q2⟩ := hH i hi2
          refine ⟨q1, rmH_cg (by show dN (Hs i).1 ≤ 10; rw [q1.1]; exact hN10) (fun j hj => ?_) q2⟩
          have := hO i (by omega) j hj
          rw [show n + 1 - 1 - (i + 1) = n - 1 - i by omega]
          exact this
    · have hk2 : k < 218 := Nat.not_le.mp (fun z => cq ((nI_leI (a := 218) (by omega) (by omega)).mpr z))
      have ei : (218 : Int32) * (zsW (zsW h (y + 4) B) y F).1 y 9 + nI k = nI (218 * n + k) := by
        rw [e9, show (218 : Int32) = nI 218 from rfl, nI_mul, nI_add]
      refine ⟨k, rfl, hk2, 218 * n + k, ei, by omega, 218 - (k + 1), by omega, k + 1, n, _, va_up B (218 * n + k) (h.1 (y + 2) k), F, rfl, by omega, rfl, nI_1 k, rfl, ?_, hF, hF9, hn, en, fun j hj => ?_, fun i hi j hj => ?_⟩
      · rw [zsI_W, zsW_n _ _ (by omega : y + 4 ≠ y), zsW_s, zsW_n _ _ (by omega : y + 2 ≠ y), zsW_n _ _ (by omega : y + 2 ≠ y + 4), zsW_c _ _ _ (by omega : y + 4 ≠ y), zsW_W]
      · by_cases e : j = k
        · rw [e, zup_s]
        · rw [zup_n _ _ (by omega)]; exact hB j (by omega)
      · have : 218 * (n - 1 - i) + 218 ≤ 218 * n := by
          rw [← Nat.mul_succ]; exact Nat.mul_le_mul_left _ (by omega)
        rw [zup_n _ _ (by omega)]; exact hO i hi j hj
  have B_52 := zSd_any L_52
  have B_50 := zr_iconst (X := X) (Y := Y) (u := 0) (v := 0) (x := 0) O dX11_keeps_50 rfl (zr_istore_n O dX11_keeps_51 rfl (B_52))
  have B_40 := zr_aload_n (X := X) (Y := Y) (u := 0) (v := 0) O dX11_keeps_40 rfl (zr_dup O dX11_keeps_41 (zr_gI (ci := 10) (j := 9) O zc_10 (by decide) rfl tw_1196 dX11_keeps_42 (zr_iconst (x := 1) O dX11_keeps_45 rfl (zr_isub O dX11_keeps_46 (zr_pI (ci := 10) (j := 9) O zc_10 (by decide) rfl rfl rfl tw_1196 dX11_keeps_47 (B_50))))))
  have L_11 : ∀ nn : Nat, zSd X Y 0 0 11 ((fun d ls st h1 => ∃ (k : Nat) (z : Int32) (B : Nat → Int32), d = 2398 - k ∧ k ≤ 2398 ∧ ls = [some (vR 20 0 y), some (vI z)] ∧ z = nI k ∧ st = [] ∧ h1 = zsW h (y + 4) B ∧ c = 12 ∧ (∀ j, j < k → B j = h.1 (y + 4) (j + 218)) ∧ ∀ j, k ≤ j → B j = h.1 (y + 4) j : Nat → zT) nn) := by
    refine zSd_loop (fun nn ih => ?_)
    have B_11 := zr_iload_n (X := X) (Y := Y) (u := 0) (v := 0) O dX11_keeps_11 rfl (zr_sipush (x := (2398)) O dX11_keeps_12 (by decide) (zr_icge (tgt := 40) O dX11_keeps_15 rfl B_40 (zr_aload_n O dX11_keeps_18 rfl (zr_gS (ci := 10) (j := 4) (off := 4) (t := 1) (n := 2616) O zc_10 (by decide) rfl tw_1191 dX11_keeps_19 (zr_iload_n O dX11_keeps_22 rfl (zr_aload_n O dX11_keeps_23 rfl (zr_gS (ci := 10) (j := 4) (off := 4) (t := 1) (n := 2616) O zc_10 (by decide) rfl tw_1191 dX11_keeps_24 (zr_iload_n O dX11_keeps_27 rfl (zr_sipush (x := (218)) O dX11_keeps_28 (by decide) (zr_iadd O dX11_keeps_31 (zr_iald O dX11_keeps_32 (zr_iast O dX11_keeps_33 (zr_iinc (c := 1) O dX11_keeps_34 rfl (zr_goto (tgt := 11) O dX11_keeps_37 rfl ih))))))))))))))
    refine zSd_weak B_11 (fun ls st h1 t => ?_)
    obtain ⟨k, z, B, rfl, hk, rfl, rfl, rfl, rfl, ec, hB, hO⟩ := t
    have e9 : (zsW h (y + 4) B).1 y 9 = nI 12 := by rw [zsW_n _ _ (by omega), h9, ec]
    refine ⟨fun cq => ?_, fun cq => ?_⟩
    · have := (nI_leI (a := 2398) (by omega) (by omega)).mp cq
      have hk2 : k = 2398 := by omega
      subst hk2
      refine ⟨218 - 0, 0, 11, _, B, va_up (h.1 y) 9 (nI 11), rfl, Nat.zero_le _, rfl, rfl, rfl, ?_, fun k hk => zup_n _ _ hk, zup_s _ _ _, by omega, by omega, fun j hj => absurd hj (Nat.not_lt_zero _), fun i hi j hj => ?_⟩
      · rw [e9, zsI_W, zsW_n _ _ (by omega : y ≠ y + 4)]; rfl
      · rw [hB _ (by omega), ec]
        rw [show 218 * (11 - 1 - i) + j + 218 = 218 * (12 - 1 - i) + j by omega]
    · have hk2 : k < 2398 := Nat.not_le.mp (fun z => cq ((nI_leI (a := 2398) (by omega) (by omega)).mpr z))
      refine ⟨k + 218, nI_add k 218, by omega, k, rfl, by omega, 2398 - (k + 1), by omega, k + 1, _, va_up B k (B (k + 218)), rfl, by omega, rfl, nI_1 k, rfl, ?_, ec, fun j hj => ?_, fun j hj => ?_⟩
      · rw [zsI_W, zsW_W, zsW_s]
      · by_cases e : j = k
        · rw [e, zup_s]; exact hO _ (by omega)
        · rw [zup_n _ _ e]; exact hB j (by omega)
      · rw [zup_n _ _ (by omega)]; exact hO j (by omega)
  have B_11 := zSd_any L_11
  have B_0 := zr_aload_n (X := X) (Y := Y) (u := 0) (v := 0) O dX11_keeps_0 rfl (zr_gI (ci := 10) (j := 9) O zc_10 (by decide) rfl tw_1196 dX11_keeps_1 (zr_bipush (x := (12)) O dX11_keeps_4 (by decide) (zr_icne (tgt := 50) O dX11_keeps_6 rfl B_50 (zr_iconst (x := 0) O dX11_keeps_9 rfl (zr_istore_n O dX11_keeps_10 rfl (B_11))))))
  refine ⟨rfl, Nat.le_of_ble_eq_true rfl, _, B_0, ?_⟩
  refine ⟨fun cq => ?_, fun cq => ?_⟩
  · rw [h9] at cq
    have c12 : ¬ c = 12 := fun z => cq (by rw [z]; rfl)
    refine ⟨218 - 0, 0, c, _, h.1 (y + 4), h.1 y, rfl, Nat.zero_le _, rfl, rfl, rfl, ?_, fun _ _ => rfl, h9, by omega, by omega, fun j hj => absurd hj (Nat.not_lt_zero _), fun i hi j hj => rfl⟩
    rw [zsW_self, zsW_self]
  · rw [h9] at cq
    have c12 : c = 12 := (nI_eq (b := 12) (by omega) (by omega)).mp cq
    refine ⟨2398 - 0, 0, _, h.1 (y + 4), rfl, Nat.zero_le _, rfl, rfl, rfl, ?_, c12, fun j hj => absurd hj (Nat.not_lt_zero _), fun j _ => rfl⟩
    rw [zsW_self]
def ca_X11_undo : (zQ × (Nat → zQ) × Nat × Nat) → List zV := fun (Q, Hs, c, y) => [vR 20 0 y]
def cp_X11_undo : (zQ × (Nat → zQ) × Nat × Nat) → zH → Prop := fun (Q, Hs, c, y) h => rmZ (Q, Hs, c) y h
def cq_X11_undo : (zQ × (Nat → zQ) × Nat × Nat) → zH → Option zV → zH → Prop := fun (Q, Hs, c, y) h r h' => fs y h h' ∧ rok y h h' ∧ (c = 0 → r = some (vI (-1)) ∧ rmZ (Q, Hs, c) y h') ∧ (0 < c → r = some (vI (nI (c - 1))) ∧ rmZ (Hs 0, fun i => Hs (i + 1), c - 1) y h')
theorem rc_X11_undo : ∀ x : (zQ × (Nat → zQ) × Nat × Nat), ∃ (j a : Nat) (As : List zV), ca_X11_undo x = vR (10 + 10) j a :: As := by
  rintro ⟨Q, Hs, c, y⟩
  exact ⟨_, _, _, rfl⟩
set_option maxHeartbeats 4000000 in
set_option maxRecDepth 100000 in
theorem m_X11_undo : zM yX11_undo cX11_undo 2 (some .int) ({ frames := 0, cells := 0, slots := 0, locals := 0 } : Room) ((ca_X11_undo, cp_X11_undo, cq_X11_undo) : zC (zQ × (Nat → zQ) × Nat × Nat)) := by
  refine zM_of (by decide) ?_
  rintro X Y ⟨Q, Hs, c, y⟩ h hZ O E hR
  have hZ : rmZ (Q, Hs, c) y h := hZ
  have hZ0 := rmZ_fq (fq_0 y h).1 hZ
  have hZ1 := hZ
  obtain ⟨hS, hE, hL, ⟨h9, hc⟩, hH⟩ := hZ
  have hN10 : dN Q.1 ≤ 10 := hS.1.2
  have B_60 := zr_aload_n (X := X) (Y := Y) (u := 0) (v := 0) O dX11_undo_60 rfl (zr_gI (ci := 10) (j := 9) O zc_10 (by decide) rfl tw_1196 dX11_undo_61 (zr_ireturn O E (Nat.le_refl _) (Nat.le_refl _) dX11_undo_64))
  have L_26 : ∀ nn : Nat, zSd X Y 0 0 26 ((fun d ls st h1 => ∃ (k : Nat) (z : Int32) (m F : Nat → Int32), d = 218 - k ∧ k ≤ 218 ∧ ls = [some (vR 20 0 y), some (vI z)] ∧ z = nI k ∧ st = [] ∧ h1 = zsW (zsW h (y + 2) m) y F ∧ F 0 = 0 ∧ (∀ k, k ≠ 9 → k ≠ 0 → F k = h.1 y k) ∧ F 9 = nI (c - 1) ∧ 0 < c ∧ ∀ j, j < k → m j = h.1 (y + 4) (218 * (c - 1) + j) : Nat → zT) nn) := by
    refine zSd_loop (fun nn ih => ?_)
    have B_26 := zr_iload_n (X := X) (Y := Y) (u := 0) (v := 0) O dX11_undo_26 rfl (zr_sipush (x := (218)) O dX11_undo_27 (by decide) (zr_icge (tgt := 60) O dX11_undo_30 rfl B_60 (zr_aload_n O dX11_undo_33 rfl (zr_gS (ci := 10) (j := 2) (off := 2) (t := 1) (n := 218) O zc_10 (by decide) rfl tw_1189 dX11_undo_34 (zr_iload_n O dX11_undo_37 rfl (zr_aload_n O dX11_undo_38 rfl (zr_gS (ci := 10) (j := 4) (off := 4) (t := 1) (n := 2616) O zc_10 (by decide) rfl tw_1191 dX11_undo_39 (zr_sipush (x := (218)) O dX11_undo_42 (by decide) (zr_aload_n O dX11_undo_45 rfl (zr_gI (ci := 10) (j := 9) O zc_10 (by decide) rfl tw_1196 dX11_undo_46 (zr_imul O dX11_undo_49 (zr_iload_n O dX11_undo_50 rfl (zr_iadd O dX11_undo_51 (zr_iald O dX11_undo_52 (zr_iast O dX11_undo_53 (zr_iinc (c := 1) O dX11_undo_54 rfl (zr_goto (tgt := 26) O dX11_undo_57 rfl ih)))))))))))))))))
    refine zSd_weak B_26 (fun ls st h1 t => ?_)
    obtain ⟨k, z, m, F, rfl, hk, rfl, rfl, rfl, rfl, hF0, hF, hF9, h0, hB⟩ := t
    have e9 : (zsW (zsW h (y + 2) m) y F).1 y 9 = nI (c - 1) := by rw [zsW_s]; exact hF9
    refine ⟨fun cq => ?_, fun cq => ?_⟩
    · have := (nI_leI (a := 218) (by omega) (by omega)).mp cq
      have hk2 : k = 218 := by omega
      subst hk2
      obtain ⟨q1, q2⟩ := hH 0 h0
      have hN2 : dN (Hs 0).1 ≤ 10 := by rw [q1.1]; exact hN10
      have r2 : rmH (Hs 0) m := rmH_cg hN2 (fun j hj => by rw [hB j hj]; rfl) q2
      refine ⟨⟨fun q hq => ⟨by rw [zsW_n _ _ (by omega), zsW_n _ _ (by omega)], rfl⟩, rfl, fun k hk => by rw [zsW_s]; exact hF k (by omega) (by omega), fun j hj => by rw [zsW_n _ _ (by omega), zsW_n _ _ (by omega)]⟩, ⟨by rw [zsW_s]; exact hF0, by rw [zsW_n _ _ (by omega), zsW_n _ _ (by omega)]⟩, fun z => by omega, fun _ => ⟨zri e9, ⟨⟨?_, hN2⟩, ⟨?_, ?_⟩, ?_, ?_, ?_⟩, ?_, ?_, ⟨e9, by omega⟩, fun i hi => ?_⟩⟩
      · rw [zsW_s, hF 10 (by decide) (by decide), q1.1]; exact hS.1.1
      · rw [zsW_s, hF 11 (by decide) (by decide), q1.2.1]; exact hS.2.1.1
      · rw [q1.2.1]; exact hS.2.1.2
      · rw [zsW_n _ _ (by omega), zsW_s]; exact r2.1.1
      · rw [zsW_n _ _ (by omega), zsW_n _ _ (by omega), zsW_n _ _ (by omega), zsW_n _ _ (by omega), q1.1, q1.2.1, q1.2.2.1, q1.2.2.2]; exact hS.2.2.2.1
      · rw [zsW_n _ _ (by omega), zsW_s]; exact r2.1.2
      · rw [zsW_n _ _ (by omega), zsW_s]; exact r2.2.1
      · rw [zsW_n _ _ (by omega), zsW_s]; exact r2.2.2
      · obtain ⟨p1, p2⟩ := hH (i + 1) (by omega)
        refine ⟨⟨p1.1.trans q1.1.symm, p1.2.1.trans q1.2.1.symm, p1.2.2.1.trans q1.2.2.1.symm, p1.2.2.2.trans q1.2.2.2.symm⟩, ?_⟩
        rw [zsW_n _ _ (by omega), zsW_n _ _ (by omega), show c - 1 - 1 - i = c - 1 - (i + 1) by omega]
        exact p2
    · have hk2 : k < 218 := Nat.not_le.mp (fun z => cq ((nI_leI (a := 218) (by omega) (by omega)).mpr z))
      have ei : (218 : Int32) * (zsW (zsW h (y + 2) m) y F).1 y 9 + nI k = nI (218 * (c - 1) + k) := by
        rw [e9, show (218 : Int32) = nI 218 from rfl, nI_mul, nI_add]
      refine ⟨218 * (c - 1) + k, ei, by omega, k, rfl, hk2, 218 - (k + 1), by omega, k + 1, _, va_up m k (h.1 (y + 4) (218 * (c - 1) + k)), F, rfl, by omega, rfl, nI_1 k, rfl, ?_, hF0, hF, hF9, h0, fun j hj => ?_⟩
      · rw [zsI_W, zsW_n _ _ (by omega : y + 2 ≠ y), zsW_s, zsW_n _ _ (by omega : y + 4 ≠ y), zsW_n _ _ (by omega : y + 4 ≠ y + 2), zsW_c _ _ _ (by omega : y + 2 ≠ y), zsW_W]
      · by_cases e : j = k
        · rw [e, zup_s]
        · rw [zup_n _ _ e]; exact hB j (by omega)
  have B_26 := zSd_any L_26
  have B_14 := zr_aload_n (X := X) (Y := Y) (u := 0) (v := 0) O dX11_undo_14 rfl (zr_dup O dX11_undo_15 (zr_gI (ci := 10) (j := 9) O zc_10 (by decide) rfl tw_1196 dX11_undo_16 (zr_iconst (x := 1) O dX11_undo_19 rfl (zr_isub O dX11_undo_20 (zr_pI (ci := 10) (j := 9) O zc_10 (by decide) rfl rfl rfl tw_1196 dX11_undo_21 (zr_iconst (x := 0) O dX11_undo_24 rfl (zr_istore_n O dX11_undo_25 rfl (B_26))))))))
  have B_0 := zr_aload_n (X := X) (Y := Y) (u := 0) (v := 0) O dX11_undo_0 rfl (zr_iconst (x := 0) O dX11_undo_1 rfl (zr_pI (ci := 10) (j := 0) O zc_10 (by decide) rfl rfl rfl tw_1187 dX11_undo_2 (zr_aload_n O dX11_undo_5 rfl (zr_gI (ci := 10) (j := 9) O zc_10 (by decide) rfl tw_1196 dX11_undo_6 (zr_ifne (tgt := 14) O dX11_undo_9 rfl B_14 (zr_iconst (x := (-1)) O dX11_undo_12 rfl (zr_ireturn O E (Nat.le_refl _) (Nat.le_refl _) dX11_undo_13)))))))
  refine ⟨rfl, Nat.le_of_ble_eq_true rfl, _, B_0, ?_⟩
  have e9 : (zsI h y 0 0).1 y 9 = nI c := (zsI_at _ _ _ _ _ (by decide)).trans h9
  refine ⟨fun cq => ?_, fun cq => ?_⟩
  · rw [e9] at cq
    have h0 : 0 < c := Nat.pos_of_ne_zero (fun z => cq (by rw [z]; rfl))
    refine ⟨218 - 0, 0, _, h.1 (y + 2), va_up (va_up (h.1 y) 0 0) 9 (nI (c - 1)), rfl, Nat.zero_le _, rfl, rfl, rfl, ?_, ?_, fun k h9 h0 => ?_, zup_s _ _ _, h0, fun j hj => absurd hj (Nat.not_lt_zero _)⟩
    · have e1 : nI c - 1 = nI (c - 1) := nI_sub (b := 1) h0
      rw [e9, e1, zsW_self, zsI_W, zsI_W, zsW_W, zsW_s]
    · rw [zup_n _ _ (by decide), zup_s]
    · rw [zup_n _ _ h9, zup_n _ _ h0]
  · rw [e9] at cq
    have h0 : c = 0 := (nI_eq (b := 0) (by omega) (by omega)).mp cq
    exact ⟨fs_q (fq_0 y h).1, (fq_0 y h).2, fun _ => ⟨rfl, hZ0⟩, fun z => by omega⟩

