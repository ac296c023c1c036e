theorem dX11_ringTold_70 : decode cX11_ringTold 70 = .ok (.aload_n 0, 1) := by decide +kernel
theorem dX11_ringTold_71 : decode cX11_ringTold 71 = .ok (.getfield 20, 3) := by decide +kernel
theorem dX11_ringTold_74 : decode cX11_ringTold 74 = .ok (.iload_n 1, 1) := by decide +kernel
theorem dX11_ringTold_75 : decode cX11_ringTold 75 = .ok (.iload_n 2, 1) := by decide +kernel
theorem dX11_ringTold_76 : decode cX11_ringTold 76 = .ok (.iastore, 1) := by decide +kernel
theorem dX11_ringTold_77 : decode cX11_ringTold 77 = .ok (.aload_n 0, 1) := by decide +kernel
theorem dX11_ringTold_78 : decode cX11_ringTold 78 = .ok (.getfield 20, 3) := by decide +kernel
theorem dX11_ringTold_81 : decode cX11_ringTold 81 = .ok (.iload_n 1, 1) := by decide +kernel
theorem dX11_ringTold_82 : decode cX11_ringTold 82 = .ok (.iconst 1, 1) := by decide +kernel
theorem dX11_ringTold_83 : decode cX11_ringTold 83 = .ok (.iadd, 1) := by decide +kernel
theorem dX11_ringTold_84 : decode cX11_ringTold 84 = .ok (.iload_n 3, 1) := by decide +kernel
theorem dX11_ringTold_85 : decode cX11_ringTold 85 = .ok (.iastore, 1) := by decide +kernel
theorem dX11_ringTold_86 : decode cX11_ringTold 86 = .ok (.aload_n 0, 1) := by decide +kernel
theorem dX11_ringTold_87 : decode cX11_ringTold 87 = .ok (.getfield 20, 3) := by decide +kernel
theorem dX11_ringTold_90 : decode cX11_ringTold 90 = .ok (.iload_n 1, 1) := by decide +kernel
theorem dX11_ringTold_91 : decode cX11_ringTold 91 = .ok (.iconst 2, 1) := by decide +kernel
theorem dX11_ringTold_92 : decode cX11_ringTold 92 = .ok (.iadd, 1) := by decide +kernel
theorem dX11_ringTold_93 : decode cX11_ringTold 93 = .ok (.iload 4, 2) := by decide +kernel
theorem dX11_ringTold_95 : decode cX11_ringTold 95 = .ok (.iastore, 1) := by decide +kernel
theorem dX11_ringTold_96 : decode cX11_ringTold 96 = .ok (.aload_n 0, 1) := by decide +kernel
theorem dX11_ringTold_97 : decode cX11_ringTold 97 = .ok (.dup, 1) := by decide +kernel
theorem dX11_ringTold_98 : decode cX11_ringTold 98 = .ok (.getfield 177, 3) := by decide +kernel
theorem dX11_ringTold_101 : decode cX11_ringTold 101 = .ok (.iconst 1, 1) := by decide +kernel
theorem dX11_ringTold_102 : decode cX11_ringTold 102 = .ok (.iadd, 1) := by decide +kernel
theorem dX11_ringTold_103 : decode cX11_ringTold 103 = .ok (.putfield 177, 3) := by decide +kernel
theorem dX11_ringTold_106 : decode cX11_ringTold 106 = .ok (.return_, 1) := by decide +kernel
theorem dX11_ringTold_18 : decode cX11_ringTold 18 = .ok (.iconst 5, 1) := by decide +kernel
theorem dX11_ringTold_19 : decode cX11_ringTold 19 = .ok (.iconst 3, 1) := by decide +kernel
theorem dX11_ringTold_20 : decode cX11_ringTold 20 = .ok (.aload_n 0, 1) := by decide +kernel
theorem dX11_ringTold_21 : decode cX11_ringTold 21 = .ok (.getfield 177, 3) := by decide +kernel
theorem dX11_ringTold_24 : decode cX11_ringTold 24 = .ok (.bipush 9, 2) := by decide +kernel
theorem dX11_ringTold_26 : decode cX11_ringTold 26 = .ok (.invokestatic 95, 3) := by decide +kernel
theorem dX11_ringTold_29 : decode cX11_ringTold 29 = .ok (.imul, 1) := by decide +kernel
theorem dX11_ringTold_30 : decode cX11_ringTold 30 = .ok (.iadd, 1) := by decide +kernel
theorem dX11_ringTold_31 : decode cX11_ringTold 31 = .ok (.istore_n 1, 1) := by decide +kernel
theorem dX11_ringTold_32 : decode cX11_ringTold 32 = .ok (.aload_n 0, 1) := by decide +kernel
theorem dX11_ringTold_33 : decode cX11_ringTold 33 = .ok (.iconst 0, 1) := by decide +kernel
theorem dX11_ringTold_34 : decode cX11_ringTold 34 = .ok (.sipush 9999, 3) := by decide +kernel
theorem dX11_ringTold_37 : decode cX11_ringTold 37 = .ok (.iconst 0, 1) := by decide +kernel
theorem dX11_ringTold_38 : decode cX11_ringTold 38 = .ok (.invokevirtual 180, 3) := by decide +kernel
theorem dX11_ringTold_41 : decode cX11_ringTold 41 = .ok (.istore_n 2, 1) := by decide +kernel
theorem dX11_ringTold_42 : decode cX11_ringTold 42 = .ok (.aload_n 0, 1) := by decide +kernel
theorem dX11_ringTold_43 : decode cX11_ringTold 43 = .ok (.bipush (-99), 2) := by decide +kernel
theorem dX11_ringTold_45 : decode cX11_ringTold 45 = .ok (.bipush 99, 2) := by decide +kernel
theorem dX11_ringTold_47 : decode cX11_ringTold 47 = .ok (.iconst 1, 1) := by decide +kernel
theorem dX11_ringTold_48 : decode cX11_ringTold 48 = .ok (.invokevirtual 180, 3) := by decide +kernel
theorem dX11_ringTold_51 : decode cX11_ringTold 51 = .ok (.istore_n 3, 1) := by decide +kernel
theorem dX11_ringTold_52 : decode cX11_ringTold 52 = .ok (.aload_n 0, 1) := by decide +kernel
theorem dX11_ringTold_53 : decode cX11_ringTold 53 = .ok (.iconst 0, 1) := by decide +kernel
theorem dX11_ringTold_54 : decode cX11_ringTold 54 = .ok (.bipush 50, 2) := by decide +kernel
theorem dX11_ringTold_56 : decode cX11_ringTold 56 = .ok (.iconst 0, 1) := by decide +kernel
theorem dX11_ringTold_57 : decode cX11_ringTold 57 = .ok (.invokevirtual 180, 3) := by decide +kernel
theorem dX11_ringTold_60 : decode cX11_ringTold 60 = .ok (.istore 4, 2) := by decide +kernel
theorem dX11_ringTold_62 : decode cX11_ringTold 62 = .ok (.aload_n 0, 1) := by decide +kernel
theorem dX11_ringTold_63 : decode cX11_ringTold 63 = .ok (.getfield 134, 3) := by decide +kernel
theorem dX11_ringTold_66 : decode cX11_ringTold 66 = .ok (.ifCond .le 4, 3) := by decide +kernel
theorem dX11_ringTold_69 : decode cX11_ringTold 69 = .ok (.return_, 1) := by decide +kernel
theorem dX11_ringTold_0 : decode cX11_ringTold 0 = .ok (.aload_n 0, 1) := by decide +kernel
theorem dX11_ringTold_1 : decode cX11_ringTold 1 = .ok (.getfield 177, 3) := by decide +kernel
theorem dX11_ringTold_4 : decode cX11_ringTold 4 = .ok (.bipush 10, 2) := by decide +kernel
theorem dX11_ringTold_6 : decode cX11_ringTold 6 = .ok (.if_icmp .ne 12, 3) := by decide +kernel
theorem dX11_ringTold_9 : decode cX11_ringTold 9 = .ok (.aload_n 0, 1) := by decide +kernel
theorem dX11_ringTold_10 : decode cX11_ringTold 10 = .ok (.iconst 3, 1) := by decide +kernel
theorem dX11_ringTold_11 : decode cX11_ringTold 11 = .ok (.aload_n 0, 1) := by decide +kernel
theorem dX11_ringTold_12 : decode cX11_ringTold 12 = .ok (.getfield 162, 3) := by decide +kernel
theorem dX11_ringTold_15 : decode cX11_ringTold 15 = .ok (.invokevirtual 168, 3) := by decide +kernel
theorem dX11_heatsTold_39 : decode cX11_heatsTold 39 = .ok (.bipush 125, 2) := by decide +kernel
theorem dX11_heatsTold_41 : decode cX11_heatsTold 41 = .ok (.iconst 1, 1) := by decide +kernel
theorem dX11_heatsTold_42 : decode cX11_heatsTold 42 = .ok (.invokevirtual 180, 3) := by decide +kernel
theorem dX11_heatsTold_45 : decode cX11_heatsTold 45 = .ok (.iastore, 1) := by decide +kernel
theorem dX11_heatsTold_46 : decode cX11_heatsTold 46 = .ok (.return_, 1) := by decide +kernel
theorem dX11_heatsTold_37 : decode cX11_heatsTold 37 = .ok (.bipush (-40), 2) := by decide +kernel
theorem dX11_heatsTold_0 : decode cX11_heatsTold 0 = .ok (.aload_n 0, 1) := by decide +kernel
theorem dX11_heatsTold_1 : decode cX11_heatsTold 1 = .ok (.getfield 20, 3) := by decide +kernel
theorem dX11_heatsTold_4 : decode cX11_heatsTold 4 = .ok (.iconst 1, 1) := by decide +kernel
theorem dX11_heatsTold_5 : decode cX11_heatsTold 5 = .ok (.aload_n 0, 1) := by decide +kernel
theorem dX11_heatsTold_6 : decode cX11_heatsTold 6 = .ok (.bipush (-40), 2) := by decide +kernel
theorem dX11_heatsTold_8 : decode cX11_heatsTold 8 = .ok (.bipush 125, 2) := by decide +kernel
theorem dX11_heatsTold_10 : decode cX11_heatsTold 10 = .ok (.iconst 1, 1) := by decide +kernel
theorem dX11_heatsTold_11 : decode cX11_heatsTold 11 = .ok (.invokevirtual 180, 3) := by decide +kernel
theorem dX11_heatsTold_14 : decode cX11_heatsTold 14 = .ok (.iastore, 1) := by decide +kernel
theorem dX11_heatsTold_15 : decode cX11_heatsTold 15 = .ok (.aload_n 0, 1) := by decide +kernel
theorem dX11_heatsTold_16 : decode cX11_heatsTold 16 = .ok (.getfield 20, 3) := by decide +kernel
theorem dX11_heatsTold_19 : decode cX11_heatsTold 19 = .ok (.iconst 2, 1) := by decide +kernel
theorem dX11_heatsTold_20 : decode cX11_heatsTold 20 = .ok (.aload_n 0, 1) := by decide +kernel
theorem dX11_heatsTold_21 : decode cX11_heatsTold 21 = .ok (.aload_n 0, 1) := by decide +kernel
theorem dX11_heatsTold_22 : decode cX11_heatsTold 22 = .ok (.getfield 134, 3) := by decide +kernel
theorem dX11_heatsTold_25 : decode cX11_heatsTold 25 = .ok (.ifCond .ne 12, 3) := by decide +kernel
theorem dX11_heatsTold_28 : decode cX11_heatsTold 28 = .ok (.aload_n 0, 1) := by decide +kernel
theorem dX11_heatsTold_29 : decode cX11_heatsTold 29 = .ok (.getfield 20, 3) := by decide +kernel
theorem dX11_heatsTold_32 : decode cX11_heatsTold 32 = .ok (.iconst 1, 1) := by decide +kernel
theorem dX11_heatsTold_33 : decode cX11_heatsTold 33 = .ok (.iaload, 1) := by decide +kernel
theorem dX11_heatsTold_34 : decode cX11_heatsTold 34 = .ok (.goto 5, 3) := by decide +kernel
theorem dX11_repeatTold_31 : decode cX11_repeatTold 31 = .ok (.aload_n 0, 1) := by decide +kernel
theorem dX11_repeatTold_32 : decode cX11_repeatTold 32 = .ok (.getfield 20, 3) := by decide +kernel
theorem dX11_repeatTold_35 : decode cX11_repeatTold 35 = .ok (.iconst 4, 1) := by decide +kernel
theorem dX11_repeatTold_36 : decode cX11_repeatTold 36 = .ok (.iload_n 1, 1) := by decide +kernel
theorem dX11_repeatTold_37 : decode cX11_repeatTold 37 = .ok (.iastore, 1) := by decide +kernel
theorem dX11_repeatTold_38 : decode cX11_repeatTold 38 = .ok (.return_, 1) := by decide +kernel
theorem dX11_repeatTold_0 : decode cX11_repeatTold 0 = .ok (.aload_n 0, 1) := by decide +kernel
theorem dX11_repeatTold_1 : decode cX11_repeatTold 1 = .ok (.iconst 1, 1) := by decide +kernel
theorem dX11_repeatTold_2 : decode cX11_repeatTold 2 = .ok (.bipush 7, 2) := by decide +kernel
theorem dX11_repeatTold_4 : decode cX11_repeatTold 4 = .ok (.iconst 0, 1) := by decide +kernel
theorem dX11_repeatTold_5 : decode cX11_repeatTold 5 = .ok (.invokevirtual 180, 3) := by decide +kernel
theorem dX11_repeatTold_8 : decode cX11_repeatTold 8 = .ok (.istore_n 1, 1) := by decide +kernel
theorem dX11_repeatTold_9 : decode cX11_repeatTold 9 = .ok (.aload_n 0, 1) := by decide +kernel
theorem dX11_repeatTold_10 : decode cX11_repeatTold 10 = .ok (.getfield 134, 3) := by decide +kernel
theorem dX11_repeatTold_13 : decode cX11_repeatTold 13 = .ok (.ifCond .ne 18, 3) := by decide +kernel
theorem dX11_repeatTold_16 : decode cX11_repeatTold 16 = .ok (.iload_n 1, 1) := by decide +kernel
theorem dX11_repeatTold_17 : decode cX11_repeatTold 17 = .ok (.iconst 2, 1) := by decide +kernel
theorem dX11_repeatTold_18 : decode cX11_repeatTold 18 = .ok (.irem, 1) := by decide +kernel
theorem dX11_repeatTold_19 : decode cX11_repeatTold 19 = .ok (.ifCond .ne 12, 3) := by decide +kernel
theorem dX11_repeatTold_22 : decode cX11_repeatTold 22 = .ok (.aload_n 0, 1) := by decide +kernel
theorem dX11_repeatTold_23 : decode cX11_repeatTold 23 = .ok (.iconst 2, 1) := by decide +kernel
theorem dX11_repeatTold_24 : decode cX11_repeatTold 24 = .ok (.aload_n 0, 1) := by decide +kernel
theorem dX11_repeatTold_25 : decode cX11_repeatTold 25 = .ok (.getfield 165, 3) := by decide +kernel
theorem dX11_repeatTold_28 : decode cX11_repeatTold 28 = .ok (.invokevirtual 168, 3) := by decide +kernel
/-! the reference: lines -/
def rmD (S : zD) (h : zH) (y : Nat) : Prop := (h.1 y 24 = nI (dN S) ∧ dN S ≤ 10) ∧ (h.1 y 25 = nI (dP S) ∧ dP S ≤ 28) ∧ rmr S (h.1 (y + 3)) ∧ (∀ p, p < dP S → (h.1 (y + 7) p = nI (dF S p) ∧ dF S p < dN S) ∧ h.1 (y + 8) p = nI (dS S p) ∧ dS S p < dN S) ∧ ∀ k, 35 ≤ k → k < 218 → h.1 (y + 3) k = 0
theorem rmD_cg {S : zD} {h h' : zH} {y : Nat} (e1 : h'.1 y 24 = h.1 y 24) (e2 : h'.1 y 25 = h.1 y 25) (e3 : h'.1 (y + 3) = h.1 (y + 3)) (e7 : h'.1 (y + 7) = h.1 (y + 7)) (e8 : h'.1 (y + 8) = h.1 (y + 8)) (hD : rmD S h y) : rmD S h' y := by
  unfold rmD at hD ⊢
  rw [e1, e2, e3, e7, e8]
  exact hD
theorem rmD_r {S : zD} {h h' : zH} {y : Nat} (f : rfr y h h') (hD : rmD S h y) : rmD S h' y := by
  obtain ⟨F, rfl, hF⟩ := f
  exact rmD_cg (by rw [zsW_s]; exact hF 24 (by decide) (by decide) (by decide) (by decide)) (by rw [zsW_s]; exact hF 25 (by decide) (by decide) (by decide) (by decide)) (zsW_n _ _ (by omega)) (zsW_n _ _ (by omega)) (zsW_n _ _ (by omega)) hD
/-- what a line may change -/
def lfr (y : Nat) (h h' : zH) : Prop := (∀ q, q ≠ y → q ≠ y + 3 → q ≠ y + 7 → q ≠ y + 8 → h'.1 q = h.1 q) ∧ h'.2 = h.2 ∧ ∀ k, k < 19 ∨ 26 < k ∨ k = 23 → h'.1 y k = h.1 y k
theorem lfr_r (y : Nat) (h : zH) : lfr y h h := ⟨fun _ _ _ _ _ => rfl, rfl, fun _ _ => rfl⟩
theorem lfr_t {y : Nat} {h h1 h2 : zH} (a : lfr y h h1) (b : lfr y h1 h2) : lfr y h h2 := ⟨fun q q1 q2 q3 q4 => (b.1 q q1 q2 q3 q4).trans (a.1 q q1 q2 q3 q4), b.2.1.trans a.2.1, fun k hk => (b.2.2 k hk).trans (a.2.2 k hk)⟩
theorem lfr_f {y : Nat} {h h' : zH} (f : rfr y h h') : lfr y h h' := by
  obtain ⟨F, rfl, hF⟩ := f
  exact ⟨fun q q1 _ _ _ => zsW_n _ _ q1, rfl, fun k hk => by rw [zsW_s]; exact hF k (by omega) (by omega) (by omega) (by omega)⟩
theorem lfr_I {y k : Nat} (h : zH) (v : Int32) (h1 : 19 ≤ k) (h2 : k ≤ 26) (h3 : k ≠ 23) : lfr y h (zsI h y k v) := ⟨fun q q1 _ _ _ => zsI_ro _ _ _ q1, rfl, fun j hj => zsI_at _ _ _ _ _ (by omega)⟩
theorem lfr_W {y j : Nat} (h : zH) (f : Nat → Int32) (hj : j = 3 ∨ j = 7 ∨ j = 8) : lfr y h (zsW h (y + j) f) := ⟨fun q q1 q2 q3 q4 => zsW_n _ _ (by omega), rfl, fun k _ => by rw [zsW_n _ _ (by omega)]⟩
theorem rmR_W {T : Nat → Int32} {n : Nat} {U : zU} {h : zH} {y j : Nat} {f : Nat → Int32} (hj : j ≠ 0) (hj2 : j ≠ 13) (hU : rmR T n U h y) : rmR T n U (zsW h (y + j) f) y := by
  unfold rmR rmT at hU ⊢
  rw [zsW_n _ _ (by omega), zsW_n _ _ (by omega)]
  exact hU
theorem rmR_I {T : Nat → Int32} {n : Nat} {U : zU} {h : zH} {y k : Nat} {v : Int32} (hk : k = 20 ∨ 22 < k) (hU : rmR T n U h y) : rmR T n U (zsI h y k v) y := by
  unfold rmR rmT at hU ⊢
  rw [zsI_at _ _ _ _ _ (by omega), zsI_at _ _ _ _ _ (by omega), zsI_at _ _ _ _ _ (by omega), zsI_at _ _ _ _ _ (by omega), zsI_ro _ _ _ (by omega)]
  exact hU
theorem rmR_k {T : Nat → Int32} {n : Nat} {U V : zU} {h : zH} {y : Nat} (hz : ¬ U.2.1 = 0) (e1 : V.2.1 = U.2.1) (e2 : V.2.2.1 = U.2.2.1) (hU : rmR T n U h y) : rmR T n V h y := by
  obtain ⟨a1, a2, a3, a4, p, p1, p2, p3⟩ := hU
  exact ⟨a1, by rw [e1]; exact a2, by rw [e1]; exact a3, fun z => by rw [e2]; exact a4 hz, p, p1, p2, fun z => absurd (e1 ▸ z) hz⟩
theorem rmR_wr {T : Nat → Int32} {n : Nat} {U : zU} {h : zH} {y : Nat} {k : Int32} (hk : 0 < k) (q : Int32) (hU : rmR T n U h y) : rmR T n (uF U k q) (cg_X11_wrong (y, k, q) h) y ∧ rfr y h (cg_X11_wrong (y, k, q) h) := by
  obtain ⟨a1, a2, a3, a4, p, p1, p2, p3⟩ := hU
  show rmR T n (uF U k q) (if h.1 y 21 ≤ 0 then zsI (zsI h y 21 k) y 22 q else h) y ∧ rfr y h (if h.1 y 21 ≤ 0 then zsI (zsI h y 21 k) y 22 q else h)
  rw [a2]
  have k0 : ¬ k = 0 := fun z => by rw [z] at hk; exact absurd hk (by decide)
  by_cases hz : U.2.1 = 0
  · rw [if_pos (by rw [hz]; exact Int32.le_refl _)]
    have eu : uF U k q = (U.1, k, q, U.2.2.2) := if_pos hz
    rw [eu]
    have eh : zsI (zsI h y 21 k) y 22 q = zsW h y (va_up (va_up (h.1 y) 21 k) 22 q) := by rw [zsI_W h, zsI_W, zsW_W, zsW_s]
    rw [eh]
    refine ⟨⟨rmT_F (by rw [zup_n _ _ (by decide), zup_n _ _ (by decide)]) a1, ?_, Or.inr hk, fun _ => ?_, p, ?_, p2, fun z => absurd z k0⟩, _, rfl, fun j j1 j2 j3 j4 => by rw [zup_n _ _ j3, zup_n _ _ j2]⟩
    · rw [zsW_s, zup_n _ _ (by decide), zup_s]
    · rw [zsW_s, zup_s]
    · rw [zsW_s, zup_n _ _ (by decide), zup_n _ _ (by decide)]; exact p1
  · have hp : ¬ U.2.1 ≤ 0 := a3.elim (fun z => absurd z hz) (fun z => Int32.not_le.mpr z)
    rw [if_neg hp, uF_k hz]
    exact ⟨⟨a1, a2, a3, a4, p, p1, p2, p3⟩, rfr_r y h⟩
theorem rmR_0 {T : Nat → Int32} {n : Nat} {U : zU} {h : zH} {y : Nat} (hU : rmR T n U h y) : (h.1 y 21 ≤ 0 ↔ U.2.1 = 0) ∧ (h.1 y 21 = 0 ↔ U.2.1 = 0) := by
  obtain ⟨-, a2, a3, -⟩ := hU
  rw [a2]
  refine ⟨⟨fun z => a3.elim id (fun w => absurd z (Int32.not_le.mpr w)), fun z => by rw [z]; exact Int32.le_refl _⟩, Iff.rfl⟩
theorem rmD_ring {S : zD} {h : zH} {y : Nat} (v1 v2 v3 : Int32) (hN : dN S < 10) (hD : rmD S h y) : rmD (aRg S v1 v2 v3) (zsW (zsW h (y + 3) (va_up (va_up (va_up (h.1 (y + 3)) (5 + 3 * dN S) v1) (5 + 3 * dN S + 1) v2) (5 + 3 * dN S + 2) v3)) y (va_up (h.1 y) 24 (nI (dN S + 1)))) y := by
  obtain ⟨⟨a1, a2⟩, ⟨a3, a4⟩, ⟨a5, a6⟩, a7, a8⟩ := hD
  refine ⟨⟨by rw [zsW_s, zup_s]; rfl, by show dN S + 1 ≤ 10; omega⟩, ⟨by rw [zsW_s, zup_n _ _ (by decide)]; exact a3, a4⟩, ⟨fun r hr => ?_, fun k hk => ?_⟩, fun p hp => ?_, fun k k1 k2 => ?_⟩
  · rw [zsW_n _ _ (by omega), zsW_s]
    replace hr : r < dN S + 1 := hr
    show _ = va_up (dB S) (dN S) v1 r ∧ _ = va_up (dD S) (dN S) v2 r ∧ _ = va_up (dZ S) (dN S) v3 r
    by_cases e : r = dN S
    · rw [e, zup_s, zup_s, zup_s]
      refine ⟨?_, ?_, ?_⟩
      · rw [zup_n _ _ (by omega), zup_n _ _ (by omega), zup_s]
      · rw [zup_n _ _ (by omega), zup_s]
      · rw [zup_s]
    · rw [zup_n _ _ e, zup_n _ _ e, zup_n _ _ e]
      rw [zup_n _ _ (by omega), zup_n _ _ (by omega), zup_n _ _ (by omega), zup_n _ _ (by omega), zup_n _ _ (by omega), zup_n _ _ (by omega), zup_n _ _ (by omega), zup_n _ _ (by omega), zup_n _ _ (by omega)]
      exact a5 r (by omega)
  · rw [zsW_n _ _ (by omega), zsW_s, zup_n _ _ (by omega), zup_n _ _ (by omega), zup_n _ _ (by omega)]
    exact a6 k hk
  · rw [zsW_n _ _ (by omega), zsW_n _ _ (by omega), zsW_n _ _ (by omega), zsW_n _ _ (by omega)]
    obtain ⟨⟨b1, b2⟩, b3, b4⟩ := a7 p hp
    exact ⟨⟨b1, Nat.lt_succ_of_lt b2⟩, b3, Nat.lt_succ_of_lt b4⟩
  · rw [zsW_n _ _ (by omega), zsW_s, zup_n _ _ (by omega), zup_n _ _ (by omega), zup_n _ _ (by omega)]
    exact a8 k k1 k2
theorem rmD_set {S : zD} {h : zH} {y k : Nat} (v : Int32) (hk : k < 5) (hD : rmD S h y) : rmD (aSt S k v) (zsI h (y + 3) k v) y := by
  obtain ⟨⟨a1, a2⟩, ⟨a3, a4⟩, ⟨a5, a6⟩, a7, a8⟩ := hD
  rw [zsI_W]
  refine ⟨⟨by rw [zsW_n _ _ (by omega)]; exact a1, a2⟩, ⟨by rw [zsW_n _ _ (by omega)]; exact a3, a4⟩, ⟨fun r hr => ?_, fun j hj => ?_⟩, fun p hp => ?_, fun j k1 k2 => ?_⟩
  · rw [zsW_s, zup_n _ _ (by omega), zup_n _ _ (by omega), zup_n _ _ (by omega)]; exact a5 r hr
  · rw [zsW_s]
    show _ = va_up (dT S) k v j
    by_cases e : j = k
    · rw [e, zup_s, zup_s]
    · rw [zup_n _ _ e, zup_n _ _ e]; exact a6 j hj
  · rw [zsW_n _ _ (by omega), zsW_n _ _ (by omega)]; exact a7 p hp
  · rw [zsW_s, zup_n _ _ (by omega)]; exact a8 j k1 k2
def ca_X11_ringTold : ((Nat → Int32) × Nat × zU × zD × Nat × Nat) → List zV := fun (T, n, U, S, y, q) => [vR 20 0 y]
def cp_X11_ringTold : ((Nat → Int32) × Nat × zU × zD × Nat × Nat) → zH → Prop := fun (T, n, U, S, y, q) h => rmR T n U h y ∧ rmD S h y ∧ h.1 y 20 = nI q
def cq_X11_ringTold : ((Nat → Int32) × Nat × zU × zD × Nat × Nat) → zH → Option zV → zH → Prop := fun (T, n, U, S, y, q) h r h' => r = none ∧ lfr y h h' ∧ rmR T n (uR3 T n U (dN S) (nI q)) h' y ∧ ((uR3 T n U (dN S) (nI q)).2.1 = 0 → rmD (aRg S (uNv T n (uR0 U (dN S) (nI q))) (uSv T n (uR1 T n U (dN S) (nI q))) (uNv T n (uR2 T n U (dN S) (nI q)))) h' y)
theorem rc_X11_ringTold : ∀ x : ((Nat → Int32) × Nat × zU × zD × Nat × Nat), ∃ (j a : Nat) (As : List zV), ca_X11_ringTold x = vR (10 + 10) j a :: As := by
  rintro ⟨T, n, U, S, y, q⟩
  exact ⟨_, _, _, rfl⟩
set_option maxHeartbeats 4000000 in
set_option maxRecDepth 100000 in
theorem m_X11_ringTold : zM yX11_ringTold cX11_ringTold 5 none ({ frames := 2, cells := 0, slots := 0, locals := 49 } : Room) ((ca_X11_ringTold, cp_X11_ringTold, cq_X11_ringTold) : zC ((Nat → Int32) × Nat × zU × zD × Nat × Nat)) := by
  refine zM_of (by decide) ?_
  rintro X Y ⟨T, n, U, S, y, q⟩ h ⟨hU, hD, hq⟩ O E hR
  have hU : rmR T n U h y := hU
  have hD : rmD S h y := hD
  have hq : h.1 y 20 = nI q := hq
  have hN10 := hD.1.2
  obtain ⟨U0, eU0⟩ : ∃ U0 : zU, U0 = uR0 U (dN S) (nI q) := ⟨_, rfl⟩
  obtain ⟨U1, eU1⟩ : ∃ U1 : zU, U1 = uNm T n U0 0 9999 := ⟨_, rfl⟩
  obtain ⟨U2, eU2⟩ : ∃ U2 : zU, U2 = uSg T n U1 (-99) 99 := ⟨_, rfl⟩
  obtain ⟨U3, eU3⟩ : ∃ U3 : zU, U3 = uNm T n U2 0 50 := ⟨_, rfl⟩
  have r1 : uR1 T n U (dN S) (nI q) = U1 := by rw [eU1, eU0]; rfl
  have r2 : uR2 T n U (dN S) (nI q) = U2 := by rw [eU2, ← r1]; rfl
  have r3 : uR3 T n U (dN S) (nI q) = U3 := by rw [eU3, ← r2]; rfl
  have B_70 := zr_aload_n (X := X) (Y := Y) (u := 0) (v := 0) O dX11_ringTold_70 rfl (zr_gS (ci := 10) (j := 3) (off := 3) (t := 1) (n := 218) O zc_10 (by decide) rfl tw_1190 dX11_ringTold_71 (zr_iload_n O dX11_ringTold_74 rfl (zr_iload_n O dX11_ringTold_75 rfl (zr_iast O dX11_ringTold_76 (zr_aload_n O dX11_ringTold_77 rfl (zr_gS (ci := 10) (j := 3) (off := 3) (t := 1) (n := 218) O zc_10 (by decide) rfl tw_1190 dX11_ringTold_78 (zr_iload_n O dX11_ringTold_81 rfl (zr_iconst (x := 1) O dX11_ringTold_82 rfl (zr_iadd O dX11_ringTold_83 (zr_iload_n O dX11_ringTold_84 rfl (zr_iast O dX11_ringTold_85 (zr_aload_n O dX11_ringTold_86 rfl (zr_gS (ci := 10) (j := 3) (off := 3) (t := 1) (n := 218) O zc_10 (by decide) rfl tw_1190 dX11_ringTold_87 (zr_iload_n O dX11_ringTold_90 rfl (zr_iconst (x := 2) O dX11_ringTold_91 rfl (zr_iadd O dX11_ringTold_92 (zr_iload O dX11_ringTold_93 (zr_iast O dX11_ringTold_95 (zr_aload_n O dX11_ringTold_96 rfl (zr_dup O dX11_ringTold_97 (zr_gI (ci := 10) (j := 24) O zc_10 (by decide) rfl tw_1211 dX11_ringTold_98 (zr_iconst (x := 1) O dX11_ringTold_101 rfl (zr_iadd O dX11_ringTold_102 (zr_pI (ci := 10) (j := 24) O zc_10 (by decide) rfl rfl rfl tw_1211 dX11_ringTold_103 (zr_return O E (Nat.le_refl _) (Nat.le_refl _) dX11_ringTold_106)))))))))))))))))))))))))
  have B_18 := zr_iconst (X := X) (Y := Y) (u := 0) (v := 0) (x := 5) O dX11_ringTold_18 rfl (zr_iconst (x := 3) O dX11_ringTold_19 rfl (zr_aload_n O dX11_ringTold_20 rfl (zr_gI (ci := 10) (j := 24) O zc_10 (by decide) rfl tw_1211 dX11_ringTold_21 (zr_bipush (x := (9)) O dX11_ringTold_24 (by decide) (zr_min O zwm tw_1339 (zrm hR rfl rfl) dX11_ringTold_26 (zr_imul O dX11_ringTold_29 (zr_iadd O dX11_ringTold_30 (zr_istore_n O dX11_ringTold_31 rfl (zr_aload_n O dX11_ringTold_32 rfl (zr_iconst (x := 0) O dX11_ringTold_33 rfl (zr_sipush (x := (9999)) O dX11_ringTold_34 (by decide) (zr_iconst (x := 0) O dX11_ringTold_37 rfl (zr_cV (ci := 10) (n := 3) O m_X11_number (bn_X11_number _ ⟨rfl, rfl⟩) vw_X11_number tw_1340 rc_X11_number (zrm hR rfl rfl) dX11_ringTold_38 (zr_istore_n O dX11_ringTold_41 rfl (zr_aload_n O dX11_ringTold_42 rfl (zr_bipush (x := (-99)) O dX11_ringTold_43 (by decide) (zr_bipush (x := (99)) O dX11_ringTold_45 (by decide) (zr_iconst (x := 1) O dX11_ringTold_47 rfl (zr_cV (ci := 10) (n := 3) O m_X11_number (bn_X11_number _ ⟨rfl, rfl⟩) vw_X11_number tw_1340 rc_X11_number (zrm hR rfl rfl) dX11_ringTold_48 (zr_istore_n O dX11_ringTold_51 rfl (zr_aload_n O dX11_ringTold_52 rfl (zr_iconst (x := 0) O dX11_ringTold_53 rfl (zr_bipush (x := (50)) O dX11_ringTold_54 (by decide) (zr_iconst (x := 0) O dX11_ringTold_56 rfl (zr_cV (ci := 10) (n := 3) O m_X11_number (bn_X11_number _ ⟨rfl, rfl⟩) vw_X11_number tw_1340 rc_X11_number (zrm hR rfl rfl) dX11_ringTold_57 (zr_istore O dX11_ringTold_60 (zr_aload_n O dX11_ringTold_62 rfl (zr_gI (ci := 10) (j := 21) O zc_10 (by decide) rfl tw_1208 dX11_ringTold_63 (zr_ifle (tgt := 70) O dX11_ringTold_66 rfl B_70 (zr_return O E (Nat.le_refl _) (Nat.le_refl _) dX11_ringTold_69))))))))))))))))))))))))))))))
  have C_18 : zSd X Y 0 0 18 (fun ls st h1 => ls = [some (vR 20 0 y), none, none, none, none] ∧ st = [] ∧ rfr y h h1 ∧ rmR T n U0 h1 y) := by
    refine zSd_weak B_18 (fun ls st h1 t => ?_)
    obtain ⟨rfl, rfl, f0, w0⟩ := t
    have hD0 := rmD_r f0 hD
    refine ⟨(T, n, U0, y, 0, 9999, false), rfl, ⟨w0, by decide, by decide⟩, fun r h2 hq1 => ?_⟩
    obtain ⟨v1, rfl, f1, w1, x1⟩ := hq1
    replace f1 : rfr y h1 h2 := f1
    replace w1 : rmR T n (uNm T n U0 0 9999) h2 y := w1
    replace x1 : (uNm T n U0 0 9999).2.1 = 0 → v1 = uNv T n U0 ∧ h2.1 y 26 = (uNm T n U0 0 9999).2.2.2 := x1
    rw [← eU1] at w1 x1
    refine ⟨(T, n, U1, y, -99, 99, true), rfl, ⟨w1, by decide, by decide⟩, fun r h3 hq2 => ?_⟩
    obtain ⟨v2, rfl, f2, w2, x2⟩ := hq2
    replace f2 : rfr y h2 h3 := f2
    replace w2 : rmR T n (uSg T n U1 (-99) 99) h3 y := w2
    replace x2 : (uSg T n U1 (-99) 99).2.1 = 0 → v2 = uSv T n U1 ∧ h3.1 y 26 = (uSg T n U1 (-99) 99).2.2.2 := x2
    rw [← eU2] at w2 x2
    refine ⟨(T, n, U2, y, 0, 50, false), rfl, ⟨w2, by decide, by decide⟩, fun r h4 hq3 => ?_⟩
    obtain ⟨v3, rfl, f3, w3, x3⟩ := hq3
    replace f3 : rfr y h3 h4 := f3
    replace w3 : rmR T n (uNm T n U2 0 50) h4 y := w3
    replace x3 : (uNm T n U2 0 50).2.1 = 0 → v3 = uNv T n U2 ∧ h4.1 y 26 = (uNm T n U2 0 50).2.2.2 := x3
    rw [← eU3] at w3 x3
    have ft := rfr_t f0 (rfr_t f1 (rfr_t f2 f3))
    have hD4 := rmD_r ft hD
    have hz := (rmR_0 w3).1
    refine ⟨fun c => ?_, fun c => ⟨rfl, lfr_f ft, by rw [r3]; exact w3, fun z => absurd (hz.mpr (by rw [r3] at z; exact z)) c⟩⟩
    have z3 := hz.mp c
    have z2 : U2.2.1 = 0 := (uNm_0 (by rw [← eU3]; exact z3)).1
    have z1 : U1.2.1 = 0 := (uSg_0 (by rw [← eU2]; exact z2)).1
    have z0 : U0.2.1 = 0 := (uNm_0 (by rw [← eU1]; exact z1)).1
    have hn9 : dN S ≠ 10 := fun z => by
      rw [eU0, uR0, if_pos z] at z0
      exact uF_ne (by decide) z0
    have emin : mn2 (nI (dN S)) 9 = nI (dN S) := by
      unfold mn2
      exact if_neg (fun z => absurd ((nI_ltI (a := 9) (b := dN S) (by decide) (by omega)).mp z) (by omega))
    have ei : (5 : Int32) + 3 * mn2 (h1.1 y 24) 9 = nI (5 + 3 * dN S) := by rw [hD0.1.1, emin]; exact i53 _
    have e24 : h4.1 y 24 = nI (dN S) := hD4.1.1
    refine ⟨5 + 3 * dN S, ei, by omega, 5 + 3 * dN S + 1, by rw [show (5 : Int32) + 3 * (if (9 : Int32) < h1.1 y 24 then 9 else h1.1 y 24) = nI (5 + 3 * dN S) from ei]; exact nI_1 _, by omega, 5 + 3 * dN S + 2, by rw [show (5 : Int32) + 3 * (if (9 : Int32) < h1.1 y 24 then 9 else h1.1 y 24) = nI (5 + 3 * dN S) from ei]; exact nI_add _ 2, by omega, rfl, ?_⟩
    have eh : zsI (zsI (zsI (zsI h4 (y + 3) (5 + 3 * dN S) v1) (y + 3) (5 + 3 * dN S + 1) v2) (y + 3) (5 + 3 * dN S + 2) v3) y 24 ((zsI (zsI (zsI h4 (y + 3) (5 + 3 * dN S) v1) (y + 3) (5 + 3 * dN S + 1) v2) (y + 3) (5 + 3 * dN S + 2) v3).1 y 24 + 1) = zsW (zsW h4 (y + 3) (va_up (va_up (va_up (h4.1 (y + 3)) (5 + 3 * dN S) v1) (5 + 3 * dN S + 1) v2) (5 + 3 * dN S + 2) v3)) y (va_up (h4.1 y) 24 (nI (dN S + 1))) := by
      rw [zsI_W h4, zsI_W (zsW h4 _ _), zsW_W, zsW_s, zsI_W (zsW h4 _ _), zsW_W, zsW_s, zsI_W, zsW_n _ _ (by omega : y ≠ y + 3), e24, nI_1]
    rw [eh]
    refine ⟨lfr_t (lfr_f ft) (lfr_t (lfr_W (j := 3) h4 (va_up (va_up (va_up (h4.1 (y + 3)) (5 + 3 * dN S) v1) (5 + 3 * dN S + 1) v2) (5 + 3 * dN S + 2) v3) (by decide)) ?_), ?_, fun _ => ?_⟩
    · have := lfr_I (y := y) (k := 24) (zsW h4 (y + 3) (va_up (va_up (va_up (h4.1 (y + 3)) (5 + 3 * dN S) v1) (5 + 3 * dN S + 1) v2) (5 + 3 * dN S + 2) v3)) (nI (dN S + 1)) (by decide) (by decide) (by decide)
      rw [zsI_W, zsW_n _ _ (by omega : y ≠ y + 3)] at this
      exact this
    · rw [r3]
      have := rmR_I (k := 24) (v := nI (dN S + 1)) (by decide) (rmR_W (j := 3) (f := va_up (va_up (va_up (h4.1 (y + 3)) (5 + 3 * dN S) v1) (5 + 3 * dN S + 1) v2) (5 + 3 * dN S + 2) v3) (by decide) (by decide) w3)
      rw [zsI_W, zsW_n _ _ (by omega : y ≠ y + 3)] at this
      exact this
    · rw [← eU0, r1, r2, ← (x1 z1).1, ← (x2 z2).1, ← (x3 z3).1]
      exact rmD_ring v1 v2 v3 (by omega) hD4
  have B_0 := zr_aload_n (X := X) (Y := Y) (u := 0) (v := 0) O dX11_ringTold_0 rfl (zr_gI (ci := 10) (j := 24) O zc_10 (by decide) rfl tw_1211 dX11_ringTold_1 (zr_bipush (x := (10)) O dX11_ringTold_4 (by decide) (zr_icne (tgt := 18) O dX11_ringTold_6 rfl C_18 (zr_aload_n O dX11_ringTold_9 rfl (zr_iconst (x := 3) O dX11_ringTold_10 rfl (zr_aload_n O dX11_ringTold_11 rfl (zr_gI (ci := 10) (j := 20) O zc_10 (by decide) rfl tw_1207 dX11_ringTold_12 (zr_cVv (zr_cV (ci := 10) (n := 2) O m_X11_wrong (bn_X11_wrong _ ⟨rfl, rfl⟩) vw_X11_wrong tw_1335 rc_X11_wrong (zrm hR rfl rfl) dX11_ringTold_15 (C_18))))))))))
  refine ⟨rfl, Nat.le_of_ble_eq_true rfl, _, B_0, ?_⟩
  have wr := rmR_wr (k := 3) (by decide) (nI q) hU
  refine ⟨fun c => ⟨rfl, rfl, rfr_r y h, ?_⟩, fun c => ⟨(y, 3, nI q), by rw [hq]; rfl, trivial, rfl, rfl, wr.2, ?_⟩⟩
  · rw [hD.1.1] at c
    rw [eU0, uR0, if_neg (fun z => c (by rw [z]; rfl))]; exact hU
  · rw [hD.1.1] at c
    have e10 : dN S = 10 := (nI_eq (b := 10) (by omega) (by decide)).mp c
    rw [eU0, uR0, if_pos e10]; exact wr.1
def ca_X11_heatsTold : ((Nat → Int32) × Nat × zU × zD × Nat) → List zV := fun (T, n, U, S, y) => [vR 20 0 y]
def cp_X11_heatsTold : ((Nat → Int32) × Nat × zU × zD × Nat) → zH → Prop := fun (T, n, U, S, y) h => rmR T n U h y ∧ rmD S h y
def cq_X11_heatsTold : ((Nat → Int32) × Nat × zU × zD × Nat) → zH → Option zV → zH → Prop := fun (T, n, U, S, y) h r h' => r = none ∧ lfr y h h' ∧ rmR T n (uSg T n (uSg T n U (-40) 125) (uSv T n U) 125) h' y ∧ ((uSg T n (uSg T n U (-40) 125) (uSv T n U) 125).2.1 = 0 → rmD (aSt (aSt S 1 (uSv T n U)) 2 (uSv T n (uSg T n U (-40) 125))) h' y)
theorem rc_X11_heatsTold : ∀ x : ((Nat → Int32) × Nat × zU × zD × Nat), ∃ (j a : Nat) (As : List zV), ca_X11_heatsTold x = vR (10 + 10) j a :: As := by
  rintro ⟨T, n, U, S, y⟩
  exact ⟨_, _, _, rfl⟩
set_option maxHeartbeats 4000000 in
set_option maxRecDepth 100000 in
theorem m_X11_heatsTold : zM yX11_heatsTold cX11_heatsTold 1 none ({ frames := 2, cells := 0, slots := 0, locals := 49 } : Room) ((ca_X11_heatsTold, cp_X11_heatsTold, cq_X11_heatsTold) : zC ((Nat → Int32) × Nat × zU × zD × Nat)) := by
  refine zM_of (by decide) ?_
  rintro X Y ⟨T, n, U, S, y⟩ h ⟨hU, hD⟩ O E hR
  have hU : rmR T n U h y := hU
  have hD : rmD S h y := hD
  obtain ⟨U1, eU1⟩ : ∃ U1 : zU, U1 = uSg T n U (-40) 125 := ⟨_, rfl⟩
  have B_39 := zr_bipush (X := X) (Y := Y) (u := 0) (v := 0) (x := (125)) O dX11_heatsTold_39 (by decide) (zr_iconst (x := 1) O dX11_heatsTold_41 rfl (zr_cV (ci := 10) (n := 3) O m_X11_number (bn_X11_number _ ⟨rfl, rfl⟩) vw_X11_number tw_1340 rc_X11_number (zrm hR rfl rfl) dX11_heatsTold_42 (zr_iast O dX11_heatsTold_45 (zr_return O E (Nat.le_refl _) (Nat.le_refl _) dX11_heatsTold_46))))
  have C_39 : zSd X Y 0 0 39 (fun ls st h1 => ∃ v w : Int32, ls = [some (vR 20 0 y)] ∧ st = [vI w, vR 20 0 y, vI 2, vR 1 218 (y + 3)] ∧ lfr y h h1 ∧ rmR T n U1 h1 y ∧ (U1.2.1 = 0 → v = uSv T n U ∧ w = v ∧ rmD (aSt S 1 v) h1 y) ∧ (-10000 ≤ w)) := by
    refine zSd_weak B_39 (fun ls st h1 t => ?_)
    obtain ⟨v, w, rfl, rfl, f1, w1, x1, hlo⟩ := t
    refine ⟨(T, n, U1, y, w, 125, true), rfl, ⟨w1, hlo, by decide⟩, fun r h3 hq2 => ?_⟩
    obtain ⟨v2, rfl, f2, w2, x2⟩ := hq2
    replace f2 : rfr y h1 h3 := f2
    replace w2 : rmR T n (uSg T n U1 w 125) h3 y := w2
    replace x2 : (uSg T n U1 w 125).2.1 = 0 → v2 = uSv T n U1 ∧ h3.1 y 26 = (uSg T n U1 w 125).2.2.2 := x2
    have w3 : rmR T n (uSg T n U1 (uSv T n U) 125) h3 y := by
      by_cases hz : U1.2.1 = 0
      · obtain ⟨a1, a2, -⟩ := x1 hz
        rw [a2, a1] at w2
        exact w2
      · obtain ⟨k1, k2⟩ := nbU_k (T := T) (n := n) hz w 125 true
        obtain ⟨k3, k4⟩ := nbU_k (T := T) (n := n) hz (uSv T n U) 125 true
        exact rmR_k (U := nbU T n U1 w 125 true) (V := nbU T n U1 (uSv T n U) 125 true) (by rw [k1]; exact hz) (by rw [k1, k3]) (by rw [k2, k4]) w2
    refine ⟨2, rfl, by decide, rfl, ?_, ?_, fun z => ?_⟩
    · rw [zsI_W]
      exact lfr_t f1 (lfr_t (lfr_f f2) (lfr_W (j := 3) _ _ (by decide)))
    · rw [zsI_W]
      exact rmR_W (j := 3) (by decide) (by decide) (by rw [← eU1]; exact w3)
    · rw [← eU1] at z
      have z1 := (uSg_0 z).1
      obtain ⟨a1, a2, a3⟩ := x1 z1
      have z2 : (uSg T n U1 w 125).2.1 = 0 := by rw [a2, a1]; exact z
      rw [← eU1, ← (x2 z2).1, ← a1]
      exact rmD_set v2 (by decide) (rmD_r f2 a3)
  have B_37 := zr_bipush (X := X) (Y := Y) (u := 0) (v := 0) (x := (-40)) O dX11_heatsTold_37 (by decide) (C_39)
  have B_0 := zr_aload_n (X := X) (Y := Y) (u := 0) (v := 0) O dX11_heatsTold_0 rfl (zr_gS (ci := 10) (j := 3) (off := 3) (t := 1) (n := 218) O zc_10 (by decide) rfl tw_1190 dX11_heatsTold_1 (zr_iconst (x := 1) O dX11_heatsTold_4 rfl (zr_aload_n O dX11_heatsTold_5 rfl (zr_bipush (x := (-40)) O dX11_heatsTold_6 (by decide) (zr_bipush (x := (125)) O dX11_heatsTold_8 (by decide) (zr_iconst (x := 1) O dX11_heatsTold_10 rfl (zr_cV (ci := 10) (n := 3) O m_X11_number (bn_X11_number _ ⟨rfl, rfl⟩) vw_X11_number tw_1340 rc_X11_number (zrm hR rfl rfl) dX11_heatsTold_11 (zr_iast O dX11_heatsTold_14 (zr_aload_n O dX11_heatsTold_15 rfl (zr_gS (ci := 10) (j := 3) (off := 3) (t := 1) (n := 218) O zc_10 (by decide) rfl tw_1190 dX11_heatsTold_16 (zr_iconst (x := 2) O dX11_heatsTold_19 rfl (zr_aload_n O dX11_heatsTold_20 rfl (zr_aload_n O dX11_heatsTold_21 rfl (zr_gI (ci := 10) (j := 21) O zc_10 (by decide) rfl tw_1208 dX11_heatsTold_22 (zr_ifne (tgt := 37) O dX11_heatsTold_25 rfl B_37 (zr_aload_n O dX11_heatsTold_28 rfl (zr_gS (ci := 10) (j := 3) (off := 3) (t := 1) (n := 218) O zc_10 (by decide) rfl tw_1190 dX11_heatsTold_29 (zr_iconst (x := 1) O dX11_heatsTold_32 rfl (zr_iald O dX11_heatsTold_33 (zr_goto (tgt := 39) O dX11_heatsTold_34 rfl C_39))))))))))))))))))))
  refine ⟨rfl, Nat.le_of_ble_eq_true rfl, _, B_0, ?_⟩
  refine ⟨(T, n, U, y, -40, 125, true), rfl, ⟨hU, by decide, by decide⟩, fun r h2 hq1 => ?_⟩
  obtain ⟨v1, rfl, f1, w1, x1⟩ := hq1
  replace f1 : rfr y h h2 := f1
  replace w1 : rmR T n (uSg T n U (-40) 125) h2 y := w1
  replace x1 : (uSg T n U (-40) 125).2.1 = 0 → v1 = uSv T n U ∧ h2.1 y 26 = (uSg T n U (-40) 125).2.2.2 := x1
  rw [← eU1] at w1 x1
  have w2 : rmR T n U1 (zsI h2 (y + 3) 1 v1) y := by rw [zsI_W]; exact rmR_W (j := 3) (by decide) (by decide) w1
  have f2 : lfr y h (zsI h2 (y + 3) 1 v1) := by rw [zsI_W]; exact lfr_t (lfr_f f1) (lfr_W (j := 3) _ _ (by decide))
  have hz := (rmR_0 w2).2
  refine ⟨1, rfl, by decide, fun c => ?_, fun c => ⟨1, rfl, by decide, ?_⟩⟩
  · exact ⟨v1, -40, rfl, rfl, f2, w2, fun z => absurd (hz.mpr z) c, by decide⟩
  · have z1 := hz.mp c
    obtain ⟨a1, -⟩ := x1 z1
    have hr := (uSg_0 (by rw [← eU1]; exact z1)).2.1
    refine ⟨v1, _, rfl, rfl, f2, w2, fun _ => ⟨a1, zsI_me _ _ _ _, rmD_set v1 (by decide) (rmD_r f1 hD)⟩, ?_⟩
    rw [zsI_me, a1]
    exact Int32.le_trans (by decide) hr
theorem odd_7 : ∀ k : Nat, k < 8 → 1 ≤ k → (nI k - nI k / 2 * 2 = 0 ↔ isR (nI k) = false) := by decide +kernel
def ca_X11_repeatTold : ((Nat → Int32) × Nat × zU × zD × Nat) → List zV := fun (T, n, U, S, y) => [vR 20 0 y]
def cp_X11_repeatTold : ((Nat → Int32) × Nat × zU × zD × Nat) → zH → Prop := fun (T, n, U, S, y) h => rmR T n U h y ∧ rmD S h y
def cq_X11_repeatTold : ((Nat → Int32) × Nat × zU × zD × Nat) → zH → Option zV → zH → Prop := fun (T, n, U, S, y) h r h' => r = none ∧ lfr y h h' ∧ rmR T n (uRp T n U) h' y ∧ ((uRp T n U).2.1 = 0 → rmD (aSt S 4 (uNv T n U)) h' y)
theorem rc_X11_repeatTold : ∀ x : ((Nat → Int32) × Nat × zU × zD × Nat), ∃ (j a : Nat) (As : List zV), ca_X11_repeatTold x = vR (10 + 10) j a :: As := by
  rintro ⟨T, n, U, S, y⟩
  exact ⟨_, _, _, rfl⟩
set_option maxHeartbeats 4000000 in
set_option maxRecDepth 100000 in
theorem m_X11_repeatTold : zM yX11_repeatTold cX11_repeatTold 2 none ({ frames := 2, cells := 0, slots := 0, locals := 49 } : Room) ((ca_X11_repeatTold, cp_X11_repeatTold, cq_X11_repeatTold) : zC ((Nat → Int32) × Nat × zU × zD × Nat)) := by
  refine zM_of (by decide) ?_
  rintro X Y ⟨T, n, U, S, y⟩ h ⟨hU, hD⟩ O E hR
  have hU : rmR T n U h y := hU
  have hD : rmD S h y := hD
  obtain ⟨U1, eU1⟩ : ∃ U1 : zU, U1 = uNm T n U 1 7 := ⟨_, rfl⟩
  have eRp : uRp T n U = if isR (uNv T n U) then U1 else uF U1 2 U1.2.2.2 := by rw [uRp, ← eU1]
  have rng : U1.2.1 = 0 → ∃ k, k < 8 ∧ 1 ≤ k ∧ uNv T n U = nI k := fun z => by
    obtain ⟨-, q1, q2⟩ := uNm_0 (by rw [← eU1]; exact z)
    obtain ⟨e1, e2⟩ := nI_out (m := 7) (by decide) (Int32.le_trans (by decide) q1) q2
    refine ⟨_, by omega, ?_, e1⟩
    rw [e1] at q1
    exact (nI_leI (a := 1) (by decide) (by omega)).mp q1
  have B_31 := zr_aload_n (X := X) (Y := Y) (u := 0) (v := 0) O dX11_repeatTold_31 rfl (zr_gS (ci := 10) (j := 3) (off := 3) (t := 1) (n := 218) O zc_10 (by decide) rfl tw_1190 dX11_repeatTold_32 (zr_iconst (x := 4) O dX11_repeatTold_35 rfl (zr_iload_n O dX11_repeatTold_36 rfl (zr_iast O dX11_repeatTold_37 (zr_return O E (Nat.le_refl _) (Nat.le_refl _) dX11_repeatTold_38)))))
  have C_31 : zSd X Y 0 0 31 (fun ls st h1 => ∃ v : Int32, ls = [some (vR 20 0 y), some (vI v)] ∧ st = [] ∧ rfr y h h1 ∧ rmR T n (uRp T n U) h1 y ∧ ((uRp T n U).2.1 = 0 → v = uNv T n U)) := by
    refine zSd_weak B_31 (fun ls st h1 t => ?_)
    obtain ⟨v, rfl, rfl, f1, w1, x1⟩ := t
    refine ⟨4, rfl, by decide, rfl, ?_, ?_, fun z => ?_⟩
    · rw [zsI_W]
      exact lfr_t (lfr_f f1) (lfr_W (j := 3) _ _ (by decide))
    · rw [zsI_W]
      exact rmR_W (j := 3) (by decide) (by decide) w1
    · rw [← x1 z]
      exact rmD_set v (by decide) (rmD_r f1 hD)
  have B_0 := zr_aload_n (X := X) (Y := Y) (u := 0) (v := 0) O dX11_repeatTold_0 rfl (zr_iconst (x := 1) O dX11_repeatTold_1 rfl (zr_bipush (x := (7)) O dX11_repeatTold_2 (by decide) (zr_iconst (x := 0) O dX11_repeatTold_4 rfl (zr_cV (ci := 10) (n := 3) O m_X11_number (bn_X11_number _ ⟨rfl, rfl⟩) vw_X11_number tw_1340 rc_X11_number (zrm hR rfl rfl) dX11_repeatTold_5 (zr_istore_n O dX11_repeatTold_8 rfl (zr_aload_n O dX11_repeatTold_9 rfl (zr_gI (ci := 10) (j := 21) O zc_10 (by decide) rfl tw_1208 dX11_repeatTold_10 (zr_ifne (tgt := 31) O dX11_repeatTold_13 rfl C_31 (zr_iload_n O dX11_repeatTold_16 rfl (zr_iconst (x := 2) O dX11_repeatTold_17 rfl (zr_irem O dX11_repeatTold_18 (zr_ifne (tgt := 31) O dX11_repeatTold_19 rfl C_31 (zr_aload_n O dX11_repeatTold_22 rfl (zr_iconst (x := 2) O dX11_repeatTold_23 rfl (zr_aload_n O dX11_repeatTold_24 rfl (zr_gI (ci := 10) (j := 26) O zc_10 (by decide) rfl tw_1213 dX11_repeatTold_25 (zr_cVv (zr_cV (ci := 10) (n := 2) O m_X11_wrong (bn_X11_wrong _ ⟨rfl, rfl⟩) vw_X11_wrong tw_1335 rc_X11_wrong (zrm hR rfl rfl) dX11_repeatTold_28 (C_31)))))))))))))))))))
  refine ⟨rfl, Nat.le_of_ble_eq_true rfl, _, B_0, ?_⟩
  refine ⟨(T, n, U, y, 1, 7, false), rfl, ⟨hU, by decide, by decide⟩, fun r h2 hq1 => ?_⟩
  obtain ⟨v1, rfl, f1, w1, x1⟩ := hq1
  replace f1 : rfr y h h2 := f1
  replace w1 : rmR T n (uNm T n U 1 7) h2 y := w1
  replace x1 : (uNm T n U 1 7).2.1 = 0 → v1 = uNv T n U ∧ h2.1 y 26 = (uNm T n U 1 7).2.2.2 := x1
  rw [← eU1] at w1 x1
  have hz := (rmR_0 w1).2
  refine ⟨fun c => ?_, fun c => ⟨by decide, fun c2 => ?_, fun c2 => ?_⟩⟩
  · have z1 : ¬ U1.2.1 = 0 := fun z => c (hz.mpr z)
    refine ⟨v1, rfl, rfl, f1, ?_, fun z => ?_⟩
    · rw [eRp]
      split
      · exact w1
      · rw [uF_k z1]; exact w1
    · rw [eRp] at z
      split at z
      · exact absurd z z1
      · rw [uF_k z1] at z; exact absurd z z1
  · have z1 := hz.mp c
    obtain ⟨k, k8, k1, ek⟩ := rng z1
    obtain ⟨a1, -⟩ := x1 z1
    rw [a1, ek] at c2
    have hR : isR (uNv T n U) = true := by
      rw [ek]
      cases hy : isR (nI k) with
      | true => rfl
      | false => exact absurd ((odd_7 k k8 k1).mpr hy) c2
    refine ⟨v1, rfl, rfl, f1, ?_, fun _ => a1⟩
    rw [eRp, hR]; exact w1
  · have z1 := hz.mp c
    obtain ⟨k, k8, k1, ek⟩ := rng z1
    obtain ⟨a1, a2⟩ := x1 z1
    rw [a1, ek] at c2
    have hR : isR (uNv T n U) = false := by rw [ek]; exact (odd_7 k k8 k1).mp c2
    have wr := rmR_wr (k := 2) (by decide) U1.2.2.2 w1
    refine ⟨(y, 2, U1.2.2.2), by rw [a2]; rfl, trivial, v1, rfl, rfl, rfr_t f1 wr.2, ?_, fun _ => a1⟩
    rw [eRp, hR]; exact wr.1

