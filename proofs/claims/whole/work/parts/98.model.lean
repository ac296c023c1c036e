/-! the law's cases: changes -/
theorem vS_aSt {S : zD} {w v : Int32} (hv : vS S) (h1 : gR w 0 4) (h2 : okS S w v) : vS (aSt S (cN w) v) := by
  obtain ⟨j, rfl, hj, e⟩ := rngx (n := 4) (by omega) h1
  rw [e]
  have z40 : (-40 : Int32).toInt = -40 := by decide
  have z125 : (125 : Int32).toInt = 125 := by decide
  have z999 : (999 : Int32).toInt = 999 := by decide
  have z0 : (0 : Int32).toInt = 0 := by decide
  rcases (show j = 0 ∨ j = 1 ∨ j = 2 ∨ j = 3 ∨ j = 4 by omega) with rfl | rfl | rfl | rfl | rfl
  · have h2 : gR v 0 999 := h2
    have := rng_i h2
    rw [z0, z999] at this
    exact vS_set hv (fun _ => this) (by omega) (fun z => by omega) (fun z => by omega)
  · have h2 : gR v (-40) (dT S 2) := h2
    have := rng_i h2
    rw [z40] at this
    obtain ⟨a1, a2, a3, a4, a5, a6, a7⟩ := hv
    exact ⟨a1, a2, a3, ⟨this.1, this.2, a4.2.2⟩, a5, a6, a7⟩
  · have h2 : gR v (dT S 1) 125 := h2
    have := rng_i h2
    rw [z125] at this
    obtain ⟨a1, a2, a3, a4, a5, a6, a7⟩ := hv
    exact ⟨a1, a2, a3, ⟨a4.1, this.1, this.2⟩, a5, a6, a7⟩
  · have h2 : gR v 0 1 := h2
    obtain ⟨i, rfl, hi, -⟩ := rngx (n := 1) (by omega) h2
    refine vS_set hv (fun z => by omega) (by omega) (fun _ => ?_) (fun z => by omega)
    rcases (show i = 0 ∨ i = 1 by omega) with rfl | rfl
    · exact Or.inl rfl
    · exact Or.inr rfl
  · have h2 : v = 0 ∨ (v = 1 ∨ v = 3 ∨ v = 5 ∨ v = 7) := h2
    refine vS_set hv (fun z => by omega) (by omega) (fun z => by omega) (fun _ => ?_)
    rcases h2 with rfl | rfl | rfl | rfl | rfl
    · exact ⟨Or.inl (by decide), by decide⟩
    · exact ⟨Or.inr (Or.inl (by decide)), by decide⟩
    · exact ⟨Or.inr (Or.inr (Or.inl (by decide))), by decide⟩
    · exact ⟨Or.inr (Or.inr (Or.inr (Or.inl (by decide)))), by decide⟩
    · exact ⟨Or.inr (Or.inr (Or.inr (Or.inr (by decide)))), by decide⟩
theorem vS_aTr {S : zD} {w i v : Int32} (hv : vS S) (h1 : gR w 0 2) (h2 : okT w v) : vS (aTr S (cN w) (cN i) v) := by
  obtain ⟨j, rfl, hj, e⟩ := rngx (n := 2) (by omega) h1
  rw [e]
  generalize cN i = k
  have z0 : (0 : Int32).toInt = 0 := by decide
  have z9999 : (9999 : Int32).toInt = 9999 := by decide
  have zm99 : (-99 : Int32).toInt = -99 := by decide
  have z99 : (99 : Int32).toInt = 99 := by decide
  have z50 : (50 : Int32).toInt = 50 := by decide
  obtain ⟨a1, a2, a3, a4, a5, a6, a7⟩ := hv
  rcases (show j = 0 ∨ j = 1 ∨ j = 2 by omega) with rfl | rfl | rfl
  · have h2 : 0 ≤ v ∧ v ≤ 9999 := h2
    have := rng_i h2
    rw [z0, z9999] at this
    refine ⟨fun r hr => ?_, a2, a3, a4, a5, a6, a7⟩
    show (0 ≤ (va_up (dB S) k v r).toInt ∧ (va_up (dB S) k v r).toInt ≤ 9999) ∧ (-99 ≤ (dD S r).toInt ∧ (dD S r).toInt ≤ 99) ∧ 0 ≤ (dZ S r).toInt ∧ (dZ S r).toInt ≤ 50
    by_cases e : r = k
    · rw [e, zup_s, ← e]; exact ⟨this, (a1 r hr).2⟩
    · rw [zup_n _ _ e]; exact a1 r hr
  · have h2 : -99 ≤ v ∧ v ≤ 99 := h2
    have := rng_i h2
    rw [zm99, z99] at this
    refine ⟨fun r hr => ?_, a2, a3, a4, a5, a6, a7⟩
    show (0 ≤ (dB S r).toInt ∧ (dB S r).toInt ≤ 9999) ∧ (-99 ≤ (va_up (dD S) k v r).toInt ∧ (va_up (dD S) k v r).toInt ≤ 99) ∧ 0 ≤ (dZ S r).toInt ∧ (dZ S r).toInt ≤ 50
    by_cases e : r = k
    · rw [e, zup_s, ← e]; exact ⟨(a1 r hr).1, this, (a1 r hr).2.2⟩
    · rw [zup_n _ _ e]; exact a1 r hr
  · have h2 : 0 ≤ v ∧ v ≤ 50 := h2
    have := rng_i h2
    rw [z0, z50] at this
    refine ⟨fun r hr => ?_, a2, a3, a4, a5, a6, a7⟩
    show (0 ≤ (dB S r).toInt ∧ (dB S r).toInt ≤ 9999) ∧ (-99 ≤ (dD S r).toInt ∧ (dD S r).toInt ≤ 99) ∧ 0 ≤ (va_up (dZ S) k v r).toInt ∧ (va_up (dZ S) k v r).toInt ≤ 50
    by_cases e : r = k
    · rw [e, zup_s, ← e]; exact ⟨(a1 r hr).1, (a1 r hr).2.1, this⟩
    · rw [zup_n _ _ e]; exact a1 r hr
theorem vQ_hcn {Q : zQ} {Hs : Nat → zQ} {c : Nat} (hv : vQ Q) (hh : ∀ i, i < c → vQ (Hs i)) : ∀ i, i < min (c + 1) 12 → vQ (hcn Q Hs i) := by
  intro i hi
  rcases i with _ | i
  · exact hv
  · exact hh i (by omega)
section JC
variable {x tl : Nat} {Q : zQ} {Hs : Nat → zQ} {c p k0 : Nat} {π : Nat → Nat} {h : zH}
/-- what a change that is accepted asks -/
theorem J_a {h0 h2 : zH} {w : zV} {Q' : zQ} {p' : Nat} (hJ : JJ x (Q, Hs, c, p, k0, π) tl h) (hv : vQ Q') (ac : rpZ (Q', hcn Q Hs, min (c + 1) 12, p', k0, π) x h0 ∧ mf x h h0) (am : fs (x + 229) (zsL h0 (x + 247) 0 (lvV w)) h2 ∧ rok (x + 229) (zsL h0 (x + 247) 0 (lvV w)) h2 ∧ rmZ (Q', hcn Q Hs, min (c + 1) 12) (x + 229) h2) : h2.1 (x + 229) 0 = 0 ∧ h2.2.1 (x + 247) 0 = lvV w ∧ JE x h2 := by
  obtain ⟨a, b, d⟩ := J_ch hJ ac.1 ac.2 am.1 am.2.1 am.2.2 ⟨hv, vQ_hcn hJ.2.2.1.1 hJ.2.2.1.2⟩
  exact ⟨a, b, _, _, d⟩
theorem cs_set {w v : Int32} (hJ : JJ x (Q, Hs, c, p, k0, π) tl h) : Cw x isI (ca_X10_set, cp_X10_set, cq_X10_set) cx_X10_set [eIA] (ca_X11_set, cp_X11_set, cq_X11_set) (Q, Hs, c, p, k0, π, x, w, v) (Q, Hs, c, x + 229, w, v) h := by
  have hv : vQ Q := hJ.2.2.1.1
  have rm : ∀ h1 : zH, (∀ q, x + 229 ≤ q → h1.1 q = h.1 q) → cp_X11_set (Q, Hs, c, x + 229, w, v) h1 := fun h1 e => J_rm hJ e
  exact ⟨hJ.1, gs1 (G := gR w 0 4 ∧ okS Q.1 w v) (E1 := eIA) (k1 := 1) (w := vI (dT Q.1 (cN w))) (w' := vI (dT Q.1 (cN w))) (w0 := vI 0) (Ac := fun h0 => rpZ ((aSt Q.1 (cN w) v, Q.2.1, Q.2.2), hcn Q Hs, min (c + 1) 12, (p + 1) % 12, k0, π) x h0 ∧ mf x h h0) (Am := fun h1 h2 => fs (x + 229) h1 h2 ∧ rok (x + 229) h1 h2 ∧ rmZ ((aSt Q.1 (cN w) v, Q.2.1, Q.2.2), hcn Q Hs, min (c + 1) 12) (x + 229) h2) hJ (by omega) (fun r h0 z => ⟨z.1, z.2.1, z.2.2⟩) (fun E h1 z => z) (fun h0 ac => rm _ (mf_up ac.2)) (fun j v => rm _ no_up) (fun h1 r h2 z => z.elim (fun y => Or.inl ⟨y.1, ⟨y.2.1, y.2.2.1, y.2.2.2.2⟩, y.2.2.2.1⟩) Or.inr) ⟨⟨_, rfl⟩, ⟨_, rfl⟩⟩ (fun g h0 h2 ac am => ⟨rfl, J_a (Q' := (aSt Q.1 (cN w) v, Q.2.1, Q.2.2)) hJ ⟨vS_aSt hv.1 g.1 g.2, hv.2⟩ ac am⟩)⟩
theorem cs_wear {i w v : Int32} (hJ : JJ x (Q, Hs, c, p, k0, π) tl h) : Cw x isI (ca_X10_wear, cp_X10_wear, cq_X10_wear) cx_X10_wear [eNS, eIA] (ca_X11_wear, cp_X11_wear, cq_X11_wear) (Q, Hs, c, p, k0, π, x, i, w, v) (Q, Hs, c, x + 229, i, w, v) h := by
  have hv : vQ Q := hJ.2.2.1.1
  have rm : ∀ h1 : zH, (∀ q, x + 229 ≤ q → h1.1 q = h.1 q) → cp_X11_wear (Q, Hs, c, x + 229, i, w, v) h1 := fun h1 e => J_rm hJ e
  exact ⟨hJ.1, gs2 (G1 := gC i (dN Q.1)) (G2 := gR w 0 2 ∧ okT w v) (N1 := ¬ gC i (dN Q.1)) (E1 := eNS) (E2 := eIA) (k1 := 0) (k2 := 1) (w := vI (rgv Q (cN i) (cN w))) (w' := vI (rgv Q (cN i) (cN w))) (w0 := vI 0) (Ac := fun h0 => rpZ ((aTr Q.1 (cN w) (cN i) v, Q.2.1, Q.2.2), hcn Q Hs, min (c + 1) 12, (p + 1) % 12, k0, π) x h0 ∧ mf x h h0) (Am := fun h1 h2 => fs (x + 229) h1 h2 ∧ rok (x + 229) h1 h2 ∧ rmZ ((aTr Q.1 (cN w) (cN i) v, Q.2.1, Q.2.2), hcn Q Hs, min (c + 1) 12) (x + 229) h2) hJ id (by decide) (by omega) (by omega) (fun r h0 z => ⟨z.1, z.2.1, z.2.2.1, z.2.2.2⟩) (fun E h1 z => z) (fun h0 ac => rm _ (mf_up ac.2)) (fun j v => rm _ no_up) (fun h1 r h2 z => z.elim (fun y => Or.inl ⟨y.1, y.2.1, ⟨y.2.2.1, y.2.2.2.1, y.2.2.2.2.2⟩, y.2.2.2.2.1⟩) Or.inr) ⟨⟨_, rfl⟩, ⟨_, rfl⟩⟩ (fun g g2 h0 h2 ac am => ⟨rfl, J_a (Q' := (aTr Q.1 (cN w) (cN i) v, Q.2.1, Q.2.2)) hJ ⟨vS_aTr hv.1 g2.1 g2.2, hv.2⟩ ac am⟩)⟩
theorem cs_hear {i : Int32} (hJ : JJ x (Q, Hs, c, p, k0, π) tl h) : Cw x isI (ca_X10_hear, cp_X10_hear, cq_X10_hear) cx_X10_hear [eNS] (ca_X11_hear, cp_X11_hear, cq_X11_hear) (Q, Hs, c, p, k0, π, x, i) (Q, Hs, c, x + 229, i) h := by
  have hv : vQ Q := hJ.2.2.1.1
  have rm : ∀ h1 : zH, (∀ q, x + 229 ≤ q → h1.1 q = h.1 q) → cp_X11_hear (Q, Hs, c, x + 229, i) h1 := fun h1 e => ⟨J_rm hJ e, hv⟩
  refine ⟨⟨hJ.1, hv⟩, gs1 (G := gC i (dP Q.1)) (E1 := eNS) (k1 := 0) (w := vI (pb Q.1 (cN i))) (w' := vI (pb Q.1 (cN i))) (w0 := vI 0) (Ac := fun h0 => rpZ ((Q.1, Q.2.1, gkp Q.2.2 (cN i) (decide (pb Q.1 (cN i) = 1))), hcn Q Hs, min (c + 1) 12, (p + 1) % 12, k0, π) x h0 ∧ mf x h h0) (Am := fun h1 h2 => fs (x + 229) h1 h2 ∧ rok (x + 229) h1 h2 ∧ rmZ ((Q.1, Q.2.1, gkp Q.2.2 (cN i) (decide (pb Q.1 (cN i) = 1))), hcn Q Hs, min (c + 1) 12) (x + 229) h2) hJ (by omega) (fun r h0 z => ⟨z.1, z.2.1, z.2.2⟩) (fun E h1 z => z) (fun h0 ac => rm _ (mf_up ac.2)) (fun j v => rm _ no_up) (fun h1 r h2 z => z.elim (fun y => Or.inl ⟨y.1, ⟨y.2.1, y.2.2.1, y.2.2.2.2⟩, y.2.2.2.1⟩) Or.inr) ⟨⟨_, rfl⟩, ⟨_, rfl⟩⟩ (fun g h0 h2 ac am => ⟨rfl, J_a (Q' := (Q.1, Q.2.1, gkp Q.2.2 (cN i) (decide (pb Q.1 (cN i) = 1)))) hJ ⟨hv.1, hv.2.1, gkp_inj hv.2.2.1, gkp_P hv.2.2.2 ?_⟩ ac am⟩)⟩
  obtain ⟨q, rfl, hq, eq⟩ := cntx (by have : dP Q.1 ≤ 28 := hJ.2.1.1.2.1.2; omega) g
  rw [eq]; exact hq
theorem cs_train {e : Int32} (hJ : JJ x (Q, Hs, c, p, k0, π) tl h) : Cw x isI (ca_X10_train, cp_X10_train, cq_X10_train) cx_X10_train [eIA] (ca_X11_train, cp_X11_train, cq_X11_train) (Q, Hs, c, p, k0, π, x, e) (Q, Hs, c, x + 229, e) h := by
  have hv : vQ Q := hJ.2.2.1.1
  have rm : ∀ h1 : zH, (∀ q, x + 229 ≤ q → h1.1 q = h.1 q) → cp_X11_train (Q, Hs, c, x + 229, e) h1 := fun h1 e => ⟨J_rm hJ e, hv⟩
  have h3 := lrW_3 Q.1 Q.2.2 (cN e)
  have hv2 : vQ (Q.1, Q.2.1, lrW Q.1 Q.2.2 (cN e)) := by
    refine ⟨hv.1, hv.2.1, ?_, ?_⟩
    · show ∀ i j, i < gN (lrW Q.1 Q.2.2 (cN e)) → j < gN (lrW Q.1 Q.2.2 (cN e)) → gP (lrW Q.1 Q.2.2 (cN e)) i = gP (lrW Q.1 Q.2.2 (cN e)) j → i = j
      rw [h3.1, h3.2.1]; exact hv.2.2.1
    · show ∀ i, i < gN (lrW Q.1 Q.2.2 (cN e)) → gP (lrW Q.1 Q.2.2 (cN e)) i < dP Q.1
      rw [h3.1, h3.2.1]; exact hv.2.2.2
  generalize hL : lrW Q.1 Q.2.2 (cN e) = L at hv2
  generalize hT : trW Q.1 Q.2.2 (cN e) = T
  refine ⟨⟨hJ.1, hv⟩, gs1 (G := gR e 1 50) (E1 := eIA) (k1 := 1) (w := vI T) (w' := vI T) (w0 := vI 0) (Ac := fun h0 => rpZ ((Q.1, Q.2.1, L), hcn Q Hs, min (c + 1) 12, (p + 1) % 12, k0, π) x h0 ∧ mf x h h0) (Am := fun h1 h2 => fs (x + 229) h1 h2 ∧ rok (x + 229) h1 h2 ∧ rmZ ((Q.1, Q.2.1, L), hcn Q Hs, min (c + 1) 12) (x + 229) h2) hJ (by omega) (fun r h0 z => ?_) (fun E h1 z => z) (fun h0 ac => rm _ (mf_up ac.2)) (fun j v => rm _ no_up) (fun h1 r h2 z => ?_) ⟨⟨_, rfl⟩, ⟨_, rfl⟩⟩ (fun g h0 h2 ac am => ⟨rfl, J_a hJ hv2 ac am⟩)⟩
  · have z : gR e 1 50 ∧ r = some (vI (trW Q.1 Q.2.2 (cN e))) ∧ rpZ ((Q.1, Q.2.1, lrW Q.1 Q.2.2 (cN e)), hcn Q Hs, min (c + 1) 12, (p + 1) % 12, k0, π) x h0 ∧ mf x h h0 := z
    rw [hL, hT] at z
    exact ⟨z.1, z.2.1, z.2.2⟩
  · have z : (gR e 1 50 ∧ fs (x + 229) h1 h2 ∧ rok (x + 229) h1 h2 ∧ r = some (vI (trW Q.1 Q.2.2 (cN e))) ∧ rmZ ((Q.1, Q.2.1, lrW Q.1 Q.2.2 (cN e)), hcn Q Hs, min (c + 1) 12) (x + 229) h2) ∨ (¬ gR e 1 50 ∧ fq (x + 229) h1 h2 ∧ rno (x + 229) 1 1 h1 h2 ∧ r = some (vI 0)) := z
    rw [hL, hT] at z
    exact z.elim (fun y => Or.inl ⟨y.1, ⟨y.2.1, y.2.2.1, y.2.2.2.2⟩, y.2.2.2.1⟩) Or.inr
theorem cs_turn {i : Int32} (hJ : JJ x (Q, Hs, c, p, k0, π) tl h) : Cw x isI (ca_X10_turn, cp_X10_turn, cq_X10_turn) cx_X10_turn [eIS, eNS] (ca_X11_turn, cp_X11_turn, cq_X11_turn) (Q, Hs, c, p, k0, π, x, i) (Q, Hs, c, x + 229, i) h := by
  have hv : vQ Q := hJ.2.2.1.1
  have rm : ∀ h1 : zH, (∀ q, x + 229 ≤ q → h1.1 q = h.1 q) → cp_X11_turn (Q, Hs, c, x + 229, i) h1 := fun h1 e => J_rm hJ e
  exact ⟨hJ.1, gs2 (G1 := 0 < eN Q.2.1) (G2 := gC i (eN Q.2.1)) (N1 := eN Q.2.1 = 0) (E1 := eIS) (E2 := eNS) (k1 := 2) (k2 := 0) (w := vI (bI ((eH Q.2.1 ^^^ 2 ^ cN i).testBit (cN i)))) (w' := vI (bI ((eH Q.2.1 ^^^ 2 ^ cN i).testBit (cN i)))) (w0 := vI 0) (Ac := fun h0 => rpZ ((Q.1, tnE Q.2.1 (cN i), Q.2.2), hcn Q Hs, min (c + 1) 12, (p + 1) % 12, k0, π) x h0 ∧ mf x h h0) (Am := fun h1 h2 => fs (x + 229) h1 h2 ∧ rok (x + 229) h1 h2 ∧ rmZ ((Q.1, tnE Q.2.1 (cN i), Q.2.2), hcn Q Hs, min (c + 1) 12) (x + 229) h2) hJ (fun z => by omega) (by decide) (by omega) (by omega) (fun r h0 z => ⟨z.1, z.2.1, z.2.2.1, z.2.2.2⟩) (fun E h1 z => z) (fun h0 ac => rm _ (mf_up ac.2)) (fun j v => rm _ no_up) (fun h1 r h2 z => z.elim (fun y => Or.inl ⟨y.1, y.2.1, ⟨y.2.2.1, y.2.2.2.1, y.2.2.2.2.2⟩, y.2.2.2.2.1⟩) Or.inr) ⟨⟨_, rfl⟩, ⟨_, rfl⟩⟩ (fun g g2 h0 h2 ac am => ⟨rfl, J_a (Q' := (Q.1, tnE Q.2.1 (cN i), Q.2.2)) hJ ⟨hv.1, hv.2.1, hv.2.2⟩ ac am⟩)⟩
/-- enrol: the order of the two reasons is not that of their codes -/
theorem cs_enrol {s : Int32} (hJ : JJ x (Q, Hs, c, p, k0, π) tl h) : Cw x isI (ca_X10_enrol, cp_X10_enrol, cq_X10_enrol) cx_X10_enrol [eIA, eIS] (ca_X11_enrol, cp_X11_enrol, cq_X11_enrol) (Q, Hs, c, p, k0, π, x, s) (Q, Hs, c, x + 229, s) h := by
  have hv : vQ Q := hJ.2.2.1.1
  have rm : ∀ h1 : zH, (∀ q, x + 229 ≤ q → h1.1 q = h.1 q) → cp_X11_enrol (Q, Hs, c, x + 229, s) h1 := fun h1 e => ⟨J_rm hJ e, hv.1⟩
  have hv2 : vQ (Q.1, enr Q.1 (cN s), Q.2.2) := ⟨hv.1, fun i hi => (enP_lt hv.1 hi).1, hv.2.2⟩
  refine ⟨⟨hJ.1, hv.1⟩, fun r h1 hq => ?_⟩
  rcases hq with ⟨w1, h0, hq, rfl, rfl⟩ | ⟨E, i, hq, hi, rfl⟩
  · obtain ⟨g1, g2, e, z, f⟩ := hq
    cases e
    refine ⟨0, rfl, rm _ (mf_up f), fun r2 h2 h3 => ?_⟩
    rcases h3 with ⟨-, -, f1, f2, rfl, f3⟩ | ⟨n, -⟩ | ⟨-, n, -⟩
    · obtain ⟨a, b, d⟩ := J_a (w := vI (nI (nbk Q.1))) hJ hv2 ⟨z, f⟩ ⟨f1, f2, f3⟩
      exact ⟨_, rfl, ⟨_, rfl⟩, a, fun _ => b, d⟩
    · have n : nbk Q.1 = 0 := n
      have g1 : 0 < nbk Q.1 := g1
      omega
    · exact absurd g2 n
  · have hi2 : (i = 0 ∧ E = eIA) ∨ (i = 1 ∧ E = eIS) := by
      rcases i with _ | _ | i
      · exact Or.inl ⟨rfl, (Option.some.inj hi).symm⟩
      · exact Or.inr ⟨rfl, (Option.some.inj hi).symm⟩
      · simp at hi
    rcases hq with ⟨n, e1, e2⟩ | ⟨g, n, e1, e2⟩
    · have i0 : i = 1 := by
        rcases hi2 with z | z
        · exact absurd (z.2.symm.trans e1) (by decide)
        · exact z.1
      subst i0
      subst e2
      refine ⟨2, rfl, rm _ no_up, fun r2 h2 h3 => ?_⟩
      have n : nbk Q.1 = 0 := n
      rcases h3 with ⟨g, -⟩ | ⟨-, f, rn, rfl⟩ | ⟨g, -⟩
      · have g : 0 < nbk Q.1 := g
        omega
      · obtain ⟨a, b⟩ := J_no (k := 2) (by omega) hJ f rn
        exact ⟨_, rfl, ⟨_, rfl⟩, a, fun z => absurd z (by decide), _, _, b⟩
      · have g : 0 < nbk Q.1 := g
        omega
    · have i0 : i = 0 := by
        rcases hi2 with z | z
        · exact z.1
        · exact absurd (e1.symm.trans z.2) (by decide)
      subst i0
      subst e2
      refine ⟨1, rfl, rm _ no_up, fun r2 h2 h3 => ?_⟩
      have g : 0 < nbk Q.1 := g
      rcases h3 with ⟨-, g2, -⟩ | ⟨n1, -⟩ | ⟨-, -, f, rn, rfl⟩
      · exact absurd g2 n
      · have n1 : nbk Q.1 = 0 := n1
        omega
      · obtain ⟨a, b⟩ := J_no (k := 1) (by omega) hJ f rn
        exact ⟨_, rfl, ⟨_, rfl⟩, a, fun z => absurd z (by decide), _, _, b⟩
theorem cs_undo (hJ : JJ x (Q, Hs, c, p, k0, π) tl h) : Cn x isI (ca_X10_undo, cp_X10_undo, cq_X10_undo) (ca_X11_undo, cp_X11_undo, cq_X11_undo) (Q, Hs, c, p, k0, π, x) (Q, Hs, c, x + 229) h := by
  refine ⟨hJ.1, fun r h1 hq => ?_⟩
  obtain ⟨q0, q1⟩ := hq
  have q0 : c = 0 → r = some (vI (-1)) ∧ h1 = h := q0
  have q1 : 0 < c → r = some (vI (nI (c - 1))) ∧ rpZ (uZ (Q, Hs, c, p, k0, π)) x h1 ∧ (∀ q, q ≠ x → h1.1 q = h.1 q) ∧ (∀ k, k ≠ 2 → k ≠ 3 → h1.1 x k = h.1 x k) ∧ h1.2.1 = h.2.1 ∧ ∀ q, q ≠ x → q ≠ x + 14 → h1.2.2 q = h.2.2 q := q1
  obtain ⟨j1, j2, j3, ⟨t1, t2, t3, t4⟩, j5, j6, j7⟩ := id hJ
  rcases Nat.eq_zero_or_pos c with hc | hc
  · obtain ⟨rfl, rfl⟩ := q0 hc
    refine ⟨j2, _, rfl, ⟨_, rfl⟩, fun r2 h2 hm => ?_⟩
    obtain ⟨g, r, m0, -⟩ := hm
    have m0 : c = 0 → r2 = some (vI (-1)) ∧ rmZ (Q, Hs, c) (x + 229) h2 := m0
    obtain ⟨rfl, w⟩ := m0 hc
    refine ⟨rfl, (Q, Hs, c, p, k0, π), tl, ?_⟩
    have ea : ∀ q, q < x + 229 → h2.1 q = h1.1 q := fun q hq => (g.1 q (Or.inl (by omega))).1
    refine ⟨rpZ_rows j1 (fun q q1 q2 => ea q (by omega)) (by rw [ea _ (by omega)]) (by rw [ea _ (by omega)]) g.2.1, w, j3, ⟨?_, t2, ?_, ?_⟩, ?_, fun j hj => ?_, fun k hk => ?_⟩
    · rw [ea _ (by omega)]; exact t1
    · rw [g.2.2.1 17 (by omega)]; exact t3
    · rw [ea _ (by omega), show x + 241 = x + 229 + 12 by omega, g.2.2.2 12 (by omega)]; exact t4
    · rw [ea _ (by omega), g.2.2.1 23 (by omega)]; exact j5
    · rw [g.2.1]; exact j6 j hj
    · rw [ea _ (by omega), show x + 230 = x + 229 + 1 by omega, r.2]; exact j7 k hk
  · obtain ⟨rfl, z, f1, f2, f3, f4⟩ := q1 hc
    refine ⟨rmZ_rows j2 (fun k _ _ => by rw [f1 _ (by omega)]) (fun j _ => by rw [f1 _ (by omega)]), _, rfl, ⟨_, rfl⟩, fun r2 h2 hm => ?_⟩
    obtain ⟨g, r, -, m1⟩ := hm
    have m1 : 0 < c → r2 = some (vI (nI (c - 1))) ∧ rmZ (Hs 0, fun i => Hs (i + 1), c - 1) (x + 229) h2 := m1
    obtain ⟨rfl, w⟩ := m1 hc
    refine ⟨rfl, uZ (Q, Hs, c, p, k0, π), tl, ?_⟩
    have ea : ∀ q, q < x + 229 → h2.1 q = h1.1 q := fun q hq => (g.1 q (Or.inl (by omega))).1
    refine ⟨rpZ_rows z (fun q q1 q2 => ea q (by omega)) (by rw [ea _ (by omega)]) (by rw [ea _ (by omega)]) g.2.1, w, ⟨j3.2 0 hc, fun i hi => j3.2 (i + 1) (by have hi : i < c - 1 := hi; show i + 1 < c; omega)⟩, ⟨?_, t2, ?_, ?_⟩, ?_, fun j hj => ?_, fun k hk => ?_⟩
    · rw [ea _ (by omega), f1 _ (by omega)]; exact t1
    · rw [g.2.2.1 17 (by omega), f1 _ (by omega)]; exact t3
    · rw [ea _ (by omega), f1 _ (by omega), show x + 241 = x + 229 + 12 by omega, g.2.2.2 12 (by omega), f1 _ (by omega)]; exact t4
    · rw [ea _ (by omega), f1 _ (by omega), g.2.2.1 23 (by omega), f1 _ (by omega)]; exact j5
    · rw [g.2.1, f4 _ (by omega) (by omega)]; exact j6 j hj
    · rw [ea _ (by omega), f2 _ (by omega) (by omega), show x + 230 = x + 229 + 1 by omega, r.2, f1 _ (by omega)]; exact j7 k hk
end JC

