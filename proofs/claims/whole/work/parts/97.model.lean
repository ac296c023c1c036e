/-! the law's cases: questions -/
theorem qf_e {x : Nat} {h h0 : zH} (e : h = h0) : qf x h h0 := e ▸ qf_r x h
theorem J_q {x tl : Nat} {Z : zP} {h h1 h2 : zH} (hJ : JJ x Z tl h) (f : qf x h h1) (g : fq (x + 229) h1 h2) (r : rok (x + 229) h1 h2) : JJ x Z tl h2 := by
  have ea : ∀ q, q < x + 180 → h2.1 q = h.1 q := fun q hq => ((g.1 q (Or.inl (by omega))).1).trans (f.1 q (Or.inl hq)).1
  have eb : ∀ q, x + 229 ≤ q → h1.1 q = h.1 q := fun q hq => (f.1 q (Or.inr (by omega))).1
  refine JJ_keep hJ (fun q q1 q2 => ea q q2) (by rw [ea _ (by omega)]) (by rw [ea _ (by omega)]) (g.2.1.trans f.2) (fun k hk => by rw [g.2.2.1 k hk, eb _ (by omega)]) (fun j hj => by rw [g.2.2.2 j hj, eb _ (by omega)]) (fun k hk => ?_)
  rw [ea _ (by omega), show x + 230 = x + 229 + 1 by omega, r.2, eb _ (by omega)]
  exact hJ.2.2.2.2.2.2 k hk
theorem J_e {x tl : Nat} {Z : zP} {h h0 h2 : zH} {w : zV} (hJ : JJ x Z tl h) (ac : qf x h h0) (am : fq (x + 229) (zsL h0 (x + 247) 0 (lvV w)) h2 ∧ rok (x + 229) (zsL h0 (x + 247) 0 (lvV w)) h2) : h2.1 (x + 229) 0 = 0 ∧ h2.2.1 (x + 247) 0 = lvV w ∧ JE x h2 := ⟨(J_ok hJ ac am.1 am.2).1, (J_ok hJ ac am.1 am.2).2.1, _, _, (J_ok hJ ac am.1 am.2).2.2⟩
section JQ
variable {x tl : Nat} {Q : zQ} {Hs : Nat → zQ} {c p k0 : Nat} {π : Nat → Nat} {h : zH}
theorem cs_ring {i w : Int32} (hJ : JJ x (Q, Hs, c, p, k0, π) tl h) : Cw x isI (ca_X10_ring, cp_X10_ring, cq_X10_ring) cx_X10_ring [eNS, eIA] (ca_X11_ring, cp_X11_ring, cq_X11_ring) (Q, x, i, w) (Q, x + 229, i, w) h := by
  have hN := (rpZ_N hJ.1).1
  have hv := hJ.2.2.1.1
  have rm : ∀ h1 : zH, (∀ q, x + 229 ≤ q → h1.1 q = h.1 q) → cp_X11_ring (Q, x + 229, i, w) h1 := fun h1 e => by
    have z := J_rm hJ e
    exact ⟨z.1, z.2.2.1⟩
  refine ⟨hN, gs2 (G1 := gC i (dN Q.1)) (G2 := gR w 0 4) (N1 := ¬ gC i (dN Q.1)) (E1 := eNS) (E2 := eIA) (k1 := 0) (k2 := 1) (w := vI (rgv Q (cN i) (cN w))) (w' := vI (rgv Q (cN i) (cN w))) (w0 := vI 0) (Ac := fun h0 => qf x h h0) (Am := fun h1 h2 => fq (x + 229) h1 h2 ∧ rok (x + 229) h1 h2) hJ (fun z => z) (by decide) (by omega) (by omega) (fun r h0 z => ⟨z.1, z.2.1, z.2.2.1, qf_e z.2.2.2⟩) (fun E h1 z => z) (fun h0 ac => rm _ (qf_up ac)) (fun j v => rm _ no_up) (fun h1 r h2 z => z.2.elim (fun y => Or.inl ⟨y.1, y.2.1, ⟨z.1, y.2.2.1⟩, y.2.2.2⟩) (fun y => y.elim (fun y => Or.inr (Or.inl ⟨y.1, z.1, y.2.1, y.2.2⟩)) (fun y => Or.inr (Or.inr ⟨y.1, y.2.1, z.1, y.2.2.1, y.2.2.2⟩)))) ⟨⟨_, rfl⟩, ⟨_, rfl⟩⟩ (fun g1 g2 h0 h2 ac am => ⟨?_, J_e hJ ac am⟩)⟩
  rfl
theorem cs_speed {i te : Int32} (hJ : JJ x (Q, Hs, c, p, k0, π) tl h) : Cw x isI (ca_X10_speed, cp_X10_speed, cq_X10_speed) cx_X10_speed [eNS, eIA] (ca_X11_speed, cp_X11_speed, cq_X11_speed) (Q, x, i, te) (Q.1, x + 229, i, te) h := by
  have hN := (rpZ_N hJ.1).1
  have hv := hJ.2.2.1.1
  have rm : ∀ h1 : zH, (∀ q, x + 229 ≤ q → h1.1 q = h.1 q) → cp_X11_speed (Q.1, x + 229, i, te) h1 := fun h1 e => by
    have z := J_rm hJ e
    exact z.1
  refine ⟨hN, gs2 (G1 := gC i (dN Q.1)) (G2 := gR te (-40) 125) (N1 := ¬ gC i (dN Q.1)) (E1 := eNS) (E2 := eIA) (k1 := 0) (k2 := 1) (w := vI (spd Q.1 (cN i) te)) (w' := vI (spd Q.1 (cN i) te)) (w0 := vI 0) (Ac := fun h0 => qf x h h0) (Am := fun h1 h2 => fq (x + 229) h1 h2 ∧ rok (x + 229) h1 h2) hJ (fun z => z) (by decide) (by omega) (by omega) (fun r h0 z => ⟨z.1, z.2.1, z.2.2.1, qf_e z.2.2.2⟩) (fun E h1 z => z) (fun h0 ac => rm _ (qf_up ac)) (fun j v => rm _ no_up) (fun h1 r h2 z => z.2.elim (fun y => Or.inl ⟨y.1, y.2.1, ⟨z.1, y.2.2.1⟩, y.2.2.2⟩) (fun y => y.elim (fun y => Or.inr (Or.inl ⟨y.1, z.1, y.2.1, y.2.2⟩)) (fun y => Or.inr (Or.inr ⟨y.1, y.2.1, z.1, y.2.2.1, y.2.2.2⟩)))) ⟨⟨_, rfl⟩, ⟨_, rfl⟩⟩ (fun g1 g2 h0 h2 ac am => ⟨?_, J_e hJ ac am⟩)⟩
  rfl
theorem cs_rank {i te : Int32} (hJ : JJ x (Q, Hs, c, p, k0, π) tl h) : Cw x isI (ca_X10_rank, cp_X10_rank, cq_X10_rank) cx_X10_rank [eNS, eIA] (ca_X11_rank, cp_X11_rank, cq_X11_rank) (Q, x, i, te) (Q.1, x + 229, i, te) h := by
  have hN := (rpZ_N hJ.1).1
  have hv := hJ.2.2.1.1
  have rm : ∀ h1 : zH, (∀ q, x + 229 ≤ q → h1.1 q = h.1 q) → cp_X11_rank (Q.1, x + 229, i, te) h1 := fun h1 e => by
    have z := J_rm hJ e
    exact z.1
  refine ⟨hN, gs2 (G1 := gC i (dN Q.1)) (G2 := gR te (-40) 125) (N1 := ¬ gC i (dN Q.1)) (E1 := eNS) (E2 := eIA) (k1 := 0) (k2 := 1) (w := vI (rnk Q.1 (cN i) te)) (w' := vI (rnM Q.1 (cN i) te)) (w0 := vI 0) (Ac := fun h0 => qf x h h0) (Am := fun h1 h2 => fq (x + 229) h1 h2 ∧ rok (x + 229) h1 h2) hJ (fun z => z) (by decide) (by omega) (by omega) (fun r h0 z => ⟨z.1, z.2.1, z.2.2.1, qf_e z.2.2.2⟩) (fun E h1 z => z) (fun h0 ac => rm _ (qf_up ac)) (fun j v => rm _ no_up) (fun h1 r h2 z => z.2.elim (fun y => Or.inl ⟨y.1, y.2.1, ⟨z.1, y.2.2.1⟩, y.2.2.2⟩) (fun y => y.elim (fun y => Or.inr (Or.inl ⟨y.1, z.1, y.2.1, y.2.2⟩)) (fun y => Or.inr (Or.inr ⟨y.1, y.2.1, z.1, y.2.2.1, y.2.2.2⟩)))) ⟨⟨_, rfl⟩, ⟨_, rfl⟩⟩ (fun g1 g2 h0 h2 ac am => ⟨?_, J_e hJ ac am⟩)⟩
  obtain ⟨q, rfl, hq, eq⟩ := cntx (by have := hJ.2.1.1.1.2; show dN Q.1 < 2 ^ 31; have : dN Q.1 ≤ 10 := this; omega) g1
  rw [eq]
  exact congrArg vI (rnM_rnk hq)
theorem cs_pair {i w : Int32} (hJ : JJ x (Q, Hs, c, p, k0, π) tl h) : Cw x isI (ca_X10_pair, cp_X10_pair, cq_X10_pair) cx_X10_pair [eNS, eIA] (ca_X11_pair, cp_X11_pair, cq_X11_pair) (Q, x, i, w) (Q, x + 229, i, w) h := by
  have hN := (rpZ_N hJ.1).1
  have hv := hJ.2.2.1.1
  have rm : ∀ h1 : zH, (∀ q, x + 229 ≤ q → h1.1 q = h.1 q) → cp_X11_pair (Q, x + 229, i, w) h1 := fun h1 e => by
    have z := J_rm hJ e
    exact ⟨z.1, z.2.1, z.2.2.1, hv.1, hv.2.2.2⟩
  refine ⟨⟨hN, hv.1, hv.2.2⟩, gs2 (G1 := gC i (dP Q.1)) (G2 := gR w 0 10) (N1 := ¬ gC i (dP Q.1)) (E1 := eNS) (E2 := eIA) (k1 := 0) (k2 := 1) (w := vI (prv Q (cN i) (cN w))) (w' := vI (prv Q (cN i) (cN w))) (w0 := vI 0) (Ac := fun h0 => qf x h h0) (Am := fun h1 h2 => fq (x + 229) h1 h2 ∧ rok (x + 229) h1 h2) hJ (fun z => z) (by decide) (by omega) (by omega) (fun r h0 z => ⟨z.1, z.2.1, z.2.2.1, z.2.2.2⟩) (fun E h1 z => z) (fun h0 ac => rm _ (qf_up ac)) (fun j v => rm _ no_up) (fun h1 r h2 z => z.2.elim (fun y => Or.inl ⟨y.1, y.2.1, ⟨z.1, y.2.2.1⟩, y.2.2.2⟩) (fun y => y.elim (fun y => Or.inr (Or.inl ⟨y.1, z.1, y.2.1, y.2.2⟩)) (fun y => Or.inr (Or.inr ⟨y.1, y.2.1, z.1, y.2.2.1, y.2.2.2⟩)))) ⟨⟨_, rfl⟩, ⟨_, rfl⟩⟩ (fun g1 g2 h0 h2 ac am => ⟨?_, J_e hJ ac am⟩)⟩
  rfl
theorem cs_bit {i te : Int32} (hJ : JJ x (Q, Hs, c, p, k0, π) tl h) : Cw x isI (ca_X10_bit, cp_X10_bit, cq_X10_bit) cx_X10_bit [eNS, eIA] (ca_X11_bit, cp_X11_bit, cq_X11_bit) (Q, x, i, te) (Q.1, x + 229, i, te) h := by
  have hN := (rpZ_N hJ.1).1
  have hv := hJ.2.2.1.1
  have rm : ∀ h1 : zH, (∀ q, x + 229 ≤ q → h1.1 q = h.1 q) → cp_X11_bit (Q.1, x + 229, i, te) h1 := fun h1 e => by
    have z := J_rm hJ e
    exact z.1
  refine ⟨hN, gs2 (G1 := gC i (dP Q.1)) (G2 := gR te (-40) 125) (N1 := ¬ gC i (dP Q.1)) (E1 := eNS) (E2 := eIA) (k1 := 0) (k2 := 1) (w := vI (pba Q.1 (cN i) te)) (w' := vI (pba Q.1 (cN i) te)) (w0 := vI 0) (Ac := fun h0 => qf x h h0) (Am := fun h1 h2 => fq (x + 229) h1 h2 ∧ rok (x + 229) h1 h2) hJ (fun z => z) (by decide) (by omega) (by omega) (fun r h0 z => ⟨z.1, z.2.1, z.2.2.1, qf_e z.2.2.2⟩) (fun E h1 z => z) (fun h0 ac => rm _ (qf_up ac)) (fun j v => rm _ no_up) (fun h1 r h2 z => z.2.elim (fun y => Or.inl ⟨y.1, y.2.1, ⟨z.1, y.2.2.1⟩, y.2.2.2⟩) (fun y => y.elim (fun y => Or.inr (Or.inl ⟨y.1, z.1, y.2.1, y.2.2⟩)) (fun y => Or.inr (Or.inr ⟨y.1, y.2.1, z.1, y.2.2.1, y.2.2.2⟩)))) ⟨⟨_, rfl⟩, ⟨_, rfl⟩⟩ (fun g1 g2 h0 h2 ac am => ⟨?_, J_e hJ ac am⟩)⟩
  rfl
theorem cs_flips {i w : Int32} (hJ : JJ x (Q, Hs, c, p, k0, π) tl h) : Cw x isI (ca_X10_flips, cp_X10_flips, cq_X10_flips) cx_X10_flips [eNS, eIA] (ca_X11_flips, cp_X11_flips, cq_X11_flips) (Q, x, i, w) (Q.1, x + 229, i, w) h := by
  have hN := (rpZ_N hJ.1).1
  have hv := hJ.2.2.1.1
  have rm : ∀ h1 : zH, (∀ q, x + 229 ≤ q → h1.1 q = h.1 q) → cp_X11_flips (Q.1, x + 229, i, w) h1 := fun h1 e => by
    have z := J_rm hJ e
    exact ⟨z.1, hv.1⟩
  refine ⟨⟨hN, hv.1⟩, gs2 (G1 := gC i (dP Q.1)) (G2 := gR w 0 1) (N1 := ¬ gC i (dP Q.1)) (E1 := eNS) (E2 := eIA) (k1 := 0) (k2 := 1) (w := vI (flv Q.1 (cN i) (cN w))) (w' := vI (flv Q.1 (cN i) (cN w))) (w0 := vI 0) (Ac := fun h0 => qf x h h0) (Am := fun h1 h2 => fq (x + 229) h1 h2 ∧ rok (x + 229) h1 h2) hJ (fun z => z) (by decide) (by omega) (by omega) (fun r h0 z => ⟨z.1, z.2.1, z.2.2.1, qf_e z.2.2.2⟩) (fun E h1 z => z) (fun h0 ac => rm _ (qf_up ac)) (fun j v => rm _ no_up) (fun h1 r h2 z => z.2.elim (fun y => Or.inl ⟨y.1, y.2.1, ⟨z.1, y.2.2.1⟩, y.2.2.2⟩) (fun y => y.elim (fun y => Or.inr (Or.inl ⟨y.1, z.1, y.2.1, y.2.2⟩)) (fun y => Or.inr (Or.inr ⟨y.1, y.2.1, z.1, y.2.2.1, y.2.2.2⟩)))) ⟨⟨_, rfl⟩, ⟨_, rfl⟩⟩ (fun g1 g2 h0 h2 ac am => ⟨?_, J_e hJ ac am⟩)⟩
  rfl
theorem cs_odds {i te lo : Int32} (hJ : JJ x (Q, Hs, c, p, k0, π) tl h) : Cw x isI (ca_X10_odds, cp_X10_odds, cq_X10_odds) cx_X10_odds [eNS, eIA] (ca_X11_odds, cp_X11_odds, cq_X11_odds) (Q, x, i, te, lo) (Q.1, x + 229, i, te, lo) h := by
  have hN := (rpZ_N hJ.1).1
  have hv := hJ.2.2.1.1
  have rm : ∀ h1 : zH, (∀ q, x + 229 ≤ q → h1.1 q = h.1 q) → cp_X11_odds (Q.1, x + 229, i, te, lo) h1 := fun h1 e => by
    have z := J_rm hJ e
    exact ⟨z.1, hv.1⟩
  refine ⟨⟨hN, hv.1⟩, gs2 (G1 := gC i (dP Q.1)) (G2 := gR te (-40) 125) (N1 := ¬ gC i (dP Q.1)) (E1 := eNS) (E2 := eIA) (k1 := 0) (k2 := 1) (w := vI (odv Q.1 (cN i) te lo)) (w' := vI (odv Q.1 (cN i) te lo)) (w0 := vI 0) (Ac := fun h0 => qf x h h0) (Am := fun h1 h2 => fq (x + 229) h1 h2 ∧ rok (x + 229) h1 h2) hJ (fun z => z) (by decide) (by omega) (by omega) (fun r h0 z => ⟨z.1, z.2.1, z.2.2.1, qf_e z.2.2.2⟩) (fun E h1 z => z) (fun h0 ac => rm _ (qf_up ac)) (fun j v => rm _ no_up) (fun h1 r h2 z => z.2.elim (fun y => Or.inl ⟨y.1, y.2.1, ⟨z.1, y.2.2.1⟩, y.2.2.2⟩) (fun y => y.elim (fun y => Or.inr (Or.inl ⟨y.1, z.1, y.2.1, y.2.2⟩)) (fun y => Or.inr (Or.inr ⟨y.1, y.2.1, z.1, y.2.2.1, y.2.2.2⟩)))) ⟨⟨_, rfl⟩, ⟨_, rfl⟩⟩ (fun g1 g2 h0 h2 ac am => ⟨?_, J_e hJ ac am⟩)⟩
  rfl
theorem cs_block {i k : Int32} (hJ : JJ x (Q, Hs, c, p, k0, π) tl h) : Cw x isI (ca_X10_block, cp_X10_block, cq_X10_block) cx_X10_block [eNS] (ca_X11_block, cp_X11_block, cq_X11_block) (Q, x, i, k) (Q.1, x + 229, i, k) h := by
  have hN := (rpZ_N hJ.1).1
  have hv := hJ.2.2.1.1
  have rm : ∀ h1 : zH, (∀ q, x + 229 ≤ q → h1.1 q = h.1 q) → cp_X11_block (Q.1, x + 229, i, k) h1 := fun h1 e => by
    have z := J_rm hJ e
    exact ⟨z.1, hv.1⟩
  refine ⟨⟨hN, hv.1⟩, gs1 (G := gC i (nbk Q.1)) (E1 := eNS) (k1 := 0) (w := vI (bkv Q.1 (cN i) k)) (w' := vI (bkv Q.1 (cN i) k)) (w0 := vI 0) (Ac := fun h0 => qf x h h0) (Am := fun h1 h2 => fq (x + 229) h1 h2 ∧ rok (x + 229) h1 h2) hJ (by omega) (fun r h0 z => ⟨z.1, z.2.1, qf_e z.2.2⟩) (fun E h1 z => z) (fun h0 ac => rm _ (qf_up ac)) (fun j v => rm _ no_up) (fun h1 r h2 z => z.2.elim (fun y => Or.inl ⟨y.1, ⟨z.1, y.2.1⟩, y.2.2⟩) (fun y => Or.inr ⟨y.1, z.1, y.2.1, y.2.2⟩)) ⟨⟨_, rfl⟩, ⟨_, rfl⟩⟩ (fun g1 h0 h2 ac am => ⟨?_, J_e hJ ac am⟩)⟩
  rfl
theorem cs_recover {te s w : Int32} (hJ : JJ x (Q, Hs, c, p, k0, π) tl h) : Cw x isI (ca_X10_recover, cp_X10_recover, cq_X10_recover) cx_X10_recover [eIS, eIA] (ca_X11_recover, cp_X11_recover, cq_X11_recover) (Q, x, te, s, w) (Q, x + 229, te, s, w) h := by
  have hN := (rpZ_N hJ.1).1
  have hv := hJ.2.2.1.1
  have rm : ∀ h1 : zH, (∀ q, x + 229 ≤ q → h1.1 q = h.1 q) → cp_X11_recover (Q, x + 229, te, s, w) h1 := fun h1 e => by
    have z := J_rm hJ e
    exact ⟨z.1, z.2.1, hv.1, hv.2.1⟩
  refine ⟨⟨hN, hv⟩, gs2 (G1 := 0 < eN Q.2.1) (G2 := gR te (-40) 125 ∧ gR s 0 65536 ∧ gR w 0 5) (N1 := eN Q.2.1 = 0) (E1 := eIS) (E2 := eIA) (k1 := 2) (k2 := 1) (w := vI (rcv Q.1 Q.2.1 te s (cN w))) (w' := vI (rcv Q.1 Q.2.1 te s (cN w))) (w0 := vI 0) (Ac := fun h0 => qf x h h0) (Am := fun h1 h2 => fq (x + 229) h1 h2 ∧ rok (x + 229) h1 h2) hJ (fun z => by omega) (by decide) (by omega) (by omega) (fun r h0 z => ⟨z.1, z.2.1, z.2.2.1, z.2.2.2⟩) (fun E h1 z => z) (fun h0 ac => rm _ (qf_up ac)) (fun j v => rm _ no_up) (fun h1 r h2 z => z.2.elim (fun y => Or.inl ⟨y.1, y.2.1, ⟨z.1, y.2.2.1⟩, y.2.2.2⟩) (fun y => y.elim (fun y => Or.inr (Or.inl ⟨y.1, z.1, y.2.1, y.2.2⟩)) (fun y => Or.inr (Or.inr ⟨y.1, y.2.1, z.1, y.2.2.1, y.2.2.2⟩)))) ⟨⟨_, rfl⟩, ⟨_, rfl⟩⟩ (fun g1 g2 h0 h2 ac am => ⟨?_, J_e hJ ac am⟩)⟩
  rfl
theorem cs_fails {te s m w : Int32} (hJ : JJ x (Q, Hs, c, p, k0, π) tl h) : Cw x isI (ca_X10_fails, cp_X10_fails, cq_X10_fails) cx_X10_fails [eIS, eIA] (ca_X11_fails, cp_X11_fails, cq_X11_fails) (Q, x, te, s, m, w) (Q, x + 229, te, s, m, w) h := by
  have hN := (rpZ_N hJ.1).1
  have hv := hJ.2.2.1.1
  have rm : ∀ h1 : zH, (∀ q, x + 229 ≤ q → h1.1 q = h.1 q) → cp_X11_fails (Q, x + 229, te, s, m, w) h1 := fun h1 e => by
    have z := J_rm hJ e
    exact ⟨z.1, z.2.1, hv.1, hv.2.1⟩
  refine ⟨⟨hN, hv⟩, gs2 (G1 := 0 < eN Q.2.1) (G2 := gR te (-40) 125 ∧ gR s 0 65536 ∧ gR m 1 60 ∧ gR w 0 2) (N1 := eN Q.2.1 = 0) (E1 := eIS) (E2 := eIA) (k1 := 2) (k2 := 1) (w := vI (fav Q.1 Q.2.1 te s (cN m) (cN w))) (w' := vI (fav Q.1 Q.2.1 te s (cN m) (cN w))) (w0 := vI 0) (Ac := fun h0 => qf x h h0) (Am := fun h1 h2 => fq (x + 229) h1 h2 ∧ rok (x + 229) h1 h2) hJ (fun z => by omega) (by decide) (by omega) (by omega) (fun r h0 z => ⟨z.1, z.2.1, z.2.2.1, z.2.2.2⟩) (fun E h1 z => z) (fun h0 ac => rm _ (qf_up ac)) (fun j v => rm _ no_up) (fun h1 r h2 z => z.2.elim (fun y => Or.inl ⟨y.1, y.2.1, ⟨z.1, y.2.2.1⟩, y.2.2.2⟩) (fun y => y.elim (fun y => Or.inr (Or.inl ⟨y.1, z.1, y.2.1, y.2.2⟩)) (fun y => Or.inr (Or.inr ⟨y.1, y.2.1, z.1, y.2.2.1, y.2.2.2⟩)))) ⟨⟨_, rfl⟩, ⟨_, rfl⟩⟩ (fun g1 g2 h0 h2 ac am => ⟨?_, J_e hJ ac am⟩)⟩
  rfl
theorem cs_safe {te w : Int32} (hJ : JJ x (Q, Hs, c, p, k0, π) tl h) : Cw x isI (ca_X10_safe, cp_X10_safe, cq_X10_safe) cx_X10_safe [eIS, eIA] (ca_X11_safe, cp_X11_safe, cq_X11_safe) (Q, x, te, w) (Q, x + 229, te, w) h := by
  have hN := (rpZ_N hJ.1).1
  have hv := hJ.2.2.1.1
  have rm : ∀ h1 : zH, (∀ q, x + 229 ≤ q → h1.1 q = h.1 q) → cp_X11_safe (Q, x + 229, te, w) h1 := fun h1 e => by
    have z := J_rm hJ e
    exact ⟨z.1, z.2.1, hv.2.1⟩
  refine ⟨⟨hN, hv⟩, gs2 (G1 := 0 < eN Q.2.1) (G2 := gR te (-40) 125 ∧ gR w 0 2) (N1 := eN Q.2.1 = 0) (E1 := eIS) (E2 := eIA) (k1 := 2) (k2 := 1) (w := vI (sfv Q.1 Q.2.1 te (cN w))) (w' := vI (sfv Q.1 Q.2.1 te (cN w))) (w0 := vI 0) (Ac := fun h0 => qf x h h0) (Am := fun h1 h2 => fq (x + 229) h1 h2 ∧ rok (x + 229) h1 h2) hJ (fun z => by omega) (by decide) (by omega) (by omega) (fun r h0 z => ⟨z.1, z.2.1, z.2.2.1, qf_e z.2.2.2⟩) (fun E h1 z => z) (fun h0 ac => rm _ (qf_up ac)) (fun j v => rm _ no_up) (fun h1 r h2 z => z.2.elim (fun y => Or.inl ⟨y.1, y.2.1, ⟨z.1, y.2.2.1⟩, y.2.2.2⟩) (fun y => y.elim (fun y => Or.inr (Or.inl ⟨y.1, z.1, y.2.1, y.2.2⟩)) (fun y => Or.inr (Or.inr ⟨y.1, y.2.1, z.1, y.2.2.1, y.2.2.2⟩)))) ⟨⟨_, rfl⟩, ⟨_, rfl⟩⟩ (fun g1 g2 h0 h2 ac am => ⟨?_, J_e hJ ac am⟩)⟩
  rfl
theorem cs_range {w : Int32} (hJ : JJ x (Q, Hs, c, p, k0, π) tl h) : Cw x isI (ca_X10_range, cp_X10_range, cq_X10_range) cx_X10_range [eIS, eIA] (ca_X11_range, cp_X11_range, cq_X11_range) (Q, x, w) (Q, x + 229, w) h := by
  have hN := (rpZ_N hJ.1).1
  have hv := hJ.2.2.1.1
  have rm : ∀ h1 : zH, (∀ q, x + 229 ≤ q → h1.1 q = h.1 q) → cp_X11_range (Q, x + 229, w) h1 := fun h1 e => by
    have z := J_rm hJ e
    exact ⟨z.1, z.2.1, hv.2.1⟩
  refine ⟨⟨hN, hv⟩, gs2 (G1 := 0 < eN Q.2.1) (G2 := gR w 0 1) (N1 := eN Q.2.1 = 0) (E1 := eIS) (E2 := eIA) (k1 := 2) (k2 := 1) (w := vI (rgc Q.1 Q.2.1 (cN w))) (w' := vI (rgc Q.1 Q.2.1 (cN w))) (w0 := vI 0) (Ac := fun h0 => qf x h h0) (Am := fun h1 h2 => fq (x + 229) h1 h2 ∧ rok (x + 229) h1 h2) hJ (fun z => by omega) (by decide) (by omega) (by omega) (fun r h0 z => ⟨z.1, z.2.1, z.2.2.1, qf_e z.2.2.2⟩) (fun E h1 z => z) (fun h0 ac => rm _ (qf_up ac)) (fun j v => rm _ no_up) (fun h1 r h2 z => z.2.elim (fun y => Or.inl ⟨y.1, y.2.1, ⟨z.1, y.2.2.1⟩, y.2.2.2⟩) (fun y => y.elim (fun y => Or.inr (Or.inl ⟨y.1, z.1, y.2.1, y.2.2⟩)) (fun y => Or.inr (Or.inr ⟨y.1, y.2.1, z.1, y.2.2.1, y.2.2.2⟩)))) ⟨⟨_, rfl⟩, ⟨_, rfl⟩⟩ (fun g1 g2 h0 h2 ac am => ⟨?_, J_e hJ ac am⟩)⟩
  rfl
theorem cs_leak {w : Int32} (hJ : JJ x (Q, Hs, c, p, k0, π) tl h) : Cw x isI (ca_X10_leak, cp_X10_leak, cq_X10_leak) cx_X10_leak [eIS, eIA] (ca_X11_leak, cp_X11_leak, cq_X11_leak) (Q, x, w) (Q, x + 229, w) h := by
  have hN := (rpZ_N hJ.1).1
  have hv := hJ.2.2.1.1
  have rm : ∀ h1 : zH, (∀ q, x + 229 ≤ q → h1.1 q = h.1 q) → cp_X11_leak (Q, x + 229, w) h1 := fun h1 e => by
    have z := J_rm hJ e
    exact ⟨z.1, z.2.1, z.2.2.1, hv.1, hv.2.1, hv.2.2.2⟩
  refine ⟨⟨hN, hv, hJ.2.2.2.2.2.1⟩, gs2 (G1 := 0 < eN Q.2.1) (G2 := gR w 0 4) (N1 := eN Q.2.1 = 0) (E1 := eIS) (E2 := eIA) (k1 := 2) (k2 := 1) (w := vI (lkv Q.1 Q.2.1 Q.2.2 (cN w))) (w' := vI (lkv Q.1 Q.2.1 Q.2.2 (cN w))) (w0 := vI 0) (Ac := fun h0 => qf x h h0) (Am := fun h1 h2 => fq (x + 229) h1 h2 ∧ rok (x + 229) h1 h2) hJ (fun z => by omega) (by decide) (by omega) (by omega) (fun r h0 z => ⟨z.1, z.2.1, z.2.2.1, z.2.2.2⟩) (fun E h1 z => z) (fun h0 ac => rm _ (qf_up ac)) (fun j v => rm _ no_up) (fun h1 r h2 z => z.2.elim (fun y => Or.inl ⟨y.1, y.2.1, ⟨z.1, y.2.2.1⟩, y.2.2.2⟩) (fun y => y.elim (fun y => Or.inr (Or.inl ⟨y.1, z.1, y.2.1, y.2.2⟩)) (fun y => Or.inr (Or.inr ⟨y.1, y.2.1, z.1, y.2.2.1, y.2.2.2⟩)))) ⟨⟨_, rfl⟩, ⟨_, rfl⟩⟩ (fun g1 g2 h0 h2 ac am => ⟨?_, J_e hJ ac am⟩)⟩
  rfl
theorem cs_told {w : Int32} (hJ : JJ x (Q, Hs, c, p, k0, π) tl h) : Cw x isI (ca_X10_told, cp_X10_told, cq_X10_told) cx_X10_told [eIA] (ca_X11_told, cp_X11_told, cq_X11_told) (Q, x, w, c, tl) (Q, x + 229, w, c, tl) h := by
  have hN := (rpZ_N hJ.1).1
  have hv := hJ.2.2.1.1
  have rm : ∀ h1 : zH, (∀ q, x + 229 ≤ q → h1.1 q = h.1 q) → cp_X11_told (Q, x + 229, w, c, tl) h1 := fun h1 e => by
    have z := J_rm hJ e
    exact ⟨z.1, z.2.1, z.2.2.1, hv.1, z.2.2.2.1.1, by rw [e _ (by omega)]; exact hJ.2.2.2.1.2.2.1⟩
  refine ⟨⟨hN, hv.1, hJ.1.2.2.2.1.1, hJ.2.2.2.1.1⟩, gs1 (G := gR w 0 17) (E1 := eIA) (k1 := 1) (w := vI (tld Q c tl (cN w))) (w' := vI (tld Q c tl (cN w))) (w0 := vI 0) (Ac := fun h0 => qf x h h0) (Am := fun h1 h2 => fq (x + 229) h1 h2 ∧ rok (x + 229) h1 h2) hJ (by omega) (fun r h0 z => ⟨z.1, z.2.1, qf_e z.2.2⟩) (fun E h1 z => z) (fun h0 ac => rm _ (qf_up ac)) (fun j v => rm _ no_up) (fun h1 r h2 z => z.2.elim (fun y => Or.inl ⟨y.1, ⟨z.1, y.2.1⟩, y.2.2⟩) (fun y => Or.inr ⟨y.1, z.1, y.2.1, y.2.2⟩)) ⟨⟨_, rfl⟩, ⟨_, rfl⟩⟩ (fun g1 h0 h2 ac am => ⟨?_, J_e hJ ac am⟩)⟩
  rfl
theorem cs_guardFor {b : Int32} (hJ : JJ x (Q, Hs, c, p, k0, π) tl h) : Cw x isI (ca_X10_guardFor, cp_X10_guardFor, cq_X10_guardFor) cx_X10_guardFor [eIA] (ca_X11_guardFor, cp_X11_guardFor, cq_X11_guardFor) (Q, x, b) (Q.1, x + 229, b) h := by
  have hN := (rpZ_N hJ.1).1
  have hv := hJ.2.2.1.1
  have rm : ∀ h1 : zH, (∀ q, x + 229 ≤ q → h1.1 q = h.1 q) → cp_X11_guardFor (Q.1, x + 229, b) h1 := fun h1 e => by
    have z := J_rm hJ e
    exact ⟨z.1, hv.1⟩
  refine ⟨⟨hN, hv.1⟩, gs1 (G := gR b 1 28) (E1 := eIA) (k1 := 1) (w := vI (gdf Q.1 (cN b))) (w' := vI (gdM Q.1 (cN b))) (w0 := vI 0) (Ac := fun h0 => qf x h h0) (Am := fun h1 h2 => fq (x + 229) h1 h2 ∧ rok (x + 229) h1 h2) hJ (by omega) (fun r h0 z => ⟨z.1, z.2.1, z.2.2⟩) (fun E h1 z => z) (fun h0 ac => rm _ (qf_up ac)) (fun j v => rm _ no_up) (fun h1 r h2 z => z.2.elim (fun y => Or.inl ⟨y.1, ⟨z.1, y.2.1⟩, y.2.2⟩) (fun y => Or.inr ⟨y.1, z.1, y.2.1, y.2.2⟩)) ⟨⟨_, rfl⟩, ⟨_, rfl⟩⟩ (fun g1 h0 h2 ac am => ⟨?_, J_e hJ ac am⟩)⟩
  obtain ⟨j, hj, rfl⟩ := nI_of (Int32.not_lt.mpr (Int32.le_trans (by decide) g1.1))
  have b1 : 1 ≤ j := (nI_leI (a := 1) (by omega) hj).mp g1.1
  have b2 : j ≤ 28 := (nI_leI hj (b := 28) (by omega)).mp g1.2
  rw [show cN (nI j) = j from nI_clamp hj]
  exact congrArg vI (gd_e hv.1 (fun p hp => ⟨(hJ.2.1.1.2.2.2.1 p hp).1.2, (hJ.2.1.1.2.2.2.1 p hp).2.2⟩) b1 b2)
theorem cs_ways {w : Int32} (hJ : JJ x (Q, Hs, c, p, k0, π) tl h) : Cw x isL (ca_X10_ways, cp_X10_ways, cq_X10_ways) cx_X10_ways [eIA] (ca_X11_ways, cp_X11_ways, cq_X11_ways) (Q, x, w) (Q, x + 229, w) h := by
  have hN := (rpZ_N hJ.1).1
  have hv := hJ.2.2.1.1
  have rm : ∀ h1 : zH, (∀ q, x + 229 ≤ q → h1.1 q = h.1 q) → cp_X11_ways (Q, x + 229, w) h1 := fun h1 e => by
    have z := J_rm hJ e
    exact ⟨z.1, z.2.1, hv.1, hv.2.1⟩
  refine ⟨⟨hN, hv.1⟩, gs1 (G := gR w 0 2) (E1 := eIA) (k1 := 1) (w := vL (wav Q (cN w))) (w' := vL (wav Q (cN w))) (w0 := vL 0) (Ac := fun h0 => qf x h h0) (Am := fun h1 h2 => fq (x + 229) h1 h2 ∧ rok (x + 229) h1 h2) hJ (by omega) (fun r h0 z => ⟨z.1, z.2.1, z.2.2⟩) (fun E h1 z => z) (fun h0 ac => rm _ (qf_up ac)) (fun j v => rm _ no_up) (fun h1 r h2 z => z.2.elim (fun y => Or.inl ⟨y.1, ⟨z.1, y.2.1⟩, y.2.2⟩) (fun y => Or.inr ⟨y.1, z.1, y.2.1, y.2.2⟩)) ⟨⟨_, rfl⟩, ⟨_, rfl⟩⟩ (fun g1 h0 h2 ac am => ⟨?_, J_e hJ ac am⟩)⟩
  rfl
theorem cs_success {w : Int32} (hJ : JJ x (Q, Hs, c, p, k0, π) tl h) : Cw x isI (ca_X10_success, cp_X10_success, cq_X10_success) cx_X10_success [eIA] (ca_X11_success, cp_X11_success, cq_X11_success) (Q, x, w) (Q, x + 229, w) h := by
  have hN := (rpZ_N hJ.1).1
  have hv := hJ.2.2.1.1
  have rm : ∀ h1 : zH, (∀ q, x + 229 ≤ q → h1.1 q = h.1 q) → cp_X11_success (Q, x + 229, w) h1 := fun h1 e => by
    have z := J_rm hJ e
    exact ⟨z.1, z.2.2.1, hv.2.2.2⟩
  refine ⟨⟨hN, hv⟩, gs1 (G := gR w 0 3) (E1 := eIA) (k1 := 1) (w := vI (nI (fb_ct (scc Q.1 Q.2.2 (cN w)) (dP Q.1)))) (w' := vI (nI (fb_ct (scc Q.1 Q.2.2 (cN w)) (dP Q.1)))) (w0 := vI 0) (Ac := fun h0 => qf x h h0) (Am := fun h1 h2 => fq (x + 229) h1 h2 ∧ rok (x + 229) h1 h2) hJ (by omega) (fun r h0 z => ⟨z.1, z.2.1, z.2.2⟩) (fun E h1 z => z) (fun h0 ac => rm _ (qf_up ac)) (fun j v => rm _ no_up) (fun h1 r h2 z => z.2.elim (fun y => Or.inl ⟨y.1, ⟨z.1, y.2.1⟩, y.2.2⟩) (fun y => Or.inr ⟨y.1, z.1, y.2.1, y.2.2⟩)) ⟨⟨_, rfl⟩, ⟨_, rfl⟩⟩ (fun g1 h0 h2 ac am => ⟨?_, J_e hJ ac am⟩)⟩
  rfl
theorem cs_curve {m w : Int32} (hJ : JJ x (Q, Hs, c, p, k0, π) tl h) : Cw x isI (ca_X10_curve, cp_X10_curve, cq_X10_curve) cx_X10_curve [eIA] (ca_X11_curve, cp_X11_curve, cq_X11_curve) (Q, x, m, w) (Q.1, x + 229, m, w) h := by
  have hN := (rpZ_N hJ.1).1
  have hv := hJ.2.2.1.1
  have rm : ∀ h1 : zH, (∀ q, x + 229 ≤ q → h1.1 q = h.1 q) → cp_X11_curve (Q.1, x + 229, m, w) h1 := fun h1 e => by
    have z := J_rm hJ e
    exact z.1
  refine ⟨hN, gs1 (G := gR m 0 (nI (dP Q.1)) ∧ gR w 0 2) (E1 := eIA) (k1 := 1) (w := vI (crv Q.1 (cN m) (cN w))) (w' := vI (crv Q.1 (cN m) (cN w))) (w0 := vI 0) (Ac := fun h0 => qf x h h0) (Am := fun h1 h2 => fq (x + 229) h1 h2 ∧ rok (x + 229) h1 h2) hJ (by omega) (fun r h0 z => ⟨z.1, z.2.1, z.2.2⟩) (fun E h1 z => z) (fun h0 ac => rm _ (qf_up ac)) (fun j v => rm _ no_up) (fun h1 r h2 z => z.2.elim (fun y => Or.inl ⟨y.1, ⟨z.1, y.2.1⟩, y.2.2⟩) (fun y => Or.inr ⟨y.1, z.1, y.2.1, y.2.2⟩)) ⟨⟨_, rfl⟩, ⟨_, rfl⟩⟩ (fun g1 h0 h2 ac am => ⟨?_, J_e hJ ac am⟩)⟩
  rfl
theorem cs_fault (hJ : JJ x (Q, Hs, c, p, k0, π) tl h) : Cn x isI (zcI ca_X10_fault cp_X10_fault cf_X10_fault) (ca_X11_fault, cp_X11_fault, cq_X11_fault) x (x + 229) h := by
  refine ⟨trivial, fun r h1 hq => ?_⟩
  obtain ⟨rfl, rfl⟩ := hq
  refine ⟨trivial, _, rfl, ⟨_, rfl⟩, fun r2 h2 hm => ?_⟩
  obtain ⟨rfl, f, k⟩ := hm
  exact ⟨congrArg some (congrArg vI hJ.2.2.2.2.1.symm), _, _, J_q hJ (qf_r _ _) f k⟩
theorem cs_status {w : Int32} (hJ : JJ x (Q, Hs, c, p, k0, π) tl h) : Cn x isI (zcI ca_X10_status cp_X10_status cf_X10_status) (ca_X11_status, cp_X11_status, cq_X11_status) (x, w) (x + 229, w) h := by
  refine ⟨trivial, fun r h1 hq => ?_⟩
  obtain ⟨rfl, rfl⟩ := hq
  refine ⟨trivial, _, rfl, ⟨_, rfl⟩, fun r2 h2 hm => ?_⟩
  obtain ⟨rfl, f, k⟩ := hm
  refine ⟨?_, _, _, J_q hJ (qf_r _ _) f k⟩
  have e0 := hJ.2.2.2.2.2.2 0 (by omega)
  have e1 := hJ.2.2.2.2.2.2 1 (by omega)
  have e2 := hJ.2.2.2.2.2.2 2 (by omega)
  show some (vI (if w = 0 then h1.1 (x + 230) 0 else if w = 1 then h1.1 (x + 230) 1 else if w = 2 then h1.1 (x + 230) 2 else -1)) = some (vI (if w = 0 then h1.1 x 5 else if w = 1 then h1.1 x 6 else if w = 2 then h1.1 x 7 else -1))
  rw [← e0, ← e1, ← e2]
theorem cs_nextPair (hJ : JJ x (Q, Hs, c, p, k0, π) tl h) : Cn x isI (ca_X10_nextPair, cp_X10_nextPair, cq_X10_nextPair) (ca_X11_nextPair, cp_X11_nextPair, cq_X11_nextPair) (Q, x) (Q.1, Q.2.2, x + 229) h := by
  have hv := hJ.2.2.1.1
  refine ⟨⟨(rpZ_N hJ.1).1, hv.2.2⟩, fun r h1 hq => ?_⟩
  obtain ⟨rfl, s⟩ := hq
  have f : qf x h h1 := sn_sm s (by omega) (by omega)
  have z := J_rm hJ (h1 := h1) (fun q hq => (f.1 q (Or.inr (by omega))).1)
  refine ⟨⟨z.1, z.2.2.1, hv.2.2.2⟩, _, rfl, ⟨_, rfl⟩, fun r2 h2 hm => ?_⟩
  obtain ⟨rfl, g, k⟩ := hm
  exact ⟨rfl, _, _, J_q hJ f g k⟩
theorem cs_print (hJ : JJ x (Q, Hs, c, p, k0, π) tl h) : Cn x isL (zcL ca_X10_print cp_X10_print cf_X10_print) (ca_X11_print, cp_X11_print, cq_X11_print) (Q, x) (Q.1, x + 229) h := by
  have hv := hJ.2.2.1.1
  refine ⟨⟨(rpZ_N hJ.1).1, hv.1⟩, fun r h1 hq => ?_⟩
  obtain ⟨rfl, rfl⟩ := hq
  refine ⟨⟨hJ.2.1.1, hv.1⟩, _, rfl, ⟨_, rfl⟩, fun r2 h2 hm => ?_⟩
  obtain ⟨rfl, g, k⟩ := hm
  exact ⟨rfl, _, _, J_q hJ (qf_r _ _) g k⟩
theorem cs_needs (hJ : JJ x (Q, Hs, c, p, k0, π) tl h) : Cn x isI (ca_X10_needs, cp_X10_needs, cq_X10_needs) (ca_X11_needs, cp_X11_needs, cq_X11_needs) (Q, x) (Q, Hs, c, x + 229) h := by
  have hv := hJ.2.2.1.1
  refine ⟨⟨(rpZ_N hJ.1).1, hv⟩, fun r h1 hq => ?_⟩
  obtain ⟨rfl, f⟩ := hq
  have eb : ∀ q, x + 229 ≤ q → h1.1 q = h.1 q := fun q hq => (f.1 q (Or.inr (by omega))).1
  refine ⟨⟨J_rm hJ eb, hv⟩, _, rfl, ⟨_, rfl⟩, fun r2 h2 hm => ?_⟩
  obtain ⟨rfl, g, r, w⟩ := hm
  refine ⟨rfl, (Q, Hs, c, p, k0, π), tl, ?_⟩
  obtain ⟨j1, j2, j3, ⟨t1, t2, t3, t4⟩, j5, j6, j7⟩ := hJ
  have ea : ∀ q, q < x + 180 → h2.1 q = h.1 q := fun q hq => ((g.1 q (Or.inl (by omega))).1).trans (f.1 q (Or.inl hq)).1
  have er : h2.2.2 = h.2.2 := g.2.1.trans f.2
  refine ⟨rpZ_rows j1 (fun q q1 q2 => ea q (by omega)) (by rw [ea _ (by omega)]) (by rw [ea _ (by omega)]) er, w, j3, ⟨?_, t2, ?_, ?_⟩, ?_, fun j hj => ?_, fun k hk => ?_⟩
  · rw [ea _ (by omega)]; exact t1
  · rw [g.2.2.1 17 (by omega), eb _ (by omega)]; exact t3
  · rw [ea _ (by omega), show x + 241 = x + 229 + 12 by omega, g.2.2.2 12 (by omega), eb _ (by omega)]; exact t4
  · rw [ea _ (by omega), g.2.2.1 23 (by omega), eb _ (by omega)]; exact j5
  · rw [er]; exact j6 j hj
  · rw [ea _ (by omega), show x + 230 = x + 229 + 1 by omega, r.2, eb _ (by omega)]; exact j7 k hk
end JQ

