/-! the law's cases: text, feed -/
theorem by4_b (v : Int32) (i : Nat) : 0 ≤ by4 v i ∧ by4 v i ≤ 255 := by
  obtain ⟨j, hj, e⟩ := pk_andE (v >>> (sh8 i &&& 31)) (m := 255) 8 (by decide)
  unfold by4
  rw [e]
  exact ⟨nI_pos' (by omega), (nI_leI (b := 255) (by omega) (by omega)).mpr (by omega)⟩
theorem fd5_b (v1 v2 v3 v4 v5 : Int32) (q : Nat) : 0 ≤ fd5 v1 v2 v3 v4 v5 q ∧ fd5 v1 v2 v3 v4 v5 q ≤ 255 := by
  have ht : ∀ (m : Nat) (g g2 : Nat → Int32) (q : Nat), (∀ q, 0 ≤ g q ∧ g q ≤ 255) → (∀ q, 0 ≤ g2 q ∧ g2 q ≤ 255) → 0 ≤ tpC m g g2 q ∧ tpC m g g2 q ≤ 255 := fun m g g2 q a b => by
    unfold tpC
    split
    · exact a q
    · exact b _
  exact ht _ _ _ _ (fun q => ht _ _ _ _ (fun q => ht _ _ _ _ (fun q => ht _ _ _ _ (by4_b v1) (by4_b v2)) (by4_b v3)) (by4_b v4)) (by4_b v5)
section JT
variable {x tl : Nat} {Q : zQ} {Hs : Nat → zQ} {c p k0 : Nat} {π : Nat → Nat} {h : zH}
theorem J_t {h0 h2 : zH} {v : Int64} {R : zU × zD} {Q' : zQ} {c' : Nat} (hJ : JJ x (Q, Hs, c, p, k0, π) tl h) (hv : vQ Q' ∧ ∀ i, i < c' → vQ (Hs i)) (a1 : sm x 179 h h0) (a2 : h0.1 (x + 171) 4 = 0 ∧ h0.1 (x + 171) 1 = R.1.2.2.1) (a3 : ∀ k, k ≠ 2 → h0.1 x k = h.1 x k) (a4 : rpZ (Q', Hs, c', p, k0, π) x h0) (b1 : (∀ q, q < x + 229 ∨ x + 229 + 18 ≤ q → h2.1 q = (zsL h0 (x + 247) 0 v).1 q ∧ h2.2.1 q = (zsL h0 (x + 247) 0 v).2.1 q) ∧ h2.2.2 = (zsL h0 (x + 247) 0 v).2.2) (b2 : rok (x + 229) (zsL h0 (x + 247) 0 v) h2) (b3 : h2.1 (x + 229) 17 = 0 ∧ h2.1 (x + 229) 23 = R.1.2.2.1) (b4 : rmZ (Q', Hs, c') (x + 229) h2) : h2.1 (x + 229) 0 = 0 ∧ h2.2.1 (x + 247) 0 = v ∧ JE x h2 := by
  refine ⟨b2.1, by rw [(b1.1 (x + 247) (Or.inr (by omega))).2]; exact zsL_me _ _ _, (Q', Hs, c', p, k0, π), 0, ?_⟩
  obtain ⟨j1, j2, j3, ⟨t1, t2, t3, t4⟩, j5, j6, j7⟩ := hJ
  have ea : ∀ q, q < x + 229 → h2.1 q = h0.1 q := fun q hq => (b1.1 q (Or.inl hq)).1
  have er : h2.2.2 = h0.2.2 := b1.2
  refine ⟨rpZ_rows a4 (fun q q1 q2 => ea q (by omega)) (by rw [ea _ (by omega)]) (by rw [ea _ (by omega)]) er, b4, hv, ⟨?_, Nat.zero_le _, ?_, fun j hj => absurd hj (Nat.not_lt_zero _)⟩, ?_, fun j hj => ?_, fun k hk => ?_⟩
  · rw [ea _ (by omega)]; exact a2.1
  · exact b3.1
  · rw [ea _ (by omega), b3.2]; exact a2.2
  · rw [er, a1.2]; exact j6 j hj
  · rw [ea _ (by omega), a3 _ (by omega), show x + 230 = x + 229 + 1 by omega, b2.2]
    show _ = h0.1 (x + 229 + 1) k
    rw [a1.1 _ (Or.inr (by omega))]
    exact j7 k hk
theorem cs_text {n : Int32} (hJ : JJ x (Q, Hs, c, p, k0, π) tl h) : Cw x isI (ca_X10_text, cp_X10_text, cq_X10_text) cx_X10_text [eIA] (ca_X11_text, cp_X11_text, cq_X11_text) (Q, Hs, c, p, k0, π, x, n, tl, h.1 (x + 179), h.1 (x + 171) 7) (Q, Hs, c, x + 229, n, tl, h.1 (x + 179), h.1 (x + 171) 7) h := by
  have hv : vQ Q ∧ ∀ i, i < c → vQ (Hs i) := hJ.2.2.1
  have ht := hJ.2.2.2.1
  have rm : ∀ h1 : zH, (∀ q, x + 229 ≤ q → h1.1 q = h.1 q) → cp_X11_text (Q, Hs, c, x + 229, n, tl, h.1 (x + 179), h.1 (x + 171) 7) h1 := fun h1 e => ⟨J_rm hJ e, ⟨by rw [e _ (by omega)]; exact ht.2.2.1, ht.2.1⟩, by rw [e _ (by omega)]; exact ht.2.2.2⟩
  have hR := vS_rd (T := h.1 (x + 179)) (n := cN n) (m := h.1 (x + 171) 7)
  generalize hRe : rdT (h.1 (x + 179)) (cN n) (h.1 (x + 171) 7) = R at hR
  have hpre : cp_X10_text (Q, Hs, c, p, k0, π, x, n, tl, h.1 (x + 179), h.1 (x + 171) 7) h := ⟨hJ.1, ⟨ht.1, ht.2.1⟩, rfl, rfl⟩
  have hc : ∀ r h0, cq_X10_text (Q, Hs, c, p, k0, π, x, n, tl, h.1 (x + 179), h.1 (x + 171) 7) h r h0 → gR n 0 (nI tl) ∧ txP (Q, Hs, c, p, k0, π) x R h r h0 := fun r h0 z => by
    have z : gR n 0 (nI tl) ∧ txP (Q, Hs, c, p, k0, π) x (rdT (h.1 (x + 179)) (cN n) (h.1 (x + 171) 7)) h r h0 := z
    rw [hRe] at z
    exact z
  have hm : ∀ h1 r h2, cq_X11_text (Q, Hs, c, x + 229, n, tl, h.1 (x + 179), h.1 (x + 171) 7) h1 r h2 → (gR n 0 (nI tl) ∧ tmP (Q, Hs, c) (x + 229) R h1 r h2) ∨ (¬ gR n 0 (nI tl) ∧ fq (x + 229) h1 h2 ∧ rno (x + 229) 1 1 h1 h2 ∧ r = some (vI 0)) := fun h1 r h2 z => by
    have z : (gR n 0 (nI tl) ∧ tmP (Q, Hs, c) (x + 229) (rdT (h.1 (x + 179)) (cN n) (h.1 (x + 171) 7)) h1 r h2) ∨ (¬ gR n 0 (nI tl) ∧ fq (x + 229) h1 h2 ∧ rno (x + 229) 1 1 h1 h2 ∧ r = some (vI 0)) := z
    rw [hRe] at z
    exact z
  by_cases e : R.1.2.1 = 0
  · exact ⟨hpre, gs1 (G := gR n 0 (nI tl)) (E1 := eIA) (k1 := 1) (w := vI (nI (dP R.2))) (w' := vI (nI (dP R.2))) (w0 := vI 0) (Ac := fun h0 => sm x 179 h h0 ∧ (h0.1 (x + 171) 4 = 0 ∧ h0.1 (x + 171) 1 = R.1.2.2.1) ∧ (∀ k, k ≠ 2 → h0.1 x k = h.1 x k) ∧ rpZ ((R.2, eZ, gZ), Hs, 0, p, k0, π) x h0) (Am := fun h1 h2 => ((∀ q, q < x + 229 ∨ x + 229 + 18 ≤ q → h2.1 q = h1.1 q ∧ h2.2.1 q = h1.2.1 q) ∧ h2.2.2 = h1.2.2) ∧ rok (x + 229) h1 h2 ∧ (h2.1 (x + 229) 17 = 0 ∧ h2.1 (x + 229) 23 = R.1.2.2.1) ∧ rmZ ((R.2, eZ, gZ), Hs, 0) (x + 229) h2) hJ (by omega) (fun r h0 z => ⟨(hc r h0 z).1, ((hc r h0 z).2.2.2.2.2 e).1, (hc r h0 z).2.1, (hc r h0 z).2.2.1, (hc r h0 z).2.2.2.1, ((hc r h0 z).2.2.2.2.2 e).2⟩) (fun E h1 z => z) (fun h0 ac => rm _ (fun q hq => ac.1.1 q (Or.inr (by omega)))) (fun j v => rm _ no_up) (fun h1 r h2 z => (hm h1 r h2 z).elim (fun y => Or.inl ⟨y.1, ⟨y.2.1, y.2.2.1, y.2.2.2.1, (y.2.2.2.2.2 e).2⟩, (y.2.2.2.2.2 e).1⟩) Or.inr) ⟨⟨_, rfl⟩, ⟨_, rfl⟩⟩ (fun g h0 h2 ac am => ⟨rfl, J_t (Q' := (R.2, eZ, gZ)) (c' := 0) hJ ⟨⟨hR e, fun i hi => absurd hi (Nat.not_lt_zero _), fun i j hi => absurd hi (Nat.not_lt_zero _), fun i hi => absurd hi (Nat.not_lt_zero _)⟩, fun i hi => absurd hi (Nat.not_lt_zero _)⟩ ac.1 ac.2.1 ac.2.2.1 ac.2.2.2 am.1 am.2.1 am.2.2.1 am.2.2.2⟩)⟩
  · exact ⟨hpre, gs1 (G := gR n 0 (nI tl)) (E1 := eIA) (k1 := 1) (w := vI (R.1.2.1 - 10)) (w' := vI (R.1.2.1 - 10)) (w0 := vI 0) (Ac := fun h0 => sm x 179 h h0 ∧ (h0.1 (x + 171) 4 = 0 ∧ h0.1 (x + 171) 1 = R.1.2.2.1) ∧ (∀ k, k ≠ 2 → h0.1 x k = h.1 x k) ∧ rpZ (Q, Hs, c, p, k0, π) x h0) (Am := fun h1 h2 => ((∀ q, q < x + 229 ∨ x + 229 + 18 ≤ q → h2.1 q = h1.1 q ∧ h2.2.1 q = h1.2.1 q) ∧ h2.2.2 = h1.2.2) ∧ rok (x + 229) h1 h2 ∧ (h2.1 (x + 229) 17 = 0 ∧ h2.1 (x + 229) 23 = R.1.2.2.1) ∧ rmZ (Q, Hs, c) (x + 229) h2) hJ (by omega) (fun r h0 z => ⟨(hc r h0 z).1, ((hc r h0 z).2.2.2.2.1 e).1, (hc r h0 z).2.1, (hc r h0 z).2.2.1, (hc r h0 z).2.2.2.1, ((hc r h0 z).2.2.2.2.1 e).2⟩) (fun E h1 z => z) (fun h0 ac => rm _ (fun q hq => ac.1.1 q (Or.inr (by omega)))) (fun j v => rm _ no_up) (fun h1 r h2 z => (hm h1 r h2 z).elim (fun y => Or.inl ⟨y.1, ⟨y.2.1, y.2.2.1, y.2.2.2.1, (y.2.2.2.2.1 e).2⟩, (y.2.2.2.2.1 e).1⟩) Or.inr) ⟨⟨_, rfl⟩, ⟨_, rfl⟩⟩ (fun g h0 h2 ac am => ⟨rfl, J_t (Q' := Q) (c' := c) hJ hv ac.1 ac.2.1 ac.2.2.1 ac.2.2.2 am.1 am.2.1 am.2.2.1 am.2.2.2⟩)⟩
theorem cs_feed {v1 v2 v3 v4 v5 : Int32} (hJ : JJ x (Q, Hs, c, p, k0, π) tl h) : Cn x isI (ca_X10_feed, cp_X10_feed, cq_X10_feed) (ca_X11_feed, cp_X11_feed, cq_X11_feed) (x, tl, v1, v2, v3, v4, v5) (x + 229, tl, v1, v2, v3, v4, v5) h := by
  obtain ⟨j1, j2, j3, ⟨t1, t2, t3, t4⟩, j5, j6, j7⟩ := id hJ
  refine ⟨⟨t1, t2⟩, fun r h1 hq => ?_⟩
  have hq : (400 < tl + 20 → r = some (vI (-1)) ∧ h1 = h) ∧ (tl + 20 ≤ 400 → r = some (vI (nI (tl + 20))) ∧ tpW (x + 171) tl 20 (fd5 v1 v2 v3 v4 v5) h h1) := hq
  rcases Nat.lt_or_ge 400 (tl + 20) with hl | hl
  · obtain ⟨rfl, rfl⟩ := hq.1 hl
    refine ⟨⟨t3, t2⟩, _, rfl, ⟨_, rfl⟩, fun r2 h2 hm => ?_⟩
    have hm : (400 < tl + 20 → r2 = some (vI (-1)) ∧ h2 = zsI h1 (x + 229) 0 0) ∧ (tl + 20 ≤ 400 → r2 = some (vI (nI (tl + 20))) ∧ tqW (x + 229) tl 20 (fd5 v1 v2 v3 v4 v5) (zsI h1 (x + 229) 0 0) h2) := hm
    obtain ⟨rfl, rfl⟩ := hm.1 hl
    exact ⟨rfl, _, _, J_q hJ (qf_r _ _) (fq_0 _ _).1 (fq_0 _ _).2⟩
  · obtain ⟨rfl, f, F, rfl, a1, a2, a3, a4⟩ := hq.2 hl
    have eb : ∀ q, q ≠ x + 171 → q ≠ x + 179 → (zsW (zsW h (x + 171 + 8) f) (x + 171) F).1 q = h.1 q := fun q q1 q2 => by rw [zsW_n _ _ q1, zsW_n _ _ (by omega)]
    refine ⟨⟨by rw [eb _ (by omega) (by omega)]; exact t3, t2⟩, _, rfl, ⟨_, rfl⟩, fun r2 h2 hm => ?_⟩
    have hm : (400 < tl + 20 → r2 = some (vI (-1)) ∧ h2 = zsI (zsW (zsW h (x + 171 + 8) f) (x + 171) F) (x + 229) 0 0) ∧ (tl + 20 ≤ 400 → r2 = some (vI (nI (tl + 20))) ∧ tqW (x + 229) tl 20 (fd5 v1 v2 v3 v4 v5) (zsI (zsW (zsW h (x + 171 + 8) f) (x + 171) F) (x + 229) 0 0) h2) := hm
    obtain ⟨rfl, g, G, rfl, b1, b2, b3, b4⟩ := hm.2 hl
    refine ⟨rfl, (Q, Hs, c, p, k0, π), tl + 20, ?_⟩
    generalize hh1 : zsW (zsW h (x + 171 + 8) f) (x + 171) F = h1 at *
    have ec : ∀ q, q ≠ x + 229 → q ≠ x + 241 → (zsW (zsW (zsI h1 (x + 229) 0 0) (x + 229 + 12) g) (x + 229) G).1 q = h1.1 q := fun q q1 q2 => by rw [zsW_n _ _ q1, zsW_n _ _ (by omega), zsI_ro _ _ _ q1]
    have eG : ∀ k, k ≠ 17 → k ≠ 0 → (zsW (zsW (zsI h1 (x + 229) 0 0) (x + 229 + 12) g) (x + 229) G).1 (x + 229) k = h.1 (x + 229) k := fun k k1 k2 => by rw [zsW_s, b2 k k1, zsI_at _ _ _ _ _ k2, eb _ (by omega) (by omega)]
    have e171 : h1.1 (x + 171) = F := by rw [← hh1, zsW_s]
    have e179 : h1.1 (x + 179) = f := by rw [← hh1, zsW_n _ _ (by omega), show x + 179 = x + 171 + 8 by omega, zsW_s]
    refine ⟨rpZ_rows j1 (fun q q1 q2 => by rw [ec _ (by omega) (by omega), eb _ (by omega) (by omega)]) (by rw [ec _ (by omega) (by omega), eb _ (by omega) (by omega)]) (by rw [ec _ (by omega) (by omega), eb _ (by omega) (by omega)]) (by rw [← hh1]; rfl), rmZ_rows j2 (fun k k1 k2 => eG k (by omega) (by omega)) (fun j hj => by rw [ec _ (by omega) (by omega), eb _ (by omega) (by omega)]), j3, ⟨?_, by omega, ?_, ?_⟩, ?_, fun j hj => ?_, fun k hk => ?_⟩
    · rw [ec _ (by omega) (by omega), e171]; exact a1
    · rw [zsW_s]; exact b1
    · rw [ec _ (by omega) (by omega), e179, zsW_n _ _ (by omega), show x + 241 = x + 229 + 12 by omega, zsW_s]
      intro j hj
      by_cases hlt : j < tl
      · rw [b3 j hlt, zsI_ro _ _ _ (by omega), eb _ (by omega) (by omega), a3 j hlt]
        exact t4 j hlt
      · have e1 : j = tl + (j - tl) := by omega
        rw [e1, b4 _ (by omega), a4 _ (by omega)]
        exact ⟨rfl, fd5_b _ _ _ _ _ _⟩
    · rw [ec _ (by omega) (by omega), e171, eG 23 (by omega) (by omega), a2 1 (by omega)]; exact j5
    · show h1.2.2 (x + 192 + 1) j = _
      rw [← hh1]; exact j6 j hj
    · rw [ec _ (by omega) (by omega), ec _ (by omega) (by omega), eb _ (by omega) (by omega), eb _ (by omega) (by omega)]; exact j7 k hk
end JT

