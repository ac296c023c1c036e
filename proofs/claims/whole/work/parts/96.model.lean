/-! the law's invariant: the class at x, the reference at x + 229, the row for answers at x + 247 -/
def JJ (x : Nat) (Z : zP) (tl : Nat) (h : zH) : Prop := rpZ Z x h ∧ rmZ (Z.1, Z.2.1, Z.2.2.1) (x + 229) h ∧ (vQ Z.1 ∧ ∀ i, i < Z.2.2.1 → vQ (Z.2.1 i)) ∧ (h.1 (x + 171) 4 = nI tl ∧ tl ≤ 400 ∧ h.1 (x + 229) 17 = nI tl ∧ evB (h.1 (x + 179)) tl (h.1 (x + 241))) ∧ h.1 (x + 171) 1 = h.1 (x + 229) 23 ∧ rpC h (x + 192) ∧ ∀ k, k < 3 → h.1 x (5 + k) = h.1 (x + 230) k
def JE (x : Nat) (h : zH) : Prop := ∃ (Z : zP) (tl : Nat), JJ x Z tl h
theorem rpZ_rows {Z : zP} {x : Nat} {h h' : zH} (hZ : rpZ Z x h) (e : ∀ q, x < q → q < x + 171 → h'.1 q = h.1 q) (e2 : h'.1 x 2 = h.1 x 2) (e3 : h'.1 x 3 = h.1 x 3) (er : h'.2.2 = h.2.2) : rpZ Z x h' := by
  obtain ⟨Q, Hs, c, p, k0, π⟩ := Z
  obtain ⟨a1, a2, a3, a4, a5, a6, a7⟩ := hZ
  have hin : ∀ {Q : zQ} {k : Nat}, k < 13 → rpQ Q h (stA x k) → rpQ Q h' (stA x k) := fun hk hQ => rpQ_cg (fun q q1 q2 => e q (by have := stA_in x hk; omega) (by have := stA_in x hk; omega)) hQ
  refine ⟨by rw [er]; exact a1, by rw [er]; exact a2, a3, by rw [e2]; exact a4, by rw [e3]; exact a5, hin a1.2 a6, fun i hi => hin (a2 _ (Nat.mod_lt _ (by decide))).2.1 (a7 i hi)⟩
theorem rmZ_rows {Z : zQ × (Nat → zQ) × Nat} {y : Nat} {h h' : zH} (hZ : rmZ Z y h) (e0 : ∀ k, 9 ≤ k → k ≤ 11 → h'.1 y k = h.1 y k) (e : ∀ j, j = 2 ∨ j = 4 ∨ j = 5 ∨ j = 6 → h'.1 (y + j) = h.1 (y + j)) : rmZ Z y h' := by
  obtain ⟨Q, Hs, c⟩ := Z
  unfold rmZ rmS at hZ ⊢
  rw [e0 9 (by omega) (by omega), e0 10 (by omega) (by omega), e0 11 (by omega) (by omega), e 2 (by omega), e 4 (by omega), e 5 (by omega), e 6 (by omega)]
  exact hZ
theorem zsL_me (h : zH) (a : Nat) (v : Int64) : (zsL h a 0 v).2.1 a 0 = v := by
  show va_up h.2.1 a (va_up (h.2.1 a) 0 v) a 0 = v
  rw [zup_s, zup_s]
section JS
variable {x tl : Nat} {Z : zP} {h h0 h1 h2 : zH}
/-- what stays if the rows that matter stay -/
theorem JJ_keep (hJ : JJ x Z tl h) (e : ∀ q, x < q → q < x + 180 → h2.1 q = h.1 q) (e2 : h2.1 x 2 = h.1 x 2) (e3 : h2.1 x 3 = h.1 x 3) (er : h2.2.2 = h.2.2) (m0 : ∀ k, (9 ≤ k ∧ k ≤ 11) ∨ k = 17 ∨ k = 23 → h2.1 (x + 229) k = h.1 (x + 229) k) (m : ∀ j, j = 2 ∨ j = 4 ∨ j = 5 ∨ j = 6 ∨ j = 12 → h2.1 (x + 229 + j) = h.1 (x + 229 + j)) (hc : ∀ k, k < 3 → h2.1 x (5 + k) = h2.1 (x + 230) k) : JJ x Z tl h2 := by
  obtain ⟨j1, j2, j3, ⟨t1, t2, t3, t4⟩, j5, j6, -⟩ := hJ
  refine ⟨rpZ_rows j1 (fun q q1 q2 => e q q1 (by omega)) e2 e3 er, rmZ_rows j2 (fun k k1 k2 => m0 k (by omega)) (fun j hj => m j (by omega)), j3, ⟨by rw [e _ (by omega) (by omega)]; exact t1, t2, by rw [m0 17 (by omega)]; exact t3, ?_⟩, ?_, fun j hj => by rw [er]; exact j6 j hj, hc⟩
  · rw [e (x + 179) (by omega) (by omega), show x + 241 = x + 229 + 12 by omega, m 12 (by omega)]
    exact t4
  · rw [e (x + 171) (by omega) (by omega), m0 23 (by omega)]
    exact j5
theorem J_rm (hJ : JJ x Z tl h) (e : ∀ q, x + 229 ≤ q → h1.1 q = h.1 q) : rmZ (Z.1, Z.2.1, Z.2.2.1) (x + 229) h1 := rmZ_rows hJ.2.1 (fun k _ _ => by rw [e _ (by omega)]) (fun j _ => e _ (by omega))
theorem qf_up {v : Int64} (f : qf x h h0) : ∀ q, x + 229 ≤ q → (zsL h0 (x + 247) 0 v).1 q = h.1 q := fun q hq => (f.1 q (Or.inr (by omega))).1
theorem mf_up {v : Int64} (f : mf x h h0) : ∀ q, x + 229 ≤ q → (zsL h0 (x + 247) 0 v).1 q = h.1 q := fun q hq => f.1.1 q (Or.inr (by omega))
theorem no_up {j : Nat} {v : Int32} : ∀ q, x + 229 ≤ q → (zsI h x j v).1 q = h.1 q := fun q hq => zsI_ro _ _ _ (by omega)
/-- both answer, nothing that matters has changed -/
theorem J_ok {v : Int64} (hJ : JJ x Z tl h) (f : qf x h h0) (g : fq (x + 229) (zsL h0 (x + 247) 0 v) h2) (r : rok (x + 229) (zsL h0 (x + 247) 0 v) h2) : h2.1 (x + 229) 0 = 0 ∧ h2.2.1 (x + 247) 0 = v ∧ JJ x Z tl h2 := by
  refine ⟨r.1, by rw [(g.1 (x + 247) (Or.inr (by omega))).2]; exact zsL_me _ _ _, ?_⟩
  have ea : ∀ q, q < x + 180 → h2.1 q = h.1 q := fun q hq => ((g.1 q (Or.inl (by omega))).1).trans (f.1 q (Or.inl hq)).1
  have eb : ∀ q, x + 229 ≤ q → (zsL h0 (x + 247) 0 v).1 q = h.1 q := qf_up f
  refine JJ_keep hJ (fun q q1 q2 => ea q q2) (by rw [ea _ (by omega)]) (by rw [ea _ (by omega)]) (g.2.1.trans f.2) (fun k hk => by rw [g.2.2.1 k hk, eb _ (by omega)]) (fun j hj => by rw [g.2.2.2 j hj, eb _ (by omega)]) (fun k hk => ?_)
  rw [ea _ (by omega), show x + 230 = x + 229 + 1 by omega, r.2, eb _ (by omega)]
  exact hJ.2.2.2.2.2.2 k hk
/-- both refuse, for the same reason -/
theorem J_no {k : Nat} {c : Int32} (hk : k < 3) (hJ : JJ x Z tl h) (g : fq (x + 229) (zsI h x (5 + k) (h.1 x (5 + k) + 1)) h2) (r : rno (x + 229) c k (zsI h x (5 + k) (h.1 x (5 + k) + 1)) h2) : h2.1 (x + 229) 0 = c ∧ JJ x Z tl h2 := by
  refine ⟨r.1, ?_⟩
  have ea : ∀ q, q < x + 229 → h2.1 q = (zsI h x (5 + k) (h.1 x (5 + k) + 1)).1 q := fun q hq => (g.1 q (Or.inl hq)).1
  refine JJ_keep hJ (fun q q1 q2 => by rw [ea q (by omega), zsI_ro _ _ _ (by omega)]) (by rw [ea _ (by omega), zsI_at _ _ _ _ _ (by omega)]) (by rw [ea _ (by omega), zsI_at _ _ _ _ _ (by omega)]) g.2.1 (fun j hj => by rw [g.2.2.1 j hj, zsI_ro _ _ _ (by omega)]) (fun j hj => by rw [g.2.2.2 j hj, zsI_ro _ _ _ (by omega)]) (fun j hj => ?_)
  have ec : ∀ j, (zsI h x (5 + k) (h.1 x (5 + k) + 1)).1 (x + 230) j = h.1 (x + 230) j := fun j => by rw [zsI_ro _ _ _ (by omega)]
  rw [ea _ (by omega), show h2.1 (x + 230) = va_up ((zsI h x (5 + k) (h.1 x (5 + k) + 1)).1 (x + 230)) k ((zsI h x (5 + k) (h.1 x (5 + k) + 1)).1 (x + 230) k + 1) from r.2, ec]
  by_cases e : j = k
  · subst e
    rw [zsI_me, zup_s, hJ.2.2.2.2.2.2 j hj]
  · rw [zsI_at _ _ _ _ _ (by omega), zup_n _ _ e, ec]
    exact hJ.2.2.2.2.2.2 j hj
/-- both change the state alike -/
theorem J_ch {v : Int64} {Q' : zQ} {Hs' : Nat → zQ} {c' p' k' : Nat} {π' : Nat → Nat} (hJ : JJ x Z tl h) (z : rpZ (Q', Hs', c', p', k', π') x h0) (f : mf x h h0) (g : fs (x + 229) (zsL h0 (x + 247) 0 v) h2) (r : rok (x + 229) (zsL h0 (x + 247) 0 v) h2) (w : rmZ (Q', Hs', c') (x + 229) h2) (hv : vQ Q' ∧ ∀ i, i < c' → vQ (Hs' i)) : h2.1 (x + 229) 0 = 0 ∧ h2.2.1 (x + 247) 0 = v ∧ JJ x (Q', Hs', c', p', k', π') tl h2 := by
  refine ⟨r.1, by rw [(g.1 (x + 247) (Or.inr (by omega))).2]; exact zsL_me _ _ _, ?_⟩
  obtain ⟨j1, j2, j3, ⟨t1, t2, t3, t4⟩, j5, j6, j7⟩ := hJ
  have ea : ∀ q, q < x + 229 → h2.1 q = h0.1 q := fun q hq => (g.1 q (Or.inl (by omega))).1
  have eb : ∀ q, x + 171 ≤ q → h0.1 q = h.1 q := fun q hq => f.1.1 q (Or.inr hq)
  have er : h2.2.2 = h0.2.2 := g.2.1
  refine ⟨rpZ_rows z (fun q q1 q2 => ea q (by omega)) (by rw [ea _ (by omega)]) (by rw [ea _ (by omega)]) er, w, hv, ⟨?_, t2, ?_, ?_⟩, ?_, fun j hj => ?_, fun k hk => ?_⟩
  · rw [ea _ (by omega), eb _ (by omega)]; exact t1
  · rw [g.2.2.1 17 (by omega)]; show h0.1 (x + 229) 17 = _; rw [eb _ (by omega)]; exact t3
  · rw [ea _ (by omega), eb _ (by omega), show x + 241 = x + 229 + 12 by omega, g.2.2.2 12 (by omega)]; show evB _ _ (h0.1 (x + 229 + 12)); rw [eb _ (by omega)]; exact t4
  · rw [ea _ (by omega), eb _ (by omega), g.2.2.1 23 (by omega)]; show _ = h0.1 (x + 229) 23; rw [eb _ (by omega)]; exact j5
  · rw [er, f.1.2]; exact j6 j hj
  · rw [ea _ (by omega), f.2 _ (by omega) (by omega), show x + 230 = x + 229 + 1 by omega, r.2]; show _ = h0.1 (x + 229 + 1) k; rw [eb _ (by omega)]; exact j7 k hk
/-- one reason to refuse -/
theorem gs1 {G : Prop} {E1 : String} {k1 : Nat} {w w' w0 : zV} {I : zV → Prop} {post : Option zV → zH → Prop} {dth : String → zH → Prop} {pm : zH → Prop} {qm : zH → Option zV → zH → Prop} {Ac : zH → Prop} {Am : zH → zH → Prop} (hJ : JJ x Z tl h) (hk1 : k1 < 3)
    (hc : ∀ r h0, post r h0 → G ∧ r = some w ∧ Ac h0) (hd : ∀ E h1, dth E h1 → ¬ G ∧ E = E1 ∧ h1 = zsI h x (5 + k1) (h.1 x (5 + k1) + 1))
    (hpo : ∀ h0, Ac h0 → pm (zsL h0 (x + 247) 0 (lvV w))) (hpn : ∀ j v, pm (zsI h x j v))
    (hm : ∀ h1 r h2, qm h1 r h2 → (G ∧ Am h1 h2 ∧ r = some w') ∨ (¬ G ∧ fq (x + 229) h1 h2 ∧ rno (x + 229) 1 k1 h1 h2 ∧ r = some w0))
    (hI : I w' ∧ I w0) (hac : G → ∀ h0 h2, Ac h0 → Am (zsL h0 (x + 247) 0 (lvV w)) h2 → w' = w ∧ h2.1 (x + 229) 0 = 0 ∧ h2.2.1 (x + 247) 0 = lvV w ∧ JE x h2) :
    ∀ (r : Option zV) (h1 : zH), ((∃ (w : zV) (h0 : zH), post (some w) h0 ∧ r = some (vI 0) ∧ h1 = zsL h0 (x + 247) 0 (lvV w)) ∨ (∃ (E : String) (i : Nat), dth E h1 ∧ ([E1] : List String)[i]? = some E ∧ r = some (vI (nI (i + 1))))) → ∃ k : Int32, r = some (vI k) ∧ pm h1 ∧ ∀ r2 h2, qm h1 r2 h2 → ∃ w2, r2 = some w2 ∧ I w2 ∧ h2.1 (x + 229) 0 = k ∧ (k = 0 → h2.2.1 (x + 247) 0 = lvV w2) ∧ JE x h2 := by
  intro r h1 hq
  rcases hq with ⟨w1, h0, hq, rfl, rfl⟩ | ⟨E, i, hq, hi, rfl⟩
  · obtain ⟨g, e, ac⟩ := hc _ _ hq
    cases e
    refine ⟨0, rfl, hpo h0 ac, fun r2 h2 h3 => ?_⟩
    rcases hm _ _ _ h3 with ⟨-, am, rfl⟩ | ⟨n, -⟩
    · obtain ⟨e1, e2, e3, e4⟩ := hac g h0 h2 ac am
      subst e1
      exact ⟨_, rfl, hI.1, e2, fun _ => e3, e4⟩
    · exact absurd g n
  · obtain ⟨n, e1, e2⟩ := hd _ _ hq
    have i0 : i = 0 := by
      rcases i with _ | i
      · rfl
      · simp at hi
    subst i0
    subst e2
    refine ⟨1, rfl, hpn _ _, fun r2 h2 h3 => ?_⟩
    rcases hm _ _ _ h3 with ⟨g, -⟩ | ⟨-, f, rn, rfl⟩
    · exact absurd g n
    · obtain ⟨a, b⟩ := J_no hk1 hJ f rn
      exact ⟨_, rfl, hI.2, a, fun z => absurd z (by decide), _, _, b⟩
/-- two reasons to refuse, the first before the second -/
theorem gs2 {G1 G2 N1 : Prop} {E1 E2 : String} {k1 k2 : Nat} {w w' w0 : zV} {I : zV → Prop} {post : Option zV → zH → Prop} {dth : String → zH → Prop} {pm : zH → Prop} {qm : zH → Option zV → zH → Prop} {Ac : zH → Prop} {Am : zH → zH → Prop} (hJ : JJ x Z tl h) (hN : N1 → ¬ G1) (hE : ¬ E1 = E2) (hk1 : k1 < 3) (hk2 : k2 < 3)
    (hc : ∀ r h0, post r h0 → G1 ∧ G2 ∧ r = some w ∧ Ac h0) (hd : ∀ E h1, dth E h1 → (N1 ∧ E = E1 ∧ h1 = zsI h x (5 + k1) (h.1 x (5 + k1) + 1)) ∨ (G1 ∧ ¬ G2 ∧ E = E2 ∧ h1 = zsI h x (5 + k2) (h.1 x (5 + k2) + 1)))
    (hpo : ∀ h0, Ac h0 → pm (zsL h0 (x + 247) 0 (lvV w))) (hpn : ∀ j v, pm (zsI h x j v))
    (hm : ∀ h1 r h2, qm h1 r h2 → (G1 ∧ G2 ∧ Am h1 h2 ∧ r = some w') ∨ (N1 ∧ fq (x + 229) h1 h2 ∧ rno (x + 229) 1 k1 h1 h2 ∧ r = some w0) ∨ (G1 ∧ ¬ G2 ∧ fq (x + 229) h1 h2 ∧ rno (x + 229) 2 k2 h1 h2 ∧ r = some w0))
    (hI : I w' ∧ I w0) (hac : G1 → G2 → ∀ h0 h2, Ac h0 → Am (zsL h0 (x + 247) 0 (lvV w)) h2 → w' = w ∧ h2.1 (x + 229) 0 = 0 ∧ h2.2.1 (x + 247) 0 = lvV w ∧ JE x h2) :
    ∀ (r : Option zV) (h1 : zH), ((∃ (w : zV) (h0 : zH), post (some w) h0 ∧ r = some (vI 0) ∧ h1 = zsL h0 (x + 247) 0 (lvV w)) ∨ (∃ (E : String) (i : Nat), dth E h1 ∧ ([E1, E2] : List String)[i]? = some E ∧ r = some (vI (nI (i + 1))))) → ∃ k : Int32, r = some (vI k) ∧ pm h1 ∧ ∀ r2 h2, qm h1 r2 h2 → ∃ w2, r2 = some w2 ∧ I w2 ∧ h2.1 (x + 229) 0 = k ∧ (k = 0 → h2.2.1 (x + 247) 0 = lvV w2) ∧ JE x h2 := by
  intro r h1 hq
  rcases hq with ⟨w1, h0, hq, rfl, rfl⟩ | ⟨E, i, hq, hi, rfl⟩
  · obtain ⟨g1, g2, e, ac⟩ := hc _ _ hq
    cases e
    refine ⟨0, rfl, hpo h0 ac, fun r2 h2 h3 => ?_⟩
    rcases hm _ _ _ h3 with ⟨-, -, am, rfl⟩ | ⟨n, -⟩ | ⟨-, n, -⟩
    · obtain ⟨e1, e2, e3, e4⟩ := hac g1 g2 h0 h2 ac am
      subst e1
      exact ⟨_, rfl, hI.1, e2, fun _ => e3, e4⟩
    · exact absurd g1 (hN n)
    · exact absurd g2 n
  · have hi2 : (i = 0 ∧ E = E1) ∨ (i = 1 ∧ E = E2) := by
      rcases i with _ | _ | i
      · exact Or.inl ⟨rfl, (Option.some.inj hi).symm⟩
      · exact Or.inr ⟨rfl, (Option.some.inj hi).symm⟩
      · simp at hi
    rcases hd _ _ hq with ⟨n, e1, e2⟩ | ⟨g, n, e1, e2⟩
    · have i0 : i = 0 := by
        rcases hi2 with z | z
        · exact z.1
        · exact absurd (e1.symm.trans z.2) hE
      subst i0
      subst e2
      refine ⟨1, rfl, hpn _ _, fun r2 h2 h3 => ?_⟩
      rcases hm _ _ _ h3 with ⟨g, -⟩ | ⟨-, f, rn, rfl⟩ | ⟨g, -⟩
      · exact absurd g (hN n)
      · obtain ⟨a, b⟩ := J_no hk1 hJ f rn
        exact ⟨_, rfl, hI.2, a, fun z => absurd z (by decide), _, _, b⟩
      · exact absurd g (hN n)
    · have i0 : i = 1 := by
        rcases hi2 with z | z
        · exact absurd (z.2.symm.trans e1) hE
        · exact z.1
      subst i0
      subst e2
      refine ⟨2, rfl, hpn _ _, fun r2 h2 h3 => ?_⟩
      rcases hm _ _ _ h3 with ⟨-, g2, -⟩ | ⟨n1, -⟩ | ⟨-, -, f, rn, rfl⟩
      · exact absurd g2 n
      · exact absurd g (hN n1)
      · obtain ⟨a, b⟩ := J_no hk2 hJ f rn
        exact ⟨_, rfl, hI.2, a, fun z => absurd z (by decide), _, _, b⟩
end JS
def isI (w : zV) : Prop := ∃ b : Int32, w = vI b
def isL (w : zV) : Prop := ∃ b : Int64, w = vL b
/-- what a case of the law asks: the class's call through its wrapper, then the reference's -/
def Cw {α β : Type} (x : Nat) (I : zV → Prop) (c : zC α) (d : α → zH → String → zH → Prop) (ks : List String) (m : zC β) (xa : α) (ya : β) (h : zH) : Prop := c.2.1 xa h ∧ ∀ (r : Option zV) (h1 : zH), wQ c.2.2 d ks (xa, x + 247) h r h1 → ∃ k : Int32, r = some (vI k) ∧ m.2.1 ya h1 ∧ ∀ r2 h2, m.2.2 ya h1 r2 h2 → ∃ w2, r2 = some w2 ∧ I w2 ∧ h2.1 (x + 229) 0 = k ∧ (k = 0 → h2.2.1 (x + 247) 0 = lvV w2) ∧ JE x h2
/-- the same without a wrapper -/
def Cn {α β : Type} (x : Nat) (I : zV → Prop) (c : zC α) (m : zC β) (xa : α) (ya : β) (h : zH) : Prop := c.2.1 xa h ∧ ∀ (r : Option zV) (h1 : zH), c.2.2 xa h r h1 → m.2.1 ya h1 ∧ ∃ w, r = some w ∧ I w ∧ ∀ r2 h2, m.2.2 ya h1 r2 h2 → r2 = some w ∧ JE x h2

