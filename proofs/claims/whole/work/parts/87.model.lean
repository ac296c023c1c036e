theorem dX11_oneLine_174 : decode cX11_oneLine 174 = .ok (.aload_n 0, 1) := by decide +kernel
theorem dX11_oneLine_175 : decode cX11_oneLine 175 = .ok (.dup, 1) := by decide +kernel
theorem dX11_oneLine_176 : decode cX11_oneLine 176 = .ok (.getfield 140, 3) := by decide +kernel
theorem dX11_oneLine_179 : decode cX11_oneLine 179 = .ok (.iconst 1, 1) := by decide +kernel
theorem dX11_oneLine_180 : decode cX11_oneLine 180 = .ok (.iadd, 1) := by decide +kernel
theorem dX11_oneLine_181 : decode cX11_oneLine 181 = .ok (.putfield 140, 3) := by decide +kernel
theorem dX11_oneLine_184 : decode cX11_oneLine 184 = .ok (.return_, 1) := by decide +kernel
theorem dX11_oneLine_165 : decode cX11_oneLine 165 = .ok (.aload_n 0, 1) := by decide +kernel
theorem dX11_oneLine_166 : decode cX11_oneLine 166 = .ok (.iconst 1, 1) := by decide +kernel
theorem dX11_oneLine_167 : decode cX11_oneLine 167 = .ok (.aload_n 0, 1) := by decide +kernel
theorem dX11_oneLine_168 : decode cX11_oneLine 168 = .ok (.getfield 140, 3) := by decide +kernel
theorem dX11_oneLine_171 : decode cX11_oneLine 171 = .ok (.invokevirtual 168, 3) := by decide +kernel
theorem dX11_oneLine_138 : decode cX11_oneLine 138 = .ok (.aload_n 0, 1) := by decide +kernel
theorem dX11_oneLine_139 : decode cX11_oneLine 139 = .ok (.getfield 134, 3) := by decide +kernel
theorem dX11_oneLine_142 : decode cX11_oneLine 142 = .ok (.ifCond .ne 32, 3) := by decide +kernel
theorem dX11_oneLine_145 : decode cX11_oneLine 145 = .ok (.aload_n 0, 1) := by decide +kernel
theorem dX11_oneLine_146 : decode cX11_oneLine 146 = .ok (.invokevirtual 146, 3) := by decide +kernel
theorem dX11_oneLine_149 : decode cX11_oneLine 149 = .ok (.bipush 59, 2) := by decide +kernel
theorem dX11_oneLine_151 : decode cX11_oneLine 151 = .ok (.if_icmp .ne 14, 3) := by decide +kernel
theorem dX11_oneLine_154 : decode cX11_oneLine 154 = .ok (.aload_n 0, 1) := by decide +kernel
theorem dX11_oneLine_155 : decode cX11_oneLine 155 = .ok (.getfield 140, 3) := by decide +kernel
theorem dX11_oneLine_158 : decode cX11_oneLine 158 = .ok (.aload_n 0, 1) := by decide +kernel
theorem dX11_oneLine_159 : decode cX11_oneLine 159 = .ok (.getfield 143, 3) := by decide +kernel
theorem dX11_oneLine_162 : decode cX11_oneLine 162 = .ok (.if_icmp .ne 12, 3) := by decide +kernel
theorem dX11_oneLine_129 : decode cX11_oneLine 129 = .ok (.aload_n 0, 1) := by decide +kernel
theorem dX11_oneLine_130 : decode cX11_oneLine 130 = .ok (.iconst 1, 1) := by decide +kernel
theorem dX11_oneLine_131 : decode cX11_oneLine 131 = .ok (.aload_n 0, 1) := by decide +kernel
theorem dX11_oneLine_132 : decode cX11_oneLine 132 = .ok (.getfield 140, 3) := by decide +kernel
theorem dX11_oneLine_135 : decode cX11_oneLine 135 = .ok (.invokevirtual 168, 3) := by decide +kernel
theorem dX11_oneLine_110 : decode cX11_oneLine 110 = .ok (.aload_n 0, 1) := by decide +kernel
theorem dX11_oneLine_111 : decode cX11_oneLine 111 = .ok (.ldc 215, 2) := by decide +kernel
theorem dX11_oneLine_113 : decode cX11_oneLine 113 = .ok (.invokevirtual 189, 3) := by decide +kernel
theorem dX11_oneLine_116 : decode cX11_oneLine 116 = .ok (.ifCond .eq 13, 3) := by decide +kernel
theorem dX11_oneLine_119 : decode cX11_oneLine 119 = .ok (.aload_n 0, 1) := by decide +kernel
theorem dX11_oneLine_120 : decode cX11_oneLine 120 = .ok (.getfield 20, 3) := by decide +kernel
theorem dX11_oneLine_123 : decode cX11_oneLine 123 = .ok (.iconst 4, 1) := by decide +kernel
theorem dX11_oneLine_124 : decode cX11_oneLine 124 = .ok (.iconst 0, 1) := by decide +kernel
theorem dX11_oneLine_125 : decode cX11_oneLine 125 = .ok (.iastore, 1) := by decide +kernel
theorem dX11_oneLine_126 : decode cX11_oneLine 126 = .ok (.goto 12, 3) := by decide +kernel
theorem dX11_oneLine_94 : decode cX11_oneLine 94 = .ok (.aload_n 0, 1) := by decide +kernel
theorem dX11_oneLine_95 : decode cX11_oneLine 95 = .ok (.ldc 210, 2) := by decide +kernel
theorem dX11_oneLine_97 : decode cX11_oneLine 97 = .ok (.invokevirtual 189, 3) := by decide +kernel
theorem dX11_oneLine_100 : decode cX11_oneLine 100 = .ok (.ifCond .eq 10, 3) := by decide +kernel
theorem dX11_oneLine_103 : decode cX11_oneLine 103 = .ok (.aload_n 0, 1) := by decide +kernel
theorem dX11_oneLine_104 : decode cX11_oneLine 104 = .ok (.invokevirtual 212, 3) := by decide +kernel
theorem dX11_oneLine_107 : decode cX11_oneLine 107 = .ok (.goto 31, 3) := by decide +kernel
theorem dX11_oneLine_75 : decode cX11_oneLine 75 = .ok (.aload_n 0, 1) := by decide +kernel
theorem dX11_oneLine_76 : decode cX11_oneLine 76 = .ok (.ldc 208, 2) := by decide +kernel
theorem dX11_oneLine_78 : decode cX11_oneLine 78 = .ok (.invokevirtual 189, 3) := by decide +kernel
theorem dX11_oneLine_81 : decode cX11_oneLine 81 = .ok (.ifCond .eq 13, 3) := by decide +kernel
theorem dX11_oneLine_84 : decode cX11_oneLine 84 = .ok (.aload_n 0, 1) := by decide +kernel
theorem dX11_oneLine_85 : decode cX11_oneLine 85 = .ok (.getfield 20, 3) := by decide +kernel
theorem dX11_oneLine_88 : decode cX11_oneLine 88 = .ok (.iconst 3, 1) := by decide +kernel
theorem dX11_oneLine_89 : decode cX11_oneLine 89 = .ok (.iconst 1, 1) := by decide +kernel
theorem dX11_oneLine_90 : decode cX11_oneLine 90 = .ok (.iastore, 1) := by decide +kernel
theorem dX11_oneLine_91 : decode cX11_oneLine 91 = .ok (.goto 47, 3) := by decide +kernel
theorem dX11_oneLine_59 : decode cX11_oneLine 59 = .ok (.aload_n 0, 1) := by decide +kernel
theorem dX11_oneLine_60 : decode cX11_oneLine 60 = .ok (.ldc 203, 2) := by decide +kernel
theorem dX11_oneLine_62 : decode cX11_oneLine 62 = .ok (.invokevirtual 189, 3) := by decide +kernel
theorem dX11_oneLine_65 : decode cX11_oneLine 65 = .ok (.ifCond .eq 10, 3) := by decide +kernel
theorem dX11_oneLine_68 : decode cX11_oneLine 68 = .ok (.aload_n 0, 1) := by decide +kernel
theorem dX11_oneLine_69 : decode cX11_oneLine 69 = .ok (.invokevirtual 205, 3) := by decide +kernel
theorem dX11_oneLine_72 : decode cX11_oneLine 72 = .ok (.goto 66, 3) := by decide +kernel
theorem dX11_oneLine_32 : decode cX11_oneLine 32 = .ok (.aload_n 0, 1) := by decide +kernel
theorem dX11_oneLine_33 : decode cX11_oneLine 33 = .ok (.ldc 201, 2) := by decide +kernel
theorem dX11_oneLine_35 : decode cX11_oneLine 35 = .ok (.invokevirtual 189, 3) := by decide +kernel
theorem dX11_oneLine_38 : decode cX11_oneLine 38 = .ok (.ifCond .eq 21, 3) := by decide +kernel
theorem dX11_oneLine_41 : decode cX11_oneLine 41 = .ok (.aload_n 0, 1) := by decide +kernel
theorem dX11_oneLine_42 : decode cX11_oneLine 42 = .ok (.getfield 20, 3) := by decide +kernel
theorem dX11_oneLine_45 : decode cX11_oneLine 45 = .ok (.iconst 0, 1) := by decide +kernel
theorem dX11_oneLine_46 : decode cX11_oneLine 46 = .ok (.aload_n 0, 1) := by decide +kernel
theorem dX11_oneLine_47 : decode cX11_oneLine 47 = .ok (.iconst 0, 1) := by decide +kernel
theorem dX11_oneLine_48 : decode cX11_oneLine 48 = .ok (.sipush 999, 3) := by decide +kernel
theorem dX11_oneLine_51 : decode cX11_oneLine 51 = .ok (.iconst 0, 1) := by decide +kernel
theorem dX11_oneLine_52 : decode cX11_oneLine 52 = .ok (.invokevirtual 180, 3) := by decide +kernel
theorem dX11_oneLine_55 : decode cX11_oneLine 55 = .ok (.iastore, 1) := by decide +kernel
theorem dX11_oneLine_56 : decode cX11_oneLine 56 = .ok (.goto 82, 3) := by decide +kernel
theorem dX11_oneLine_16 : decode cX11_oneLine 16 = .ok (.aload_n 0, 1) := by decide +kernel
theorem dX11_oneLine_17 : decode cX11_oneLine 17 = .ok (.ldc 196, 2) := by decide +kernel
theorem dX11_oneLine_19 : decode cX11_oneLine 19 = .ok (.invokevirtual 189, 3) := by decide +kernel
theorem dX11_oneLine_22 : decode cX11_oneLine 22 = .ok (.ifCond .eq 10, 3) := by decide +kernel
theorem dX11_oneLine_25 : decode cX11_oneLine 25 = .ok (.aload_n 0, 1) := by decide +kernel
theorem dX11_oneLine_26 : decode cX11_oneLine 26 = .ok (.invokevirtual 198, 3) := by decide +kernel
theorem dX11_oneLine_29 : decode cX11_oneLine 29 = .ok (.goto 109, 3) := by decide +kernel
theorem dX11_oneLine_0 : decode cX11_oneLine 0 = .ok (.aload_n 0, 1) := by decide +kernel
theorem dX11_oneLine_1 : decode cX11_oneLine 1 = .ok (.ldc 187, 2) := by decide +kernel
theorem dX11_oneLine_3 : decode cX11_oneLine 3 = .ok (.invokevirtual 189, 3) := by decide +kernel
theorem dX11_oneLine_6 : decode cX11_oneLine 6 = .ok (.ifCond .eq 10, 3) := by decide +kernel
theorem dX11_oneLine_9 : decode cX11_oneLine 9 = .ok (.aload_n 0, 1) := by decide +kernel
theorem dX11_oneLine_10 : decode cX11_oneLine 10 = .ok (.invokevirtual 193, 3) := by decide +kernel
theorem dX11_oneLine_13 : decode cX11_oneLine 13 = .ok (.goto 125, 3) := by decide +kernel
/-! the reference: one line -/
theorem nf {b : Bool} (h : b = false) : ¬ b = true := by rw [h]; decide
section UL
variable {T : Nat → Int32} {n : Nat} {U : zU} {S : zD}
theorem uLn_1 (n1 : isW T n U 1 = true) : uLn T n U S = uR3 T n (uW T n U) (dN S) (nI U.1) ∧ sLn T n U S = sL1 T n U S := by
  unfold uLn sLn
  rw [if_pos n1, if_pos n1]; exact ⟨rfl, rfl⟩
theorem uLn_2 (n1 : isW T n U 1 = false) (n2 : isW T n U 2 = true) : uLn T n U S = uP4 (fI S) (gI S) T n (uW T n U) (dN S) (dP S) (nI U.1) ∧ sLn T n U S = sL2 T n U S := by
  unfold uLn sLn
  rw [if_neg (nf n1), if_neg (nf n1), if_pos n2, if_pos n2]; exact ⟨rfl, rfl⟩
theorem uLn_3 (n1 : isW T n U 1 = false) (n2 : isW T n U 2 = false) (n3 : isW T n U 3 = true) : uLn T n U S = uNm T n (uW T n U) 0 999 ∧ sLn T n U S = aSt S 0 (uNv T n (uW T n U)) := by
  unfold uLn sLn
  rw [if_neg (nf n1), if_neg (nf n1), if_neg (nf n2), if_neg (nf n2), if_pos n3, if_pos n3]; exact ⟨rfl, rfl⟩
theorem uLn_4 (n1 : isW T n U 1 = false) (n2 : isW T n U 2 = false) (n3 : isW T n U 3 = false) (n4 : isW T n U 4 = true) : uLn T n U S = uL4 T n U ∧ sLn T n U S = sL4 T n U S := by
  unfold uLn sLn
  rw [if_neg (nf n1), if_neg (nf n1), if_neg (nf n2), if_neg (nf n2), if_neg (nf n3), if_neg (nf n3), if_pos n4, if_pos n4]; exact ⟨rfl, rfl⟩
theorem uLn_5 (n1 : isW T n U 1 = false) (n2 : isW T n U 2 = false) (n3 : isW T n U 3 = false) (n4 : isW T n U 4 = false) (n5 : isW T n U 5 = true) : uLn T n U S = uW T n U ∧ sLn T n U S = aSt S 3 1 := by
  unfold uLn sLn
  rw [if_neg (nf n1), if_neg (nf n1), if_neg (nf n2), if_neg (nf n2), if_neg (nf n3), if_neg (nf n3), if_neg (nf n4), if_neg (nf n4), if_pos n5, if_pos n5]; exact ⟨rfl, rfl⟩
theorem uLn_6 (n1 : isW T n U 1 = false) (n2 : isW T n U 2 = false) (n3 : isW T n U 3 = false) (n4 : isW T n U 4 = false) (n5 : isW T n U 5 = false) (n6 : isW T n U 6 = true) : uLn T n U S = uRp T n (uW T n U) ∧ sLn T n U S = aSt S 4 (uNv T n (uW T n U)) := by
  unfold uLn sLn
  rw [if_neg (nf n1), if_neg (nf n1), if_neg (nf n2), if_neg (nf n2), if_neg (nf n3), if_neg (nf n3), if_neg (nf n4), if_neg (nf n4), if_neg (nf n5), if_neg (nf n5), if_pos n6, if_pos n6]; exact ⟨rfl, rfl⟩
theorem uLn_7 (n1 : isW T n U 1 = false) (n2 : isW T n U 2 = false) (n3 : isW T n U 3 = false) (n4 : isW T n U 4 = false) (n5 : isW T n U 5 = false) (n6 : isW T n U 6 = false) (n7 : isW T n U 7 = true) : uLn T n U S = uW T n U ∧ sLn T n U S = aSt S 4 0 := by
  unfold uLn sLn
  rw [if_neg (nf n1), if_neg (nf n1), if_neg (nf n2), if_neg (nf n2), if_neg (nf n3), if_neg (nf n3), if_neg (nf n4), if_neg (nf n4), if_neg (nf n5), if_neg (nf n5), if_neg (nf n6), if_neg (nf n6), if_pos n7, if_pos n7]; exact ⟨rfl, rfl⟩
theorem uLn_0 (n1 : isW T n U 1 = false) (n2 : isW T n U 2 = false) (n3 : isW T n U 3 = false) (n4 : isW T n U 4 = false) (n5 : isW T n U 5 = false) (n6 : isW T n U 6 = false) (n7 : isW T n U 7 = false) : uLn T n U S = uF (uW T n U) 1 (nI U.1) ∧ sLn T n U S = S := by
  unfold uLn sLn
  rw [if_neg (nf n1), if_neg (nf n1), if_neg (nf n2), if_neg (nf n2), if_neg (nf n3), if_neg (nf n3), if_neg (nf n4), if_neg (nf n4), if_neg (nf n5), if_neg (nf n5), if_neg (nf n6), if_neg (nf n6), if_neg (nf n7), if_neg (nf n7)]; exact ⟨rfl, rfl⟩
end UL
def rmV (T : Nat → Int32) (n : Nat) (U : zU) (h : zH) (y : Nat) : Prop := rmT T n h y ∧ h.1 y 21 = U.2.1 ∧ (U.2.1 = 0 ∨ 0 < U.2.1) ∧ (¬ U.2.1 = 0 → h.1 y 22 = U.2.2.1) ∧ (U.2.1 = 0 → h.1 y 19 = nI U.1 ∧ U.1 ≤ n)
def paH (h : zH) (y : Nat) (T : Nat → Int32) (n : Nat) (U : zU) : zH := zsI (zsI (zsI h y 19 (nI U.1)) y 20 (nI U.1)) y 19 (nI (wnd T n U.1))
theorem pas_e {T : Nat → Int32} {n k a y : Nat} {U : zU} {h h1 : zH} {r : Option zV} (hs : skp T n U.1 = U.1) (h19 : h.1 y 19 = nI U.1) (hq : cq_X11_passes (T, n, y, U.1, k, a) h r h1) : (isW T n U k = true ∧ r = some (vI 1) ∧ h1 = paH h y T n U) ∨ (isW T n U k = false ∧ r = some (vI 0) ∧ h1 = h) := by
  obtain ⟨q1, q2⟩ := hq
  rw [hs] at q1 q2
  cases hw : isW T n U k with
  | true =>
    obtain ⟨e1, e2⟩ := q1 hw
    exact Or.inl ⟨rfl, e1, e2⟩
  | false =>
    obtain ⟨e1, e2⟩ := q2 hw
    refine Or.inr ⟨rfl, e1, ?_⟩
    rw [e2, ← h19, zsI_W, zup_self, zsW_self]
theorem pa_ok {T : Nat → Int32} {n y : Nat} {U : zU} {S : zD} {h : zH} (hU : rmR T n U h y) (hz : U.2.1 = 0) (hD : rmD S h y) : rmR T n (uW T n U) (paH h y T n U) y ∧ rmD S (paH h y T n U) y ∧ (paH h y T n U).1 y 20 = nI U.1 ∧ lfr y h (paH h y T n U) := by
  obtain ⟨a1, a2, a3, a4, p, p1, p2, p3⟩ := hU
  obtain ⟨ep, hp⟩ := p3 hz
  subst ep
  have hw := wnd_le T hp
  refine ⟨⟨rmT_I (by decide) (rmT_I (by decide) (rmT_I (by decide) a1)), ?_, a3, fun z => absurd hz z, wnd T n U.1, zsI_me _ _ _ _, by omega, fun _ => ⟨rfl, hw.2⟩⟩, ?_, ?_, ?_⟩
  · show (zsI (zsI (zsI h y 19 (nI U.1)) y 20 (nI U.1)) y 19 (nI (wnd T n U.1))).1 y 21 = _
    rw [zsI_at _ _ _ _ _ (by decide), zsI_at _ _ _ _ _ (by decide), zsI_at _ _ _ _ _ (by decide)]; exact a2
  · unfold paH
    refine rmD_cg ?_ ?_ ?_ ?_ ?_ hD
    · rw [zsI_at _ _ _ _ _ (by decide), zsI_at _ _ _ _ _ (by decide), zsI_at _ _ _ _ _ (by decide)]
    · rw [zsI_at _ _ _ _ _ (by decide), zsI_at _ _ _ _ _ (by decide), zsI_at _ _ _ _ _ (by decide)]
    · rw [zsI_ro _ _ _ (by omega), zsI_ro _ _ _ (by omega), zsI_ro _ _ _ (by omega)]
    · rw [zsI_ro _ _ _ (by omega), zsI_ro _ _ _ (by omega), zsI_ro _ _ _ (by omega)]
    · rw [zsI_ro _ _ _ (by omega), zsI_ro _ _ _ (by omega), zsI_ro _ _ _ (by omega)]
  · unfold paH
    rw [zsI_at _ _ _ _ _ (by decide), zsI_me]
  · exact lfr_t (lfr_I _ _ (by decide) (by decide) (by decide)) (lfr_t (lfr_I _ _ (by decide) (by decide) (by decide)) (lfr_I _ _ (by decide) (by decide) (by decide)))
theorem uEl_k {T : Nat → Int32} {n : Nat} {U : zU} (hz : ¬ U.2.1 = 0) : (uEl T n U).2.1 = U.2.1 ∧ (uEl T n U).2.2.1 = U.2.2.1 := by
  unfold uEl
  split
  · exact ⟨rfl, rfl⟩
  · rw [uF_k (U := (skp T n U.1, U.2)) hz]; exact ⟨rfl, rfl⟩
def ca_X11_oneLine : ((Nat → Int32) × Nat × zU × zD × Nat) → List zV := fun (T, n, U, S, y) => [vR 20 0 y]
def cp_X11_oneLine : ((Nat → Int32) × Nat × zU × zD × Nat) → zH → Prop := fun (T, n, U, S, y) h => rmR T n U h y ∧ U.2.1 = 0 ∧ skp T n U.1 = U.1 ∧ rmD S h y
def cq_X11_oneLine : ((Nat → Int32) × Nat × zU × zD × Nat) → zH → Option zV → zH → Prop := fun (T, n, U, S, y) h r h' => r = none ∧ lfr y h h' ∧ rmV T n (uEl T n (uLn T n U S)) h' y ∧ ((uEl T n (uLn T n U S)).2.1 = 0 → rmD (sLn T n U S) h' y)
theorem rc_X11_oneLine : ∀ x : ((Nat → Int32) × Nat × zU × zD × Nat), ∃ (j a : Nat) (As : List zV), ca_X11_oneLine x = vR (10 + 10) j a :: As := by
  rintro ⟨T, n, U, S, y⟩
  exact ⟨_, _, _, rfl⟩
set_option maxHeartbeats 4000000 in
set_option maxRecDepth 100000 in
theorem m_X11_oneLine : zM yX11_oneLine cX11_oneLine 1 none ({ frames := 5, cells := 0, slots := 0, locals := 107 } : Room) ((ca_X11_oneLine, cp_X11_oneLine, cq_X11_oneLine) : zC ((Nat → Int32) × Nat × zU × zD × Nat)) := by
  refine zM_of (by decide) ?_
  rintro X Y ⟨T, n, U, S, y⟩ h ⟨hU, hz, hs, hD⟩ O E hR
  have hU : rmR T n U h y := hU
  have hz : U.2.1 = 0 := hz
  have hs : skp T n U.1 = U.1 := hs
  have hD : rmD S h y := hD
  have hn4 : n ≤ 400 := hU.1.1.2
  have h19 : h.1 y 19 = nI U.1 ∧ U.1 ≤ n := by
    obtain ⟨-, -, -, -, p, p1, p2, p3⟩ := hU
    obtain ⟨e1, e2⟩ := p3 hz
    rw [← e1]
    exact ⟨p1, e2⟩
  obtain ⟨w0, D0, f20, l0⟩ := pa_ok hU hz hD
  obtain ⟨H, eH⟩ : ∃ H : zH, H = paH h y T n U := ⟨_, rfl⟩
  rw [← eH] at w0 D0 f20 l0
  obtain ⟨UL, eUL⟩ : ∃ UL : zU, UL = uLn T n U S := ⟨_, rfl⟩
  obtain ⟨SL, eSL⟩ : ∃ SL : zD, SL = sLn T n U S := ⟨_, rfl⟩
  have B_174 := zr_aload_n (X := X) (Y := Y) (u := 0) (v := 0) O dX11_oneLine_174 rfl (zr_dup O dX11_oneLine_175 (zr_gI (ci := 10) (j := 19) O zc_10 (by decide) rfl tw_1206 dX11_oneLine_176 (zr_iconst (x := 1) O dX11_oneLine_179 rfl (zr_iadd O dX11_oneLine_180 (zr_pI (ci := 10) (j := 19) O zc_10 (by decide) rfl rfl rfl tw_1206 dX11_oneLine_181 (zr_return O E (Nat.le_refl _) (Nat.le_refl _) dX11_oneLine_184))))))
  have B_165 := zr_aload_n (X := X) (Y := Y) (u := 0) (v := 0) O dX11_oneLine_165 rfl (zr_iconst (x := 1) O dX11_oneLine_166 rfl (zr_aload_n O dX11_oneLine_167 rfl (zr_gI (ci := 10) (j := 19) O zc_10 (by decide) rfl tw_1206 dX11_oneLine_168 (zr_cVv (zr_cV (ci := 10) (n := 2) O m_X11_wrong (bn_X11_wrong _ ⟨rfl, rfl⟩) vw_X11_wrong tw_1335 rc_X11_wrong (zrm hR rfl rfl) dX11_oneLine_171 (B_174))))))
  have B_138 := zr_aload_n (X := X) (Y := Y) (u := 0) (v := 0) O dX11_oneLine_138 rfl (zr_gI (ci := 10) (j := 21) O zc_10 (by decide) rfl tw_1208 dX11_oneLine_139 (zr_ifne (tgt := 174) O dX11_oneLine_142 rfl B_174 (zr_aload_n O dX11_oneLine_145 rfl (zr_cH (zr_cV (ci := 10) (n := 0) O m_X11_sign (bn_X11_sign _ ⟨rfl, rfl⟩) vw_X11_sign tw_1312 rc_X11_sign (zrm hR rfl rfl) dX11_oneLine_146 (zr_bipush (x := (59)) O dX11_oneLine_149 (by decide) (zr_icne (tgt := 165) O dX11_oneLine_151 rfl B_165 (zr_aload_n O dX11_oneLine_154 rfl (zr_gI (ci := 10) (j := 19) O zc_10 (by decide) rfl tw_1206 dX11_oneLine_155 (zr_aload_n O dX11_oneLine_158 rfl (zr_gI (ci := 10) (j := 18) O zc_10 (by decide) rfl tw_1205 dX11_oneLine_159 (zr_icne (tgt := 174) O dX11_oneLine_162 rfl B_174 (B_165)))))))))))))
  have C_138 : zSd X Y 0 0 138 (fun ls st h1 => ls = [some (vR 20 0 y)] ∧ st = [] ∧ lfr y h h1 ∧ rmR T n UL h1 y ∧ (UL.2.1 = 0 → rmD SL h1 y)) := by
    refine zSd_weak B_138 (fun ls st h1 t => ?_)
    obtain ⟨rfl, rfl, l1, w1, d1⟩ := t
    have hz1 := (rmR_0 w1).2
    have ln : ∀ (h2 : zH), lfr y h1 h2 → lfr y h (zsI h2 y 19 (h2.1 y 19 + 1)) := fun h2 l2 => lfr_t l1 (lfr_t l2 (lfr_I _ _ (by decide) (by decide) (by decide)))
    refine ⟨fun c => ?_, fun c => ?_⟩
    · have zL : ¬ UL.2.1 = 0 := fun z => c (hz1.mpr z)
      obtain ⟨k1, k2⟩ := uEl_k (T := T) (n := n) zL
      obtain ⟨a1, a2, a3, a4, -⟩ := w1
      refine ⟨rfl, ln h1 (lfr_r y h1), ?_, fun z => ?_⟩
      · rw [← eUL]
        refine ⟨rmT_I (by decide) a1, ?_, by rw [k1]; exact a3, fun _ => ?_, fun z => absurd (k1 ▸ z) zL⟩
        · rw [zsI_at _ _ _ _ _ (by decide), k1]; exact a2
        · rw [zsI_at _ _ _ _ _ (by decide), k2]; exact a4 zL
      · rw [← eUL, k1] at z; exact absurd z zL
    · have zL := hz1.mp c
      obtain ⟨a1, a2, a3, a4, p, p1, p2, p3⟩ := w1
      obtain ⟨ep, hp⟩ := p3 zL
      subst ep
      have hq := skp_le T hp
      obtain ⟨q, eq⟩ : ∃ q : Nat, q = skp T n UL.1 := ⟨_, rfl⟩
      rw [← eq] at hq
      obtain ⟨h2, eh2⟩ : ∃ h2 : zH, h2 = zsI h1 y 19 (nI q) := ⟨_, rfl⟩
      have e19 : h2.1 y 19 = nI q := by rw [eh2]; exact zsI_me _ _ _ _
      have e18 : h2.1 y 18 = nI n := by rw [eh2, zsI_at _ _ _ _ _ (by decide)]; exact a1.1.1
      have e21 : h2.1 y 21 = UL.2.1 := by rw [eh2, zsI_at _ _ _ _ _ (by decide)]; exact a2
      have T2 : rmT T n h2 y := by rw [eh2]; exact rmT_I (by decide) a1
      have l2 : lfr y h1 h2 := by rw [eh2]; exact lfr_I _ _ (by decide) (by decide) (by decide)
      have d2 : rmD SL h2 y := by
        rw [eh2]
        exact rmD_cg (zsI_at _ _ _ _ _ (by decide)) (zsI_at _ _ _ _ _ (by decide)) (zsI_ro _ _ _ (by omega)) (zsI_ro _ _ _ (by omega)) (zsI_ro _ _ _ (by omega)) (d1 zL)
      have hsem : sgc (h1.1 (y + 13)) n q = 59 ↔ q < n ∧ T q = 59 := by
        rw [sgc]
        by_cases hlt : q < n
        · rw [if_pos hlt, ev_eq a1.2 hlt (by decide) (by decide)]
          exact ⟨fun z => ⟨hlt, z⟩, fun z => z.2⟩
        · rw [if_neg hlt]
          exact ⟨fun z => absurd z (by decide), fun z => absurd z.1 hlt⟩
      have w2 : rmR T n (q, UL.2) h2 y := ⟨T2, e21, a3, fun z => absurd zL z, q, e19, by omega, fun _ => ⟨rfl, hq.2⟩⟩
      have bad : ¬ (q < n ∧ T q = 59) → ∃ x2 : Nat × Int32 × Int32, ([vR 20 0 y, vI 1, vI (h2.1 y 19)] : List zV) = ca_X11_wrong x2 ∧ True ∧ cq_X11_oneLine (T, n, U, S, y) h none (zsI (cg_X11_wrong x2 h2) y 19 ((cg_X11_wrong x2 h2).1 y 19 + 1)) := by
        intro hb
        have wr := rmR_wr (k := 1) (by decide) (nI q) w2
        have eu : uEl T n UL = uF (q, UL.2) 1 (nI q) := by rw [uEl, ← eq, if_neg hb]
        refine ⟨(y, 1, nI q), by rw [e19]; rfl, trivial, rfl, ln _ (lfr_t l2 (lfr_f wr.2)), ?_, fun z => ?_⟩
        · rw [← eUL, eu]
          obtain ⟨b1, b2, b3, b4, -⟩ := wr.1
          refine ⟨rmT_I (by decide) b1, ?_, b3, fun z => ?_, fun z => absurd z (uF_ne (by decide))⟩
          · rw [zsI_at _ _ _ _ _ (by decide)]; exact b2
          · rw [zsI_at _ _ _ _ _ (by decide)]; exact b4 z
        · rw [← eUL, eu] at z
          exact absurd z (uF_ne (by decide))
      refine ⟨(T, n, y, UL.1), rfl, ⟨a1, p1, by omega⟩, ?_⟩
      have ec : cg_X11_sign (T, n, y, UL.1) h1 = h2 := by rw [eh2, eq]; rfl
      have er : cf_X11_sign (T, n, y, UL.1) h1 = sgc (h1.1 (y + 13)) n q := by rw [eq]; rfl
      rw [ec, er]
      refine ⟨fun c2 => bad (fun z => c2 (hsem.mpr z)), fun c2 => ⟨fun c3 => ?_, fun c3 => bad (fun z => ?_)⟩⟩
      · have hg := hsem.mp c2
        have eu : uEl T n UL = (q + 1, UL.2) := by rw [uEl, ← eq, if_pos hg]
        refine ⟨rfl, ln h2 l2, ?_, fun _ => ?_⟩
        · rw [← eUL, eu]
          refine ⟨rmT_I (by decide) T2, ?_, a3, fun z => absurd zL z, fun _ => ⟨?_, hg.1⟩⟩
          · rw [zsI_at _ _ _ _ _ (by decide)]; exact e21
          · rw [zsI_me, e19]; exact nI_1 q
        · rw [← eSL]
          exact rmD_cg (zsI_at _ _ _ _ _ (by decide)) (zsI_at _ _ _ _ _ (by decide)) (zsI_ro _ _ _ (by omega)) (zsI_ro _ _ _ (by omega)) (zsI_ro _ _ _ (by omega)) d2
      · rw [e18, e19] at c3
        have := (nI_eq (by omega) (by omega)).mp c3
        omega
  have B_129 := zr_aload_n (X := X) (Y := Y) (u := 0) (v := 0) O dX11_oneLine_129 rfl (zr_iconst (x := 1) O dX11_oneLine_130 rfl (zr_aload_n O dX11_oneLine_131 rfl (zr_gI (ci := 10) (j := 19) O zc_10 (by decide) rfl tw_1206 dX11_oneLine_132 (zr_cVv (zr_cV (ci := 10) (n := 2) O m_X11_wrong (bn_X11_wrong _ ⟨rfl, rfl⟩) vw_X11_wrong tw_1335 rc_X11_wrong (zrm hR rfl rfl) dX11_oneLine_135 (C_138))))))
  have C_129 : zSd X Y 0 0 129 (fun ls st h1 => ls = [some (vR 20 0 y)] ∧ st = [] ∧ h1 = h ∧ isW T n U 1 = false ∧ isW T n U 2 = false ∧ isW T n U 3 = false ∧ isW T n U 4 = false ∧ isW T n U 5 = false ∧ isW T n U 6 = false ∧ isW T n U 7 = false) := by
    refine zSd_weak B_129 (fun ls st h1 t => ?_)
    obtain ⟨rfl, rfl, eh, n1, n2, n3, n4, n5, n6, n7⟩ := t
    subst eh
    obtain ⟨e1, e2⟩ := uLn_0 (S := S) n1 n2 n3 n4 n5 n6 n7
    have wr := rmR_wr (k := 1) (by decide) (nI U.1) hU
    have eF : uF U 1 (nI U.1) = (U.1, 1, nI U.1, U.2.2.2) := if_pos hz
    have eG : uF (uW T n U) 1 (nI U.1) = (wnd T n U.1, 1, nI U.1, U.2.2.2) := if_pos hz
    refine ⟨(y, 1, nI U.1), by rw [h19.1]; rfl, trivial, rfl, rfl, lfr_f wr.2, ?_, fun z => ?_⟩
    · rw [eUL, e1]
      exact rmR_k (U := uF U 1 (nI U.1)) (by rw [eF]; show ¬ (1 : Int32) = 0; decide) (by rw [eF, eG]) (by rw [eF, eG]) wr.1
    · rw [eUL, e1] at z
      exact absurd z (uF_ne (by decide))
  have B_110 := zr_aload_n (X := X) (Y := Y) (u := 0) (v := 0) O dX11_oneLine_110 rfl (zr_str O ws_RX11_215 dX11_oneLine_111 (zr_cV (ci := 10) (n := 1) O m_X11_passes (bn_X11_passes _ ⟨rfl, rfl⟩) vw_X11_passes tw_1321 rc_X11_passes (zrm hR rfl rfl) dX11_oneLine_113 (zr_ifeq (tgt := 129) O dX11_oneLine_116 rfl C_129 (zr_aload_n O dX11_oneLine_119 rfl (zr_gS (ci := 10) (j := 3) (off := 3) (t := 1) (n := 218) O zc_10 (by decide) rfl tw_1190 dX11_oneLine_120 (zr_iconst (x := 4) O dX11_oneLine_123 rfl (zr_iconst (x := 0) O dX11_oneLine_124 rfl (zr_iast O dX11_oneLine_125 (zr_goto (tgt := 138) O dX11_oneLine_126 rfl C_138)))))))))
  have C_110 : zSd X Y 0 0 110 (fun ls st h1 => ls = [some (vR 20 0 y)] ∧ st = [] ∧ h1 = h ∧ isW T n U 1 = false ∧ isW T n U 2 = false ∧ isW T n U 3 = false ∧ isW T n U 4 = false ∧ isW T n U 5 = false ∧ isW T n U 6 = false) := by
    refine zSd_weak B_110 (fun ls st h1 t => ?_)
    obtain ⟨rfl, rfl, eh, n1, n2, n3, n4, n5, n6⟩ := t
    subst eh
    refine fun a => ⟨(T, n, y, U.1, 7, a), rfl, ⟨hU.1, h19, by decide, by decide⟩, fun r h2 hq => ?_⟩
    rcases pas_e (a := a) hs h19.1 hq with ⟨n7, rfl, e2⟩ | ⟨n7, rfl, rfl⟩
    · rw [← eH] at e2
      subst e2
      obtain ⟨e1, e2⟩ := uLn_7 (S := S) n1 n2 n3 n4 n5 n6 n7
      refine ⟨fun c => absurd c (by decide), fun c => ⟨4, rfl, by decide, rfl, rfl, ?_, ?_, fun z => ?_⟩⟩
      · rw [zsI_W]; exact lfr_t l0 (lfr_W (j := 3) _ _ (by decide))
      · rw [eUL, e1, zsI_W]; exact rmR_W (j := 3) (by decide) (by decide) w0
      · rw [eSL, e2]; exact rmD_set 0 (by decide) D0
    · exact ⟨fun c => ⟨rfl, rfl, rfl, n1, n2, n3, n4, n5, n6, n7⟩, fun c => absurd rfl c⟩
  have B_94 := zr_aload_n (X := X) (Y := Y) (u := 0) (v := 0) O dX11_oneLine_94 rfl (zr_str O ws_RX11_210 dX11_oneLine_95 (zr_cV (ci := 10) (n := 1) O m_X11_passes (bn_X11_passes _ ⟨rfl, rfl⟩) vw_X11_passes tw_1321 rc_X11_passes (zrm hR rfl rfl) dX11_oneLine_97 (zr_ifeq (tgt := 110) O dX11_oneLine_100 rfl C_110 (zr_aload_n O dX11_oneLine_103 rfl (zr_cV (ci := 10) (n := 0) O m_X11_repeatTold (bn_X11_repeatTold _ ⟨rfl, rfl⟩) vw_X11_repeatTold tw_1358 rc_X11_repeatTold (zrm hR rfl rfl) dX11_oneLine_104 (zr_goto (tgt := 138) O dX11_oneLine_107 rfl C_138))))))
  have C_94 : zSd X Y 0 0 94 (fun ls st h1 => ls = [some (vR 20 0 y)] ∧ st = [] ∧ h1 = h ∧ isW T n U 1 = false ∧ isW T n U 2 = false ∧ isW T n U 3 = false ∧ isW T n U 4 = false ∧ isW T n U 5 = false) := by
    refine zSd_weak B_94 (fun ls st h1 t => ?_)
    obtain ⟨rfl, rfl, eh, n1, n2, n3, n4, n5⟩ := t
    subst eh
    refine fun a => ⟨(T, n, y, U.1, 6, a), rfl, ⟨hU.1, h19, by decide, by decide⟩, fun r h2 hq => ?_⟩
    rcases pas_e (a := a) hs h19.1 hq with ⟨n6, rfl, e2⟩ | ⟨n6, rfl, rfl⟩
    · rw [← eH] at e2
      subst e2
      obtain ⟨e1, e2⟩ := uLn_6 (S := S) n1 n2 n3 n4 n5 n6
      refine ⟨fun c => absurd c (by decide), fun c => ⟨(T, n, uW T n U, S, y), rfl, ⟨w0, D0⟩, fun r h3 hq3 => ?_⟩⟩
      obtain ⟨rfl, l3, w3, d3⟩ := hq3
      replace l3 : lfr y h2 h3 := l3
      exact ⟨rfl, rfl, lfr_t l0 l3, by rw [eUL, e1]; exact w3, fun z => by rw [eSL, e2]; exact d3 (by rw [eUL, e1] at z; exact z)⟩
    · exact ⟨fun c => ⟨rfl, rfl, rfl, n1, n2, n3, n4, n5, n6⟩, fun c => absurd rfl c⟩
  have B_75 := zr_aload_n (X := X) (Y := Y) (u := 0) (v := 0) O dX11_oneLine_75 rfl (zr_str O ws_RX11_208 dX11_oneLine_76 (zr_cV (ci := 10) (n := 1) O m_X11_passes (bn_X11_passes _ ⟨rfl, rfl⟩) vw_X11_passes tw_1321 rc_X11_passes (zrm hR rfl rfl) dX11_oneLine_78 (zr_ifeq (tgt := 94) O dX11_oneLine_81 rfl C_94 (zr_aload_n O dX11_oneLine_84 rfl (zr_gS (ci := 10) (j := 3) (off := 3) (t := 1) (n := 218) O zc_10 (by decide) rfl tw_1190 dX11_oneLine_85 (zr_iconst (x := 3) O dX11_oneLine_88 rfl (zr_iconst (x := 1) O dX11_oneLine_89 rfl (zr_iast O dX11_oneLine_90 (zr_goto (tgt := 138) O dX11_oneLine_91 rfl C_138)))))))))
  have C_75 : zSd X Y 0 0 75 (fun ls st h1 => ls = [some (vR 20 0 y)] ∧ st = [] ∧ h1 = h ∧ isW T n U 1 = false ∧ isW T n U 2 = false ∧ isW T n U 3 = false ∧ isW T n U 4 = false) := by
    refine zSd_weak B_75 (fun ls st h1 t => ?_)
    obtain ⟨rfl, rfl, eh, n1, n2, n3, n4⟩ := t
    subst eh
    refine fun a => ⟨(T, n, y, U.1, 5, a), rfl, ⟨hU.1, h19, by decide, by decide⟩, fun r h2 hq => ?_⟩
    rcases pas_e (a := a) hs h19.1 hq with ⟨n5, rfl, e2⟩ | ⟨n5, rfl, rfl⟩
    · rw [← eH] at e2
      subst e2
      obtain ⟨e1, e2⟩ := uLn_5 (S := S) n1 n2 n3 n4 n5
      refine ⟨fun c => absurd c (by decide), fun c => ⟨3, rfl, by decide, rfl, rfl, ?_, ?_, fun z => ?_⟩⟩
      · rw [zsI_W]; exact lfr_t l0 (lfr_W (j := 3) _ _ (by decide))
      · rw [eUL, e1, zsI_W]; exact rmR_W (j := 3) (by decide) (by decide) w0
      · rw [eSL, e2]; exact rmD_set 1 (by decide) D0
    · exact ⟨fun c => ⟨rfl, rfl, rfl, n1, n2, n3, n4, n5⟩, fun c => absurd rfl c⟩
  have B_59 := zr_aload_n (X := X) (Y := Y) (u := 0) (v := 0) O dX11_oneLine_59 rfl (zr_str O ws_RX11_203 dX11_oneLine_60 (zr_cV (ci := 10) (n := 1) O m_X11_passes (bn_X11_passes _ ⟨rfl, rfl⟩) vw_X11_passes tw_1321 rc_X11_passes (zrm hR rfl rfl) dX11_oneLine_62 (zr_ifeq (tgt := 75) O dX11_oneLine_65 rfl C_75 (zr_aload_n O dX11_oneLine_68 rfl (zr_cV (ci := 10) (n := 0) O m_X11_heatsTold (bn_X11_heatsTold _ ⟨rfl, rfl⟩) vw_X11_heatsTold tw_1352 rc_X11_heatsTold (zrm hR rfl rfl) dX11_oneLine_69 (zr_goto (tgt := 138) O dX11_oneLine_72 rfl C_138))))))
  have C_59 : zSd X Y 0 0 59 (fun ls st h1 => ls = [some (vR 20 0 y)] ∧ st = [] ∧ h1 = h ∧ isW T n U 1 = false ∧ isW T n U 2 = false ∧ isW T n U 3 = false) := by
    refine zSd_weak B_59 (fun ls st h1 t => ?_)
    obtain ⟨rfl, rfl, eh, n1, n2, n3⟩ := t
    subst eh
    refine fun a => ⟨(T, n, y, U.1, 4, a), rfl, ⟨hU.1, h19, by decide, by decide⟩, fun r h2 hq => ?_⟩
    rcases pas_e (a := a) hs h19.1 hq with ⟨n4, rfl, e2⟩ | ⟨n4, rfl, rfl⟩
    · rw [← eH] at e2
      subst e2
      obtain ⟨e1, e2⟩ := uLn_4 (S := S) n1 n2 n3 n4
      refine ⟨fun c => absurd c (by decide), fun c => ⟨(T, n, uW T n U, S, y), rfl, ⟨w0, D0⟩, fun r h3 hq3 => ?_⟩⟩
      obtain ⟨rfl, l3, w3, d3⟩ := hq3
      replace l3 : lfr y h2 h3 := l3
      exact ⟨rfl, rfl, lfr_t l0 l3, by rw [eUL, e1]; exact w3, fun z => by rw [eSL, e2]; exact d3 (by rw [eUL, e1] at z; exact z)⟩
    · exact ⟨fun c => ⟨rfl, rfl, rfl, n1, n2, n3, n4⟩, fun c => absurd rfl c⟩
  have B_32 := zr_aload_n (X := X) (Y := Y) (u := 0) (v := 0) O dX11_oneLine_32 rfl (zr_str O ws_RX11_201 dX11_oneLine_33 (zr_cV (ci := 10) (n := 1) O m_X11_passes (bn_X11_passes _ ⟨rfl, rfl⟩) vw_X11_passes tw_1321 rc_X11_passes (zrm hR rfl rfl) dX11_oneLine_35 (zr_ifeq (tgt := 59) O dX11_oneLine_38 rfl C_59 (zr_aload_n O dX11_oneLine_41 rfl (zr_gS (ci := 10) (j := 3) (off := 3) (t := 1) (n := 218) O zc_10 (by decide) rfl tw_1190 dX11_oneLine_42 (zr_iconst (x := 0) O dX11_oneLine_45 rfl (zr_aload_n O dX11_oneLine_46 rfl (zr_iconst (x := 0) O dX11_oneLine_47 rfl (zr_sipush (x := (999)) O dX11_oneLine_48 (by decide) (zr_iconst (x := 0) O dX11_oneLine_51 rfl (zr_cV (ci := 10) (n := 3) O m_X11_number (bn_X11_number _ ⟨rfl, rfl⟩) vw_X11_number tw_1340 rc_X11_number (zrm hR rfl rfl) dX11_oneLine_52 (zr_iast O dX11_oneLine_55 (zr_goto (tgt := 138) O dX11_oneLine_56 rfl C_138)))))))))))))
  have C_32 : zSd X Y 0 0 32 (fun ls st h1 => ls = [some (vR 20 0 y)] ∧ st = [] ∧ h1 = h ∧ isW T n U 1 = false ∧ isW T n U 2 = false) := by
    refine zSd_weak B_32 (fun ls st h1 t => ?_)
    obtain ⟨rfl, rfl, eh, n1, n2⟩ := t
    subst eh
    refine fun a => ⟨(T, n, y, U.1, 3, a), rfl, ⟨hU.1, h19, by decide, by decide⟩, fun r h2 hq => ?_⟩
    rcases pas_e (a := a) hs h19.1 hq with ⟨n3, rfl, e2⟩ | ⟨n3, rfl, rfl⟩
    · rw [← eH] at e2
      subst e2
      obtain ⟨e1, e2⟩ := uLn_3 (S := S) n1 n2 n3
      refine ⟨fun c => absurd c (by decide), fun c => ⟨(T, n, uW T n U, y, 0, 999, false), rfl, ⟨w0, by decide, by decide⟩, fun r h3 hq3 => ?_⟩⟩
      obtain ⟨v, rfl, f3, w3, x3⟩ := hq3
      replace f3 : rfr y h2 h3 := f3
      refine ⟨0, rfl, by decide, rfl, rfl, ?_, ?_, fun z => ?_⟩
      · rw [zsI_W]; exact lfr_t l0 (lfr_t (lfr_f f3) (lfr_W (j := 3) _ _ (by decide)))
      · rw [eUL, e1, zsI_W]; exact rmR_W (j := 3) (by decide) (by decide) w3
      · rw [eUL, e1] at z
        have ev : v = uNv T n (uW T n U) := (x3 z).1
        rw [eSL, e2, ← ev]; exact rmD_set v (by decide) (rmD_r f3 D0)
    · exact ⟨fun c => ⟨rfl, rfl, rfl, n1, n2, n3⟩, fun c => absurd rfl c⟩
  have B_16 := zr_aload_n (X := X) (Y := Y) (u := 0) (v := 0) O dX11_oneLine_16 rfl (zr_str O ws_RX11_196 dX11_oneLine_17 (zr_cV (ci := 10) (n := 1) O m_X11_passes (bn_X11_passes _ ⟨rfl, rfl⟩) vw_X11_passes tw_1321 rc_X11_passes (zrm hR rfl rfl) dX11_oneLine_19 (zr_ifeq (tgt := 32) O dX11_oneLine_22 rfl C_32 (zr_aload_n O dX11_oneLine_25 rfl (zr_cV (ci := 10) (n := 0) O m_X11_pairTold (bn_X11_pairTold _ ⟨rfl, rfl⟩) vw_X11_pairTold tw_1346 rc_X11_pairTold (zrm hR rfl rfl) dX11_oneLine_26 (zr_goto (tgt := 138) O dX11_oneLine_29 rfl C_138))))))
  have C_16 : zSd X Y 0 0 16 (fun ls st h1 => ls = [some (vR 20 0 y)] ∧ st = [] ∧ h1 = h ∧ isW T n U 1 = false) := by
    refine zSd_weak B_16 (fun ls st h1 t => ?_)
    obtain ⟨rfl, rfl, eh, n1⟩ := t
    subst eh
    refine fun a => ⟨(T, n, y, U.1, 2, a), rfl, ⟨hU.1, h19, by decide, by decide⟩, fun r h2 hq => ?_⟩
    rcases pas_e (a := a) hs h19.1 hq with ⟨n2, rfl, e2⟩ | ⟨n2, rfl, rfl⟩
    · rw [← eH] at e2
      subst e2
      obtain ⟨e1, e2⟩ := uLn_2 (S := S) n1 n2
      refine ⟨fun c => absurd c (by decide), fun c => ⟨(T, n, uW T n U, S, y, U.1), rfl, ⟨w0, D0, f20⟩, fun r h3 hq3 => ?_⟩⟩
      obtain ⟨rfl, l3, w3, d3⟩ := hq3
      replace l3 : lfr y h2 h3 := l3
      exact ⟨rfl, rfl, lfr_t l0 l3, by rw [eUL, e1]; exact w3, fun z => by rw [eSL, e2]; exact d3 (by rw [eUL, e1] at z; exact z)⟩
    · exact ⟨fun c => ⟨rfl, rfl, rfl, n1, n2⟩, fun c => absurd rfl c⟩
  have B_0 := zr_aload_n (X := X) (Y := Y) (u := 0) (v := 0) O dX11_oneLine_0 rfl (zr_str O ws_RX11_187 dX11_oneLine_1 (zr_cV (ci := 10) (n := 1) O m_X11_passes (bn_X11_passes _ ⟨rfl, rfl⟩) vw_X11_passes tw_1321 rc_X11_passes (zrm hR rfl rfl) dX11_oneLine_3 (zr_ifeq (tgt := 16) O dX11_oneLine_6 rfl C_16 (zr_aload_n O dX11_oneLine_9 rfl (zr_cV (ci := 10) (n := 0) O m_X11_ringTold (bn_X11_ringTold _ ⟨rfl, rfl⟩) vw_X11_ringTold tw_1331 rc_X11_ringTold (zrm hR rfl rfl) dX11_oneLine_10 (zr_goto (tgt := 138) O dX11_oneLine_13 rfl C_138))))))
  refine ⟨rfl, Nat.le_of_ble_eq_true rfl, _, B_0, ?_⟩
  refine fun a => ⟨(T, n, y, U.1, 1, a), rfl, ⟨hU.1, h19, by decide, by decide⟩, fun r h2 hq => ?_⟩
  rcases pas_e (a := a) hs h19.1 hq with ⟨n1, rfl, e2⟩ | ⟨n1, rfl, rfl⟩
  · rw [← eH] at e2
    subst e2
    obtain ⟨e1, e2⟩ := uLn_1 (S := S) n1
    refine ⟨fun c => absurd c (by decide), fun c => ⟨(T, n, uW T n U, S, y, U.1), rfl, ⟨w0, D0, f20⟩, fun r h3 hq3 => ?_⟩⟩
    obtain ⟨rfl, l3, w3, d3⟩ := hq3
    replace l3 : lfr y h2 h3 := l3
    exact ⟨rfl, rfl, lfr_t l0 l3, by rw [eUL, e1]; exact w3, fun z => by rw [eSL, e2]; exact d3 (by rw [eUL, e1] at z; exact z)⟩
  · exact ⟨fun c => ⟨rfl, rfl, rfl, n1⟩, fun c => absurd rfl c⟩

