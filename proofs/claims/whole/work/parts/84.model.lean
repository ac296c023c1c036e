theorem dX11_number_219 : decode cX11_number 219 = .ok (.ireturn, 1) := by decide +kernel
theorem dX11_number_218 : decode cX11_number 218 = .ok (.iconst 0, 1) := by decide +kernel
theorem dX11_number_206 : decode cX11_number 206 = .ok (.aload_n 0, 1) := by decide +kernel
theorem dX11_number_207 : decode cX11_number 207 = .ok (.getfield 134, 3) := by decide +kernel
theorem dX11_number_210 : decode cX11_number 210 = .ok (.ifCond .ne 8, 3) := by decide +kernel
theorem dX11_number_213 : decode cX11_number 213 = .ok (.iload 7, 2) := by decide +kernel
theorem dX11_number_215 : decode cX11_number 215 = .ok (.goto 4, 3) := by decide +kernel
theorem dX11_number_185 : decode cX11_number 185 = .ok (.istore 7, 2) := by decide +kernel
theorem dX11_number_187 : decode cX11_number 187 = .ok (.iload 7, 2) := by decide +kernel
theorem dX11_number_189 : decode cX11_number 189 = .ok (.iload_n 1, 1) := by decide +kernel
theorem dX11_number_190 : decode cX11_number 190 = .ok (.iload_n 2, 1) := by decide +kernel
theorem dX11_number_191 : decode cX11_number 191 = .ok (.invokestatic 173, 3) := by decide +kernel
theorem dX11_number_194 : decode cX11_number 194 = .ok (.ifCond .ne 12, 3) := by decide +kernel
theorem dX11_number_197 : decode cX11_number 197 = .ok (.aload_n 0, 1) := by decide +kernel
theorem dX11_number_198 : decode cX11_number 198 = .ok (.iconst 2, 1) := by decide +kernel
theorem dX11_number_199 : decode cX11_number 199 = .ok (.aload_n 0, 1) := by decide +kernel
theorem dX11_number_200 : decode cX11_number 200 = .ok (.getfield 165, 3) := by decide +kernel
theorem dX11_number_203 : decode cX11_number 203 = .ok (.invokevirtual 168, 3) := by decide +kernel
theorem dX11_number_183 : decode cX11_number 183 = .ok (.iload 6, 2) := by decide +kernel
theorem dX11_number_172 : decode cX11_number 172 = .ok (.iload 5, 2) := by decide +kernel
theorem dX11_number_174 : decode cX11_number 174 = .ok (.ifCond .eq 9, 3) := by decide +kernel
theorem dX11_number_177 : decode cX11_number 177 = .ok (.iload 6, 2) := by decide +kernel
theorem dX11_number_179 : decode cX11_number 179 = .ok (.ineg, 1) := by decide +kernel
theorem dX11_number_180 : decode cX11_number 180 = .ok (.goto 5, 3) := by decide +kernel
theorem dX11_number_88 : decode cX11_number 88 = .ok (.aload_n 0, 1) := by decide +kernel
theorem dX11_number_89 : decode cX11_number 89 = .ok (.getfield 134, 3) := by decide +kernel
theorem dX11_number_92 : decode cX11_number 92 = .ok (.ifCond .ne 80, 3) := by decide +kernel
theorem dX11_number_95 : decode cX11_number 95 = .ok (.aload_n 0, 1) := by decide +kernel
theorem dX11_number_96 : decode cX11_number 96 = .ok (.getfield 140, 3) := by decide +kernel
theorem dX11_number_99 : decode cX11_number 99 = .ok (.aload_n 0, 1) := by decide +kernel
theorem dX11_number_100 : decode cX11_number 100 = .ok (.getfield 143, 3) := by decide +kernel
theorem dX11_number_103 : decode cX11_number 103 = .ok (.if_icmp .ge 69, 3) := by decide +kernel
theorem dX11_number_106 : decode cX11_number 106 = .ok (.aload_n 0, 1) := by decide +kernel
theorem dX11_number_107 : decode cX11_number 107 = .ok (.getfield 51, 3) := by decide +kernel
theorem dX11_number_110 : decode cX11_number 110 = .ok (.aload_n 0, 1) := by decide +kernel
theorem dX11_number_111 : decode cX11_number 111 = .ok (.getfield 140, 3) := by decide +kernel
theorem dX11_number_114 : decode cX11_number 114 = .ok (.baload, 1) := by decide +kernel
theorem dX11_number_115 : decode cX11_number 115 = .ok (.bipush 48, 2) := by decide +kernel
theorem dX11_number_117 : decode cX11_number 117 = .ok (.if_icmp .lt 55, 3) := by decide +kernel
theorem dX11_number_120 : decode cX11_number 120 = .ok (.aload_n 0, 1) := by decide +kernel
theorem dX11_number_121 : decode cX11_number 121 = .ok (.getfield 51, 3) := by decide +kernel
theorem dX11_number_124 : decode cX11_number 124 = .ok (.aload_n 0, 1) := by decide +kernel
theorem dX11_number_125 : decode cX11_number 125 = .ok (.getfield 140, 3) := by decide +kernel
theorem dX11_number_128 : decode cX11_number 128 = .ok (.baload, 1) := by decide +kernel
theorem dX11_number_129 : decode cX11_number 129 = .ok (.bipush 57, 2) := by decide +kernel
theorem dX11_number_131 : decode cX11_number 131 = .ok (.if_icmp .gt 41, 3) := by decide +kernel
theorem dX11_number_134 : decode cX11_number 134 = .ok (.bipush 10, 2) := by decide +kernel
theorem dX11_number_136 : decode cX11_number 136 = .ok (.iload 6, 2) := by decide +kernel
theorem dX11_number_138 : decode cX11_number 138 = .ok (.imul, 1) := by decide +kernel
theorem dX11_number_139 : decode cX11_number 139 = .ok (.aload_n 0, 1) := by decide +kernel
theorem dX11_number_140 : decode cX11_number 140 = .ok (.getfield 51, 3) := by decide +kernel
theorem dX11_number_143 : decode cX11_number 143 = .ok (.aload_n 0, 1) := by decide +kernel
theorem dX11_number_144 : decode cX11_number 144 = .ok (.getfield 140, 3) := by decide +kernel
theorem dX11_number_147 : decode cX11_number 147 = .ok (.baload, 1) := by decide +kernel
theorem dX11_number_148 : decode cX11_number 148 = .ok (.iadd, 1) := by decide +kernel
theorem dX11_number_149 : decode cX11_number 149 = .ok (.bipush 48, 2) := by decide +kernel
theorem dX11_number_151 : decode cX11_number 151 = .ok (.isub, 1) := by decide +kernel
theorem dX11_number_152 : decode cX11_number 152 = .ok (.ldc 172, 2) := by decide +kernel
theorem dX11_number_154 : decode cX11_number 154 = .ok (.invokestatic 95, 3) := by decide +kernel
theorem dX11_number_157 : decode cX11_number 157 = .ok (.istore 6, 2) := by decide +kernel
theorem dX11_number_159 : decode cX11_number 159 = .ok (.aload_n 0, 1) := by decide +kernel
theorem dX11_number_160 : decode cX11_number 160 = .ok (.dup, 1) := by decide +kernel
theorem dX11_number_161 : decode cX11_number 161 = .ok (.getfield 140, 3) := by decide +kernel
theorem dX11_number_164 : decode cX11_number 164 = .ok (.iconst 1, 1) := by decide +kernel
theorem dX11_number_165 : decode cX11_number 165 = .ok (.iadd, 1) := by decide +kernel
theorem dX11_number_166 : decode cX11_number 166 = .ok (.putfield 140, 3) := by decide +kernel
theorem dX11_number_169 : decode cX11_number 169 = .ok (.goto (-81), 3) := by decide +kernel
theorem dX11_number_85 : decode cX11_number 85 = .ok (.iconst 0, 1) := by decide +kernel
theorem dX11_number_86 : decode cX11_number 86 = .ok (.istore 6, 2) := by decide +kernel
theorem dX11_number_76 : decode cX11_number 76 = .ok (.aload_n 0, 1) := by decide +kernel
theorem dX11_number_77 : decode cX11_number 77 = .ok (.iconst 1, 1) := by decide +kernel
theorem dX11_number_78 : decode cX11_number 78 = .ok (.aload_n 0, 1) := by decide +kernel
theorem dX11_number_79 : decode cX11_number 79 = .ok (.getfield 140, 3) := by decide +kernel
theorem dX11_number_82 : decode cX11_number 82 = .ok (.invokevirtual 168, 3) := by decide +kernel
theorem dX11_number_62 : decode cX11_number 62 = .ok (.iload 4, 2) := by decide +kernel
theorem dX11_number_64 : decode cX11_number 64 = .ok (.bipush 48, 2) := by decide +kernel
theorem dX11_number_66 : decode cX11_number 66 = .ok (.if_icmp .lt 10, 3) := by decide +kernel
theorem dX11_number_69 : decode cX11_number 69 = .ok (.iload 4, 2) := by decide +kernel
theorem dX11_number_71 : decode cX11_number 71 = .ok (.bipush 57, 2) := by decide +kernel
theorem dX11_number_73 : decode cX11_number 73 = .ok (.if_icmp .le 12, 3) := by decide +kernel
theorem dX11_number_39 : decode cX11_number 39 = .ok (.istore 5, 2) := by decide +kernel
theorem dX11_number_41 : decode cX11_number 41 = .ok (.iload 5, 2) := by decide +kernel
theorem dX11_number_43 : decode cX11_number 43 = .ok (.ifCond .eq 19, 3) := by decide +kernel
theorem dX11_number_46 : decode cX11_number 46 = .ok (.aload_n 0, 1) := by decide +kernel
theorem dX11_number_47 : decode cX11_number 47 = .ok (.dup, 1) := by decide +kernel
theorem dX11_number_48 : decode cX11_number 48 = .ok (.getfield 140, 3) := by decide +kernel
theorem dX11_number_51 : decode cX11_number 51 = .ok (.iconst 1, 1) := by decide +kernel
theorem dX11_number_52 : decode cX11_number 52 = .ok (.iadd, 1) := by decide +kernel
theorem dX11_number_53 : decode cX11_number 53 = .ok (.putfield 140, 3) := by decide +kernel
theorem dX11_number_56 : decode cX11_number 56 = .ok (.aload_n 0, 1) := by decide +kernel
theorem dX11_number_57 : decode cX11_number 57 = .ok (.invokevirtual 146, 3) := by decide +kernel
theorem dX11_number_60 : decode cX11_number 60 = .ok (.istore 4, 2) := by decide +kernel
theorem dX11_number_38 : decode cX11_number 38 = .ok (.iconst 0, 1) := by decide +kernel
theorem dX11_number_15 : decode cX11_number 15 = .ok (.aload_n 0, 1) := by decide +kernel
theorem dX11_number_16 : decode cX11_number 16 = .ok (.aload_n 0, 1) := by decide +kernel
theorem dX11_number_17 : decode cX11_number 17 = .ok (.getfield 140, 3) := by decide +kernel
theorem dX11_number_20 : decode cX11_number 20 = .ok (.putfield 165, 3) := by decide +kernel
theorem dX11_number_23 : decode cX11_number 23 = .ok (.iload_n 3, 1) := by decide +kernel
theorem dX11_number_24 : decode cX11_number 24 = .ok (.ifCond .eq 14, 3) := by decide +kernel
theorem dX11_number_27 : decode cX11_number 27 = .ok (.iload 4, 2) := by decide +kernel
theorem dX11_number_29 : decode cX11_number 29 = .ok (.bipush 45, 2) := by decide +kernel
theorem dX11_number_31 : decode cX11_number 31 = .ok (.if_icmp .ne 7, 3) := by decide +kernel
theorem dX11_number_34 : decode cX11_number 34 = .ok (.iconst 1, 1) := by decide +kernel
theorem dX11_number_35 : decode cX11_number 35 = .ok (.goto 4, 3) := by decide +kernel
theorem dX11_number_0 : decode cX11_number 0 = .ok (.aload_n 0, 1) := by decide +kernel
theorem dX11_number_1 : decode cX11_number 1 = .ok (.invokevirtual 146, 3) := by decide +kernel
theorem dX11_number_4 : decode cX11_number 4 = .ok (.istore 4, 2) := by decide +kernel
theorem dX11_number_6 : decode cX11_number 6 = .ok (.aload_n 0, 1) := by decide +kernel
theorem dX11_number_7 : decode cX11_number 7 = .ok (.getfield 134, 3) := by decide +kernel
theorem dX11_number_10 : decode cX11_number 10 = .ok (.ifCond .le 5, 3) := by decide +kernel
theorem dX11_number_13 : decode cX11_number 13 = .ok (.iconst 0, 1) := by decide +kernel
theorem dX11_number_14 : decode cX11_number 14 = .ok (.ireturn, 1) := by decide +kernel
/-! the reference: numbers -/
def nbM (T : Nat → Int32) (n : Nat) (U : zU) (sg : Bool) : Bool := sg && uSm T n U
def nbP (T : Nat → Int32) (n : Nat) (U : zU) (sg : Bool) : Nat := if nbM T n U sg then skp T n (skp T n U.1 + 1) else skp T n U.1
def nbS (T : Nat → Int32) (n : Nat) (U : zU) (sg : Bool) : zU := (nbP T n U sg, U.2.1, U.2.2.1, nI (skp T n U.1))
def nbV (T : Nat → Int32) (n : Nat) (U : zU) (sg : Bool) : Int32 := if nbM T n U sg then -(dgv T (nbP T n U sg) (dgc T n (nbP T n U sg))) else dgv T (nbP T n U sg) (dgc T n (nbP T n U sg))
def nbU (T : Nat → Int32) (n : Nat) (U : zU) (lo up : Int32) (sg : Bool) : zU := uNe (uDg T n (nbS T n U sg)) (nbV T n U sg) lo up
theorem nb_f (T : Nat → Int32) (n : Nat) (U : zU) (lo up : Int32) : nbU T n U lo up false = uNm T n U lo up ∧ nbV T n U false = uNv T n U := ⟨rfl, rfl⟩
theorem nb_t (T : Nat → Int32) (n : Nat) (U : zU) (lo up : Int32) : nbU T n U lo up true = uSg T n U lo up ∧ nbV T n U true = uSv T n U := ⟨rfl, rfl⟩
theorem uF_k {U : zU} (h : ¬ U.2.1 = 0) (k q : Int32) : uF U k q = U := if_neg h
theorem nbU_k {T : Nat → Int32} {n : Nat} {U : zU} (h : ¬ U.2.1 = 0) (lo up : Int32) (sg : Bool) : (nbU T n U lo up sg).2.1 = U.2.1 ∧ (nbU T n U lo up sg).2.2.1 = U.2.2.1 := by
  have h1 : (uDg T n (nbS T n U sg)).2.1 = U.2.1 ∧ (uDg T n (nbS T n U sg)).2.2.1 = U.2.2.1 := by
    unfold uDg
    split
    · rw [uF_k (show ¬ (nbS T n U sg).2.1 = 0 from h)]; exact ⟨rfl, rfl⟩
    · exact ⟨rfl, rfl⟩
  unfold nbU uNe
  split
  · rw [uF_k (by rw [h1.1]; exact h)]; exact h1
  · exact h1
theorem nb_a {T : Nat → Int32} {n : Nat} {U : zU} (h : U.2.1 = 0) {lo up : Int32} {sg : Bool} (hd : dgc T n (nbP T n U sg) = 0) : (nbU T n U lo up sg).2.1 = 1 ∧ (nbU T n U lo up sg).2.2.1 = nI (nbP T n U sg) := by
  have h1 : uDg T n (nbS T n U sg) = (nbP T n U sg, 1, nI (nbP T n U sg), nI (skp T n U.1)) := by
    unfold uDg
    rw [if_pos (show dgc T n (nbS T n U sg).1 = 0 from hd)]
    exact if_pos (show (nbS T n U sg).2.1 = 0 from h)
  unfold nbU uNe
  rw [h1]
  split
  · rw [uF_k (show ¬ (1 : Int32) = 0 by decide)]; exact ⟨rfl, rfl⟩
  · exact ⟨rfl, rfl⟩
theorem nb_d {T : Nat → Int32} {n : Nat} {U : zU} (h : U.2.1 = 0) {sg : Bool} (hd : ¬ dgc T n (nbP T n U sg) = 0) : uDg T n (nbS T n U sg) = (nbP T n U sg + dgc T n (nbP T n U sg), 0, U.2.2.1, nI (skp T n U.1)) := by
  unfold uDg
  rw [if_neg (show ¬ dgc T n (nbS T n U sg).1 = 0 from hd), ← h]
  rfl
theorem nb_b {T : Nat → Int32} {n : Nat} {U : zU} (h : U.2.1 = 0) {lo up : Int32} {sg : Bool} (hd : ¬ dgc T n (nbP T n U sg) = 0) (hr : nbV T n U sg < lo ∨ up < nbV T n U sg) : (nbU T n U lo up sg).2.1 = 2 ∧ (nbU T n U lo up sg).2.2.1 = nI (skp T n U.1) := by
  unfold nbU uNe
  rw [nb_d h hd, if_pos hr]
  exact ⟨rfl, rfl⟩
theorem nb_c {T : Nat → Int32} {n : Nat} {U : zU} (h : U.2.1 = 0) {lo up : Int32} {sg : Bool} (hd : ¬ dgc T n (nbP T n U sg) = 0) (hr : ¬ (nbV T n U sg < lo ∨ up < nbV T n U sg)) : nbU T n U lo up sg = (nbP T n U sg + dgc T n (nbP T n U sg), 0, U.2.2.1, nI (skp T n U.1)) := by
  unfold nbU uNe
  rw [nb_d h hd, if_neg hr]
/-- the two ways of cutting a large number off -/
def veq (v w : Int32) : Prop := (v.toInt = w.toInt ∨ (100000 ≤ v.toInt ∧ 100000 ≤ w.toInt)) ∧ (0 ≤ v.toInt ∧ v.toInt ≤ 1000000) ∧ 0 ≤ w.toInt ∧ w.toInt ≤ 1000000
theorem veq_st {v w d : Int32} (h : veq v w) (hd : (48 : Int32) ≤ d ∧ d ≤ 57) : veq (mn2 (10 * v + d - 48) 1000000) (if w < 100000 then 10 * w + d - 48 else w) := by
  obtain ⟨h1, ⟨h2, h3⟩, h4, h5⟩ := h
  obtain ⟨d1, d2⟩ := hd
  have c10 : (10 : Int32).toInt = 10 := by decide
  have c48 : (48 : Int32).toInt = 48 := by decide
  have c57 : (57 : Int32).toInt = 57 := by decide
  have cM : (1000000 : Int32).toInt = 1000000 := by decide
  have cL : (100000 : Int32).toInt = 100000 := by decide
  rw [fa_le] at d1 d2
  have gen : ∀ x : Int32, 0 ≤ x.toInt → x.toInt ≤ 1000000 → (10 * x + d - 48).toInt = 10 * x.toInt + d.toInt - 48 := by
    intro x x1 x2
    have e1 : (10 * x).toInt = 10 * x.toInt := by rw [fb_mulI (by rw [c10]; omega) (by rw [c10]; omega), c10]
    have e2 : (10 * x + d).toInt = 10 * x.toInt + d.toInt := by rw [fb_addI (by rw [e1]; omega) (by rw [e1]; omega), e1]
    rw [fb_subI (by rw [e2, c48]; omega) (by rw [e2, c48]; omega), e2, c48]
  have ev := gen v h2 h3
  have ew := gen w h4 h5
  unfold mn2 veq
  by_cases c1 : (1000000 : Int32) < 10 * v + d - 48
  · rw [if_pos c1]
    rw [fa_lt, ev, cM] at c1
    by_cases c2 : w < 100000
    · rw [if_pos c2, ew]
      rw [fa_lt, cL] at c2
      omega
    · rw [if_neg c2]
      rw [fa_lt, cL] at c2
      omega
  · rw [if_neg c1, ev]
    rw [fa_lt, ev, cM] at c1
    by_cases c2 : w < 100000
    · rw [if_pos c2, ew]
      rw [fa_lt, cL] at c2
      omega
    · rw [if_neg c2]
      rw [fa_lt, cL] at c2
      omega
theorem veq_0 : veq 0 0 := by unfold veq; decide
theorem veq_r {v w lo up : Int32} {neg : Bool} (h : veq v w) (hl : -10000 ≤ lo) (hu : up ≤ 10000) : (lo ≤ (if neg then -v else v) ∧ (if neg then -v else v) ≤ up → (if neg then -v else v) = (if neg then -w else w)) ∧ (¬ (lo ≤ (if neg then -v else v) ∧ (if neg then -v else v) ≤ up) ↔ ((if neg then -w else w) < lo ∨ up < (if neg then -w else w))) := by
  obtain ⟨h1, ⟨h2, h3⟩, h4, h5⟩ := h
  have c1 : (-10000 : Int32).toInt = -10000 := by decide
  have c2 : (10000 : Int32).toInt = 10000 := by decide
  rw [fa_le] at hl hu
  have ev : (-v).toInt = -v.toInt := fb_negI (by omega)
  have ew : (-w).toInt = -w.toInt := fb_negI (by omega)
  cases neg with
  | true =>
    simp only [if_true]
    rw [fa_le, fa_le, fa_lt, fa_lt, fa_eq, ev, ew]
    omega
  | false =>
    simp only [Bool.false_eq_true, if_false]
    rw [fa_le, fa_le, fa_lt, fa_lt, fa_eq]
    omega
/-- the reference's reader -/
def rmR (T : Nat → Int32) (n : Nat) (U : zU) (h : zH) (y : Nat) : Prop := rmT T n h y ∧ h.1 y 21 = U.2.1 ∧ (U.2.1 = 0 ∨ 0 < U.2.1) ∧ (¬ U.2.1 = 0 → h.1 y 22 = U.2.2.1) ∧ ∃ p, h.1 y 19 = nI p ∧ p ≤ n + 1 ∧ (U.2.1 = 0 → p = U.1 ∧ p ≤ n)
def rfr (y : Nat) (h h' : zH) : Prop := ∃ F : Nat → Int32, h' = zsW h y F ∧ ∀ k, k ≠ 19 → k ≠ 21 → k ≠ 22 → k ≠ 26 → F k = h.1 y k
theorem rfr_t {y : Nat} {h h1 h2 : zH} (a : rfr y h h1) (b : rfr y h1 h2) : rfr y h h2 := by
  obtain ⟨F, rfl, hF⟩ := a
  obtain ⟨G, rfl, hG⟩ := b
  refine ⟨G, zsW_W _ _ _ _, fun k k1 k2 k3 k4 => ?_⟩
  rw [hG k k1 k2 k3 k4, zsW_s]
  exact hF k k1 k2 k3 k4
theorem rfr_r (y : Nat) (h : zH) : rfr y h h := ⟨h.1 y, (zsW_self _ _).symm, fun _ _ _ _ _ => rfl⟩
theorem rmT_F {T : Nat → Int32} {n : Nat} {h : zH} {y : Nat} {F : Nat → Int32} (hF : F 18 = h.1 y 18) (hT : rmT T n h y) : rmT T n (zsW h y F) y := ⟨⟨by rw [zsW_s, hF]; exact hT.1.1, hT.1.2⟩, by rw [zsW_n _ _ (by omega)]; exact hT.2⟩
theorem dgc_0 {T : Nat → Int32} {n p : Nat} (hp : p ≤ n) : dgc T n p = 0 ↔ ¬ (p < n ∧ dgt T p = true) := by
  constructor
  · rintro h ⟨h1, h2⟩
    have h3 := fa_first_yes (fun i => !dgt T (p + i)) (n - p) (by unfold dgc at h; omega)
    unfold dgc at h
    rw [h, Nat.add_zero, h2] at h3
    cases h3
  · intro h
    unfold dgc
    by_cases c : p < n
    · have hz : dgt T p = false := by
        cases hz : dgt T p with
        | false => rfl
        | true => exact absurd ⟨c, hz⟩ h
      exact first_at (f := fun i => !dgt T (p + i)) (i := 0) (by omega) (by show (!dgt T (p + 0)) = true; rw [Nat.add_zero, hz]; rfl) (fun j hj => absurd hj (Nat.not_lt_zero _))
    · rw [show n - p = 0 by omega]; rfl
theorem dgv_s {T : Nat → Int32} {p i : Nat} : dgv T p (i + 1) = if dgv T p i < 100000 then 10 * dgv T p i + T (p + i) - 48 else dgv T p i := rfl
theorem ev_dg {T : Nat → Int32} {n : Nat} {u : Nat → Int32} (h : evT T n u) {j : Nat} (hj : j < n) (hd : (48 : Int32) ≤ T j ∧ T j ≤ 57) : u j = T j := by
  rcases h j hj with e | ⟨e1, -⟩
  · exact e
  · have c1 : (127 : Int32).toInt = 127 := by decide
    have c2 : (57 : Int32).toInt = 57 := by decide
    have h2 := hd.2
    rw [fa_lt] at e1
    rw [fa_le] at h2
    omega
def ca_X11_number : ((Nat → Int32) × Nat × zU × Nat × Int32 × Int32 × Bool) → List zV := fun (T, n, U, y, lo, up, sg) => [vR 20 0 y, vI lo, vI up, vI (bI sg)]
def cp_X11_number : ((Nat → Int32) × Nat × zU × Nat × Int32 × Int32 × Bool) → zH → Prop := fun (T, n, U, y, lo, up, sg) h => rmR T n U h y ∧ -10000 ≤ lo ∧ up ≤ 10000
def cq_X11_number : ((Nat → Int32) × Nat × zU × Nat × Int32 × Int32 × Bool) → zH → Option zV → zH → Prop := fun (T, n, U, y, lo, up, sg) h r h' => ∃ v : Int32, r = some (vI v) ∧ rfr y h h' ∧ rmR T n (nbU T n U lo up sg) h' y ∧ ((nbU T n U lo up sg).2.1 = 0 → v = nbV T n U sg ∧ h'.1 y 26 = (nbU T n U lo up sg).2.2.2)
theorem rc_X11_number : ∀ x : ((Nat → Int32) × Nat × zU × Nat × Int32 × Int32 × Bool), ∃ (j a : Nat) (As : List zV), ca_X11_number x = vR (10 + 10) j a :: As := by
  rintro ⟨T, n, U, y, lo, up, sg⟩
  exact ⟨_, _, _, rfl⟩
set_option maxHeartbeats 4000000 in
set_option maxRecDepth 100000 in
theorem m_X11_number : zM yX11_number cX11_number 8 (some .int) ({ frames := 1, cells := 0, slots := 0, locals := 22 } : Room) ((ca_X11_number, cp_X11_number, cq_X11_number) : zC ((Nat → Int32) × Nat × zU × Nat × Int32 × Int32 × Bool)) := by
  refine zM_of (by decide) ?_
  rintro X Y ⟨T, n, U, y, lo, up, sg⟩ h ⟨hU, hlo, hup⟩ O E hR
  have hU : rmR T n U h y := hU
  have hlo : -10000 ≤ lo := hlo
  have hup : up ≤ 10000 := hup
  obtain ⟨hT, hf, hpos, hw, p, hp, hpn, hp0⟩ := hU
  have hn4 := hT.1.2
  obtain ⟨u, eu⟩ : ∃ u : Nat → Int32, u = h.1 (y + 13) := ⟨_, rfl⟩
  have hev : evT T n u := by rw [eu]; exact hT.2
  have e13 : ∀ F : Nat → Int32, (zsW h y F).1 (y + 13) = u := fun F => by rw [zsW_n _ _ (by omega), eu]
  have hq : U.2.1 = 0 → skp T n U.1 ≤ n := fun z => (skp_le T (by have := hp0 z; omega)).2
  have hps : U.2.1 = 0 → nbP T n U sg ≤ n := fun z => by
    unfold nbP
    split
    · rename_i c
      unfold nbM at c
      rw [Bool.and_eq_true] at c
      have := of_decide_eq_true c.2
      exact (skp_le T (by omega)).2
    · exact hq z
  have B_219 := zr_ireturn (X := X) (Y := Y) (u := 0) (v := 0) O E (Nat.le_refl _) (Nat.le_refl _) dX11_number_219
  have B_218 := zr_iconst (X := X) (Y := Y) (u := 0) (v := 0) (x := 0) O dX11_number_218 rfl (B_219)
  have B_206 := zr_aload_n (X := X) (Y := Y) (u := 0) (v := 0) O dX11_number_206 rfl (zr_gI (ci := 10) (j := 21) O zc_10 (by decide) rfl tw_1208 dX11_number_207 (zr_ifne (tgt := 218) O dX11_number_210 rfl B_218 (zr_iload O dX11_number_213 (zr_goto (tgt := 219) O dX11_number_215 rfl B_219))))
  have C_206 : zSd X Y 0 0 206 (fun ls st h1 => ∃ (y4 : Int32) (y5 y6 w : Int32) (F : Nat → Int32), U.2.1 = 0 ∧ ls = [some (vR 20 0 y), some (vI lo), some (vI up), some (vI (bI sg)), some (vI y4), some (vI y5), some (vI y6), some (vI w)] ∧ st = [] ∧ h1 = zsW h y F ∧ (∀ k, k ≠ 19 → k ≠ 21 → k ≠ 22 → k ≠ 26 → F k = h.1 y k) ∧ F 21 = (nbU T n U lo up sg).2.1 ∧ ((nbU T n U lo up sg).2.1 = 0 ∨ 0 < (nbU T n U lo up sg).2.1) ∧ (¬ (nbU T n U lo up sg).2.1 = 0 → F 22 = (nbU T n U lo up sg).2.2.1) ∧ (∃ p, F 19 = nI p ∧ p ≤ n ∧ ((nbU T n U lo up sg).2.1 = 0 → p = (nbU T n U lo up sg).1)) ∧ ((nbU T n U lo up sg).2.1 = 0 → w = nbV T n U sg ∧ F 26 = (nbU T n U lo up sg).2.2.2)) := by
    refine zSd_weak B_206 (fun ls st h1 t => ?_)
    obtain ⟨y4, y5, y6, w, F, hz, rfl, rfl, rfl, hF, f21, fpos, f22, ⟨p2, f19, p2n, p20⟩, hv⟩ := t
    have fr : rfr y h (zsW h y F) := ⟨F, rfl, hF⟩
    have hR : rmR T n (nbU T n U lo up sg) (zsW h y F) y := ⟨rmT_F (hF 18 (by decide) (by decide) (by decide) (by decide)) hT, by rw [zsW_s]; exact f21, fpos, fun z => by rw [zsW_s]; exact f22 z, p2, by rw [zsW_s]; exact f19, by omega, fun z => ⟨p20 z, p2n⟩⟩
    have e21 : (zsW h y F).1 y 21 = (nbU T n U lo up sg).2.1 := by rw [zsW_s]; exact f21
    refine ⟨fun c => ⟨0, rfl, fr, hR, fun z => ?_⟩, fun c => ⟨w, rfl, fr, hR, fun z => ⟨(hv z).1, by rw [zsW_s]; exact (hv z).2⟩⟩⟩
    rw [e21] at c
    exact absurd z c
  have B_185 := zr_istore (X := X) (Y := Y) (u := 0) (v := 0) O dX11_number_185 (zr_iload O dX11_number_187 (zr_iload_n O dX11_number_189 rfl (zr_iload_n O dX11_number_190 rfl (zr_cI (zr_cS (n := 3) O m_X11_within (bn_X11_within _ ⟨rfl, rfl⟩) tw_1306 tw_1305 (zrm hR rfl rfl) dX11_number_191 (zr_ifne (tgt := 206) O dX11_number_194 rfl C_206 (zr_aload_n O dX11_number_197 rfl (zr_iconst (x := 2) O dX11_number_198 rfl (zr_aload_n O dX11_number_199 rfl (zr_gI (ci := 10) (j := 26) O zc_10 (by decide) rfl tw_1213 dX11_number_200 (zr_cVv (zr_cV (ci := 10) (n := 2) O m_X11_wrong (bn_X11_wrong _ ⟨rfl, rfl⟩) vw_X11_wrong tw_1335 rc_X11_wrong (zrm hR rfl rfl) dX11_number_203 (C_206)))))))))))))
  have B_183 := zr_iload (X := X) (Y := Y) (u := 0) (v := 0) O dX11_number_183 (B_185)
  have B_172 := zr_iload (X := X) (Y := Y) (u := 0) (v := 0) O dX11_number_172 (zr_ifeq (tgt := 183) O dX11_number_174 rfl B_183 (zr_iload O dX11_number_177 (zr_ineg O dX11_number_179 (zr_goto (tgt := 185) O dX11_number_180 rfl B_185))))
  have C_172 : zSd X Y 0 0 172 (fun ls st h1 => ∃ (y4 v : Int32) (F : Nat → Int32), U.2.1 = 0 ∧ ls = [some (vR 20 0 y), some (vI lo), some (vI up), some (vI (bI sg)), some (vI y4), some (vI (bI (nbM T n U sg))), some (vI v), none] ∧ st = [] ∧ h1 = zsW h y F ∧ (∀ k, k ≠ 19 → k ≠ 21 → k ≠ 22 → k ≠ 26 → F k = h.1 y k) ∧ F 26 = nI (skp T n U.1) ∧ (dgc T n (nbP T n U sg) = 0 → F 21 = 1 ∧ F 22 = nI (nbP T n U sg) ∧ F 19 = nI (nbP T n U sg)) ∧ (¬ dgc T n (nbP T n U sg) = 0 → F 21 = 0 ∧ F 19 = nI (nbP T n U sg + dgc T n (nbP T n U sg)) ∧ veq v (dgv T (nbP T n U sg) (dgc T n (nbP T n U sg))))) := by
    refine zSd_weak B_172 (fun ls st h1 t => ?_)
    obtain ⟨y4, v, F, hz, rfl, rfl, rfl, hF, f26, ha, hb⟩ := t
    have hpn2 := hps hz
    have hdl : dgc T n (nbP T n U sg) ≤ n - nbP T n U sg := fa_first_le _ _
    have key : ∀ w : Int32, w = (if nbM T n U sg then -v else v) → ∃ x : Int32 × Int32 × Int32, ([vI w, vI lo, vI up] : List zV) = ca_X11_within x ∧ True ∧ ((¬ cf_X11_within x (zsW h y F) = 0 → ∃ (yq : Int32) (y5 y6 w2 : Int32) (F2 : Nat → Int32), U.2.1 = 0 ∧ ([some (vR 20 0 y), some (vI lo), some (vI up), some (vI (bI sg)), some (vI y4), some (vI (bI (nbM T n U sg))), some (vI v), some (vI w)] : zL) = [some (vR 20 0 y), some (vI lo), some (vI up), some (vI (bI sg)), some (vI yq), some (vI y5), some (vI y6), some (vI w2)] ∧ ([] : List zV) = [] ∧ zsW h y F = zsW h y F2 ∧ (∀ k, k ≠ 19 → k ≠ 21 → k ≠ 22 → k ≠ 26 → F2 k = h.1 y k) ∧ F2 21 = (nbU T n U lo up sg).2.1 ∧ ((nbU T n U lo up sg).2.1 = 0 ∨ 0 < (nbU T n U lo up sg).2.1) ∧ (¬ (nbU T n U lo up sg).2.1 = 0 → F2 22 = (nbU T n U lo up sg).2.2.1) ∧ (∃ p, F2 19 = nI p ∧ p ≤ n ∧ ((nbU T n U lo up sg).2.1 = 0 → p = (nbU T n U lo up sg).1)) ∧ ((nbU T n U lo up sg).2.1 = 0 → w2 = nbV T n U sg ∧ F2 26 = (nbU T n U lo up sg).2.2.2)) ∧ (cf_X11_within x (zsW h y F) = 0 → ∃ x2 : Nat × Int32 × Int32, ([vR 20 0 y, vI 2, vI ((zsW h y F).1 y 26)] : List zV) = ca_X11_wrong x2 ∧ True ∧ ∃ (yq : Int32) (y5 y6 w2 : Int32) (F2 : Nat → Int32), U.2.1 = 0 ∧ ([some (vR 20 0 y), some (vI lo), some (vI up), some (vI (bI sg)), some (vI y4), some (vI (bI (nbM T n U sg))), some (vI v), some (vI w)] : zL) = [some (vR 20 0 y), some (vI lo), some (vI up), some (vI (bI sg)), some (vI yq), some (vI y5), some (vI y6), some (vI w2)] ∧ ([] : List zV) = [] ∧ cg_X11_wrong x2 (zsW h y F) = zsW h y F2 ∧ (∀ k, k ≠ 19 → k ≠ 21 → k ≠ 22 → k ≠ 26 → F2 k = h.1 y k) ∧ F2 21 = (nbU T n U lo up sg).2.1 ∧ ((nbU T n U lo up sg).2.1 = 0 ∨ 0 < (nbU T n U lo up sg).2.1) ∧ (¬ (nbU T n U lo up sg).2.1 = 0 → F2 22 = (nbU T n U lo up sg).2.2.1) ∧ (∃ p, F2 19 = nI p ∧ p ≤ n ∧ ((nbU T n U lo up sg).2.1 = 0 → p = (nbU T n U lo up sg).1)) ∧ ((nbU T n U lo up sg).2.1 = 0 → w2 = nbV T n U sg ∧ F2 26 = (nbU T n U lo up sg).2.2.2))) := by
      intro w ew
      refine ⟨(w, lo, up), rfl, trivial, fun c => ⟨y4, _, _, w, F, hz, rfl, rfl, rfl, hF, ?_⟩, fun c => ⟨(y, 2, (zsW h y F).1 y 26), rfl, trivial, ?_⟩⟩
      · have hin := gok (p := lo ≤ w ∧ w ≤ up) c
        by_cases hd : dgc T n (nbP T n U sg) = 0
        · obtain ⟨a1, a2⟩ := nb_a (lo := lo) (up := up) hz hd
          obtain ⟨b1, b2, b3⟩ := ha hd
          rw [a1, a2]
          exact ⟨b1, Or.inr (by decide), fun _ => b2, ⟨_, b3, hpn2, fun z => absurd z (by decide)⟩, fun z => absurd z (by decide)⟩
        · obtain ⟨b1, b2, b3⟩ := hb hd
          obtain ⟨r1, r2⟩ := veq_r (neg := nbM T n U sg) b3 hlo hup
          rw [← ew] at r1 r2
          have e := nb_c (lo := lo) (up := up) hz hd (fun z => absurd hin (r2.mpr z))
          rw [e]
          refine ⟨b1, Or.inl rfl, fun z => absurd rfl z, ⟨_, b2, by omega, fun _ => rfl⟩, fun _ => ⟨r1 hin, f26⟩⟩
      · have hin := gno (p := lo ≤ w ∧ w ≤ up) c
        have e21 : (zsW h y F).1 y 21 = F 21 := by rw [zsW_s]
        have e26 : (zsW h y F).1 y 26 = nI (skp T n U.1) := by rw [zsW_s]; exact f26
        rw [e26]
        by_cases hd : dgc T n (nbP T n U sg) = 0
        · obtain ⟨a1, a2⟩ := nb_a (lo := lo) (up := up) hz hd
          obtain ⟨b1, b2, b3⟩ := ha hd
          refine ⟨y4, _, _, w, F, hz, rfl, rfl, ?_, hF, ?_⟩
          · show (if (zsW h y F).1 y 21 ≤ 0 then _ else _) = _
            rw [if_neg (by rw [e21, b1]; decide)]
          · rw [a1, a2]
            exact ⟨b1, Or.inr (by decide), fun _ => b2, ⟨_, b3, hpn2, fun z => absurd z (by decide)⟩, fun z => absurd z (by decide)⟩
        · obtain ⟨b1, b2, b3⟩ := hb hd
          obtain ⟨r1, r2⟩ := veq_r (neg := nbM T n U sg) b3 hlo hup
          rw [← ew] at r1 r2
          obtain ⟨a1, a2⟩ := nb_b (lo := lo) (up := up) hz hd (r2.mp hin)
          refine ⟨y4, _, _, w, va_up (va_up F 21 2) 22 (nI (skp T n U.1)), hz, rfl, rfl, ?_, fun k k1 k2 k3 k4 => ?_, ?_⟩
          · show (if (zsW h y F).1 y 21 ≤ 0 then zsI (zsI (zsW h y F) y 21 2) y 22 (nI (skp T n U.1)) else zsW h y F) = _
            rw [if_pos (by rw [e21, b1]; decide), zsI_W (zsW h y F), zsW_W, zsW_s, zsI_W, zsW_W, zsW_s]
          · rw [zup_n _ _ k3, zup_n _ _ k2]; exact hF k k1 k2 k3 k4
          · rw [a1, a2]
            refine ⟨by rw [zup_n _ _ (by decide), zup_s], Or.inr (by decide), fun _ => zup_s _ _ _, ⟨nbP T n U sg + dgc T n (nbP T n U sg), by rw [zup_n _ _ (by decide), zup_n _ _ (by decide)]; exact b2, by omega, fun z => absurd z (by decide)⟩, fun z => absurd z (by decide)⟩
    refine ⟨fun c => ?_, fun c => ?_⟩
    · exact key v (by rw [(bI_0 _).mp c]; rfl)
    · refine key (-v) ?_
      have : nbM T n U sg = true := by
        cases hy : nbM T n U sg with
        | true => rfl
        | false => exact absurd ((bI_0 _).mpr hy) c
      rw [this]; rfl
  have L_88 : ∀ nn : Nat, zSd X Y 0 0 88 ((fun d ls st h1 => ∃ (i : Nat) (y4 v : Int32) (F : Nat → Int32), d = (n - nbP T n U sg) - i ∧ i ≤ n - nbP T n U sg ∧ U.2.1 = 0 ∧ ls = [some (vR 20 0 y), some (vI lo), some (vI up), some (vI (bI sg)), some (vI y4), some (vI (bI (nbM T n U sg))), some (vI v), none] ∧ st = [] ∧ h1 = zsW h y F ∧ (∀ k, k ≠ 19 → k ≠ 21 → k ≠ 22 → k ≠ 26 → F k = h.1 y k) ∧ F 26 = nI (skp T n U.1) ∧ F 19 = nI (nbP T n U sg + i) ∧ (dgc T n (nbP T n U sg) = 0 → i = 0 ∧ F 21 = 1 ∧ F 22 = nI (nbP T n U sg)) ∧ (¬ dgc T n (nbP T n U sg) = 0 → F 21 = 0 ∧ veq v (dgv T (nbP T n U sg) i) ∧ ∀ j, j < i → (!dgt T (nbP T n U sg + j)) = false) : Nat → zT) nn) := by
    refine zSd_loop (fun nn ih => ?_)
    have B_88 := zr_aload_n (X := X) (Y := Y) (u := 0) (v := 0) O dX11_number_88 rfl (zr_gI (ci := 10) (j := 21) O zc_10 (by decide) rfl tw_1208 dX11_number_89 (zr_ifne (tgt := 172) O dX11_number_92 rfl C_172 (zr_aload_n O dX11_number_95 rfl (zr_gI (ci := 10) (j := 19) O zc_10 (by decide) rfl tw_1206 dX11_number_96 (zr_aload_n O dX11_number_99 rfl (zr_gI (ci := 10) (j := 18) O zc_10 (by decide) rfl tw_1205 dX11_number_100 (zr_icge (tgt := 172) O dX11_number_103 rfl C_172 (zr_aload_n O dX11_number_106 rfl (zr_gS (ci := 10) (j := 16) (off := 13) (t := 2) (n := 400) O zc_10 (by decide) rfl tw_1203 dX11_number_107 (zr_aload_n O dX11_number_110 rfl (zr_gI (ci := 10) (j := 19) O zc_10 (by decide) rfl tw_1206 dX11_number_111 (zr_bald O dX11_number_114 (zr_bipush (x := (48)) O dX11_number_115 (by decide) (zr_iclt (tgt := 172) O dX11_number_117 rfl C_172 (zr_aload_n O dX11_number_120 rfl (zr_gS (ci := 10) (j := 16) (off := 13) (t := 2) (n := 400) O zc_10 (by decide) rfl tw_1203 dX11_number_121 (zr_aload_n O dX11_number_124 rfl (zr_gI (ci := 10) (j := 19) O zc_10 (by decide) rfl tw_1206 dX11_number_125 (zr_bald O dX11_number_128 (zr_bipush (x := (57)) O dX11_number_129 (by decide) (zr_icgt (tgt := 172) O dX11_number_131 rfl C_172 (zr_bipush (x := (10)) O dX11_number_134 (by decide) (zr_iload O dX11_number_136 (zr_imul O dX11_number_138 (zr_aload_n O dX11_number_139 rfl (zr_gS (ci := 10) (j := 16) (off := 13) (t := 2) (n := 400) O zc_10 (by decide) rfl tw_1203 dX11_number_140 (zr_aload_n O dX11_number_143 rfl (zr_gI (ci := 10) (j := 19) O zc_10 (by decide) rfl tw_1206 dX11_number_144 (zr_bald O dX11_number_147 (zr_iadd O dX11_number_148 (zr_bipush (x := (48)) O dX11_number_149 (by decide) (zr_isub O dX11_number_151 (zr_ldc (x := (1000000)) O dX11_number_152 tw_1344 (zr_min O zwm tw_1339 (zrm hR rfl rfl) dX11_number_154 (zr_istore O dX11_number_157 (zr_aload_n O dX11_number_159 rfl (zr_dup O dX11_number_160 (zr_gI (ci := 10) (j := 19) O zc_10 (by decide) rfl tw_1206 dX11_number_161 (zr_iconst (x := 1) O dX11_number_164 rfl (zr_iadd O dX11_number_165 (zr_pI (ci := 10) (j := 19) O zc_10 (by decide) rfl rfl rfl tw_1206 dX11_number_166 (zr_goto (tgt := 88) O dX11_number_169 rfl ih))))))))))))))))))))))))))))))))))))))))))
    refine zSd_weak B_88 (fun ls st h1 t => ?_)
    obtain ⟨i, y4, v, F, rfl, hi, hz, rfl, rfl, rfl, hF, f26, f19, ha, hb⟩ := t
    have hpn2 := hps hz
    have e21 : (zsW h y F).1 y 21 = F 21 := by rw [zsW_s]
    have e19 : (zsW h y F).1 y 19 = nI (nbP T n U sg + i) := by rw [zsW_s]; exact f19
    have e18 : (zsW h y F).1 y 18 = nI n := by rw [zsW_s, hF 18 (by decide) (by decide) (by decide) (by decide)]; exact hT.1.1
    have out : (¬ dgc T n (nbP T n U sg) = 0 → dgc T n (nbP T n U sg) = i) → ∃ (y4_1 v_1 : Int32) (F_1 : Nat → Int32), U.2.1 = 0 ∧ ([some (vR 20 0 y), some (vI lo), some (vI up), some (vI (bI sg)), some (vI y4), some (vI (bI (nbM T n U sg))), some (vI v), none] : zL) = [some (vR 20 0 y), some (vI lo), some (vI up), some (vI (bI sg)), some (vI y4_1), some (vI (bI (nbM T n U sg))), some (vI v_1), none] ∧ ([] : List zV) = [] ∧ zsW h y F = zsW h y F_1 ∧ (∀ k, k ≠ 19 → k ≠ 21 → k ≠ 22 → k ≠ 26 → F_1 k = h.1 y k) ∧ F_1 26 = nI (skp T n U.1) ∧ (dgc T n (nbP T n U sg) = 0 → F_1 21 = 1 ∧ F_1 22 = nI (nbP T n U sg) ∧ F_1 19 = nI (nbP T n U sg)) ∧ (¬ dgc T n (nbP T n U sg) = 0 → F_1 21 = 0 ∧ F_1 19 = nI (nbP T n U sg + dgc T n (nbP T n U sg)) ∧ veq v_1 (dgv T (nbP T n U sg) (dgc T n (nbP T n U sg)))) := by
      intro ei
      refine ⟨y4, v, F, hz, rfl, rfl, rfl, hF, f26, fun z => ?_, fun z => ?_⟩
      · obtain ⟨b0, b1, b2⟩ := ha z
        exact ⟨b1, b2, by rw [f19, b0]; rfl⟩
      · obtain ⟨b1, b2, b3⟩ := hb z
        rw [ei z]
        exact ⟨b1, f19, b2⟩
    have live : F 21 = 0 → ¬ dgc T n (nbP T n U sg) = 0 := fun z w => by
      have := (ha w).2.1
      rw [z] at this
      exact absurd this (by decide)
    refine ⟨fun c => out (fun z => ?_), fun c => ?_⟩
    · rw [e21] at c
      exact absurd (hb z).1 c
    · rw [e21] at c
      have c : F 21 = 0 := c
      have hd := live c
      obtain ⟨-, hv, hdg⟩ := hb hd
      refine ⟨fun c2 => out (fun _ => ?_), fun c2 => ⟨nbP T n U sg + i, e19, ?_, fun c3 => out (fun _ => ?_), fun c3 => ⟨nbP T n U sg + i, e19, ?_, fun c4 => out (fun _ => ?_), fun c4 => ⟨nbP T n U sg + i, e19, ?_, ?_⟩⟩⟩⟩
      · rw [e18, e19] at c2
        have := (nI_leI (by omega) (by omega)).mp c2
        unfold dgc
        rw [show n - nbP T n U sg = i by omega, first_end (f := fun i => !dgt T (nbP T n U sg + i)) hdg]
      · rw [e18, e19] at c2
        have : ¬ n ≤ nbP T n U sg + i := fun z => c2 ((nI_leI (by omega) (by omega)).mpr z)
        omega
      · rw [e18, e19] at c2
        have hlt : ¬ n ≤ nbP T n U sg + i := fun z => c2 ((nI_leI (by omega) (by omega)).mpr z)
        rw [e13] at c3
        have hnd : ¬ ((48 : Int32) ≤ T (nbP T n U sg + i) ∧ T (nbP T n U sg + i) ≤ 57) := fun z => Int32.not_le.mpr c3 ((ev_rg hev (by omega) (by decide) (by decide)).mpr z).1
        exact first_at (f := fun i => !dgt T (nbP T n U sg + i)) (by omega) (by rw [dgt, decide_eq_false hnd]; rfl) hdg
      · rw [e18, e19] at c2
        have : ¬ n ≤ nbP T n U sg + i := fun z => c2 ((nI_leI (by omega) (by omega)).mpr z)
        omega
      · rw [e18, e19] at c2
        have hlt : ¬ n ≤ nbP T n U sg + i := fun z => c2 ((nI_leI (by omega) (by omega)).mpr z)
        rw [e13] at c4
        have hnd : ¬ ((48 : Int32) ≤ T (nbP T n U sg + i) ∧ T (nbP T n U sg + i) ≤ 57) := fun z => Int32.not_le.mpr c4 ((ev_rg hev (by omega) (by decide) (by decide)).mpr z).2
        exact first_at (f := fun i => !dgt T (nbP T n U sg + i)) (by omega) (by rw [dgt, decide_eq_false hnd]; rfl) hdg
      · rw [e18, e19] at c2
        have : ¬ n ≤ nbP T n U sg + i := fun z => c2 ((nI_leI (by omega) (by omega)).mpr z)
        omega
      · rw [e18, e19] at c2
        have hlt : ¬ n ≤ nbP T n U sg + i := fun z => c2 ((nI_leI (by omega) (by omega)).mpr z)
        rw [e13] at c3 c4
        have hdt : (48 : Int32) ≤ T (nbP T n U sg + i) ∧ T (nbP T n U sg + i) ≤ 57 := (ev_rg hev (by omega) (by decide) (by decide)).mp ⟨Int32.not_lt.mp c3, Int32.not_lt.mp c4⟩
        have eu2 : u (nbP T n U sg + i) = T (nbP T n U sg + i) := ev_dg hev (by omega) hdt
        refine ⟨n - nbP T n U sg - (i + 1), by omega, i + 1, y4, _, va_up F 19 (nI (nbP T n U sg + (i + 1))), rfl, by omega, hz, rfl, rfl, ?_, fun k k1 k2 k3 k4 => ?_, ?_, zup_s _ _ _, fun z => absurd z hd, fun _ => ⟨?_, ?_, fun j hj => ?_⟩⟩
        · rw [e19, nI_1, zsI_W, zsW_W, zsW_s]; rfl
        · rw [zup_n _ _ k1]; exact hF k k1 k2 k3 k4
        · rw [zup_n _ _ (by decide)]; exact f26
        · rw [zup_n _ _ (by decide)]; exact c
        · rw [e13, eu2, dgv_s]
          exact veq_st hv hdt
        · by_cases e : j = i
          · rw [e, dgt, decide_eq_true hdt]; rfl
          · exact hdg j (by omega)
  have B_88 := zSd_any L_88
  have B_85 := zr_iconst (X := X) (Y := Y) (u := 0) (v := 0) (x := 0) O dX11_number_85 rfl (zr_istore O dX11_number_86 (B_88))
  have C_85 : zSd X Y 0 0 85 (fun ls st h1 => ∃ (y4 : Int32) (F : Nat → Int32), U.2.1 = 0 ∧ ls = [some (vR 20 0 y), some (vI lo), some (vI up), some (vI (bI sg)), some (vI y4), some (vI (bI (nbM T n U sg))), none, none] ∧ st = [] ∧ h1 = zsW h y F ∧ (∀ k, k ≠ 19 → k ≠ 21 → k ≠ 22 → k ≠ 26 → F k = h.1 y k) ∧ F 26 = nI (skp T n U.1) ∧ F 19 = nI (nbP T n U sg) ∧ (dgc T n (nbP T n U sg) = 0 → F 21 = 1 ∧ F 22 = nI (nbP T n U sg)) ∧ (¬ dgc T n (nbP T n U sg) = 0 → F 21 = 0)) := by
    refine zSd_weak B_85 (fun ls st h1 t => ?_)
    obtain ⟨y4, F, hz, rfl, rfl, rfl, hF, f26, f19, ha, hb⟩ := t
    exact ⟨n - nbP T n U sg - 0, 0, y4, 0, F, rfl, Nat.zero_le _, hz, rfl, rfl, rfl, hF, f26, f19, fun z => ⟨rfl, ha z⟩, fun z => ⟨hb z, veq_0, fun j hj => absurd hj (Nat.not_lt_zero _)⟩⟩
  have B_76 := zr_aload_n (X := X) (Y := Y) (u := 0) (v := 0) O dX11_number_76 rfl (zr_iconst (x := 1) O dX11_number_77 rfl (zr_aload_n O dX11_number_78 rfl (zr_gI (ci := 10) (j := 19) O zc_10 (by decide) rfl tw_1206 dX11_number_79 (zr_cVv (zr_cV (ci := 10) (n := 2) O m_X11_wrong (bn_X11_wrong _ ⟨rfl, rfl⟩) vw_X11_wrong tw_1335 rc_X11_wrong (zrm hR rfl rfl) dX11_number_82 (C_85))))))
  have B_62 := zr_iload (X := X) (Y := Y) (u := 0) (v := 0) O dX11_number_62 (zr_bipush (x := (48)) O dX11_number_64 (by decide) (zr_iclt (tgt := 76) O dX11_number_66 rfl B_76 (zr_iload O dX11_number_69 (zr_bipush (x := (57)) O dX11_number_71 (by decide) (zr_icle (tgt := 85) O dX11_number_73 rfl C_85 (B_76))))))
  have C_62 : zSd X Y 0 0 62 (fun ls st h1 => ∃ (y4 : Int32) (F : Nat → Int32), U.2.1 = 0 ∧ y4 = sgc u n (nbP T n U sg) ∧ ls = [some (vR 20 0 y), some (vI lo), some (vI up), some (vI (bI sg)), some (vI y4), some (vI (bI (nbM T n U sg))), none, none] ∧ st = [] ∧ h1 = zsW h y F ∧ (∀ k, k ≠ 19 → k ≠ 26 → F k = h.1 y k) ∧ F 26 = nI (skp T n U.1) ∧ F 19 = nI (nbP T n U sg)) := by
    refine zSd_weak B_62 (fun ls st h1 t => ?_)
    obtain ⟨y4, F, hz, ey4, rfl, rfl, rfl, hF, f26, f19⟩ := t
    have hpn2 := hps hz
    have f21 : F 21 = 0 := by rw [hF 21 (by decide) (by decide), hf]; exact hz
    have e21 : (zsW h y F).1 y 21 = 0 := by rw [zsW_s]; exact f21
    have e19 : (zsW h y F).1 y 19 = nI (nbP T n U sg) := by rw [zsW_s]; exact f19
    have bad : dgc T n (nbP T n U sg) = 0 → ∃ x2 : Nat × Int32 × Int32, ([vR 20 0 y, vI 1, vI ((zsW h y F).1 y 19)] : List zV) = ca_X11_wrong x2 ∧ True ∧ ∃ (y4_1 : Int32) (F_1 : Nat → Int32), U.2.1 = 0 ∧ ([some (vR 20 0 y), some (vI lo), some (vI up), some (vI (bI sg)), some (vI y4), some (vI (bI (nbM T n U sg))), none, none] : zL) = [some (vR 20 0 y), some (vI lo), some (vI up), some (vI (bI sg)), some (vI y4_1), some (vI (bI (nbM T n U sg))), none, none] ∧ ([] : List zV) = [] ∧ cg_X11_wrong x2 (zsW h y F) = zsW h y F_1 ∧ (∀ k, k ≠ 19 → k ≠ 21 → k ≠ 22 → k ≠ 26 → F_1 k = h.1 y k) ∧ F_1 26 = nI (skp T n U.1) ∧ F_1 19 = nI (nbP T n U sg) ∧ (dgc T n (nbP T n U sg) = 0 → F_1 21 = 1 ∧ F_1 22 = nI (nbP T n U sg)) ∧ (¬ dgc T n (nbP T n U sg) = 0 → F_1 21 = 0) := by
      intro hd
      refine ⟨(y, 1, nI (nbP T n U sg)), by rw [e19]; rfl, trivial, y4, va_up (va_up F 21 1) 22 (nI (nbP T n U sg)), hz, rfl, rfl, ?_, fun k k1 k2 k3 k4 => ?_, ?_, ?_, fun _ => ⟨?_, zup_s _ _ _⟩, fun z => absurd hd z⟩
      · show (if (zsW h y F).1 y 21 ≤ 0 then zsI (zsI (zsW h y F) y 21 1) y 22 (nI (nbP T n U sg)) else zsW h y F) = _
        rw [if_pos (by rw [e21]; decide), zsI_W (zsW h y F), zsW_W, zsW_s, zsI_W, zsW_W, zsW_s]
      · rw [zup_n _ _ k3, zup_n _ _ k2]; exact hF k k1 k4
      · rw [zup_n _ _ (by decide), zup_n _ _ (by decide)]; exact f26
      · rw [zup_n _ _ (by decide), zup_n _ _ (by decide)]; exact f19
      · rw [zup_n _ _ (by decide), zup_s]
    have hdig : ((48 : Int32) ≤ y4 ∧ y4 ≤ 57) ↔ nbP T n U sg < n ∧ dgt T (nbP T n U sg) = true := by
      rw [ey4, sgc]
      by_cases hlt : nbP T n U sg < n
      · rw [if_pos hlt, ev_rg hev hlt (by decide) (by decide)]
        exact ⟨fun z => ⟨hlt, decide_eq_true z⟩, fun z => of_decide_eq_true z.2⟩
      · rw [if_neg hlt]
        exact ⟨fun z => absurd z.1 (by decide), fun z => absurd z.1 hlt⟩
    refine ⟨fun c => bad ?_, fun c => ⟨fun c2 => ?_, fun c2 => bad ?_⟩⟩
    · rw [dgc_0 hpn2, ← hdig]
      exact fun z => Int32.not_le.mpr c z.1
    · have hd : ¬ dgc T n (nbP T n U sg) = 0 := by
        rw [dgc_0 hpn2, ← hdig]
        exact fun z => z ⟨Int32.not_lt.mp c, c2⟩
      exact ⟨y4, F, hz, rfl, rfl, rfl, fun k k1 _ _ k4 => hF k k1 k4, f26, f19, fun z => absurd z hd, fun _ => f21⟩
    · rw [dgc_0 hpn2, ← hdig]
      exact fun z => c2 z.2
  have B_39 := zr_istore (X := X) (Y := Y) (u := 0) (v := 0) O dX11_number_39 (zr_iload O dX11_number_41 (zr_ifeq (tgt := 62) O dX11_number_43 rfl C_62 (zr_aload_n O dX11_number_46 rfl (zr_dup O dX11_number_47 (zr_gI (ci := 10) (j := 19) O zc_10 (by decide) rfl tw_1206 dX11_number_48 (zr_iconst (x := 1) O dX11_number_51 rfl (zr_iadd O dX11_number_52 (zr_pI (ci := 10) (j := 19) O zc_10 (by decide) rfl rfl rfl tw_1206 dX11_number_53 (zr_aload_n O dX11_number_56 rfl (zr_cH (zr_cV (ci := 10) (n := 0) O m_X11_sign (bn_X11_sign _ ⟨rfl, rfl⟩) vw_X11_sign tw_1312 rc_X11_sign (zrm hR rfl rfl) dX11_number_57 (zr_istore O dX11_number_60 (C_62)))))))))))))
  have C_39 : zSd X Y 0 0 39 (fun ls st h1 => ∃ (y4 : Int32) (F : Nat → Int32), U.2.1 = 0 ∧ y4 = sgc u n (skp T n U.1) ∧ ls = [some (vR 20 0 y), some (vI lo), some (vI up), some (vI (bI sg)), some (vI y4), none, none, none] ∧ st = [vI (bI (nbM T n U sg))] ∧ h1 = zsW h y F ∧ (∀ k, k ≠ 19 → k ≠ 26 → F k = h.1 y k) ∧ F 26 = nI (skp T n U.1) ∧ F 19 = nI (skp T n U.1)) := by
    refine zSd_weak B_39 (fun ls st h1 t => ?_)
    obtain ⟨y4, F, hz, ey4, rfl, rfl, rfl, hF, f26, f19⟩ := t
    have hqn := hq hz
    refine ⟨fun c => ?_, fun c => ?_⟩
    · have hm := (bI_0 _).mp c
      have ep : nbP T n U sg = skp T n U.1 := by rw [nbP, hm]; rfl
      exact ⟨y4, F, hz, by rw [ep]; exact ey4, rfl, rfl, rfl, hF, f26, by rw [ep]; exact f19⟩
    · have hm : nbM T n U sg = true := by
        cases hy : nbM T n U sg with
        | true => rfl
        | false => exact absurd ((bI_0 _).mpr hy) c
      have ep : nbP T n U sg = skp T n (skp T n U.1 + 1) := by rw [nbP, hm]; rfl
      have e1 : zsI (zsW h y F) y 19 ((zsW h y F).1 y 19 + 1) = zsW h y (va_up F 19 (nI (skp T n U.1 + 1))) := by
        rw [zsI_W, zsW_W, zsW_s, f19, nI_1]
      have hT1 : rmT T n (zsW h y (va_up F 19 (nI (skp T n U.1 + 1)))) y := rmT_F (by rw [zup_n _ _ (by decide)]; exact hF 18 (by decide) (by decide)) hT
      refine ⟨(T, n, y, skp T n U.1 + 1), rfl, ⟨by rw [e1]; exact hT1, by rw [e1, zsW_s, zup_s], by omega⟩, _, va_up F 19 (nI (nbP T n U sg)), hz, rfl, ?_, rfl, ?_, fun k k1 k2 => ?_, ?_, zup_s _ _ _⟩
      · rw [e1]
        show [_, _, _, _, some (vI (sgc ((zsW h y (va_up F 19 (nI (skp T n U.1 + 1)))).1 (y + 13)) n (skp T n (skp T n U.1 + 1)))), _, _, _] = _
        rw [e13, ← ep]
      · rw [e1]
        show zsI (zsW h y (va_up F 19 (nI (skp T n U.1 + 1)))) y 19 (nI (skp T n (skp T n U.1 + 1))) = _
        rw [← ep, zsI_W, zsW_W, zsW_s, zup_up]
      · rw [zup_n _ _ k1]; exact hF k k1 k2
      · rw [zup_n _ _ (by decide)]; exact f26
  have B_38 := zr_iconst (X := X) (Y := Y) (u := 0) (v := 0) (x := 0) O dX11_number_38 rfl (C_39)
  have B_15 := zr_aload_n (X := X) (Y := Y) (u := 0) (v := 0) O dX11_number_15 rfl (zr_aload_n O dX11_number_16 rfl (zr_gI (ci := 10) (j := 19) O zc_10 (by decide) rfl tw_1206 dX11_number_17 (zr_pI (ci := 10) (j := 26) O zc_10 (by decide) rfl rfl rfl tw_1213 dX11_number_20 (zr_iload_n O dX11_number_23 rfl (zr_ifeq (tgt := 38) O dX11_number_24 rfl B_38 (zr_iload O dX11_number_27 (zr_bipush (x := (45)) O dX11_number_29 (by decide) (zr_icne (tgt := 38) O dX11_number_31 rfl B_38 (zr_iconst (x := 1) O dX11_number_34 rfl (zr_goto (tgt := 39) O dX11_number_35 rfl C_39))))))))))
  have B_0 := zr_aload_n (X := X) (Y := Y) (u := 0) (v := 0) O dX11_number_0 rfl (zr_cH (zr_cV (ci := 10) (n := 0) O m_X11_sign (bn_X11_sign _ ⟨rfl, rfl⟩) vw_X11_sign tw_1312 rc_X11_sign (zrm hR rfl rfl) dX11_number_1 (zr_istore O dX11_number_4 (zr_aload_n O dX11_number_6 rfl (zr_gI (ci := 10) (j := 21) O zc_10 (by decide) rfl tw_1208 dX11_number_7 (zr_ifle (tgt := 15) O dX11_number_10 rfl B_15 (zr_iconst (x := 0) O dX11_number_13 rfl (zr_ireturn O E (Nat.le_refl _) (Nat.le_refl _) dX11_number_14))))))))
  refine ⟨rfl, Nat.le_of_ble_eq_true rfl, _, B_0, ?_⟩
  have hk0 : ¬ U.2.1 = 0 → ∃ v : Int32, (some (vI 0) : Option zV) = some (vI v) ∧ rfr y h (zsI h y 19 (nI (skp T n p))) ∧ rmR T n (nbU T n U lo up sg) (zsI h y 19 (nI (skp T n p))) y ∧ ((nbU T n U lo up sg).2.1 = 0 → v = nbV T n U sg ∧ (zsI h y 19 (nI (skp T n p))).1 y 26 = (nbU T n U lo up sg).2.2.2) := by
    intro hz
    obtain ⟨k1, k2⟩ := nbU_k (T := T) (n := n) hz lo up sg
    have hsk : skp T n p ≤ n + 1 := by
      have := fa_first_le (fun i => !decide (T (p + i) = 32)) (n - p)
      unfold skp
      omega
    refine ⟨0, rfl, ⟨_, zsI_W _ _ _ _, fun k q1 _ _ _ => zup_n _ _ q1⟩, ⟨rmT_I (by decide) hT, ?_, ?_, fun _ => ?_, skp T n p, zsI_me _ _ _ _, hsk, fun z => ?_⟩, fun z => ?_⟩
    · rw [zsI_at _ _ _ _ _ (by decide), k1]; exact hf
    · rw [k1]; exact hpos
    · rw [zsI_at _ _ _ _ _ (by decide), k2]; exact hw hz
    · rw [k1] at z; exact absurd z hz
    · rw [k1] at z; exact absurd z hz
  refine ⟨(T, n, y, p), rfl, ⟨hT, hp, hpn⟩, ?_⟩
  have e21 : (zsI h y 19 (nI (skp T n p))).1 y 21 = U.2.1 := by rw [zsI_at _ _ _ _ _ (by decide)]; exact hf
  refine ⟨fun c => ?_, fun c => ?_⟩
  · replace c : (zsI h y 19 (nI (skp T n p))).1 y 21 ≤ 0 := c
    rw [e21] at c
    have hz : U.2.1 = 0 := hpos.elim id (fun z => absurd z (Int32.not_lt.mpr c))
    obtain ⟨ep, -⟩ := hp0 hz
    subst ep
    have e0 : zsI (zsI h y 19 (nI (skp T n U.1))) y 26 ((zsI h y 19 (nI (skp T n U.1))).1 y 19) = zsW h y (va_up (va_up (h.1 y) 19 (nI (skp T n U.1))) 26 (nI (skp T n U.1))) := by
      rw [zsI_me, zsI_W h, zsI_W, zsW_W, zsW_s]
    have hF : ∀ k, k ≠ 19 → k ≠ 26 → va_up (va_up (h.1 y) 19 (nI (skp T n U.1))) 26 (nI (skp T n U.1)) k = h.1 y k := fun k k1 k2 => by rw [zup_n _ _ k2, zup_n _ _ k1]
    have f19 : va_up (va_up (h.1 y) 19 (nI (skp T n U.1))) 26 (nI (skp T n U.1)) 19 = nI (skp T n U.1) := by rw [zup_n _ _ (by decide), zup_s]
    have fin : ∀ b : Bool, b = nbM T n U sg → ∃ (y4 : Int32) (F : Nat → Int32), U.2.1 = 0 ∧ y4 = sgc u n (skp T n U.1) ∧ ([some (vR 20 0 y), some (vI lo), some (vI up), some (vI (bI sg)), some (vI (sgc (h.1 (y + 13)) n (skp T n U.1))), none, none, none] : zL) = [some (vR 20 0 y), some (vI lo), some (vI up), some (vI (bI sg)), some (vI y4), none, none, none] ∧ ([vI (bI b)] : List zV) = [vI (bI (nbM T n U sg))] ∧ zsI (zsI h y 19 (nI (skp T n U.1))) y 26 ((zsI h y 19 (nI (skp T n U.1))).1 y 19) = zsW h y F ∧ (∀ k, k ≠ 19 → k ≠ 26 → F k = h.1 y k) ∧ F 26 = nI (skp T n U.1) ∧ F 19 = nI (skp T n U.1) := fun b eb => ⟨_, _, hz, by rw [eu], rfl, by rw [eb], e0, hF, zup_s _ _ _, f19⟩
    have hmi : sgc (h.1 (y + 13)) n (skp T n U.1) = 45 ↔ uSm T n U = true := by
      rw [← eu, sgc, uSm, decide_eq_true_iff]
      by_cases hlt : skp T n U.1 < n
      · rw [if_pos hlt, ev_eq hev hlt (by decide) (by decide)]
        exact ⟨fun z => ⟨hlt, z⟩, fun z => z.2⟩
      · rw [if_neg hlt]
        exact ⟨fun z => absurd z (by decide), fun z => absurd z.1 hlt⟩
    refine ⟨fun c2 => fin false ?_, fun c2 => ⟨fun c3 => fin false ?_, fun c3 => fin true ?_⟩⟩
    · rw [nbM, (bI_0 _).mp c2]; rfl
    · replace c3 : ¬ sgc (h.1 (y + 13)) n (skp T n U.1) = 45 := c3
      have : uSm T n U = false := by
        cases hy : uSm T n U with
        | false => rfl
        | true => exact absurd (hmi.mpr hy) c3
      rw [nbM, this, Bool.and_false]
    · replace c3 : sgc (h.1 (y + 13)) n (skp T n U.1) = 45 := c3
      have hs : sg = true := by
        cases hy : sg with
        | true => rfl
        | false => exact absurd ((bI_0 _).mpr hy) c2
      rw [nbM, hs, hmi.mp c3]; rfl
  · replace c : ¬ (zsI h y 19 (nI (skp T n p))).1 y 21 ≤ 0 := c
    rw [e21] at c
    exact hk0 (fun z => c (by rw [z]; exact Int32.le_refl _))

