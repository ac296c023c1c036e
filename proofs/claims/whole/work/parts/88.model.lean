theorem dX11_text_218 : decode cX11_text 218 = .ok (.aload_n 0, 1) := by decide +kernel
theorem dX11_text_219 : decode cX11_text 219 = .ok (.aload_n 0, 1) := by decide +kernel
theorem dX11_text_220 : decode cX11_text 220 = .ok (.getfield 177, 3) := by decide +kernel
theorem dX11_text_223 : decode cX11_text 223 = .ok (.putfield 224, 3) := by decide +kernel
theorem dX11_text_226 : decode cX11_text 226 = .ok (.aload_n 0, 1) := by decide +kernel
theorem dX11_text_227 : decode cX11_text 227 = .ok (.aload_n 0, 1) := by decide +kernel
theorem dX11_text_228 : decode cX11_text 228 = .ok (.getfield 184, 3) := by decide +kernel
theorem dX11_text_231 : decode cX11_text 231 = .ok (.putfield 103, 3) := by decide +kernel
theorem dX11_text_234 : decode cX11_text 234 = .ok (.aload_n 0, 1) := by decide +kernel
theorem dX11_text_235 : decode cX11_text 235 = .ok (.iconst 0, 1) := by decide +kernel
theorem dX11_text_236 : decode cX11_text 236 = .ok (.putfield 227, 3) := by decide +kernel
theorem dX11_text_239 : decode cX11_text 239 = .ok (.aload_n 0, 1) := by decide +kernel
theorem dX11_text_240 : decode cX11_text 240 = .ok (.getfield 103, 3) := by decide +kernel
theorem dX11_text_243 : decode cX11_text 243 = .ok (.ireturn, 1) := by decide +kernel
theorem dX11_text_182 : decode cX11_text 182 = .ok (.iload_n 2, 1) := by decide +kernel
theorem dX11_text_183 : decode cX11_text 183 = .ok (.bipush 28, 2) := by decide +kernel
theorem dX11_text_185 : decode cX11_text 185 = .ok (.if_icmp .ge 33, 3) := by decide +kernel
theorem dX11_text_188 : decode cX11_text 188 = .ok (.aload_n 0, 1) := by decide +kernel
theorem dX11_text_189 : decode cX11_text 189 = .ok (.getfield 26, 3) := by decide +kernel
theorem dX11_text_192 : decode cX11_text 192 = .ok (.iload_n 2, 1) := by decide +kernel
theorem dX11_text_193 : decode cX11_text 193 = .ok (.aload_n 0, 1) := by decide +kernel
theorem dX11_text_194 : decode cX11_text 194 = .ok (.getfield 32, 3) := by decide +kernel
theorem dX11_text_197 : decode cX11_text 197 = .ok (.iload_n 2, 1) := by decide +kernel
theorem dX11_text_198 : decode cX11_text 198 = .ok (.iaload, 1) := by decide +kernel
theorem dX11_text_199 : decode cX11_text 199 = .ok (.iastore, 1) := by decide +kernel
theorem dX11_text_200 : decode cX11_text 200 = .ok (.aload_n 0, 1) := by decide +kernel
theorem dX11_text_201 : decode cX11_text 201 = .ok (.getfield 29, 3) := by decide +kernel
theorem dX11_text_204 : decode cX11_text 204 = .ok (.iload_n 2, 1) := by decide +kernel
theorem dX11_text_205 : decode cX11_text 205 = .ok (.aload_n 0, 1) := by decide +kernel
theorem dX11_text_206 : decode cX11_text 206 = .ok (.getfield 35, 3) := by decide +kernel
theorem dX11_text_209 : decode cX11_text 209 = .ok (.iload_n 2, 1) := by decide +kernel
theorem dX11_text_210 : decode cX11_text 210 = .ok (.iaload, 1) := by decide +kernel
theorem dX11_text_211 : decode cX11_text 211 = .ok (.iastore, 1) := by decide +kernel
theorem dX11_text_212 : decode cX11_text 212 = .ok (.iinc 2 1, 3) := by decide +kernel
theorem dX11_text_215 : decode cX11_text 215 = .ok (.goto (-33), 3) := by decide +kernel
theorem dX11_text_180 : decode cX11_text 180 = .ok (.iconst 0, 1) := by decide +kernel
theorem dX11_text_181 : decode cX11_text 181 = .ok (.istore_n 2, 1) := by decide +kernel
theorem dX11_text_155 : decode cX11_text 155 = .ok (.iload_n 2, 1) := by decide +kernel
theorem dX11_text_156 : decode cX11_text 156 = .ok (.sipush 218, 3) := by decide +kernel
theorem dX11_text_159 : decode cX11_text 159 = .ok (.if_icmp .ge 21, 3) := by decide +kernel
theorem dX11_text_162 : decode cX11_text 162 = .ok (.aload_n 0, 1) := by decide +kernel
theorem dX11_text_163 : decode cX11_text 163 = .ok (.getfield 17, 3) := by decide +kernel
theorem dX11_text_166 : decode cX11_text 166 = .ok (.iload_n 2, 1) := by decide +kernel
theorem dX11_text_167 : decode cX11_text 167 = .ok (.aload_n 0, 1) := by decide +kernel
theorem dX11_text_168 : decode cX11_text 168 = .ok (.getfield 20, 3) := by decide +kernel
theorem dX11_text_171 : decode cX11_text 171 = .ok (.iload_n 2, 1) := by decide +kernel
theorem dX11_text_172 : decode cX11_text 172 = .ok (.iaload, 1) := by decide +kernel
theorem dX11_text_173 : decode cX11_text 173 = .ok (.iastore, 1) := by decide +kernel
theorem dX11_text_174 : decode cX11_text 174 = .ok (.iinc 2 1, 3) := by decide +kernel
theorem dX11_text_177 : decode cX11_text 177 = .ok (.goto (-22), 3) := by decide +kernel
theorem dX11_text_153 : decode cX11_text 153 = .ok (.iconst 0, 1) := by decide +kernel
theorem dX11_text_154 : decode cX11_text 154 = .ok (.istore_n 2, 1) := by decide +kernel
theorem dX11_text_135 : decode cX11_text 135 = .ok (.putfield 54, 3) := by decide +kernel
theorem dX11_text_138 : decode cX11_text 138 = .ok (.aload_n 0, 1) := by decide +kernel
theorem dX11_text_139 : decode cX11_text 139 = .ok (.getfield 134, 3) := by decide +kernel
theorem dX11_text_142 : decode cX11_text 142 = .ok (.ifCond .le 11, 3) := by decide +kernel
theorem dX11_text_145 : decode cX11_text 145 = .ok (.aload_n 0, 1) := by decide +kernel
theorem dX11_text_146 : decode cX11_text 146 = .ok (.getfield 134, 3) := by decide +kernel
theorem dX11_text_149 : decode cX11_text 149 = .ok (.bipush 10, 2) := by decide +kernel
theorem dX11_text_151 : decode cX11_text 151 = .ok (.isub, 1) := by decide +kernel
theorem dX11_text_152 : decode cX11_text 152 = .ok (.ireturn, 1) := by decide +kernel
theorem dX11_text_134 : decode cX11_text 134 = .ok (.iconst (-1), 1) := by decide +kernel
theorem dX11_text_119 : decode cX11_text 119 = .ok (.aload_n 0, 1) := by decide +kernel
theorem dX11_text_120 : decode cX11_text 120 = .ok (.aload_n 0, 1) := by decide +kernel
theorem dX11_text_121 : decode cX11_text 121 = .ok (.getfield 134, 3) := by decide +kernel
theorem dX11_text_124 : decode cX11_text 124 = .ok (.ifCond .le 10, 3) := by decide +kernel
theorem dX11_text_127 : decode cX11_text 127 = .ok (.aload_n 0, 1) := by decide +kernel
theorem dX11_text_128 : decode cX11_text 128 = .ok (.getfield 137, 3) := by decide +kernel
theorem dX11_text_131 : decode cX11_text 131 = .ok (.goto 4, 3) := by decide +kernel
theorem dX11_text_112 : decode cX11_text 112 = .ok (.aload_n 0, 1) := by decide +kernel
theorem dX11_text_113 : decode cX11_text 113 = .ok (.invokevirtual 221, 3) := by decide +kernel
theorem dX11_text_116 : decode cX11_text 116 = .ok (.goto (-29), 3) := by decide +kernel
theorem dX11_text_87 : decode cX11_text 87 = .ok (.aload_n 0, 1) := by decide +kernel
theorem dX11_text_88 : decode cX11_text 88 = .ok (.getfield 134, 3) := by decide +kernel
theorem dX11_text_91 : decode cX11_text 91 = .ok (.ifCond .ne 28, 3) := by decide +kernel
theorem dX11_text_94 : decode cX11_text 94 = .ok (.aload_n 0, 1) := by decide +kernel
theorem dX11_text_95 : decode cX11_text 95 = .ok (.invokevirtual 146, 3) := by decide +kernel
theorem dX11_text_98 : decode cX11_text 98 = .ok (.ifCond .ne 14, 3) := by decide +kernel
theorem dX11_text_101 : decode cX11_text 101 = .ok (.aload_n 0, 1) := by decide +kernel
theorem dX11_text_102 : decode cX11_text 102 = .ok (.getfield 140, 3) := by decide +kernel
theorem dX11_text_105 : decode cX11_text 105 = .ok (.aload_n 0, 1) := by decide +kernel
theorem dX11_text_106 : decode cX11_text 106 = .ok (.getfield 143, 3) := by decide +kernel
theorem dX11_text_109 : decode cX11_text 109 = .ok (.if_icmp .ge 10, 3) := by decide +kernel
theorem dX11_text_50 : decode cX11_text 50 = .ok (.aload_n 0, 1) := by decide +kernel
theorem dX11_text_51 : decode cX11_text 51 = .ok (.iconst 0, 1) := by decide +kernel
theorem dX11_text_52 : decode cX11_text 52 = .ok (.putfield 127, 3) := by decide +kernel
theorem dX11_text_55 : decode cX11_text 55 = .ok (.aload_n 0, 1) := by decide +kernel
theorem dX11_text_56 : decode cX11_text 56 = .ok (.iload_n 1, 1) := by decide +kernel
theorem dX11_text_57 : decode cX11_text 57 = .ok (.putfield 143, 3) := by decide +kernel
theorem dX11_text_60 : decode cX11_text 60 = .ok (.aload_n 0, 1) := by decide +kernel
theorem dX11_text_61 : decode cX11_text 61 = .ok (.iconst 0, 1) := by decide +kernel
theorem dX11_text_62 : decode cX11_text 62 = .ok (.putfield 140, 3) := by decide +kernel
theorem dX11_text_65 : decode cX11_text 65 = .ok (.aload_n 0, 1) := by decide +kernel
theorem dX11_text_66 : decode cX11_text 66 = .ok (.iconst 0, 1) := by decide +kernel
theorem dX11_text_67 : decode cX11_text 67 = .ok (.putfield 134, 3) := by decide +kernel
theorem dX11_text_70 : decode cX11_text 70 = .ok (.aload_n 0, 1) := by decide +kernel
theorem dX11_text_71 : decode cX11_text 71 = .ok (.iconst 0, 1) := by decide +kernel
theorem dX11_text_72 : decode cX11_text 72 = .ok (.putfield 177, 3) := by decide +kernel
theorem dX11_text_75 : decode cX11_text 75 = .ok (.aload_n 0, 1) := by decide +kernel
theorem dX11_text_76 : decode cX11_text 76 = .ok (.iconst 0, 1) := by decide +kernel
theorem dX11_text_77 : decode cX11_text 77 = .ok (.putfield 184, 3) := by decide +kernel
theorem dX11_text_80 : decode cX11_text 80 = .ok (.aload_n 0, 1) := by decide +kernel
theorem dX11_text_81 : decode cX11_text 81 = .ok (.getfield 20, 3) := by decide +kernel
theorem dX11_text_84 : decode cX11_text 84 = .ok (.invokestatic 70, 3) := by decide +kernel
theorem dX11_text_27 : decode cX11_text 27 = .ok (.iload_n 2, 1) := by decide +kernel
theorem dX11_text_28 : decode cX11_text 28 = .ok (.iload_n 1, 1) := by decide +kernel
theorem dX11_text_29 : decode cX11_text 29 = .ok (.if_icmp .ge 21, 3) := by decide +kernel
theorem dX11_text_32 : decode cX11_text 32 = .ok (.aload_n 0, 1) := by decide +kernel
theorem dX11_text_33 : decode cX11_text 33 = .ok (.getfield 51, 3) := by decide +kernel
theorem dX11_text_36 : decode cX11_text 36 = .ok (.iload_n 2, 1) := by decide +kernel
theorem dX11_text_37 : decode cX11_text 37 = .ok (.aload_n 0, 1) := by decide +kernel
theorem dX11_text_38 : decode cX11_text 38 = .ok (.getfield 47, 3) := by decide +kernel
theorem dX11_text_41 : decode cX11_text 41 = .ok (.iload_n 2, 1) := by decide +kernel
theorem dX11_text_42 : decode cX11_text 42 = .ok (.baload, 1) := by decide +kernel
theorem dX11_text_43 : decode cX11_text 43 = .ok (.bastore, 1) := by decide +kernel
theorem dX11_text_44 : decode cX11_text 44 = .ok (.iinc 2 1, 3) := by decide +kernel
theorem dX11_text_47 : decode cX11_text 47 = .ok (.goto (-20), 3) := by decide +kernel
theorem dX11_text_25 : decode cX11_text 25 = .ok (.iconst 0, 1) := by decide +kernel
theorem dX11_text_26 : decode cX11_text 26 = .ok (.istore_n 2, 1) := by decide +kernel
theorem dX11_text_0 : decode cX11_text 0 = .ok (.aload_n 0, 1) := by decide +kernel
theorem dX11_text_1 : decode cX11_text 1 = .ok (.iconst 0, 1) := by decide +kernel
theorem dX11_text_2 : decode cX11_text 2 = .ok (.putfield 1, 3) := by decide +kernel
theorem dX11_text_5 : decode cX11_text 5 = .ok (.aload_n 0, 1) := by decide +kernel
theorem dX11_text_6 : decode cX11_text 6 = .ok (.iload_n 1, 1) := by decide +kernel
theorem dX11_text_7 : decode cX11_text 7 = .ok (.iconst 0, 1) := by decide +kernel
theorem dX11_text_8 : decode cX11_text 8 = .ok (.aload_n 0, 1) := by decide +kernel
theorem dX11_text_9 : decode cX11_text 9 = .ok (.getfield 127, 3) := by decide +kernel
theorem dX11_text_12 : decode cX11_text 12 = .ok (.invokestatic 173, 3) := by decide +kernel
theorem dX11_text_15 : decode cX11_text 15 = .ok (.iconst 1, 1) := by decide +kernel
theorem dX11_text_16 : decode cX11_text 16 = .ok (.iconst 1, 1) := by decide +kernel
theorem dX11_text_17 : decode cX11_text 17 = .ok (.invokevirtual 217, 3) := by decide +kernel
theorem dX11_text_20 : decode cX11_text 20 = .ok (.ifCond .ne 5, 3) := by decide +kernel
theorem dX11_text_23 : decode cX11_text 23 = .ok (.iconst 0, 1) := by decide +kernel
theorem dX11_text_24 : decode cX11_text 24 = .ok (.ireturn, 1) := by decide +kernel
/-! the reference: a whole text -/
def ug (U V : zU) : Prop := U.1 ≤ V.1 ∧ ((U.2.1 = 0 → U.2.2.1 = -1) → (V.2.1 = 0 → V.2.2.1 = -1))
theorem ug_r (U : zU) : ug U U := ⟨Nat.le_refl _, id⟩
theorem ug_t {U V W : zU} (a : ug U V) (b : ug V W) : ug U W := ⟨Nat.le_trans a.1 b.1, fun z => b.2 (a.2 z)⟩
theorem ug_F (U : zU) {k : Int32} (q : Int32) (hk : k ≠ 0) : ug U (uF U k q) := by
  refine ⟨?_, fun z w => ?_⟩
  · unfold uF; split <;> exact Nat.le_refl _
  · exact absurd w (uF_ne hk)
theorem skp_ge (T : Nat → Int32) (n p : Nat) : p ≤ skp T n p := Nat.le_add_right _ _
theorem ug_mv {U V : zU} (h1 : U.1 ≤ V.1) (h2 : V.2.1 = U.2.1) (h3 : V.2.2.1 = U.2.2.1) : ug U V := ⟨h1, fun z w => by rw [h3]; exact z (by rw [← h2]; exact w)⟩
theorem ug_Dg (T : Nat → Int32) (n : Nat) (U : zU) : ug U (uDg T n U) := by
  unfold uDg
  split
  · exact ug_F U _ (by decide)
  · exact ug_mv (Nat.le_add_right _ _) rfl rfl
theorem ug_Ne (U : zU) (v lo up : Int32) : ug U (uNe U v lo up) := by
  unfold uNe
  split
  · exact ug_F U _ (by decide)
  · exact ug_r U
theorem ug_Nm (T : Nat → Int32) (n : Nat) (U : zU) (lo up : Int32) : ug U (uNm T n U lo up) := ug_t (ug_mv (V := uNs T n U) (skp_ge T n U.1) rfl rfl) (ug_t (ug_Dg T n _) (ug_Ne _ _ _ _))
theorem ug_Sg (T : Nat → Int32) (n : Nat) (U : zU) (lo up : Int32) : ug U (uSg T n U lo up) := by
  have h : U.1 ≤ uSp T n U := by
    have h1 := skp_ge T n U.1
    unfold uSp
    split
    · exact Nat.le_trans h1 (Nat.le_trans (Nat.le_succ _) (skp_ge T n _))
    · exact h1
  exact ug_t (ug_mv (V := uSs T n U) h rfl rfl) (ug_t (ug_Dg T n _) (ug_Ne _ _ _ _))
theorem ug_W (T : Nat → Int32) (n : Nat) (U : zU) : ug U (uW T n U) := ug_mv (Nat.le_add_right _ _) rfl rfl
theorem ug_if {U V W : zU} {c : Prop} [Decidable c] (a : ug U V) (b : ug U W) : ug U (if c then V else W) := by
  split
  · exact a
  · exact b
theorem ug_Ln (T : Nat → Int32) (n : Nat) (U : zU) (S : zD) : ug U (uLn T n U S) := by
  have w := ug_W T n U
  unfold uLn
  refine ug_if ?_ (ug_if ?_ (ug_if (ug_t w (ug_Nm _ _ _ _ _)) (ug_if ?_ (ug_if w (ug_if ?_ (ug_if w (ug_t w (ug_F _ _ (by decide)))))))))
  · have h0 : ug (uW T n U) (uR0 (uW T n U) (dN S) (nI U.1)) := ug_if (ug_F _ _ (by decide)) (ug_r _)
    exact ug_t w (ug_t h0 (ug_t (ug_Nm _ _ _ _ _) (ug_t (ug_Sg _ _ _ _ _) (ug_Nm _ _ _ _ _))))
  · have h0 : ug (uW T n U) (uP0 (uW T n U) (dP S) (nI U.1)) := ug_if (ug_F _ _ (by decide)) (ug_r _)
    have h2 : ug (uW T n U) (uP2 T n (uW T n U) (dN S) (dP S) (nI U.1)) := ug_t h0 (ug_t (ug_Nm _ _ _ _ _) (ug_Nm _ _ _ _ _))
    have h3 : ug (uW T n U) (uP3 T n (uW T n U) (dN S) (dP S) (nI U.1)) := ug_if (ug_t h2 (ug_F _ _ (by decide))) h2
    exact ug_t w (ug_if (ug_t h3 (ug_F _ _ (by decide))) h3)
  · exact ug_t w (ug_t (ug_Sg _ _ _ _ _) (ug_Sg _ _ _ _ _))
  · exact ug_t w (ug_if (ug_Nm _ _ _ _ _) (ug_t (ug_Nm _ _ _ _ _) (ug_F _ _ (by decide))))
theorem ug_El (T : Nat → Int32) (n : Nat) (U : zU) : ug U (uEl T n U) ∧ ((uEl T n U).2.1 = 0 → U.1 + 1 ≤ (uEl T n U).1) := by
  have h1 := skp_ge T n U.1
  unfold uEl
  split
  · exact ⟨ug_mv (by show U.1 ≤ skp T n U.1 + 1; omega) rfl rfl, fun _ => by show U.1 + 1 ≤ skp T n U.1 + 1; omega⟩
  · exact ⟨ug_t (ug_mv (V := (skp T n U.1, U.2)) h1 rfl rfl) (ug_F _ _ (by decide)), fun z => absurd z (uF_ne (by decide))⟩
theorem skp_skp {T : Nat → Int32} {n p : Nat} (hp : p ≤ n) : skp T n (skp T n p) = skp T n p := by
  have hq := skp_le T hp
  obtain ⟨q, eq⟩ : ∃ q : Nat, q = skp T n p := ⟨_, rfl⟩
  rw [← eq] at hq ⊢
  unfold skp
  by_cases c : q < n
  · have h1 : fa_first (fun i => !decide (T (p + i) = 32)) (n - p) < n - p := by unfold skp at eq; omega
    have h2 := fa_first_yes (fun i => !decide (T (p + i) = 32)) (n - p) h1
    have h3 : (!decide (T q = 32)) = true := by rw [eq]; exact h2
    have h4 := first_at (f := fun i => !decide (T (q + i) = 32)) (n := n - q) (i := 0) (by omega) (by show (!decide (T (q + 0) = 32)) = true; rw [Nat.add_zero]; exact h3) (fun j hj => absurd hj (Nat.not_lt_zero _))
    omega
  · rw [show n - q = 0 by omega]; rfl
/-- the two tapes -/
def evB (T : Nat → Int32) (n : Nat) (u : Nat → Int32) : Prop := ∀ j, j < n → u j = b8 (T j) ∧ 0 ≤ T j ∧ T j ≤ 255
theorem b8_n : ∀ b : Nat, b < 256 → (b8 (nI b) = nI b ∨ (127 < nI b ∧ b8 (nI b) < 0)) ∧ b8 (b8 (nI b)) = b8 (nI b) := by decide +kernel
theorem b8_o {x : Int32} (h0 : 0 ≤ x) (h1 : x ≤ 255) : (b8 x = x ∨ (127 < x ∧ b8 x < 0)) ∧ b8 (b8 x) = b8 x := by
  obtain ⟨e1, e2⟩ := nI_out (m := 255) (by decide) h0 h1
  rw [e1]
  exact b8_n _ (by omega)
def tf (y : Nat) (h h1 : zH) : Prop := (∀ q, q ≠ y → q ≠ y + 3 → q ≠ y + 7 → q ≠ y + 8 → q ≠ y + 13 → h1.1 q = h.1 q) ∧ h1.2 = h.2 ∧ (∀ k, (0 < k ∧ k < 17) ∨ 26 < k → h1.1 y k = h.1 y k) ∧ h1.1 y 0 = 0 ∧ h1.1 y 17 = 0
theorem tf_l {y : Nat} {h h1 h2 : zH} (a : tf y h h1) (b : lfr y h1 h2) : tf y h h2 := ⟨fun q q1 q2 q3 q4 q5 => (b.1 q q1 q2 q3 q4).trans (a.1 q q1 q2 q3 q4 q5), b.2.1.trans a.2.1, fun k hk => (b.2.2 k (by omega)).trans (a.2.2.1 k hk), (b.2.2 0 (by omega)).trans a.2.2.2.1, (b.2.2 17 (by omega)).trans a.2.2.2.2⟩
theorem tf_23 {y : Nat} {h h1 : zH} (v : Int32) (a : tf y h h1) : tf y h (zsI h1 y 23 v) := ⟨fun q q1 q2 q3 q4 q5 => by rw [zsI_ro _ _ _ q1]; exact a.1 q q1 q2 q3 q4 q5, a.2.1, fun k hk => by rw [zsI_at _ _ _ _ _ (by omega)]; exact a.2.2.1 k hk, by rw [zsI_at _ _ _ _ _ (by decide)]; exact a.2.2.2.1, by rw [zsI_at _ _ _ _ _ (by decide)]; exact a.2.2.2.2⟩
def tmP (Z : zQ × (Nat → zQ) × Nat) (y : Nat) (R : zU × zD) (h : zH) (r : Option zV) (h' : zH) : Prop := ((∀ q, q < y ∨ y + 18 ≤ q → h'.1 q = h.1 q ∧ h'.2.1 q = h.2.1 q) ∧ h'.2.2 = h.2.2) ∧ rok y h h' ∧ (h'.1 y 17 = 0 ∧ h'.1 y 23 = R.1.2.2.1) ∧ (¬ R.1.2.1 = 0 → r = some (vI (R.1.2.1 - 10)) ∧ rmZ Z y h') ∧ (R.1.2.1 = 0 → r = some (vI (nI (dP R.2))) ∧ rmZ ((R.2, eZ, gZ), Z.2.1, 0) y h')
theorem rmZ_tf {Z : zQ × (Nat → zQ) × Nat} {y : Nat} {h h' : zH} (a : tf y h h') (hZ : rmZ Z y h) : rmZ Z y h' := by
  obtain ⟨Q, Hs, c⟩ := Z
  obtain ⟨a1, a2, a3, a4, a5⟩ := hZ
  have r2 : h'.1 (y + 2) = h.1 (y + 2) := a.1 _ (by omega) (by omega) (by omega) (by omega) (by omega)
  refine ⟨rmS_cg ⟨a.2.2.1 10 (by omega), a.2.2.1 11 (by omega)⟩ r2 (a.1 _ (by omega) (by omega) (by omega) (by omega) (by omega)) (a.1 _ (by omega) (by omega) (by omega) (by omega) (by omega)) a1, by rw [r2]; exact a2, by rw [r2]; exact a3, by rw [a.2.2.1 9 (by omega)]; exact a4, ?_⟩
  rw [a.1 (y + 4) (by omega) (by omega) (by omega) (by omega) (by omega)]
  exact a5
def ca_X11_text : (zQ × (Nat → zQ) × Nat × Nat × Int32 × Nat × (Nat → Int32) × Int32) → List zV := fun (Q, Hs, c, y, n, tl, T, m) => [vR 20 0 y, vI n]
def cp_X11_text : (zQ × (Nat → zQ) × Nat × Nat × Int32 × Nat × (Nat → Int32) × Int32) → zH → Prop := fun (Q, Hs, c, y, n, tl, T, m) h => rmZ (Q, Hs, c) y h ∧ (h.1 y 17 = nI tl ∧ tl ≤ 400) ∧ evB T tl (h.1 (y + 12))
def cq_X11_text : (zQ × (Nat → zQ) × Nat × Nat × Int32 × Nat × (Nat → Int32) × Int32) → zH → Option zV → zH → Prop := fun (Q, Hs, c, y, n, tl, T, m) h r h' => (gR n 0 (nI tl) ∧ tmP (Q, Hs, c) y (rdT T (cN n) m) h r h') ∨ (¬ gR n 0 (nI tl) ∧ fq y h h' ∧ rno y 1 1 h h' ∧ r = some (vI 0))
theorem rc_X11_text : ∀ x : (zQ × (Nat → zQ) × Nat × Nat × Int32 × Nat × (Nat → Int32) × Int32), ∃ (j a : Nat) (As : List zV), ca_X11_text x = vR (10 + 10) j a :: As := by
  rintro ⟨Q, Hs, c, y, n, tl, T, m⟩
  exact ⟨_, _, _, rfl⟩
set_option maxHeartbeats 4000000 in
set_option maxRecDepth 100000 in
theorem m_X11_text : zM yX11_text cX11_text 3 (some .int) ({ frames := 6, cells := 0, slots := 0, locals := 127 } : Room) ((ca_X11_text, cp_X11_text, cq_X11_text) : zC (zQ × (Nat → zQ) × Nat × Nat × Int32 × Nat × (Nat → Int32) × Int32)) := by
  refine zM_of (by decide) ?_
  rintro X Y ⟨Q, Hs, c, y, n, tl, T, m⟩ h ⟨hZ, ⟨htl, h4⟩, hB⟩ O E hR
  have hZ : rmZ (Q, Hs, c) y h := hZ
  have htl : h.1 y 17 = nI tl := htl
  have h4 : tl ≤ 400 := h4
  have hB : evB T tl (h.1 (y + 12)) := hB
  have B_218 := zr_aload_n (X := X) (Y := Y) (u := 0) (v := 0) O dX11_text_218 rfl (zr_aload_n O dX11_text_219 rfl (zr_gI (ci := 10) (j := 24) O zc_10 (by decide) rfl tw_1211 dX11_text_220 (zr_pI (ci := 10) (j := 10) O zc_10 (by decide) rfl rfl rfl tw_1197 dX11_text_223 (zr_aload_n O dX11_text_226 rfl (zr_aload_n O dX11_text_227 rfl (zr_gI (ci := 10) (j := 25) O zc_10 (by decide) rfl tw_1212 dX11_text_228 (zr_pI (ci := 10) (j := 11) O zc_10 (by decide) rfl rfl rfl tw_1198 dX11_text_231 (zr_aload_n O dX11_text_234 rfl (zr_iconst (x := 0) O dX11_text_235 rfl (zr_pI (ci := 10) (j := 9) O zc_10 (by decide) rfl rfl rfl tw_1196 dX11_text_236 (zr_aload_n O dX11_text_239 rfl (zr_gI (ci := 10) (j := 11) O zc_10 (by decide) rfl tw_1198 dX11_text_240 (zr_ireturn O E (Nat.le_refl _) (Nat.le_refl _) dX11_text_243)))))))))))))
  have L_182 : ∀ nn : Nat, zSd X Y 0 0 182 ((fun d ls st h1 => ∃ (k q : Nat) (z : Int32) (B : zH) (S : zD) (U : zU) (f2 f5 f6 : Nat → Int32), d = 28 - k ∧ k ≤ 28 ∧ gR n 0 (nI tl) ∧ n = nI q ∧ q ≤ tl ∧ ls = [some (vR 20 0 y), some (vI n), some (vI z)] ∧ z = nI k ∧ st = [] ∧ rdT T q m = (U, S) ∧ U.2.1 = 0 ∧ U.2.2.1 = -1 ∧ tf y h B ∧ B.1 y 23 = -1 ∧ rmD S B y ∧ h1 = zsW (zsW (zsW B (y + 2) f2) (y + 5) f5) (y + 6) f6 ∧ (∀ j, j < 218 → f2 j = B.1 (y + 3) j) ∧ ∀ j, j < k → f5 j = B.1 (y + 7) j ∧ f6 j = B.1 (y + 8) j : Nat → zT) nn) := by
    refine zSd_loop (fun nn ih => ?_)
    have B_182 := zr_iload_n (X := X) (Y := Y) (u := 0) (v := 0) O dX11_text_182 rfl (zr_bipush (x := (28)) O dX11_text_183 (by decide) (zr_icge (tgt := 218) O dX11_text_185 rfl B_218 (zr_aload_n O dX11_text_188 rfl (zr_gS (ci := 10) (j := 5) (off := 5) (t := 1) (n := 28) O zc_10 (by decide) rfl tw_1192 dX11_text_189 (zr_iload_n O dX11_text_192 rfl (zr_aload_n O dX11_text_193 rfl (zr_gS (ci := 10) (j := 7) (off := 7) (t := 1) (n := 28) O zc_10 (by decide) rfl tw_1194 dX11_text_194 (zr_iload_n O dX11_text_197 rfl (zr_iald O dX11_text_198 (zr_iast O dX11_text_199 (zr_aload_n O dX11_text_200 rfl (zr_gS (ci := 10) (j := 6) (off := 6) (t := 1) (n := 28) O zc_10 (by decide) rfl tw_1193 dX11_text_201 (zr_iload_n O dX11_text_204 rfl (zr_aload_n O dX11_text_205 rfl (zr_gS (ci := 10) (j := 8) (off := 8) (t := 1) (n := 28) O zc_10 (by decide) rfl tw_1195 dX11_text_206 (zr_iload_n O dX11_text_209 rfl (zr_iald O dX11_text_210 (zr_iast O dX11_text_211 (zr_iinc (c := 1) O dX11_text_212 rfl (zr_goto (tgt := 182) O dX11_text_215 rfl ih))))))))))))))))))))
    refine zSd_weak B_182 (fun ls st h1 t => ?_)
    obtain ⟨k, q, z, B, S, U, f2, f5, f6, rfl, hk, g0, en, hq, rfl, rfl, rfl, er, hz, hz2, hB1, b23, hD, rfl, e2, e56⟩ := t
    have cn : cN n = q := by rw [en]; exact nI_clamp (by omega)
    refine ⟨fun cq => ?_, fun cq => ?_⟩
    · have := (nI_leI (a := 28) (by omega) (by omega)).mp cq
      obtain ⟨⟨d1, d2⟩, ⟨d3, d4⟩, d5, d6, d7⟩ := hD
      obtain ⟨C, eC2⟩ : ∃ C : zH, C = zsW (zsW (zsW B (y + 2) f2) (y + 5) f5) (y + 6) f6 := ⟨_, rfl⟩
      have cy : C.1 y = B.1 y := by rw [eC2, zsW_n _ _ (by omega), zsW_n _ _ (by omega), zsW_n _ _ (by omega)]
      have c2 : C.1 (y + 2) = f2 := by rw [eC2, zsW_n _ _ (by omega), zsW_n _ _ (by omega), zsW_s]
      have c5 : C.1 (y + 5) = f5 := by rw [eC2, zsW_n _ _ (by omega), zsW_s]
      have c6 : C.1 (y + 6) = f6 := by rw [eC2, zsW_s]
      have co : ∀ j, j ≠ y + 2 → j ≠ y + 5 → j ≠ y + 6 → C.1 j = B.1 j := fun j j1 j2 j3 => by rw [eC2, zsW_n _ _ j3, zsW_n _ _ j2, zsW_n _ _ j1]
      have c2' : C.2 = B.2 := by rw [eC2]; rfl
      rw [← eC2]
      have k24 : C.1 y 24 = nI (dN S) := by rw [cy]; exact d1
      have k25 : (zsI C y 10 (C.1 y 24)).1 y 25 = nI (dP S) := by rw [zsI_at _ _ _ _ _ (by decide), cy]; exact d3
      obtain ⟨E, eE⟩ : ∃ E : zH, E = zsI (zsI (zsI C y 10 (C.1 y 24)) y 11 ((zsI C y 10 (C.1 y 24)).1 y 25)) y 9 0 := ⟨_, rfl⟩
      have e11 : E.1 y 11 = nI (dP S) := by rw [eE, zsI_at _ _ _ _ _ (by decide), zsI_me]; exact k25
      have e10 : E.1 y 10 = nI (dN S) := by rw [eE, zsI_at _ _ _ _ _ (by decide), zsI_at _ _ _ _ _ (by decide), zsI_me]; exact k24
      have e9 : E.1 y 9 = 0 := by rw [eE]; exact zsI_me _ _ _ _
      have eo : ∀ j, j ≠ y → E.1 j = C.1 j := fun j hj => by rw [eE, zsI_ro _ _ _ hj, zsI_ro _ _ _ hj, zsI_ro _ _ _ hj]
      have ek : ∀ j, j ≠ 9 → j ≠ 10 → j ≠ 11 → E.1 y j = B.1 y j := fun j j1 j2 j3 => by rw [eE, zsI_at _ _ _ _ _ j1, zsI_at _ _ _ _ _ j3, zsI_at _ _ _ _ _ j2, cy]
      have e2' : E.2 = h.2 := by rw [eE]; show C.2 = h.2; rw [c2']; exact hB1.2.1
      refine Or.inl ⟨g0, ?_⟩
      rw [cn, er]
      show tmP (Q, Hs, c) y (U, S) h (some (vI ((zsI (zsI (zsI C y 10 (C.1 y 24)) y 11 ((zsI C y 10 (C.1 y 24)).1 y 25)) y 9 0).1 y 11))) (zsI (zsI (zsI C y 10 (C.1 y 24)) y 11 ((zsI C y 10 (C.1 y 24)).1 y 25)) y 9 0)
      rw [← eE]
      refine ⟨⟨fun j hj => ⟨?_, by rw [e2']⟩, by rw [e2']⟩, ⟨?_, ?_⟩, ⟨?_, ?_⟩, fun z => absurd hz z, fun _ => ⟨zri e11, ?_⟩⟩
      · rw [eo j (by omega), co j (by omega) (by omega) (by omega)]
        exact hB1.1 j (by omega) (by omega) (by omega) (by omega) (by omega)
      · rw [ek 0 (by decide) (by decide) (by decide)]; exact hB1.2.2.2.1
      · rw [eo _ (by omega), co _ (by omega) (by omega) (by omega)]
        exact hB1.1 _ (by omega) (by omega) (by omega) (by omega) (by omega)
      · rw [ek 17 (by decide) (by decide) (by decide)]; exact hB1.2.2.2.2
      · rw [ek 23 (by decide) (by decide) (by decide), b23]; exact hz2.symm
      · have r2 : ∀ j, j < 218 → E.1 (y + 2) j = B.1 (y + 3) j := fun j hj => by rw [eo _ (by omega), c2]; exact e2 j hj
        refine ⟨⟨⟨e10, d2⟩, ⟨e11, d4⟩, fun r hr => ?_, fun p hp => ?_, fun j hj => ?_⟩, ⟨?_, vE_eZ, fun z => absurd z (Nat.lt_irrefl _)⟩, ⟨⟨?_, Nat.zero_le _⟩, fun i hi => absurd hi (Nat.not_lt_zero _), fun r hr => ?_⟩, ⟨e9, Nat.zero_le _⟩, fun i hi => absurd hi (Nat.not_lt_zero _)⟩
        · replace hr : r < dN S := hr
          rw [r2 _ (by omega), r2 _ (by omega), r2 _ (by omega)]; exact d5.1 r hr
        · replace hp : p < dP S := hp
          obtain ⟨b1, b2⟩ := e56 p (by omega)
          rw [eo (y + 5) (by omega), eo (y + 6) (by omega), c5, c6, b1, b2]; exact d6 p hp
        · rw [r2 _ (by omega)]; exact d5.2 j hj
        · rw [r2 _ (by omega)]; exact d7 45 (by decide) (by decide)
        · rw [r2 _ (by omega)]; exact d7 161 (by decide) (by decide)
        · rw [r2 _ (by omega)]; exact d7 (35 + r) (by omega) (by omega)
    · have hk2 : k < 28 := Nat.not_le.mp (fun z => cq ((nI_leI (a := 28) (by omega) (by omega)).mpr z))
      refine ⟨k, rfl, hk2, k, rfl, hk2, k, rfl, hk2, k, rfl, hk2, 28 - (k + 1), by omega, k + 1, q, _, B, S, U, f2, va_up f5 k (B.1 (y + 7) k), va_up f6 k (B.1 (y + 8) k), rfl, by omega, g0, en, hq, rfl, nI_1 k, rfl, er, hz, hz2, hB1, b23, hD, ?_, e2, fun j hj => ?_⟩
      · have q7 : (zsW (zsW (zsW B (y + 2) f2) (y + 5) f5) (y + 6) f6).1 (y + 7) k = B.1 (y + 7) k := by rw [zsW_n _ _ (by omega), zsW_n _ _ (by omega), zsW_n _ _ (by omega)]
        have q5 : (zsW (zsW (zsW B (y + 2) f2) (y + 5) f5) (y + 6) f6).1 (y + 5) = f5 := by rw [zsW_n _ _ (by omega), zsW_s]
        have a1 : zsI (zsW (zsW (zsW B (y + 2) f2) (y + 5) f5) (y + 6) f6) (y + 5) k (B.1 (y + 7) k) = zsW (zsW (zsW B (y + 2) f2) (y + 5) (va_up f5 k (B.1 (y + 7) k))) (y + 6) f6 := by
          rw [zsI_W, q5, zsW_c _ _ _ (by omega : y + 5 ≠ y + 6), zsW_W]
        have q8 : (zsW (zsW (zsW B (y + 2) f2) (y + 5) (va_up f5 k (B.1 (y + 7) k))) (y + 6) f6).1 (y + 8) k = B.1 (y + 8) k := by rw [zsW_n _ _ (by omega), zsW_n _ _ (by omega), zsW_n _ _ (by omega)]
        rw [q7, a1, q8, zsI_W, zsW_W, zsW_s]
      · by_cases e : j = k
        · rw [e, zup_s, zup_s]; exact ⟨rfl, rfl⟩
        · rw [zup_n _ _ e, zup_n _ _ e]; exact e56 j (by omega)
  have B_182 := zSd_any L_182
  have B_180 := zr_iconst (X := X) (Y := Y) (u := 0) (v := 0) (x := 0) O dX11_text_180 rfl (zr_istore_n O dX11_text_181 rfl (B_182))
  have L_155 : ∀ nn : Nat, zSd X Y 0 0 155 ((fun d ls st h1 => ∃ (k q : Nat) (z : Int32) (B : zH) (S : zD) (U : zU) (f2 : Nat → Int32), d = 218 - k ∧ k ≤ 218 ∧ gR n 0 (nI tl) ∧ n = nI q ∧ q ≤ tl ∧ ls = [some (vR 20 0 y), some (vI n), some (vI z)] ∧ z = nI k ∧ st = [] ∧ rdT T q m = (U, S) ∧ U.2.1 = 0 ∧ U.2.2.1 = -1 ∧ tf y h B ∧ B.1 y 23 = -1 ∧ rmD S B y ∧ h1 = zsW B (y + 2) f2 ∧ ∀ j, j < k → f2 j = B.1 (y + 3) j : Nat → zT) nn) := by
    refine zSd_loop (fun nn ih => ?_)
    have B_155 := zr_iload_n (X := X) (Y := Y) (u := 0) (v := 0) O dX11_text_155 rfl (zr_sipush (x := (218)) O dX11_text_156 (by decide) (zr_icge (tgt := 180) O dX11_text_159 rfl B_180 (zr_aload_n O dX11_text_162 rfl (zr_gS (ci := 10) (j := 2) (off := 2) (t := 1) (n := 218) O zc_10 (by decide) rfl tw_1189 dX11_text_163 (zr_iload_n O dX11_text_166 rfl (zr_aload_n O dX11_text_167 rfl (zr_gS (ci := 10) (j := 3) (off := 3) (t := 1) (n := 218) O zc_10 (by decide) rfl tw_1190 dX11_text_168 (zr_iload_n O dX11_text_171 rfl (zr_iald O dX11_text_172 (zr_iast O dX11_text_173 (zr_iinc (c := 1) O dX11_text_174 rfl (zr_goto (tgt := 155) O dX11_text_177 rfl ih))))))))))))
    refine zSd_weak B_155 (fun ls st h1 t => ?_)
    obtain ⟨k, q, z, B, S, U, f2, rfl, hk, g0, en, hq, rfl, rfl, rfl, er, hz, hz2, hB1, b23, hD, rfl, e2⟩ := t
    refine ⟨fun cq => ?_, fun cq => ?_⟩
    · have := (nI_leI (a := 218) (by omega) (by omega)).mp cq
      refine ⟨28 - 0, 0, q, _, B, S, U, f2, B.1 (y + 5), B.1 (y + 6), rfl, Nat.zero_le _, g0, en, hq, rfl, rfl, rfl, er, hz, hz2, hB1, b23, hD, ?_, fun j hj => e2 j (by omega), fun j hj => absurd hj (Nat.not_lt_zero _)⟩
      have a5 := zsW_self (zsW B (y + 2) f2) (y + 5)
      rw [zsW_n _ _ (by omega)] at a5
      have a6 := zsW_self (zsW B (y + 2) f2) (y + 6)
      rw [zsW_n _ _ (by omega)] at a6
      rw [a5, a6]
    · have hk2 : k < 218 := Nat.not_le.mp (fun z => cq ((nI_leI (a := 218) (by omega) (by omega)).mpr z))
      refine ⟨k, rfl, hk2, k, rfl, hk2, 218 - (k + 1), by omega, k + 1, q, _, B, S, U, va_up f2 k (B.1 (y + 3) k), rfl, by omega, g0, en, hq, rfl, nI_1 k, rfl, er, hz, hz2, hB1, b23, hD, ?_, fun j hj => ?_⟩
      · rw [zsI_W, zsW_W, zsW_s, zsW_n _ _ (by omega)]
      · by_cases e : j = k
        · rw [e, zup_s]
        · rw [zup_n _ _ e]; exact e2 j (by omega)
  have B_155 := zSd_any L_155
  have B_153 := zr_iconst (X := X) (Y := Y) (u := 0) (v := 0) (x := 0) O dX11_text_153 rfl (zr_istore_n O dX11_text_154 rfl (B_155))
  have B_135 := zr_pI (X := X) (Y := Y) (u := 0) (v := 0) (ci := 10) (j := 23) O zc_10 (by decide) rfl rfl rfl tw_1210 dX11_text_135 (zr_aload_n O dX11_text_138 rfl (zr_gI (ci := 10) (j := 21) O zc_10 (by decide) rfl tw_1208 dX11_text_139 (zr_ifle (tgt := 153) O dX11_text_142 rfl B_153 (zr_aload_n O dX11_text_145 rfl (zr_gI (ci := 10) (j := 21) O zc_10 (by decide) rfl tw_1208 dX11_text_146 (zr_bipush (x := (10)) O dX11_text_149 (by decide) (zr_isub O dX11_text_151 (zr_ireturn O E (Nat.le_refl _) (Nat.le_refl _) dX11_text_152))))))))
  have B_134 := zr_iconst (X := X) (Y := Y) (u := 0) (v := 0) (x := (-1)) O dX11_text_134 rfl (B_135)
  have B_119 := zr_aload_n (X := X) (Y := Y) (u := 0) (v := 0) O dX11_text_119 rfl (zr_aload_n O dX11_text_120 rfl (zr_gI (ci := 10) (j := 21) O zc_10 (by decide) rfl tw_1208 dX11_text_121 (zr_ifle (tgt := 134) O dX11_text_124 rfl B_134 (zr_aload_n O dX11_text_127 rfl (zr_gI (ci := 10) (j := 22) O zc_10 (by decide) rfl tw_1209 dX11_text_128 (zr_goto (tgt := 135) O dX11_text_131 rfl B_135))))))
  have C_119 : zSd X Y 0 0 119 (fun ls st h1 => ∃ (q : Nat) (U : zU) (S : zD) (z : Int32), gR n 0 (nI tl) ∧ n = nI q ∧ q ≤ tl ∧ ls = [some (vR 20 0 y), some (vI n), some (vI z)] ∧ st = [] ∧ rdT T q m = (U, S) ∧ (U.2.1 = 0 → U.2.2.1 = -1) ∧ tf y h h1 ∧ h1.1 y 21 = U.2.1 ∧ (U.2.1 = 0 ∨ 0 < U.2.1) ∧ (¬ U.2.1 = 0 → h1.1 y 22 = U.2.2.1) ∧ (U.2.1 = 0 → rmD S h1 y)) := by
    refine zSd_weak B_119 (fun ls st h1 t => ?_)
    obtain ⟨q, U, S, z, g0, en, hq, rfl, rfl, er, hm1, t1, e21, hp, e22, hD⟩ := t
    have cn : cN n = q := by rw [en]; exact nI_clamp (by omega)
    have h21 : ∀ v : Int32, (zsI h1 y 23 v).1 y 21 = U.2.1 := fun v => by rw [zsI_at _ _ _ _ _ (by decide)]; exact e21
    refine ⟨fun cq => ⟨fun c2 => ?_, fun c2 => ?_⟩, fun cq => ⟨fun c2 => ?_, fun c2 => ?_⟩⟩
    · rw [e21] at cq
      have hz : U.2.1 = 0 := hp.elim id (fun z => absurd cq (Int32.not_le.mpr z))
      refine ⟨218 - 0, 0, q, _, zsI h1 y 23 (-1), S, U, (zsI h1 y 23 (-1)).1 (y + 2), rfl, Nat.zero_le _, g0, en, hq, rfl, rfl, rfl, er, hz, hm1 hz, tf_23 _ t1, zsI_me _ _ _ _, ?_, (zsW_self _ _).symm, fun j hj => absurd hj (Nat.not_lt_zero _)⟩
      exact rmD_cg (zsI_at _ _ _ _ _ (by decide)) (zsI_at _ _ _ _ _ (by decide)) (zsI_ro _ _ _ (by omega)) (zsI_ro _ _ _ (by omega)) (zsI_ro _ _ _ (by omega)) (hD hz)
    · rw [h21] at c2
      rw [e21] at cq
      exact absurd cq c2
    · rw [h21] at c2
      rw [e21] at cq
      exact absurd c2 cq
    · rw [e21] at cq
      have hz : ¬ U.2.1 = 0 := fun z => cq (by rw [z]; exact Int32.le_refl _)
      refine Or.inl ⟨g0, ?_⟩
      rw [cn, er]
      have t2 := tf_23 (h1.1 y 22) t1
      refine ⟨⟨fun j hj => ⟨?_, ?_⟩, ?_⟩, ⟨t2.2.2.2.1, ?_⟩, ⟨t2.2.2.2.2, ?_⟩, fun _ => ⟨?_, rmZ_tf t2 hZ⟩, fun z => absurd z hz⟩
      · exact t2.1 j (by omega) (by omega) (by omega) (by omega) (by omega)
      · rw [t2.2.1]
      · rw [t2.2.1]
      · exact t2.1 _ (by omega) (by omega) (by omega) (by omega) (by omega)
      · rw [zsI_me]; exact e22 hz
      · show some (vI ((zsI h1 y 23 (h1.1 y 22)).1 y 21 - 10)) = _
        rw [h21]
  have L_87 : ∀ nn : Nat, zSd X Y 0 0 87 ((fun d ls st h1 => ∃ (i q : Nat) (V : zU) (S : zD) (z : Int32), d = 401 - i ∧ i ≤ 401 ∧ gR n 0 (nI tl) ∧ n = nI q ∧ q ≤ tl ∧ ls = [some (vR 20 0 y), some (vI n), some (vI z)] ∧ st = [] ∧ tf y h h1 ∧ rmV T q V h1 y ∧ (V.2.1 = 0 → rmD S h1 y) ∧ (V.2.1 = 0 → V.2.2.1 = -1) ∧ (V.2.1 = 0 → i ≤ V.1) ∧ rdT T q m = rdl T q (400 - i) (skp T q V.1, V.2) S : Nat → zT) nn) := by
    refine zSd_loop (fun nn ih => ?_)
    have B_112 := zr_aload_n (X := X) (Y := Y) (u := 0) (v := 0) O dX11_text_112 rfl (zr_cV (ci := 10) (n := 0) O m_X11_oneLine (bn_X11_oneLine _ ⟨rfl, rfl⟩) vw_X11_oneLine tw_1316 rc_X11_oneLine (zrm hR rfl rfl) dX11_text_113 (zr_goto (tgt := 87) O dX11_text_116 rfl ih))
    have C_112 : zSd X Y 0 0 112 (fun ls st h1 => ∃ (i q : Nat) (U : zU) (S : zD) (z : Int32), nn = 401 - i ∧ i ≤ 401 ∧ gR n 0 (nI tl) ∧ n = nI q ∧ q ≤ tl ∧ ls = [some (vR 20 0 y), some (vI n), some (vI z)] ∧ st = [] ∧ tf y h h1 ∧ rmR T q U h1 y ∧ U.2.1 = 0 ∧ skp T q U.1 = U.1 ∧ U.1 < q ∧ i ≤ U.1 ∧ U.2.2.1 = -1 ∧ rmD S h1 y ∧ rdT T q m = rdl T q (400 - i) U S) := by
      refine zSd_weak B_112 (fun ls st h1 t => ?_)
      obtain ⟨i, q, U, S, z, enn, hi, g0, en, hq, rfl, rfl, t1, w1, hz, hs, hlt, hiU, hm1, hD, er⟩ := t
      refine ⟨(T, q, U, S, y), rfl, ⟨w1, hz, hs, hD⟩, fun r h2 hq2 => ?_⟩
      obtain ⟨rfl, l2, w2, d2⟩ := hq2
      replace l2 : lfr y h1 h2 := l2
      replace w2 : rmV T q (uEl T q (uLn T q U S)) h2 y := w2
      replace d2 : (uEl T q (uLn T q U S)).2.1 = 0 → rmD (sLn T q U S) h2 y := d2
      have u1 := ug_Ln T q U S
      have u2 := ug_El T q (uLn T q U S)
      have u3 := ug_t u1 u2.1
      refine ⟨401 - (i + 1), by omega, i + 1, q, uEl T q (uLn T q U S), sLn T q U S, z, rfl, by omega, g0, en, hq, rfl, rfl, tf_l t1 l2, w2, d2, u3.2 (fun _ => hm1), fun z => ?_, ?_⟩
      · have := u2.2 z
        have := u1.1
        omega
      · rw [er, show 400 - i = (400 - (i + 1)) + 1 by omega, rdl, if_pos ⟨hlt, hz⟩]
        rfl
    have B_87 := zr_aload_n (X := X) (Y := Y) (u := 0) (v := 0) O dX11_text_87 rfl (zr_gI (ci := 10) (j := 21) O zc_10 (by decide) rfl tw_1208 dX11_text_88 (zr_ifne (tgt := 119) O dX11_text_91 rfl C_119 (zr_aload_n O dX11_text_94 rfl (zr_cH (zr_cV (ci := 10) (n := 0) O m_X11_sign (bn_X11_sign _ ⟨rfl, rfl⟩) vw_X11_sign tw_1312 rc_X11_sign (zrm hR rfl rfl) dX11_text_95 (zr_ifne (tgt := 112) O dX11_text_98 rfl C_112 (zr_aload_n O dX11_text_101 rfl (zr_gI (ci := 10) (j := 19) O zc_10 (by decide) rfl tw_1206 dX11_text_102 (zr_aload_n O dX11_text_105 rfl (zr_gI (ci := 10) (j := 18) O zc_10 (by decide) rfl tw_1205 dX11_text_106 (zr_icge (tgt := 119) O dX11_text_109 rfl C_119 (C_112))))))))))))
    refine zSd_weak B_87 (fun ls st h1 t => ?_)
    obtain ⟨i, q, V, S, z, rfl, hi, g0, en, hq, rfl, rfl, t1, w1, hD, hm1, hiV, er⟩ := t
    obtain ⟨a1, a2, a3, a4, a5⟩ := w1
    refine ⟨fun cq => ?_, fun cq => ?_⟩
    · rw [a2] at cq
      refine ⟨q, (skp T q V.1, V.2), S, z, g0, en, hq, rfl, rfl, ?_, fun w => absurd w cq, t1, a2, a3, a4, fun w => absurd w cq⟩
      rw [er]
      exact rdl_end (U := (skp T q V.1, V.2)) (fun w => cq w.2) _
    · rw [a2] at cq
      have hz : V.2.1 = 0 := cq
      obtain ⟨p1, p2⟩ := a5 hz
      have hsk := skp_le T p2
      have hq4 : q ≤ 400 := by omega
      obtain ⟨p, ep⟩ : ∃ p : Nat, p = skp T q V.1 := ⟨_, rfl⟩
      rw [← ep] at hsk er
      obtain ⟨h2, eh2⟩ : ∃ h2 : zH, h2 = zsI h1 y 19 (nI p) := ⟨_, rfl⟩
      have e19 : h2.1 y 19 = nI p := by rw [eh2]; exact zsI_me _ _ _ _
      have e18 : h2.1 y 18 = nI q := by rw [eh2, zsI_at _ _ _ _ _ (by decide)]; exact a1.1.1
      have l2 : lfr y h1 h2 := by rw [eh2]; exact lfr_I _ _ (by decide) (by decide) (by decide)
      have t2 := tf_l t1 l2
      have d2 : rmD S h2 y := by
        rw [eh2]
        exact rmD_cg (zsI_at _ _ _ _ _ (by decide)) (zsI_at _ _ _ _ _ (by decide)) (zsI_ro _ _ _ (by omega)) (zsI_ro _ _ _ (by omega)) (zsI_ro _ _ _ (by omega)) (hD hz)
      have e21 : h2.1 y 21 = V.2.1 := by rw [eh2, zsI_at _ _ _ _ _ (by decide)]; exact a2
      have w2 : rmR T q (p, V.2) h2 y := ⟨by rw [eh2]; exact rmT_I (by decide) a1, e21, a3, fun w => absurd hz w, p, e19, by omega, fun _ => ⟨rfl, hsk.2⟩⟩
      have go : p < q → ∃ (i_1 q_1 : Nat) (U : zU) (S_1 : zD) (z_1 : Int32), 401 - i = 401 - i_1 ∧ i_1 ≤ 401 ∧ gR n 0 (nI tl) ∧ n = nI q_1 ∧ q_1 ≤ tl ∧ ([some (vR 20 0 y), some (vI n), some (vI z)] : zL) = [some (vR 20 0 y), some (vI n), some (vI z_1)] ∧ ([] : List zV) = [] ∧ tf y h h2 ∧ rmR T q_1 U h2 y ∧ U.2.1 = 0 ∧ skp T q_1 U.1 = U.1 ∧ U.1 < q_1 ∧ i_1 ≤ U.1 ∧ U.2.2.1 = -1 ∧ rmD S_1 h2 y ∧ rdT T q_1 m = rdl T q_1 (400 - i_1) U S_1 := fun hp => ⟨i, q, (p, V.2), S, z, rfl, hi, g0, en, hq, rfl, rfl, t2, w2, hz, by show skp T q p = p; rw [ep]; exact skp_skp p2, hp, by have := hiV hz; show i ≤ p; omega, hm1 hz, d2, er⟩
      have stop : ¬ p < q → ∃ (q_1 : Nat) (U : zU) (S_1 : zD) (z_1 : Int32), gR n 0 (nI tl) ∧ n = nI q_1 ∧ q_1 ≤ tl ∧ ([some (vR 20 0 y), some (vI n), some (vI z)] : zL) = [some (vR 20 0 y), some (vI n), some (vI z_1)] ∧ ([] : List zV) = [] ∧ rdT T q_1 m = (U, S_1) ∧ (U.2.1 = 0 → U.2.2.1 = -1) ∧ tf y h h2 ∧ h2.1 y 21 = U.2.1 ∧ (U.2.1 = 0 ∨ 0 < U.2.1) ∧ (¬ U.2.1 = 0 → h2.1 y 22 = U.2.2.1) ∧ (U.2.1 = 0 → rmD S_1 h2 y) := fun hp => ⟨q, (p, V.2), S, z, g0, en, hq, rfl, rfl, by rw [er]; exact rdl_end (fun w => hp w.1) _, hm1, t2, e21, a3, fun w => absurd hz w, fun _ => d2⟩
      refine ⟨(T, q, y, V.1), rfl, ⟨a1, p1, by omega⟩, ?_⟩
      have ec : cg_X11_sign (T, q, y, V.1) h1 = h2 := by rw [eh2, ep]; rfl
      have ef : cf_X11_sign (T, q, y, V.1) h1 = sgc (h1.1 (y + 13)) q p := by rw [ep]; rfl
      rw [ec, ef]
      refine ⟨fun c2 => go ?_, fun c2 => ⟨fun c3 => stop ?_, fun c3 => go ?_⟩⟩
      · rcases Nat.lt_or_ge p q with w | w
        · exact w
        · exact absurd (by rw [sgc, if_neg (by omega)]) c2
      · rw [e18, e19] at c3
        have := (nI_leI (by omega) (by omega)).mp c3
        omega
      · rw [e18, e19] at c3
        exact Nat.not_le.mp (fun w => c3 ((nI_leI (by omega) (by omega)).mpr w))
  have B_87 := zSd_any L_87
  have B_50 := zr_aload_n (X := X) (Y := Y) (u := 0) (v := 0) O dX11_text_50 rfl (zr_iconst (x := 0) O dX11_text_51 rfl (zr_pI (ci := 10) (j := 17) O zc_10 (by decide) rfl rfl rfl tw_1204 dX11_text_52 (zr_aload_n O dX11_text_55 rfl (zr_iload_n O dX11_text_56 rfl (zr_pI (ci := 10) (j := 18) O zc_10 (by decide) rfl rfl rfl tw_1205 dX11_text_57 (zr_aload_n O dX11_text_60 rfl (zr_iconst (x := 0) O dX11_text_61 rfl (zr_pI (ci := 10) (j := 19) O zc_10 (by decide) rfl rfl rfl tw_1206 dX11_text_62 (zr_aload_n O dX11_text_65 rfl (zr_iconst (x := 0) O dX11_text_66 rfl (zr_pI (ci := 10) (j := 21) O zc_10 (by decide) rfl rfl rfl tw_1208 dX11_text_67 (zr_aload_n O dX11_text_70 rfl (zr_iconst (x := 0) O dX11_text_71 rfl (zr_pI (ci := 10) (j := 24) O zc_10 (by decide) rfl rfl rfl tw_1211 dX11_text_72 (zr_aload_n O dX11_text_75 rfl (zr_iconst (x := 0) O dX11_text_76 rfl (zr_pI (ci := 10) (j := 25) O zc_10 (by decide) rfl rfl rfl tw_1212 dX11_text_77 (zr_aload_n O dX11_text_80 rfl (zr_gS (ci := 10) (j := 3) (off := 3) (t := 1) (n := 218) O zc_10 (by decide) rfl tw_1190 dX11_text_81 (zr_cS (n := 1) O m_X11_clears (bn_X11_clears _ ⟨rfl, rfl⟩) tw_1185 tw_1184 (zrm hR rfl rfl) dX11_text_84 (B_87)))))))))))))))))))))
  have L_27 : ∀ nn : Nat, zSd X Y 0 0 27 ((fun d ls st h1 => ∃ (k q : Nat) (z : Int32) (f : Nat → Int32), d = q - k ∧ k ≤ q ∧ gR n 0 (nI tl) ∧ n = nI q ∧ q ≤ tl ∧ ls = [some (vR 20 0 y), some (vI n), some (vI z)] ∧ z = nI k ∧ st = [] ∧ h1 = zsW (zsI h y 0 0) (y + 13) f ∧ ∀ j, j < k → f j = b8 (T j) : Nat → zT) nn) := by
    refine zSd_loop (fun nn ih => ?_)
    have B_27 := zr_iload_n (X := X) (Y := Y) (u := 0) (v := 0) O dX11_text_27 rfl (zr_iload_n O dX11_text_28 rfl (zr_icge (tgt := 50) O dX11_text_29 rfl B_50 (zr_aload_n O dX11_text_32 rfl (zr_gS (ci := 10) (j := 16) (off := 13) (t := 2) (n := 400) O zc_10 (by decide) rfl tw_1203 dX11_text_33 (zr_iload_n O dX11_text_36 rfl (zr_aload_n O dX11_text_37 rfl (zr_gS (ci := 10) (j := 15) (off := 12) (t := 2) (n := 400) O zc_10 (by decide) rfl tw_1202 dX11_text_38 (zr_iload_n O dX11_text_41 rfl (zr_bald O dX11_text_42 (zr_bast O dX11_text_43 (zr_iinc (c := 1) O dX11_text_44 rfl (zr_goto (tgt := 27) O dX11_text_47 rfl ih))))))))))))
    refine zSd_weak B_27 (fun ls st h1 t => ?_)
    obtain ⟨k, q, z, f, rfl, hk, g0, en, hq, rfl, rfl, rfl, rfl, hf⟩ := t
    rw [en]
    refine ⟨fun cq => ?_, fun cq => ?_⟩
    · have := (nI_leI (by omega) (by omega)).mp cq
      obtain ⟨A, eA⟩ : ∃ A : zH, A = zsW (zsI h y 0 0) (y + 13) f := ⟨_, rfl⟩
      obtain ⟨D, eD⟩ : ∃ D : zH, D = zsI (zsI (zsI (zsI (zsI (zsI A y 17 0) y 18 (nI q)) y 19 0) y 21 0) y 24 0) y 25 0 := ⟨_, rfl⟩
      have Ao : ∀ j, j ≠ y → j ≠ y + 13 → A.1 j = h.1 j := fun j j1 j2 => by rw [eA, zsW_n _ _ j2, zsI_ro _ _ _ j1]
      have A13 : A.1 (y + 13) = f := by rw [eA, zsW_s]
      have Ay : ∀ j, j ≠ 0 → A.1 y j = h.1 y j := fun j hj => by rw [eA, zsW_n _ _ (by omega), zsI_at _ _ _ _ _ hj]
      have A0 : A.1 y 0 = 0 := by rw [eA, zsW_n _ _ (by omega), zsI_me]
      have Do : ∀ j, j ≠ y → D.1 j = A.1 j := fun j hj => by rw [eD, zsI_ro _ _ _ hj, zsI_ro _ _ _ hj, zsI_ro _ _ _ hj, zsI_ro _ _ _ hj, zsI_ro _ _ _ hj, zsI_ro _ _ _ hj]
      have Dk : ∀ j, j ≠ 17 → j ≠ 18 → j ≠ 19 → j ≠ 21 → j ≠ 24 → j ≠ 25 → D.1 y j = A.1 y j := fun j j1 j2 j3 j4 j5 j6 => by rw [eD, zsI_at _ _ _ _ _ j6, zsI_at _ _ _ _ _ j5, zsI_at _ _ _ _ _ j4, zsI_at _ _ _ _ _ j3, zsI_at _ _ _ _ _ j2, zsI_at _ _ _ _ _ j1]
      have D25 : D.1 y 25 = 0 := by rw [eD]; exact zsI_me _ _ _ _
      have D24 : D.1 y 24 = 0 := by rw [eD, zsI_at _ _ _ _ _ (by decide)]; exact zsI_me _ _ _ _
      have D21 : D.1 y 21 = 0 := by rw [eD, zsI_at _ _ _ _ _ (by decide), zsI_at _ _ _ _ _ (by decide)]; exact zsI_me _ _ _ _
      have D19 : D.1 y 19 = 0 := by rw [eD, zsI_at _ _ _ _ _ (by decide), zsI_at _ _ _ _ _ (by decide), zsI_at _ _ _ _ _ (by decide)]; exact zsI_me _ _ _ _
      have D18 : D.1 y 18 = nI q := by rw [eD, zsI_at _ _ _ _ _ (by decide), zsI_at _ _ _ _ _ (by decide), zsI_at _ _ _ _ _ (by decide), zsI_at _ _ _ _ _ (by decide)]; exact zsI_me _ _ _ _
      have D17 : D.1 y 17 = 0 := by rw [eD, zsI_at _ _ _ _ _ (by decide), zsI_at _ _ _ _ _ (by decide), zsI_at _ _ _ _ _ (by decide), zsI_at _ _ _ _ _ (by decide), zsI_at _ _ _ _ _ (by decide)]; exact zsI_me _ _ _ _
      have D2 : D.2 = h.2 := by rw [eD, eA]; rfl
      refine ⟨y + 3, rfl, trivial, fun r h2 hq2 => ?_⟩
      obtain ⟨rfl, f3, e2, hf3⟩ := hq2
      replace e2 : h2 = zsW (zsI (zsI (zsI (zsI (zsI (zsI (zsW (zsI h y 0 0) (y + 13) f) y 17 0) y 18 (nI q)) y 19 0) y 21 0) y 24 0) y 25 0) (y + 3) f3 := e2
      rw [← eA, ← eD] at e2
      have Ey : h2.1 y = D.1 y := by rw [e2, zsW_n _ _ (by omega)]
      have Eo : ∀ j, j ≠ y + 3 → h2.1 j = D.1 j := fun j hj => by rw [e2, zsW_n _ _ hj]
      have E3 : h2.1 (y + 3) = f3 := by rw [e2, zsW_s]
      refine ⟨401 - 0, 0, q, (0, 0, -1, m), dE, _, rfl, Nat.zero_le _, en ▸ g0, rfl, hq, rfl, rfl, ⟨fun j j1 j2 j3 j4 j5 => ?_, by rw [e2]; exact D2, fun j hj => ?_, ?_, ?_⟩, ⟨⟨⟨by rw [Ey]; exact D18, by omega⟩, fun j hj => ?_⟩, by rw [Ey]; exact D21, Or.inl rfl, fun z => absurd rfl z, fun _ => ⟨by rw [Ey]; exact D19, Nat.zero_le _⟩⟩, fun _ => ⟨⟨by rw [Ey]; exact D24, Nat.zero_le _⟩, ⟨by rw [Ey]; exact D25, Nat.zero_le _⟩, ⟨fun r hr => absurd hr (Nat.not_lt_zero _), fun j hj => ?_⟩, fun p hp => absurd hp (Nat.not_lt_zero _), fun j j1 j2 => ?_⟩, fun _ => rfl, fun _ => Nat.zero_le _, rfl⟩
      · rw [Eo j j2, Do j j1, Ao j j1 j5]
      · rw [Ey, Dk j (by omega) (by omega) (by omega) (by omega) (by omega) (by omega), Ay j (by omega)]
      · rw [Ey, Dk 0 (by decide) (by decide) (by decide) (by decide) (by decide) (by decide)]; exact A0
      · rw [Ey]; exact D17
      · rw [Eo (y + 13) (by omega), Do _ (by omega), A13, hf j (by omega)]
        obtain ⟨-, b1, b2⟩ := hB j (by omega)
        exact (b8_o b1 b2).1
      · rw [E3, hf3 j (by omega)]; rfl
      · rw [E3, hf3 j (by omega), clr, if_neg (by omega), if_neg (by omega)]
    · have hk2 : k < q := Nat.not_le.mp (fun z => cq ((nI_leI (by omega) (by omega)).mpr z))
      obtain ⟨b0, b1, b2⟩ := hB k (by omega)
      refine ⟨k, rfl, by omega, k, rfl, by omega, q - (k + 1), by omega, k + 1, q, _, va_up f k (b8 (T k)), rfl, by omega, en ▸ g0, rfl, hq, rfl, nI_1 k, rfl, ?_, fun j hj => ?_⟩
      · have e12 : (zsW (zsI h y 0 0) (y + 13) f).1 (y + 12) k = b8 (T k) := by rw [zsW_n _ _ (by omega), zsI_ro _ _ _ (by omega)]; exact b0
        have e8 : ((zsW (zsI h y 0 0) (y + 13) f).1 (y + 12) k).toInt8.toInt32 = b8 (T k) := by rw [e12]; exact (b8_o b1 b2).2
        rw [e8, zsI_W, zsW_W, zsW_s]
      · by_cases e : j = k
        · rw [e, zup_s]
        · rw [zup_n _ _ e]; exact hf j (by omega)
  have B_27 := zSd_any L_27
  have B_25 := zr_iconst (X := X) (Y := Y) (u := 0) (v := 0) (x := 0) O dX11_text_25 rfl (zr_istore_n O dX11_text_26 rfl (B_27))
  have B_0 := zr_aload_n (X := X) (Y := Y) (u := 0) (v := 0) O dX11_text_0 rfl (zr_iconst (x := 0) O dX11_text_1 rfl (zr_pI (ci := 10) (j := 0) O zc_10 (by decide) rfl rfl rfl tw_1187 dX11_text_2 (zr_aload_n O dX11_text_5 rfl (zr_iload_n O dX11_text_6 rfl (zr_iconst (x := 0) O dX11_text_7 rfl (zr_aload_n O dX11_text_8 rfl (zr_gI (ci := 10) (j := 17) O zc_10 (by decide) rfl tw_1204 dX11_text_9 (zr_cI (zr_cS (n := 3) O m_X11_within (bn_X11_within _ ⟨rfl, rfl⟩) tw_1306 tw_1305 (zrm hR rfl rfl) dX11_text_12 (zr_iconst (x := 1) O dX11_text_15 rfl (zr_iconst (x := 1) O dX11_text_16 rfl (zr_cH (zr_cV (ci := 10) (n := 3) O m_X11_isFine (bn_X11_isFine _ ⟨rfl, rfl⟩) vw_X11_isFine tw_1308 rc_X11_isFine (zrm hR rfl rfl) dX11_text_17 (zr_ifne (tgt := 25) O dX11_text_20 rfl B_25 (zr_iconst (x := 0) O dX11_text_23 rfl (zr_ireturn O E (Nat.le_refl _) (Nat.le_refl _) dX11_text_24))))))))))))))))
  refine ⟨rfl, Nat.le_of_ble_eq_true rfl, _, B_0, ?_⟩
  have e17 : (zsI h y 0 0).1 y 17 = nI tl := by rw [zsI_at _ _ _ _ _ (by decide)]; exact htl
  refine ⟨(n, 0, nI tl), by rw [e17]; rfl, trivial, (y, decide (0 ≤ n ∧ n ≤ nI tl), 1, 1), rfl, ⟨by decide, by decide⟩, fun d => ?_, fun d => ?_⟩
  · obtain ⟨g0, e⟩ := fine_ok (t0 h y) d
    rw [e]
    obtain ⟨q, en, hq, eq⟩ := rngx (by omega) g0
    exact ⟨q - 0, 0, q, _, (zsI h y 0 0).1 (y + 13), rfl, Nat.zero_le _, g0, en, hq, rfl, rfl, rfl, (zsW_self _ _).symm, fun j hj => absurd hj (Nat.not_lt_zero _)⟩
  · obtain ⟨g0, e⟩ := fine_no (t0 h y) d
    rw [e]
    exact Or.inr ⟨g0, (fq_rf 1 (fq_0 y h)).1, (fq_rf 1 (fq_0 y h)).2, rfl⟩

