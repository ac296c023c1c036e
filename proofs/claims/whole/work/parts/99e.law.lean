/-! the law's beginning: what the start gives -/
abbrev lwN : List Cond := flatC (Jvm.Cond.and given_1 narrow_1)
def strT : List (String × Nat) := [("SlipSecret", 362), ("SlipSecret$TextReader", 56), ("SlipSecret$TextReader", 66), ("SlipSecret$TextReader", 71), ("SlipSecret$TextReader", 79), ("SlipSecret$TextReader", 84), ("SlipSecret$TextReader", 86), ("SlipSecret$TextReader", 91), ("SlipSecret", 374), ("SlipSecret", 369)]
def tmS (i : Nat) : Term := Term.string (strT.getD i ("", 0)).1 (strT.getD i ("", 0)).2
theorem st_nest : ∀ q ∈ zNest, Cond.methodLinkNest q.1 q.2.1 q.2.2.1 q.2.2.2 ∈ lw_tbl := by decide +kernel
theorem st_exc : ∀ c ∈ zExc, Cond.castable c c ∈ lw_tbl := by decide +kernel
theorem st_noc : ∀ q ∈ zNoc, Cond.not (.castable q.1 q.2) ∈ lwN := by decide +kernel
theorem st_str : ∀ q ∈ zStr, Cond.stringRef q.1 q.2.1 q.2.2.1 ∈ lw_tbl := by decide +kernel
theorem st_ex : ∀ i, i < 10 → Cond.exactly (tmS i) "java/lang/String" ∈ lwN := by decide +kernel
theorem st_co : ∀ i, i < 10 → Cond.eq (.field (tmS i) "java/lang/String" "coder" "B") (.int 0) ∈ lwN := by decide +kernel
theorem st_ar : ∀ i, i < 10 → Cond.arrayOf (.field (tmS i) "java/lang/String" "value" "[B") .byte ∈ lwN := by decide +kernel
theorem st_le : ∀ i, i < 10 → Cond.eq (.length (.field (tmS i) "java/lang/String" "value" "[B")) (.int (Int32.ofNat (zLen.getD i 0))) ∈ lwN := by decide +kernel
theorem st_sm : ∀ q ∈ zStr, tmS q.2.2.2 = Term.string q.1 q.2.1 ∨ Cond.eq (tmS q.2.2.2) (Term.string q.1 q.2.1) ∈ lwN := by decide +kernel
theorem st_c1 : ∀ n, n < 2 → Cond.arrayOf (Term.static RX0 (zCf n) "[I") .int ∈ lwN ∧ Cond.eq (.length (Term.static RX0 (zCf n) "[I")) (.int (Int32.ofNat (zCn n))) ∈ lwN ∧ (∀ j, j < zCn n → Cond.eq (.elem (Term.static RX0 (zCf n) "[I") (.int (Int32.ofNat j))) (.int (zCc n j)) ∈ lwN) ∧ Cond.laysStatic RX0 (zCf n) "[I" ∈ lw_tbl ∧ Cond.initialized RX0 ∈ lw_tbl := by decide +kernel
theorem st_s1 : Cond.eq (.static "java/lang/String" "COMPACT_STRINGS" "Z") (.int 1) ∈ lwN ∧ Cond.laysStatic "java/lang/String" "COMPACT_STRINGS" "Z" ∈ lw_tbl ∧ Cond.initialized "java/lang/String" ∈ lw_tbl := by decide +kernel
theorem st_s2 : Cond.isRef (.static "jdk/internal/util/Preconditions" "SIOOBE_FORMATTER" "Ljava/util/function/BiFunction;") ∈ lwN ∧ Cond.laysStatic "jdk/internal/util/Preconditions" "SIOOBE_FORMATTER" "Ljava/util/function/BiFunction;" ∈ lw_tbl ∧ Cond.initialized "jdk/internal/util/Preconditions" ∈ lw_tbl := by decide +kernel
theorem st_s3 : (Cond.isRef (.static Bundle.tN "UNASSIGNED_STACK" Bundle.steD) ∈ lwN ∧ Cond.laysStatic Bundle.tN "UNASSIGNED_STACK" Bundle.steD ∈ lw_tbl) ∧ (Cond.isRef (.static Bundle.tN "SUPPRESSED_SENTINEL" Bundle.listD) ∈ lwN ∧ Cond.laysStatic Bundle.tN "SUPPRESSED_SENTINEL" Bundle.listD ∈ lw_tbl) ∧ Cond.initialized Bundle.tN ∈ lw_tbl := by decide +kernel
theorem st_ao : Cond.arrayOver (.object RX7) ∈ lw_tbl ∧ Cond.arrayOver (.object RX4) ∈ lw_tbl ∧ Cond.arrayClass .int ∈ lw_tbl ∧ Cond.arrayClass .byte ∈ lw_tbl ∧ Cond.arrayClass .long ∈ lw_tbl := by decide +kernel
def elI : List Nat := [100, 135, 144, 154, 166, 179, 191, 207, 225, 265]
theorem elI_ok : ∀ i, i < 10 → ∀ j, j < zLen.getD i 0 → lwN[elI.getD i 0 + j]? = some (Cond.eq (.elem (.field (tmS i) "java/lang/String" "value" "[B") (.int (Int32.ofNat j))) (.int ((zByt.getD i []).getD j 0))) := by decide +kernel
theorem st_el : ∀ i, i < 10 → ∀ j, j < zLen.getD i 0 → Cond.eq (.elem (.field (tmS i) "java/lang/String" "value" "[B") (.int (Int32.ofNat j))) (.int ((zByt.getD i []).getD j 0)) ∈ lwN := fun i hi j hj => List.mem_of_getElem? (elI_ok i hi j hj)
def neI : List (List Nat) := [[0, 139, 148, 159, 171, 182, 197, 214, 253, 295], [139, 0, 149, 160, 172, 183, 198, 215, 254, 296], [148, 149, 0, 161, 173, 184, 199, 216, 255, 297], [159, 160, 161, 0, 174, 185, 200, 217, 256, 298], [171, 172, 173, 174, 0, 186, 201, 218, 257, 299], [182, 183, 184, 185, 186, 0, 202, 219, 258, 300], [197, 198, 199, 200, 201, 202, 0, 220, 259, 301], [214, 215, 216, 217, 218, 219, 220, 0, 260, 302], [253, 254, 255, 256, 257, 258, 259, 260, 0, 303], [295, 296, 297, 298, 299, 300, 301, 302, 303, 0]]
theorem neI_ok : ∀ j, j < 10 → ∀ i, i < j → lwN[(neI.getD i []).getD j 0]? = some (Cond.not (Cond.eq (tmS i) (tmS j))) := by decide +kernel
theorem st_ne : ∀ i j, i < 10 → j < 10 → i ≠ j → Cond.not (Cond.eq (tmS i) (tmS j)) ∈ lwN ∨ Cond.not (Cond.eq (tmS j) (tmS i)) ∈ lwN := fun i j hi hj h => by
  rcases Nat.lt_or_gt_of_ne h with z | z
  · exact Or.inl (List.mem_of_getElem? (neI_ok j hj i z))
  · exact Or.inr (List.mem_of_getElem? (neI_ok i hi j z))

