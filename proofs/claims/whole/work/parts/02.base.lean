/-! The own machine: values zV (int, long, reference with its kind), heaps zH (ints, longs, references, by address and slot), transformers zT. -/
abbrev zV : Type := Int32 ⊕ (Int64 ⊕ ((Nat × Nat) × Nat))
abbrev vI (x : Int32) : zV := .inl x
abbrev vL (x : Int64) : zV := .inr (.inl x)
abbrev vR (t n a : Nat) : zV := .inr (.inr ((t, n), a))
def zv : zV → Value
  | .inl x => .int x
  | .inr (.inl x) => .long x
  | .inr (.inr q) => .ref q.2
abbrev zH : Type := (Nat → Nat → Int32) × ((Nat → Nat → Int64) × (Nat → Nat → Nat))
abbrev zL : Type := List (Option zV)
abbrev zT : Type := zL → List zV → zH → Prop
/-- class ids and slots; array classes; kinds by address; where the old heap ends; the script -/
abbrev zY : Type := va_G × ((Nat → ClassId) × ((Nat → Nat × Nat) × (Nat × (Nat → Int32))))
abbrev yD (Y : zY) : va_G := Y.1
abbrev yC (Y : zY) : Nat → ClassId := Y.2.1
abbrev yK (Y : zY) : Nat → Nat × Nat := Y.2.2.1
abbrev yO (Y : zY) : Nat := Y.2.2.2.1
abbrev yX (Y : zY) : Nat → Int32 := Y.2.2.2.2
/-- the machine's context of a walk -/
abbrev zX := Program × Launch × Env × Room × State × MethodId × Array Value × List Frame × Method × Code × (State → Prop)
abbrev xR (X : zX) : Room := X.2.2.2.1
abbrev xS (X : zX) : State := X.2.2.2.2.1
abbrev xM (X : zX) : MethodId := X.2.2.2.2.2.1
abbrev xA (X : zX) : Array Value := X.2.2.2.2.2.2.1
abbrev xB (X : zX) : List Frame := X.2.2.2.2.2.2.2.1
abbrev xH (X : zX) : Method := X.2.2.2.2.2.2.2.2.1
abbrev xC (X : zX) : Code := X.2.2.2.2.2.2.2.2.2.1
abbrev xQ (X : zX) : State → Prop := X.2.2.2.2.2.2.2.2.2.2
def zW (X : zX) (H : Heap) (locs : List Loc) (u v : Nat) (g : JFrame) : Prop := W X.1 X.2.1 X.2.2.1 (xR X) (xS X) (xM X) (xA X) (xB X) (xH X) (xC X) H locs u v (xQ X) g
/-- fields: 0 an int; 1 a reference at a fixed distance, of a kind; 2 a reference that changes, of a kind -/
def zF (ci k : Nat) : Nat × (Nat × (Nat × Nat)) := match ci, k with
  | 0, 1 => (1, 1, 1, 28)
  | 1, 0 => (1, 1, 5, 17)
  | 2, 1 => (1, 1, 1, 28)
  | 2, 4 => (1, 2, 1, 10)
  | 3, 0 => (1, 1, 1, 10)
  | 5, 1 => (1, 1, 1, 10)
  | 5, 2 => (1, 2, 1, 10)
  | 5, 3 => (1, 3, 1, 10)
  | 5, 5 => (1, 4, 1, 28)
  | 5, 6 => (1, 5, 1, 28)
  | 5, 7 => (1, 6, 1, 5)
  | 6, 0 => (1, 1, 15, 0)
  | 6, 1 => (1, 8, 10, 0)
  | 6, 2 => (1, 10, 12, 0)
  | 7, 0 => (1, 1, 15, 0)
  | 7, 3 => (1, 8, 1, 400)
  | 8, 0 => (1, 1, 1, 10)
  | 8, 1 => (1, 2, 1, 1024)
  | 8, 2 => (1, 3, 3, 1024)
  | 9, 0 => (2, 0, 16, 0)
  | 9, 1 => (1, 14, 4, 12)
  | 9, 4 => (1, 171, 17, 0)
  | 9, 8 => (1, 180, 14, 0)
  | 9, 9 => (1, 181, 13, 0)
  | 9, 10 => (1, 183, 13, 0)
  | 9, 11 => (1, 185, 12, 0)
  | 9, 12 => (1, 188, 18, 0)
  | 9, 13 => (1, 192, 11, 0)
  | 9, 14 => (1, 228, 1, 28)
  | 10, 1 => (1, 1, 1, 3)
  | 10, 2 => (1, 2, 1, 218)
  | 10, 3 => (1, 3, 1, 218)
  | 10, 4 => (1, 4, 1, 2616)
  | 10, 5 => (1, 5, 1, 28)
  | 10, 6 => (1, 6, 1, 28)
  | 10, 7 => (1, 7, 1, 28)
  | 10, 8 => (1, 8, 1, 28)
  | 10, 12 => (1, 9, 1, 28)
  | 10, 13 => (1, 10, 1, 7)
  | 10, 14 => (1, 11, 1, 7)
  | 10, 15 => (1, 12, 2, 400)
  | 10, 16 => (1, 13, 2, 400)
  | 10, 31 => (1, 14, 1, 10)
  | 10, 32 => (1, 15, 1, 10)
  | 10, 33 => (1, 16, 3, 1024)
  | 10, 34 => (1, 17, 1, 218)
  | _, _ => (0, 0, 0, 0)
def zfv (ci k a : Nat) (h : zH) : Value := match (zF ci k).1 with
  | 0 => .int (h.1 a k)
  | 1 => .ref (a + (zF ci k).2.1)
  | _ => .ref (h.2.2 a k)
/-- tags: 1 int, 2 byte, 3 long arrays, 4 of State, 5 of Order; 7 a String constant, 8 a constant array, 9 the script; 10 + class an object -/
def zRa (Y : zY) (h : zH) (H : Heap) (a : Nat) : Prop :=
  (∀ n : Nat, yK Y a = (1, n) → H[a]? = some (vp_cell (yC Y 1) (n, .inl (h.1 a)))) ∧
  (∀ n : Nat, yK Y a = (2, n) → H[a]? = some (vp_cell (yC Y 2) (n, .inl (h.1 a)))) ∧
  (∀ n : Nat, yK Y a = (3, n) → H[a]? = some (vp_cell (yC Y 3) (n, .inr (.inl (h.2.1 a))))) ∧
  (∀ n : Nat, yK Y a = (4, n) → H[a]? = some (vp_cell (yC Y 4) (n, .inr (.inr (.inr (.inr (fun j => some (h.2.2 a j))))))) ∧ ∀ j : Nat, j < n → yK Y (h.2.2 a j) = (16, 0)) ∧
  (∀ n : Nat, yK Y a = (5, n) → H[a]? = some (vp_cell (yC Y 5) (n, .inr (.inr (.inr (.inr (fun j => some (h.2.2 a j))))))) ∧ ∀ j : Nat, j < n → yK Y (h.2.2 a j) = (13, 0)) ∧
  (∀ ci n : Nat, yK Y a = (10 + ci, n) → ∃ r : vw_C, vwCl[ci]? = some r ∧ t_OB a ((yD Y).1 ci) r.2.2 ((yD Y).2 ci) H (fun k => zfv ci k a h) ∧ ∀ k : Nat, (zF ci k).1 = 2 → yK Y (h.2.2 a k) = (zF ci k).2.2)
def zR (Y : zY) (h : zH) (H : Heap) : Prop := ∀ a : Nat, zRa Y h H a
theorem zRa_congr {Y : zY} {h h' : zH} {H H1 : Heap} {a : Nat} (hR : zRa Y h H a) (ho : H1[a]? = H[a]?) (h1 : h'.1 a = h.1 a) (h2 : h'.2.1 a = h.2.1 a) (h3 : h'.2.2 a = h.2.2 a) : zRa Y h' H1 a := by
  obtain ⟨r1, r2, r3, r4, r5, r6⟩ := hR
  refine ⟨fun n hn => ?_, fun n hn => ?_, fun n hn => ?_, fun n hn => ?_, fun n hn => ?_, fun ci n hn => ?_⟩
  · rw [ho, h1]; exact r1 n hn
  · rw [ho, h1]; exact r2 n hn
  · rw [ho, h2]; exact r3 n hn
  · rw [ho, h3]; exact r4 n hn
  · rw [ho, h3]; exact r5 n hn
  · obtain ⟨r, q1, q2, q3⟩ := r6 ci n hn
    refine ⟨r, q1, (q2.kept ho).to (fun k _ => ?_), fun k hk => by rw [h3]; exact q3 k hk⟩
    simp only [zfv, h1, h3]
theorem zR_upd {Y : zY} {h h' : zH} {H H1 : Heap} (a : Nat) (hR : zR Y h H) (ho : ∀ q : Nat, q ≠ a → H1[q]? = H[q]?) (h1 : ∀ q : Nat, q ≠ a → h'.1 q = h.1 q) (h2 : ∀ q : Nat, q ≠ a → h'.2.1 q = h.2.1 q) (h3 : ∀ q : Nat, q ≠ a → h'.2.2 q = h.2.2 q) (ha : zRa Y h' H1 a) : zR Y h' H1 := by
  intro q
  by_cases hq : q = a
  · rw [hq]; exact ha
  · exact zRa_congr (hR q) (ho q hq) (h1 q hq) (h2 q hq) (h3 q hq)
def zwr (t : Nat) : Prop := t ≠ 0 ∧ t ≠ 6 ∧ t ≠ 7 ∧ t ≠ 8 ∧ t ≠ 9
def zWF (Y : zY) : Prop := (∀ a ci n k : Nat, yK Y a = (10 + ci, n) → (zF ci k).1 = 1 → yK Y (a + (zF ci k).2.1) = (zF ci k).2.2) ∧ (∀ a : Nat, zwr (yK Y a).1 → yO Y ≤ a) ∧ ∀ a : Nat, (yK Y a).2 < 2 ^ 31
def zA (Y : zY) (sz : Nat) : Nat → Prop := fun q => zwr (yK Y q).1 ∨ sz ≤ q
def zK (Y : zY) (U : State) : Prop := va_K (yD Y) vwCl [(yC Y 1, .int), (yC Y 2, .byte), (yC Y 3, .long), (yC Y 4, .object RX7), (yC Y 5, .object RX4)] U
def zok (Y : zY) : zV → Prop
  | .inr (.inr q) => yK Y q.2 = q.1
  | _ => True

def zNest : List (String × Nat × MethodName × String) := [("SlipSecret", 9, ⟨"SlipSecret$State", "<init>", "()V"⟩, "SlipSecret"), ("SlipSecret$State", 18, ⟨"SlipSecret$Enrolment", "<init>", "()V"⟩, "SlipSecret"), ("SlipSecret$State", 25, ⟨"SlipSecret$Listener", "<init>", "()V"⟩, "SlipSecret"), ("SlipSecret", 22, ⟨"SlipSecret$TextReader", "<init>", "()V"⟩, "SlipSecret"), ("SlipSecret", 29, ⟨"SlipSecret$Reading", "<init>", "()V"⟩, "SlipSecret"), ("SlipSecret", 36, ⟨"SlipSecret$Order", "<init>", "()V"⟩, "SlipSecret"), ("SlipSecret", 46, ⟨"SlipSecret$Listener", "<init>", "()V"⟩, "SlipSecret"), ("SlipSecret", 53, ⟨"SlipSecret$WaysCounter", "<init>", "()V"⟩, "SlipSecret"), ("SlipSecret$LeftCounter", 17, ⟨"SlipSecret$Order", "<init>", "()V"⟩, "SlipSecret"), ("SlipSecret$Listener", 34, ⟨"SlipSecret", "bitIn", "(II)I"⟩, "SlipSecret"), ("SlipSecret$Order", 21, ⟨"SlipSecret", "bitIn", "(II)I"⟩, "SlipSecret"), ("SlipSecret$Code", 30, ⟨"SlipSecret", "bitIn", "(II)I"⟩, "SlipSecret"), ("SlipSecret$Enrolment", 67, ⟨"SlipSecret", "bitIn", "(II)I"⟩, "SlipSecret"), ("SlipSecret$Slip", 86, ⟨"SlipSecret", "bitIn", "(II)I"⟩, "SlipSecret"), ("SlipSecret$WaysCounter", 39, ⟨"SlipSecret", "bitIn", "(II)I"⟩, "SlipSecret"), ("SlipSecret$LeftCounter", 78, ⟨"SlipSecret", "bitIn", "(II)I"⟩, "SlipSecret")]
def zExc : List String := ["java/lang/IllegalArgumentException", "java/util/NoSuchElementException", "java/lang/IllegalStateException"]
def zNoc : List (String × String) := [("java/lang/IllegalArgumentException", "java/util/NoSuchElementException"), ("java/lang/IllegalArgumentException", "java/lang/IllegalStateException"), ("java/lang/IllegalStateException", "java/util/NoSuchElementException"), ("java/lang/IllegalStateException", "java/lang/IllegalArgumentException"), ("java/util/NoSuchElementException", "java/lang/IllegalArgumentException"), ("java/util/NoSuchElementException", "java/lang/IllegalStateException")]
def zStr : List (String × Nat × String × Nat) := [("SlipSecret", 362, "an argument is out of its range", 0), ("SlipSecret$TextReader", 56, "ring", 1), ("SlipSecret$TextReader", 66, "pai\x72", 2), ("SlipSecret$TextReader", 71, "guard", 3), ("SlipSecret$TextReader", 79, "heats", 4), ("SlipSecret$TextReader", 84, "all", 5), ("SlipSecret$TextReader", 86, "repeat", 6), ("SlipSecret$TextReader", 91, "hamming", 7), ("SlipSecret", 374, "there is none of this numbe\x72", 8), ("SlipSecret", 369, "nothing is there to do it with", 9), ("SlipSecretModel", 187, "ring", 1), ("SlipSecretModel", 196, "pai\x72", 2), ("SlipSecretModel", 201, "guard", 3), ("SlipSecretModel", 203, "heats", 4), ("SlipSecretModel", 208, "all", 5), ("SlipSecretModel", 210, "repeat", 6), ("SlipSecretModel", 215, "hamming", 7)]
def zLen : List Nat := [31, 4, 4, 5, 5, 3, 6, 7, 28, 30]
def zByt : List (List Int32) := [[97, 110, 32, 97, 114, 103, 117, 109, 101, 110, 116, 32, 105, 115, 32, 111, 117, 116, 32, 111, 102, 32, 105, 116, 115, 32, 114, 97, 110, 103, 101], [114, 105, 110, 103], [112, 97, 105, 114], [103, 117, 97, 114, 100], [104, 101, 97, 116, 115], [97, 108, 108], [114, 101, 112, 101, 97, 116], [104, 97, 109, 109, 105, 110, 103], [116, 104, 101, 114, 101, 32, 105, 115, 32, 110, 111, 110, 101, 32, 111, 102, 32, 116, 104, 105, 115, 32, 110, 117, 109, 98, 101, 114], [110, 111, 116, 104, 105, 110, 103, 32, 105, 115, 32, 116, 104, 101, 114, 101, 32, 116, 111, 32, 100, 111, 32, 105, 116, 32, 119, 105, 116, 104]]
def zNT : Nat := 10
def zCc (n j : Nat) : Int32 := if n = 0 then ([11, 13, 1, 14, 2, 4, 8] : List Int32).getD j 0 else ([85, 102, 120] : List Int32).getD j 0
def zCn (n : Nat) : Nat := if n = 0 then 7 else 3
def zCf (n : Nat) : String := if n = 0 then "HAMMING_PARTS" else "HAMMING_SUMS"
/-- what the start gives of constants: links in the nest, exceptions' casts, String constants, constant arrays, the throwables' statics, the script -/
def zS (Y : zY) (U : State) (H : Heap) : Prop :=
  (∀ q ∈ zNest, va_Nw (.methodLinkNest q.1 q.2.1 q.2.2.1 q.2.2.2) U) ∧
  (∀ c ∈ zExc, va_Nw (.castable c c) U) ∧
  (∀ q ∈ zNoc, va_Nc q.1 q.2 U) ∧
  (∃ adK adV : Nat → Nat, vk_S zNT zLen zByt adK adV (fun q => yO Y ≤ q) U H ∧ (∀ q ∈ zStr, vk_R q.1 q.2.1 q.2.2.1 (adK q.2.2.2) U ∧ yK Y (adK q.2.2.2) = (7, q.2.2.2)) ∧ (∀ a n : Nat, yK Y a = (7, n) → n < zNT ∧ a = adK n) ∧ (∀ i : Nat, i < zNT → yK Y (adV i) = (6, i)) ∧ ∀ a n : Nat, yK Y a = (6, n) → n < zNT ∧ a = adV n) ∧
  ((∀ n : Nat, n < 2 → ∃ t : Nat, yK Y t = (8, n) ∧ va_Z RX0 (zCf n) "[I" (.ref t) (fun q => yO Y ≤ q) U H) ∧ ∀ t n : Nat, yK Y t = (8, n) → va_T .int t (zCn n) (fun j => .int (zCc n j)) (fun q => yO Y ≤ q) U H) ∧
  (va_Z "java/lang/String" "COMPACT_STRINGS" "Z" (.int 1) (fun q => yO Y ≤ q) U H ∧ va_Zq "jdk/internal/util/Preconditions" "SIOOBE_FORMATTER" "Ljava/util/function/BiFunction;" (fun q => yO Y ≤ q) U H) ∧
  (vx_Zq Bundle.tN "UNASSIGNED_STACK" Bundle.steD (fun q => yO Y ≤ q) U H ∧ vx_Zq Bundle.tN "SUPPRESSED_SENTINEL" Bundle.listD (fun q => yO Y ≤ q) U H) ∧
  (∀ a n : Nat, yK Y a = (9, n) → va_X a n (yX Y) U H ∧ a < yO Y)
theorem zS_moved {Y : zY} {s U : State} {H H1 : Heap} (hW : s.WarmedH U.vm) (hz : yO Y ≤ H.size) (hq : ∀ a : Nat, a < yO Y → H1[a]? = H[a]?) (h : zS Y s H) : zS Y U H1 := by
  obtain ⟨h1, h2, h3, ⟨adK, adV, h4, h5, h6⟩, ⟨h7, h8⟩, h9, ⟨h10, h11⟩, h12⟩ := h
  have hvm : s.vm.Alike U.vm := hW.alike
  have hk : ∀ a : Nat, a < H.size → ¬ (fun q => yO Y ≤ q) a → H1[a]? = H[a]? := fun a _ h => hq a (Nat.not_le.mp h)
  refine ⟨fun q hq => va_Nw.warmM hW (h1 q hq), fun c hc => va_Nw.warmC hW (h2 c hc), fun q hq => (h3 q hq).moved hvm, ⟨adK, adV, (h4.moved hvm).kept hk, fun q hq => ⟨(h5 q hq).1.warm hW, (h5 q hq).2⟩, h6⟩,
    ⟨fun n hn => ?_, fun t n ht => ((h8 t n ht).moved hvm).kept hk⟩, ⟨(h9.1.moved hvm).kept hk, (h9.2.moved hvm).kept hk⟩, ⟨(h10.moved hvm).kept hk, (h11.moved hvm).kept hk⟩, fun a n ha => ⟨((h12 a n ha).1.moved hvm).kept (hq a (h12 a n ha).2), (h12 a n ha).2⟩⟩
  obtain ⟨t, ht, hZ⟩ := h7 n hn
  exact ⟨t, ht, (hZ.moved hvm).kept hk⟩
/-- all good words of the tables -/
def zTW : List Cond := lw_tbl.filter goodWord
/-- what holds through a walk -/
def zOK (X : zX) (Y : zY) (cc : ByteArray) (own : String) : Prop :=
  X.1.tables.exec = Jvm.exec ∧ (xC X).code = cc ∧ (xS X).vm.findClass own = some (xM X).cls ∧ (∀ w ∈ zTW, w.before (xA X) (xS X) = true) ∧ zK Y (xS X) ∧ zS Y (xS X) (xS X).heap ∧ zWF Y ∧ yO Y ≤ (xS X).heap.size
/-! locals -/
def zlv : Nat → zL → List (Nat × Value)
  | _, [] => []
  | i, none :: l => zlv (i + 1) l
  | i, some v :: l => (i, zv v) :: zlv (i + 1) l
def zlg : zL → Nat → Option zV
  | [], _ => none
  | v :: _, 0 => v
  | _ :: l, n + 1 => zlg l n
def zls : zL → Nat → Option zV → (zL → Prop) → Prop
  | [], _, _, _ => False
  | _ :: l, 0, v, k => k (v :: l)
  | some (.inr (.inl _)) :: l, 1, v, k => zls l 0 v (fun l' => k (none :: l'))
  | a :: l, n + 1, v, k => zls l n v (fun l' => k (a :: l'))
theorem zlv_mem : ∀ (l : zL) (i : Nat) (q : Nat × Value), q ∈ zlv i l ↔ ∃ (j : Nat) (v : zV), l[j]? = some (some v) ∧ q = (i + j, zv v)
  | [], i, q => by simp [zlv]
  | none :: l, i, q => by
    rw [zlv, zlv_mem l (i + 1) q]
    constructor
    · rintro ⟨j, v, h1, h2⟩
      exact ⟨j + 1, v, by simpa using h1, by rw [h2]; congr 1; omega⟩
    · rintro ⟨j, v, h1, h2⟩
      cases j with
      | zero => simp at h1
      | succ j => exact ⟨j, v, by simpa using h1, by rw [h2]; congr 1; omega⟩
  | some w :: l, i, q => by
    rw [zlv, List.mem_cons, zlv_mem l (i + 1) q]
    constructor
    · rintro (h | ⟨j, v, h1, h2⟩)
      · exact ⟨0, w, by simp, by simpa using h⟩
      · exact ⟨j + 1, v, by simpa using h1, by rw [h2]; congr 1; omega⟩
    · rintro ⟨j, v, h1, h2⟩
      cases j with
      | zero =>
        simp at h1
        subst h1
        exact Or.inl (by simpa using h2)
      | succ j => exact Or.inr ⟨j, v, by simpa using h1, by rw [h2]; congr 1; omega⟩
theorem zlg_at : ∀ (l : zL) (n : Nat) (v : zV), zlg l n = some v → l[n]? = some (some v)
  | [], n, v, h => by simp [zlg] at h
  | a :: l, 0, v, h => by simp only [zlg] at h; simp [h]
  | a :: l, n + 1, v, h => by simp only [zlg] at h; simpa using zlg_at l n v h
theorem zls_spec : ∀ (l : zL) (n : Nat) (v : Option zV) (k : zL → Prop), zls l n v k → ∃ l' : zL, k l' ∧ l'.length = l.length ∧ n < l.length ∧ l'[n]? = some v ∧ ∀ (j : Nat) (w : zV), j ≠ n → l'[j]? = some (some w) → l[j]? = some (some w) ∧ ¬ (j + 1 = n ∧ (zv w).category = 2)
  | [], n, v, k, h => by simp [zls] at h
  | a :: l, 0, v, k, h => by
    refine ⟨v :: l, by simpa [zls] using h, rfl, by simp, by simp, fun j w hj hw => ?_⟩
    cases j with
    | zero => exact absurd rfl hj
    | succ j => exact ⟨by simpa using hw, by omega⟩
  | a :: l, n + 1, v, k, h => by
    have key : ∀ b : Option zV, (b = none ∨ (b = a ∧ ∀ w : zV, a = some w → n = 0 → (zv w).category ≠ 2)) → zls l n v (fun l' => k (b :: l')) → ∃ l' : zL, k l' ∧ l'.length = (a :: l).length ∧ n + 1 < (a :: l).length ∧ l'[n + 1]? = some v ∧ ∀ (j : Nat) (w : zV), j ≠ n + 1 → l'[j]? = some (some w) → (a :: l)[j]? = some (some w) ∧ ¬ (j + 1 = n + 1 ∧ (zv w).category = 2) := by
      intro b hb hz
      obtain ⟨l', h1, h2, h3, h4, h5⟩ := zls_spec l n v _ hz
      refine ⟨b :: l', h1, by simp [h2], by simp; exact h3, by simpa using h4, fun j w hj hw => ?_⟩
      cases j with
      | zero =>
        simp at hw
        rcases hb with hb | ⟨hb, hb2⟩
        · rw [hb] at hw; cases hw
        · rw [hb] at hw
          exact ⟨by simp [hw], fun q => hb2 w hw (by omega) q.2⟩
      | succ j =>
        obtain ⟨g1, g2⟩ := h5 j w (by omega) (by simpa using hw)
        exact ⟨by simpa using g1, fun q => g2 ⟨by omega, q.2⟩⟩
    cases a with
    | none => exact key none (Or.inl rfl) (by simpa [zls] using h)
    | some w =>
      cases w with
      | inl x => exact key (some (.inl x)) (Or.inr ⟨rfl, fun w hw _ => by cases hw; simp [zv, Value.category]⟩) (by cases n <;> simpa [zls] using h)
      | inr w =>
        cases w with
        | inl x =>
          cases n with
          | zero => exact key none (Or.inl rfl) (by simpa [zls] using h)
          | succ n => exact key (some (.inr (.inl x))) (Or.inr ⟨rfl, fun w hw q => by omega⟩) (by simpa [zls] using h)
        | inr x => exact key (some (.inr (.inr x))) (Or.inr ⟨rfl, fun w hw _ => by cases hw; simp [zv, Value.category]⟩) (by cases n <;> simpa [zls] using h)
/-- the locals of a frame are as listed, and their references are of their kinds -/
def zLk (Y : zY) (nL : Nat) (ls : zL) (lsA : Array Slot) : Prop := lv_has lsA nL (zlv 0 ls) ∧ ls.length = nL ∧ ∀ (j : Nat) (v : zV), ls[j]? = some (some v) → zok Y v
theorem zLk_get {Y : zY} {nL : Nat} {ls : zL} {lsA : Array Slot} {n : Nat} {v : zV} (h : zLk Y nL ls lsA) (hv : zlg ls n = some v) : lsA[n]? = some (.val (zv v)) ∧ zok Y v := by
  have h1 := zlg_at ls n v hv
  refine ⟨?_, h.2.2 n v h1⟩
  have h2 := h.1.2.2 (n, zv v) ((zlv_mem ls 0 _).mpr ⟨n, v, h1, by simp⟩)
  exact h2
/-- the walk is sound at a place: whoever has T there comes to the end -/
def zSd (X : zX) (Y : zY) (u v pc : Nat) (T : zT) : Prop := ∀ (ls : zL) (st : List zV) (h : zH), T ls st h → ∀ (H : Heap) (locs : List Loc) (lsA : Array Slot), zR Y h H → zLk Y (xC X).maxLocals ls lsA → (∀ q ∈ st, zok Y q) → va_S (zA Y (xS X).heap.size) (xS X).heap H locs → zW X H locs u v (F0 (xM X) pc lsA (st.map zv))
theorem zSd_weak {X : zX} {Y : zY} {u v pc : Nat} {T T' : zT} (h : zSd X Y u v pc T) (hw : ∀ ls st h, T' ls st h → T ls st h) : zSd X Y u v pc T' := fun ls st h0 t => h ls st h0 (hw ls st h0 t)
theorem zSd_more {X : zX} {Y : zY} {u v u' v' pc : Nat} {T : zT} (h : zSd X Y u' v' pc T) (hu : u ≤ u') (hv : v ≤ v') : zSd X Y u v pc T := fun ls st h0 t H locs lsA a b c d => W.widen hu hv (h ls st h0 t H locs lsA a b c d)
theorem zSd_at {X : zX} {Y : zY} {u v pc pc' : Nat} {T : zT} (h : zSd X Y u v pc T) (he : pc = pc') : zSd X Y u v pc' T := he ▸ h
/-- a loop: an invariant with a measure -/
theorem zSd_loop {X : zX} {Y : zY} {u v pc : Nat} {I : Nat → zT} (hb : ∀ n : Nat, zSd X Y u v pc (fun ls st h => ∃ k, k < n ∧ I k ls st h) → zSd X Y u v pc (I n)) : ∀ n : Nat, zSd X Y u v pc (I n) := by
  intro n
  induction n using Nat.strongRecOn with
  | _ n ih => exact hb n (fun ls st h ⟨k, hk, t⟩ => ih k hk ls st h t)
theorem zq1 {Y : zY} {a : zV} {l : List zV} (h : ∀ q ∈ a :: l, zok Y q) : zok Y a ∧ ∀ q ∈ l, zok Y q := ⟨h a List.mem_cons_self, fun q hq => h q (List.mem_cons_of_mem _ hq)⟩
theorem zq2 {Y : zY} {a b : zV} {l : List zV} (h : ∀ q ∈ a :: b :: l, zok Y q) : ∀ q ∈ l, zok Y q := (zq1 (zq1 h).2).2
theorem zqc {Y : zY} {a : zV} {l : List zV} (h1 : zok Y a) (h2 : ∀ q ∈ l, zok Y q) : ∀ q ∈ a :: l, zok Y q := fun q hq => (List.mem_cons.mp hq).elim (fun e => e ▸ h1) (h2 q)
section ZB
variable {X : zX} {Y : zY} {u v pc : Nat} {cc : ByteArray} {own : String} {k k2 : zT}

def zi_ild (n : Nat) (k : zT) : zT := fun ls st h => match zlg ls n with
  | some (.inl x) => k ls (.inl x :: st) h
  | _ => False
theorem zr_iload {n : Nat} (O : zOK X Y cc own) (d : decode cc pc = .ok (.iload n, 2)) (hk : zSd X Y u v (pc + 2) k) : zSd X Y u v pc (zi_ild n k) := by
  intro ls st h t H locs lsA hR hL hv hS
  unfold zi_ild at t
  split at t
  · rename_i x hx
    obtain ⟨h1, h2⟩ := zLk_get hL hx
    exact lv_iload O.1 O.2.1 d h1 (hk _ _ _ t H locs lsA hR hL (zqc h2 hv) hS)
  · exact t.elim
theorem zr_iload_n {n : Nat} {j : Fin 4} (O : zOK X Y cc own) (d : decode cc pc = .ok (.iload_n j, 1)) (hj : (j : Nat) = n) (hk : zSd X Y u v (pc + 1) k) : zSd X Y u v pc (zi_ild n k) := by
  intro ls st h t H locs lsA hR hL hv hS
  unfold zi_ild at t
  split at t
  · rename_i x hx
    obtain ⟨h1, h2⟩ := zLk_get hL hx
    exact lv_iload_n O.1 O.2.1 d hj h1 (hk _ _ _ t H locs lsA hR hL (zqc h2 hv) hS)
  · exact t.elim
def zi_lld (n : Nat) (k : zT) : zT := fun ls st h => match zlg ls n with
  | some (.inr (.inl x)) => k ls (.inr (.inl x) :: st) h
  | _ => False
theorem zr_lload {n : Nat} (O : zOK X Y cc own) (d : decode cc pc = .ok (.lload n, 2)) (hk : zSd X Y u v (pc + 2) k) : zSd X Y u v pc (zi_lld n k) := by
  intro ls st h t H locs lsA hR hL hv hS
  unfold zi_lld at t
  split at t
  · rename_i x hx
    obtain ⟨h1, h2⟩ := zLk_get hL hx
    exact lv_lload O.1 O.2.1 d h1 (hk _ _ _ t H locs lsA hR hL (zqc h2 hv) hS)
  · exact t.elim
theorem zr_lload_n {n : Nat} {j : Fin 4} (O : zOK X Y cc own) (d : decode cc pc = .ok (.lload_n j, 1)) (hj : (j : Nat) = n) (hk : zSd X Y u v (pc + 1) k) : zSd X Y u v pc (zi_lld n k) := by
  intro ls st h t H locs lsA hR hL hv hS
  unfold zi_lld at t
  split at t
  · rename_i x hx
    obtain ⟨h1, h2⟩ := zLk_get hL hx
    exact lv_lload_n O.1 O.2.1 d hj h1 (hk _ _ _ t H locs lsA hR hL (zqc h2 hv) hS)
  · exact t.elim
def zi_ald (n : Nat) (k : zT) : zT := fun ls st h => match zlg ls n with
  | some (.inr (.inr x)) => k ls (.inr (.inr x) :: st) h
  | _ => False
theorem zr_aload {n : Nat} (O : zOK X Y cc own) (d : decode cc pc = .ok (.aload n, 2)) (hk : zSd X Y u v (pc + 2) k) : zSd X Y u v pc (zi_ald n k) := by
  intro ls st h t H locs lsA hR hL hv hS
  unfold zi_ald at t
  split at t
  · rename_i x hx
    obtain ⟨h1, h2⟩ := zLk_get hL hx
    exact lv_aload O.1 O.2.1 d h1 (hk _ _ _ t H locs lsA hR hL (zqc h2 hv) hS)
  · exact t.elim
theorem zr_aload_n {n : Nat} {j : Fin 4} (O : zOK X Y cc own) (d : decode cc pc = .ok (.aload_n j, 1)) (hj : (j : Nat) = n) (hk : zSd X Y u v (pc + 1) k) : zSd X Y u v pc (zi_ald n k) := by
  intro ls st h t H locs lsA hR hL hv hS
  unfold zi_ald at t
  split at t
  · rename_i x hx
    obtain ⟨h1, h2⟩ := zLk_get hL hx
    exact lv_aload_n O.1 O.2.1 d hj h1 (hk _ _ _ t H locs lsA hR hL (zqc h2 hv) hS)
  · exact t.elim
theorem zLk_set1 {nL : Nat} {ls ls' : zL} {lsA lsA' : Array Slot} {n : Nat} {w : zV} (h : zLk Y nL ls lsA) (hw : zok Y w) (h2 : ls'.length = ls.length) (h4 : ls'[n]? = some (some w)) (h5 : ∀ (j : Nat) (w : zV), j ≠ n → ls'[j]? = some (some w) → ls[j]? = some (some w) ∧ ¬ (j + 1 = n ∧ (zv w).category = 2))
    (hA : lv_has lsA' nL ((n, zv w) :: (zlv 0 ls).filter (fun q => !(q.1 == n) && !(q.1 + 1 == n && q.2.category == 2)))) : zLk Y nL ls' lsA' := by
  refine ⟨⟨hA.1, hA.2.1, fun q hq => ?_⟩, h2.trans h.2.1, fun j w' hj => ?_⟩
  · obtain ⟨j, w', h6, rfl⟩ := (zlv_mem ls' 0 q).mp hq
    by_cases hjn : j = n
    · subst hjn
      rw [h4] at h6
      cases h6
      exact hA.2.2 _ (by simp)
    · obtain ⟨h7, h8⟩ := h5 j w' hjn h6
      refine hA.2.2 _ (List.mem_cons_of_mem _ (List.mem_filter.mpr ⟨(zlv_mem ls 0 _).mpr ⟨j, w', h7, rfl⟩, ?_⟩))
      simp only [Bool.and_eq_true, Bool.not_eq_true', beq_eq_false_iff_ne, ne_eq, Bool.and_eq_false_iff]
      refine ⟨by omega, ?_⟩
      by_cases hz : j + 1 = n
      · exact Or.inr (fun q => h8 ⟨hz, q⟩)
      · exact Or.inl (by omega)
  · by_cases hjn : j = n
    · subst hjn
      rw [h4] at hj
      cases hj
      exact hw
    · exact h.2.2 j w' (h5 j w' hjn hj).1
theorem zLk_set2 {nL : Nat} {ls l1 ls' : zL} {lsA lsA' : Array Slot} {n : Nat} {w : zV} (h : zLk Y nL ls lsA) (hw : zok Y w) (a2 : l1.length = ls.length) (a4 : l1[n + 1]? = some none) (a5 : ∀ (j : Nat) (w : zV), j ≠ n + 1 → l1[j]? = some (some w) → ls[j]? = some (some w) ∧ ¬ (j + 1 = n + 1 ∧ (zv w).category = 2))
    (h2 : ls'.length = l1.length) (h4 : ls'[n]? = some (some w)) (h5 : ∀ (j : Nat) (w : zV), j ≠ n → ls'[j]? = some (some w) → l1[j]? = some (some w) ∧ ¬ (j + 1 = n ∧ (zv w).category = 2))
    (hA : lv_has lsA' nL ((n, zv w) :: (zlv 0 ls).filter (fun q => !(q.1 == n) && (!(q.1 == n + 1) && !(q.1 + 1 == n && q.2.category == 2))))) : zLk Y nL ls' lsA' := by
  refine ⟨⟨hA.1, hA.2.1, fun q hq => ?_⟩, h2.trans (a2.trans h.2.1), fun j w' hj => ?_⟩
  · obtain ⟨j, w', h6, rfl⟩ := (zlv_mem ls' 0 q).mp hq
    by_cases hjn : j = n
    · subst hjn
      rw [h4] at h6
      cases h6
      exact hA.2.2 _ (by simp)
    · obtain ⟨h7, h8⟩ := h5 j w' hjn h6
      have hj1 : j ≠ n + 1 := fun q => by rw [q, a4] at h7; cases h7
      obtain ⟨h9, -⟩ := a5 j w' hj1 h7
      refine hA.2.2 _ (List.mem_cons_of_mem _ (List.mem_filter.mpr ⟨(zlv_mem ls 0 _).mpr ⟨j, w', h9, rfl⟩, ?_⟩))
      simp only [Bool.and_eq_true, Bool.not_eq_true', beq_eq_false_iff_ne, ne_eq, Bool.and_eq_false_iff]
      refine ⟨by omega, by omega, ?_⟩
      by_cases hz : j + 1 = n
      · exact Or.inr (fun q => h8 ⟨hz, q⟩)
      · exact Or.inl (by omega)
  · by_cases hjn : j = n
    · subst hjn
      rw [h4] at hj
      cases hj
      exact hw
    · have h7 := (h5 j w' hjn hj).1
      have hj1 : j ≠ n + 1 := fun q => by rw [q, a4] at h7; cases h7
      exact h.2.2 j w' (a5 j w' hj1 h7).1
def zi_ist (n : Nat) (k : zT) : zT := fun ls st h => match st with
  | .inl x :: st' => zls ls n (some (.inl x)) (fun ls' => k ls' st' h)
  | _ => False
def zi_ast (n : Nat) (k : zT) : zT := fun ls st h => match st with
  | .inr (.inr x) :: st' => zls ls n (some (.inr (.inr x))) (fun ls' => k ls' st' h)
  | _ => False
def zi_lst (n : Nat) (k : zT) : zT := fun ls st h => match st with
  | .inr (.inl x) :: st' => zls ls (n + 1) none (fun l1 => zls l1 n (some (.inr (.inl x))) (fun ls' => k ls' st' h))
  | _ => False
theorem zr_istore {n : Nat} (O : zOK X Y cc own) (d : decode cc pc = .ok (.istore n, 2)) (hk : zSd X Y u v (pc + 2) k) : zSd X Y u v pc (zi_ist n k) := by
  intro ls st h t H locs lsA hR hL hv hS
  rcases st with _ | ⟨x | _, st⟩ <;> first | exact False.elim t | skip
  obtain ⟨ls', t', h2, h3, h4, h5⟩ := zls_spec _ _ _ _ t
  exact lv_istore O.1 O.2.1 d hL.1 (hL.2.1 ▸ h3) rfl (fun lsA' hA => hk _ _ _ t' H locs lsA' hR (zLk_set1 hL (zq1 hv).1 h2 h4 h5 hA) (zq1 hv).2 hS)
theorem zr_istore_n {n : Nat} {j : Fin 4} (O : zOK X Y cc own) (d : decode cc pc = .ok (.istore_n j, 1)) (hj : (j : Nat) = n) (hk : zSd X Y u v (pc + 1) k) : zSd X Y u v pc (zi_ist n k) := by
  intro ls st h t H locs lsA hR hL hv hS
  rcases st with _ | ⟨x | _, st⟩ <;> first | exact False.elim t | skip
  obtain ⟨ls', t', h2, h3, h4, h5⟩ := zls_spec _ _ _ _ t
  exact lv_istore_n O.1 O.2.1 d hj hL.1 (hL.2.1 ▸ h3) rfl (fun lsA' hA => hk _ _ _ t' H locs lsA' hR (zLk_set1 hL (zq1 hv).1 h2 h4 h5 hA) (zq1 hv).2 hS)
theorem zr_astore {n : Nat} (O : zOK X Y cc own) (d : decode cc pc = .ok (.astore n, 2)) (hk : zSd X Y u v (pc + 2) k) : zSd X Y u v pc (zi_ast n k) := by
  intro ls st h t H locs lsA hR hL hv hS
  rcases st with _ | ⟨_ | _ | x, st⟩ <;> first | exact False.elim t | skip
  obtain ⟨ls', t', h2, h3, h4, h5⟩ := zls_spec _ _ _ _ t
  exact lv_astore O.1 O.2.1 d hL.1 (hL.2.1 ▸ h3) rfl (fun lsA' hA => hk _ _ _ t' H locs lsA' hR (zLk_set1 hL (zq1 hv).1 h2 h4 h5 hA) (zq1 hv).2 hS)
theorem zr_astore_n {n : Nat} {j : Fin 4} (O : zOK X Y cc own) (d : decode cc pc = .ok (.astore_n j, 1)) (hj : (j : Nat) = n) (hk : zSd X Y u v (pc + 1) k) : zSd X Y u v pc (zi_ast n k) := by
  intro ls st h t H locs lsA hR hL hv hS
  rcases st with _ | ⟨_ | _ | x, st⟩ <;> first | exact False.elim t | skip
  obtain ⟨ls', t', h2, h3, h4, h5⟩ := zls_spec _ _ _ _ t
  exact lv_astore_n O.1 O.2.1 d hj hL.1 (hL.2.1 ▸ h3) rfl (fun lsA' hA => hk _ _ _ t' H locs lsA' hR (zLk_set1 hL (zq1 hv).1 h2 h4 h5 hA) (zq1 hv).2 hS)
theorem zr_lstore {n : Nat} (O : zOK X Y cc own) (d : decode cc pc = .ok (.lstore n, 2)) (hk : zSd X Y u v (pc + 2) k) : zSd X Y u v pc (zi_lst n k) := by
  intro ls st h t H locs lsA hR hL hv hS
  rcases st with _ | ⟨_ | x | _, st⟩ <;> first | exact False.elim t | skip
  obtain ⟨l1, t1, a2, a3, a4, a5⟩ := zls_spec _ _ _ _ t
  obtain ⟨ls', t', h2, h3, h4, h5⟩ := zls_spec _ _ _ _ t1
  exact lv_lstore O.1 O.2.1 d hL.1 (hL.2.1 ▸ a3) rfl (fun lsA' hA => hk _ _ _ t' H locs lsA' hR (zLk_set2 hL (zq1 hv).1 a2 a4 a5 h2 h4 h5 hA) (zq1 hv).2 hS)
theorem zr_lstore_n {n : Nat} {j : Fin 4} (O : zOK X Y cc own) (d : decode cc pc = .ok (.lstore_n j, 1)) (hj : (j : Nat) = n) (hk : zSd X Y u v (pc + 1) k) : zSd X Y u v pc (zi_lst n k) := by
  intro ls st h t H locs lsA hR hL hv hS
  rcases st with _ | ⟨_ | x | _, st⟩ <;> first | exact False.elim t | skip
  obtain ⟨l1, t1, a2, a3, a4, a5⟩ := zls_spec _ _ _ _ t
  obtain ⟨ls', t', h2, h3, h4, h5⟩ := zls_spec _ _ _ _ t1
  exact lv_lstore_n O.1 O.2.1 d hj hL.1 (hL.2.1 ▸ a3) rfl (fun lsA' hA => hk _ _ _ t' H locs lsA' hR (zLk_set2 hL (zq1 hv).1 a2 a4 a5 h2 h4 h5 hA) (zq1 hv).2 hS)
def zi_inc (n : Nat) (c : Int32) (k : zT) : zT := fun ls st h => match zlg ls n with
  | some (.inl x) => zls ls n (some (.inl (x + c))) (fun ls' => k ls' st h)
  | _ => False
theorem zr_iinc {n : Nat} {z : Int} {c : Int32} (O : zOK X Y cc own) (d : decode cc pc = .ok (.iinc n z, 3)) (hc : Int32.ofInt z = c) (hk : zSd X Y u v (pc + 3) k) : zSd X Y u v pc (zi_inc n c k) := by
  intro ls st h t H locs lsA hR hL hv hS
  unfold zi_inc at t
  split at t
  · rename_i x hx
    obtain ⟨ls', t', h2, h3, h4, h5⟩ := zls_spec _ _ _ _ t
    have hm : (n, zv (.inl x)) ∈ zlv 0 ls := (zlv_mem ls 0 _).mpr ⟨n, _, zlg_at ls n _ hx, by simp⟩
    obtain ⟨kk, hkk⟩ := List.getElem?_of_mem hm
    subst hc
    exact lv_iinc (x := x) (v := x + Int32.ofInt z) O.1 O.2.1 d hL.1 hkk rfl (hL.2.1 ▸ h3) rfl (fun lsA' hA => hk _ _ _ t' H locs lsA' hR (zLk_set1 (w := .inl (x + Int32.ofInt z)) hL trivial h2 h4 h5 hA) hv hS)
  · exact t.elim
/-- a constant on the stack -/
def zi_c (x : Int32) (k : zT) : zT := fun ls st h => k ls (.inl x :: st) h
def zi_cl (x : Int64) (k : zT) : zT := fun ls st h => k ls (.inr (.inl x) :: st) h
theorem zr_iconst {n : Int} {x : Int32} (O : zOK X Y cc own) (d : decode cc pc = .ok (.iconst n, 1)) (hx : Int32.ofInt n = x) (hk : zSd X Y u v (pc + 1) k) : zSd X Y u v pc (zi_c x k) := fun ls st h t H locs lsA hR hL hv hS =>
  lv_iconst O.1 O.2.1 d hx (hk _ _ _ t H locs lsA hR hL (zqc trivial hv) hS)
theorem zr_bipush {n : Int} {x : Int32} (O : zOK X Y cc own) (d : decode cc pc = .ok (.bipush n, 2)) (hx : (Int8.ofInt n).toInt32 = x) (hk : zSd X Y u v (pc + 2) k) : zSd X Y u v pc (zi_c x k) := fun ls st h t H locs lsA hR hL hv hS =>
  lv_bipush O.1 O.2.1 d hx (hk _ _ _ t H locs lsA hR hL (zqc trivial hv) hS)
theorem zr_sipush {n : Int} {x : Int32} (O : zOK X Y cc own) (d : decode cc pc = .ok (.sipush n, 3)) (hx : (Int16.ofInt n).toInt32 = x) (hk : zSd X Y u v (pc + 3) k) : zSd X Y u v pc (zi_c x k) := fun ls st h t H locs lsA hR hL hv hS =>
  lv_sipush O.1 O.2.1 d hx (hk _ _ _ t H locs lsA hR hL (zqc trivial hv) hS)
theorem zr_lconst {n : Fin 2} {x : Int64} (O : zOK X Y cc own) (d : decode cc pc = .ok (.lconst n, 1)) (hx : Int64.ofNat (n : Nat) = x) (hk : zSd X Y u v (pc + 1) k) : zSd X Y u v pc (zi_cl x k) := fun ls st h t H locs lsA hR hL hv hS =>
  lv_lconst O.1 O.2.1 d hx (hk _ _ _ t H locs lsA hR hL (zqc trivial hv) hS)
theorem zr_ldc {n : Nat} {x : Int32} (O : zOK X Y cc own) (d : decode cc pc = .ok (.ldc n, 2)) (hw : Jvm.Cond.constant own n x ∈ zTW) (hk : zSd X Y u v (pc + 2) k) : zSd X Y u v pc (zi_c x k) := fun ls st h t H locs lsA hR hL hv hS =>
  lv_ldc O.1 O.2.1 O.2.2.1 (O.2.2.2.1 _ hw) d (hk _ _ _ t H locs lsA hR hL (zqc trivial hv) hS)
theorem zr_ldcw {n : Nat} {x : Int32} (O : zOK X Y cc own) (d : decode cc pc = .ok (.ldc_w n, 3)) (hw : Jvm.Cond.constant own n x ∈ zTW) (hk : zSd X Y u v (pc + 3) k) : zSd X Y u v pc (zi_c x k) := fun ls st h t H locs lsA hR hL hv hS =>
  lv_ldcw O.1 O.2.1 O.2.2.1 (O.2.2.2.1 _ hw) d (hk _ _ _ t H locs lsA hR hL (zqc trivial hv) hS)
theorem zr_ldc2 {n : Nat} {x : Int64} (O : zOK X Y cc own) (d : decode cc pc = .ok (.ldc2_w n, 3)) (hw : Jvm.Cond.constantLong own n x ∈ zTW) (hk : zSd X Y u v (pc + 3) k) : zSd X Y u v pc (zi_cl x k) := fun ls st h t H locs lsA hR hL hv hS =>
  lv_ldc2 O.1 O.2.1 O.2.2.1 (O.2.2.2.1 _ hw) d (hk _ _ _ t H locs lsA hR hL (zqc trivial hv) hS)
def zi_iadd (k : zT) : zT := fun ls st h => match st with
  | .inl y :: .inl x :: st' => k ls (.inl (x + y) :: st') h
  | _ => False
theorem zr_iadd (O : zOK X Y cc own) (d : decode cc pc = .ok (.iadd, 1)) (hk : zSd X Y u v (pc + 1) k) : zSd X Y u v pc (zi_iadd k) := by
  intro ls st h t H locs lsA hR hL hv hS
  rcases st with _ | ⟨y | _, _ | ⟨x | _, st⟩⟩ <;> first | exact False.elim t | skip
  exact lv_iadd O.1 O.2.1 d (hk _ _ _ t H locs lsA hR hL (zqc trivial (zq2 hv)) hS)
def zi_isub (k : zT) : zT := fun ls st h => match st with
  | .inl y :: .inl x :: st' => k ls (.inl (x - y) :: st') h
  | _ => False
theorem zr_isub (O : zOK X Y cc own) (d : decode cc pc = .ok (.isub, 1)) (hk : zSd X Y u v (pc + 1) k) : zSd X Y u v pc (zi_isub k) := by
  intro ls st h t H locs lsA hR hL hv hS
  rcases st with _ | ⟨y | _, _ | ⟨x | _, st⟩⟩ <;> first | exact False.elim t | skip
  exact lv_isub O.1 O.2.1 d (hk _ _ _ t H locs lsA hR hL (zqc trivial (zq2 hv)) hS)
def zi_imul (k : zT) : zT := fun ls st h => match st with
  | .inl y :: .inl x :: st' => k ls (.inl (x * y) :: st') h
  | _ => False
theorem zr_imul (O : zOK X Y cc own) (d : decode cc pc = .ok (.imul, 1)) (hk : zSd X Y u v (pc + 1) k) : zSd X Y u v pc (zi_imul k) := by
  intro ls st h t H locs lsA hR hL hv hS
  rcases st with _ | ⟨y | _, _ | ⟨x | _, st⟩⟩ <;> first | exact False.elim t | skip
  exact lv_imul O.1 O.2.1 d (hk _ _ _ t H locs lsA hR hL (zqc trivial (zq2 hv)) hS)
def zi_iand (k : zT) : zT := fun ls st h => match st with
  | .inl y :: .inl x :: st' => k ls (.inl (x &&& y) :: st') h
  | _ => False
theorem zr_iand (O : zOK X Y cc own) (d : decode cc pc = .ok (.iand, 1)) (hk : zSd X Y u v (pc + 1) k) : zSd X Y u v pc (zi_iand k) := by
  intro ls st h t H locs lsA hR hL hv hS
  rcases st with _ | ⟨y | _, _ | ⟨x | _, st⟩⟩ <;> first | exact False.elim t | skip
  exact lv_iand O.1 O.2.1 d (hk _ _ _ t H locs lsA hR hL (zqc trivial (zq2 hv)) hS)
def zi_ior (k : zT) : zT := fun ls st h => match st with
  | .inl y :: .inl x :: st' => k ls (.inl (x ||| y) :: st') h
  | _ => False
theorem zr_ior (O : zOK X Y cc own) (d : decode cc pc = .ok (.ior, 1)) (hk : zSd X Y u v (pc + 1) k) : zSd X Y u v pc (zi_ior k) := by
  intro ls st h t H locs lsA hR hL hv hS
  rcases st with _ | ⟨y | _, _ | ⟨x | _, st⟩⟩ <;> first | exact False.elim t | skip
  exact lv_ior O.1 O.2.1 d (hk _ _ _ t H locs lsA hR hL (zqc trivial (zq2 hv)) hS)
def zi_ixor (k : zT) : zT := fun ls st h => match st with
  | .inl y :: .inl x :: st' => k ls (.inl (x ^^^ y) :: st') h
  | _ => False
theorem zr_ixor (O : zOK X Y cc own) (d : decode cc pc = .ok (.ixor, 1)) (hk : zSd X Y u v (pc + 1) k) : zSd X Y u v pc (zi_ixor k) := by
  intro ls st h t H locs lsA hR hL hv hS
  rcases st with _ | ⟨y | _, _ | ⟨x | _, st⟩⟩ <;> first | exact False.elim t | skip
  exact lv_ixor O.1 O.2.1 d (hk _ _ _ t H locs lsA hR hL (zqc trivial (zq2 hv)) hS)
def zi_ishl (k : zT) : zT := fun ls st h => match st with
  | .inl y :: .inl x :: st' => k ls (.inl (x <<< (y &&& 31)) :: st') h
  | _ => False
theorem zr_ishl (O : zOK X Y cc own) (d : decode cc pc = .ok (.ishl, 1)) (hk : zSd X Y u v (pc + 1) k) : zSd X Y u v pc (zi_ishl k) := by
  intro ls st h t H locs lsA hR hL hv hS
  rcases st with _ | ⟨y | _, _ | ⟨x | _, st⟩⟩ <;> first | exact False.elim t | skip
  exact lv_ishl O.1 O.2.1 d (hk _ _ _ t H locs lsA hR hL (zqc trivial (zq2 hv)) hS)
def zi_ishr (k : zT) : zT := fun ls st h => match st with
  | .inl y :: .inl x :: st' => k ls (.inl (x >>> (y &&& 31)) :: st') h
  | _ => False
theorem zr_ishr (O : zOK X Y cc own) (d : decode cc pc = .ok (.ishr, 1)) (hk : zSd X Y u v (pc + 1) k) : zSd X Y u v pc (zi_ishr k) := by
  intro ls st h t H locs lsA hR hL hv hS
  rcases st with _ | ⟨y | _, _ | ⟨x | _, st⟩⟩ <;> first | exact False.elim t | skip
  exact lv_ishr O.1 O.2.1 d (hk _ _ _ t H locs lsA hR hL (zqc trivial (zq2 hv)) hS)
def zi_idiv (k : zT) : zT := fun ls st h => match st with
  | .inl y :: .inl x :: st' => ¬ y = 0 ∧ k ls (.inl (x / y) :: st') h
  | _ => False
theorem zr_idiv (O : zOK X Y cc own) (d : decode cc pc = .ok (.idiv, 1)) (hk : zSd X Y u v (pc + 1) k) : zSd X Y u v pc (zi_idiv k) := by
  intro ls st h t H locs lsA hR hL hv hS
  rcases st with _ | ⟨y | _, _ | ⟨x | _, st⟩⟩ <;> first | exact False.elim t | skip
  exact lv_idiv O.1 O.2.1 d t.1 (hk _ _ _ t.2 H locs lsA hR hL (zqc trivial (zq2 hv)) hS)
def zi_irem (k : zT) : zT := fun ls st h => match st with
  | .inl y :: .inl x :: st' => ¬ y = 0 ∧ k ls (.inl (x - x / y * y) :: st') h
  | _ => False
theorem zr_irem (O : zOK X Y cc own) (d : decode cc pc = .ok (.irem, 1)) (hk : zSd X Y u v (pc + 1) k) : zSd X Y u v pc (zi_irem k) := by
  intro ls st h t H locs lsA hR hL hv hS
  rcases st with _ | ⟨y | _, _ | ⟨x | _, st⟩⟩ <;> first | exact False.elim t | skip
  exact lv_irem O.1 O.2.1 d t.1 (hk _ _ _ t.2 H locs lsA hR hL (zqc trivial (zq2 hv)) hS)
def zi_ladd (k : zT) : zT := fun ls st h => match st with
  | .inr (.inl y) :: .inr (.inl x) :: st' => k ls (.inr (.inl (x + y)) :: st') h
  | _ => False
theorem zr_ladd (O : zOK X Y cc own) (d : decode cc pc = .ok (.ladd, 1)) (hk : zSd X Y u v (pc + 1) k) : zSd X Y u v pc (zi_ladd k) := by
  intro ls st h t H locs lsA hR hL hv hS
  rcases st with _ | ⟨_ | y | _, _ | ⟨_ | x | _, st⟩⟩ <;> first | exact False.elim t | skip
  exact lv_ladd O.1 O.2.1 d (hk _ _ _ t H locs lsA hR hL (zqc trivial (zq2 hv)) hS)
def zi_lsub (k : zT) : zT := fun ls st h => match st with
  | .inr (.inl y) :: .inr (.inl x) :: st' => k ls (.inr (.inl (x - y)) :: st') h
  | _ => False
theorem zr_lsub (O : zOK X Y cc own) (d : decode cc pc = .ok (.lsub, 1)) (hk : zSd X Y u v (pc + 1) k) : zSd X Y u v pc (zi_lsub k) := by
  intro ls st h t H locs lsA hR hL hv hS
  rcases st with _ | ⟨_ | y | _, _ | ⟨_ | x | _, st⟩⟩ <;> first | exact False.elim t | skip
  exact lv_lsub O.1 O.2.1 d (hk _ _ _ t H locs lsA hR hL (zqc trivial (zq2 hv)) hS)
def zi_lmul (k : zT) : zT := fun ls st h => match st with
  | .inr (.inl y) :: .inr (.inl x) :: st' => k ls (.inr (.inl (x * y)) :: st') h
  | _ => False
theorem zr_lmul (O : zOK X Y cc own) (d : decode cc pc = .ok (.lmul, 1)) (hk : zSd X Y u v (pc + 1) k) : zSd X Y u v pc (zi_lmul k) := by
  intro ls st h t H locs lsA hR hL hv hS
  rcases st with _ | ⟨_ | y | _, _ | ⟨_ | x | _, st⟩⟩ <;> first | exact False.elim t | skip
  exact lv_lmul O.1 O.2.1 d (hk _ _ _ t H locs lsA hR hL (zqc trivial (zq2 hv)) hS)
def zi_lcmp (k : zT) : zT := fun ls st h => match st with
  | .inr (.inl y) :: .inr (.inl x) :: st' => k ls (.inl (lg_cmp x y) :: st') h
  | _ => False
theorem zr_lcmp (O : zOK X Y cc own) (d : decode cc pc = .ok (.lcmp, 1)) (hk : zSd X Y u v (pc + 1) k) : zSd X Y u v pc (zi_lcmp k) := by
  intro ls st h t H locs lsA hR hL hv hS
  rcases st with _ | ⟨_ | y | _, _ | ⟨_ | x | _, st⟩⟩ <;> first | exact False.elim t | skip
  exact W.lcmp O.1 O.2.1 d (hk _ _ _ t H locs lsA hR hL (zqc trivial (zq2 hv)) hS)
def zi_lshl (k : zT) : zT := fun ls st h => match st with
  | .inl y :: .inr (.inl x) :: st' => k ls (.inr (.inl (x <<< (y.toInt64 &&& 63))) :: st') h
  | _ => False
theorem zr_lshl (O : zOK X Y cc own) (d : decode cc pc = .ok (.lshl, 1)) (hk : zSd X Y u v (pc + 1) k) : zSd X Y u v pc (zi_lshl k) := by
  intro ls st h t H locs lsA hR hL hv hS
  rcases st with _ | ⟨y | _, _ | ⟨_ | x | _, st⟩⟩ <;> first | exact False.elim t | skip
  exact lv_lshl O.1 O.2.1 d rfl (hk _ _ _ t H locs lsA hR hL (zqc trivial (zq2 hv)) hS)
def zi_ineg (k : zT) : zT := fun ls st h => match st with
  | .inl x :: st' => k ls (.inl (-x) :: st') h
  | _ => False
theorem zr_ineg (O : zOK X Y cc own) (d : decode cc pc = .ok (.ineg, 1)) (hk : zSd X Y u v (pc + 1) k) : zSd X Y u v pc (zi_ineg k) := by
  intro ls st h t H locs lsA hR hL hv hS
  rcases st with _ | ⟨x | _, st⟩ <;> first | exact False.elim t | skip
  exact lv_ineg O.1 O.2.1 d (hk _ _ _ t H locs lsA hR hL (zqc trivial (zq1 hv).2) hS)
def zi_i2l (k : zT) : zT := fun ls st h => match st with
  | .inl x :: st' => k ls (.inr (.inl x.toInt64) :: st') h
  | _ => False
theorem zr_i2l (O : zOK X Y cc own) (d : decode cc pc = .ok (.i2l, 1)) (hk : zSd X Y u v (pc + 1) k) : zSd X Y u v pc (zi_i2l k) := by
  intro ls st h t H locs lsA hR hL hv hS
  rcases st with _ | ⟨x | _, st⟩ <;> first | exact False.elim t | skip
  exact lv_i2l O.1 O.2.1 d rfl (hk _ _ _ t H locs lsA hR hL (zqc trivial (zq1 hv).2) hS)
def zi_i2b (k : zT) : zT := fun ls st h => match st with
  | .inl x :: st' => k ls (.inl x.toInt8.toInt32 :: st') h
  | _ => False
theorem zr_i2b (O : zOK X Y cc own) (d : decode cc pc = .ok (.i2b, 1)) (hk : zSd X Y u v (pc + 1) k) : zSd X Y u v pc (zi_i2b k) := by
  intro ls st h t H locs lsA hR hL hv hS
  rcases st with _ | ⟨x | _, st⟩ <;> first | exact False.elim t | skip
  exact lv_i2b O.1 O.2.1 d rfl (hk _ _ _ t H locs lsA hR hL (zqc trivial (zq1 hv).2) hS)
def zi_lneg (k : zT) : zT := fun ls st h => match st with
  | .inr (.inl x) :: st' => k ls (.inr (.inl (-x)) :: st') h
  | _ => False
theorem zr_lneg (O : zOK X Y cc own) (d : decode cc pc = .ok (.lneg, 1)) (hk : zSd X Y u v (pc + 1) k) : zSd X Y u v pc (zi_lneg k) := by
  intro ls st h t H locs lsA hR hL hv hS
  rcases st with _ | ⟨_ | x | _, st⟩ <;> first | exact False.elim t | skip
  exact lv_lneg O.1 O.2.1 d (hk _ _ _ t H locs lsA hR hL (zqc trivial (zq1 hv).2) hS)
theorem zcat1 {q : zV} (h : ∀ x : Int64, q ≠ .inr (.inl x)) : (zv q).category = 1 := by
  rcases q with x | x | x
  · rfl
  · exact absurd rfl (h x)
  · rfl
def zi_dup (k : zT) : zT := fun ls st h => match st with
  | .inl x :: st' => k ls (.inl x :: .inl x :: st') h
  | .inr (.inr x) :: st' => k ls (.inr (.inr x) :: .inr (.inr x) :: st') h
  | _ => False
theorem zr_dup (O : zOK X Y cc own) (d : decode cc pc = .ok (.dup, 1)) (hk : zSd X Y u v (pc + 1) k) : zSd X Y u v pc (zi_dup k) := by
  intro ls st h t H locs lsA hR hL hv hS
  rcases st with _ | ⟨x | x | x, st⟩
  · exact False.elim t
  · exact lv_dup O.1 O.2.1 d rfl (hk _ _ _ t H locs lsA hR hL (zqc (zq1 hv).1 hv) hS)
  · exact False.elim t
  · exact lv_dup O.1 O.2.1 d rfl (hk _ _ _ t H locs lsA hR hL (zqc (zq1 hv).1 hv) hS)
def zi_pop (k : zT) : zT := fun ls st h => match st with
  | .inl _ :: st' => k ls st' h
  | .inr (.inr _) :: st' => k ls st' h
  | _ => False
theorem zr_pop (O : zOK X Y cc own) (d : decode cc pc = .ok (.pop, 1)) (hk : zSd X Y u v (pc + 1) k) : zSd X Y u v pc (zi_pop k) := by
  intro ls st h t H locs lsA hR hL hv hS
  rcases st with _ | ⟨x | x | x, st⟩
  · exact False.elim t
  · exact lv_pop O.1 O.2.1 d rfl (hk _ _ _ t H locs lsA hR hL (zq1 hv).2 hS)
  · exact False.elim t
  · exact lv_pop O.1 O.2.1 d rfl (hk _ _ _ t H locs lsA hR hL (zq1 hv).2 hS)
/-- a reference and an index, twice -/
def zi_dup2 (k : zT) : zT := fun ls st h => match st with
  | .inl x :: .inr (.inr y) :: st' => k ls (.inl x :: .inr (.inr y) :: .inl x :: .inr (.inr y) :: st') h
  | _ => False
theorem zr_dup2 (O : zOK X Y cc own) (d : decode cc pc = .ok (.dup2, 1)) (hk : zSd X Y u v (pc + 1) k) : zSd X Y u v pc (zi_dup2 k) := by
  intro ls st h t H locs lsA hR hL hv hS
  rcases st with _ | ⟨x | _, _ | ⟨_ | _ | y, st⟩⟩ <;> first | exact False.elim t | skip
  exact lv_dup2_11 O.1 O.2.1 d rfl rfl (hk _ _ _ t H locs lsA hR hL (zqc (zq1 hv).1 (zqc (zq1 (zq1 hv).2).1 hv)) hS)
def zi_ifeq (k k2 : zT) : zT := fun ls st h => match st with
  | .inl x :: st' => (x = 0 → k ls st' h) ∧ (¬ x = 0 → k2 ls st' h)
  | _ => False
theorem zr_ifeq {off : Int} {tgt : Nat} (O : zOK X Y cc own) (d : decode cc pc = .ok (.ifCond .eq off, 3)) (ht : (pc : Int) + off = (tgt : Int)) (hk : zSd X Y u v tgt k) (hk2 : zSd X Y u v (pc + 3) k2) : zSd X Y u v pc (zi_ifeq k k2) := by
  intro ls st h t H locs lsA hR hL hv hS
  rcases st with _ | ⟨x | _, st⟩ <;> first | exact False.elim t | skip
  exact lv_if_eq O.1 O.2.1 d ht (fun c => hk _ _ _ (t.1 c) H locs lsA hR hL (zq1 hv).2 hS) (fun c => hk2 _ _ _ (t.2 c) H locs lsA hR hL (zq1 hv).2 hS)
def zi_ifne (k k2 : zT) : zT := fun ls st h => match st with
  | .inl x :: st' => (¬ x = 0 → k ls st' h) ∧ (x = 0 → k2 ls st' h)
  | _ => False
theorem zr_ifne {off : Int} {tgt : Nat} (O : zOK X Y cc own) (d : decode cc pc = .ok (.ifCond .ne off, 3)) (ht : (pc : Int) + off = (tgt : Int)) (hk : zSd X Y u v tgt k) (hk2 : zSd X Y u v (pc + 3) k2) : zSd X Y u v pc (zi_ifne k k2) := by
  intro ls st h t H locs lsA hR hL hv hS
  rcases st with _ | ⟨x | _, st⟩ <;> first | exact False.elim t | skip
  exact lv_if_ne O.1 O.2.1 d ht (fun c => hk _ _ _ (t.1 c) H locs lsA hR hL (zq1 hv).2 hS) (fun c => hk2 _ _ _ (t.2 c) H locs lsA hR hL (zq1 hv).2 hS)
def zi_iflt (k k2 : zT) : zT := fun ls st h => match st with
  | .inl x :: st' => (x < 0 → k ls st' h) ∧ (¬ x < 0 → k2 ls st' h)
  | _ => False
theorem zr_iflt {off : Int} {tgt : Nat} (O : zOK X Y cc own) (d : decode cc pc = .ok (.ifCond .lt off, 3)) (ht : (pc : Int) + off = (tgt : Int)) (hk : zSd X Y u v tgt k) (hk2 : zSd X Y u v (pc + 3) k2) : zSd X Y u v pc (zi_iflt k k2) := by
  intro ls st h t H locs lsA hR hL hv hS
  rcases st with _ | ⟨x | _, st⟩ <;> first | exact False.elim t | skip
  exact lv_if_lt O.1 O.2.1 d ht (fun c => hk _ _ _ (t.1 c) H locs lsA hR hL (zq1 hv).2 hS) (fun c => hk2 _ _ _ (t.2 c) H locs lsA hR hL (zq1 hv).2 hS)
def zi_ifge (k k2 : zT) : zT := fun ls st h => match st with
  | .inl x :: st' => (0 ≤ x → k ls st' h) ∧ (¬ 0 ≤ x → k2 ls st' h)
  | _ => False
theorem zr_ifge {off : Int} {tgt : Nat} (O : zOK X Y cc own) (d : decode cc pc = .ok (.ifCond .ge off, 3)) (ht : (pc : Int) + off = (tgt : Int)) (hk : zSd X Y u v tgt k) (hk2 : zSd X Y u v (pc + 3) k2) : zSd X Y u v pc (zi_ifge k k2) := by
  intro ls st h t H locs lsA hR hL hv hS
  rcases st with _ | ⟨x | _, st⟩ <;> first | exact False.elim t | skip
  exact lv_if_ge O.1 O.2.1 d ht (fun c => hk _ _ _ (t.1 c) H locs lsA hR hL (zq1 hv).2 hS) (fun c => hk2 _ _ _ (t.2 c) H locs lsA hR hL (zq1 hv).2 hS)
def zi_ifgt (k k2 : zT) : zT := fun ls st h => match st with
  | .inl x :: st' => (0 < x → k ls st' h) ∧ (¬ 0 < x → k2 ls st' h)
  | _ => False
theorem zr_ifgt {off : Int} {tgt : Nat} (O : zOK X Y cc own) (d : decode cc pc = .ok (.ifCond .gt off, 3)) (ht : (pc : Int) + off = (tgt : Int)) (hk : zSd X Y u v tgt k) (hk2 : zSd X Y u v (pc + 3) k2) : zSd X Y u v pc (zi_ifgt k k2) := by
  intro ls st h t H locs lsA hR hL hv hS
  rcases st with _ | ⟨x | _, st⟩ <;> first | exact False.elim t | skip
  exact lv_if_gt O.1 O.2.1 d ht (fun c => hk _ _ _ (t.1 c) H locs lsA hR hL (zq1 hv).2 hS) (fun c => hk2 _ _ _ (t.2 c) H locs lsA hR hL (zq1 hv).2 hS)
def zi_ifle (k k2 : zT) : zT := fun ls st h => match st with
  | .inl x :: st' => (x ≤ 0 → k ls st' h) ∧ (¬ x ≤ 0 → k2 ls st' h)
  | _ => False
theorem zr_ifle {off : Int} {tgt : Nat} (O : zOK X Y cc own) (d : decode cc pc = .ok (.ifCond .le off, 3)) (ht : (pc : Int) + off = (tgt : Int)) (hk : zSd X Y u v tgt k) (hk2 : zSd X Y u v (pc + 3) k2) : zSd X Y u v pc (zi_ifle k k2) := by
  intro ls st h t H locs lsA hR hL hv hS
  rcases st with _ | ⟨x | _, st⟩ <;> first | exact False.elim t | skip
  exact lv_if_le O.1 O.2.1 d ht (fun c => hk _ _ _ (t.1 c) H locs lsA hR hL (zq1 hv).2 hS) (fun c => hk2 _ _ _ (t.2 c) H locs lsA hR hL (zq1 hv).2 hS)
def zi_iceq (k k2 : zT) : zT := fun ls st h => match st with
  | .inl y :: .inl x :: st' => (x = y → k ls st' h) ∧ (¬ x = y → k2 ls st' h)
  | _ => False
theorem zr_iceq {off : Int} {tgt : Nat} (O : zOK X Y cc own) (d : decode cc pc = .ok (.if_icmp .eq off, 3)) (ht : (pc : Int) + off = (tgt : Int)) (hk : zSd X Y u v tgt k) (hk2 : zSd X Y u v (pc + 3) k2) : zSd X Y u v pc (zi_iceq k k2) := by
  intro ls st h t H locs lsA hR hL hv hS
  rcases st with _ | ⟨y | _, _ | ⟨x | _, st⟩⟩ <;> first | exact False.elim t | skip
  exact lv_icmp_eq O.1 O.2.1 d ht (fun c => hk _ _ _ (t.1 c) H locs lsA hR hL (zq2 hv) hS) (fun c => hk2 _ _ _ (t.2 c) H locs lsA hR hL (zq2 hv) hS)
def zi_icne (k k2 : zT) : zT := fun ls st h => match st with
  | .inl y :: .inl x :: st' => (¬ x = y → k ls st' h) ∧ (x = y → k2 ls st' h)
  | _ => False
theorem zr_icne {off : Int} {tgt : Nat} (O : zOK X Y cc own) (d : decode cc pc = .ok (.if_icmp .ne off, 3)) (ht : (pc : Int) + off = (tgt : Int)) (hk : zSd X Y u v tgt k) (hk2 : zSd X Y u v (pc + 3) k2) : zSd X Y u v pc (zi_icne k k2) := by
  intro ls st h t H locs lsA hR hL hv hS
  rcases st with _ | ⟨y | _, _ | ⟨x | _, st⟩⟩ <;> first | exact False.elim t | skip
  exact lv_icmp_ne O.1 O.2.1 d ht (fun c => hk _ _ _ (t.1 c) H locs lsA hR hL (zq2 hv) hS) (fun c => hk2 _ _ _ (t.2 c) H locs lsA hR hL (zq2 hv) hS)
def zi_iclt (k k2 : zT) : zT := fun ls st h => match st with
  | .inl y :: .inl x :: st' => (x < y → k ls st' h) ∧ (¬ x < y → k2 ls st' h)
  | _ => False
theorem zr_iclt {off : Int} {tgt : Nat} (O : zOK X Y cc own) (d : decode cc pc = .ok (.if_icmp .lt off, 3)) (ht : (pc : Int) + off = (tgt : Int)) (hk : zSd X Y u v tgt k) (hk2 : zSd X Y u v (pc + 3) k2) : zSd X Y u v pc (zi_iclt k k2) := by
  intro ls st h t H locs lsA hR hL hv hS
  rcases st with _ | ⟨y | _, _ | ⟨x | _, st⟩⟩ <;> first | exact False.elim t | skip
  exact lv_icmp_lt O.1 O.2.1 d ht (fun c => hk _ _ _ (t.1 c) H locs lsA hR hL (zq2 hv) hS) (fun c => hk2 _ _ _ (t.2 c) H locs lsA hR hL (zq2 hv) hS)
def zi_icge (k k2 : zT) : zT := fun ls st h => match st with
  | .inl y :: .inl x :: st' => (y ≤ x → k ls st' h) ∧ (¬ y ≤ x → k2 ls st' h)
  | _ => False
theorem zr_icge {off : Int} {tgt : Nat} (O : zOK X Y cc own) (d : decode cc pc = .ok (.if_icmp .ge off, 3)) (ht : (pc : Int) + off = (tgt : Int)) (hk : zSd X Y u v tgt k) (hk2 : zSd X Y u v (pc + 3) k2) : zSd X Y u v pc (zi_icge k k2) := by
  intro ls st h t H locs lsA hR hL hv hS
  rcases st with _ | ⟨y | _, _ | ⟨x | _, st⟩⟩ <;> first | exact False.elim t | skip
  exact lv_icmp_ge O.1 O.2.1 d ht (fun c => hk _ _ _ (t.1 c) H locs lsA hR hL (zq2 hv) hS) (fun c => hk2 _ _ _ (t.2 c) H locs lsA hR hL (zq2 hv) hS)
def zi_icgt (k k2 : zT) : zT := fun ls st h => match st with
  | .inl y :: .inl x :: st' => (y < x → k ls st' h) ∧ (¬ y < x → k2 ls st' h)
  | _ => False
theorem zr_icgt {off : Int} {tgt : Nat} (O : zOK X Y cc own) (d : decode cc pc = .ok (.if_icmp .gt off, 3)) (ht : (pc : Int) + off = (tgt : Int)) (hk : zSd X Y u v tgt k) (hk2 : zSd X Y u v (pc + 3) k2) : zSd X Y u v pc (zi_icgt k k2) := by
  intro ls st h t H locs lsA hR hL hv hS
  rcases st with _ | ⟨y | _, _ | ⟨x | _, st⟩⟩ <;> first | exact False.elim t | skip
  exact lv_icmp_gt O.1 O.2.1 d ht (fun c => hk _ _ _ (t.1 c) H locs lsA hR hL (zq2 hv) hS) (fun c => hk2 _ _ _ (t.2 c) H locs lsA hR hL (zq2 hv) hS)
def zi_icle (k k2 : zT) : zT := fun ls st h => match st with
  | .inl y :: .inl x :: st' => (x ≤ y → k ls st' h) ∧ (¬ x ≤ y → k2 ls st' h)
  | _ => False
theorem zr_icle {off : Int} {tgt : Nat} (O : zOK X Y cc own) (d : decode cc pc = .ok (.if_icmp .le off, 3)) (ht : (pc : Int) + off = (tgt : Int)) (hk : zSd X Y u v tgt k) (hk2 : zSd X Y u v (pc + 3) k2) : zSd X Y u v pc (zi_icle k k2) := by
  intro ls st h t H locs lsA hR hL hv hS
  rcases st with _ | ⟨y | _, _ | ⟨x | _, st⟩⟩ <;> first | exact False.elim t | skip
  exact lv_icmp_le O.1 O.2.1 d ht (fun c => hk _ _ _ (t.1 c) H locs lsA hR hL (zq2 hv) hS) (fun c => hk2 _ _ _ (t.2 c) H locs lsA hR hL (zq2 hv) hS)
theorem zr_goto {off : Int} {tgt : Nat} (O : zOK X Y cc own) (d : decode cc pc = .ok (.goto off, 3)) (ht : (pc : Int) + off = (tgt : Int)) (hk : zSd X Y u v tgt k) : zSd X Y u v pc k := fun ls st h t H locs lsA hR hL hv hS =>
  lv_goto O.1 O.2.1 d ht (hk _ _ _ t H locs lsA hR hL hv hS)
/-- a switch: the cases from lo on, and what is outside -/
def zi_sw (lo : Int) (ks : List zT) (kd : zT) : zT := fun ls st h => match st with
  | .inl x :: st' => (∀ (j : Nat) (kj : zT), ks[j]? = some kj → x.toInt = lo + j → kj ls st' h) ∧ ((x.toInt < lo ∨ lo + ks.length ≤ x.toInt) → kd ls st' h)
  | _ => False
theorem zr_switch {df lo hi : Int} {offs : Array Int} {len tgt : Nat} {ks : List zT} {kd : zT} (O : zOK X Y cc own) (d : decode cc pc = .ok (.tableswitch df lo hi offs, len)) (hn : lo + ks.length = hi + 1) (ht : (pc : Int) + df = (tgt : Int)) (hd : zSd X Y u v tgt kd)
    (hks : ∀ (j : Nat) (kj : zT), ks[j]? = some kj → ∃ (off : Int) (t : Nat), offs[j]? = some off ∧ (pc : Int) + off = (t : Int) ∧ zSd X Y u v t kj) : zSd X Y u v pc (zi_sw lo ks kd) := by
  intro ls st h t H locs lsA hR hL hv hS
  rcases st with _ | ⟨x | _, st⟩ <;> first | exact False.elim t | skip
  by_cases h1 : x.toInt < lo
  · exact lv_tableOut O.1 O.2.1 d (Or.inl h1) ht (hd _ _ _ (t.2 (Or.inl h1)) H locs lsA hR hL (zq1 hv).2 hS)
  · by_cases h2 : hi < x.toInt
    · exact lv_tableOut O.1 O.2.1 d (Or.inr h2) ht (hd _ _ _ (t.2 (Or.inr (by omega))) H locs lsA hR hL (zq1 hv).2 hS)
    · have hj : (x.toInt - lo).toNat < ks.length := by omega
      obtain ⟨off, tg, ho, htg, hs⟩ := hks _ _ (List.getElem?_eq_getElem hj)
      exact lv_tableIn O.1 O.2.1 d h1 h2 ho htg (hs _ _ _ (t.1 _ _ (List.getElem?_eq_getElem hj) (by omega)) H locs lsA hR hL (zq1 hv).2 hS)
theorem zks_nil {α : Type} {P : Nat → α → Prop} {i : Nat} : ∀ (j : Nat) (a : α), ([] : List α)[j]? = some a → P (i + j) a := fun j a h => by simp at h
theorem zks_cons {α : Type} {P : Nat → α → Prop} {i : Nat} {a : α} {l : List α} (h : P i a) (hl : ∀ (j : Nat) (b : α), l[j]? = some b → P (i + 1 + j) b) : ∀ (j : Nat) (b : α), (a :: l)[j]? = some b → P (i + j) b := by
  intro j b hb
  cases j with
  | zero => simp at hb; subst hb; exact h
  | succ j =>
    have := hl j b (by simpa using hb)
    rwa [show i + (j + 1) = i + 1 + j by omega]
end ZB

