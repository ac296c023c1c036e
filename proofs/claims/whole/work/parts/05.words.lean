/-! words of the tables, by their places -/
theorem zmem {w : Cond} (i : Nat) (h : tables_1[i]? = some w) (hg : goodWord w = true) : w ∈ zTW := List.mem_filter.mpr ⟨List.mem_append_right _ (List.mem_of_getElem? h), hg⟩
theorem zmemP {w : Cond} (i : Nat) (h : (k2_sels lw_privs)[i]? = some w) (hg : goodWord w = true) : w ∈ zTW := List.mem_filter.mpr ⟨List.mem_append_left _ (List.mem_of_getElem? h), hg⟩
theorem zmemL {ws : List Cond} (ps : List Nat) (hp : ws = ps.filterMap (fun i => tables_1[i]?)) (h : ws.all goodWord = true) : ∀ w ∈ ws, w ∈ zTW := by
  intro w hw
  have h1 := List.all_eq_true.mp h w hw
  rw [hp] at hw
  obtain ⟨i, -, hi⟩ := List.mem_filterMap.mp hw
  exact zmem i hi h1
theorem zks0 {α : Type} {P : Nat → α → Prop} {l : List α} (h : ∀ (j : Nat) (b : α), l[j]? = some b → P (0 + j) b) : ∀ (j : Nat) (b : α), l[j]? = some b → P j b := fun j b hb => by have := h j b hb; rwa [Nat.zero_add] at this
theorem zSd_any {X : zX} {Y : zY} {u v pc : Nat} {I : Nat → zT} (h : ∀ n : Nat, zSd X Y u v pc (I n)) : zSd X Y u v pc (fun ls st h0 => ∃ n : Nat, I n ls st h0) := fun ls st h0 ⟨n, t⟩ => h n ls st h0 t
theorem zrm {X : zX} {rm : Room} {a b : Nat} (hR : xR X = rm) (h1 : Nat.ble a rm.frames = true) (h2 : Nat.ble b rm.locals = true) : a ≤ (xR X).frames ∧ b ≤ (xR X).locals ∧ 0 ≤ (xR X).cells ∧ 0 ≤ (xR X).slots := by
  rw [hR]
  exact ⟨Nat.le_of_ble_eq_true h1, Nat.le_of_ble_eq_true h2, Nat.zero_le _, Nat.zero_le _⟩
theorem zc_0 : zCl 0 RX1 TX1 9 tyX1 := ⟨rfl, zmemL [127, 129, 131, 133, 135, 137, 139, 141, 143] (by decide +kernel) (by decide +kernel), tyX1_ok, nmX1⟩
theorem zc_1 : zCl 1 RX2 TX2 1 tyX2 := ⟨rfl, zmemL [284] (by decide +kernel) (by decide +kernel), tyX2_ok, nmX2⟩
theorem zc_2 : zCl 2 RX3 TX3 5 tyX3 := ⟨rfl, zmemL [159, 161, 163, 165, 167] (by decide +kernel) (by decide +kernel), tyX3_ok, nmX3⟩
theorem zc_3 : zCl 3 RX4 TX4 1 tyX4 := ⟨rfl, zmemL [252] (by decide +kernel) (by decide +kernel), tyX4_ok, nmX4⟩
theorem zc_4 : zCl 4 RX5 TX5 4 tyX5 := ⟨rfl, zmemL [236, 238, 240, 242] (by decide +kernel) (by decide +kernel), tyX5_ok, nmX5⟩
theorem zc_5 : zCl 5 RX6 TX6 8 tyX6 := ⟨rfl, zmemL [77, 79, 81, 83, 85, 87, 89, 91] (by decide +kernel) (by decide +kernel), tyX6_ok, nmX6⟩
theorem zc_6 : zCl 6 RX7 TX7 3 tyX7 := ⟨rfl, zmemL [178, 180, 182] (by decide +kernel) (by decide +kernel), tyX7_ok, nmX7⟩
theorem zc_7 : zCl 7 RX8 TX8 8 tyX8 := ⟨rfl, zmemL [205, 207, 209, 211, 213, 215, 217, 219] (by decide +kernel) (by decide +kernel), tyX8_ok, nmX8⟩
theorem zc_8 : zCl 8 RX9 TX9 3 tyX9 := ⟨rfl, zmemL [266, 268, 270] (by decide +kernel) (by decide +kernel), tyX9_ok, nmX9⟩
theorem zc_9 : zCl 9 RX10 TX10 15 tyX10 := ⟨rfl, zmemL [302, 304, 306, 308, 310, 312, 314, 316, 318, 320, 322, 324, 326, 328, 330] (by decide +kernel) (by decide +kernel), tyX10_ok, nmX10⟩
theorem zc_10 : zCl 10 RX11 TX11 35 tyX11 := ⟨rfl, zmemL [1222, 1224, 1226, 1228, 1230, 1232, 1234, 1236, 1238, 1240, 1242, 1244, 1246, 1248, 1250, 1252, 1254, 1256, 1258, 1260, 1262, 1264, 1266, 1268, 1270, 1272, 1274, 1276, 1278, 1280, 1282, 1284, 1286, 1288, 1290] (by decide +kernel) (by decide +kernel), tyX11_ok, nmX11⟩
theorem tw_3 : Cond.initialized RX6 ∈ zTW := zmem 3 (by decide +kernel) rfl
theorem tw_50 : Cond.fieldLink RX6 9 (TX6 1).1 (TX6 1).2.1 (TX6 1).2.2.1 ∈ zTW := zmem 50 (by decide +kernel) rfl
theorem tw_51 : Cond.fieldLink RX6 15 (TX6 2).1 (TX6 2).2.1 (TX6 2).2.2.1 ∈ zTW := zmem 51 (by decide +kernel) rfl
theorem tw_441 : Cond.instanceMethod yX6_speedOf ∈ zTW := zmem 441 (by decide +kernel) rfl
theorem tw_442 : Cond.selects RX6 yX6_speedOf yX6_speedOf ∈ zTW := zmem 442 (by decide +kernel) rfl
theorem tw_443 : Cond.code yX6_speedOf cX6_speedOf 3 (some .int) ∈ zTW := zmem 443 (by decide +kernel) rfl
theorem bn_X6_speedOf (rm : Room) (h : rm.cells = 0 ∧ rm.slots = 0) : zBn yX6_speedOf cX6_speedOf 3 (some .int) rm 2 := ⟨tw_443, tw_3, ⟨by decide +kernel, by decide +kernel, by decide +kernel⟩, h.1, h.2⟩
theorem vw_X6_speedOf : zVw 5 yX6_speedOf := ⟨tw_441, tw_442, _, _, rfl⟩
theorem zwm : zwM := ⟨zmem 16 (by decide +kernel) rfl, zmem 776 (by decide +kernel) rfl, zmem 777 (by decide +kernel) rfl, zmem 407 (by decide +kernel) rfl, zmem 408 (by decide +kernel) rfl⟩
theorem zwc : Cond.native arraycopyName ∈ zTW ∧ Cond.static arraycopyName ∈ zTW ∧ Cond.initialized "java/lang/System" ∈ zTW := ⟨zmem 404 (by decide +kernel) rfl, zmem 403 (by decide +kernel) rfl, zmem 22 (by decide +kernel) rfl⟩
theorem wn_RX3_34 : (RX3, 34, yX10_bitIn, "SlipSecret") ∈ zNest := List.mem_of_getElem? (i := 9) (by decide +kernel)
theorem wn_RX4_21 : (RX4, 21, yX10_bitIn, "SlipSecret") ∈ zNest := List.mem_of_getElem? (i := 10) (by decide +kernel)
theorem wn_RX0_30 : (RX0, 30, yX10_bitIn, "SlipSecret") ∈ zNest := List.mem_of_getElem? (i := 11) (by decide +kernel)
theorem wn_RX1_67 : (RX1, 67, yX10_bitIn, "SlipSecret") ∈ zNest := List.mem_of_getElem? (i := 12) (by decide +kernel)
theorem wn_RX6_86 : (RX6, 86, yX10_bitIn, "SlipSecret") ∈ zNest := List.mem_of_getElem? (i := 13) (by decide +kernel)
theorem wn_RX9_39 : (RX9, 39, yX10_bitIn, "SlipSecret") ∈ zNest := List.mem_of_getElem? (i := 14) (by decide +kernel)
theorem wn_RX2_78 : (RX2, 78, yX10_bitIn, "SlipSecret") ∈ zNest := List.mem_of_getElem? (i := 15) (by decide +kernel)
theorem ws_RX10_362 : (RX10, 362, zStr[0].2.2.1, zStr[0].2.2.2) ∈ zStr := List.mem_of_getElem? (i := 0) (by decide +kernel)
theorem ws_RX8_56 : (RX8, 56, zStr[1].2.2.1, zStr[1].2.2.2) ∈ zStr := List.mem_of_getElem? (i := 1) (by decide +kernel)
theorem ws_RX8_66 : (RX8, 66, zStr[2].2.2.1, zStr[2].2.2.2) ∈ zStr := List.mem_of_getElem? (i := 2) (by decide +kernel)
theorem ws_RX8_71 : (RX8, 71, zStr[3].2.2.1, zStr[3].2.2.2) ∈ zStr := List.mem_of_getElem? (i := 3) (by decide +kernel)
theorem ws_RX8_79 : (RX8, 79, zStr[4].2.2.1, zStr[4].2.2.2) ∈ zStr := List.mem_of_getElem? (i := 4) (by decide +kernel)
theorem ws_RX8_84 : (RX8, 84, zStr[5].2.2.1, zStr[5].2.2.2) ∈ zStr := List.mem_of_getElem? (i := 5) (by decide +kernel)
theorem ws_RX8_86 : (RX8, 86, zStr[6].2.2.1, zStr[6].2.2.2) ∈ zStr := List.mem_of_getElem? (i := 6) (by decide +kernel)
theorem ws_RX8_91 : (RX8, 91, zStr[7].2.2.1, zStr[7].2.2.2) ∈ zStr := List.mem_of_getElem? (i := 7) (by decide +kernel)
theorem ws_RX10_374 : (RX10, 374, zStr[8].2.2.1, zStr[8].2.2.2) ∈ zStr := List.mem_of_getElem? (i := 8) (by decide +kernel)
theorem ws_RX10_369 : (RX10, 369, zStr[9].2.2.1, zStr[9].2.2.2) ∈ zStr := List.mem_of_getElem? (i := 9) (by decide +kernel)
theorem ws_RX11_187 : (RX11, 187, zStr[10].2.2.1, zStr[10].2.2.2) ∈ zStr := List.mem_of_getElem? (i := 10) (by decide +kernel)
theorem ws_RX11_196 : (RX11, 196, zStr[11].2.2.1, zStr[11].2.2.2) ∈ zStr := List.mem_of_getElem? (i := 11) (by decide +kernel)
theorem ws_RX11_201 : (RX11, 201, zStr[12].2.2.1, zStr[12].2.2.2) ∈ zStr := List.mem_of_getElem? (i := 12) (by decide +kernel)
theorem ws_RX11_203 : (RX11, 203, zStr[13].2.2.1, zStr[13].2.2.2) ∈ zStr := List.mem_of_getElem? (i := 13) (by decide +kernel)
theorem ws_RX11_208 : (RX11, 208, zStr[14].2.2.1, zStr[14].2.2.2) ∈ zStr := List.mem_of_getElem? (i := 14) (by decide +kernel)
theorem ws_RX11_210 : (RX11, 210, zStr[15].2.2.1, zStr[15].2.2.2) ∈ zStr := List.mem_of_getElem? (i := 15) (by decide +kernel)
theorem ws_RX11_215 : (RX11, 215, zStr[16].2.2.1, zStr[16].2.2.2) ∈ zStr := List.mem_of_getElem? (i := 16) (by decide +kernel)
