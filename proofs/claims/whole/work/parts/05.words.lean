/-! words of the tables, by their places -/
theorem zmem {w : Cond} (i : Nat) (h : tables_1[i]? = some w) (hg : goodWord w = true) : w ∈ zTW := List.mem_filter.mpr ⟨List.mem_append_right _ (List.mem_of_getElem? h), hg⟩
theorem zmem1 {w : Cond} (i : Nat) (h : tables_1_1[i]? = some w) (hg : goodWord w = true) : w ∈ zTW := List.mem_filter.mpr ⟨List.mem_append_right _ (show w ∈ tables_1 from List.mem_append_left _ (List.mem_of_getElem? h)), hg⟩
theorem zmem2 {w : Cond} (i : Nat) (h : tables_1_2[i]? = some w) (hg : goodWord w = true) : w ∈ zTW := List.mem_filter.mpr ⟨List.mem_append_right _ (show w ∈ tables_1 from List.mem_append_right _ (List.mem_append_left _ (List.mem_of_getElem? h))), hg⟩
theorem zmem3 {w : Cond} (i : Nat) (h : tables_1_3[i]? = some w) (hg : goodWord w = true) : w ∈ zTW := List.mem_filter.mpr ⟨List.mem_append_right _ (show w ∈ tables_1 from List.mem_append_right _ (List.mem_append_right _ (List.mem_append_left _ (List.mem_of_getElem? h)))), hg⟩
theorem zmem4 {w : Cond} (i : Nat) (h : tables_1_4[i]? = some w) (hg : goodWord w = true) : w ∈ zTW := List.mem_filter.mpr ⟨List.mem_append_right _ (show w ∈ tables_1 from List.mem_append_right _ (List.mem_append_right _ (List.mem_append_right _ (List.mem_append_left _ (List.mem_of_getElem? h))))), hg⟩
theorem zmem5 {w : Cond} (i : Nat) (h : tables_1_5[i]? = some w) (hg : goodWord w = true) : w ∈ zTW := List.mem_filter.mpr ⟨List.mem_append_right _ (show w ∈ tables_1 from List.mem_append_right _ (List.mem_append_right _ (List.mem_append_right _ (List.mem_append_right _ (List.mem_append_left _ (List.mem_of_getElem? h)))))), hg⟩
theorem zmem6 {w : Cond} (i : Nat) (h : tables_1_6[i]? = some w) (hg : goodWord w = true) : w ∈ zTW := List.mem_filter.mpr ⟨List.mem_append_right _ (show w ∈ tables_1 from List.mem_append_right _ (List.mem_append_right _ (List.mem_append_right _ (List.mem_append_right _ (List.mem_append_right _ (List.mem_append_left _ (List.mem_of_getElem? h))))))), hg⟩
theorem zmem7 {w : Cond} (i : Nat) (h : tables_1_7[i]? = some w) (hg : goodWord w = true) : w ∈ zTW := List.mem_filter.mpr ⟨List.mem_append_right _ (show w ∈ tables_1 from List.mem_append_right _ (List.mem_append_right _ (List.mem_append_right _ (List.mem_append_right _ (List.mem_append_right _ (List.mem_append_right _ (List.mem_append_left _ (List.mem_of_getElem? h)))))))), hg⟩
theorem zmem8 {w : Cond} (i : Nat) (h : tables_1_8[i]? = some w) (hg : goodWord w = true) : w ∈ zTW := List.mem_filter.mpr ⟨List.mem_append_right _ (show w ∈ tables_1 from List.mem_append_right _ (List.mem_append_right _ (List.mem_append_right _ (List.mem_append_right _ (List.mem_append_right _ (List.mem_append_right _ (List.mem_append_right _ (List.mem_of_getElem? h)))))))), hg⟩
theorem zmemP {w : Cond} (i : Nat) (h : (k2_sels lw_privs)[i]? = some w) (hg : goodWord w = true) : w ∈ zTW := List.mem_filter.mpr ⟨List.mem_append_left _ (List.mem_of_getElem? h), hg⟩
theorem zmemL {ws : List Cond} (ps : List Nat) (hp : ws = ps.filterMap (fun i => tables_1[i]?)) (h : ws.all goodWord = true) : ∀ w ∈ ws, w ∈ zTW := by
  intro w hw
  have h1 := List.all_eq_true.mp h w hw
  rw [hp] at hw
  obtain ⟨i, -, hi⟩ := List.mem_filterMap.mp hw
  exact zmem i hi h1
theorem zks0 {α : Type} {P : Nat → α → Prop} {l : List α} (h : ∀ (j : Nat) (b : α), l[j]? = some b → P (0 + j) b) : ∀ (j : Nat) (b : α), l[j]? = some b → P j b := fun j b hb => by have := h j b hb; rwa [Nat.zero_add] at this
theorem zSd_any {X : zX} {Y : zY} {u v pc : Nat} {I : Nat → zT} (h : ∀ n : Nat, zSd X Y u v pc (I n)) : zSd X Y u v pc (fun ls st h0 => ∃ n : Nat, I n ls st h0) := fun ls st h0 ⟨n, t⟩ => h n ls st h0 t
theorem zrm {X : zX} {rm : Room} {a b : Nat} (hR : xR X = rm) (h1 : Nat.ble a rm.frames = true) (h2 : Nat.ble b rm.locals = true) : a ≤ (xR X).frames ∧ b ≤ (xR X).locals ∧ 0 ≤ (xR X).cells ∧ 0 ≤ (xR X).slots := by
  rw [hR]
  exact ⟨Nat.le_of_ble_eq_true h1, Nat.le_of_ble_eq_true h2, Nat.zero_le _, Nat.zero_le _⟩
theorem zc_0 : zCl 0 RX1 TX1 9 tyX1 := ⟨rfl, zmemL [127, 129, 131, 133, 135, 137, 139, 141, 143] (by decide +kernel) (by decide +kernel), tyX1_ok, nmX1⟩
theorem zc_1 : zCl 1 RX2 TX2 1 tyX2 := ⟨rfl, zmemL [284] (by decide +kernel) (by decide +kernel), tyX2_ok, nmX2⟩
theorem zc_2 : zCl 2 RX3 TX3 5 tyX3 := ⟨rfl, zmemL [159, 161, 163, 165, 167] (by decide +kernel) (by decide +kernel), tyX3_ok, nmX3⟩
theorem zc_3 : zCl 3 RX4 TX4 1 tyX4 := ⟨rfl, zmemL [252] (by decide +kernel) (by decide +kernel), tyX4_ok, nmX4⟩
theorem zc_4 : zCl 4 RX5 TX5 4 tyX5 := ⟨rfl, zmemL [236, 238, 240, 242] (by decide +kernel) (by decide +kernel), tyX5_ok, nmX5⟩
theorem zc_5 : zCl 5 RX6 TX6 8 tyX6 := ⟨rfl, zmemL [77, 79, 81, 83, 85, 87, 89, 91] (by decide +kernel) (by decide +kernel), tyX6_ok, nmX6⟩
theorem zc_6 : zCl 6 RX7 TX7 3 tyX7 := ⟨rfl, zmemL [178, 180, 182] (by decide +kernel) (by decide +kernel), tyX7_ok, nmX7⟩
theorem zc_7 : zCl 7 RX8 TX8 8 tyX8 := ⟨rfl, zmemL [205, 207, 209, 211, 213, 215, 217, 219] (by decide +kernel) (by decide +kernel), tyX8_ok, nmX8⟩
theorem zc_8 : zCl 8 RX9 TX9 3 tyX9 := ⟨rfl, zmemL [266, 268, 270] (by decide +kernel) (by decide +kernel), tyX9_ok, nmX9⟩
theorem zc_9 : zCl 9 RX10 TX10 15 tyX10 := ⟨rfl, zmemL [302, 304, 306, 308, 310, 312, 314, 316, 318, 320, 322, 324, 326, 328, 330] (by decide +kernel) (by decide +kernel), tyX10_ok, nmX10⟩
theorem zc_10 : zCl 10 RX11 TX11 35 tyX11 := ⟨rfl, zmemL [1222, 1224, 1226, 1228, 1230, 1232, 1234, 1236, 1238, 1240, 1242, 1244, 1246, 1248, 1250, 1252, 1254, 1256, 1258, 1260, 1262, 1264, 1266, 1268, 1270, 1272, 1274, 1276, 1278, 1280, 1282, 1284, 1286, 1288, 1290] (by decide +kernel) (by decide +kernel), tyX11_ok, nmX11⟩
theorem twp_101 : Cond.selects RX11 yX11_followMany yX11_followMany ∈ zTW := zmemP 101 rfl rfl
theorem twp_100 : Cond.selects RX11 yX11_wouldFollow yX11_wouldFollow ∈ zTW := zmemP 100 rfl rfl
theorem twp_99 : Cond.selects RX11 yX11_nextNow yX11_nextNow ∈ zTW := zmemP 99 rfl rfl
theorem twp_98 : Cond.selects RX11 yX11_isRound yX11_isRound ∈ zTW := zmemP 98 rfl rfl
theorem twp_97 : Cond.selects RX11 yX11_canBe yX11_canBe ∈ zTW := zmemP 97 rfl rfl
theorem twp_96 : Cond.selects RX11 yX11_left yX11_left ∈ zTW := zmemP 96 rfl rfl
theorem twp_95 : Cond.selects RX11 yX11_leaks yX11_leaks ∈ zTW := zmemP 95 rfl rfl
theorem twp_94 : Cond.selects RX11 yX11_sure yX11_sure ∈ zTW := zmemP 94 rfl rfl
theorem twp_93 : Cond.selects RX11 yX11_isApart yX11_isApart ∈ zTW := zmemP 93 rfl rfl
theorem twp_92 : Cond.selects RX11 yX11_waysOf yX11_waysOf ∈ zTW := zmemP 92 rfl rfl
theorem twp_91 : Cond.selects RX11 yX11_compares yX11_compares ∈ zTW := zmemP 91 rfl rfl
theorem twp_90 : Cond.selects RX11 yX11_waysBy yX11_waysBy ∈ zTW := zmemP 90 rfl rfl
theorem twp_89 : Cond.selects RX11 yX11_isShaky yX11_isShaky ∈ zTW := zmemP 89 rfl rfl
theorem twp_88 : Cond.selects RX11 yX11_isSafe yX11_isSafe ∈ zTW := zmemP 88 rfl rfl
theorem twp_87 : Cond.selects RX11 yX11_keptBlocks yX11_keptBlocks ∈ zTW := zmemP 87 rfl rfl
theorem twp_86 : Cond.selects RX11 yX11_firstUnsafe yX11_firstUnsafe ∈ zTW := zmemP 86 rfl rfl
theorem twp_85 : Cond.selects RX11 yX11_isRefused yX11_isRefused ∈ zTW := zmemP 85 rfl rfl
theorem twp_84 : Cond.selects RX11 yX11_decoded yX11_decoded ∈ zTW := zmemP 84 rfl rfl
theorem twp_83 : Cond.selects RX11 yX11_drawn yX11_drawn ∈ zTW := zmemP 83 rfl rfl
theorem twp_82 : Cond.selects RX11 yX11_readsAll yX11_readsAll ∈ zTW := zmemP 82 rfl rfl
theorem twp_81 : Cond.selects RX11 yX11_follows yX11_follows ∈ zTW := zmemP 81 rfl rfl
theorem twp_80 : Cond.selects RX11 yX11_closes yX11_closes ∈ zTW := zmemP 80 rfl rfl
theorem twp_79 : Cond.selects RX11 yX11_puts_ yX11_puts_ ∈ zTW := zmemP 79 rfl rfl
theorem twp_78 : Cond.selects RX11 yX11_putsHeard yX11_putsHeard ∈ zTW := zmemP 78 rfl rfl
theorem twp_77 : Cond.selects RX11 yX11_noOrder yX11_noOrder ∈ zTW := zmemP 77 rfl rfl
theorem twp_76 : Cond.selects RX11 yX11_laysHeard yX11_laysHeard ∈ zTW := zmemP 76 rfl rfl
theorem twp_75 : Cond.selects RX11 yX11_followsNow yX11_followsNow ∈ zTW := zmemP 75 rfl rfl
theorem twp_74 : Cond.selects RX11 yX11_blockOf yX11_blockOf ∈ zTW := zmemP 74 rfl rfl
theorem twp_73 : Cond.selects RX11 yX11_keptAt yX11_keptAt ∈ zTW := zmemP 73 rfl rfl
theorem twp_72 : Cond.selects RX11 yX11_isHeat yX11_isHeat ∈ zTW := zmemP 72 rfl rfl
theorem twp_71 : Cond.selects RX11 yX11_pairsWith yX11_pairsWith ∈ zTW := zmemP 71 rfl rfl
theorem twp_70 : Cond.selects RX11 yX11_keptBits yX11_keptBits ∈ zTW := zmemP 70 rfl rfl
theorem twp_69 : Cond.selects RX11 yX11_steadyMany yX11_steadyMany ∈ zTW := zmemP 69 rfl rfl
theorem twp_68 : Cond.selects RX11 yX11_isKept yX11_isKept ∈ zTW := zmemP 68 rfl rfl
theorem twp_67 : Cond.selects RX11 yX11_guessOf yX11_guessOf ∈ zTW := zmemP 67 rfl rfl
theorem twp_66 : Cond.selects RX11 yX11_epoch yX11_epoch ∈ zTW := zmemP 66 rfl rfl
theorem twp_65 : Cond.selects RX11 yX11_heardAt yX11_heardAt ∈ zTW := zmemP 65 rfl rfl
theorem twp_64 : Cond.selects RX11 yX11_isPair yX11_isPair ∈ zTW := zmemP 64 rfl rfl
theorem twp_63 : Cond.selects RX11 yX11_words yX11_words ∈ zTW := zmemP 63 rfl rfl
theorem twp_62 : Cond.selects RX11 yX11_secretBits yX11_secretBits ∈ zTW := zmemP 62 rfl rfl
theorem twp_61 : Cond.selects RX11 yX11_blocksOf yX11_blocksOf ∈ zTW := zmemP 61 rfl rfl
theorem twp_60 : Cond.selects RX11 yX11_noiseOf yX11_noiseOf ∈ zTW := zmemP 60 rfl rfl
theorem twp_59 : Cond.selects RX11 yX11_bitAt yX11_bitAt ∈ zTW := zmemP 59 rfl rfl
theorem twp_58 : Cond.selects RX11 yX11_bitOf yX11_bitOf ∈ zTW := zmemP 58 rfl rfl
theorem twp_57 : Cond.selects RX11 yX11_speedOf yX11_speedOf ∈ zTW := zmemP 57 rfl rfl
theorem twp_56 : Cond.selects RX11 yX11_apart yX11_apart ∈ zTW := zmemP 56 rfl rfl
theorem twp_55 : Cond.selects RX11 yX11_marginOf yX11_marginOf ∈ zTW := zmemP 55 rfl rfl
theorem twp_54 : Cond.selects RX11 yX11_isSteady yX11_isSteady ∈ zTW := zmemP 54 rfl rfl
theorem twp_53 : Cond.selects RX11 yX11_usedBy yX11_usedBy ∈ zTW := zmemP 53 rfl rfl
theorem twp_52 : Cond.selects RX11 yX11_usedNow yX11_usedNow ∈ zTW := zmemP 52 rfl rfl
theorem twp_51 : Cond.selects RX11 yX11_blocks yX11_blocks ∈ zTW := zmemP 51 rfl rfl
theorem twp_50 : Cond.selects RX11 yX11_isRing yX11_isRing ∈ zTW := zmemP 50 rfl rfl
theorem twp_49 : Cond.selects RX11 yX11_keeps yX11_keeps ∈ zTW := zmemP 49 rfl rfl
theorem twp_48 : Cond.selects RX11 yX11_maySet yX11_maySet ∈ zTW := zmemP 48 rfl rfl
theorem twp_47 : Cond.selects RX11 yX11_repeatTold yX11_repeatTold ∈ zTW := zmemP 47 rfl rfl
theorem twp_46 : Cond.selects RX11 yX11_heatsTold yX11_heatsTold ∈ zTW := zmemP 46 rfl rfl
theorem twp_45 : Cond.selects RX11 yX11_pairTold yX11_pairTold ∈ zTW := zmemP 45 rfl rfl
theorem twp_44 : Cond.selects RX11 yX11_number yX11_number ∈ zTW := zmemP 44 rfl rfl
theorem twp_43 : Cond.selects RX11 yX11_wrong yX11_wrong ∈ zTW := zmemP 43 rfl rfl
theorem twp_42 : Cond.selects RX11 yX11_ringTold yX11_ringTold ∈ zTW := zmemP 42 rfl rfl
theorem twp_41 : Cond.selects RX11 yX11_isSmall yX11_isSmall ∈ zTW := zmemP 41 rfl rfl
theorem twp_40 : Cond.selects RX11 yX11_passes yX11_passes ∈ zTW := zmemP 40 rfl rfl
theorem twp_39 : Cond.selects RX11 yX11_oneLine yX11_oneLine ∈ zTW := zmemP 39 rfl rfl
theorem twp_38 : Cond.selects RX11 yX11_sign yX11_sign ∈ zTW := zmemP 38 rfl rfl
theorem twp_37 : Cond.selects RX11 yX11_isFine yX11_isFine ∈ zTW := zmemP 37 rfl rfl
theorem twp_36 : Cond.selects RX11 yX11_puts yX11_puts ∈ zTW := zmemP 36 rfl rfl
theorem twp_35 : Cond.selects RX10 yX10_guessedRight yX10_guessedRight ∈ zTW := zmemP 35 rfl rfl
theorem twp_34 : Cond.selects RX10 yX10_epochsToLearn yX10_epochsToLearn ∈ zTW := zmemP 34 rfl rfl
theorem twp_33 : Cond.selects RX2 yX2_putBlock yX2_putBlock ∈ zTW := zmemP 33 rfl rfl
theorem twp_32 : Cond.selects RX2 yX2_countFrom yX2_countFrom ∈ zTW := zmemP 32 rfl rfl
theorem twp_31 : Cond.selects RX10 yX10_sureOfEnrolled yX10_sureOfEnrolled ∈ zTW := zmemP 31 rfl rfl
theorem twp_30 : Cond.selects RX9 yX9_countOf yX9_countOf ∈ zTW := zmemP 30 rfl rfl
theorem twp_29 : Cond.selects RX9 yX9_link yX9_link ∈ zTW := zmemP 29 rfl rfl
theorem twp_28 : Cond.selects RX10 yX10_marginsFrom yX10_marginsFrom ∈ zTW := zmemP 28 rfl rfl
theorem twp_27 : Cond.selects RX10 yX10_isSafeAt yX10_isSafeAt ∈ zTW := zmemP 27 rfl rfl
theorem twp_26 : Cond.selects RX5 yX5_noisySpeed yX5_noisySpeed ∈ zTW := zmemP 26 rfl rfl
theorem twp_25 : Cond.selects RX10 yX10_needHeat yX10_needHeat ∈ zTW := zmemP 25 rfl rfl
theorem twp_24 : Cond.selects RX10 yX10_toldOfEnrolled yX10_toldOfEnrolled ∈ zTW := zmemP 24 rfl rfl
theorem twp_23 : Cond.selects RX10 yX10_needEnrolled yX10_needEnrolled ∈ zTW := zmemP 23 rfl rfl
theorem twp_22 : Cond.selects RX10 yX10_refuseState yX10_refuseState ∈ zTW := zmemP 22 rfl rfl
theorem twp_21 : Cond.selects RX10 yX10_needTrait yX10_needTrait ∈ zTW := zmemP 21 rfl rfl
theorem twp_20 : Cond.selects RX10 yX10_refuseMissing yX10_refuseMissing ∈ zTW := zmemP 20 rfl rfl
theorem twp_19 : Cond.selects RX10 yX10_needCounted yX10_needCounted ∈ zTW := zmemP 19 rfl rfl
theorem twp_18 : Cond.selects RX10 yX10_remember yX10_remember ∈ zTW := zmemP 18 rfl rfl
theorem twp_17 : Cond.selects RX10 yX10_needSetting yX10_needSetting ∈ zTW := zmemP 17 rfl rfl
theorem twp_16 : Cond.selects RX8 yX8_readEndOfLine yX8_readEndOfLine ∈ zTW := zmemP 16 rfl rfl
theorem twp_15 : Cond.selects RX8 yX8_readRepeat yX8_readRepeat ∈ zTW := zmemP 15 rfl rfl
theorem twp_14 : Cond.selects RX8 yX8_readPair yX8_readPair ∈ zTW := zmemP 14 rfl rfl
theorem twp_13 : Cond.selects RX8 yX8_readSigned yX8_readSigned ∈ zTW := zmemP 13 rfl rfl
theorem twp_12 : Cond.selects RX8 yX8_needNumber yX8_needNumber ∈ zTW := zmemP 12 rfl rfl
theorem twp_11 : Cond.selects RX8 yX8_readDigits yX8_readDigits ∈ zTW := zmemP 11 rfl rfl
theorem twp_10 : Cond.selects RX8 yX8_readNumber yX8_readNumber ∈ zTW := zmemP 10 rfl rfl
theorem twp_9 : Cond.selects RX8 yX8_fail yX8_fail ∈ zTW := zmemP 9 rfl rfl
theorem twp_8 : Cond.selects RX8 yX8_readRing yX8_readRing ∈ zTW := zmemP 8 rfl rfl
theorem twp_7 : Cond.selects RX8 yX8_isWord yX8_isWord ∈ zTW := zmemP 7 rfl rfl
theorem twp_6 : Cond.selects RX8 yX8_readLine yX8_readLine ∈ zTW := zmemP 6 rfl rfl
theorem twp_5 : Cond.selects RX8 yX8_skipBlanks yX8_skipBlanks ∈ zTW := zmemP 5 rfl rfl
theorem twp_3 : Cond.selects RX10 yX10_refuseArgument yX10_refuseArgument ∈ zTW := zmemP 3 rfl rfl
theorem twp_2 : Cond.selects RX10 yX10_needBetween yX10_needBetween ∈ zTW := zmemP 2 rfl rfl
theorem twp_1 : Cond.selects RX10 yX10_followersIf yX10_followersIf ∈ zTW := zmemP 1 rfl rfl
theorem twp_0 : Cond.selects RX10 yX10_nextFor yX10_nextFor ∈ zTW := zmemP 0 rfl rfl
theorem tw_0 : Cond.initialized RL ∈ zTW := zmem1 0 rfl rfl
theorem tw_1 : Cond.initialized RX10 ∈ zTW := zmem1 1 rfl rfl
theorem tw_2 : Cond.initialized RX7 ∈ zTW := zmem1 2 rfl rfl
theorem tw_3 : Cond.initialized RX6 ∈ zTW := zmem1 3 rfl rfl
theorem tw_4 : Cond.initialized RX1 ∈ zTW := zmem1 4 rfl rfl
theorem tw_5 : Cond.initialized RX3 ∈ zTW := zmem1 5 rfl rfl
theorem tw_6 : Cond.initialized RX8 ∈ zTW := zmem1 6 rfl rfl
theorem tw_7 : Cond.initialized RX5 ∈ zTW := zmem1 7 rfl rfl
theorem tw_8 : Cond.initialized RX4 ∈ zTW := zmem1 8 rfl rfl
theorem tw_9 : Cond.initialized RX9 ∈ zTW := zmem1 9 rfl rfl
theorem tw_10 : Cond.initialized RX2 ∈ zTW := zmem1 10 rfl rfl
theorem tw_11 : Cond.initialized RX11 ∈ zTW := zmem1 11 rfl rfl
theorem tw_12 : Cond.initialized "java/lang/Throwable" ∈ zTW := zmem1 12 rfl rfl
theorem tw_13 : Cond.initialized "java/lang/Exception" ∈ zTW := zmem1 13 rfl rfl
theorem tw_14 : Cond.initialized "java/lang/RuntimeException" ∈ zTW := zmem1 14 rfl rfl
theorem tw_15 : Cond.initialized "java/lang/IllegalArgumentException" ∈ zTW := zmem1 15 rfl rfl
theorem tw_16 : Cond.initialized RJ9 ∈ zTW := zmem1 16 rfl rfl
theorem tw_17 : Cond.initialized RJ0 ∈ zTW := zmem1 17 rfl rfl
theorem tw_18 : Cond.initialized RJ1 ∈ zTW := zmem1 18 rfl rfl
theorem tw_19 : Cond.initialized RJ3 ∈ zTW := zmem1 19 rfl rfl
theorem tw_20 : Cond.initialized RJ2 ∈ zTW := zmem1 20 rfl rfl
theorem tw_21 : Cond.initialized RX0 ∈ zTW := zmem1 21 rfl rfl
theorem tw_22 : Cond.initialized RJ10 ∈ zTW := zmem1 22 rfl rfl
theorem tw_23 : Cond.initialized "java/util/NoSuchElementException" ∈ zTW := zmem1 23 rfl rfl
theorem tw_24 : Cond.initialized RJ6 ∈ zTW := zmem1 24 rfl rfl
theorem tw_25 : Cond.initialized "java/lang/IllegalStateException" ∈ zTW := zmem1 25 rfl rfl
theorem tw_28 : Cond.methodLink RL 96 yX10_init ∈ zTW := zmem1 28 rfl rfl
theorem tw_30 : Cond.code yX10_init cX10_init 2 none ∈ zTW := zmem1 30 rfl rfl
theorem tw_31 : Cond.methodLink RX10 1 ⟨"java/lang/Object", "<init>", "()V"⟩ ∈ zTW := zmem1 31 rfl rfl
theorem tw_38 : Cond.code yX7_init cX7_init 1 none ∈ zTW := zmem1 38 rfl rfl
theorem tw_39 : Cond.methodLink RX7 1 ⟨"java/lang/Object", "<init>", "()V"⟩ ∈ zTW := zmem1 39 rfl rfl
theorem tw_42 : Cond.methodLink RX7 9 yX6_init ∈ zTW := zmem1 42 rfl rfl
theorem tw_44 : Cond.code yX6_init cX6_init 1 none ∈ zTW := zmem1 44 rfl rfl
theorem tw_45 : Cond.methodLink RX6 3 ⟨"java/lang/Object", "<init>", "()V"⟩ ∈ zTW := zmem1 45 rfl rfl
theorem tw_46 : Cond.fieldLink RX6 30 (TX6 0).1 (TX6 0).2.1 (TX6 0).2.2.1 ∈ zTW := zmem1 46 rfl rfl
theorem tw_47 : Cond.fieldLink RX9 26 (TX6 0).1 (TX6 0).2.1 (TX6 0).2.2.1 ∈ zTW := zmem1 47 rfl rfl
theorem tw_48 : Cond.fieldLink RX10 130 (TX6 0).1 (TX6 0).2.1 (TX6 0).2.2.1 ∈ zTW := zmem1 48 rfl rfl
theorem tw_49 : Cond.fieldLink RX8 106 (TX6 0).1 (TX6 0).2.1 (TX6 0).2.2.1 ∈ zTW := zmem1 49 rfl rfl
theorem tw_50 : Cond.fieldLink RX6 9 (TX6 1).1 (TX6 1).2.1 (TX6 1).2.2.1 ∈ zTW := zmem1 50 rfl rfl
theorem tw_51 : Cond.fieldLink RX6 15 (TX6 2).1 (TX6 2).2.1 (TX6 2).2.2.1 ∈ zTW := zmem1 51 rfl rfl
theorem tw_52 : Cond.fieldLink RX6 18 (TX6 3).1 (TX6 3).2.1 (TX6 3).2.2.1 ∈ zTW := zmem1 52 rfl rfl
theorem tw_53 : Cond.fieldLink RX5 94 (TX6 3).1 (TX6 3).2.1 (TX6 3).2.2.1 ∈ zTW := zmem1 53 rfl rfl
theorem tw_54 : Cond.fieldLink RX6 34 (TX6 4).1 (TX6 4).2.1 (TX6 4).2.2.1 ∈ zTW := zmem1 54 rfl rfl
theorem tw_55 : Cond.fieldLink RX10 114 (TX6 4).1 (TX6 4).2.1 (TX6 4).2.2.1 ∈ zTW := zmem1 55 rfl rfl
theorem tw_56 : Cond.fieldLink RX9 36 (TX6 4).1 (TX6 4).2.1 (TX6 4).2.2.1 ∈ zTW := zmem1 56 rfl rfl
theorem tw_57 : Cond.fieldLink RX1 65 (TX6 4).1 (TX6 4).2.1 (TX6 4).2.2.1 ∈ zTW := zmem1 57 rfl rfl
theorem tw_58 : Cond.fieldLink RX8 113 (TX6 4).1 (TX6 4).2.1 (TX6 4).2.2.1 ∈ zTW := zmem1 58 rfl rfl
theorem tw_59 : Cond.fieldLink RX6 21 (TX6 5).1 (TX6 5).2.1 (TX6 5).2.2.1 ∈ zTW := zmem1 59 rfl rfl
theorem tw_60 : Cond.fieldLink RX5 27 (TX6 5).1 (TX6 5).2.1 (TX6 5).2.2.1 ∈ zTW := zmem1 60 rfl rfl
theorem tw_61 : Cond.fieldLink RX9 43 (TX6 5).1 (TX6 5).2.1 (TX6 5).2.2.1 ∈ zTW := zmem1 61 rfl rfl
theorem tw_62 : Cond.fieldLink RX2 81 (TX6 5).1 (TX6 5).2.1 (TX6 5).2.2.1 ∈ zTW := zmem1 62 rfl rfl
theorem tw_63 : Cond.fieldLink RX4 25 (TX6 5).1 (TX6 5).2.1 (TX6 5).2.2.1 ∈ zTW := zmem1 63 rfl rfl
theorem tw_64 : Cond.fieldLink RX3 42 (TX6 5).1 (TX6 5).2.1 (TX6 5).2.2.1 ∈ zTW := zmem1 64 rfl rfl
theorem tw_65 : Cond.fieldLink RX10 217 (TX6 5).1 (TX6 5).2.1 (TX6 5).2.2.1 ∈ zTW := zmem1 65 rfl rfl
theorem tw_66 : Cond.fieldLink RX6 24 (TX6 6).1 (TX6 6).2.1 (TX6 6).2.2.1 ∈ zTW := zmem1 66 rfl rfl
theorem tw_67 : Cond.fieldLink RX5 38 (TX6 6).1 (TX6 6).2.1 (TX6 6).2.2.1 ∈ zTW := zmem1 67 rfl rfl
theorem tw_68 : Cond.fieldLink RX9 46 (TX6 6).1 (TX6 6).2.1 (TX6 6).2.2.1 ∈ zTW := zmem1 68 rfl rfl
theorem tw_69 : Cond.fieldLink RX2 86 (TX6 6).1 (TX6 6).2.1 (TX6 6).2.2.1 ∈ zTW := zmem1 69 rfl rfl
theorem tw_70 : Cond.fieldLink RX4 30 (TX6 6).1 (TX6 6).2.1 (TX6 6).2.2.1 ∈ zTW := zmem1 70 rfl rfl
theorem tw_71 : Cond.fieldLink RX3 47 (TX6 6).1 (TX6 6).2.1 (TX6 6).2.2.1 ∈ zTW := zmem1 71 rfl rfl
theorem tw_72 : Cond.fieldLink RX10 220 (TX6 6).1 (TX6 6).2.1 (TX6 6).2.2.1 ∈ zTW := zmem1 72 rfl rfl
theorem tw_73 : Cond.fieldLink RX6 27 (TX6 7).1 (TX6 7).2.1 (TX6 7).2.2.1 ∈ zTW := zmem1 73 rfl rfl
theorem tw_74 : Cond.fieldLink RX1 46 (TX6 7).1 (TX6 7).2.1 (TX6 7).2.2.1 ∈ zTW := zmem1 74 rfl rfl
theorem tw_75 : Cond.fieldLink RX10 127 (TX6 7).1 (TX6 7).2.1 (TX6 7).2.2.1 ∈ zTW := zmem1 75 rfl rfl
theorem tw_76 : Cond.fieldLink RX8 73 (TX6 7).1 (TX6 7).2.1 (TX6 7).2.2.1 ∈ zTW := zmem1 76 rfl rfl
theorem tw_99 : Cond.code yX1_init cX1_init 1 none ∈ zTW := zmem1 99 rfl rfl
theorem tw_100 : Cond.methodLink RX1 3 ⟨"java/lang/Object", "<init>", "()V"⟩ ∈ zTW := zmem1 100 rfl rfl
theorem tw_101 : Cond.fieldLink RX1 15 (TX1 0).1 (TX1 0).2.1 (TX1 0).2.2.1 ∈ zTW := zmem1 101 rfl rfl
theorem tw_102 : Cond.fieldLink RX5 13 (TX1 0).1 (TX1 0).2.1 (TX1 0).2.2.1 ∈ zTW := zmem1 102 rfl rfl
theorem tw_103 : Cond.fieldLink RX10 174 (TX1 0).1 (TX1 0).2.1 (TX1 0).2.2.1 ∈ zTW := zmem1 103 rfl rfl
theorem tw_104 : Cond.fieldLink RX1 9 (TX1 1).1 (TX1 1).2.1 (TX1 1).2.2.1 ∈ zTW := zmem1 104 rfl rfl
theorem tw_105 : Cond.fieldLink RX5 19 (TX1 1).1 (TX1 1).2.1 (TX1 1).2.2.1 ∈ zTW := zmem1 105 rfl rfl
theorem tw_106 : Cond.fieldLink RX2 74 (TX1 1).1 (TX1 1).2.1 (TX1 1).2.2.1 ∈ zTW := zmem1 106 rfl rfl
theorem tw_107 : Cond.fieldLink RX5 60 (TX1 2).1 (TX1 2).2.1 (TX1 2).2.2.1 ∈ zTW := zmem1 107 rfl rfl
theorem tw_108 : Cond.fieldLink RX1 28 (TX1 2).1 (TX1 2).2.1 (TX1 2).2.2.1 ∈ zTW := zmem1 108 rfl rfl
theorem tw_109 : Cond.fieldLink RX2 39 (TX1 2).1 (TX1 2).2.1 (TX1 2).2.2.1 ∈ zTW := zmem1 109 rfl rfl
theorem tw_110 : Cond.fieldLink RX1 19 (TX1 3).1 (TX1 3).2.1 (TX1 3).2.2.1 ∈ zTW := zmem1 110 rfl rfl
theorem tw_111 : Cond.fieldLink RX5 63 (TX1 3).1 (TX1 3).2.1 (TX1 3).2.2.1 ∈ zTW := zmem1 111 rfl rfl
theorem tw_112 : Cond.fieldLink RX2 30 (TX1 3).1 (TX1 3).2.1 (TX1 3).2.2.1 ∈ zTW := zmem1 112 rfl rfl
theorem tw_113 : Cond.fieldLink RX5 45 (TX1 4).1 (TX1 4).2.1 (TX1 4).2.2.1 ∈ zTW := zmem1 113 rfl rfl
theorem tw_114 : Cond.fieldLink RX1 31 (TX1 4).1 (TX1 4).2.1 (TX1 4).2.2.1 ∈ zTW := zmem1 114 rfl rfl
theorem tw_115 : Cond.fieldLink RX10 243 (TX1 4).1 (TX1 4).2.1 (TX1 4).2.2.1 ∈ zTW := zmem1 115 rfl rfl
theorem tw_116 : Cond.fieldLink RX5 57 (TX1 5).1 (TX1 5).2.1 (TX1 5).2.2.1 ∈ zTW := zmem1 116 rfl rfl
theorem tw_117 : Cond.fieldLink RX1 34 (TX1 5).1 (TX1 5).2.1 (TX1 5).2.2.1 ∈ zTW := zmem1 117 rfl rfl
theorem tw_118 : Cond.fieldLink RX2 71 (TX1 5).1 (TX1 5).2.1 (TX1 5).2.2.1 ∈ zTW := zmem1 118 rfl rfl
theorem tw_119 : Cond.fieldLink RX10 177 (TX1 5).1 (TX1 5).2.1 (TX1 5).2.2.1 ∈ zTW := zmem1 119 rfl rfl
theorem tw_120 : Cond.fieldLink RX1 37 (TX1 6).1 (TX1 6).2.1 (TX1 6).2.2.1 ∈ zTW := zmem1 120 rfl rfl
theorem tw_121 : Cond.fieldLink RX1 40 (TX1 7).1 (TX1 7).2.1 (TX1 7).2.2.1 ∈ zTW := zmem1 121 rfl rfl
theorem tw_122 : Cond.fieldLink RX10 290 (TX1 7).1 (TX1 7).2.1 (TX1 7).2.2.1 ∈ zTW := zmem1 122 rfl rfl
theorem tw_123 : Cond.fieldLink RX5 87 (TX1 8).1 (TX1 8).2.1 (TX1 8).2.2.1 ∈ zTW := zmem1 123 rfl rfl
theorem tw_124 : Cond.fieldLink RX2 36 (TX1 8).1 (TX1 8).2.1 (TX1 8).2.2.1 ∈ zTW := zmem1 124 rfl rfl
theorem tw_125 : Cond.fieldLink RX1 43 (TX1 8).1 (TX1 8).2.1 (TX1 8).2.2.1 ∈ zTW := zmem1 125 rfl rfl
theorem tw_126 : Cond.fieldLink RX10 392 (TX1 8).1 (TX1 8).2.1 (TX1 8).2.2.1 ∈ zTW := zmem1 126 rfl rfl
theorem tw_150 : Cond.code yX3_init cX3_init 1 none ∈ zTW := zmem1 150 rfl rfl
theorem tw_151 : Cond.methodLink RX3 3 ⟨"java/lang/Object", "<init>", "()V"⟩ ∈ zTW := zmem1 151 rfl rfl
theorem tw_152 : Cond.fieldLink RX3 18 (TX3 0).1 (TX3 0).2.1 (TX3 0).2.2.1 ∈ zTW := zmem1 152 rfl rfl
theorem tw_153 : Cond.fieldLink RX10 195 (TX3 0).1 (TX3 0).2.1 (TX3 0).2.2.1 ∈ zTW := zmem1 153 rfl rfl
theorem tw_154 : Cond.fieldLink RX3 9 (TX3 1).1 (TX3 1).2.1 (TX3 1).2.2.1 ∈ zTW := zmem1 154 rfl rfl
theorem tw_155 : Cond.fieldLink RX3 22 (TX3 2).1 (TX3 2).2.1 (TX3 2).2.2.1 ∈ zTW := zmem1 155 rfl rfl
theorem tw_156 : Cond.fieldLink RX3 25 (TX3 3).1 (TX3 3).2.1 (TX3 3).2.2.1 ∈ zTW := zmem1 156 rfl rfl
theorem tw_157 : Cond.fieldLink RX3 15 (TX3 4).1 (TX3 4).2.1 (TX3 4).2.2.1 ∈ zTW := zmem1 157 rfl rfl
theorem tw_158 : Cond.fieldLink RX10 199 (TX3 4).1 (TX3 4).2.1 (TX3 4).2.2.1 ∈ zTW := zmem1 158 rfl rfl
theorem tw_170 : Cond.fieldLink RX7 10 (TX7 0).1 (TX7 0).2.1 (TX7 0).2.2.1 ∈ zTW := zmem1 170 rfl rfl
theorem tw_171 : Cond.fieldLink RX5 23 (TX7 0).1 (TX7 0).2.1 (TX7 0).2.2.1 ∈ zTW := zmem1 171 rfl rfl
theorem tw_172 : Cond.fieldLink RX10 85 (TX7 0).1 (TX7 0).2.1 (TX7 0).2.2.1 ∈ zTW := zmem1 172 rfl rfl
theorem tw_173 : Cond.fieldLink RX7 19 (TX7 1).1 (TX7 1).2.1 (TX7 1).2.2.1 ∈ zTW := zmem1 173 rfl rfl
theorem tw_174 : Cond.fieldLink RX5 7 (TX7 1).1 (TX7 1).2.1 (TX7 1).2.2.1 ∈ zTW := zmem1 174 rfl rfl
theorem tw_175 : Cond.fieldLink RX10 98 (TX7 1).1 (TX7 1).2.1 (TX7 1).2.2.1 ∈ zTW := zmem1 175 rfl rfl
theorem tw_176 : Cond.fieldLink RX7 26 (TX7 2).1 (TX7 2).2.1 (TX7 2).2.2.1 ∈ zTW := zmem1 176 rfl rfl
theorem tw_177 : Cond.fieldLink RX10 107 (TX7 2).1 (TX7 2).2.1 (TX7 2).2.2.1 ∈ zTW := zmem1 177 rfl rfl
theorem tw_190 : Cond.code yX8_init cX8_init 1 none ∈ zTW := zmem1 190 rfl rfl
theorem tw_191 : Cond.methodLink RX8 3 ⟨"java/lang/Object", "<init>", "()V"⟩ ∈ zTW := zmem1 191 rfl rfl
theorem tw_193 : Cond.methodLink RX8 11 yX6_init ∈ zTW := zmem1 193 rfl rfl
theorem tw_194 : Cond.fieldLink RX8 12 (TX8 0).1 (TX8 0).2.1 (TX8 0).2.2.1 ∈ zTW := zmem1 194 rfl rfl
theorem tw_195 : Cond.fieldLink RX10 89 (TX8 0).1 (TX8 0).2.1 (TX8 0).2.2.1 ∈ zTW := zmem1 195 rfl rfl
theorem tw_196 : Cond.fieldLink RX8 18 (TX8 1).1 (TX8 1).2.1 (TX8 1).2.2.1 ∈ zTW := zmem1 196 rfl rfl
theorem tw_197 : Cond.fieldLink RX10 117 (TX8 1).1 (TX8 1).2.1 (TX8 1).2.2.1 ∈ zTW := zmem1 197 rfl rfl
theorem tw_198 : Cond.fieldLink RX8 41 (TX8 2).1 (TX8 2).2.1 (TX8 2).2.2.1 ∈ zTW := zmem1 198 rfl rfl
theorem tw_199 : Cond.fieldLink RX8 22 (TX8 3).1 (TX8 3).2.1 (TX8 3).2.2.1 ∈ zTW := zmem1 199 rfl rfl
theorem tw_200 : Cond.fieldLink RX10 69 (TX8 4).1 (TX8 4).2.1 (TX8 4).2.2.1 ∈ zTW := zmem1 200 rfl rfl
theorem tw_201 : Cond.fieldLink RX8 26 (TX8 4).1 (TX8 4).2.1 (TX8 4).2.2.1 ∈ zTW := zmem1 201 rfl rfl
theorem tw_202 : Cond.fieldLink RX8 35 (TX8 5).1 (TX8 5).2.1 (TX8 5).2.2.1 ∈ zTW := zmem1 202 rfl rfl
theorem tw_203 : Cond.fieldLink RX8 38 (TX8 6).1 (TX8 6).2.1 (TX8 6).2.2.1 ∈ zTW := zmem1 203 rfl rfl
theorem tw_204 : Cond.fieldLink RX8 116 (TX8 7).1 (TX8 7).2.1 (TX8 7).2.2.1 ∈ zTW := zmem1 204 rfl rfl
theorem tw_226 : Cond.code yX5_init cX5_init 1 none ∈ zTW := zmem1 226 rfl rfl
theorem tw_227 : Cond.methodLink RX5 1 ⟨"java/lang/Object", "<init>", "()V"⟩ ∈ zTW := zmem1 227 rfl rfl
theorem tw_228 : Cond.fieldLink RX5 97 (TX5 0).1 (TX5 0).2.1 (TX5 0).2.2.1 ∈ zTW := zmem1 228 rfl rfl
theorem tw_229 : Cond.fieldLink RX10 270 (TX5 0).1 (TX5 0).2.1 (TX5 0).2.2.1 ∈ zTW := zmem1 229 rfl rfl
theorem tw_230 : Cond.fieldLink RX5 54 (TX5 1).1 (TX5 1).2.1 (TX5 1).2.2.1 ∈ zTW := zmem1 230 rfl rfl
theorem tw_231 : Cond.fieldLink RX10 280 (TX5 1).1 (TX5 1).2.1 (TX5 1).2.2.1 ∈ zTW := zmem1 231 rfl rfl
theorem tw_232 : Cond.fieldLink RX5 71 (TX5 2).1 (TX5 2).2.1 (TX5 2).2.2.1 ∈ zTW := zmem1 232 rfl rfl
theorem tw_233 : Cond.fieldLink RX10 277 (TX5 2).1 (TX5 2).2.1 (TX5 2).2.2.1 ∈ zTW := zmem1 233 rfl rfl
theorem tw_234 : Cond.fieldLink RX5 77 (TX5 3).1 (TX5 3).2.1 (TX5 3).2.2.1 ∈ zTW := zmem1 234 rfl rfl
theorem tw_235 : Cond.fieldLink RX10 283 (TX5 3).1 (TX5 3).2.1 (TX5 3).2.2.1 ∈ zTW := zmem1 235 rfl rfl
theorem tw_249 : Cond.code yX4_init cX4_init 1 none ∈ zTW := zmem2 9 rfl rfl
theorem tw_250 : Cond.methodLink RX4 3 ⟨"java/lang/Object", "<init>", "()V"⟩ ∈ zTW := zmem2 10 rfl rfl
theorem tw_251 : Cond.fieldLink RX4 9 (TX4 0).1 (TX4 0).2.1 (TX4 0).2.2.1 ∈ zTW := zmem2 11 rfl rfl
theorem tw_261 : Cond.code yX9_init cX9_init 1 none ∈ zTW := zmem2 21 rfl rfl
theorem tw_262 : Cond.methodLink RX9 3 ⟨"java/lang/Object", "<init>", "()V"⟩ ∈ zTW := zmem2 22 rfl rfl
theorem tw_263 : Cond.fieldLink RX9 9 (TX9 0).1 (TX9 0).2.1 (TX9 0).2.2.1 ∈ zTW := zmem2 23 rfl rfl
theorem tw_264 : Cond.fieldLink RX9 15 (TX9 1).1 (TX9 1).2.1 (TX9 1).2.2.1 ∈ zTW := zmem2 24 rfl rfl
theorem tw_265 : Cond.fieldLink RX9 18 (TX9 2).1 (TX9 2).2.1 (TX9 2).2.2.1 ∈ zTW := zmem2 25 rfl rfl
theorem tw_276 : Cond.methodLink RX10 60 yX2_init ∈ zTW := zmem2 36 rfl rfl
theorem tw_278 : Cond.code yX2_init cX2_init 2 none ∈ zTW := zmem2 38 rfl rfl
theorem tw_279 : Cond.methodLink RX2 3 ⟨"java/lang/Object", "<init>", "()V"⟩ ∈ zTW := zmem2 39 rfl rfl
theorem tw_283 : Cond.fieldLink RX2 11 (TX2 0).1 (TX2 0).2.1 (TX2 0).2.2.1 ∈ zTW := zmem2 43 rfl rfl
theorem tw_287 : Cond.fieldLink RX10 10 (TX10 0).1 (TX10 0).2.1 (TX10 0).2.2.1 ∈ zTW := zmem2 47 rfl rfl
theorem tw_288 : Cond.fieldLink RX10 16 (TX10 1).1 (TX10 1).2.1 (TX10 1).2.2.1 ∈ zTW := zmem2 48 rfl rfl
theorem tw_289 : Cond.fieldLink RX10 111 (TX10 2).1 (TX10 2).2.1 (TX10 2).2.2.1 ∈ zTW := zmem2 49 rfl rfl
theorem tw_290 : Cond.fieldLink RX10 184 (TX10 3).1 (TX10 3).2.1 (TX10 3).2.2.1 ∈ zTW := zmem2 50 rfl rfl
theorem tw_291 : Cond.fieldLink RX10 23 (TX10 4).1 (TX10 4).2.1 (TX10 4).2.2.1 ∈ zTW := zmem2 51 rfl rfl
theorem tw_292 : Cond.fieldLink RX10 351 (TX10 5).1 (TX10 5).2.1 (TX10 5).2.2.1 ∈ zTW := zmem2 52 rfl rfl
theorem tw_293 : Cond.fieldLink RX10 354 (TX10 6).1 (TX10 6).2.1 (TX10 6).2.2.1 ∈ zTW := zmem2 53 rfl rfl
theorem tw_294 : Cond.fieldLink RX10 357 (TX10 7).1 (TX10 7).2.1 (TX10 7).2.2.1 ∈ zTW := zmem2 54 rfl rfl
theorem tw_295 : Cond.fieldLink RX10 30 (TX10 8).1 (TX10 8).2.1 (TX10 8).2.2.1 ∈ zTW := zmem2 55 rfl rfl
theorem tw_296 : Cond.fieldLink RX10 37 (TX10 9).1 (TX10 9).2.1 (TX10 9).2.2.1 ∈ zTW := zmem2 56 rfl rfl
theorem tw_297 : Cond.fieldLink RX10 41 (TX10 10).1 (TX10 10).2.1 (TX10 10).2.2.1 ∈ zTW := zmem2 57 rfl rfl
theorem tw_298 : Cond.fieldLink RX10 47 (TX10 11).1 (TX10 11).2.1 (TX10 11).2.2.1 ∈ zTW := zmem2 58 rfl rfl
theorem tw_299 : Cond.fieldLink RX10 54 (TX10 12).1 (TX10 12).2.1 (TX10 12).2.2.1 ∈ zTW := zmem2 59 rfl rfl
theorem tw_300 : Cond.fieldLink RX10 61 (TX10 13).1 (TX10 13).2.1 (TX10 13).2.2.1 ∈ zTW := zmem2 60 rfl rfl
theorem tw_301 : Cond.fieldLink RX10 65 (TX10 14).1 (TX10 14).2.1 (TX10 14).2.2.1 ∈ zTW := zmem2 61 rfl rfl
theorem tw_333 : Cond.methodLink RL 100 yX10_feed ∈ zTW := zmem2 93 rfl rfl
theorem tw_334 : Cond.instanceMethod yX10_feed ∈ zTW := zmem2 94 rfl rfl
theorem tw_335 : Cond.selects RX10 yX10_feed yX10_feed ∈ zTW := zmem2 95 rfl rfl
theorem tw_336 : Cond.code yX10_feed cX10_feed 6 (some .int) ∈ zTW := zmem2 96 rfl rfl
theorem tw_337 : Cond.methodLink RX10 73 yX8_putOnTape ∈ zTW := zmem2 97 rfl rfl
theorem tw_338 : Cond.instanceMethod yX8_putOnTape ∈ zTW := zmem2 98 rfl rfl
theorem tw_339 : Cond.selects RX8 yX8_putOnTape yX8_putOnTape ∈ zTW := zmem2 99 rfl rfl
theorem tw_340 : Cond.code yX8_putOnTape cX8_putOnTape 3 none ∈ zTW := zmem2 100 rfl rfl
theorem tw_341 : Cond.methodLink RL 115 yX10_fault ∈ zTW := zmem2 101 rfl rfl
theorem tw_342 : Cond.instanceMethod yX10_fault ∈ zTW := zmem2 102 rfl rfl
theorem tw_343 : Cond.selects RX10 yX10_fault yX10_fault ∈ zTW := zmem2 103 rfl rfl
theorem tw_344 : Cond.code yX10_fault cX10_fault 1 (some .int) ∈ zTW := zmem2 104 rfl rfl
theorem tw_345 : Cond.methodLink RL 139 yX10_undo ∈ zTW := zmem2 105 rfl rfl
theorem tw_346 : Cond.instanceMethod yX10_undo ∈ zTW := zmem2 106 rfl rfl
theorem tw_347 : Cond.selects RX10 yX10_undo yX10_undo ∈ zTW := zmem2 107 rfl rfl
theorem tw_348 : Cond.code yX10_undo cX10_undo 2 (some .int) ∈ zTW := zmem2 108 rfl rfl
theorem tw_349 : Cond.methodLink RL 199 yX10_nextPair ∈ zTW := zmem2 109 rfl rfl
theorem tw_350 : Cond.instanceMethod yX10_nextPair ∈ zTW := zmem2 110 rfl rfl
theorem tw_351 : Cond.selects RX10 yX10_nextPair yX10_nextPair ∈ zTW := zmem2 111 rfl rfl
theorem tw_352 : Cond.code yX10_nextPair cX10_nextPair 1 (some .int) ∈ zTW := zmem2 112 rfl rfl
theorem tw_353 : Cond.methodLink RX10 343 yX10_nextFor ∈ zTW := zmem2 113 rfl rfl
theorem tw_355 : Cond.instanceMethod yX10_nextFor ∈ zTW := zmem2 115 rfl rfl
theorem tw_356 : Cond.code yX10_nextFor cX10_nextFor 9 (some .int) ∈ zTW := zmem2 116 rfl rfl
theorem tw_357 : Cond.methodLink RX10 232 yX3_putInto ∈ zTW := zmem2 117 rfl rfl
theorem tw_358 : Cond.instanceMethod yX3_putInto ∈ zTW := zmem2 118 rfl rfl
theorem tw_359 : Cond.selects RX3 yX3_putInto yX3_putInto ∈ zTW := zmem2 119 rfl rfl
theorem tw_360 : Cond.code yX3_putInto cX3_putInto 4 none ∈ zTW := zmem2 120 rfl rfl
theorem tw_361 : Cond.methodLink RX3 62 yX4_clear ∈ zTW := zmem2 121 rfl rfl
theorem tw_362 : Cond.instanceMethod yX4_clear ∈ zTW := zmem2 122 rfl rfl
theorem tw_363 : Cond.selects RX4 yX4_clear yX4_clear ∈ zTW := zmem2 123 rfl rfl
theorem tw_364 : Cond.code yX4_clear cX4_clear 2 none ∈ zTW := zmem2 124 rfl rfl
theorem tw_365 : Cond.methodLink RX3 54 yX3_heardBitOf ∈ zTW := zmem2 125 rfl rfl
theorem tw_366 : Cond.instanceMethod yX3_heardBitOf ∈ zTW := zmem2 126 rfl rfl
theorem tw_367 : Cond.selects RX3 yX3_heardBitOf yX3_heardBitOf ∈ zTW := zmem2 127 rfl rfl
theorem tw_368 : Cond.code yX3_heardBitOf cX3_heardBitOf 2 (some .int) ∈ zTW := zmem2 128 rfl rfl
theorem tw_369 : Cond.methodLink RX3 38 yX3_hasHeard ∈ zTW := zmem2 129 rfl rfl
theorem tw_370 : Cond.instanceMethod yX3_hasHeard ∈ zTW := zmem2 130 rfl rfl
theorem tw_371 : Cond.selects RX3 yX3_hasHeard yX3_hasHeard ∈ zTW := zmem2 131 rfl rfl
theorem tw_372 : Cond.code yX3_hasHeard cX3_hasHeard 2 (some .boolean) ∈ zTW := zmem2 132 rfl rfl
theorem tw_374 : Cond.static yX10_bitIn ∈ zTW := zmem2 134 rfl rfl
theorem tw_375 : Cond.code yX10_bitIn cX10_bitIn 2 (some .int) ∈ zTW := zmem2 135 rfl rfl
theorem tw_376 : Cond.methodLink RX3 67 yX4_putPair ∈ zTW := zmem2 136 rfl rfl
theorem tw_377 : Cond.instanceMethod yX4_putPair ∈ zTW := zmem2 137 rfl rfl
theorem tw_378 : Cond.selects RX4 yX4_putPair yX4_putPair ∈ zTW := zmem2 138 rfl rfl
theorem tw_379 : Cond.code yX4_putPair cX4_putPair 6 none ∈ zTW := zmem2 139 rfl rfl
theorem tw_380 : Cond.methodLink RX4 33 yX4_put ∈ zTW := zmem2 140 rfl rfl
theorem tw_381 : Cond.instanceMethod yX4_put ∈ zTW := zmem2 141 rfl rfl
theorem tw_382 : Cond.selects RX4 yX4_put yX4_put ∈ zTW := zmem2 142 rfl rfl
theorem tw_383 : Cond.code yX4_put cX4_put 5 none ∈ zTW := zmem2 143 rfl rfl
theorem tw_385 : Cond.methodLink RX10 333 yX3_hasHeard ∈ zTW := zmem2 145 rfl rfl
theorem tw_386 : Cond.methodLink RX10 236 yX4_bitTold ∈ zTW := zmem2 146 rfl rfl
theorem tw_387 : Cond.instanceMethod yX4_bitTold ∈ zTW := zmem2 147 rfl rfl
theorem tw_388 : Cond.selects RX4 yX4_bitTold yX4_bitTold ∈ zTW := zmem2 148 rfl rfl
theorem tw_389 : Cond.code yX4_bitTold cX4_bitTold 3 (some .int) ∈ zTW := zmem2 149 rfl rfl
theorem tw_390 : Cond.methodLink RX4 37 yX4_isAhead ∈ zTW := zmem2 150 rfl rfl
theorem tw_391 : Cond.instanceMethod yX4_isAhead ∈ zTW := zmem2 151 rfl rfl
theorem tw_392 : Cond.selects RX4 yX4_isAhead yX4_isAhead ∈ zTW := zmem2 152 rfl rfl
theorem tw_393 : Cond.code yX4_isAhead cX4_isAhead 3 (some .boolean) ∈ zTW := zmem2 153 rfl rfl
theorem tw_394 : Cond.methodLink RX10 397 yX10_followersIf ∈ zTW := zmem2 154 rfl rfl
theorem tw_396 : Cond.instanceMethod yX10_followersIf ∈ zTW := zmem2 156 rfl rfl
theorem tw_397 : Cond.code yX10_followersIf cX10_followersIf 5 (some .int) ∈ zTW := zmem2 157 rfl rfl
theorem tw_398 : Cond.methodLink RX10 400 yX4_copyFrom ∈ zTW := zmem2 158 rfl rfl
theorem tw_399 : Cond.instanceMethod yX4_copyFrom ∈ zTW := zmem2 159 rfl rfl
theorem tw_400 : Cond.selects RX4 yX4_copyFrom yX4_copyFrom ∈ zTW := zmem2 160 rfl rfl
theorem tw_401 : Cond.code yX4_copyFrom cX4_copyFrom 2 none ∈ zTW := zmem2 161 rfl rfl
theorem tw_402 : Cond.methodLink RX4 15 ⟨"java/lang/System", "arraycopy", "(Ljava/lang/Object;ILjava/lang/Object;II)V"⟩ ∈ zTW := zmem2 162 rfl rfl
theorem tw_403 : Cond.static ⟨"java/lang/System", "arraycopy", "(Ljava/lang/Object;ILjava/lang/Object;II)V"⟩ ∈ zTW := zmem2 163 rfl rfl
theorem tw_405 : Cond.methodLink RX10 403 yX4_put ∈ zTW := zmem2 165 rfl rfl
theorem tw_406 : Cond.methodLink RX10 249 yJ9_min_7cf53 ∈ zTW := zmem2 166 rfl rfl
theorem tw_407 : Cond.static yJ9_min_7cf53 ∈ zTW := zmem2 167 rfl rfl
theorem tw_409 : Cond.methodLink RL 203 yX10_needs ∈ zTW := zmem2 169 rfl rfl
theorem tw_410 : Cond.instanceMethod yX10_needs ∈ zTW := zmem2 170 rfl rfl
theorem tw_411 : Cond.selects RX10 yX10_needs yX10_needs ∈ zTW := zmem2 171 rfl rfl
theorem tw_412 : Cond.code yX10_needs cX10_needs 3 (some .int) ∈ zTW := zmem2 172 rfl rfl
theorem tw_413 : Cond.methodLink RX10 346 yX3_copyFrom ∈ zTW := zmem2 173 rfl rfl
theorem tw_414 : Cond.instanceMethod yX3_copyFrom ∈ zTW := zmem2 174 rfl rfl
theorem tw_415 : Cond.selects RX3 yX3_copyFrom yX3_copyFrom ∈ zTW := zmem2 175 rfl rfl
theorem tw_416 : Cond.code yX3_copyFrom cX3_copyFrom 2 none ∈ zTW := zmem2 176 rfl rfl
theorem tw_417 : Cond.methodLink RX3 28 ⟨"java/lang/System", "arraycopy", "(Ljava/lang/Object;ILjava/lang/Object;II)V"⟩ ∈ zTW := zmem2 177 rfl rfl
theorem tw_418 : Cond.methodLink RX10 162 yX6_bitOf ∈ zTW := zmem2 178 rfl rfl
theorem tw_419 : Cond.instanceMethod yX6_bitOf ∈ zTW := zmem2 179 rfl rfl
theorem tw_420 : Cond.selects RX6 yX6_bitOf yX6_bitOf ∈ zTW := zmem2 180 rfl rfl
theorem tw_421 : Cond.code yX6_bitOf cX6_bitOf 2 (some .int) ∈ zTW := zmem2 181 rfl rfl
theorem tw_422 : Cond.methodLink RX6 47 yX6_bitFrom ∈ zTW := zmem2 182 rfl rfl
theorem tw_423 : Cond.instanceMethod yX6_bitFrom ∈ zTW := zmem2 183 rfl rfl
theorem tw_424 : Cond.selects RX6 yX6_bitFrom yX6_bitFrom ∈ zTW := zmem2 184 rfl rfl
theorem tw_425 : Cond.code yX6_bitFrom cX6_bitFrom 4 (some .int) ∈ zTW := zmem2 185 rfl rfl
theorem tw_426 : Cond.methodLink RX10 165 yX3_keep ∈ zTW := zmem2 186 rfl rfl
theorem tw_427 : Cond.instanceMethod yX3_keep ∈ zTW := zmem2 187 rfl rfl
theorem tw_428 : Cond.selects RX3 yX3_keep yX3_keep ∈ zTW := zmem2 188 rfl rfl
theorem tw_429 : Cond.code yX3_keep cX3_keep 3 none ∈ zTW := zmem2 189 rfl rfl
theorem tw_430 : Cond.methodLink RL 207 yX10_print ∈ zTW := zmem2 190 rfl rfl
theorem tw_431 : Cond.instanceMethod yX10_print ∈ zTW := zmem2 191 rfl rfl
theorem tw_432 : Cond.selects RX10 yX10_print yX10_print ∈ zTW := zmem2 192 rfl rfl
theorem tw_433 : Cond.code yX10_print cX10_print 4 (some .long) ∈ zTW := zmem2 193 rfl rfl
theorem tw_434 : Cond.constantLong RX10 349 (31) ∈ zTW := zmem2 194 rfl rfl
theorem tw_435 : Cond.methodLink RX10 223 yX6_marginOf ∈ zTW := zmem2 195 rfl rfl
theorem tw_436 : Cond.instanceMethod yX6_marginOf ∈ zTW := zmem2 196 rfl rfl
theorem tw_437 : Cond.selects RX6 yX6_marginOf yX6_marginOf ∈ zTW := zmem2 197 rfl rfl
theorem tw_438 : Cond.code yX6_marginOf cX6_marginOf 7 (some .int) ∈ zTW := zmem2 198 rfl rfl
theorem tw_439 : Cond.methodLink RX6 51 yX6_bitOf ∈ zTW := zmem2 199 rfl rfl
theorem tw_440 : Cond.methodLink RX6 43 yX6_speedOf ∈ zTW := zmem2 200 rfl rfl
theorem tw_441 : Cond.instanceMethod yX6_speedOf ∈ zTW := zmem2 201 rfl rfl
theorem tw_442 : Cond.selects RX6 yX6_speedOf yX6_speedOf ∈ zTW := zmem2 202 rfl rfl
theorem tw_443 : Cond.code yX6_speedOf cX6_speedOf 3 (some .int) ∈ zTW := zmem2 203 rfl rfl
theorem tw_444 : Cond.methodLink RX6 55 yJ9_min_7cf53 ∈ zTW := zmem2 204 rfl rfl
theorem tw_445 : Cond.methodLink RL 212 yX10_status ∈ zTW := zmem2 205 rfl rfl
theorem tw_446 : Cond.instanceMethod yX10_status ∈ zTW := zmem2 206 rfl rfl
theorem tw_447 : Cond.selects RX10 yX10_status yX10_status ∈ zTW := zmem2 207 rfl rfl
theorem tw_448 : Cond.code yX10_status cX10_status 2 (some .int) ∈ zTW := zmem2 208 rfl rfl
theorem tw_449 : Cond.methodLink RL 105 yL_text ∈ zTW := zmem2 209 rfl rfl
theorem tw_450 : Cond.static yL_text ∈ zTW := zmem2 210 rfl rfl
theorem tw_453 : Cond.methodLink RL 7 yX10_text ∈ zTW := zmem2 213 rfl rfl
theorem tw_454 : Cond.instanceMethod yX10_text ∈ zTW := zmem2 214 rfl rfl
theorem tw_455 : Cond.selects RX10 yX10_text yX10_text ∈ zTW := zmem2 215 rfl rfl
theorem tw_456 : Cond.code yX10_text cX10_text 3 (some .int) ∈ zTW := zmem2 216 rfl rfl
theorem tw_457 : Cond.methodLink RX10 77 yX10_needBetween ∈ zTW := zmem2 217 rfl rfl
theorem tw_459 : Cond.instanceMethod yX10_needBetween ∈ zTW := zmem2 219 rfl rfl
theorem tw_460 : Cond.code yX10_needBetween cX10_needBetween 4 none ∈ zTW := zmem2 220 rfl rfl
theorem tw_461 : Cond.methodLink RX10 380 yX10_refuseArgument ∈ zTW := zmem2 221 rfl rfl
theorem tw_463 : Cond.instanceMethod yX10_refuseArgument ∈ zTW := zmem2 223 rfl rfl
theorem tw_464 : Cond.code yX10_refuseArgument cX10_refuseArgument 1 none ∈ zTW := zmem2 224 rfl rfl
theorem tw_507 : Cond.methodLink RX10 364 ⟨"java/lang/IllegalArgumentException", "<init>", "(Ljava/lang/String;)V"⟩ ∈ zTW := zmem3 27 rfl rfl
theorem tw_533 : Cond.methodLink RX10 81 yX8_read ∈ zTW := zmem3 53 rfl rfl
theorem tw_534 : Cond.instanceMethod yX8_read ∈ zTW := zmem3 54 rfl rfl
theorem tw_535 : Cond.selects RX8 yX8_read yX8_read ∈ zTW := zmem3 55 rfl rfl
theorem tw_536 : Cond.code yX8_read cX8_read 3 (some .int) ∈ zTW := zmem3 56 rfl rfl
theorem tw_537 : Cond.methodLink RX8 29 yJ9_min_7cf53 ∈ zTW := zmem3 57 rfl rfl
theorem tw_538 : Cond.methodLink RX8 44 yX6_clear ∈ zTW := zmem3 58 rfl rfl
theorem tw_539 : Cond.instanceMethod yX6_clear ∈ zTW := zmem3 59 rfl rfl
theorem tw_540 : Cond.selects RX6 yX6_clear yX6_clear ∈ zTW := zmem3 60 rfl rfl
theorem tw_541 : Cond.code yX6_clear cX6_clear 1 none ∈ zTW := zmem3 61 rfl rfl
theorem tw_542 : Cond.methodLink RX8 47 yX8_skipBlanks ∈ zTW := zmem3 62 rfl rfl
theorem tw_544 : Cond.instanceMethod yX8_skipBlanks ∈ zTW := zmem3 64 rfl rfl
theorem tw_545 : Cond.code yX8_skipBlanks cX8_skipBlanks 1 none ∈ zTW := zmem3 65 rfl rfl
theorem tw_546 : Cond.methodLink RX8 50 yX8_readLine ∈ zTW := zmem3 66 rfl rfl
theorem tw_548 : Cond.instanceMethod yX8_readLine ∈ zTW := zmem3 68 rfl rfl
theorem tw_549 : Cond.code yX8_readLine cX8_readLine 2 none ∈ zTW := zmem3 69 rfl rfl
theorem tw_551 : Cond.methodLink RX8 58 yX8_isWord ∈ zTW := zmem3 71 rfl rfl
theorem tw_553 : Cond.instanceMethod yX8_isWord ∈ zTW := zmem3 73 rfl rfl
theorem tw_554 : Cond.code yX8_isWord cX8_isWord 4 (some .boolean) ∈ zTW := zmem3 74 rfl rfl
theorem tw_555 : Cond.methodLink RX8 97 yJ0_length_8abf5 ∈ zTW := zmem3 75 rfl rfl
theorem tw_556 : Cond.instanceMethod yJ0_length_8abf5 ∈ zTW := zmem3 76 rfl rfl
theorem tw_557 : Cond.selects RJ0 yJ0_length_8abf5 yJ0_length_8abf5 ∈ zTW := zmem3 77 rfl rfl
theorem tw_558 : Cond.code yJ0_length_8abf5 cJ0_length_8abf5 1 (some .int) ∈ zTW := zmem3 78 rfl rfl
theorem tw_559 : Cond.methodLink RJ0 335 yJ0_coder_7d493 ∈ zTW := zmem3 79 rfl rfl
theorem tw_560 : Cond.instanceMethod yJ0_coder_7d493 ∈ zTW := zmem3 80 rfl rfl
theorem tw_561 : Cond.selects RJ0 yJ0_coder_7d493 yJ0_coder_7d493 ∈ zTW := zmem3 81 rfl rfl
theorem tw_562 : Cond.code yJ0_coder_7d493 cJ0_coder_7d493 1 (some .byte) ∈ zTW := zmem3 82 rfl rfl
theorem tw_563 : Cond.fieldLink RJ0 38 "java/lang/String" "COMPACT_STRINGS" "Z" ∈ zTW := zmem3 83 rfl rfl
theorem tw_565 : Cond.methodLink RX8 102 yJ0_charAt_5068e ∈ zTW := zmem3 85 rfl rfl
theorem tw_566 : Cond.instanceMethod yJ0_charAt_5068e ∈ zTW := zmem3 86 rfl rfl
theorem tw_567 : Cond.selects RJ0 yJ0_charAt_5068e yJ0_charAt_5068e ∈ zTW := zmem3 87 rfl rfl
theorem tw_568 : Cond.code yJ0_charAt_5068e cJ0_charAt_5068e 2 (some .char) ∈ zTW := zmem3 88 rfl rfl
theorem tw_569 : Cond.methodLink RJ0 492 yJ0_isLatin1_aae02 ∈ zTW := zmem3 89 rfl rfl
theorem tw_570 : Cond.instanceMethod yJ0_isLatin1_aae02 ∈ zTW := zmem3 90 rfl rfl
theorem tw_571 : Cond.selects RJ0 yJ0_isLatin1_aae02 yJ0_isLatin1_aae02 ∈ zTW := zmem3 91 rfl rfl
theorem tw_572 : Cond.code yJ0_isLatin1_aae02 cJ0_isLatin1_aae02 1 (some .boolean) ∈ zTW := zmem3 92 rfl rfl
theorem tw_573 : Cond.methodLink RJ0 495 yJ1_charAt_3b067 ∈ zTW := zmem3 93 rfl rfl
theorem tw_574 : Cond.static yJ1_charAt_3b067 ∈ zTW := zmem3 94 rfl rfl
theorem tw_575 : Cond.code yJ1_charAt_3b067 cJ1_charAt_3b067 2 (some .char) ∈ zTW := zmem3 95 rfl rfl
theorem tw_576 : Cond.methodLink RJ1 9 yJ0_checkIndex_df160 ∈ zTW := zmem3 96 rfl rfl
theorem tw_577 : Cond.static yJ0_checkIndex_df160 ∈ zTW := zmem3 97 rfl rfl
theorem tw_578 : Cond.code yJ0_checkIndex_df160 cJ0_checkIndex_df160 2 none ∈ zTW := zmem3 98 rfl rfl
theorem tw_579 : Cond.fieldLink RJ0 1053 "jdk/internal/util/Preconditions" "SIOOBE_FORMATTER" "Ljava/util/function/BiFunction;" ∈ zTW := zmem3 99 rfl rfl
theorem tw_581 : Cond.methodLink RJ0 1059 yJ3_checkIndex_8e157 ∈ zTW := zmem3 101 rfl rfl
theorem tw_582 : Cond.static yJ3_checkIndex_8e157 ∈ zTW := zmem3 102 rfl rfl
theorem tw_583 : Cond.code yJ3_checkIndex_8e157 cJ3_checkIndex_8e157 3 (some .int) ∈ zTW := zmem3 103 rfl rfl
theorem tw_584 : Cond.methodLink RJ0 498 yJ2_charAt_3b067 ∈ zTW := zmem3 104 rfl rfl
theorem tw_585 : Cond.static yJ2_charAt_3b067 ∈ zTW := zmem3 105 rfl rfl
theorem tw_588 : Cond.static yJ2_checkIndex_2214a ∈ zTW := zmem3 108 rfl rfl
theorem tw_591 : Cond.static yJ2_length_9d52b ∈ zTW := zmem3 111 rfl rfl
theorem tw_595 : Cond.static yJ2_getChar_3b067 ∈ zTW := zmem3 115 rfl rfl
theorem tw_603 : Cond.methodLink RX8 62 yX8_readRing ∈ zTW := zmem3 123 rfl rfl
theorem tw_605 : Cond.instanceMethod yX8_readRing ∈ zTW := zmem3 125 rfl rfl
theorem tw_606 : Cond.code yX8_readRing cX8_readRing 5 none ∈ zTW := zmem3 126 rfl rfl
theorem tw_607 : Cond.methodLink RX8 93 yX8_fail ∈ zTW := zmem3 127 rfl rfl
theorem tw_609 : Cond.instanceMethod yX8_fail ∈ zTW := zmem3 129 rfl rfl
theorem tw_610 : Cond.code yX8_fail cX8_fail 3 none ∈ zTW := zmem3 130 rfl rfl
theorem tw_611 : Cond.methodLink RX8 76 yX8_readNumber ∈ zTW := zmem3 131 rfl rfl
theorem tw_613 : Cond.instanceMethod yX8_readNumber ∈ zTW := zmem3 133 rfl rfl
theorem tw_614 : Cond.code yX8_readNumber cX8_readNumber 4 (some .int) ∈ zTW := zmem3 134 rfl rfl
theorem tw_615 : Cond.methodLink RX8 132 yX8_readDigits ∈ zTW := zmem3 135 rfl rfl
theorem tw_617 : Cond.instanceMethod yX8_readDigits ∈ zTW := zmem3 137 rfl rfl
theorem tw_618 : Cond.code yX8_readDigits cX8_readDigits 3 (some .int) ∈ zTW := zmem3 138 rfl rfl
theorem tw_619 : Cond.constant RX8 138 (100000) ∈ zTW := zmem3 139 rfl rfl
theorem tw_620 : Cond.methodLink RX8 135 yX8_needNumber ∈ zTW := zmem3 140 rfl rfl
theorem tw_622 : Cond.instanceMethod yX8_needNumber ∈ zTW := zmem3 142 rfl rfl
theorem tw_623 : Cond.code yX8_needNumber cX8_needNumber 4 none ∈ zTW := zmem3 143 rfl rfl
theorem tw_624 : Cond.methodLink RX8 81 yX8_readSigned ∈ zTW := zmem3 144 rfl rfl
theorem tw_626 : Cond.instanceMethod yX8_readSigned ∈ zTW := zmem3 146 rfl rfl
theorem tw_627 : Cond.code yX8_readSigned cX8_readSigned 7 (some .int) ∈ zTW := zmem3 147 rfl rfl
theorem tw_628 : Cond.methodLink RX8 109 yX6_addRing ∈ zTW := zmem3 148 rfl rfl
theorem tw_629 : Cond.instanceMethod yX6_addRing ∈ zTW := zmem3 149 rfl rfl
theorem tw_630 : Cond.selects RX6 yX6_addRing yX6_addRing ∈ zTW := zmem3 150 rfl rfl
theorem tw_631 : Cond.code yX6_addRing cX6_addRing 4 none ∈ zTW := zmem3 151 rfl rfl
theorem tw_633 : Cond.methodLink RX8 68 yX8_readPair ∈ zTW := zmem3 153 rfl rfl
theorem tw_635 : Cond.instanceMethod yX8_readPair ∈ zTW := zmem3 155 rfl rfl
theorem tw_636 : Cond.code yX8_readPair cX8_readPair 5 none ∈ zTW := zmem3 156 rfl rfl
theorem tw_637 : Cond.methodLink RX8 119 yX6_hasPair ∈ zTW := zmem3 157 rfl rfl
theorem tw_638 : Cond.instanceMethod yX6_hasPair ∈ zTW := zmem3 158 rfl rfl
theorem tw_639 : Cond.selects RX6 yX6_hasPair yX6_hasPair ∈ zTW := zmem3 159 rfl rfl
theorem tw_640 : Cond.code yX6_hasPair cX6_hasPair 4 (some .boolean) ∈ zTW := zmem3 160 rfl rfl
theorem tw_641 : Cond.methodLink RX8 123 yX6_addPair ∈ zTW := zmem3 161 rfl rfl
theorem tw_642 : Cond.instanceMethod yX6_addPair ∈ zTW := zmem3 162 rfl rfl
theorem tw_643 : Cond.selects RX6 yX6_addPair yX6_addPair ∈ zTW := zmem3 163 rfl rfl
theorem tw_644 : Cond.code yX6_addPair cX6_addPair 3 none ∈ zTW := zmem3 164 rfl rfl
theorem tw_649 : Cond.methodLink RX8 88 yX8_readRepeat ∈ zTW := zmem3 169 rfl rfl
theorem tw_651 : Cond.instanceMethod yX8_readRepeat ∈ zTW := zmem3 171 rfl rfl
theorem tw_652 : Cond.code yX8_readRepeat cX8_readRepeat 2 none ∈ zTW := zmem3 172 rfl rfl
theorem tw_653 : Cond.methodLink RX8 126 yX0_isRepeat ∈ zTW := zmem3 173 rfl rfl
theorem tw_654 : Cond.static yX0_isRepeat ∈ zTW := zmem3 174 rfl rfl
theorem tw_655 : Cond.code yX0_isRepeat cX0_isRepeat 1 (some .boolean) ∈ zTW := zmem3 175 rfl rfl
theorem tw_657 : Cond.methodLink RX8 53 yX8_readEndOfLine ∈ zTW := zmem3 177 rfl rfl
theorem tw_659 : Cond.instanceMethod yX8_readEndOfLine ∈ zTW := zmem3 179 rfl rfl
theorem tw_660 : Cond.code yX8_readEndOfLine cX8_readEndOfLine 1 none ∈ zTW := zmem3 180 rfl rfl
theorem tw_661 : Cond.methodLink RX10 92 yX6_copyFrom ∈ zTW := zmem3 181 rfl rfl
theorem tw_662 : Cond.instanceMethod yX6_copyFrom ∈ zTW := zmem3 182 rfl rfl
theorem tw_663 : Cond.selects RX6 yX6_copyFrom yX6_copyFrom ∈ zTW := zmem3 183 rfl rfl
theorem tw_664 : Cond.code yX6_copyFrom cX6_copyFrom 2 none ∈ zTW := zmem3 184 rfl rfl
theorem tw_665 : Cond.methodLink RX6 37 ⟨"java/lang/System", "arraycopy", "(Ljava/lang/Object;ILjava/lang/Object;II)V"⟩ ∈ zTW := zmem3 185 rfl rfl
theorem tw_666 : Cond.methodLink RX10 102 yX1_clear ∈ zTW := zmem3 186 rfl rfl
theorem tw_667 : Cond.instanceMethod yX1_clear ∈ zTW := zmem3 187 rfl rfl
theorem tw_668 : Cond.selects RX1 yX1_clear yX1_clear ∈ zTW := zmem3 188 rfl rfl
theorem tw_669 : Cond.code yX1_clear cX1_clear 1 none ∈ zTW := zmem3 189 rfl rfl
theorem tw_670 : Cond.methodLink RX10 110 yX3_clear ∈ zTW := zmem3 190 rfl rfl
theorem tw_671 : Cond.instanceMethod yX3_clear ∈ zTW := zmem3 191 rfl rfl
theorem tw_672 : Cond.selects RX3 yX3_clear yX3_clear ∈ zTW := zmem3 192 rfl rfl
theorem tw_673 : Cond.code yX3_clear cX3_clear 2 none ∈ zTW := zmem3 193 rfl rfl
theorem tw_674 : Cond.methodLink RL 119 yL_set ∈ zTW := zmem3 194 rfl rfl
theorem tw_675 : Cond.static yL_set ∈ zTW := zmem3 195 rfl rfl
theorem tw_677 : Cond.methodLink RL 15 yX10_set ∈ zTW := zmem3 197 rfl rfl
theorem tw_678 : Cond.instanceMethod yX10_set ∈ zTW := zmem3 198 rfl rfl
theorem tw_679 : Cond.selects RX10 yX10_set yX10_set ∈ zTW := zmem3 199 rfl rfl
theorem tw_680 : Cond.code yX10_set cX10_set 4 (some .int) ∈ zTW := zmem3 200 rfl rfl
theorem tw_681 : Cond.methodLink RX10 120 yX10_needSetting ∈ zTW := zmem3 201 rfl rfl
theorem tw_683 : Cond.instanceMethod yX10_needSetting ∈ zTW := zmem3 203 rfl rfl
theorem tw_684 : Cond.code yX10_needSetting cX10_needSetting 3 none ∈ zTW := zmem3 204 rfl rfl
theorem tw_685 : Cond.methodLink RX10 383 yX0_isRepeat ∈ zTW := zmem3 205 rfl rfl
theorem tw_686 : Cond.methodLink RX10 124 yX10_remember ∈ zTW := zmem3 206 rfl rfl
theorem tw_688 : Cond.instanceMethod yX10_remember ∈ zTW := zmem3 208 rfl rfl
theorem tw_689 : Cond.code yX10_remember cX10_remember 1 none ∈ zTW := zmem3 209 rfl rfl
theorem tw_690 : Cond.methodLink RX10 386 yX7_copyFrom ∈ zTW := zmem3 210 rfl rfl
theorem tw_691 : Cond.instanceMethod yX7_copyFrom ∈ zTW := zmem3 211 rfl rfl
theorem tw_692 : Cond.selects RX7 yX7_copyFrom yX7_copyFrom ∈ zTW := zmem3 212 rfl rfl
theorem tw_693 : Cond.code yX7_copyFrom cX7_copyFrom 2 none ∈ zTW := zmem3 213 rfl rfl
theorem tw_694 : Cond.methodLink RX7 30 yX6_copyFrom ∈ zTW := zmem3 214 rfl rfl
theorem tw_695 : Cond.methodLink RX7 34 yX1_copyFrom ∈ zTW := zmem3 215 rfl rfl
theorem tw_696 : Cond.instanceMethod yX1_copyFrom ∈ zTW := zmem3 216 rfl rfl
theorem tw_697 : Cond.selects RX1 yX1_copyFrom yX1_copyFrom ∈ zTW := zmem3 217 rfl rfl
theorem tw_698 : Cond.code yX1_copyFrom cX1_copyFrom 2 none ∈ zTW := zmem3 218 rfl rfl
theorem tw_699 : Cond.methodLink RX1 22 ⟨"java/lang/System", "arraycopy", "(Ljava/lang/Object;ILjava/lang/Object;II)V"⟩ ∈ zTW := zmem3 219 rfl rfl
theorem tw_700 : Cond.methodLink RX7 37 yX3_copyFrom ∈ zTW := zmem3 220 rfl rfl
theorem tw_701 : Cond.methodLink RL 123 yL_wear ∈ zTW := zmem3 221 rfl rfl
theorem tw_702 : Cond.static yL_wear ∈ zTW := zmem3 222 rfl rfl
theorem tw_705 : Cond.methodLink RL 19 yX10_wear ∈ zTW := zmem3 225 rfl rfl
theorem tw_706 : Cond.instanceMethod yX10_wear ∈ zTW := zmem3 226 rfl rfl
theorem tw_707 : Cond.selects RX10 yX10_wear yX10_wear ∈ zTW := zmem3 227 rfl rfl
theorem tw_708 : Cond.code yX10_wear cX10_wear 6 (some .int) ∈ zTW := zmem3 228 rfl rfl
theorem tw_709 : Cond.methodLink RX10 133 yX10_needCounted ∈ zTW := zmem3 229 rfl rfl
theorem tw_711 : Cond.instanceMethod yX10_needCounted ∈ zTW := zmem3 231 rfl rfl
theorem tw_712 : Cond.code yX10_needCounted cX10_needCounted 3 none ∈ zTW := zmem3 232 rfl rfl
theorem tw_713 : Cond.methodLink RX10 377 yX10_refuseMissing ∈ zTW := zmem3 233 rfl rfl
theorem tw_715 : Cond.instanceMethod yX10_refuseMissing ∈ zTW := zmem3 235 rfl rfl
theorem tw_716 : Cond.code yX10_refuseMissing cX10_refuseMissing 1 none ∈ zTW := zmem3 236 rfl rfl
theorem tw_727 : Cond.methodLink RX10 376 ⟨"java/util/NoSuchElementException", "<init>", "(Ljava/lang/String;)V"⟩ ∈ zTW := zmem4 7 rfl rfl
theorem tw_733 : Cond.methodLink RX10 136 yX10_needTrait ∈ zTW := zmem4 13 rfl rfl
theorem tw_735 : Cond.instanceMethod yX10_needTrait ∈ zTW := zmem4 15 rfl rfl
theorem tw_736 : Cond.code yX10_needTrait cX10_needTrait 3 none ∈ zTW := zmem4 16 rfl rfl
theorem tw_737 : Cond.methodLink RX10 139 yX6_traitRow ∈ zTW := zmem4 17 rfl rfl
theorem tw_738 : Cond.instanceMethod yX6_traitRow ∈ zTW := zmem4 18 rfl rfl
theorem tw_739 : Cond.selects RX6 yX6_traitRow yX6_traitRow ∈ zTW := zmem4 19 rfl rfl
theorem tw_740 : Cond.code yX6_traitRow cX6_traitRow 2 (some (.array .int)) ∈ zTW := zmem4 20 rfl rfl
theorem tw_741 : Cond.methodLink RL 127 yL_enrol ∈ zTW := zmem4 21 rfl rfl
theorem tw_742 : Cond.static yL_enrol ∈ zTW := zmem4 22 rfl rfl
theorem tw_745 : Cond.methodLink RL 25 yX10_enrol ∈ zTW := zmem4 25 rfl rfl
theorem tw_746 : Cond.instanceMethod yX10_enrol ∈ zTW := zmem4 26 rfl rfl
theorem tw_747 : Cond.selects RX10 yX10_enrol yX10_enrol ∈ zTW := zmem4 27 rfl rfl
theorem tw_748 : Cond.code yX10_enrol cX10_enrol 5 (some .int) ∈ zTW := zmem4 28 rfl rfl
theorem tw_749 : Cond.methodLink RX10 143 yX6_usedPairs ∈ zTW := zmem4 29 rfl rfl
theorem tw_750 : Cond.instanceMethod yX6_usedPairs ∈ zTW := zmem4 30 rfl rfl
theorem tw_751 : Cond.selects RX6 yX6_usedPairs yX6_usedPairs ∈ zTW := zmem4 31 rfl rfl
theorem tw_752 : Cond.code yX6_usedPairs cX6_usedPairs 1 (some .int) ∈ zTW := zmem4 32 rfl rfl
theorem tw_753 : Cond.methodLink RX6 63 yX6_allPairs ∈ zTW := zmem4 33 rfl rfl
theorem tw_754 : Cond.instanceMethod yX6_allPairs ∈ zTW := zmem4 34 rfl rfl
theorem tw_755 : Cond.selects RX6 yX6_allPairs yX6_allPairs ∈ zTW := zmem4 35 rfl rfl
theorem tw_756 : Cond.code yX6_allPairs cX6_allPairs 1 (some .int) ∈ zTW := zmem4 36 rfl rfl
theorem tw_757 : Cond.methodLink RX6 67 yX6_steadyPairs ∈ zTW := zmem4 37 rfl rfl
theorem tw_758 : Cond.instanceMethod yX6_steadyPairs ∈ zTW := zmem4 38 rfl rfl
theorem tw_759 : Cond.selects RX6 yX6_steadyPairs yX6_steadyPairs ∈ zTW := zmem4 39 rfl rfl
theorem tw_760 : Cond.code yX6_steadyPairs cX6_steadyPairs 3 (some .int) ∈ zTW := zmem4 40 rfl rfl
theorem tw_761 : Cond.methodLink RX6 60 yX6_marginOf ∈ zTW := zmem4 41 rfl rfl
theorem tw_762 : Cond.methodLink RX10 147 yX6_blockCount ∈ zTW := zmem4 42 rfl rfl
theorem tw_763 : Cond.instanceMethod yX6_blockCount ∈ zTW := zmem4 43 rfl rfl
theorem tw_764 : Cond.selects RX6 yX6_blockCount yX6_blockCount ∈ zTW := zmem4 44 rfl rfl
theorem tw_765 : Cond.code yX6_blockCount cX6_blockCount 3 (some .int) ∈ zTW := zmem4 45 rfl rfl
theorem tw_766 : Cond.methodLink RX6 70 yJ6_bitCount_0f7a4 ∈ zTW := zmem4 46 rfl rfl
theorem tw_767 : Cond.static yJ6_bitCount_0f7a4 ∈ zTW := zmem4 47 rfl rfl
theorem tw_768 : Cond.code yJ6_bitCount_0f7a4 cJ6_bitCount_0f7a4 1 (some .int) ∈ zTW := zmem4 48 rfl rfl
theorem tw_769 : Cond.constant RJ6 265 (1431655765) ∈ zTW := zmem4 49 rfl rfl
theorem tw_770 : Cond.constant RJ6 266 (858993459) ∈ zTW := zmem4 50 rfl rfl
theorem tw_771 : Cond.constant RJ6 267 (252645135) ∈ zTW := zmem4 51 rfl rfl
theorem tw_772 : Cond.methodLink RX6 75 yX0_lengthOf ∈ zTW := zmem4 52 rfl rfl
theorem tw_773 : Cond.static yX0_lengthOf ∈ zTW := zmem4 53 rfl rfl
theorem tw_774 : Cond.code yX0_lengthOf cX0_lengthOf 1 (some .int) ∈ zTW := zmem4 54 rfl rfl
theorem tw_775 : Cond.methodLink RX0 11 yJ9_max_7cf53 ∈ zTW := zmem4 55 rfl rfl
theorem tw_776 : Cond.static yJ9_max_7cf53 ∈ zTW := zmem4 56 rfl rfl
theorem tw_778 : Cond.methodLink RX6 80 yX0_bitsOf ∈ zTW := zmem4 58 rfl rfl
theorem tw_779 : Cond.static yX0_bitsOf ∈ zTW := zmem4 59 rfl rfl
theorem tw_780 : Cond.code yX0_bitsOf cX0_bitsOf 1 (some .int) ∈ zTW := zmem4 60 rfl rfl
theorem tw_781 : Cond.methodLink RX10 150 yX10_refuseState ∈ zTW := zmem4 61 rfl rfl
theorem tw_783 : Cond.instanceMethod yX10_refuseState ∈ zTW := zmem4 63 rfl rfl
theorem tw_784 : Cond.code yX10_refuseState cX10_refuseState 1 none ∈ zTW := zmem4 64 rfl rfl
theorem tw_795 : Cond.methodLink RX10 371 ⟨"java/lang/IllegalStateException", "<init>", "(Ljava/lang/String;)V"⟩ ∈ zTW := zmem4 75 rfl rfl
theorem tw_801 : Cond.methodLink RX10 153 yX0_bitsOf ∈ zTW := zmem4 81 rfl rfl
theorem tw_802 : Cond.methodLink RX10 158 yX1_keep ∈ zTW := zmem4 82 rfl rfl
theorem tw_803 : Cond.instanceMethod yX1_keep ∈ zTW := zmem4 83 rfl rfl
theorem tw_804 : Cond.selects RX1 yX1_keep yX1_keep ∈ zTW := zmem4 84 rfl rfl
theorem tw_805 : Cond.code yX1_keep cX1_keep 7 none ∈ zTW := zmem4 85 rfl rfl
theorem tw_806 : Cond.methodLink RX1 51 yX1_secretBits ∈ zTW := zmem4 86 rfl rfl
theorem tw_807 : Cond.instanceMethod yX1_secretBits ∈ zTW := zmem4 87 rfl rfl
theorem tw_808 : Cond.selects RX1 yX1_secretBits yX1_secretBits ∈ zTW := zmem4 88 rfl rfl
theorem tw_809 : Cond.code yX1_secretBits cX1_secretBits 1 (some .int) ∈ zTW := zmem4 89 rfl rfl
theorem tw_810 : Cond.methodLink RX1 77 yX0_bitsOf ∈ zTW := zmem4 90 rfl rfl
theorem tw_811 : Cond.methodLink RX1 55 yX0_checkWith ∈ zTW := zmem4 91 rfl rfl
theorem tw_812 : Cond.static yX0_checkWith ∈ zTW := zmem4 92 rfl rfl
theorem tw_813 : Cond.code yX0_checkWith cX0_checkWith 5 (some .int) ∈ zTW := zmem4 93 rfl rfl
theorem tw_815 : Cond.methodLink RX1 61 yX0_lengthOf ∈ zTW := zmem4 95 rfl rfl
theorem tw_817 : Cond.methodLink RX1 71 yX6_bitOf ∈ zTW := zmem4 97 rfl rfl
theorem tw_818 : Cond.methodLink RX1 74 yX0_wordsOf ∈ zTW := zmem4 98 rfl rfl
theorem tw_819 : Cond.static yX0_wordsOf ∈ zTW := zmem4 99 rfl rfl
theorem tw_820 : Cond.code yX0_wordsOf cX0_wordsOf 7 (some .int) ∈ zTW := zmem4 100 rfl rfl
theorem tw_821 : Cond.methodLink RX0 33 yX0_bitsOf ∈ zTW := zmem4 101 rfl rfl
theorem tw_822 : Cond.methodLink RX0 36 yX0_wordOf ∈ zTW := zmem4 102 rfl rfl
theorem tw_823 : Cond.static yX0_wordOf ∈ zTW := zmem4 103 rfl rfl
theorem tw_824 : Cond.code yX0_wordOf cX0_wordOf 4 (some .int) ∈ zTW := zmem4 104 rfl rfl
theorem tw_825 : Cond.fieldLink RX0 17 "SlipSecret$Code" "HAMMING_PARTS" "[I" ∈ zTW := zmem4 105 rfl rfl
theorem tw_827 : Cond.methodLink RX0 21 yJ6_bitCount_0f7a4 ∈ zTW := zmem4 107 rfl rfl
theorem tw_828 : Cond.methodLink RX0 39 yX0_lengthOf ∈ zTW := zmem4 108 rfl rfl
theorem tw_829 : Cond.methodLink RL 130 yL_hear ∈ zTW := zmem4 109 rfl rfl
theorem tw_830 : Cond.static yL_hear ∈ zTW := zmem4 110 rfl rfl
theorem tw_832 : Cond.methodLink RL 30 yX10_hear ∈ zTW := zmem4 112 rfl rfl
theorem tw_833 : Cond.instanceMethod yX10_hear ∈ zTW := zmem4 113 rfl rfl
theorem tw_834 : Cond.selects RX10 yX10_hear yX10_hear ∈ zTW := zmem4 114 rfl rfl
theorem tw_835 : Cond.code yX10_hear cX10_hear 3 (some .int) ∈ zTW := zmem4 115 rfl rfl
theorem tw_836 : Cond.methodLink RL 133 yL_train ∈ zTW := zmem4 116 rfl rfl
theorem tw_837 : Cond.static yL_train ∈ zTW := zmem4 117 rfl rfl
theorem tw_839 : Cond.methodLink RL 33 yX10_train ∈ zTW := zmem4 119 rfl rfl
theorem tw_840 : Cond.instanceMethod yX10_train ∈ zTW := zmem4 120 rfl rfl
theorem tw_841 : Cond.selects RX10 yX10_train yX10_train ∈ zTW := zmem4 121 rfl rfl
theorem tw_842 : Cond.code yX10_train cX10_train 4 (some .int) ∈ zTW := zmem4 122 rfl rfl
theorem tw_843 : Cond.methodLink RX10 167 yX3_learn ∈ zTW := zmem4 123 rfl rfl
theorem tw_844 : Cond.instanceMethod yX3_learn ∈ zTW := zmem4 124 rfl rfl
theorem tw_845 : Cond.selects RX3 yX3_learn yX3_learn ∈ zTW := zmem4 125 rfl rfl
theorem tw_846 : Cond.code yX3_learn cX3_learn 7 (some .int) ∈ zTW := zmem4 126 rfl rfl
theorem tw_847 : Cond.methodLink RX3 58 yX3_guessOf ∈ zTW := zmem4 127 rfl rfl
theorem tw_848 : Cond.instanceMethod yX3_guessOf ∈ zTW := zmem4 128 rfl rfl
theorem tw_849 : Cond.selects RX3 yX3_guessOf yX3_guessOf ∈ zTW := zmem4 129 rfl rfl
theorem tw_850 : Cond.code yX3_guessOf cX3_guessOf 3 (some .int) ∈ zTW := zmem4 130 rfl rfl
theorem tw_851 : Cond.methodLink RX3 50 yX6_bitFrom ∈ zTW := zmem4 131 rfl rfl
theorem tw_852 : Cond.methodLink RL 136 yL_turn ∈ zTW := zmem4 132 rfl rfl
theorem tw_853 : Cond.static yL_turn ∈ zTW := zmem4 133 rfl rfl
theorem tw_855 : Cond.methodLink RL 36 yX10_turn ∈ zTW := zmem4 135 rfl rfl
theorem tw_856 : Cond.instanceMethod yX10_turn ∈ zTW := zmem4 136 rfl rfl
theorem tw_857 : Cond.selects RX10 yX10_turn yX10_turn ∈ zTW := zmem4 137 rfl rfl
theorem tw_858 : Cond.code yX10_turn cX10_turn 2 (some .int) ∈ zTW := zmem4 138 rfl rfl
theorem tw_859 : Cond.methodLink RX10 171 yX10_needEnrolled ∈ zTW := zmem4 139 rfl rfl
theorem tw_861 : Cond.instanceMethod yX10_needEnrolled ∈ zTW := zmem4 141 rfl rfl
theorem tw_862 : Cond.code yX10_needEnrolled cX10_needEnrolled 1 none ∈ zTW := zmem4 142 rfl rfl
theorem tw_863 : Cond.methodLink RX10 310 yX1_isEmpty ∈ zTW := zmem4 143 rfl rfl
theorem tw_864 : Cond.instanceMethod yX1_isEmpty ∈ zTW := zmem4 144 rfl rfl
theorem tw_865 : Cond.selects RX1 yX1_isEmpty yX1_isEmpty ∈ zTW := zmem4 145 rfl rfl
theorem tw_866 : Cond.code yX1_isEmpty cX1_isEmpty 1 (some .boolean) ∈ zTW := zmem4 146 rfl rfl
theorem tw_867 : Cond.methodLink RX10 180 yX10_bitIn ∈ zTW := zmem4 147 rfl rfl
theorem tw_868 : Cond.methodLink RL 143 yL_told ∈ zTW := zmem4 148 rfl rfl
theorem tw_869 : Cond.static yL_told ∈ zTW := zmem4 149 rfl rfl
theorem tw_871 : Cond.methodLink RL 39 yX10_told ∈ zTW := zmem4 151 rfl rfl
theorem tw_872 : Cond.instanceMethod yX10_told ∈ zTW := zmem4 152 rfl rfl
theorem tw_873 : Cond.selects RX10 yX10_told yX10_told ∈ zTW := zmem4 153 rfl rfl
theorem tw_874 : Cond.code yX10_told cX10_told 3 (some .int) ∈ zTW := zmem4 154 rfl rfl
theorem tw_875 : Cond.methodLink RX10 187 yX6_steadyPairs ∈ zTW := zmem4 155 rfl rfl
theorem tw_876 : Cond.methodLink RX10 190 yJ6_bitCount_0f7a4 ∈ zTW := zmem4 156 rfl rfl
theorem tw_877 : Cond.methodLink RX10 196 yX10_toldOfEnrolled ∈ zTW := zmem4 157 rfl rfl
theorem tw_879 : Cond.instanceMethod yX10_toldOfEnrolled ∈ zTW := zmem4 159 rfl rfl
theorem tw_880 : Cond.code yX10_toldOfEnrolled cX10_toldOfEnrolled 3 (some .int) ∈ zTW := zmem4 160 rfl rfl
theorem tw_881 : Cond.methodLink RX10 389 yX1_secretBits ∈ zTW := zmem4 161 rfl rfl
theorem tw_882 : Cond.methodLink RL 146 yL_ring ∈ zTW := zmem4 162 rfl rfl
theorem tw_883 : Cond.static yL_ring ∈ zTW := zmem4 163 rfl rfl
theorem tw_885 : Cond.methodLink RL 42 yX10_ring ∈ zTW := zmem4 165 rfl rfl
theorem tw_886 : Cond.instanceMethod yX10_ring ∈ zTW := zmem4 166 rfl rfl
theorem tw_887 : Cond.selects RX10 yX10_ring yX10_ring ∈ zTW := zmem4 167 rfl rfl
theorem tw_888 : Cond.code yX10_ring cX10_ring 3 (some .int) ∈ zTW := zmem4 168 rfl rfl
theorem tw_889 : Cond.methodLink RX10 202 yX6_pairsWith ∈ zTW := zmem4 169 rfl rfl
theorem tw_890 : Cond.instanceMethod yX6_pairsWith ∈ zTW := zmem4 170 rfl rfl
theorem tw_891 : Cond.selects RX6 yX6_pairsWith yX6_pairsWith ∈ zTW := zmem4 171 rfl rfl
theorem tw_892 : Cond.code yX6_pairsWith cX6_pairsWith 4 (some .int) ∈ zTW := zmem4 172 rfl rfl
theorem tw_893 : Cond.methodLink RL 149 yL_speed ∈ zTW := zmem4 173 rfl rfl
theorem tw_894 : Cond.static yL_speed ∈ zTW := zmem4 174 rfl rfl
theorem tw_896 : Cond.methodLink RL 45 yX10_speed ∈ zTW := zmem4 176 rfl rfl
theorem tw_897 : Cond.instanceMethod yX10_speed ∈ zTW := zmem4 177 rfl rfl
theorem tw_898 : Cond.selects RX10 yX10_speed yX10_speed ∈ zTW := zmem4 178 rfl rfl
theorem tw_899 : Cond.code yX10_speed cX10_speed 3 (some .int) ∈ zTW := zmem4 179 rfl rfl
theorem tw_900 : Cond.methodLink RX10 205 yX10_needHeat ∈ zTW := zmem4 180 rfl rfl
theorem tw_902 : Cond.instanceMethod yX10_needHeat ∈ zTW := zmem4 182 rfl rfl
theorem tw_903 : Cond.code yX10_needHeat cX10_needHeat 2 none ∈ zTW := zmem4 183 rfl rfl
theorem tw_904 : Cond.methodLink RX10 208 yX6_speedOf ∈ zTW := zmem4 184 rfl rfl
theorem tw_905 : Cond.methodLink RL 152 yL_rank ∈ zTW := zmem4 185 rfl rfl
theorem tw_906 : Cond.static yL_rank ∈ zTW := zmem4 186 rfl rfl
theorem tw_908 : Cond.methodLink RL 48 yX10_rank ∈ zTW := zmem4 188 rfl rfl
theorem tw_909 : Cond.instanceMethod yX10_rank ∈ zTW := zmem4 189 rfl rfl
theorem tw_910 : Cond.selects RX10 yX10_rank yX10_rank ∈ zTW := zmem4 190 rfl rfl
theorem tw_911 : Cond.code yX10_rank cX10_rank 4 (some .int) ∈ zTW := zmem4 191 rfl rfl
theorem tw_912 : Cond.methodLink RX10 211 yX6_ringsAheadOf ∈ zTW := zmem4 192 rfl rfl
theorem tw_913 : Cond.instanceMethod yX6_ringsAheadOf ∈ zTW := zmem4 193 rfl rfl
theorem tw_914 : Cond.selects RX6 yX6_ringsAheadOf yX6_ringsAheadOf ∈ zTW := zmem4 194 rfl rfl
theorem tw_915 : Cond.code yX6_ringsAheadOf cX6_ringsAheadOf 7 (some .int) ∈ zTW := zmem4 195 rfl rfl
theorem tw_916 : Cond.methodLink RL 155 yL_pair ∈ zTW := zmem4 196 rfl rfl
theorem tw_917 : Cond.static yL_pair ∈ zTW := zmem4 197 rfl rfl
theorem tw_919 : Cond.methodLink RL 51 yX10_pair ∈ zTW := zmem4 199 rfl rfl
theorem tw_920 : Cond.instanceMethod yX10_pair ∈ zTW := zmem4 200 rfl rfl
theorem tw_921 : Cond.selects RX10 yX10_pair yX10_pair ∈ zTW := zmem4 201 rfl rfl
theorem tw_922 : Cond.code yX10_pair cX10_pair 5 (some .int) ∈ zTW := zmem4 202 rfl rfl
theorem tw_923 : Cond.methodLink RX10 214 yX1_placeOf ∈ zTW := zmem4 203 rfl rfl
theorem tw_924 : Cond.instanceMethod yX1_placeOf ∈ zTW := zmem4 204 rfl rfl
theorem tw_925 : Cond.selects RX1 yX1_placeOf yX1_placeOf ∈ zTW := zmem4 205 rfl rfl
theorem tw_926 : Cond.code yX1_placeOf cX1_placeOf 3 (some .int) ∈ zTW := zmem4 206 rfl rfl
theorem tw_927 : Cond.methodLink RX10 226 yX6_blockOf ∈ zTW := zmem4 207 rfl rfl
theorem tw_928 : Cond.instanceMethod yX6_blockOf ∈ zTW := zmem4 208 rfl rfl
theorem tw_929 : Cond.selects RX6 yX6_blockOf yX6_blockOf ∈ zTW := zmem4 209 rfl rfl
theorem tw_930 : Cond.code yX6_blockOf cX6_blockOf 5 (some .int) ∈ zTW := zmem4 210 rfl rfl
theorem tw_931 : Cond.methodLink RX6 83 yX6_usedPairs ∈ zTW := zmem4 211 rfl rfl
theorem tw_933 : Cond.methodLink RX6 89 yX6_blockCount ∈ zTW := zmem4 213 rfl rfl
theorem tw_934 : Cond.methodLink RX10 229 yX3_heardBitOf ∈ zTW := zmem4 214 rfl rfl
theorem tw_935 : Cond.methodLink RX10 239 yX3_guessOf ∈ zTW := zmem4 215 rfl rfl
theorem tw_936 : Cond.methodLink RL 158 yL_bit ∈ zTW := zmem4 216 rfl rfl
theorem tw_937 : Cond.static yL_bit ∈ zTW := zmem4 217 rfl rfl
theorem tw_939 : Cond.methodLink RL 54 yX10_bit ∈ zTW := zmem4 219 rfl rfl
theorem tw_940 : Cond.instanceMethod yX10_bit ∈ zTW := zmem4 220 rfl rfl
theorem tw_941 : Cond.selects RX10 yX10_bit yX10_bit ∈ zTW := zmem4 221 rfl rfl
theorem tw_942 : Cond.code yX10_bit cX10_bit 3 (some .int) ∈ zTW := zmem4 222 rfl rfl
theorem tw_943 : Cond.methodLink RX10 246 yX6_bitAt ∈ zTW := zmem4 223 rfl rfl
theorem tw_944 : Cond.instanceMethod yX6_bitAt ∈ zTW := zmem4 224 rfl rfl
theorem tw_945 : Cond.selects RX6 yX6_bitAt yX6_bitAt ∈ zTW := zmem4 225 rfl rfl
theorem tw_946 : Cond.code yX6_bitAt cX6_bitAt 3 (some .int) ∈ zTW := zmem4 226 rfl rfl
theorem tw_947 : Cond.methodLink RL 161 yL_flips ∈ zTW := zmem4 227 rfl rfl
theorem tw_948 : Cond.static yL_flips ∈ zTW := zmem4 228 rfl rfl
theorem tw_950 : Cond.methodLink RL 57 yX10_flips ∈ zTW := zmem4 230 rfl rfl
theorem tw_951 : Cond.instanceMethod yX10_flips ∈ zTW := zmem4 231 rfl rfl
theorem tw_952 : Cond.selects RX10 yX10_flips yX10_flips ∈ zTW := zmem4 232 rfl rfl
theorem tw_953 : Cond.code yX10_flips cX10_flips 7 (some .int) ∈ zTW := zmem4 233 rfl rfl
theorem tw_954 : Cond.methodLink RL 164 yL_odds ∈ zTW := zmem4 234 rfl rfl
theorem tw_955 : Cond.static yL_odds ∈ zTW := zmem4 235 rfl rfl
theorem tw_957 : Cond.methodLink RL 60 yX10_odds ∈ zTW := zmem4 237 rfl rfl
theorem tw_958 : Cond.instanceMethod yX10_odds ∈ zTW := zmem4 238 rfl rfl
theorem tw_959 : Cond.selects RX10 yX10_odds yX10_odds ∈ zTW := zmem4 239 rfl rfl
theorem tw_960 : Cond.code yX10_odds cX10_odds 8 (some .int) ∈ zTW := zmem5 0 rfl rfl
theorem tw_961 : Cond.methodLink RX10 254 yX6_drawsOf ∈ zTW := zmem5 1 rfl rfl
theorem tw_962 : Cond.instanceMethod yX6_drawsOf ∈ zTW := zmem5 2 rfl rfl
theorem tw_963 : Cond.selects RX6 yX6_drawsOf yX6_drawsOf ∈ zTW := zmem5 3 rfl rfl
theorem tw_964 : Cond.code yX6_drawsOf cX6_drawsOf 2 (some .int) ∈ zTW := zmem5 4 rfl rfl
theorem tw_965 : Cond.methodLink RX10 257 yX6_drawsWithOne ∈ zTW := zmem5 5 rfl rfl
theorem tw_966 : Cond.instanceMethod yX6_drawsWithOne ∈ zTW := zmem5 6 rfl rfl
theorem tw_967 : Cond.selects RX6 yX6_drawsWithOne yX6_drawsWithOne ∈ zTW := zmem5 7 rfl rfl
theorem tw_968 : Cond.code yX6_drawsWithOne cX6_drawsWithOne 12 (some .int) ∈ zTW := zmem5 8 rfl rfl
theorem tw_969 : Cond.methodLink RX6 92 yJ9_max_7cf53 ∈ zTW := zmem5 9 rfl rfl
theorem tw_970 : Cond.methodLink RX10 260 yX10_commonDivisor ∈ zTW := zmem5 10 rfl rfl
theorem tw_971 : Cond.static yX10_commonDivisor ∈ zTW := zmem5 11 rfl rfl
theorem tw_972 : Cond.code yX10_commonDivisor cX10_commonDivisor 6 (some .int) ∈ zTW := zmem5 12 rfl rfl
theorem tw_973 : Cond.methodLink RX10 291 yJ9_max_7cf53 ∈ zTW := zmem5 13 rfl rfl
theorem tw_974 : Cond.methodLink RL 168 yL_block ∈ zTW := zmem5 14 rfl rfl
theorem tw_975 : Cond.static yL_block ∈ zTW := zmem5 15 rfl rfl
theorem tw_977 : Cond.methodLink RL 64 yX10_block ∈ zTW := zmem5 17 rfl rfl
theorem tw_978 : Cond.instanceMethod yX10_block ∈ zTW := zmem5 18 rfl rfl
theorem tw_979 : Cond.selects RX10 yX10_block yX10_block ∈ zTW := zmem5 19 rfl rfl
theorem tw_980 : Cond.code yX10_block cX10_block 5 (some .int) ∈ zTW := zmem5 20 rfl rfl
theorem tw_981 : Cond.methodLink RX10 263 yX0_lengthOf ∈ zTW := zmem5 21 rfl rfl
theorem tw_982 : Cond.methodLink RX10 266 yX6_pairAt ∈ zTW := zmem5 22 rfl rfl
theorem tw_983 : Cond.instanceMethod yX6_pairAt ∈ zTW := zmem5 23 rfl rfl
theorem tw_984 : Cond.selects RX6 yX6_pairAt yX6_pairAt ∈ zTW := zmem5 24 rfl rfl
theorem tw_985 : Cond.code yX6_pairAt cX6_pairAt 5 (some .int) ∈ zTW := zmem5 25 rfl rfl
theorem tw_986 : Cond.methodLink RL 171 yL_recover ∈ zTW := zmem5 26 rfl rfl
theorem tw_987 : Cond.static yL_recover ∈ zTW := zmem5 27 rfl rfl
theorem tw_989 : Cond.methodLink RL 67 yX10_recover ∈ zTW := zmem5 29 rfl rfl
theorem tw_990 : Cond.instanceMethod yX10_recover ∈ zTW := zmem5 30 rfl rfl
theorem tw_991 : Cond.selects RX10 yX10_recover yX10_recover ∈ zTW := zmem5 31 rfl rfl
theorem tw_992 : Cond.code yX10_recover cX10_recover 4 (some .int) ∈ zTW := zmem5 32 rfl rfl
theorem tw_993 : Cond.constant RX10 269 (65536) ∈ zTW := zmem5 33 rfl rfl
theorem tw_994 : Cond.methodLink RX10 273 yX5_take ∈ zTW := zmem5 34 rfl rfl
theorem tw_995 : Cond.instanceMethod yX5_take ∈ zTW := zmem5 35 rfl rfl
theorem tw_996 : Cond.selects RX5 yX5_take yX5_take ∈ zTW := zmem5 36 rfl rfl
theorem tw_997 : Cond.code yX5_take cX5_take 9 none ∈ zTW := zmem5 37 rfl rfl
theorem tw_998 : Cond.methodLink RX5 32 yX5_noisySpeed ∈ zTW := zmem5 38 rfl rfl
theorem tw_1000 : Cond.instanceMethod yX5_noisySpeed ∈ zTW := zmem5 40 rfl rfl
theorem tw_1001 : Cond.code yX5_noisySpeed cX5_noisySpeed 6 (some .int) ∈ zTW := zmem5 41 rfl rfl
theorem tw_1002 : Cond.methodLink RX5 90 yX6_speedOf ∈ zTW := zmem5 42 rfl rfl
theorem tw_1003 : Cond.constant RX5 100 (65537) ∈ zTW := zmem5 43 rfl rfl
theorem tw_1004 : Cond.methodLink RX5 41 yX6_bitFrom ∈ zTW := zmem5 44 rfl rfl
theorem tw_1005 : Cond.methodLink RX5 48 yJ6_bitCount_0f7a4 ∈ zTW := zmem5 45 rfl rfl
theorem tw_1006 : Cond.methodLink RX5 66 yX0_secretFrom ∈ zTW := zmem5 46 rfl rfl
theorem tw_1007 : Cond.static yX0_secretFrom ∈ zTW := zmem5 47 rfl rfl
theorem tw_1008 : Cond.code yX0_secretFrom cX0_secretFrom 7 (some .int) ∈ zTW := zmem5 48 rfl rfl
theorem tw_1009 : Cond.methodLink RX0 42 yX0_decodedFrom ∈ zTW := zmem5 49 rfl rfl
theorem tw_1010 : Cond.static yX0_decodedFrom ∈ zTW := zmem5 50 rfl rfl
theorem tw_1011 : Cond.code yX0_decodedFrom cX0_decodedFrom 4 (some .int) ∈ zTW := zmem5 51 rfl rfl
theorem tw_1012 : Cond.fieldLink RX0 27 "SlipSecret$Code" "HAMMING_SUMS" "[I" ∈ zTW := zmem5 52 rfl rfl
theorem tw_1014 : Cond.methodLink RX5 74 yX0_wordsOf ∈ zTW := zmem5 54 rfl rfl
theorem tw_1015 : Cond.methodLink RX10 286 yX5_isRefused ∈ zTW := zmem5 55 rfl rfl
theorem tw_1016 : Cond.instanceMethod yX5_isRefused ∈ zTW := zmem5 56 rfl rfl
theorem tw_1017 : Cond.selects RX5 yX5_isRefused yX5_isRefused ∈ zTW := zmem5 57 rfl rfl
theorem tw_1018 : Cond.code yX5_isRefused cX5_isRefused 2 (some .boolean) ∈ zTW := zmem5 58 rfl rfl
theorem tw_1019 : Cond.methodLink RX5 80 yX1_secretBits ∈ zTW := zmem5 59 rfl rfl
theorem tw_1020 : Cond.methodLink RX5 84 yX0_checkWith ∈ zTW := zmem5 60 rfl rfl
theorem tw_1021 : Cond.methodLink RL 174 yL_fails ∈ zTW := zmem5 61 rfl rfl
theorem tw_1022 : Cond.static yL_fails ∈ zTW := zmem5 62 rfl rfl
theorem tw_1024 : Cond.methodLink RL 70 yX10_fails ∈ zTW := zmem5 64 rfl rfl
theorem tw_1025 : Cond.instanceMethod yX10_fails ∈ zTW := zmem5 65 rfl rfl
theorem tw_1026 : Cond.selects RX10 yX10_fails yX10_fails ∈ zTW := zmem5 66 rfl rfl
theorem tw_1027 : Cond.code yX10_fails cX10_fails 9 (some .int) ∈ zTW := zmem5 67 rfl rfl
theorem tw_1028 : Cond.methodLink RL 178 yL_safe ∈ zTW := zmem5 68 rfl rfl
theorem tw_1029 : Cond.static yL_safe ∈ zTW := zmem5 69 rfl rfl
theorem tw_1031 : Cond.methodLink RL 74 yX10_safe ∈ zTW := zmem5 71 rfl rfl
theorem tw_1032 : Cond.instanceMethod yX10_safe ∈ zTW := zmem5 72 rfl rfl
theorem tw_1033 : Cond.selects RX10 yX10_safe yX10_safe ∈ zTW := zmem5 73 rfl rfl
theorem tw_1034 : Cond.code yX10_safe cX10_safe 4 (some .int) ∈ zTW := zmem5 74 rfl rfl
theorem tw_1035 : Cond.methodLink RX10 294 yX1_shakyAt ∈ zTW := zmem5 75 rfl rfl
theorem tw_1036 : Cond.instanceMethod yX1_shakyAt ∈ zTW := zmem5 76 rfl rfl
theorem tw_1037 : Cond.selects RX1 yX1_shakyAt yX1_shakyAt ∈ zTW := zmem5 77 rfl rfl
theorem tw_1038 : Cond.code yX1_shakyAt cX1_shakyAt 6 (some .int) ∈ zTW := zmem5 78 rfl rfl
theorem tw_1039 : Cond.methodLink RX1 80 yX6_canRead ∈ zTW := zmem5 79 rfl rfl
theorem tw_1040 : Cond.instanceMethod yX6_canRead ∈ zTW := zmem5 80 rfl rfl
theorem tw_1041 : Cond.selects RX6 yX6_canRead yX6_canRead ∈ zTW := zmem5 81 rfl rfl
theorem tw_1042 : Cond.code yX6_canRead cX6_canRead 8 (some .boolean) ∈ zTW := zmem5 82 rfl rfl
theorem tw_1043 : Cond.methodLink RX10 297 yX1_safeBlocks ∈ zTW := zmem5 83 rfl rfl
theorem tw_1044 : Cond.instanceMethod yX1_safeBlocks ∈ zTW := zmem5 84 rfl rfl
theorem tw_1045 : Cond.selects RX1 yX1_safeBlocks yX1_safeBlocks ∈ zTW := zmem5 85 rfl rfl
theorem tw_1046 : Cond.code yX1_safeBlocks cX1_safeBlocks 4 (some .int) ∈ zTW := zmem5 86 rfl rfl
theorem tw_1047 : Cond.methodLink RX1 92 yX1_isSafeBlock ∈ zTW := zmem5 87 rfl rfl
theorem tw_1048 : Cond.instanceMethod yX1_isSafeBlock ∈ zTW := zmem5 88 rfl rfl
theorem tw_1049 : Cond.selects RX1 yX1_isSafeBlock yX1_isSafeBlock ∈ zTW := zmem5 89 rfl rfl
theorem tw_1050 : Cond.code yX1_isSafeBlock cX1_isSafeBlock 6 (some .boolean) ∈ zTW := zmem5 90 rfl rfl
theorem tw_1051 : Cond.methodLink RX1 84 yJ6_bitCount_0f7a4 ∈ zTW := zmem5 91 rfl rfl
theorem tw_1052 : Cond.methodLink RX1 89 yX0_mendedBy ∈ zTW := zmem5 92 rfl rfl
theorem tw_1053 : Cond.static yX0_mendedBy ∈ zTW := zmem5 93 rfl rfl
theorem tw_1054 : Cond.code yX0_mendedBy cX0_mendedBy 1 (some .int) ∈ zTW := zmem5 94 rfl rfl
theorem tw_1055 : Cond.methodLink RX10 300 yX1_firstUnsafe ∈ zTW := zmem5 95 rfl rfl
theorem tw_1056 : Cond.instanceMethod yX1_firstUnsafe ∈ zTW := zmem5 96 rfl rfl
theorem tw_1057 : Cond.selects RX1 yX1_firstUnsafe yX1_firstUnsafe ∈ zTW := zmem5 97 rfl rfl
theorem tw_1058 : Cond.code yX1_firstUnsafe cX1_firstUnsafe 3 (some .int) ∈ zTW := zmem5 98 rfl rfl
theorem tw_1059 : Cond.methodLink RL 181 yL_range ∈ zTW := zmem5 99 rfl rfl
theorem tw_1060 : Cond.static yL_range ∈ zTW := zmem5 100 rfl rfl
theorem tw_1062 : Cond.methodLink RL 77 yX10_range ∈ zTW := zmem5 102 rfl rfl
theorem tw_1063 : Cond.instanceMethod yX10_range ∈ zTW := zmem5 103 rfl rfl
theorem tw_1064 : Cond.selects RX10 yX10_range yX10_range ∈ zTW := zmem5 104 rfl rfl
theorem tw_1065 : Cond.code yX10_range cX10_range 5 (some .int) ∈ zTW := zmem5 105 rfl rfl
theorem tw_1066 : Cond.methodLink RX10 303 yX10_isSafeAt ∈ zTW := zmem5 106 rfl rfl
theorem tw_1068 : Cond.instanceMethod yX10_isSafeAt ∈ zTW := zmem5 108 rfl rfl
theorem tw_1069 : Cond.code yX10_isSafeAt cX10_isSafeAt 2 (some .boolean) ∈ zTW := zmem5 109 rfl rfl
theorem tw_1070 : Cond.methodLink RL 184 yL_guardFor ∈ zTW := zmem5 110 rfl rfl
theorem tw_1071 : Cond.static yL_guardFor ∈ zTW := zmem5 111 rfl rfl
theorem tw_1073 : Cond.methodLink RL 80 yX10_guardFor ∈ zTW := zmem5 113 rfl rfl
theorem tw_1074 : Cond.instanceMethod yX10_guardFor ∈ zTW := zmem5 114 rfl rfl
theorem tw_1075 : Cond.selects RX10 yX10_guardFor yX10_guardFor ∈ zTW := zmem5 115 rfl rfl
theorem tw_1076 : Cond.code yX10_guardFor cX10_guardFor 7 (some .int) ∈ zTW := zmem5 116 rfl rfl
theorem tw_1077 : Cond.methodLink RX10 307 yX10_marginsFrom ∈ zTW := zmem5 117 rfl rfl
theorem tw_1079 : Cond.instanceMethod yX10_marginsFrom ∈ zTW := zmem5 119 rfl rfl
theorem tw_1080 : Cond.code yX10_marginsFrom cX10_marginsFrom 4 (some .int) ∈ zTW := zmem5 120 rfl rfl
theorem tw_1081 : Cond.methodLink RL 187 yL_ways ∈ zTW := zmem5 121 rfl rfl
theorem tw_1082 : Cond.static yL_ways ∈ zTW := zmem5 122 rfl rfl
theorem tw_1084 : Cond.methodLink RL 83 yX10_ways ∈ zTW := zmem5 124 rfl rfl
theorem tw_1085 : Cond.instanceMethod yX10_ways ∈ zTW := zmem5 125 rfl rfl
theorem tw_1086 : Cond.selects RX10 yX10_ways yX10_ways ∈ zTW := zmem5 126 rfl rfl
theorem tw_1087 : Cond.code yX10_ways cX10_ways 3 (some .long) ∈ zTW := zmem5 127 rfl rfl
theorem tw_1088 : Cond.methodLink RX10 314 yX1_pairsAsSet ∈ zTW := zmem5 128 rfl rfl
theorem tw_1089 : Cond.instanceMethod yX1_pairsAsSet ∈ zTW := zmem5 129 rfl rfl
theorem tw_1090 : Cond.selects RX1 yX1_pairsAsSet yX1_pairsAsSet ∈ zTW := zmem5 130 rfl rfl
theorem tw_1091 : Cond.code yX1_pairsAsSet cX1_pairsAsSet 3 (some .int) ∈ zTW := zmem5 131 rfl rfl
theorem tw_1092 : Cond.methodLink RX10 317 yX9_count ∈ zTW := zmem5 132 rfl rfl
theorem tw_1093 : Cond.instanceMethod yX9_count ∈ zTW := zmem5 133 rfl rfl
theorem tw_1094 : Cond.selects RX9 yX9_count yX9_count ∈ zTW := zmem5 134 rfl rfl
theorem tw_1095 : Cond.code yX9_count cX9_count 6 (some .long) ∈ zTW := zmem5 135 rfl rfl
theorem tw_1096 : Cond.methodLink RX9 22 yX9_link ∈ zTW := zmem5 136 rfl rfl
theorem tw_1098 : Cond.instanceMethod yX9_link ∈ zTW := zmem5 138 rfl rfl
theorem tw_1099 : Cond.code yX9_link cX9_link 4 none ∈ zTW := zmem5 139 rfl rfl
theorem tw_1101 : Cond.methodLink RX9 32 yX9_countOf ∈ zTW := zmem5 141 rfl rfl
theorem tw_1103 : Cond.instanceMethod yX9_countOf ∈ zTW := zmem5 143 rfl rfl
theorem tw_1104 : Cond.code yX9_countOf cX9_countOf 5 (some .long) ∈ zTW := zmem5 144 rfl rfl
theorem tw_1105 : Cond.methodLink RX10 320 yX6_allPairs ∈ zTW := zmem5 145 rfl rfl
theorem tw_1106 : Cond.methodLink RL 190 yL_leak ∈ zTW := zmem5 146 rfl rfl
theorem tw_1107 : Cond.static yL_leak ∈ zTW := zmem5 147 rfl rfl
theorem tw_1109 : Cond.methodLink RL 87 yX10_leak ∈ zTW := zmem5 149 rfl rfl
theorem tw_1110 : Cond.instanceMethod yX10_leak ∈ zTW := zmem5 150 rfl rfl
theorem tw_1111 : Cond.selects RX10 yX10_leak yX10_leak ∈ zTW := zmem5 151 rfl rfl
theorem tw_1112 : Cond.code yX10_leak cX10_leak 2 (some .int) ∈ zTW := zmem5 152 rfl rfl
theorem tw_1113 : Cond.methodLink RX10 323 yX10_sureOfEnrolled ∈ zTW := zmem5 153 rfl rfl
theorem tw_1115 : Cond.instanceMethod yX10_sureOfEnrolled ∈ zTW := zmem5 155 rfl rfl
theorem tw_1116 : Cond.code yX10_sureOfEnrolled cX10_sureOfEnrolled 4 (some .int) ∈ zTW := zmem5 156 rfl rfl
theorem tw_1117 : Cond.constantLong RX10 395 (2) ∈ zTW := zmem5 157 rfl rfl
theorem tw_1118 : Cond.methodLink RX10 326 yX1_leaked ∈ zTW := zmem5 158 rfl rfl
theorem tw_1119 : Cond.instanceMethod yX1_leaked ∈ zTW := zmem5 159 rfl rfl
theorem tw_1120 : Cond.selects RX1 yX1_leaked yX1_leaked ∈ zTW := zmem5 160 rfl rfl
theorem tw_1121 : Cond.code yX1_leaked cX1_leaked 1 (some .int) ∈ zTW := zmem5 161 rfl rfl
theorem tw_1122 : Cond.methodLink RX10 329 yX4_clear ∈ zTW := zmem5 162 rfl rfl
theorem tw_1123 : Cond.methodLink RX10 330 yX2_count ∈ zTW := zmem5 163 rfl rfl
theorem tw_1124 : Cond.instanceMethod yX2_count ∈ zTW := zmem5 164 rfl rfl
theorem tw_1125 : Cond.selects RX2 yX2_count yX2_count ∈ zTW := zmem5 165 rfl rfl
theorem tw_1126 : Cond.code yX2_count cX2_count 4 (some .int) ∈ zTW := zmem5 166 rfl rfl
theorem tw_1127 : Cond.methodLink RX2 18 yX4_isBroken ∈ zTW := zmem5 167 rfl rfl
theorem tw_1128 : Cond.instanceMethod yX4_isBroken ∈ zTW := zmem5 168 rfl rfl
theorem tw_1129 : Cond.selects RX4 yX4_isBroken yX4_isBroken ∈ zTW := zmem5 169 rfl rfl
theorem tw_1130 : Cond.code yX4_isBroken cX4_isBroken 2 (some .boolean) ∈ zTW := zmem5 170 rfl rfl
theorem tw_1131 : Cond.methodLink RX2 22 yX4_copyFrom ∈ zTW := zmem5 171 rfl rfl
theorem tw_1132 : Cond.methodLink RX2 26 yX2_countFrom ∈ zTW := zmem5 172 rfl rfl
theorem tw_1134 : Cond.instanceMethod yX2_countFrom ∈ zTW := zmem5 174 rfl rfl
theorem tw_1135 : Cond.code yX2_countFrom cX2_countFrom 10 (some .int) ∈ zTW := zmem5 175 rfl rfl
theorem tw_1136 : Cond.methodLink RX2 42 yX0_bitsOf ∈ zTW := zmem5 176 rfl rfl
theorem tw_1137 : Cond.methodLink RX2 48 yX1_secretBits ∈ zTW := zmem5 177 rfl rfl
theorem tw_1138 : Cond.methodLink RX2 52 yX0_checkWith ∈ zTW := zmem5 178 rfl rfl
theorem tw_1139 : Cond.methodLink RX2 56 yX0_canBecome ∈ zTW := zmem5 179 rfl rfl
theorem tw_1140 : Cond.static yX0_canBecome ∈ zTW := zmem5 180 rfl rfl
theorem tw_1141 : Cond.code yX0_canBecome cX0_canBecome 3 (some .boolean) ∈ zTW := zmem5 181 rfl rfl
theorem tw_1142 : Cond.methodLink RX0 45 yX0_checkWith ∈ zTW := zmem5 182 rfl rfl
theorem tw_1143 : Cond.methodLink RX2 60 yX2_putBlock ∈ zTW := zmem5 183 rfl rfl
theorem tw_1145 : Cond.instanceMethod yX2_putBlock ∈ zTW := zmem5 185 rfl rfl
theorem tw_1146 : Cond.code yX2_putBlock cX2_putBlock 11 (some .boolean) ∈ zTW := zmem5 186 rfl rfl
theorem tw_1147 : Cond.methodLink RX2 64 yX0_lengthOf ∈ zTW := zmem5 187 rfl rfl
theorem tw_1148 : Cond.methodLink RX2 67 yX0_wordOf ∈ zTW := zmem5 188 rfl rfl
theorem tw_1150 : Cond.methodLink RX2 89 yX4_bitTold ∈ zTW := zmem5 190 rfl rfl
theorem tw_1151 : Cond.methodLink RX2 92 yX4_putPair ∈ zTW := zmem5 191 rfl rfl
theorem tw_1152 : Cond.methodLink RL 193 yL_success ∈ zTW := zmem5 192 rfl rfl
theorem tw_1153 : Cond.static yL_success ∈ zTW := zmem5 193 rfl rfl
theorem tw_1155 : Cond.methodLink RL 90 yX10_success ∈ zTW := zmem5 195 rfl rfl
theorem tw_1156 : Cond.instanceMethod yX10_success ∈ zTW := zmem5 196 rfl rfl
theorem tw_1157 : Cond.selects RX10 yX10_success yX10_success ∈ zTW := zmem5 197 rfl rfl
theorem tw_1158 : Cond.code yX10_success cX10_success 9 (some .int) ∈ zTW := zmem5 198 rfl rfl
theorem tw_1159 : Cond.methodLink RL 196 yL_curve ∈ zTW := zmem5 199 rfl rfl
theorem tw_1160 : Cond.static yL_curve ∈ zTW := zmem5 200 rfl rfl
theorem tw_1162 : Cond.methodLink RL 93 yX10_curve ∈ zTW := zmem5 202 rfl rfl
theorem tw_1163 : Cond.instanceMethod yX10_curve ∈ zTW := zmem5 203 rfl rfl
theorem tw_1164 : Cond.selects RX10 yX10_curve yX10_curve ∈ zTW := zmem5 204 rfl rfl
theorem tw_1165 : Cond.code yX10_curve cX10_curve 4 (some .int) ∈ zTW := zmem5 205 rfl rfl
theorem tw_1166 : Cond.methodLink RX10 336 yX10_epochsToLearn ∈ zTW := zmem5 206 rfl rfl
theorem tw_1168 : Cond.instanceMethod yX10_epochsToLearn ∈ zTW := zmem5 208 rfl rfl
theorem tw_1169 : Cond.code yX10_epochsToLearn cX10_epochsToLearn 3 (some .int) ∈ zTW := zmem5 209 rfl rfl
theorem tw_1170 : Cond.methodLink RX10 340 yX10_guessedRight ∈ zTW := zmem5 210 rfl rfl
theorem tw_1172 : Cond.instanceMethod yX10_guessedRight ∈ zTW := zmem5 212 rfl rfl
theorem tw_1173 : Cond.code yX10_guessedRight cX10_guessedRight 5 (some .int) ∈ zTW := zmem5 213 rfl rfl
theorem tw_1174 : Cond.methodLink RL 111 yX11_thrown ∈ zTW := zmem5 214 rfl rfl
theorem tw_1175 : Cond.instanceMethod yX11_thrown ∈ zTW := zmem5 215 rfl rfl
theorem tw_1176 : Cond.selects RX11 yX11_thrown yX11_thrown ∈ zTW := zmem5 216 rfl rfl
theorem tw_1177 : Cond.code yX11_thrown cX11_thrown 1 (some .int) ∈ zTW := zmem5 217 rfl rfl
theorem tw_1180 : Cond.methodLink RL 99 yX11_init ∈ zTW := zmem5 220 rfl rfl
theorem tw_1182 : Cond.code yX11_init cX11_init 1 none ∈ zTW := zmem5 222 rfl rfl
theorem tw_1183 : Cond.methodLink RX11 11 ⟨"java/lang/Object", "<init>", "()V"⟩ ∈ zTW := zmem5 223 rfl rfl
theorem tw_1184 : Cond.methodLink RX11 70 yX11_clears ∈ zTW := zmem5 224 rfl rfl
theorem tw_1185 : Cond.static yX11_clears ∈ zTW := zmem5 225 rfl rfl
theorem tw_1186 : Cond.code yX11_clears cX11_clears 2 none ∈ zTW := zmem5 226 rfl rfl
theorem tw_1187 : Cond.fieldLink RX11 1 (TX11 0).1 (TX11 0).2.1 (TX11 0).2.2.1 ∈ zTW := zmem5 227 rfl rfl
theorem tw_1188 : Cond.fieldLink RX11 7 (TX11 1).1 (TX11 1).2.1 (TX11 1).2.2.1 ∈ zTW := zmem5 228 rfl rfl
theorem tw_1189 : Cond.fieldLink RX11 17 (TX11 2).1 (TX11 2).2.1 (TX11 2).2.2.1 ∈ zTW := zmem5 229 rfl rfl
theorem tw_1190 : Cond.fieldLink RX11 20 (TX11 3).1 (TX11 3).2.1 (TX11 3).2.2.1 ∈ zTW := zmem5 230 rfl rfl
theorem tw_1191 : Cond.fieldLink RX11 23 (TX11 4).1 (TX11 4).2.1 (TX11 4).2.2.1 ∈ zTW := zmem5 231 rfl rfl
theorem tw_1192 : Cond.fieldLink RX11 26 (TX11 5).1 (TX11 5).2.1 (TX11 5).2.2.1 ∈ zTW := zmem5 232 rfl rfl
theorem tw_1193 : Cond.fieldLink RX11 29 (TX11 6).1 (TX11 6).2.1 (TX11 6).2.2.1 ∈ zTW := zmem5 233 rfl rfl
theorem tw_1194 : Cond.fieldLink RX11 32 (TX11 7).1 (TX11 7).2.1 (TX11 7).2.2.1 ∈ zTW := zmem5 234 rfl rfl
theorem tw_1195 : Cond.fieldLink RX11 35 (TX11 8).1 (TX11 8).2.1 (TX11 8).2.2.1 ∈ zTW := zmem5 235 rfl rfl
theorem tw_1196 : Cond.fieldLink RX11 227 (TX11 9).1 (TX11 9).2.1 (TX11 9).2.2.1 ∈ zTW := zmem5 236 rfl rfl
theorem tw_1197 : Cond.fieldLink RX11 224 (TX11 10).1 (TX11 10).2.1 (TX11 10).2.2.1 ∈ zTW := zmem5 237 rfl rfl
theorem tw_1198 : Cond.fieldLink RX11 103 (TX11 11).1 (TX11 11).2.1 (TX11 11).2.2.1 ∈ zTW := zmem5 238 rfl rfl
theorem tw_1199 : Cond.fieldLink RX11 38 (TX11 12).1 (TX11 12).2.1 (TX11 12).2.2.1 ∈ zTW := zmem5 239 rfl rfl
theorem tw_1200 : Cond.fieldLink RX11 41 (TX11 13).1 (TX11 13).2.1 (TX11 13).2.2.1 ∈ zTW := zmem6 0 rfl rfl
theorem tw_1201 : Cond.fieldLink RX11 44 (TX11 14).1 (TX11 14).2.1 (TX11 14).2.2.1 ∈ zTW := zmem6 1 rfl rfl
theorem tw_1202 : Cond.fieldLink RX11 47 (TX11 15).1 (TX11 15).2.1 (TX11 15).2.2.1 ∈ zTW := zmem6 2 rfl rfl
theorem tw_1203 : Cond.fieldLink RX11 51 (TX11 16).1 (TX11 16).2.1 (TX11 16).2.2.1 ∈ zTW := zmem6 3 rfl rfl
theorem tw_1204 : Cond.fieldLink RX11 127 (TX11 17).1 (TX11 17).2.1 (TX11 17).2.2.1 ∈ zTW := zmem6 4 rfl rfl
theorem tw_1205 : Cond.fieldLink RX11 143 (TX11 18).1 (TX11 18).2.1 (TX11 18).2.2.1 ∈ zTW := zmem6 5 rfl rfl
theorem tw_1206 : Cond.fieldLink RX11 140 (TX11 19).1 (TX11 19).2.1 (TX11 19).2.2.1 ∈ zTW := zmem6 6 rfl rfl
theorem tw_1207 : Cond.fieldLink RX11 162 (TX11 20).1 (TX11 20).2.1 (TX11 20).2.2.1 ∈ zTW := zmem6 7 rfl rfl
theorem tw_1208 : Cond.fieldLink RX11 134 (TX11 21).1 (TX11 21).2.1 (TX11 21).2.2.1 ∈ zTW := zmem6 8 rfl rfl
theorem tw_1209 : Cond.fieldLink RX11 137 (TX11 22).1 (TX11 22).2.1 (TX11 22).2.2.1 ∈ zTW := zmem6 9 rfl rfl
theorem tw_1210 : Cond.fieldLink RX11 54 (TX11 23).1 (TX11 23).2.1 (TX11 23).2.2.1 ∈ zTW := zmem6 10 rfl rfl
theorem tw_1211 : Cond.fieldLink RX11 177 (TX11 24).1 (TX11 24).2.1 (TX11 24).2.2.1 ∈ zTW := zmem6 11 rfl rfl
theorem tw_1212 : Cond.fieldLink RX11 184 (TX11 25).1 (TX11 25).2.1 (TX11 25).2.2.1 ∈ zTW := zmem6 12 rfl rfl
theorem tw_1213 : Cond.fieldLink RX11 165 (TX11 26).1 (TX11 26).2.1 (TX11 26).2.2.1 ∈ zTW := zmem6 13 rfl rfl
theorem tw_1214 : Cond.fieldLink RX11 291 (TX11 27).1 (TX11 27).2.1 (TX11 27).2.2.1 ∈ zTW := zmem6 14 rfl rfl
theorem tw_1215 : Cond.fieldLink RX11 295 (TX11 28).1 (TX11 28).2.1 (TX11 28).2.2.1 ∈ zTW := zmem6 15 rfl rfl
theorem tw_1216 : Cond.fieldLink RX11 298 (TX11 29).1 (TX11 29).2.1 (TX11 29).2.2.1 ∈ zTW := zmem6 16 rfl rfl
theorem tw_1217 : Cond.fieldLink RX11 301 (TX11 30).1 (TX11 30).2.1 (TX11 30).2.2.1 ∈ zTW := zmem6 17 rfl rfl
theorem tw_1218 : Cond.fieldLink RX11 57 (TX11 31).1 (TX11 31).2.1 (TX11 31).2.2.1 ∈ zTW := zmem6 18 rfl rfl
theorem tw_1219 : Cond.fieldLink RX11 60 (TX11 32).1 (TX11 32).2.1 (TX11 32).2.2.1 ∈ zTW := zmem6 19 rfl rfl
theorem tw_1220 : Cond.fieldLink RX11 63 (TX11 33).1 (TX11 33).2.1 (TX11 33).2.2.1 ∈ zTW := zmem6 20 rfl rfl
theorem tw_1221 : Cond.fieldLink RX11 67 (TX11 34).1 (TX11 34).2.1 (TX11 34).2.2.1 ∈ zTW := zmem6 21 rfl rfl
theorem tw_1293 : Cond.methodLink RL 104 yX11_feed ∈ zTW := zmem6 93 rfl rfl
theorem tw_1294 : Cond.instanceMethod yX11_feed ∈ zTW := zmem6 94 rfl rfl
theorem tw_1295 : Cond.selects RX11 yX11_feed yX11_feed ∈ zTW := zmem6 95 rfl rfl
theorem tw_1296 : Cond.code yX11_feed cX11_feed 6 (some .int) ∈ zTW := zmem6 96 rfl rfl
theorem tw_1297 : Cond.methodLink RX11 130 yX11_puts ∈ zTW := zmem6 97 rfl rfl
theorem tw_1299 : Cond.instanceMethod yX11_puts ∈ zTW := zmem6 99 rfl rfl
theorem tw_1300 : Cond.code yX11_puts cX11_puts 3 none ∈ zTW := zmem6 100 rfl rfl
theorem tw_1301 : Cond.methodLink RL 110 yX11_text ∈ zTW := zmem6 101 rfl rfl
theorem tw_1302 : Cond.instanceMethod yX11_text ∈ zTW := zmem6 102 rfl rfl
theorem tw_1303 : Cond.selects RX11 yX11_text yX11_text ∈ zTW := zmem6 103 rfl rfl
theorem tw_1304 : Cond.code yX11_text cX11_text 3 (some .int) ∈ zTW := zmem6 104 rfl rfl
theorem tw_1305 : Cond.methodLink RX11 173 yX11_within ∈ zTW := zmem6 105 rfl rfl
theorem tw_1306 : Cond.static yX11_within ∈ zTW := zmem6 106 rfl rfl
theorem tw_1307 : Cond.code yX11_within cX11_within 3 (some .boolean) ∈ zTW := zmem6 107 rfl rfl
theorem tw_1308 : Cond.methodLink RX11 217 yX11_isFine ∈ zTW := zmem6 108 rfl rfl
theorem tw_1310 : Cond.instanceMethod yX11_isFine ∈ zTW := zmem6 110 rfl rfl
theorem tw_1311 : Cond.code yX11_isFine cX11_isFine 4 (some .boolean) ∈ zTW := zmem6 111 rfl rfl
theorem tw_1312 : Cond.methodLink RX11 146 yX11_sign ∈ zTW := zmem6 112 rfl rfl
theorem tw_1314 : Cond.instanceMethod yX11_sign ∈ zTW := zmem6 114 rfl rfl
theorem tw_1315 : Cond.code yX11_sign cX11_sign 1 (some .int) ∈ zTW := zmem6 115 rfl rfl
theorem tw_1316 : Cond.methodLink RX11 221 yX11_oneLine ∈ zTW := zmem6 116 rfl rfl
theorem tw_1318 : Cond.instanceMethod yX11_oneLine ∈ zTW := zmem6 118 rfl rfl
theorem tw_1319 : Cond.code yX11_oneLine cX11_oneLine 1 none ∈ zTW := zmem6 119 rfl rfl
theorem tw_1321 : Cond.methodLink RX11 189 yX11_passes ∈ zTW := zmem6 121 rfl rfl
theorem tw_1323 : Cond.instanceMethod yX11_passes ∈ zTW := zmem6 123 rfl rfl
theorem tw_1324 : Cond.code yX11_passes cX11_passes 3 (some .boolean) ∈ zTW := zmem6 124 rfl rfl
theorem tw_1325 : Cond.methodLink RX11 149 yJ0_length_8abf5 ∈ zTW := zmem6 125 rfl rfl
theorem tw_1326 : Cond.methodLink RX11 154 yX11_isSmall ∈ zTW := zmem6 126 rfl rfl
theorem tw_1328 : Cond.instanceMethod yX11_isSmall ∈ zTW := zmem6 128 rfl rfl
theorem tw_1329 : Cond.code yX11_isSmall cX11_isSmall 2 (some .boolean) ∈ zTW := zmem6 129 rfl rfl
theorem tw_1330 : Cond.methodLink RX11 158 yJ0_charAt_5068e ∈ zTW := zmem6 130 rfl rfl
theorem tw_1331 : Cond.methodLink RX11 193 yX11_ringTold ∈ zTW := zmem6 131 rfl rfl
theorem tw_1333 : Cond.instanceMethod yX11_ringTold ∈ zTW := zmem6 133 rfl rfl
theorem tw_1334 : Cond.code yX11_ringTold cX11_ringTold 5 none ∈ zTW := zmem6 134 rfl rfl
theorem tw_1335 : Cond.methodLink RX11 168 yX11_wrong ∈ zTW := zmem6 135 rfl rfl
theorem tw_1337 : Cond.instanceMethod yX11_wrong ∈ zTW := zmem6 137 rfl rfl
theorem tw_1338 : Cond.code yX11_wrong cX11_wrong 3 none ∈ zTW := zmem6 138 rfl rfl
theorem tw_1339 : Cond.methodLink RX11 95 yJ9_min_7cf53 ∈ zTW := zmem6 139 rfl rfl
theorem tw_1340 : Cond.methodLink RX11 180 yX11_number ∈ zTW := zmem6 140 rfl rfl
theorem tw_1342 : Cond.instanceMethod yX11_number ∈ zTW := zmem6 142 rfl rfl
theorem tw_1343 : Cond.code yX11_number cX11_number 8 (some .int) ∈ zTW := zmem6 143 rfl rfl
theorem tw_1344 : Cond.constant RX11 172 (1000000) ∈ zTW := zmem6 144 rfl rfl
theorem tw_1346 : Cond.methodLink RX11 198 yX11_pairTold ∈ zTW := zmem6 146 rfl rfl
theorem tw_1348 : Cond.instanceMethod yX11_pairTold ∈ zTW := zmem6 148 rfl rfl
theorem tw_1349 : Cond.code yX11_pairTold cX11_pairTold 5 none ∈ zTW := zmem6 149 rfl rfl
theorem tw_1352 : Cond.methodLink RX11 205 yX11_heatsTold ∈ zTW := zmem6 152 rfl rfl
theorem tw_1354 : Cond.instanceMethod yX11_heatsTold ∈ zTW := zmem6 154 rfl rfl
theorem tw_1355 : Cond.code yX11_heatsTold cX11_heatsTold 1 none ∈ zTW := zmem6 155 rfl rfl
theorem tw_1358 : Cond.methodLink RX11 212 yX11_repeatTold ∈ zTW := zmem6 158 rfl rfl
theorem tw_1360 : Cond.instanceMethod yX11_repeatTold ∈ zTW := zmem6 160 rfl rfl
theorem tw_1361 : Cond.code yX11_repeatTold cX11_repeatTold 2 none ∈ zTW := zmem6 161 rfl rfl
theorem tw_1363 : Cond.methodLink RL 118 yX11_fault ∈ zTW := zmem6 163 rfl rfl
theorem tw_1364 : Cond.instanceMethod yX11_fault ∈ zTW := zmem6 164 rfl rfl
theorem tw_1365 : Cond.selects RX11 yX11_fault yX11_fault ∈ zTW := zmem6 165 rfl rfl
theorem tw_1366 : Cond.code yX11_fault cX11_fault 1 (some .int) ∈ zTW := zmem6 166 rfl rfl
theorem tw_1367 : Cond.methodLink RL 122 yX11_set ∈ zTW := zmem6 167 rfl rfl
theorem tw_1368 : Cond.instanceMethod yX11_set ∈ zTW := zmem6 168 rfl rfl
theorem tw_1369 : Cond.selects RX11 yX11_set yX11_set ∈ zTW := zmem6 169 rfl rfl
theorem tw_1370 : Cond.code yX11_set cX11_set 4 (some .int) ∈ zTW := zmem6 170 rfl rfl
theorem tw_1371 : Cond.methodLink RX11 230 yX11_maySet ∈ zTW := zmem6 171 rfl rfl
theorem tw_1373 : Cond.instanceMethod yX11_maySet ∈ zTW := zmem6 173 rfl rfl
theorem tw_1374 : Cond.code yX11_maySet cX11_maySet 3 (some .boolean) ∈ zTW := zmem6 174 rfl rfl
theorem tw_1375 : Cond.methodLink RX11 233 yX11_keeps ∈ zTW := zmem6 175 rfl rfl
theorem tw_1377 : Cond.instanceMethod yX11_keeps ∈ zTW := zmem6 177 rfl rfl
theorem tw_1378 : Cond.code yX11_keeps cX11_keeps 2 none ∈ zTW := zmem6 178 rfl rfl
theorem tw_1379 : Cond.methodLink RL 126 yX11_wear ∈ zTW := zmem6 179 rfl rfl
theorem tw_1380 : Cond.instanceMethod yX11_wear ∈ zTW := zmem6 180 rfl rfl
theorem tw_1381 : Cond.selects RX11 yX11_wear yX11_wear ∈ zTW := zmem6 181 rfl rfl
theorem tw_1382 : Cond.code yX11_wear cX11_wear 5 (some .int) ∈ zTW := zmem6 182 rfl rfl
theorem tw_1383 : Cond.methodLink RX11 236 yX11_isRing ∈ zTW := zmem6 183 rfl rfl
theorem tw_1385 : Cond.instanceMethod yX11_isRing ∈ zTW := zmem6 185 rfl rfl
theorem tw_1386 : Cond.code yX11_isRing cX11_isRing 2 (some .boolean) ∈ zTW := zmem6 186 rfl rfl
theorem tw_1387 : Cond.methodLink RL 129 yX11_enrol ∈ zTW := zmem6 187 rfl rfl
theorem tw_1388 : Cond.instanceMethod yX11_enrol ∈ zTW := zmem6 188 rfl rfl
theorem tw_1389 : Cond.selects RX11 yX11_enrol yX11_enrol ∈ zTW := zmem6 189 rfl rfl
theorem tw_1390 : Cond.code yX11_enrol cX11_enrol 9 (some .int) ∈ zTW := zmem6 190 rfl rfl
theorem tw_1391 : Cond.methodLink RX11 239 yX11_blocks ∈ zTW := zmem6 191 rfl rfl
theorem tw_1393 : Cond.instanceMethod yX11_blocks ∈ zTW := zmem6 193 rfl rfl
theorem tw_1394 : Cond.code yX11_blocks cX11_blocks 1 (some .int) ∈ zTW := zmem6 194 rfl rfl
theorem tw_1395 : Cond.methodLink RX11 120 yX11_usedNow ∈ zTW := zmem6 195 rfl rfl
theorem tw_1397 : Cond.instanceMethod yX11_usedNow ∈ zTW := zmem6 197 rfl rfl
theorem tw_1398 : Cond.code yX11_usedNow cX11_usedNow 1 (some .int) ∈ zTW := zmem6 198 rfl rfl
theorem tw_1399 : Cond.methodLink RX11 110 yX11_usedBy ∈ zTW := zmem6 199 rfl rfl
theorem tw_1401 : Cond.instanceMethod yX11_usedBy ∈ zTW := zmem6 201 rfl rfl
theorem tw_1402 : Cond.code yX11_usedBy cX11_usedBy 5 (some .int) ∈ zTW := zmem6 202 rfl rfl
theorem tw_1403 : Cond.methodLink RX11 106 yX11_isSteady ∈ zTW := zmem6 203 rfl rfl
theorem tw_1405 : Cond.instanceMethod yX11_isSteady ∈ zTW := zmem6 205 rfl rfl
theorem tw_1406 : Cond.code yX11_isSteady cX11_isSteady 3 (some .boolean) ∈ zTW := zmem6 206 rfl rfl
theorem tw_1407 : Cond.methodLink RX11 100 yX11_marginOf ∈ zTW := zmem6 207 rfl rfl
theorem tw_1409 : Cond.instanceMethod yX11_marginOf ∈ zTW := zmem6 209 rfl rfl
theorem tw_1410 : Cond.code yX11_marginOf cX11_marginOf 4 (some .int) ∈ zTW := zmem6 210 rfl rfl
theorem tw_1411 : Cond.methodLink RX11 92 yX11_apart ∈ zTW := zmem6 211 rfl rfl
theorem tw_1413 : Cond.instanceMethod yX11_apart ∈ zTW := zmem6 213 rfl rfl
theorem tw_1414 : Cond.code yX11_apart cX11_apart 4 (some .int) ∈ zTW := zmem6 214 rfl rfl
theorem tw_1415 : Cond.methodLink RX11 74 yX11_speedOf ∈ zTW := zmem6 215 rfl rfl
theorem tw_1417 : Cond.instanceMethod yX11_speedOf ∈ zTW := zmem6 217 rfl rfl
theorem tw_1418 : Cond.code yX11_speedOf cX11_speedOf 3 (some .int) ∈ zTW := zmem6 218 rfl rfl
theorem tw_1419 : Cond.methodLink RX11 85 yX11_bitOf ∈ zTW := zmem6 219 rfl rfl
theorem tw_1421 : Cond.instanceMethod yX11_bitOf ∈ zTW := zmem6 221 rfl rfl
theorem tw_1422 : Cond.code yX11_bitOf cX11_bitOf 2 (some .int) ∈ zTW := zmem6 222 rfl rfl
theorem tw_1423 : Cond.methodLink RX11 82 yX11_bitAt ∈ zTW := zmem6 223 rfl rfl
theorem tw_1425 : Cond.instanceMethod yX11_bitAt ∈ zTW := zmem6 225 rfl rfl
theorem tw_1426 : Cond.code yX11_bitAt cX11_bitAt 3 (some .int) ∈ zTW := zmem6 226 rfl rfl
theorem tw_1427 : Cond.methodLink RX11 78 yX11_bitBy ∈ zTW := zmem6 227 rfl rfl
theorem tw_1428 : Cond.static yX11_bitBy ∈ zTW := zmem6 228 rfl rfl
theorem tw_1429 : Cond.code yX11_bitBy cX11_bitBy 4 (some .int) ∈ zTW := zmem6 229 rfl rfl
theorem tw_1430 : Cond.methodLink RX11 89 yX11_noiseOf ∈ zTW := zmem6 230 rfl rfl
theorem tw_1432 : Cond.instanceMethod yX11_noiseOf ∈ zTW := zmem6 232 rfl rfl
theorem tw_1433 : Cond.code yX11_noiseOf cX11_noiseOf 2 (some .int) ∈ zTW := zmem6 233 rfl rfl
theorem tw_1434 : Cond.methodLink RX11 124 yX11_blocksOf ∈ zTW := zmem6 234 rfl rfl
theorem tw_1436 : Cond.instanceMethod yX11_blocksOf ∈ zTW := zmem6 236 rfl rfl
theorem tw_1437 : Cond.code yX11_blocksOf cX11_blocksOf 3 (some .int) ∈ zTW := zmem6 237 rfl rfl
theorem tw_1438 : Cond.methodLink RX11 114 yX11_wideBy ∈ zTW := zmem6 238 rfl rfl
theorem tw_1439 : Cond.static yX11_wideBy ∈ zTW := zmem6 239 rfl rfl
theorem tw_1440 : Cond.code yX11_wideBy cX11_wideBy 1 (some .int) ∈ zTW := zmem7 0 rfl rfl
theorem tw_1441 : Cond.methodLink RX11 117 yX11_givesBy ∈ zTW := zmem7 1 rfl rfl
theorem tw_1442 : Cond.static yX11_givesBy ∈ zTW := zmem7 2 rfl rfl
theorem tw_1443 : Cond.code yX11_givesBy cX11_givesBy 1 (some .int) ∈ zTW := zmem7 3 rfl rfl
theorem tw_1444 : Cond.methodLink RX11 242 yX11_secretBits ∈ zTW := zmem7 4 rfl rfl
theorem tw_1446 : Cond.instanceMethod yX11_secretBits ∈ zTW := zmem7 6 rfl rfl
theorem tw_1447 : Cond.code yX11_secretBits cX11_secretBits 1 (some .int) ∈ zTW := zmem7 7 rfl rfl
theorem tw_1448 : Cond.methodLink RX11 245 yX11_words ∈ zTW := zmem7 8 rfl rfl
theorem tw_1450 : Cond.instanceMethod yX11_words ∈ zTW := zmem7 10 rfl rfl
theorem tw_1451 : Cond.code yX11_words cX11_words 7 none ∈ zTW := zmem7 11 rfl rfl
theorem tw_1452 : Cond.methodLink RX11 248 yX11_checkOf ∈ zTW := zmem7 12 rfl rfl
theorem tw_1453 : Cond.static yX11_checkOf ∈ zTW := zmem7 13 rfl rfl
theorem tw_1454 : Cond.code yX11_checkOf cX11_checkOf 4 (some .int) ∈ zTW := zmem7 14 rfl rfl
theorem tw_1455 : Cond.methodLink RL 132 yX11_hear ∈ zTW := zmem7 15 rfl rfl
theorem tw_1456 : Cond.instanceMethod yX11_hear ∈ zTW := zmem7 16 rfl rfl
theorem tw_1457 : Cond.selects RX11 yX11_hear yX11_hear ∈ zTW := zmem7 17 rfl rfl
theorem tw_1458 : Cond.code yX11_hear cX11_hear 3 (some .int) ∈ zTW := zmem7 18 rfl rfl
theorem tw_1459 : Cond.methodLink RX11 251 yX11_isPair ∈ zTW := zmem7 19 rfl rfl
theorem tw_1461 : Cond.instanceMethod yX11_isPair ∈ zTW := zmem7 21 rfl rfl
theorem tw_1462 : Cond.code yX11_isPair cX11_isPair 2 (some .boolean) ∈ zTW := zmem7 22 rfl rfl
theorem tw_1463 : Cond.methodLink RX11 254 yX11_heardAt ∈ zTW := zmem7 23 rfl rfl
theorem tw_1465 : Cond.instanceMethod yX11_heardAt ∈ zTW := zmem7 25 rfl rfl
theorem tw_1466 : Cond.code yX11_heardAt cX11_heardAt 3 (some .int) ∈ zTW := zmem7 26 rfl rfl
theorem tw_1467 : Cond.methodLink RL 135 yX11_train ∈ zTW := zmem7 27 rfl rfl
theorem tw_1468 : Cond.instanceMethod yX11_train ∈ zTW := zmem7 28 rfl rfl
theorem tw_1469 : Cond.selects RX11 yX11_train yX11_train ∈ zTW := zmem7 29 rfl rfl
theorem tw_1470 : Cond.code yX11_train cX11_train 4 (some .int) ∈ zTW := zmem7 30 rfl rfl
theorem tw_1471 : Cond.methodLink RX11 260 yX11_epoch ∈ zTW := zmem7 31 rfl rfl
theorem tw_1473 : Cond.instanceMethod yX11_epoch ∈ zTW := zmem7 33 rfl rfl
theorem tw_1474 : Cond.code yX11_epoch cX11_epoch 5 (some .int) ∈ zTW := zmem7 34 rfl rfl
theorem tw_1475 : Cond.methodLink RX11 257 yX11_guessOf ∈ zTW := zmem7 35 rfl rfl
theorem tw_1477 : Cond.instanceMethod yX11_guessOf ∈ zTW := zmem7 37 rfl rfl
theorem tw_1478 : Cond.code yX11_guessOf cX11_guessOf 2 (some .int) ∈ zTW := zmem7 38 rfl rfl
theorem tw_1479 : Cond.methodLink RL 138 yX11_turn ∈ zTW := zmem7 39 rfl rfl
theorem tw_1480 : Cond.instanceMethod yX11_turn ∈ zTW := zmem7 40 rfl rfl
theorem tw_1481 : Cond.selects RX11 yX11_turn yX11_turn ∈ zTW := zmem7 41 rfl rfl
theorem tw_1482 : Cond.code yX11_turn cX11_turn 2 (some .int) ∈ zTW := zmem7 42 rfl rfl
theorem tw_1483 : Cond.methodLink RX11 263 yX11_isKept ∈ zTW := zmem7 43 rfl rfl
theorem tw_1485 : Cond.instanceMethod yX11_isKept ∈ zTW := zmem7 45 rfl rfl
theorem tw_1486 : Cond.code yX11_isKept cX11_isKept 1 (some .boolean) ∈ zTW := zmem7 46 rfl rfl
theorem tw_1487 : Cond.methodLink RL 142 yX11_undo ∈ zTW := zmem7 47 rfl rfl
theorem tw_1488 : Cond.instanceMethod yX11_undo ∈ zTW := zmem7 48 rfl rfl
theorem tw_1489 : Cond.selects RX11 yX11_undo yX11_undo ∈ zTW := zmem7 49 rfl rfl
theorem tw_1490 : Cond.code yX11_undo cX11_undo 2 (some .int) ∈ zTW := zmem7 50 rfl rfl
theorem tw_1491 : Cond.methodLink RL 145 yX11_told ∈ zTW := zmem7 51 rfl rfl
theorem tw_1492 : Cond.instanceMethod yX11_told ∈ zTW := zmem7 52 rfl rfl
theorem tw_1493 : Cond.selects RX11 yX11_told yX11_told ∈ zTW := zmem7 53 rfl rfl
theorem tw_1494 : Cond.code yX11_told cX11_told 3 (some .int) ∈ zTW := zmem7 54 rfl rfl
theorem tw_1495 : Cond.methodLink RX11 267 yX11_steadyMany ∈ zTW := zmem7 55 rfl rfl
theorem tw_1497 : Cond.instanceMethod yX11_steadyMany ∈ zTW := zmem7 57 rfl rfl
theorem tw_1498 : Cond.code yX11_steadyMany cX11_steadyMany 3 (some .int) ∈ zTW := zmem7 58 rfl rfl
theorem tw_1499 : Cond.methodLink RX11 270 yX11_keptBits ∈ zTW := zmem7 59 rfl rfl
theorem tw_1501 : Cond.instanceMethod yX11_keptBits ∈ zTW := zmem7 61 rfl rfl
theorem tw_1502 : Cond.code yX11_keptBits cX11_keptBits 1 (some .int) ∈ zTW := zmem7 62 rfl rfl
theorem tw_1503 : Cond.methodLink RL 148 yX11_ring ∈ zTW := zmem7 63 rfl rfl
theorem tw_1504 : Cond.instanceMethod yX11_ring ∈ zTW := zmem7 64 rfl rfl
theorem tw_1505 : Cond.selects RX11 yX11_ring yX11_ring ∈ zTW := zmem7 65 rfl rfl
theorem tw_1506 : Cond.code yX11_ring cX11_ring 3 (some .int) ∈ zTW := zmem7 66 rfl rfl
theorem tw_1507 : Cond.methodLink RX11 273 yX11_pairsWith ∈ zTW := zmem7 67 rfl rfl
theorem tw_1509 : Cond.instanceMethod yX11_pairsWith ∈ zTW := zmem7 69 rfl rfl
theorem tw_1510 : Cond.code yX11_pairsWith cX11_pairsWith 4 (some .int) ∈ zTW := zmem7 70 rfl rfl
theorem tw_1511 : Cond.methodLink RL 151 yX11_speed ∈ zTW := zmem7 71 rfl rfl
theorem tw_1512 : Cond.instanceMethod yX11_speed ∈ zTW := zmem7 72 rfl rfl
theorem tw_1513 : Cond.selects RX11 yX11_speed yX11_speed ∈ zTW := zmem7 73 rfl rfl
theorem tw_1514 : Cond.code yX11_speed cX11_speed 3 (some .int) ∈ zTW := zmem7 74 rfl rfl
theorem tw_1515 : Cond.methodLink RX11 276 yX11_isHeat ∈ zTW := zmem7 75 rfl rfl
theorem tw_1517 : Cond.instanceMethod yX11_isHeat ∈ zTW := zmem7 77 rfl rfl
theorem tw_1518 : Cond.code yX11_isHeat cX11_isHeat 2 (some .boolean) ∈ zTW := zmem7 78 rfl rfl
theorem tw_1519 : Cond.methodLink RL 154 yX11_rank ∈ zTW := zmem7 79 rfl rfl
theorem tw_1520 : Cond.instanceMethod yX11_rank ∈ zTW := zmem7 80 rfl rfl
theorem tw_1521 : Cond.selects RX11 yX11_rank yX11_rank ∈ zTW := zmem7 81 rfl rfl
theorem tw_1522 : Cond.code yX11_rank cX11_rank 6 (some .int) ∈ zTW := zmem7 82 rfl rfl
theorem tw_1523 : Cond.methodLink RL 157 yX11_pair ∈ zTW := zmem7 83 rfl rfl
theorem tw_1524 : Cond.instanceMethod yX11_pair ∈ zTW := zmem7 84 rfl rfl
theorem tw_1525 : Cond.selects RX11 yX11_pair yX11_pair ∈ zTW := zmem7 85 rfl rfl
theorem tw_1526 : Cond.code yX11_pair cX11_pair 5 (some .int) ∈ zTW := zmem7 86 rfl rfl
theorem tw_1527 : Cond.methodLink RX11 279 yX11_keptAt ∈ zTW := zmem7 87 rfl rfl
theorem tw_1529 : Cond.instanceMethod yX11_keptAt ∈ zTW := zmem7 89 rfl rfl
theorem tw_1530 : Cond.code yX11_keptAt cX11_keptAt 3 (some .int) ∈ zTW := zmem7 90 rfl rfl
theorem tw_1531 : Cond.methodLink RX11 282 yX11_blockOf ∈ zTW := zmem7 91 rfl rfl
theorem tw_1533 : Cond.instanceMethod yX11_blockOf ∈ zTW := zmem7 93 rfl rfl
theorem tw_1534 : Cond.code yX11_blockOf cX11_blockOf 4 (some .int) ∈ zTW := zmem7 94 rfl rfl
theorem tw_1535 : Cond.methodLink RX11 285 yX11_followsNow ∈ zTW := zmem7 95 rfl rfl
theorem tw_1537 : Cond.instanceMethod yX11_followsNow ∈ zTW := zmem7 97 rfl rfl
theorem tw_1538 : Cond.code yX11_followsNow cX11_followsNow 2 (some .int) ∈ zTW := zmem7 98 rfl rfl
theorem tw_1539 : Cond.methodLink RX11 343 yX11_laysHeard ∈ zTW := zmem7 99 rfl rfl
theorem tw_1541 : Cond.instanceMethod yX11_laysHeard ∈ zTW := zmem7 101 rfl rfl
theorem tw_1542 : Cond.code yX11_laysHeard cX11_laysHeard 1 none ∈ zTW := zmem7 102 rfl rfl
theorem tw_1543 : Cond.methodLink RX11 334 yX11_noOrder ∈ zTW := zmem7 103 rfl rfl
theorem tw_1545 : Cond.instanceMethod yX11_noOrder ∈ zTW := zmem7 105 rfl rfl
theorem tw_1546 : Cond.code yX11_noOrder cX11_noOrder 2 none ∈ zTW := zmem7 106 rfl rfl
theorem tw_1547 : Cond.methodLink RX11 337 yX11_putsHeard ∈ zTW := zmem7 107 rfl rfl
theorem tw_1549 : Cond.instanceMethod yX11_putsHeard ∈ zTW := zmem7 109 rfl rfl
theorem tw_1550 : Cond.code yX11_putsHeard cX11_putsHeard 2 none ∈ zTW := zmem7 110 rfl rfl
theorem tw_1551 : Cond.methodLink RX11 332 yX11_puts_ ∈ zTW := zmem7 111 rfl rfl
theorem tw_1553 : Cond.instanceMethod yX11_puts_ ∈ zTW := zmem7 113 rfl rfl
theorem tw_1554 : Cond.code yX11_puts_ cX11_puts_ 5 none ∈ zTW := zmem7 114 rfl rfl
theorem tw_1555 : Cond.methodLink RX11 340 yX11_closes ∈ zTW := zmem7 115 rfl rfl
theorem tw_1557 : Cond.instanceMethod yX11_closes ∈ zTW := zmem7 117 rfl rfl
theorem tw_1558 : Cond.code yX11_closes cX11_closes 3 none ∈ zTW := zmem7 118 rfl rfl
theorem tw_1559 : Cond.methodLink RX11 346 yX11_follows ∈ zTW := zmem7 119 rfl rfl
theorem tw_1561 : Cond.instanceMethod yX11_follows ∈ zTW := zmem7 121 rfl rfl
theorem tw_1562 : Cond.code yX11_follows cX11_follows 4 (some .int) ∈ zTW := zmem7 122 rfl rfl
theorem tw_1563 : Cond.methodLink RL 160 yX11_bit ∈ zTW := zmem7 123 rfl rfl
theorem tw_1564 : Cond.instanceMethod yX11_bit ∈ zTW := zmem7 124 rfl rfl
theorem tw_1565 : Cond.selects RX11 yX11_bit yX11_bit ∈ zTW := zmem7 125 rfl rfl
theorem tw_1566 : Cond.code yX11_bit cX11_bit 3 (some .int) ∈ zTW := zmem7 126 rfl rfl
theorem tw_1567 : Cond.methodLink RL 163 yX11_flips ∈ zTW := zmem7 127 rfl rfl
theorem tw_1568 : Cond.instanceMethod yX11_flips ∈ zTW := zmem7 128 rfl rfl
theorem tw_1569 : Cond.selects RX11 yX11_flips yX11_flips ∈ zTW := zmem7 129 rfl rfl
theorem tw_1570 : Cond.code yX11_flips cX11_flips 6 (some .int) ∈ zTW := zmem7 130 rfl rfl
theorem tw_1571 : Cond.methodLink RL 167 yX11_odds ∈ zTW := zmem7 131 rfl rfl
theorem tw_1572 : Cond.instanceMethod yX11_odds ∈ zTW := zmem7 132 rfl rfl
theorem tw_1573 : Cond.selects RX11 yX11_odds yX11_odds ∈ zTW := zmem7 133 rfl rfl
theorem tw_1574 : Cond.code yX11_odds cX11_odds 9 (some .int) ∈ zTW := zmem7 134 rfl rfl
theorem tw_1575 : Cond.methodLink RX11 288 yX11_common ∈ zTW := zmem7 135 rfl rfl
theorem tw_1576 : Cond.static yX11_common ∈ zTW := zmem7 136 rfl rfl
theorem tw_1577 : Cond.code yX11_common cX11_common 2 (some .int) ∈ zTW := zmem7 137 rfl rfl
theorem tw_1578 : Cond.methodLink RL 170 yX11_block ∈ zTW := zmem7 138 rfl rfl
theorem tw_1579 : Cond.instanceMethod yX11_block ∈ zTW := zmem7 139 rfl rfl
theorem tw_1580 : Cond.selects RX11 yX11_block yX11_block ∈ zTW := zmem7 140 rfl rfl
theorem tw_1581 : Cond.code yX11_block cX11_block 4 (some .int) ∈ zTW := zmem7 141 rfl rfl
theorem tw_1582 : Cond.methodLink RL 173 yX11_recover ∈ zTW := zmem7 142 rfl rfl
theorem tw_1583 : Cond.instanceMethod yX11_recover ∈ zTW := zmem7 143 rfl rfl
theorem tw_1584 : Cond.selects RX11 yX11_recover yX11_recover ∈ zTW := zmem7 144 rfl rfl
theorem tw_1585 : Cond.code yX11_recover cX11_recover 4 (some .int) ∈ zTW := zmem7 145 rfl rfl
theorem tw_1586 : Cond.constant RX11 310 (65536) ∈ zTW := zmem7 146 rfl rfl
theorem tw_1587 : Cond.methodLink RX11 311 yX11_readsAll ∈ zTW := zmem7 147 rfl rfl
theorem tw_1589 : Cond.instanceMethod yX11_readsAll ∈ zTW := zmem7 149 rfl rfl
theorem tw_1590 : Cond.code yX11_readsAll cX11_readsAll 10 none ∈ zTW := zmem7 150 rfl rfl
theorem tw_1591 : Cond.methodLink RX11 304 yX11_drawn ∈ zTW := zmem7 151 rfl rfl
theorem tw_1593 : Cond.instanceMethod yX11_drawn ∈ zTW := zmem7 153 rfl rfl
theorem tw_1594 : Cond.code yX11_drawn cX11_drawn 5 (some .int) ∈ zTW := zmem7 154 rfl rfl
theorem tw_1595 : Cond.constant RX11 294 (65537) ∈ zTW := zmem7 155 rfl rfl
theorem tw_1596 : Cond.methodLink RX11 307 yX11_decoded ∈ zTW := zmem7 156 rfl rfl
theorem tw_1598 : Cond.instanceMethod yX11_decoded ∈ zTW := zmem7 158 rfl rfl
theorem tw_1599 : Cond.code yX11_decoded cX11_decoded 7 (some .int) ∈ zTW := zmem7 159 rfl rfl
theorem tw_1600 : Cond.methodLink RX11 314 yX11_isRefused ∈ zTW := zmem7 160 rfl rfl
theorem tw_1602 : Cond.instanceMethod yX11_isRefused ∈ zTW := zmem7 162 rfl rfl
theorem tw_1603 : Cond.code yX11_isRefused cX11_isRefused 1 (some .boolean) ∈ zTW := zmem7 163 rfl rfl
theorem tw_1604 : Cond.methodLink RL 177 yX11_fails ∈ zTW := zmem7 164 rfl rfl
theorem tw_1605 : Cond.instanceMethod yX11_fails ∈ zTW := zmem7 165 rfl rfl
theorem tw_1606 : Cond.selects RX11 yX11_fails yX11_fails ∈ zTW := zmem7 166 rfl rfl
theorem tw_1607 : Cond.code yX11_fails cX11_fails 9 (some .int) ∈ zTW := zmem7 167 rfl rfl
theorem tw_1608 : Cond.methodLink RX11 317 yJ9_max_7cf53 ∈ zTW := zmem7 168 rfl rfl
theorem tw_1609 : Cond.methodLink RL 180 yX11_safe ∈ zTW := zmem7 169 rfl rfl
theorem tw_1610 : Cond.instanceMethod yX11_safe ∈ zTW := zmem7 170 rfl rfl
theorem tw_1611 : Cond.selects RX11 yX11_safe yX11_safe ∈ zTW := zmem7 171 rfl rfl
theorem tw_1612 : Cond.code yX11_safe cX11_safe 5 (some .int) ∈ zTW := zmem7 172 rfl rfl
theorem tw_1613 : Cond.methodLink RX11 329 yX11_firstUnsafe ∈ zTW := zmem7 173 rfl rfl
theorem tw_1615 : Cond.instanceMethod yX11_firstUnsafe ∈ zTW := zmem7 175 rfl rfl
theorem tw_1616 : Cond.code yX11_firstUnsafe cX11_firstUnsafe 3 (some .int) ∈ zTW := zmem7 176 rfl rfl
theorem tw_1617 : Cond.methodLink RX11 323 yX11_keptBlocks ∈ zTW := zmem7 177 rfl rfl
theorem tw_1619 : Cond.instanceMethod yX11_keptBlocks ∈ zTW := zmem7 179 rfl rfl
theorem tw_1620 : Cond.code yX11_keptBlocks cX11_keptBlocks 1 (some .int) ∈ zTW := zmem7 180 rfl rfl
theorem tw_1621 : Cond.methodLink RX11 326 yX11_isSafe ∈ zTW := zmem7 181 rfl rfl
theorem tw_1623 : Cond.instanceMethod yX11_isSafe ∈ zTW := zmem7 183 rfl rfl
theorem tw_1624 : Cond.code yX11_isSafe cX11_isSafe 6 (some .boolean) ∈ zTW := zmem7 184 rfl rfl
theorem tw_1625 : Cond.methodLink RX11 320 yX11_isShaky ∈ zTW := zmem7 185 rfl rfl
theorem tw_1627 : Cond.instanceMethod yX11_isShaky ∈ zTW := zmem7 187 rfl rfl
theorem tw_1628 : Cond.code yX11_isShaky cX11_isShaky 7 (some .boolean) ∈ zTW := zmem7 188 rfl rfl
theorem tw_1629 : Cond.methodLink RL 183 yX11_range ∈ zTW := zmem7 189 rfl rfl
theorem tw_1630 : Cond.instanceMethod yX11_range ∈ zTW := zmem7 190 rfl rfl
theorem tw_1631 : Cond.selects RX11 yX11_range yX11_range ∈ zTW := zmem7 191 rfl rfl
theorem tw_1632 : Cond.code yX11_range cX11_range 4 (some .int) ∈ zTW := zmem7 192 rfl rfl
theorem tw_1633 : Cond.methodLink RL 186 yX11_guardFor ∈ zTW := zmem7 193 rfl rfl
theorem tw_1634 : Cond.instanceMethod yX11_guardFor ∈ zTW := zmem7 194 rfl rfl
theorem tw_1635 : Cond.selects RX11 yX11_guardFor yX11_guardFor ∈ zTW := zmem7 195 rfl rfl
theorem tw_1636 : Cond.code yX11_guardFor cX11_guardFor 3 (some .int) ∈ zTW := zmem7 196 rfl rfl
theorem tw_1637 : Cond.methodLink RL 189 yX11_ways ∈ zTW := zmem7 197 rfl rfl
theorem tw_1638 : Cond.instanceMethod yX11_ways ∈ zTW := zmem7 198 rfl rfl
theorem tw_1639 : Cond.selects RX11 yX11_ways yX11_ways ∈ zTW := zmem7 199 rfl rfl
theorem tw_1640 : Cond.code yX11_ways cX11_ways 2 (some .long) ∈ zTW := zmem7 200 rfl rfl
theorem tw_1641 : Cond.methodLink RX11 362 yX11_waysBy ∈ zTW := zmem7 201 rfl rfl
theorem tw_1643 : Cond.instanceMethod yX11_waysBy ∈ zTW := zmem7 203 rfl rfl
theorem tw_1644 : Cond.code yX11_waysBy cX11_waysBy 4 (some .long) ∈ zTW := zmem7 204 rfl rfl
theorem tw_1645 : Cond.methodLink RX11 355 yX11_compares ∈ zTW := zmem7 205 rfl rfl
theorem tw_1647 : Cond.instanceMethod yX11_compares ∈ zTW := zmem7 207 rfl rfl
theorem tw_1648 : Cond.code yX11_compares cX11_compares 2 none ∈ zTW := zmem7 208 rfl rfl
theorem tw_1649 : Cond.methodLink RX11 358 yX11_waysOf ∈ zTW := zmem7 209 rfl rfl
theorem tw_1651 : Cond.instanceMethod yX11_waysOf ∈ zTW := zmem7 211 rfl rfl
theorem tw_1652 : Cond.code yX11_waysOf cX11_waysOf 5 (some .long) ∈ zTW := zmem7 212 rfl rfl
theorem tw_1653 : Cond.methodLink RX11 349 yX11_isApart ∈ zTW := zmem7 213 rfl rfl
theorem tw_1655 : Cond.instanceMethod yX11_isApart ∈ zTW := zmem7 215 rfl rfl
theorem tw_1656 : Cond.code yX11_isApart cX11_isApart 3 (some .boolean) ∈ zTW := zmem7 216 rfl rfl
theorem tw_1657 : Cond.methodLink RX11 352 yX11_many ∈ zTW := zmem7 217 rfl rfl
theorem tw_1658 : Cond.static yX11_many ∈ zTW := zmem7 218 rfl rfl
theorem tw_1659 : Cond.code yX11_many cX11_many 3 (some .int) ∈ zTW := zmem7 219 rfl rfl
theorem tw_1660 : Cond.methodLink RL 192 yX11_leak ∈ zTW := zmem7 220 rfl rfl
theorem tw_1661 : Cond.instanceMethod yX11_leak ∈ zTW := zmem7 221 rfl rfl
theorem tw_1662 : Cond.selects RX11 yX11_leak yX11_leak ∈ zTW := zmem7 222 rfl rfl
theorem tw_1663 : Cond.code yX11_leak cX11_leak 2 (some .int) ∈ zTW := zmem7 223 rfl rfl
theorem tw_1664 : Cond.methodLink RX11 373 yX11_sure ∈ zTW := zmem7 224 rfl rfl
theorem tw_1666 : Cond.instanceMethod yX11_sure ∈ zTW := zmem7 226 rfl rfl
theorem tw_1667 : Cond.code yX11_sure cX11_sure 4 (some .int) ∈ zTW := zmem7 227 rfl rfl
theorem tw_1668 : Cond.methodLink RX11 376 yX11_leaks ∈ zTW := zmem7 228 rfl rfl
theorem tw_1670 : Cond.instanceMethod yX11_leaks ∈ zTW := zmem7 230 rfl rfl
theorem tw_1671 : Cond.code yX11_leaks cX11_leaks 1 (some .int) ∈ zTW := zmem7 231 rfl rfl
theorem tw_1672 : Cond.methodLink RX11 379 yX11_left ∈ zTW := zmem7 232 rfl rfl
theorem tw_1674 : Cond.instanceMethod yX11_left ∈ zTW := zmem7 234 rfl rfl
theorem tw_1675 : Cond.code yX11_left cX11_left 5 (some .int) ∈ zTW := zmem7 235 rfl rfl
theorem tw_1676 : Cond.methodLink RX11 369 yX11_canBe ∈ zTW := zmem7 236 rfl rfl
theorem tw_1678 : Cond.instanceMethod yX11_canBe ∈ zTW := zmem7 238 rfl rfl
theorem tw_1679 : Cond.code yX11_canBe cX11_canBe 7 (some .boolean) ∈ zTW := zmem7 239 rfl rfl
theorem tw_1680 : Cond.methodLink RX11 366 yX11_isRound ∈ zTW := zmem8 0 rfl rfl
theorem tw_1682 : Cond.instanceMethod yX11_isRound ∈ zTW := zmem8 2 rfl rfl
theorem tw_1683 : Cond.code yX11_isRound cX11_isRound 2 (some .boolean) ∈ zTW := zmem8 3 rfl rfl
theorem tw_1684 : Cond.methodLink RL 195 yX11_success ∈ zTW := zmem8 4 rfl rfl
theorem tw_1685 : Cond.instanceMethod yX11_success ∈ zTW := zmem8 5 rfl rfl
theorem tw_1686 : Cond.selects RX11 yX11_success yX11_success ∈ zTW := zmem8 6 rfl rfl
theorem tw_1687 : Cond.code yX11_success cX11_success 6 (some .int) ∈ zTW := zmem8 7 rfl rfl
theorem tw_1688 : Cond.methodLink RL 198 yX11_curve ∈ zTW := zmem8 8 rfl rfl
theorem tw_1689 : Cond.instanceMethod yX11_curve ∈ zTW := zmem8 9 rfl rfl
theorem tw_1690 : Cond.selects RX11 yX11_curve yX11_curve ∈ zTW := zmem8 10 rfl rfl
theorem tw_1691 : Cond.code yX11_curve cX11_curve 7 (some .int) ∈ zTW := zmem8 11 rfl rfl
theorem tw_1692 : Cond.methodLink RL 202 yX11_nextPair ∈ zTW := zmem8 12 rfl rfl
theorem tw_1693 : Cond.instanceMethod yX11_nextPair ∈ zTW := zmem8 13 rfl rfl
theorem tw_1694 : Cond.selects RX11 yX11_nextPair yX11_nextPair ∈ zTW := zmem8 14 rfl rfl
theorem tw_1695 : Cond.code yX11_nextPair cX11_nextPair 1 (some .int) ∈ zTW := zmem8 15 rfl rfl
theorem tw_1696 : Cond.methodLink RX11 389 yX11_nextNow ∈ zTW := zmem8 16 rfl rfl
theorem tw_1698 : Cond.instanceMethod yX11_nextNow ∈ zTW := zmem8 18 rfl rfl
theorem tw_1699 : Cond.code yX11_nextNow cX11_nextNow 5 (some .int) ∈ zTW := zmem8 19 rfl rfl
theorem tw_1700 : Cond.methodLink RX11 386 yX11_wouldFollow ∈ zTW := zmem8 20 rfl rfl
theorem tw_1702 : Cond.instanceMethod yX11_wouldFollow ∈ zTW := zmem8 22 rfl rfl
theorem tw_1703 : Cond.code yX11_wouldFollow cX11_wouldFollow 3 (some .int) ∈ zTW := zmem8 23 rfl rfl
theorem tw_1704 : Cond.methodLink RX11 383 yX11_followMany ∈ zTW := zmem8 24 rfl rfl
theorem tw_1706 : Cond.instanceMethod yX11_followMany ∈ zTW := zmem8 26 rfl rfl
theorem tw_1707 : Cond.code yX11_followMany cX11_followMany 3 (some .int) ∈ zTW := zmem8 27 rfl rfl
theorem tw_1708 : Cond.methodLink RL 206 yX11_needs ∈ zTW := zmem8 28 rfl rfl
theorem tw_1709 : Cond.instanceMethod yX11_needs ∈ zTW := zmem8 29 rfl rfl
theorem tw_1710 : Cond.selects RX11 yX11_needs yX11_needs ∈ zTW := zmem8 30 rfl rfl
theorem tw_1711 : Cond.code yX11_needs cX11_needs 4 (some .int) ∈ zTW := zmem8 31 rfl rfl
theorem tw_1712 : Cond.methodLink RL 211 yX11_print ∈ zTW := zmem8 32 rfl rfl
theorem tw_1713 : Cond.instanceMethod yX11_print ∈ zTW := zmem8 33 rfl rfl
theorem tw_1714 : Cond.selects RX11 yX11_print yX11_print ∈ zTW := zmem8 34 rfl rfl
theorem tw_1715 : Cond.code yX11_print cX11_print 4 (some .long) ∈ zTW := zmem8 35 rfl rfl
theorem tw_1716 : Cond.constantLong RX11 392 (31) ∈ zTW := zmem8 36 rfl rfl
theorem tw_1717 : Cond.methodLink RL 215 yX11_status ∈ zTW := zmem8 37 rfl rfl
theorem tw_1718 : Cond.instanceMethod yX11_status ∈ zTW := zmem8 38 rfl rfl
theorem tw_1719 : Cond.selects RX11 yX11_status yX11_status ∈ zTW := zmem8 39 rfl rfl
theorem tw_1720 : Cond.code yX11_status cX11_status 2 (some .int) ∈ zTW := zmem8 40 rfl rfl
theorem tw_1738 : Cond.fieldLink RJ0 9 "java/lang/String" "value" "[B" ∈ zTW := zmem8 58 rfl rfl
theorem tw_1739 : Cond.fieldLink RJ0 15 "java/lang/String" "coder" "B" ∈ zTW := zmem8 59 rfl rfl
theorem bn_X0_isRepeat (rm : Room) (h : rm.cells = 0 ∧ rm.slots = 0) : zBn yX0_isRepeat cX0_isRepeat 1 (some .boolean) rm 1 := ⟨tw_655, tw_21, ⟨by decide +kernel, by decide +kernel, by decide +kernel⟩, h.1, h.2⟩
theorem bn_X0_lengthOf (rm : Room) (h : rm.cells = 0 ∧ rm.slots = 0) : zBn yX0_lengthOf cX0_lengthOf 1 (some .int) rm 1 := ⟨tw_774, tw_21, ⟨by decide +kernel, by decide +kernel, by decide +kernel⟩, h.1, h.2⟩
theorem bn_X0_bitsOf (rm : Room) (h : rm.cells = 0 ∧ rm.slots = 0) : zBn yX0_bitsOf cX0_bitsOf 1 (some .int) rm 1 := ⟨tw_780, tw_21, ⟨by decide +kernel, by decide +kernel, by decide +kernel⟩, h.1, h.2⟩
theorem bn_X0_mendedBy (rm : Room) (h : rm.cells = 0 ∧ rm.slots = 0) : zBn yX0_mendedBy cX0_mendedBy 1 (some .int) rm 1 := ⟨tw_1054, tw_21, ⟨by decide +kernel, by decide +kernel, by decide +kernel⟩, h.1, h.2⟩
theorem bn_X0_wordOf (rm : Room) (h : rm.cells = 0 ∧ rm.slots = 0) : zBn yX0_wordOf cX0_wordOf 4 (some .int) rm 2 := ⟨tw_824, tw_21, ⟨by decide +kernel, by decide +kernel, by decide +kernel⟩, h.1, h.2⟩
theorem bn_X0_decodedFrom (rm : Room) (h : rm.cells = 0 ∧ rm.slots = 0) : zBn yX0_decodedFrom cX0_decodedFrom 4 (some .int) rm 2 := ⟨tw_1011, tw_21, ⟨by decide +kernel, by decide +kernel, by decide +kernel⟩, h.1, h.2⟩
theorem bn_X0_wordsOf (rm : Room) (h : rm.cells = 0 ∧ rm.slots = 0) : zBn yX0_wordsOf cX0_wordsOf 7 (some .int) rm 3 := ⟨tw_820, tw_21, ⟨by decide +kernel, by decide +kernel, by decide +kernel⟩, h.1, h.2⟩
theorem bn_X0_secretFrom (rm : Room) (h : rm.cells = 0 ∧ rm.slots = 0) : zBn yX0_secretFrom cX0_secretFrom 7 (some .int) rm 3 := ⟨tw_1008, tw_21, ⟨by decide +kernel, by decide +kernel, by decide +kernel⟩, h.1, h.2⟩
theorem bn_X0_checkWith (rm : Room) (h : rm.cells = 0 ∧ rm.slots = 0) : zBn yX0_checkWith cX0_checkWith 5 (some .int) rm 3 := ⟨tw_813, tw_21, ⟨by decide +kernel, by decide +kernel, by decide +kernel⟩, h.1, h.2⟩
theorem bn_X0_canBecome (rm : Room) (h : rm.cells = 0 ∧ rm.slots = 0) : zBn yX0_canBecome cX0_canBecome 3 (some .boolean) rm 3 := ⟨tw_1141, tw_21, ⟨by decide +kernel, by decide +kernel, by decide +kernel⟩, h.1, h.2⟩
theorem bn_X1_clear (rm : Room) (h : rm.cells = 0 ∧ rm.slots = 0) : zBn yX1_clear cX1_clear 1 none rm 0 := ⟨tw_669, tw_4, ⟨by decide +kernel, by decide +kernel, by decide +kernel⟩, h.1, h.2⟩
theorem vw_X1_clear : zVw 0 yX1_clear := ⟨tw_667, tw_668, _, _, rfl⟩
theorem bn_X1_copyFrom (rm : Room) (h : rm.cells = 0 ∧ rm.slots = 0) : zBn yX1_copyFrom cX1_copyFrom 2 none rm 1 := ⟨tw_698, tw_4, ⟨by decide +kernel, by decide +kernel, by decide +kernel⟩, h.1, h.2⟩
theorem vw_X1_copyFrom : zVw 0 yX1_copyFrom := ⟨tw_696, tw_697, _, _, rfl⟩
theorem bn_X1_isEmpty (rm : Room) (h : rm.cells = 0 ∧ rm.slots = 0) : zBn yX1_isEmpty cX1_isEmpty 1 (some .boolean) rm 0 := ⟨tw_866, tw_4, ⟨by decide +kernel, by decide +kernel, by decide +kernel⟩, h.1, h.2⟩
theorem vw_X1_isEmpty : zVw 0 yX1_isEmpty := ⟨tw_864, tw_865, _, _, rfl⟩
theorem bn_X1_keep (rm : Room) (h : rm.cells = 0 ∧ rm.slots = 0) : zBn yX1_keep cX1_keep 7 none rm 4 := ⟨tw_805, tw_4, ⟨by decide +kernel, by decide +kernel, by decide +kernel⟩, h.1, h.2⟩
theorem vw_X1_keep : zVw 0 yX1_keep := ⟨tw_803, tw_804, _, _, rfl⟩
theorem bn_X1_secretBits (rm : Room) (h : rm.cells = 0 ∧ rm.slots = 0) : zBn yX1_secretBits cX1_secretBits 1 (some .int) rm 0 := ⟨tw_809, tw_4, ⟨by decide +kernel, by decide +kernel, by decide +kernel⟩, h.1, h.2⟩
theorem vw_X1_secretBits : zVw 0 yX1_secretBits := ⟨tw_807, tw_808, _, _, rfl⟩
theorem bn_X1_placeOf (rm : Room) (h : rm.cells = 0 ∧ rm.slots = 0) : zBn yX1_placeOf cX1_placeOf 3 (some .int) rm 1 := ⟨tw_926, tw_4, ⟨by decide +kernel, by decide +kernel, by decide +kernel⟩, h.1, h.2⟩
theorem vw_X1_placeOf : zVw 0 yX1_placeOf := ⟨tw_924, tw_925, _, _, rfl⟩
theorem bn_X1_pairsAsSet (rm : Room) (h : rm.cells = 0 ∧ rm.slots = 0) : zBn yX1_pairsAsSet cX1_pairsAsSet 3 (some .int) rm 0 := ⟨tw_1091, tw_4, ⟨by decide +kernel, by decide +kernel, by decide +kernel⟩, h.1, h.2⟩
theorem vw_X1_pairsAsSet : zVw 0 yX1_pairsAsSet := ⟨tw_1089, tw_1090, _, _, rfl⟩
theorem bn_X1_shakyAt (rm : Room) (h : rm.cells = 0 ∧ rm.slots = 0) : zBn yX1_shakyAt cX1_shakyAt 6 (some .int) rm 2 := ⟨tw_1038, tw_4, ⟨by decide +kernel, by decide +kernel, by decide +kernel⟩, h.1, h.2⟩
theorem vw_X1_shakyAt : zVw 0 yX1_shakyAt := ⟨tw_1036, tw_1037, _, _, rfl⟩
theorem bn_X1_isSafeBlock (rm : Room) (h : rm.cells = 0 ∧ rm.slots = 0) : zBn yX1_isSafeBlock cX1_isSafeBlock 6 (some .boolean) rm 2 := ⟨tw_1050, tw_4, ⟨by decide +kernel, by decide +kernel, by decide +kernel⟩, h.1, h.2⟩
theorem vw_X1_isSafeBlock : zVw 0 yX1_isSafeBlock := ⟨tw_1048, tw_1049, _, _, rfl⟩
theorem bn_X1_safeBlocks (rm : Room) (h : rm.cells = 0 ∧ rm.slots = 0) : zBn yX1_safeBlocks cX1_safeBlocks 4 (some .int) rm 1 := ⟨tw_1046, tw_4, ⟨by decide +kernel, by decide +kernel, by decide +kernel⟩, h.1, h.2⟩
theorem vw_X1_safeBlocks : zVw 0 yX1_safeBlocks := ⟨tw_1044, tw_1045, _, _, rfl⟩
theorem bn_X1_firstUnsafe (rm : Room) (h : rm.cells = 0 ∧ rm.slots = 0) : zBn yX1_firstUnsafe cX1_firstUnsafe 3 (some .int) rm 1 := ⟨tw_1058, tw_4, ⟨by decide +kernel, by decide +kernel, by decide +kernel⟩, h.1, h.2⟩
theorem vw_X1_firstUnsafe : zVw 0 yX1_firstUnsafe := ⟨tw_1056, tw_1057, _, _, rfl⟩
theorem bn_X1_leaked (rm : Room) (h : rm.cells = 0 ∧ rm.slots = 0) : zBn yX1_leaked cX1_leaked 1 (some .int) rm 0 := ⟨tw_1121, tw_4, ⟨by decide +kernel, by decide +kernel, by decide +kernel⟩, h.1, h.2⟩
theorem vw_X1_leaked : zVw 0 yX1_leaked := ⟨tw_1119, tw_1120, _, _, rfl⟩
theorem bn_X2_count (rm : Room) (h : rm.cells = 0 ∧ rm.slots = 0) : zBn yX2_count cX2_count 4 (some .int) rm 3 := ⟨tw_1126, tw_10, ⟨by decide +kernel, by decide +kernel, by decide +kernel⟩, h.1, h.2⟩
theorem vw_X2_count : zVw 1 yX2_count := ⟨tw_1124, tw_1125, _, _, rfl⟩
theorem bn_X2_countFrom (rm : Room) (h : rm.cells = 0 ∧ rm.slots = 0) : zBn yX2_countFrom cX2_countFrom 10 (some .int) rm 4 := ⟨tw_1135, tw_10, ⟨by decide +kernel, by decide +kernel, by decide +kernel⟩, h.1, h.2⟩
theorem vw_X2_countFrom : zVw 1 yX2_countFrom := ⟨tw_1134, twp_32, _, _, rfl⟩
theorem bn_X2_putBlock (rm : Room) (h : rm.cells = 0 ∧ rm.slots = 0) : zBn yX2_putBlock cX2_putBlock 11 (some .boolean) rm 4 := ⟨tw_1146, tw_10, ⟨by decide +kernel, by decide +kernel, by decide +kernel⟩, h.1, h.2⟩
theorem vw_X2_putBlock : zVw 1 yX2_putBlock := ⟨tw_1145, twp_33, _, _, rfl⟩
theorem bn_X3_clear (rm : Room) (h : rm.cells = 0 ∧ rm.slots = 0) : zBn yX3_clear cX3_clear 2 none rm 0 := ⟨tw_673, tw_5, ⟨by decide +kernel, by decide +kernel, by decide +kernel⟩, h.1, h.2⟩
theorem vw_X3_clear : zVw 2 yX3_clear := ⟨tw_671, tw_672, _, _, rfl⟩
theorem bn_X3_copyFrom (rm : Room) (h : rm.cells = 0 ∧ rm.slots = 0) : zBn yX3_copyFrom cX3_copyFrom 2 none rm 1 := ⟨tw_416, tw_5, ⟨by decide +kernel, by decide +kernel, by decide +kernel⟩, h.1, h.2⟩
theorem vw_X3_copyFrom : zVw 2 yX3_copyFrom := ⟨tw_414, tw_415, _, _, rfl⟩
theorem bn_X3_hasHeard (rm : Room) (h : rm.cells = 0 ∧ rm.slots = 0) : zBn yX3_hasHeard cX3_hasHeard 2 (some .boolean) rm 1 := ⟨tw_372, tw_5, ⟨by decide +kernel, by decide +kernel, by decide +kernel⟩, h.1, h.2⟩
theorem vw_X3_hasHeard : zVw 2 yX3_hasHeard := ⟨tw_370, tw_371, _, _, rfl⟩
theorem bn_X3_heardBitOf (rm : Room) (h : rm.cells = 0 ∧ rm.slots = 0) : zBn yX3_heardBitOf cX3_heardBitOf 2 (some .int) rm 1 := ⟨tw_368, tw_5, ⟨by decide +kernel, by decide +kernel, by decide +kernel⟩, h.1, h.2⟩
theorem vw_X3_heardBitOf : zVw 2 yX3_heardBitOf := ⟨tw_366, tw_367, _, _, rfl⟩
theorem bn_X3_keep (rm : Room) (h : rm.cells = 0 ∧ rm.slots = 0) : zBn yX3_keep cX3_keep 3 none rm 2 := ⟨tw_429, tw_5, ⟨by decide +kernel, by decide +kernel, by decide +kernel⟩, h.1, h.2⟩
theorem vw_X3_keep : zVw 2 yX3_keep := ⟨tw_427, tw_428, _, _, rfl⟩
theorem bn_X3_guessOf (rm : Room) (h : rm.cells = 0 ∧ rm.slots = 0) : zBn yX3_guessOf cX3_guessOf 3 (some .int) rm 2 := ⟨tw_850, tw_5, ⟨by decide +kernel, by decide +kernel, by decide +kernel⟩, h.1, h.2⟩
theorem vw_X3_guessOf : zVw 2 yX3_guessOf := ⟨tw_848, tw_849, _, _, rfl⟩
theorem bn_X3_learn (rm : Room) (h : rm.cells = 0 ∧ rm.slots = 0) : zBn yX3_learn cX3_learn 7 (some .int) rm 1 := ⟨tw_846, tw_5, ⟨by decide +kernel, by decide +kernel, by decide +kernel⟩, h.1, h.2⟩
theorem vw_X3_learn : zVw 2 yX3_learn := ⟨tw_844, tw_845, _, _, rfl⟩
theorem bn_X3_putInto (rm : Room) (h : rm.cells = 0 ∧ rm.slots = 0) : zBn yX3_putInto cX3_putInto 4 none rm 2 := ⟨tw_360, tw_5, ⟨by decide +kernel, by decide +kernel, by decide +kernel⟩, h.1, h.2⟩
theorem vw_X3_putInto : zVw 2 yX3_putInto := ⟨tw_358, tw_359, _, _, rfl⟩
theorem bn_X4_clear (rm : Room) (h : rm.cells = 0 ∧ rm.slots = 0) : zBn yX4_clear cX4_clear 2 none rm 0 := ⟨tw_364, tw_8, ⟨by decide +kernel, by decide +kernel, by decide +kernel⟩, h.1, h.2⟩
theorem vw_X4_clear : zVw 3 yX4_clear := ⟨tw_362, tw_363, _, _, rfl⟩
theorem bn_X4_copyFrom (rm : Room) (h : rm.cells = 0 ∧ rm.slots = 0) : zBn yX4_copyFrom cX4_copyFrom 2 none rm 1 := ⟨tw_401, tw_8, ⟨by decide +kernel, by decide +kernel, by decide +kernel⟩, h.1, h.2⟩
theorem vw_X4_copyFrom : zVw 3 yX4_copyFrom := ⟨tw_399, tw_400, _, _, rfl⟩
theorem bn_X4_put (rm : Room) (h : rm.cells = 0 ∧ rm.slots = 0) : zBn yX4_put cX4_put 5 none rm 2 := ⟨tw_383, tw_8, ⟨by decide +kernel, by decide +kernel, by decide +kernel⟩, h.1, h.2⟩
theorem vw_X4_put : zVw 3 yX4_put := ⟨tw_381, tw_382, _, _, rfl⟩
theorem bn_X4_putPair (rm : Room) (h : rm.cells = 0 ∧ rm.slots = 0) : zBn yX4_putPair cX4_putPair 6 none rm 3 := ⟨tw_379, tw_8, ⟨by decide +kernel, by decide +kernel, by decide +kernel⟩, h.1, h.2⟩
theorem vw_X4_putPair : zVw 3 yX4_putPair := ⟨tw_377, tw_378, _, _, rfl⟩
theorem bn_X4_isAhead (rm : Room) (h : rm.cells = 0 ∧ rm.slots = 0) : zBn yX4_isAhead cX4_isAhead 3 (some .boolean) rm 2 := ⟨tw_393, tw_8, ⟨by decide +kernel, by decide +kernel, by decide +kernel⟩, h.1, h.2⟩
theorem vw_X4_isAhead : zVw 3 yX4_isAhead := ⟨tw_391, tw_392, _, _, rfl⟩
theorem bn_X4_isBroken (rm : Room) (h : rm.cells = 0 ∧ rm.slots = 0) : zBn yX4_isBroken cX4_isBroken 2 (some .boolean) rm 0 := ⟨tw_1130, tw_8, ⟨by decide +kernel, by decide +kernel, by decide +kernel⟩, h.1, h.2⟩
theorem vw_X4_isBroken : zVw 3 yX4_isBroken := ⟨tw_1128, tw_1129, _, _, rfl⟩
theorem bn_X4_bitTold (rm : Room) (h : rm.cells = 0 ∧ rm.slots = 0) : zBn yX4_bitTold cX4_bitTold 3 (some .int) rm 2 := ⟨tw_389, tw_8, ⟨by decide +kernel, by decide +kernel, by decide +kernel⟩, h.1, h.2⟩
theorem vw_X4_bitTold : zVw 3 yX4_bitTold := ⟨tw_387, tw_388, _, _, rfl⟩
theorem bn_X5_take (rm : Room) (h : rm.cells = 0 ∧ rm.slots = 0) : zBn yX5_take cX5_take 9 none rm 2 := ⟨tw_997, tw_7, ⟨by decide +kernel, by decide +kernel, by decide +kernel⟩, h.1, h.2⟩
theorem vw_X5_take : zVw 4 yX5_take := ⟨tw_995, tw_996, _, _, rfl⟩
theorem bn_X5_isRefused (rm : Room) (h : rm.cells = 0 ∧ rm.slots = 0) : zBn yX5_isRefused cX5_isRefused 2 (some .boolean) rm 1 := ⟨tw_1018, tw_7, ⟨by decide +kernel, by decide +kernel, by decide +kernel⟩, h.1, h.2⟩
theorem vw_X5_isRefused : zVw 4 yX5_isRefused := ⟨tw_1016, tw_1017, _, _, rfl⟩
theorem bn_X5_noisySpeed (rm : Room) (h : rm.cells = 0 ∧ rm.slots = 0) : zBn yX5_noisySpeed cX5_noisySpeed 6 (some .int) rm 3 := ⟨tw_1001, tw_7, ⟨by decide +kernel, by decide +kernel, by decide +kernel⟩, h.1, h.2⟩
theorem vw_X5_noisySpeed : zVw 4 yX5_noisySpeed := ⟨tw_1000, twp_26, _, _, rfl⟩
theorem bn_X6_clear (rm : Room) (h : rm.cells = 0 ∧ rm.slots = 0) : zBn yX6_clear cX6_clear 1 none rm 0 := ⟨tw_541, tw_3, ⟨by decide +kernel, by decide +kernel, by decide +kernel⟩, h.1, h.2⟩
theorem vw_X6_clear : zVw 5 yX6_clear := ⟨tw_539, tw_540, _, _, rfl⟩
theorem bn_X6_copyFrom (rm : Room) (h : rm.cells = 0 ∧ rm.slots = 0) : zBn yX6_copyFrom cX6_copyFrom 2 none rm 1 := ⟨tw_664, tw_3, ⟨by decide +kernel, by decide +kernel, by decide +kernel⟩, h.1, h.2⟩
theorem vw_X6_copyFrom : zVw 5 yX6_copyFrom := ⟨tw_662, tw_663, _, _, rfl⟩
theorem bn_X6_traitRow (rm : Room) (h : rm.cells = 0 ∧ rm.slots = 0) : zBn yX6_traitRow cX6_traitRow 2 (some (.array .int)) rm 1 := ⟨tw_740, tw_3, ⟨by decide +kernel, by decide +kernel, by decide +kernel⟩, h.1, h.2⟩
theorem vw_X6_traitRow : zVw 5 yX6_traitRow := ⟨tw_738, tw_739, _, _, rfl⟩
theorem bn_X6_addRing (rm : Room) (h : rm.cells = 0 ∧ rm.slots = 0) : zBn yX6_addRing cX6_addRing 4 none rm 3 := ⟨tw_631, tw_3, ⟨by decide +kernel, by decide +kernel, by decide +kernel⟩, h.1, h.2⟩
theorem vw_X6_addRing : zVw 5 yX6_addRing := ⟨tw_629, tw_630, _, _, rfl⟩
theorem bn_X6_addPair (rm : Room) (h : rm.cells = 0 ∧ rm.slots = 0) : zBn yX6_addPair cX6_addPair 3 none rm 2 := ⟨tw_644, tw_3, ⟨by decide +kernel, by decide +kernel, by decide +kernel⟩, h.1, h.2⟩
theorem vw_X6_addPair : zVw 5 yX6_addPair := ⟨tw_642, tw_643, _, _, rfl⟩
theorem bn_X6_hasPair (rm : Room) (h : rm.cells = 0 ∧ rm.slots = 0) : zBn yX6_hasPair cX6_hasPair 4 (some .boolean) rm 2 := ⟨tw_640, tw_3, ⟨by decide +kernel, by decide +kernel, by decide +kernel⟩, h.1, h.2⟩
theorem vw_X6_hasPair : zVw 5 yX6_hasPair := ⟨tw_638, tw_639, _, _, rfl⟩
theorem bn_X6_pairsWith (rm : Room) (h : rm.cells = 0 ∧ rm.slots = 0) : zBn yX6_pairsWith cX6_pairsWith 4 (some .int) rm 1 := ⟨tw_892, tw_3, ⟨by decide +kernel, by decide +kernel, by decide +kernel⟩, h.1, h.2⟩
theorem vw_X6_pairsWith : zVw 5 yX6_pairsWith := ⟨tw_890, tw_891, _, _, rfl⟩
theorem bn_X6_speedOf (rm : Room) (h : rm.cells = 0 ∧ rm.slots = 0) : zBn yX6_speedOf cX6_speedOf 3 (some .int) rm 2 := ⟨tw_443, tw_3, ⟨by decide +kernel, by decide +kernel, by decide +kernel⟩, h.1, h.2⟩
theorem vw_X6_speedOf : zVw 5 yX6_speedOf := ⟨tw_441, tw_442, _, _, rfl⟩
theorem bn_X6_ringsAheadOf (rm : Room) (h : rm.cells = 0 ∧ rm.slots = 0) : zBn yX6_ringsAheadOf cX6_ringsAheadOf 7 (some .int) rm 2 := ⟨tw_915, tw_3, ⟨by decide +kernel, by decide +kernel, by decide +kernel⟩, h.1, h.2⟩
theorem vw_X6_ringsAheadOf : zVw 5 yX6_ringsAheadOf := ⟨tw_913, tw_914, _, _, rfl⟩
theorem bn_X6_bitFrom (rm : Room) (h : rm.cells = 0 ∧ rm.slots = 0) : zBn yX6_bitFrom cX6_bitFrom 4 (some .int) rm 3 := ⟨tw_425, tw_3, ⟨by decide +kernel, by decide +kernel, by decide +kernel⟩, h.1, h.2⟩
theorem vw_X6_bitFrom : zVw 5 yX6_bitFrom := ⟨tw_423, tw_424, _, _, rfl⟩
theorem bn_X6_bitAt (rm : Room) (h : rm.cells = 0 ∧ rm.slots = 0) : zBn yX6_bitAt cX6_bitAt 3 (some .int) rm 2 := ⟨tw_946, tw_3, ⟨by decide +kernel, by decide +kernel, by decide +kernel⟩, h.1, h.2⟩
theorem vw_X6_bitAt : zVw 5 yX6_bitAt := ⟨tw_944, tw_945, _, _, rfl⟩
theorem bn_X6_bitOf (rm : Room) (h : rm.cells = 0 ∧ rm.slots = 0) : zBn yX6_bitOf cX6_bitOf 2 (some .int) rm 1 := ⟨tw_421, tw_3, ⟨by decide +kernel, by decide +kernel, by decide +kernel⟩, h.1, h.2⟩
theorem vw_X6_bitOf : zVw 5 yX6_bitOf := ⟨tw_419, tw_420, _, _, rfl⟩
theorem bn_X6_marginOf (rm : Room) (h : rm.cells = 0 ∧ rm.slots = 0) : zBn yX6_marginOf cX6_marginOf 7 (some .int) rm 1 := ⟨tw_438, tw_3, ⟨by decide +kernel, by decide +kernel, by decide +kernel⟩, h.1, h.2⟩
theorem vw_X6_marginOf : zVw 5 yX6_marginOf := ⟨tw_436, tw_437, _, _, rfl⟩
theorem bn_X6_allPairs (rm : Room) (h : rm.cells = 0 ∧ rm.slots = 0) : zBn yX6_allPairs cX6_allPairs 1 (some .int) rm 0 := ⟨tw_756, tw_3, ⟨by decide +kernel, by decide +kernel, by decide +kernel⟩, h.1, h.2⟩
theorem vw_X6_allPairs : zVw 5 yX6_allPairs := ⟨tw_754, tw_755, _, _, rfl⟩
theorem bn_X6_steadyPairs (rm : Room) (h : rm.cells = 0 ∧ rm.slots = 0) : zBn yX6_steadyPairs cX6_steadyPairs 3 (some .int) rm 0 := ⟨tw_760, tw_3, ⟨by decide +kernel, by decide +kernel, by decide +kernel⟩, h.1, h.2⟩
theorem vw_X6_steadyPairs : zVw 5 yX6_steadyPairs := ⟨tw_758, tw_759, _, _, rfl⟩
theorem bn_X6_usedPairs (rm : Room) (h : rm.cells = 0 ∧ rm.slots = 0) : zBn yX6_usedPairs cX6_usedPairs 1 (some .int) rm 0 := ⟨tw_752, tw_3, ⟨by decide +kernel, by decide +kernel, by decide +kernel⟩, h.1, h.2⟩
theorem vw_X6_usedPairs : zVw 5 yX6_usedPairs := ⟨tw_750, tw_751, _, _, rfl⟩
theorem bn_X6_blockCount (rm : Room) (h : rm.cells = 0 ∧ rm.slots = 0) : zBn yX6_blockCount cX6_blockCount 3 (some .int) rm 1 := ⟨tw_765, tw_3, ⟨by decide +kernel, by decide +kernel, by decide +kernel⟩, h.1, h.2⟩
theorem vw_X6_blockCount : zVw 5 yX6_blockCount := ⟨tw_763, tw_764, _, _, rfl⟩
theorem bn_X6_blockOf (rm : Room) (h : rm.cells = 0 ∧ rm.slots = 0) : zBn yX6_blockOf cX6_blockOf 5 (some .int) rm 1 := ⟨tw_930, tw_3, ⟨by decide +kernel, by decide +kernel, by decide +kernel⟩, h.1, h.2⟩
theorem vw_X6_blockOf : zVw 5 yX6_blockOf := ⟨tw_928, tw_929, _, _, rfl⟩
theorem bn_X6_pairAt (rm : Room) (h : rm.cells = 0 ∧ rm.slots = 0) : zBn yX6_pairAt cX6_pairAt 5 (some .int) rm 2 := ⟨tw_985, tw_3, ⟨by decide +kernel, by decide +kernel, by decide +kernel⟩, h.1, h.2⟩
theorem vw_X6_pairAt : zVw 5 yX6_pairAt := ⟨tw_983, tw_984, _, _, rfl⟩
theorem bn_X6_canRead (rm : Room) (h : rm.cells = 0 ∧ rm.slots = 0) : zBn yX6_canRead cX6_canRead 8 (some .boolean) rm 3 := ⟨tw_1042, tw_3, ⟨by decide +kernel, by decide +kernel, by decide +kernel⟩, h.1, h.2⟩
theorem vw_X6_canRead : zVw 5 yX6_canRead := ⟨tw_1040, tw_1041, _, _, rfl⟩
theorem bn_X6_drawsOf (rm : Room) (h : rm.cells = 0 ∧ rm.slots = 0) : zBn yX6_drawsOf cX6_drawsOf 2 (some .int) rm 1 := ⟨tw_964, tw_3, ⟨by decide +kernel, by decide +kernel, by decide +kernel⟩, h.1, h.2⟩
theorem vw_X6_drawsOf : zVw 5 yX6_drawsOf := ⟨tw_962, tw_963, _, _, rfl⟩
theorem bn_X6_drawsWithOne (rm : Room) (h : rm.cells = 0 ∧ rm.slots = 0) : zBn yX6_drawsWithOne cX6_drawsWithOne 12 (some .int) rm 2 := ⟨tw_968, tw_3, ⟨by decide +kernel, by decide +kernel, by decide +kernel⟩, h.1, h.2⟩
theorem vw_X6_drawsWithOne : zVw 5 yX6_drawsWithOne := ⟨tw_966, tw_967, _, _, rfl⟩
theorem bn_X7_copyFrom (rm : Room) (h : rm.cells = 0 ∧ rm.slots = 0) : zBn yX7_copyFrom cX7_copyFrom 2 none rm 1 := ⟨tw_693, tw_2, ⟨by decide +kernel, by decide +kernel, by decide +kernel⟩, h.1, h.2⟩
theorem vw_X7_copyFrom : zVw 6 yX7_copyFrom := ⟨tw_691, tw_692, _, _, rfl⟩
theorem bn_X8_putOnTape (rm : Room) (h : rm.cells = 0 ∧ rm.slots = 0) : zBn yX8_putOnTape cX8_putOnTape 3 none rm 1 := ⟨tw_340, tw_6, ⟨by decide +kernel, by decide +kernel, by decide +kernel⟩, h.1, h.2⟩
theorem vw_X8_putOnTape : zVw 7 yX8_putOnTape := ⟨tw_338, tw_339, _, _, rfl⟩
theorem bn_X8_read (rm : Room) (h : rm.cells = 0 ∧ rm.slots = 0) : zBn yX8_read cX8_read 3 (some .int) rm 1 := ⟨tw_536, tw_6, ⟨by decide +kernel, by decide +kernel, by decide +kernel⟩, h.1, h.2⟩
theorem vw_X8_read : zVw 7 yX8_read := ⟨tw_534, tw_535, _, _, rfl⟩
theorem bn_X8_fail (rm : Room) (h : rm.cells = 0 ∧ rm.slots = 0) : zBn yX8_fail cX8_fail 3 none rm 2 := ⟨tw_610, tw_6, ⟨by decide +kernel, by decide +kernel, by decide +kernel⟩, h.1, h.2⟩
theorem vw_X8_fail : zVw 7 yX8_fail := ⟨tw_609, twp_9, _, _, rfl⟩
theorem bn_X8_skipBlanks (rm : Room) (h : rm.cells = 0 ∧ rm.slots = 0) : zBn yX8_skipBlanks cX8_skipBlanks 1 none rm 0 := ⟨tw_545, tw_6, ⟨by decide +kernel, by decide +kernel, by decide +kernel⟩, h.1, h.2⟩
theorem vw_X8_skipBlanks : zVw 7 yX8_skipBlanks := ⟨tw_544, twp_5, _, _, rfl⟩
theorem bn_X8_readLine (rm : Room) (h : rm.cells = 0 ∧ rm.slots = 0) : zBn yX8_readLine cX8_readLine 2 none rm 0 := ⟨tw_549, tw_6, ⟨by decide +kernel, by decide +kernel, by decide +kernel⟩, h.1, h.2⟩
theorem vw_X8_readLine : zVw 7 yX8_readLine := ⟨tw_548, twp_6, _, _, rfl⟩
theorem bn_X8_readEndOfLine (rm : Room) (h : rm.cells = 0 ∧ rm.slots = 0) : zBn yX8_readEndOfLine cX8_readEndOfLine 1 none rm 0 := ⟨tw_660, tw_6, ⟨by decide +kernel, by decide +kernel, by decide +kernel⟩, h.1, h.2⟩
theorem vw_X8_readEndOfLine : zVw 7 yX8_readEndOfLine := ⟨tw_659, twp_16, _, _, rfl⟩
theorem bn_X8_isWord (rm : Room) (h : rm.cells = 0 ∧ rm.slots = 0) : zBn yX8_isWord cX8_isWord 4 (some .boolean) rm 2 := ⟨tw_554, tw_6, ⟨by decide +kernel, by decide +kernel, by decide +kernel⟩, h.1, h.2⟩
theorem vw_X8_isWord : zVw 7 yX8_isWord := ⟨tw_553, twp_7, _, _, rfl⟩
theorem bn_X8_readRing (rm : Room) (h : rm.cells = 0 ∧ rm.slots = 0) : zBn yX8_readRing cX8_readRing 5 none rm 1 := ⟨tw_606, tw_6, ⟨by decide +kernel, by decide +kernel, by decide +kernel⟩, h.1, h.2⟩
theorem vw_X8_readRing : zVw 7 yX8_readRing := ⟨tw_605, twp_8, _, _, rfl⟩
theorem bn_X8_readPair (rm : Room) (h : rm.cells = 0 ∧ rm.slots = 0) : zBn yX8_readPair cX8_readPair 5 none rm 1 := ⟨tw_636, tw_6, ⟨by decide +kernel, by decide +kernel, by decide +kernel⟩, h.1, h.2⟩
theorem vw_X8_readPair : zVw 7 yX8_readPair := ⟨tw_635, twp_14, _, _, rfl⟩
theorem bn_X8_readRepeat (rm : Room) (h : rm.cells = 0 ∧ rm.slots = 0) : zBn yX8_readRepeat cX8_readRepeat 2 none rm 0 := ⟨tw_652, tw_6, ⟨by decide +kernel, by decide +kernel, by decide +kernel⟩, h.1, h.2⟩
theorem vw_X8_readRepeat : zVw 7 yX8_readRepeat := ⟨tw_651, twp_15, _, _, rfl⟩
theorem bn_X8_readNumber (rm : Room) (h : rm.cells = 0 ∧ rm.slots = 0) : zBn yX8_readNumber cX8_readNumber 4 (some .int) rm 2 := ⟨tw_614, tw_6, ⟨by decide +kernel, by decide +kernel, by decide +kernel⟩, h.1, h.2⟩
theorem vw_X8_readNumber : zVw 7 yX8_readNumber := ⟨tw_613, twp_10, _, _, rfl⟩
theorem bn_X8_readSigned (rm : Room) (h : rm.cells = 0 ∧ rm.slots = 0) : zBn yX8_readSigned cX8_readSigned 7 (some .int) rm 2 := ⟨tw_627, tw_6, ⟨by decide +kernel, by decide +kernel, by decide +kernel⟩, h.1, h.2⟩
theorem vw_X8_readSigned : zVw 7 yX8_readSigned := ⟨tw_626, twp_13, _, _, rfl⟩
theorem bn_X8_needNumber (rm : Room) (h : rm.cells = 0 ∧ rm.slots = 0) : zBn yX8_needNumber cX8_needNumber 4 none rm 3 := ⟨tw_623, tw_6, ⟨by decide +kernel, by decide +kernel, by decide +kernel⟩, h.1, h.2⟩
theorem vw_X8_needNumber : zVw 7 yX8_needNumber := ⟨tw_622, twp_12, _, _, rfl⟩
theorem bn_X8_readDigits (rm : Room) (h : rm.cells = 0 ∧ rm.slots = 0) : zBn yX8_readDigits cX8_readDigits 3 (some .int) rm 0 := ⟨tw_618, tw_6, ⟨by decide +kernel, by decide +kernel, by decide +kernel⟩, h.1, h.2⟩
theorem vw_X8_readDigits : zVw 7 yX8_readDigits := ⟨tw_617, twp_11, _, _, rfl⟩
theorem bn_X9_count (rm : Room) (h : rm.cells = 0 ∧ rm.slots = 0) : zBn yX9_count cX9_count 6 (some .long) rm 2 := ⟨tw_1095, tw_9, ⟨by decide +kernel, by decide +kernel, by decide +kernel⟩, h.1, h.2⟩
theorem vw_X9_count : zVw 8 yX9_count := ⟨tw_1093, tw_1094, _, _, rfl⟩
theorem bn_X9_countOf (rm : Room) (h : rm.cells = 0 ∧ rm.slots = 0) : zBn yX9_countOf cX9_countOf 5 (some .long) rm 1 := ⟨tw_1104, tw_9, ⟨by decide +kernel, by decide +kernel, by decide +kernel⟩, h.1, h.2⟩
theorem vw_X9_countOf : zVw 8 yX9_countOf := ⟨tw_1103, twp_30, _, _, rfl⟩
theorem bn_X9_link (rm : Room) (h : rm.cells = 0 ∧ rm.slots = 0) : zBn yX9_link cX9_link 4 none rm 2 := ⟨tw_1099, tw_9, ⟨by decide +kernel, by decide +kernel, by decide +kernel⟩, h.1, h.2⟩
theorem vw_X9_link : zVw 8 yX9_link := ⟨tw_1098, twp_29, _, _, rfl⟩
theorem bn_X10_feed (rm : Room) (h : rm.cells = 0 ∧ rm.slots = 0) : zBn yX10_feed cX10_feed 6 (some .int) rm 5 := ⟨tw_336, tw_1, ⟨by decide +kernel, by decide +kernel, by decide +kernel⟩, h.1, h.2⟩
theorem vw_X10_feed : zVw 9 yX10_feed := ⟨tw_334, tw_335, _, _, rfl⟩
theorem bn_X10_text (rm : Room) (h : rm.cells = 0 ∧ rm.slots = 0) : zBn yX10_text cX10_text 3 (some .int) rm 1 := ⟨tw_456, tw_1, ⟨by decide +kernel, by decide +kernel, by decide +kernel⟩, h.1, h.2⟩
theorem vw_X10_text : zVw 9 yX10_text := ⟨tw_454, tw_455, _, _, rfl⟩
theorem bn_X10_fault (rm : Room) (h : rm.cells = 0 ∧ rm.slots = 0) : zBn yX10_fault cX10_fault 1 (some .int) rm 0 := ⟨tw_344, tw_1, ⟨by decide +kernel, by decide +kernel, by decide +kernel⟩, h.1, h.2⟩
theorem vw_X10_fault : zVw 9 yX10_fault := ⟨tw_342, tw_343, _, _, rfl⟩
theorem bn_X10_set (rm : Room) (h : rm.cells = 0 ∧ rm.slots = 0) : zBn yX10_set cX10_set 4 (some .int) rm 2 := ⟨tw_680, tw_1, ⟨by decide +kernel, by decide +kernel, by decide +kernel⟩, h.1, h.2⟩
theorem vw_X10_set : zVw 9 yX10_set := ⟨tw_678, tw_679, _, _, rfl⟩
theorem bn_X10_wear (rm : Room) (h : rm.cells = 0 ∧ rm.slots = 0) : zBn yX10_wear cX10_wear 6 (some .int) rm 3 := ⟨tw_708, tw_1, ⟨by decide +kernel, by decide +kernel, by decide +kernel⟩, h.1, h.2⟩
theorem vw_X10_wear : zVw 9 yX10_wear := ⟨tw_706, tw_707, _, _, rfl⟩
theorem bn_X10_enrol (rm : Room) (h : rm.cells = 0 ∧ rm.slots = 0) : zBn yX10_enrol cX10_enrol 5 (some .int) rm 1 := ⟨tw_748, tw_1, ⟨by decide +kernel, by decide +kernel, by decide +kernel⟩, h.1, h.2⟩
theorem vw_X10_enrol : zVw 9 yX10_enrol := ⟨tw_746, tw_747, _, _, rfl⟩
theorem bn_X10_hear (rm : Room) (h : rm.cells = 0 ∧ rm.slots = 0) : zBn yX10_hear cX10_hear 3 (some .int) rm 1 := ⟨tw_835, tw_1, ⟨by decide +kernel, by decide +kernel, by decide +kernel⟩, h.1, h.2⟩
theorem vw_X10_hear : zVw 9 yX10_hear := ⟨tw_833, tw_834, _, _, rfl⟩
theorem bn_X10_train (rm : Room) (h : rm.cells = 0 ∧ rm.slots = 0) : zBn yX10_train cX10_train 4 (some .int) rm 1 := ⟨tw_842, tw_1, ⟨by decide +kernel, by decide +kernel, by decide +kernel⟩, h.1, h.2⟩
theorem vw_X10_train : zVw 9 yX10_train := ⟨tw_840, tw_841, _, _, rfl⟩
theorem bn_X10_turn (rm : Room) (h : rm.cells = 0 ∧ rm.slots = 0) : zBn yX10_turn cX10_turn 2 (some .int) rm 1 := ⟨tw_858, tw_1, ⟨by decide +kernel, by decide +kernel, by decide +kernel⟩, h.1, h.2⟩
theorem vw_X10_turn : zVw 9 yX10_turn := ⟨tw_856, tw_857, _, _, rfl⟩
theorem bn_X10_undo (rm : Room) (h : rm.cells = 0 ∧ rm.slots = 0) : zBn yX10_undo cX10_undo 2 (some .int) rm 0 := ⟨tw_348, tw_1, ⟨by decide +kernel, by decide +kernel, by decide +kernel⟩, h.1, h.2⟩
theorem vw_X10_undo : zVw 9 yX10_undo := ⟨tw_346, tw_347, _, _, rfl⟩
theorem bn_X10_told (rm : Room) (h : rm.cells = 0 ∧ rm.slots = 0) : zBn yX10_told cX10_told 3 (some .int) rm 1 := ⟨tw_874, tw_1, ⟨by decide +kernel, by decide +kernel, by decide +kernel⟩, h.1, h.2⟩
theorem vw_X10_told : zVw 9 yX10_told := ⟨tw_872, tw_873, _, _, rfl⟩
theorem bn_X10_ring (rm : Room) (h : rm.cells = 0 ∧ rm.slots = 0) : zBn yX10_ring cX10_ring 3 (some .int) rm 2 := ⟨tw_888, tw_1, ⟨by decide +kernel, by decide +kernel, by decide +kernel⟩, h.1, h.2⟩
theorem vw_X10_ring : zVw 9 yX10_ring := ⟨tw_886, tw_887, _, _, rfl⟩
theorem bn_X10_speed (rm : Room) (h : rm.cells = 0 ∧ rm.slots = 0) : zBn yX10_speed cX10_speed 3 (some .int) rm 2 := ⟨tw_899, tw_1, ⟨by decide +kernel, by decide +kernel, by decide +kernel⟩, h.1, h.2⟩
theorem vw_X10_speed : zVw 9 yX10_speed := ⟨tw_897, tw_898, _, _, rfl⟩
theorem bn_X10_rank (rm : Room) (h : rm.cells = 0 ∧ rm.slots = 0) : zBn yX10_rank cX10_rank 4 (some .int) rm 2 := ⟨tw_911, tw_1, ⟨by decide +kernel, by decide +kernel, by decide +kernel⟩, h.1, h.2⟩
theorem vw_X10_rank : zVw 9 yX10_rank := ⟨tw_909, tw_910, _, _, rfl⟩
theorem bn_X10_pair (rm : Room) (h : rm.cells = 0 ∧ rm.slots = 0) : zBn yX10_pair cX10_pair 5 (some .int) rm 2 := ⟨tw_922, tw_1, ⟨by decide +kernel, by decide +kernel, by decide +kernel⟩, h.1, h.2⟩
theorem vw_X10_pair : zVw 9 yX10_pair := ⟨tw_920, tw_921, _, _, rfl⟩
theorem bn_X10_bit (rm : Room) (h : rm.cells = 0 ∧ rm.slots = 0) : zBn yX10_bit cX10_bit 3 (some .int) rm 2 := ⟨tw_942, tw_1, ⟨by decide +kernel, by decide +kernel, by decide +kernel⟩, h.1, h.2⟩
theorem vw_X10_bit : zVw 9 yX10_bit := ⟨tw_940, tw_941, _, _, rfl⟩
theorem bn_X10_flips (rm : Room) (h : rm.cells = 0 ∧ rm.slots = 0) : zBn yX10_flips cX10_flips 7 (some .int) rm 2 := ⟨tw_953, tw_1, ⟨by decide +kernel, by decide +kernel, by decide +kernel⟩, h.1, h.2⟩
theorem vw_X10_flips : zVw 9 yX10_flips := ⟨tw_951, tw_952, _, _, rfl⟩
theorem bn_X10_odds (rm : Room) (h : rm.cells = 0 ∧ rm.slots = 0) : zBn yX10_odds cX10_odds 8 (some .int) rm 3 := ⟨tw_960, tw_1, ⟨by decide +kernel, by decide +kernel, by decide +kernel⟩, h.1, h.2⟩
theorem vw_X10_odds : zVw 9 yX10_odds := ⟨tw_958, tw_959, _, _, rfl⟩
theorem bn_X10_block (rm : Room) (h : rm.cells = 0 ∧ rm.slots = 0) : zBn yX10_block cX10_block 5 (some .int) rm 2 := ⟨tw_980, tw_1, ⟨by decide +kernel, by decide +kernel, by decide +kernel⟩, h.1, h.2⟩
theorem vw_X10_block : zVw 9 yX10_block := ⟨tw_978, tw_979, _, _, rfl⟩
theorem bn_X10_recover (rm : Room) (h : rm.cells = 0 ∧ rm.slots = 0) : zBn yX10_recover cX10_recover 4 (some .int) rm 3 := ⟨tw_992, tw_1, ⟨by decide +kernel, by decide +kernel, by decide +kernel⟩, h.1, h.2⟩
theorem vw_X10_recover : zVw 9 yX10_recover := ⟨tw_990, tw_991, _, _, rfl⟩
theorem bn_X10_fails (rm : Room) (h : rm.cells = 0 ∧ rm.slots = 0) : zBn yX10_fails cX10_fails 9 (some .int) rm 4 := ⟨tw_1027, tw_1, ⟨by decide +kernel, by decide +kernel, by decide +kernel⟩, h.1, h.2⟩
theorem vw_X10_fails : zVw 9 yX10_fails := ⟨tw_1025, tw_1026, _, _, rfl⟩
theorem bn_X10_safe (rm : Room) (h : rm.cells = 0 ∧ rm.slots = 0) : zBn yX10_safe cX10_safe 4 (some .int) rm 2 := ⟨tw_1034, tw_1, ⟨by decide +kernel, by decide +kernel, by decide +kernel⟩, h.1, h.2⟩
theorem vw_X10_safe : zVw 9 yX10_safe := ⟨tw_1032, tw_1033, _, _, rfl⟩
theorem bn_X10_range (rm : Room) (h : rm.cells = 0 ∧ rm.slots = 0) : zBn yX10_range cX10_range 5 (some .int) rm 1 := ⟨tw_1065, tw_1, ⟨by decide +kernel, by decide +kernel, by decide +kernel⟩, h.1, h.2⟩
theorem vw_X10_range : zVw 9 yX10_range := ⟨tw_1063, tw_1064, _, _, rfl⟩
theorem bn_X10_guardFor (rm : Room) (h : rm.cells = 0 ∧ rm.slots = 0) : zBn yX10_guardFor cX10_guardFor 7 (some .int) rm 1 := ⟨tw_1076, tw_1, ⟨by decide +kernel, by decide +kernel, by decide +kernel⟩, h.1, h.2⟩
theorem vw_X10_guardFor : zVw 9 yX10_guardFor := ⟨tw_1074, tw_1075, _, _, rfl⟩
theorem bn_X10_ways (rm : Room) (h : rm.cells = 0 ∧ rm.slots = 0) : zBn yX10_ways cX10_ways 3 (some .long) rm 1 := ⟨tw_1087, tw_1, ⟨by decide +kernel, by decide +kernel, by decide +kernel⟩, h.1, h.2⟩
theorem vw_X10_ways : zVw 9 yX10_ways := ⟨tw_1085, tw_1086, _, _, rfl⟩
theorem bn_X10_leak (rm : Room) (h : rm.cells = 0 ∧ rm.slots = 0) : zBn yX10_leak cX10_leak 2 (some .int) rm 1 := ⟨tw_1112, tw_1, ⟨by decide +kernel, by decide +kernel, by decide +kernel⟩, h.1, h.2⟩
theorem vw_X10_leak : zVw 9 yX10_leak := ⟨tw_1110, tw_1111, _, _, rfl⟩
theorem bn_X10_success (rm : Room) (h : rm.cells = 0 ∧ rm.slots = 0) : zBn yX10_success cX10_success 9 (some .int) rm 1 := ⟨tw_1158, tw_1, ⟨by decide +kernel, by decide +kernel, by decide +kernel⟩, h.1, h.2⟩
theorem vw_X10_success : zVw 9 yX10_success := ⟨tw_1156, tw_1157, _, _, rfl⟩
theorem bn_X10_curve (rm : Room) (h : rm.cells = 0 ∧ rm.slots = 0) : zBn yX10_curve cX10_curve 4 (some .int) rm 2 := ⟨tw_1165, tw_1, ⟨by decide +kernel, by decide +kernel, by decide +kernel⟩, h.1, h.2⟩
theorem vw_X10_curve : zVw 9 yX10_curve := ⟨tw_1163, tw_1164, _, _, rfl⟩
theorem bn_X10_nextPair (rm : Room) (h : rm.cells = 0 ∧ rm.slots = 0) : zBn yX10_nextPair cX10_nextPair 1 (some .int) rm 0 := ⟨tw_352, tw_1, ⟨by decide +kernel, by decide +kernel, by decide +kernel⟩, h.1, h.2⟩
theorem vw_X10_nextPair : zVw 9 yX10_nextPair := ⟨tw_350, tw_351, _, _, rfl⟩
theorem bn_X10_needs (rm : Room) (h : rm.cells = 0 ∧ rm.slots = 0) : zBn yX10_needs cX10_needs 3 (some .int) rm 0 := ⟨tw_412, tw_1, ⟨by decide +kernel, by decide +kernel, by decide +kernel⟩, h.1, h.2⟩
theorem vw_X10_needs : zVw 9 yX10_needs := ⟨tw_410, tw_411, _, _, rfl⟩
theorem bn_X10_print (rm : Room) (h : rm.cells = 0 ∧ rm.slots = 0) : zBn yX10_print cX10_print 4 (some .long) rm 0 := ⟨tw_433, tw_1, ⟨by decide +kernel, by decide +kernel, by decide +kernel⟩, h.1, h.2⟩
theorem vw_X10_print : zVw 9 yX10_print := ⟨tw_431, tw_432, _, _, rfl⟩
theorem bn_X10_status (rm : Room) (h : rm.cells = 0 ∧ rm.slots = 0) : zBn yX10_status cX10_status 2 (some .int) rm 1 := ⟨tw_448, tw_1, ⟨by decide +kernel, by decide +kernel, by decide +kernel⟩, h.1, h.2⟩
theorem vw_X10_status : zVw 9 yX10_status := ⟨tw_446, tw_447, _, _, rfl⟩
theorem bn_X10_refuseArgument (rm : Room) (h : rm.cells = 0 ∧ rm.slots = 0) : zBn yX10_refuseArgument cX10_refuseArgument 1 none rm 0 := ⟨tw_464, tw_1, ⟨by decide +kernel, by decide +kernel, by decide +kernel⟩, h.1, h.2⟩
theorem vw_X10_refuseArgument : zVw 9 yX10_refuseArgument := ⟨tw_463, twp_3, _, _, rfl⟩
theorem bn_X10_refuseState (rm : Room) (h : rm.cells = 0 ∧ rm.slots = 0) : zBn yX10_refuseState cX10_refuseState 1 none rm 0 := ⟨tw_784, tw_1, ⟨by decide +kernel, by decide +kernel, by decide +kernel⟩, h.1, h.2⟩
theorem vw_X10_refuseState : zVw 9 yX10_refuseState := ⟨tw_783, twp_22, _, _, rfl⟩
theorem bn_X10_refuseMissing (rm : Room) (h : rm.cells = 0 ∧ rm.slots = 0) : zBn yX10_refuseMissing cX10_refuseMissing 1 none rm 0 := ⟨tw_716, tw_1, ⟨by decide +kernel, by decide +kernel, by decide +kernel⟩, h.1, h.2⟩
theorem vw_X10_refuseMissing : zVw 9 yX10_refuseMissing := ⟨tw_715, twp_20, _, _, rfl⟩
theorem bn_X10_needCounted (rm : Room) (h : rm.cells = 0 ∧ rm.slots = 0) : zBn yX10_needCounted cX10_needCounted 3 none rm 2 := ⟨tw_712, tw_1, ⟨by decide +kernel, by decide +kernel, by decide +kernel⟩, h.1, h.2⟩
theorem vw_X10_needCounted : zVw 9 yX10_needCounted := ⟨tw_711, twp_19, _, _, rfl⟩
theorem bn_X10_needBetween (rm : Room) (h : rm.cells = 0 ∧ rm.slots = 0) : zBn yX10_needBetween cX10_needBetween 4 none rm 3 := ⟨tw_460, tw_1, ⟨by decide +kernel, by decide +kernel, by decide +kernel⟩, h.1, h.2⟩
theorem vw_X10_needBetween : zVw 9 yX10_needBetween := ⟨tw_459, twp_2, _, _, rfl⟩
theorem bn_X10_needHeat (rm : Room) (h : rm.cells = 0 ∧ rm.slots = 0) : zBn yX10_needHeat cX10_needHeat 2 none rm 1 := ⟨tw_903, tw_1, ⟨by decide +kernel, by decide +kernel, by decide +kernel⟩, h.1, h.2⟩
theorem vw_X10_needHeat : zVw 9 yX10_needHeat := ⟨tw_902, twp_25, _, _, rfl⟩
theorem bn_X10_needEnrolled (rm : Room) (h : rm.cells = 0 ∧ rm.slots = 0) : zBn yX10_needEnrolled cX10_needEnrolled 1 none rm 0 := ⟨tw_862, tw_1, ⟨by decide +kernel, by decide +kernel, by decide +kernel⟩, h.1, h.2⟩
theorem vw_X10_needEnrolled : zVw 9 yX10_needEnrolled := ⟨tw_861, twp_23, _, _, rfl⟩
theorem bn_X10_needSetting (rm : Room) (h : rm.cells = 0 ∧ rm.slots = 0) : zBn yX10_needSetting cX10_needSetting 3 none rm 2 := ⟨tw_684, tw_1, ⟨by decide +kernel, by decide +kernel, by decide +kernel⟩, h.1, h.2⟩
theorem vw_X10_needSetting : zVw 9 yX10_needSetting := ⟨tw_683, twp_17, _, _, rfl⟩
theorem bn_X10_needTrait (rm : Room) (h : rm.cells = 0 ∧ rm.slots = 0) : zBn yX10_needTrait cX10_needTrait 3 none rm 2 := ⟨tw_736, tw_1, ⟨by decide +kernel, by decide +kernel, by decide +kernel⟩, h.1, h.2⟩
theorem vw_X10_needTrait : zVw 9 yX10_needTrait := ⟨tw_735, twp_21, _, _, rfl⟩
theorem bn_X10_remember (rm : Room) (h : rm.cells = 0 ∧ rm.slots = 0) : zBn yX10_remember cX10_remember 1 none rm 0 := ⟨tw_689, tw_1, ⟨by decide +kernel, by decide +kernel, by decide +kernel⟩, h.1, h.2⟩
theorem vw_X10_remember : zVw 9 yX10_remember := ⟨tw_688, twp_18, _, _, rfl⟩
theorem bn_X10_toldOfEnrolled (rm : Room) (h : rm.cells = 0 ∧ rm.slots = 0) : zBn yX10_toldOfEnrolled cX10_toldOfEnrolled 3 (some .int) rm 1 := ⟨tw_880, tw_1, ⟨by decide +kernel, by decide +kernel, by decide +kernel⟩, h.1, h.2⟩
theorem vw_X10_toldOfEnrolled : zVw 9 yX10_toldOfEnrolled := ⟨tw_879, twp_24, _, _, rfl⟩
theorem bn_X10_isSafeAt (rm : Room) (h : rm.cells = 0 ∧ rm.slots = 0) : zBn yX10_isSafeAt cX10_isSafeAt 2 (some .boolean) rm 1 := ⟨tw_1069, tw_1, ⟨by decide +kernel, by decide +kernel, by decide +kernel⟩, h.1, h.2⟩
theorem vw_X10_isSafeAt : zVw 9 yX10_isSafeAt := ⟨tw_1068, twp_27, _, _, rfl⟩
theorem bn_X10_marginsFrom (rm : Room) (h : rm.cells = 0 ∧ rm.slots = 0) : zBn yX10_marginsFrom cX10_marginsFrom 4 (some .int) rm 1 := ⟨tw_1080, tw_1, ⟨by decide +kernel, by decide +kernel, by decide +kernel⟩, h.1, h.2⟩
theorem vw_X10_marginsFrom : zVw 9 yX10_marginsFrom := ⟨tw_1079, twp_28, _, _, rfl⟩
theorem bn_X10_sureOfEnrolled (rm : Room) (h : rm.cells = 0 ∧ rm.slots = 0) : zBn yX10_sureOfEnrolled cX10_sureOfEnrolled 4 (some .int) rm 0 := ⟨tw_1116, tw_1, ⟨by decide +kernel, by decide +kernel, by decide +kernel⟩, h.1, h.2⟩
theorem vw_X10_sureOfEnrolled : zVw 9 yX10_sureOfEnrolled := ⟨tw_1115, twp_31, _, _, rfl⟩
theorem bn_X10_epochsToLearn (rm : Room) (h : rm.cells = 0 ∧ rm.slots = 0) : zBn yX10_epochsToLearn cX10_epochsToLearn 3 (some .int) rm 1 := ⟨tw_1169, tw_1, ⟨by decide +kernel, by decide +kernel, by decide +kernel⟩, h.1, h.2⟩
theorem vw_X10_epochsToLearn : zVw 9 yX10_epochsToLearn := ⟨tw_1168, twp_34, _, _, rfl⟩
theorem bn_X10_guessedRight (rm : Room) (h : rm.cells = 0 ∧ rm.slots = 0) : zBn yX10_guessedRight cX10_guessedRight 5 (some .int) rm 2 := ⟨tw_1173, tw_1, ⟨by decide +kernel, by decide +kernel, by decide +kernel⟩, h.1, h.2⟩
theorem vw_X10_guessedRight : zVw 9 yX10_guessedRight := ⟨tw_1172, twp_35, _, _, rfl⟩
theorem bn_X10_nextFor (rm : Room) (h : rm.cells = 0 ∧ rm.slots = 0) : zBn yX10_nextFor cX10_nextFor 9 (some .int) rm 1 := ⟨tw_356, tw_1, ⟨by decide +kernel, by decide +kernel, by decide +kernel⟩, h.1, h.2⟩
theorem vw_X10_nextFor : zVw 9 yX10_nextFor := ⟨tw_355, twp_0, _, _, rfl⟩
theorem bn_X10_followersIf (rm : Room) (h : rm.cells = 0 ∧ rm.slots = 0) : zBn yX10_followersIf cX10_followersIf 5 (some .int) rm 2 := ⟨tw_397, tw_1, ⟨by decide +kernel, by decide +kernel, by decide +kernel⟩, h.1, h.2⟩
theorem vw_X10_followersIf : zVw 9 yX10_followersIf := ⟨tw_396, twp_1, _, _, rfl⟩
theorem bn_X10_bitIn (rm : Room) (h : rm.cells = 0 ∧ rm.slots = 0) : zBn yX10_bitIn cX10_bitIn 2 (some .int) rm 2 := ⟨tw_375, tw_1, ⟨by decide +kernel, by decide +kernel, by decide +kernel⟩, h.1, h.2⟩
theorem bn_X10_commonDivisor (rm : Room) (h : rm.cells = 0 ∧ rm.slots = 0) : zBn yX10_commonDivisor cX10_commonDivisor 6 (some .int) rm 2 := ⟨tw_972, tw_1, ⟨by decide +kernel, by decide +kernel, by decide +kernel⟩, h.1, h.2⟩
theorem bn_X11_thrown (rm : Room) (h : rm.cells = 0 ∧ rm.slots = 0) : zBn yX11_thrown cX11_thrown 1 (some .int) rm 0 := ⟨tw_1177, tw_11, ⟨by decide +kernel, by decide +kernel, by decide +kernel⟩, h.1, h.2⟩
theorem vw_X11_thrown : zVw 10 yX11_thrown := ⟨tw_1175, tw_1176, _, _, rfl⟩
theorem bn_X11_isFine (rm : Room) (h : rm.cells = 0 ∧ rm.slots = 0) : zBn yX11_isFine cX11_isFine 4 (some .boolean) rm 3 := ⟨tw_1311, tw_11, ⟨by decide +kernel, by decide +kernel, by decide +kernel⟩, h.1, h.2⟩
theorem vw_X11_isFine : zVw 10 yX11_isFine := ⟨tw_1310, twp_37, _, _, rfl⟩
theorem bn_X11_within (rm : Room) (h : rm.cells = 0 ∧ rm.slots = 0) : zBn yX11_within cX11_within 3 (some .boolean) rm 3 := ⟨tw_1307, tw_11, ⟨by decide +kernel, by decide +kernel, by decide +kernel⟩, h.1, h.2⟩
theorem bn_X11_clears (rm : Room) (h : rm.cells = 0 ∧ rm.slots = 0) : zBn yX11_clears cX11_clears 2 none rm 1 := ⟨tw_1186, tw_11, ⟨by decide +kernel, by decide +kernel, by decide +kernel⟩, h.1, h.2⟩
theorem bn_X11_speedOf (rm : Room) (h : rm.cells = 0 ∧ rm.slots = 0) : zBn yX11_speedOf cX11_speedOf 3 (some .int) rm 2 := ⟨tw_1418, tw_11, ⟨by decide +kernel, by decide +kernel, by decide +kernel⟩, h.1, h.2⟩
theorem vw_X11_speedOf : zVw 10 yX11_speedOf := ⟨tw_1417, twp_57, _, _, rfl⟩
theorem bn_X11_noiseOf (rm : Room) (h : rm.cells = 0 ∧ rm.slots = 0) : zBn yX11_noiseOf cX11_noiseOf 2 (some .int) rm 1 := ⟨tw_1433, tw_11, ⟨by decide +kernel, by decide +kernel, by decide +kernel⟩, h.1, h.2⟩
theorem vw_X11_noiseOf : zVw 10 yX11_noiseOf := ⟨tw_1432, twp_60, _, _, rfl⟩
theorem bn_X11_bitBy (rm : Room) (h : rm.cells = 0 ∧ rm.slots = 0) : zBn yX11_bitBy cX11_bitBy 4 (some .int) rm 4 := ⟨tw_1429, tw_11, ⟨by decide +kernel, by decide +kernel, by decide +kernel⟩, h.1, h.2⟩
theorem bn_X11_bitAt (rm : Room) (h : rm.cells = 0 ∧ rm.slots = 0) : zBn yX11_bitAt cX11_bitAt 3 (some .int) rm 2 := ⟨tw_1426, tw_11, ⟨by decide +kernel, by decide +kernel, by decide +kernel⟩, h.1, h.2⟩
theorem vw_X11_bitAt : zVw 10 yX11_bitAt := ⟨tw_1425, twp_59, _, _, rfl⟩
theorem bn_X11_bitOf (rm : Room) (h : rm.cells = 0 ∧ rm.slots = 0) : zBn yX11_bitOf cX11_bitOf 2 (some .int) rm 1 := ⟨tw_1422, tw_11, ⟨by decide +kernel, by decide +kernel, by decide +kernel⟩, h.1, h.2⟩
theorem vw_X11_bitOf : zVw 10 yX11_bitOf := ⟨tw_1421, twp_58, _, _, rfl⟩
theorem bn_X11_apart (rm : Room) (h : rm.cells = 0 ∧ rm.slots = 0) : zBn yX11_apart cX11_apart 4 (some .int) rm 2 := ⟨tw_1414, tw_11, ⟨by decide +kernel, by decide +kernel, by decide +kernel⟩, h.1, h.2⟩
theorem vw_X11_apart : zVw 10 yX11_apart := ⟨tw_1413, twp_56, _, _, rfl⟩
theorem bn_X11_marginOf (rm : Room) (h : rm.cells = 0 ∧ rm.slots = 0) : zBn yX11_marginOf cX11_marginOf 4 (some .int) rm 1 := ⟨tw_1410, tw_11, ⟨by decide +kernel, by decide +kernel, by decide +kernel⟩, h.1, h.2⟩
theorem vw_X11_marginOf : zVw 10 yX11_marginOf := ⟨tw_1409, twp_55, _, _, rfl⟩
theorem bn_X11_isSteady (rm : Room) (h : rm.cells = 0 ∧ rm.slots = 0) : zBn yX11_isSteady cX11_isSteady 3 (some .boolean) rm 2 := ⟨tw_1406, tw_11, ⟨by decide +kernel, by decide +kernel, by decide +kernel⟩, h.1, h.2⟩
theorem vw_X11_isSteady : zVw 10 yX11_isSteady := ⟨tw_1405, twp_54, _, _, rfl⟩
theorem bn_X11_usedBy (rm : Room) (h : rm.cells = 0 ∧ rm.slots = 0) : zBn yX11_usedBy cX11_usedBy 5 (some .int) rm 2 := ⟨tw_1402, tw_11, ⟨by decide +kernel, by decide +kernel, by decide +kernel⟩, h.1, h.2⟩
theorem vw_X11_usedBy : zVw 10 yX11_usedBy := ⟨tw_1401, twp_53, _, _, rfl⟩
theorem bn_X11_usedNow (rm : Room) (h : rm.cells = 0 ∧ rm.slots = 0) : zBn yX11_usedNow cX11_usedNow 1 (some .int) rm 0 := ⟨tw_1398, tw_11, ⟨by decide +kernel, by decide +kernel, by decide +kernel⟩, h.1, h.2⟩
theorem vw_X11_usedNow : zVw 10 yX11_usedNow := ⟨tw_1397, twp_52, _, _, rfl⟩
theorem bn_X11_wideBy (rm : Room) (h : rm.cells = 0 ∧ rm.slots = 0) : zBn yX11_wideBy cX11_wideBy 1 (some .int) rm 1 := ⟨tw_1440, tw_11, ⟨by decide +kernel, by decide +kernel, by decide +kernel⟩, h.1, h.2⟩
theorem bn_X11_givesBy (rm : Room) (h : rm.cells = 0 ∧ rm.slots = 0) : zBn yX11_givesBy cX11_givesBy 1 (some .int) rm 1 := ⟨tw_1443, tw_11, ⟨by decide +kernel, by decide +kernel, by decide +kernel⟩, h.1, h.2⟩
theorem bn_X11_blocksOf (rm : Room) (h : rm.cells = 0 ∧ rm.slots = 0) : zBn yX11_blocksOf cX11_blocksOf 3 (some .int) rm 2 := ⟨tw_1437, tw_11, ⟨by decide +kernel, by decide +kernel, by decide +kernel⟩, h.1, h.2⟩
theorem vw_X11_blocksOf : zVw 10 yX11_blocksOf := ⟨tw_1436, twp_61, _, _, rfl⟩
theorem bn_X11_blocks (rm : Room) (h : rm.cells = 0 ∧ rm.slots = 0) : zBn yX11_blocks cX11_blocks 1 (some .int) rm 0 := ⟨tw_1394, tw_11, ⟨by decide +kernel, by decide +kernel, by decide +kernel⟩, h.1, h.2⟩
theorem vw_X11_blocks : zVw 10 yX11_blocks := ⟨tw_1393, twp_51, _, _, rfl⟩
theorem bn_X11_words (rm : Room) (h : rm.cells = 0 ∧ rm.slots = 0) : zBn yX11_words cX11_words 7 none rm 2 := ⟨tw_1451, tw_11, ⟨by decide +kernel, by decide +kernel, by decide +kernel⟩, h.1, h.2⟩
theorem vw_X11_words : zVw 10 yX11_words := ⟨tw_1450, twp_63, _, _, rfl⟩
theorem bn_X11_decoded (rm : Room) (h : rm.cells = 0 ∧ rm.slots = 0) : zBn yX11_decoded cX11_decoded 7 (some .int) rm 1 := ⟨tw_1599, tw_11, ⟨by decide +kernel, by decide +kernel, by decide +kernel⟩, h.1, h.2⟩
theorem vw_X11_decoded : zVw 10 yX11_decoded := ⟨tw_1598, twp_84, _, _, rfl⟩
theorem bn_X11_checkOf (rm : Room) (h : rm.cells = 0 ∧ rm.slots = 0) : zBn yX11_checkOf cX11_checkOf 4 (some .int) rm 2 := ⟨tw_1454, tw_11, ⟨by decide +kernel, by decide +kernel, by decide +kernel⟩, h.1, h.2⟩
theorem bn_X11_feed (rm : Room) (h : rm.cells = 0 ∧ rm.slots = 0) : zBn yX11_feed cX11_feed 6 (some .int) rm 5 := ⟨tw_1296, tw_11, ⟨by decide +kernel, by decide +kernel, by decide +kernel⟩, h.1, h.2⟩
theorem vw_X11_feed : zVw 10 yX11_feed := ⟨tw_1294, tw_1295, _, _, rfl⟩
theorem bn_X11_puts (rm : Room) (h : rm.cells = 0 ∧ rm.slots = 0) : zBn yX11_puts cX11_puts 3 none rm 1 := ⟨tw_1300, tw_11, ⟨by decide +kernel, by decide +kernel, by decide +kernel⟩, h.1, h.2⟩
theorem vw_X11_puts : zVw 10 yX11_puts := ⟨tw_1299, twp_36, _, _, rfl⟩
theorem bn_X11_wrong (rm : Room) (h : rm.cells = 0 ∧ rm.slots = 0) : zBn yX11_wrong cX11_wrong 3 none rm 2 := ⟨tw_1338, tw_11, ⟨by decide +kernel, by decide +kernel, by decide +kernel⟩, h.1, h.2⟩
theorem vw_X11_wrong : zVw 10 yX11_wrong := ⟨tw_1337, twp_43, _, _, rfl⟩
theorem bn_X11_sign (rm : Room) (h : rm.cells = 0 ∧ rm.slots = 0) : zBn yX11_sign cX11_sign 1 (some .int) rm 0 := ⟨tw_1315, tw_11, ⟨by decide +kernel, by decide +kernel, by decide +kernel⟩, h.1, h.2⟩
theorem vw_X11_sign : zVw 10 yX11_sign := ⟨tw_1314, twp_38, _, _, rfl⟩
theorem bn_X11_isSmall (rm : Room) (h : rm.cells = 0 ∧ rm.slots = 0) : zBn yX11_isSmall cX11_isSmall 2 (some .boolean) rm 1 := ⟨tw_1329, tw_11, ⟨by decide +kernel, by decide +kernel, by decide +kernel⟩, h.1, h.2⟩
theorem vw_X11_isSmall : zVw 10 yX11_isSmall := ⟨tw_1328, twp_41, _, _, rfl⟩
theorem bn_X11_passes (rm : Room) (h : rm.cells = 0 ∧ rm.slots = 0) : zBn yX11_passes cX11_passes 3 (some .boolean) rm 1 := ⟨tw_1324, tw_11, ⟨by decide +kernel, by decide +kernel, by decide +kernel⟩, h.1, h.2⟩
theorem vw_X11_passes : zVw 10 yX11_passes := ⟨tw_1323, twp_40, _, _, rfl⟩
theorem bn_X11_number (rm : Room) (h : rm.cells = 0 ∧ rm.slots = 0) : zBn yX11_number cX11_number 8 (some .int) rm 3 := ⟨tw_1343, tw_11, ⟨by decide +kernel, by decide +kernel, by decide +kernel⟩, h.1, h.2⟩
theorem vw_X11_number : zVw 10 yX11_number := ⟨tw_1342, twp_44, _, _, rfl⟩
theorem bn_X11_ringTold (rm : Room) (h : rm.cells = 0 ∧ rm.slots = 0) : zBn yX11_ringTold cX11_ringTold 5 none rm 0 := ⟨tw_1334, tw_11, ⟨by decide +kernel, by decide +kernel, by decide +kernel⟩, h.1, h.2⟩
theorem vw_X11_ringTold : zVw 10 yX11_ringTold := ⟨tw_1333, twp_42, _, _, rfl⟩
theorem bn_X11_pairTold (rm : Room) (h : rm.cells = 0 ∧ rm.slots = 0) : zBn yX11_pairTold cX11_pairTold 5 none rm 0 := ⟨tw_1349, tw_11, ⟨by decide +kernel, by decide +kernel, by decide +kernel⟩, h.1, h.2⟩
theorem vw_X11_pairTold : zVw 10 yX11_pairTold := ⟨tw_1348, twp_45, _, _, rfl⟩
theorem bn_X11_heatsTold (rm : Room) (h : rm.cells = 0 ∧ rm.slots = 0) : zBn yX11_heatsTold cX11_heatsTold 1 none rm 0 := ⟨tw_1355, tw_11, ⟨by decide +kernel, by decide +kernel, by decide +kernel⟩, h.1, h.2⟩
theorem vw_X11_heatsTold : zVw 10 yX11_heatsTold := ⟨tw_1354, twp_46, _, _, rfl⟩
theorem bn_X11_repeatTold (rm : Room) (h : rm.cells = 0 ∧ rm.slots = 0) : zBn yX11_repeatTold cX11_repeatTold 2 none rm 0 := ⟨tw_1361, tw_11, ⟨by decide +kernel, by decide +kernel, by decide +kernel⟩, h.1, h.2⟩
theorem vw_X11_repeatTold : zVw 10 yX11_repeatTold := ⟨tw_1360, twp_47, _, _, rfl⟩
theorem bn_X11_oneLine (rm : Room) (h : rm.cells = 0 ∧ rm.slots = 0) : zBn yX11_oneLine cX11_oneLine 1 none rm 0 := ⟨tw_1319, tw_11, ⟨by decide +kernel, by decide +kernel, by decide +kernel⟩, h.1, h.2⟩
theorem vw_X11_oneLine : zVw 10 yX11_oneLine := ⟨tw_1318, twp_39, _, _, rfl⟩
theorem bn_X11_text (rm : Room) (h : rm.cells = 0 ∧ rm.slots = 0) : zBn yX11_text cX11_text 3 (some .int) rm 1 := ⟨tw_1304, tw_11, ⟨by decide +kernel, by decide +kernel, by decide +kernel⟩, h.1, h.2⟩
theorem vw_X11_text : zVw 10 yX11_text := ⟨tw_1302, tw_1303, _, _, rfl⟩
theorem bn_X11_fault (rm : Room) (h : rm.cells = 0 ∧ rm.slots = 0) : zBn yX11_fault cX11_fault 1 (some .int) rm 0 := ⟨tw_1366, tw_11, ⟨by decide +kernel, by decide +kernel, by decide +kernel⟩, h.1, h.2⟩
theorem vw_X11_fault : zVw 10 yX11_fault := ⟨tw_1364, tw_1365, _, _, rfl⟩
theorem bn_X11_keeps (rm : Room) (h : rm.cells = 0 ∧ rm.slots = 0) : zBn yX11_keeps cX11_keeps 2 none rm 0 := ⟨tw_1378, tw_11, ⟨by decide +kernel, by decide +kernel, by decide +kernel⟩, h.1, h.2⟩
theorem vw_X11_keeps : zVw 10 yX11_keeps := ⟨tw_1377, twp_49, _, _, rfl⟩
theorem bn_X11_isRing (rm : Room) (h : rm.cells = 0 ∧ rm.slots = 0) : zBn yX11_isRing cX11_isRing 2 (some .boolean) rm 1 := ⟨tw_1386, tw_11, ⟨by decide +kernel, by decide +kernel, by decide +kernel⟩, h.1, h.2⟩
theorem vw_X11_isRing : zVw 10 yX11_isRing := ⟨tw_1385, twp_50, _, _, rfl⟩
theorem bn_X11_isPair (rm : Room) (h : rm.cells = 0 ∧ rm.slots = 0) : zBn yX11_isPair cX11_isPair 2 (some .boolean) rm 1 := ⟨tw_1462, tw_11, ⟨by decide +kernel, by decide +kernel, by decide +kernel⟩, h.1, h.2⟩
theorem vw_X11_isPair : zVw 10 yX11_isPair := ⟨tw_1461, twp_64, _, _, rfl⟩
theorem bn_X11_maySet (rm : Room) (h : rm.cells = 0 ∧ rm.slots = 0) : zBn yX11_maySet cX11_maySet 3 (some .boolean) rm 2 := ⟨tw_1374, tw_11, ⟨by decide +kernel, by decide +kernel, by decide +kernel⟩, h.1, h.2⟩
theorem vw_X11_maySet : zVw 10 yX11_maySet := ⟨tw_1373, twp_48, _, _, rfl⟩
theorem bn_X11_set (rm : Room) (h : rm.cells = 0 ∧ rm.slots = 0) : zBn yX11_set cX11_set 4 (some .int) rm 2 := ⟨tw_1370, tw_11, ⟨by decide +kernel, by decide +kernel, by decide +kernel⟩, h.1, h.2⟩
theorem vw_X11_set : zVw 10 yX11_set := ⟨tw_1368, tw_1369, _, _, rfl⟩
theorem bn_X11_wear (rm : Room) (h : rm.cells = 0 ∧ rm.slots = 0) : zBn yX11_wear cX11_wear 5 (some .int) rm 3 := ⟨tw_1382, tw_11, ⟨by decide +kernel, by decide +kernel, by decide +kernel⟩, h.1, h.2⟩
theorem vw_X11_wear : zVw 10 yX11_wear := ⟨tw_1380, tw_1381, _, _, rfl⟩
theorem bn_X11_secretBits (rm : Room) (h : rm.cells = 0 ∧ rm.slots = 0) : zBn yX11_secretBits cX11_secretBits 1 (some .int) rm 0 := ⟨tw_1447, tw_11, ⟨by decide +kernel, by decide +kernel, by decide +kernel⟩, h.1, h.2⟩
theorem vw_X11_secretBits : zVw 10 yX11_secretBits := ⟨tw_1446, twp_62, _, _, rfl⟩
theorem bn_X11_enrol (rm : Room) (h : rm.cells = 0 ∧ rm.slots = 0) : zBn yX11_enrol cX11_enrol 9 (some .int) rm 1 := ⟨tw_1390, tw_11, ⟨by decide +kernel, by decide +kernel, by decide +kernel⟩, h.1, h.2⟩
theorem vw_X11_enrol : zVw 10 yX11_enrol := ⟨tw_1388, tw_1389, _, _, rfl⟩
theorem bn_X11_heardAt (rm : Room) (h : rm.cells = 0 ∧ rm.slots = 0) : zBn yX11_heardAt cX11_heardAt 3 (some .int) rm 1 := ⟨tw_1466, tw_11, ⟨by decide +kernel, by decide +kernel, by decide +kernel⟩, h.1, h.2⟩
theorem vw_X11_heardAt : zVw 10 yX11_heardAt := ⟨tw_1465, twp_65, _, _, rfl⟩
theorem bn_X11_hear (rm : Room) (h : rm.cells = 0 ∧ rm.slots = 0) : zBn yX11_hear cX11_hear 3 (some .int) rm 1 := ⟨tw_1458, tw_11, ⟨by decide +kernel, by decide +kernel, by decide +kernel⟩, h.1, h.2⟩
theorem vw_X11_hear : zVw 10 yX11_hear := ⟨tw_1456, tw_1457, _, _, rfl⟩
theorem bn_X11_guessOf (rm : Room) (h : rm.cells = 0 ∧ rm.slots = 0) : zBn yX11_guessOf cX11_guessOf 2 (some .int) rm 1 := ⟨tw_1478, tw_11, ⟨by decide +kernel, by decide +kernel, by decide +kernel⟩, h.1, h.2⟩
theorem vw_X11_guessOf : zVw 10 yX11_guessOf := ⟨tw_1477, twp_67, _, _, rfl⟩
theorem bn_X11_epoch (rm : Room) (h : rm.cells = 0 ∧ rm.slots = 0) : zBn yX11_epoch cX11_epoch 5 (some .int) rm 0 := ⟨tw_1474, tw_11, ⟨by decide +kernel, by decide +kernel, by decide +kernel⟩, h.1, h.2⟩
theorem vw_X11_epoch : zVw 10 yX11_epoch := ⟨tw_1473, twp_66, _, _, rfl⟩
theorem bn_X11_train (rm : Room) (h : rm.cells = 0 ∧ rm.slots = 0) : zBn yX11_train cX11_train 4 (some .int) rm 1 := ⟨tw_1470, tw_11, ⟨by decide +kernel, by decide +kernel, by decide +kernel⟩, h.1, h.2⟩
theorem vw_X11_train : zVw 10 yX11_train := ⟨tw_1468, tw_1469, _, _, rfl⟩
theorem bn_X11_isKept (rm : Room) (h : rm.cells = 0 ∧ rm.slots = 0) : zBn yX11_isKept cX11_isKept 1 (some .boolean) rm 0 := ⟨tw_1486, tw_11, ⟨by decide +kernel, by decide +kernel, by decide +kernel⟩, h.1, h.2⟩
theorem vw_X11_isKept : zVw 10 yX11_isKept := ⟨tw_1485, twp_68, _, _, rfl⟩
theorem bn_X11_turn (rm : Room) (h : rm.cells = 0 ∧ rm.slots = 0) : zBn yX11_turn cX11_turn 2 (some .int) rm 1 := ⟨tw_1482, tw_11, ⟨by decide +kernel, by decide +kernel, by decide +kernel⟩, h.1, h.2⟩
theorem vw_X11_turn : zVw 10 yX11_turn := ⟨tw_1480, tw_1481, _, _, rfl⟩
theorem bn_X11_undo (rm : Room) (h : rm.cells = 0 ∧ rm.slots = 0) : zBn yX11_undo cX11_undo 2 (some .int) rm 0 := ⟨tw_1490, tw_11, ⟨by decide +kernel, by decide +kernel, by decide +kernel⟩, h.1, h.2⟩
theorem vw_X11_undo : zVw 10 yX11_undo := ⟨tw_1488, tw_1489, _, _, rfl⟩
theorem bn_X11_steadyMany (rm : Room) (h : rm.cells = 0 ∧ rm.slots = 0) : zBn yX11_steadyMany cX11_steadyMany 3 (some .int) rm 0 := ⟨tw_1498, tw_11, ⟨by decide +kernel, by decide +kernel, by decide +kernel⟩, h.1, h.2⟩
theorem vw_X11_steadyMany : zVw 10 yX11_steadyMany := ⟨tw_1497, twp_69, _, _, rfl⟩
theorem bn_X11_keptBits (rm : Room) (h : rm.cells = 0 ∧ rm.slots = 0) : zBn yX11_keptBits cX11_keptBits 1 (some .int) rm 0 := ⟨tw_1502, tw_11, ⟨by decide +kernel, by decide +kernel, by decide +kernel⟩, h.1, h.2⟩
theorem vw_X11_keptBits : zVw 10 yX11_keptBits := ⟨tw_1501, twp_70, _, _, rfl⟩
theorem bn_X11_told (rm : Room) (h : rm.cells = 0 ∧ rm.slots = 0) : zBn yX11_told cX11_told 3 (some .int) rm 1 := ⟨tw_1494, tw_11, ⟨by decide +kernel, by decide +kernel, by decide +kernel⟩, h.1, h.2⟩
theorem vw_X11_told : zVw 10 yX11_told := ⟨tw_1492, tw_1493, _, _, rfl⟩
theorem bn_X11_pairsWith (rm : Room) (h : rm.cells = 0 ∧ rm.slots = 0) : zBn yX11_pairsWith cX11_pairsWith 4 (some .int) rm 1 := ⟨tw_1510, tw_11, ⟨by decide +kernel, by decide +kernel, by decide +kernel⟩, h.1, h.2⟩
theorem vw_X11_pairsWith : zVw 10 yX11_pairsWith := ⟨tw_1509, twp_71, _, _, rfl⟩
theorem bn_X11_ring (rm : Room) (h : rm.cells = 0 ∧ rm.slots = 0) : zBn yX11_ring cX11_ring 3 (some .int) rm 2 := ⟨tw_1506, tw_11, ⟨by decide +kernel, by decide +kernel, by decide +kernel⟩, h.1, h.2⟩
theorem vw_X11_ring : zVw 10 yX11_ring := ⟨tw_1504, tw_1505, _, _, rfl⟩
theorem bn_X11_isHeat (rm : Room) (h : rm.cells = 0 ∧ rm.slots = 0) : zBn yX11_isHeat cX11_isHeat 2 (some .boolean) rm 1 := ⟨tw_1518, tw_11, ⟨by decide +kernel, by decide +kernel, by decide +kernel⟩, h.1, h.2⟩
theorem vw_X11_isHeat : zVw 10 yX11_isHeat := ⟨tw_1517, twp_72, _, _, rfl⟩
theorem bn_X11_speed (rm : Room) (h : rm.cells = 0 ∧ rm.slots = 0) : zBn yX11_speed cX11_speed 3 (some .int) rm 2 := ⟨tw_1514, tw_11, ⟨by decide +kernel, by decide +kernel, by decide +kernel⟩, h.1, h.2⟩
theorem vw_X11_speed : zVw 10 yX11_speed := ⟨tw_1512, tw_1513, _, _, rfl⟩
theorem bn_X11_rank (rm : Room) (h : rm.cells = 0 ∧ rm.slots = 0) : zBn yX11_rank cX11_rank 6 (some .int) rm 2 := ⟨tw_1522, tw_11, ⟨by decide +kernel, by decide +kernel, by decide +kernel⟩, h.1, h.2⟩
theorem vw_X11_rank : zVw 10 yX11_rank := ⟨tw_1520, tw_1521, _, _, rfl⟩
theorem bn_X11_blockOf (rm : Room) (h : rm.cells = 0 ∧ rm.slots = 0) : zBn yX11_blockOf cX11_blockOf 4 (some .int) rm 1 := ⟨tw_1534, tw_11, ⟨by decide +kernel, by decide +kernel, by decide +kernel⟩, h.1, h.2⟩
theorem vw_X11_blockOf : zVw 10 yX11_blockOf := ⟨tw_1533, twp_74, _, _, rfl⟩
theorem bn_X11_keptAt (rm : Room) (h : rm.cells = 0 ∧ rm.slots = 0) : zBn yX11_keptAt cX11_keptAt 3 (some .int) rm 1 := ⟨tw_1530, tw_11, ⟨by decide +kernel, by decide +kernel, by decide +kernel⟩, h.1, h.2⟩
theorem vw_X11_keptAt : zVw 10 yX11_keptAt := ⟨tw_1529, twp_73, _, _, rfl⟩
theorem bn_X11_pair (rm : Room) (h : rm.cells = 0 ∧ rm.slots = 0) : zBn yX11_pair cX11_pair 5 (some .int) rm 2 := ⟨tw_1526, tw_11, ⟨by decide +kernel, by decide +kernel, by decide +kernel⟩, h.1, h.2⟩
theorem vw_X11_pair : zVw 10 yX11_pair := ⟨tw_1524, tw_1525, _, _, rfl⟩
theorem bn_X11_bit (rm : Room) (h : rm.cells = 0 ∧ rm.slots = 0) : zBn yX11_bit cX11_bit 3 (some .int) rm 2 := ⟨tw_1566, tw_11, ⟨by decide +kernel, by decide +kernel, by decide +kernel⟩, h.1, h.2⟩
theorem vw_X11_bit : zVw 10 yX11_bit := ⟨tw_1564, tw_1565, _, _, rfl⟩
theorem bn_X11_flips (rm : Room) (h : rm.cells = 0 ∧ rm.slots = 0) : zBn yX11_flips cX11_flips 6 (some .int) rm 2 := ⟨tw_1570, tw_11, ⟨by decide +kernel, by decide +kernel, by decide +kernel⟩, h.1, h.2⟩
theorem vw_X11_flips : zVw 10 yX11_flips := ⟨tw_1568, tw_1569, _, _, rfl⟩
theorem bn_X11_common (rm : Room) (h : rm.cells = 0 ∧ rm.slots = 0) : zBn yX11_common cX11_common 2 (some .int) rm 2 := ⟨tw_1577, tw_11, ⟨by decide +kernel, by decide +kernel, by decide +kernel⟩, h.1, h.2⟩
theorem bn_X11_odds (rm : Room) (h : rm.cells = 0 ∧ rm.slots = 0) : zBn yX11_odds cX11_odds 9 (some .int) rm 3 := ⟨tw_1574, tw_11, ⟨by decide +kernel, by decide +kernel, by decide +kernel⟩, h.1, h.2⟩
theorem vw_X11_odds : zVw 10 yX11_odds := ⟨tw_1572, tw_1573, _, _, rfl⟩
theorem bn_X11_block (rm : Room) (h : rm.cells = 0 ∧ rm.slots = 0) : zBn yX11_block cX11_block 4 (some .int) rm 2 := ⟨tw_1581, tw_11, ⟨by decide +kernel, by decide +kernel, by decide +kernel⟩, h.1, h.2⟩
theorem vw_X11_block : zVw 10 yX11_block := ⟨tw_1579, tw_1580, _, _, rfl⟩
theorem bn_X11_drawn (rm : Room) (h : rm.cells = 0 ∧ rm.slots = 0) : zBn yX11_drawn cX11_drawn 5 (some .int) rm 2 := ⟨tw_1594, tw_11, ⟨by decide +kernel, by decide +kernel, by decide +kernel⟩, h.1, h.2⟩
theorem vw_X11_drawn : zVw 10 yX11_drawn := ⟨tw_1593, twp_83, _, _, rfl⟩
theorem bn_X11_readsAll (rm : Room) (h : rm.cells = 0 ∧ rm.slots = 0) : zBn yX11_readsAll cX11_readsAll 10 none rm 1 := ⟨tw_1590, tw_11, ⟨by decide +kernel, by decide +kernel, by decide +kernel⟩, h.1, h.2⟩
theorem vw_X11_readsAll : zVw 10 yX11_readsAll := ⟨tw_1589, twp_82, _, _, rfl⟩
theorem bn_X11_isRefused (rm : Room) (h : rm.cells = 0 ∧ rm.slots = 0) : zBn yX11_isRefused cX11_isRefused 1 (some .boolean) rm 0 := ⟨tw_1603, tw_11, ⟨by decide +kernel, by decide +kernel, by decide +kernel⟩, h.1, h.2⟩
theorem vw_X11_isRefused : zVw 10 yX11_isRefused := ⟨tw_1602, twp_85, _, _, rfl⟩
theorem bn_X11_recover (rm : Room) (h : rm.cells = 0 ∧ rm.slots = 0) : zBn yX11_recover cX11_recover 4 (some .int) rm 3 := ⟨tw_1585, tw_11, ⟨by decide +kernel, by decide +kernel, by decide +kernel⟩, h.1, h.2⟩
theorem vw_X11_recover : zVw 10 yX11_recover := ⟨tw_1583, tw_1584, _, _, rfl⟩
theorem bn_X11_fails (rm : Room) (h : rm.cells = 0 ∧ rm.slots = 0) : zBn yX11_fails cX11_fails 9 (some .int) rm 4 := ⟨tw_1607, tw_11, ⟨by decide +kernel, by decide +kernel, by decide +kernel⟩, h.1, h.2⟩
theorem vw_X11_fails : zVw 10 yX11_fails := ⟨tw_1605, tw_1606, _, _, rfl⟩
theorem bn_X11_isShaky (rm : Room) (h : rm.cells = 0 ∧ rm.slots = 0) : zBn yX11_isShaky cX11_isShaky 7 (some .boolean) rm 2 := ⟨tw_1628, tw_11, ⟨by decide +kernel, by decide +kernel, by decide +kernel⟩, h.1, h.2⟩
theorem vw_X11_isShaky : zVw 10 yX11_isShaky := ⟨tw_1627, twp_89, _, _, rfl⟩
theorem bn_X11_isSafe (rm : Room) (h : rm.cells = 0 ∧ rm.slots = 0) : zBn yX11_isSafe cX11_isSafe 6 (some .boolean) rm 2 := ⟨tw_1624, tw_11, ⟨by decide +kernel, by decide +kernel, by decide +kernel⟩, h.1, h.2⟩
theorem vw_X11_isSafe : zVw 10 yX11_isSafe := ⟨tw_1623, twp_88, _, _, rfl⟩
theorem bn_X11_keptBlocks (rm : Room) (h : rm.cells = 0 ∧ rm.slots = 0) : zBn yX11_keptBlocks cX11_keptBlocks 1 (some .int) rm 0 := ⟨tw_1620, tw_11, ⟨by decide +kernel, by decide +kernel, by decide +kernel⟩, h.1, h.2⟩
theorem vw_X11_keptBlocks : zVw 10 yX11_keptBlocks := ⟨tw_1619, twp_87, _, _, rfl⟩
theorem bn_X11_firstUnsafe (rm : Room) (h : rm.cells = 0 ∧ rm.slots = 0) : zBn yX11_firstUnsafe cX11_firstUnsafe 3 (some .int) rm 1 := ⟨tw_1616, tw_11, ⟨by decide +kernel, by decide +kernel, by decide +kernel⟩, h.1, h.2⟩
theorem vw_X11_firstUnsafe : zVw 10 yX11_firstUnsafe := ⟨tw_1615, twp_86, _, _, rfl⟩
theorem bn_X11_safe (rm : Room) (h : rm.cells = 0 ∧ rm.slots = 0) : zBn yX11_safe cX11_safe 5 (some .int) rm 2 := ⟨tw_1612, tw_11, ⟨by decide +kernel, by decide +kernel, by decide +kernel⟩, h.1, h.2⟩
theorem vw_X11_safe : zVw 10 yX11_safe := ⟨tw_1610, tw_1611, _, _, rfl⟩
theorem bn_X11_range (rm : Room) (h : rm.cells = 0 ∧ rm.slots = 0) : zBn yX11_range cX11_range 4 (some .int) rm 1 := ⟨tw_1632, tw_11, ⟨by decide +kernel, by decide +kernel, by decide +kernel⟩, h.1, h.2⟩
theorem vw_X11_range : zVw 10 yX11_range := ⟨tw_1630, tw_1631, _, _, rfl⟩
theorem bn_X11_guardFor (rm : Room) (h : rm.cells = 0 ∧ rm.slots = 0) : zBn yX11_guardFor cX11_guardFor 3 (some .int) rm 1 := ⟨tw_1636, tw_11, ⟨by decide +kernel, by decide +kernel, by decide +kernel⟩, h.1, h.2⟩
theorem vw_X11_guardFor : zVw 10 yX11_guardFor := ⟨tw_1634, tw_1635, _, _, rfl⟩
theorem bn_X11_noOrder (rm : Room) (h : rm.cells = 0 ∧ rm.slots = 0) : zBn yX11_noOrder cX11_noOrder 2 none rm 0 := ⟨tw_1546, tw_11, ⟨by decide +kernel, by decide +kernel, by decide +kernel⟩, h.1, h.2⟩
theorem vw_X11_noOrder : zVw 10 yX11_noOrder := ⟨tw_1545, twp_77, _, _, rfl⟩
theorem bn_X11_puts_ (rm : Room) (h : rm.cells = 0 ∧ rm.slots = 0) : zBn yX11_puts_ cX11_puts_ 5 none rm 2 := ⟨tw_1554, tw_11, ⟨by decide +kernel, by decide +kernel, by decide +kernel⟩, h.1, h.2⟩
theorem vw_X11_puts_ : zVw 10 yX11_puts_ := ⟨tw_1553, twp_79, _, _, rfl⟩
theorem bn_X11_closes (rm : Room) (h : rm.cells = 0 ∧ rm.slots = 0) : zBn yX11_closes cX11_closes 3 none rm 0 := ⟨tw_1558, tw_11, ⟨by decide +kernel, by decide +kernel, by decide +kernel⟩, h.1, h.2⟩
theorem vw_X11_closes : zVw 10 yX11_closes := ⟨tw_1557, twp_80, _, _, rfl⟩
theorem bn_X11_isRound (rm : Room) (h : rm.cells = 0 ∧ rm.slots = 0) : zBn yX11_isRound cX11_isRound 2 (some .boolean) rm 0 := ⟨tw_1683, tw_11, ⟨by decide +kernel, by decide +kernel, by decide +kernel⟩, h.1, h.2⟩
theorem vw_X11_isRound : zVw 10 yX11_isRound := ⟨tw_1682, twp_98, _, _, rfl⟩
theorem bn_X11_putsHeard (rm : Room) (h : rm.cells = 0 ∧ rm.slots = 0) : zBn yX11_putsHeard cX11_putsHeard 2 none rm 0 := ⟨tw_1550, tw_11, ⟨by decide +kernel, by decide +kernel, by decide +kernel⟩, h.1, h.2⟩
theorem vw_X11_putsHeard : zVw 10 yX11_putsHeard := ⟨tw_1549, twp_78, _, _, rfl⟩
theorem bn_X11_follows (rm : Room) (h : rm.cells = 0 ∧ rm.slots = 0) : zBn yX11_follows cX11_follows 4 (some .int) rm 1 := ⟨tw_1562, tw_11, ⟨by decide +kernel, by decide +kernel, by decide +kernel⟩, h.1, h.2⟩
theorem vw_X11_follows : zVw 10 yX11_follows := ⟨tw_1561, twp_81, _, _, rfl⟩
theorem bn_X11_laysHeard (rm : Room) (h : rm.cells = 0 ∧ rm.slots = 0) : zBn yX11_laysHeard cX11_laysHeard 1 none rm 0 := ⟨tw_1542, tw_11, ⟨by decide +kernel, by decide +kernel, by decide +kernel⟩, h.1, h.2⟩
theorem vw_X11_laysHeard : zVw 10 yX11_laysHeard := ⟨tw_1541, twp_76, _, _, rfl⟩
theorem bn_X11_followsNow (rm : Room) (h : rm.cells = 0 ∧ rm.slots = 0) : zBn yX11_followsNow cX11_followsNow 2 (some .int) rm 1 := ⟨tw_1538, tw_11, ⟨by decide +kernel, by decide +kernel, by decide +kernel⟩, h.1, h.2⟩
theorem vw_X11_followsNow : zVw 10 yX11_followsNow := ⟨tw_1537, twp_75, _, _, rfl⟩
theorem bn_X11_followMany (rm : Room) (h : rm.cells = 0 ∧ rm.slots = 0) : zBn yX11_followMany cX11_followMany 3 (some .int) rm 0 := ⟨tw_1707, tw_11, ⟨by decide +kernel, by decide +kernel, by decide +kernel⟩, h.1, h.2⟩
theorem vw_X11_followMany : zVw 10 yX11_followMany := ⟨tw_1706, twp_101, _, _, rfl⟩
theorem bn_X11_waysOf (rm : Room) (h : rm.cells = 0 ∧ rm.slots = 0) : zBn yX11_waysOf cX11_waysOf 5 (some .long) rm 0 := ⟨tw_1652, tw_11, ⟨by decide +kernel, by decide +kernel, by decide +kernel⟩, h.1, h.2⟩
theorem vw_X11_waysOf : zVw 10 yX11_waysOf := ⟨tw_1651, twp_92, _, _, rfl⟩
theorem bn_X11_isApart (rm : Room) (h : rm.cells = 0 ∧ rm.slots = 0) : zBn yX11_isApart cX11_isApart 3 (some .boolean) rm 1 := ⟨tw_1656, tw_11, ⟨by decide +kernel, by decide +kernel, by decide +kernel⟩, h.1, h.2⟩
theorem vw_X11_isApart : zVw 10 yX11_isApart := ⟨tw_1655, twp_93, _, _, rfl⟩
theorem bn_X11_many (rm : Room) (h : rm.cells = 0 ∧ rm.slots = 0) : zBn yX11_many cX11_many 3 (some .int) rm 1 := ⟨tw_1659, tw_11, ⟨by decide +kernel, by decide +kernel, by decide +kernel⟩, h.1, h.2⟩
theorem bn_X11_compares (rm : Room) (h : rm.cells = 0 ∧ rm.slots = 0) : zBn yX11_compares cX11_compares 2 none rm 1 := ⟨tw_1648, tw_11, ⟨by decide +kernel, by decide +kernel, by decide +kernel⟩, h.1, h.2⟩
theorem vw_X11_compares : zVw 10 yX11_compares := ⟨tw_1647, twp_91, _, _, rfl⟩
theorem bn_X11_waysBy (rm : Room) (h : rm.cells = 0 ∧ rm.slots = 0) : zBn yX11_waysBy cX11_waysBy 4 (some .long) rm 1 := ⟨tw_1644, tw_11, ⟨by decide +kernel, by decide +kernel, by decide +kernel⟩, h.1, h.2⟩
theorem vw_X11_waysBy : zVw 10 yX11_waysBy := ⟨tw_1643, twp_90, _, _, rfl⟩
theorem bn_X11_ways (rm : Room) (h : rm.cells = 0 ∧ rm.slots = 0) : zBn yX11_ways cX11_ways 2 (some .long) rm 1 := ⟨tw_1640, tw_11, ⟨by decide +kernel, by decide +kernel, by decide +kernel⟩, h.1, h.2⟩
theorem vw_X11_ways : zVw 10 yX11_ways := ⟨tw_1638, tw_1639, _, _, rfl⟩
theorem bn_X11_sure (rm : Room) (h : rm.cells = 0 ∧ rm.slots = 0) : zBn yX11_sure cX11_sure 4 (some .int) rm 0 := ⟨tw_1667, tw_11, ⟨by decide +kernel, by decide +kernel, by decide +kernel⟩, h.1, h.2⟩
theorem vw_X11_sure : zVw 10 yX11_sure := ⟨tw_1666, twp_94, _, _, rfl⟩
theorem bn_X11_leaks (rm : Room) (h : rm.cells = 0 ∧ rm.slots = 0) : zBn yX11_leaks cX11_leaks 1 (some .int) rm 0 := ⟨tw_1671, tw_11, ⟨by decide +kernel, by decide +kernel, by decide +kernel⟩, h.1, h.2⟩
theorem vw_X11_leaks : zVw 10 yX11_leaks := ⟨tw_1670, twp_95, _, _, rfl⟩
theorem bn_X11_canBe (rm : Room) (h : rm.cells = 0 ∧ rm.slots = 0) : zBn yX11_canBe cX11_canBe 7 (some .boolean) rm 2 := ⟨tw_1679, tw_11, ⟨by decide +kernel, by decide +kernel, by decide +kernel⟩, h.1, h.2⟩
theorem vw_X11_canBe : zVw 10 yX11_canBe := ⟨tw_1678, twp_97, _, _, rfl⟩
theorem bn_X11_left (rm : Room) (h : rm.cells = 0 ∧ rm.slots = 0) : zBn yX11_left cX11_left 5 (some .int) rm 1 := ⟨tw_1675, tw_11, ⟨by decide +kernel, by decide +kernel, by decide +kernel⟩, h.1, h.2⟩
theorem vw_X11_left : zVw 10 yX11_left := ⟨tw_1674, twp_96, _, _, rfl⟩
theorem bn_X11_leak (rm : Room) (h : rm.cells = 0 ∧ rm.slots = 0) : zBn yX11_leak cX11_leak 2 (some .int) rm 1 := ⟨tw_1663, tw_11, ⟨by decide +kernel, by decide +kernel, by decide +kernel⟩, h.1, h.2⟩
theorem vw_X11_leak : zVw 10 yX11_leak := ⟨tw_1661, tw_1662, _, _, rfl⟩
theorem bn_X11_success (rm : Room) (h : rm.cells = 0 ∧ rm.slots = 0) : zBn yX11_success cX11_success 6 (some .int) rm 1 := ⟨tw_1687, tw_11, ⟨by decide +kernel, by decide +kernel, by decide +kernel⟩, h.1, h.2⟩
theorem vw_X11_success : zVw 10 yX11_success := ⟨tw_1685, tw_1686, _, _, rfl⟩
theorem bn_X11_curve (rm : Room) (h : rm.cells = 0 ∧ rm.slots = 0) : zBn yX11_curve cX11_curve 7 (some .int) rm 2 := ⟨tw_1691, tw_11, ⟨by decide +kernel, by decide +kernel, by decide +kernel⟩, h.1, h.2⟩
theorem vw_X11_curve : zVw 10 yX11_curve := ⟨tw_1689, tw_1690, _, _, rfl⟩
theorem bn_X11_wouldFollow (rm : Room) (h : rm.cells = 0 ∧ rm.slots = 0) : zBn yX11_wouldFollow cX11_wouldFollow 3 (some .int) rm 2 := ⟨tw_1703, tw_11, ⟨by decide +kernel, by decide +kernel, by decide +kernel⟩, h.1, h.2⟩
theorem vw_X11_wouldFollow : zVw 10 yX11_wouldFollow := ⟨tw_1702, twp_100, _, _, rfl⟩
theorem bn_X11_nextNow (rm : Room) (h : rm.cells = 0 ∧ rm.slots = 0) : zBn yX11_nextNow cX11_nextNow 5 (some .int) rm 0 := ⟨tw_1699, tw_11, ⟨by decide +kernel, by decide +kernel, by decide +kernel⟩, h.1, h.2⟩
theorem vw_X11_nextNow : zVw 10 yX11_nextNow := ⟨tw_1698, twp_99, _, _, rfl⟩
theorem bn_X11_nextPair (rm : Room) (h : rm.cells = 0 ∧ rm.slots = 0) : zBn yX11_nextPair cX11_nextPair 1 (some .int) rm 0 := ⟨tw_1695, tw_11, ⟨by decide +kernel, by decide +kernel, by decide +kernel⟩, h.1, h.2⟩
theorem vw_X11_nextPair : zVw 10 yX11_nextPair := ⟨tw_1693, tw_1694, _, _, rfl⟩
theorem bn_X11_needs (rm : Room) (h : rm.cells = 0 ∧ rm.slots = 0) : zBn yX11_needs cX11_needs 4 (some .int) rm 0 := ⟨tw_1711, tw_11, ⟨by decide +kernel, by decide +kernel, by decide +kernel⟩, h.1, h.2⟩
theorem vw_X11_needs : zVw 10 yX11_needs := ⟨tw_1709, tw_1710, _, _, rfl⟩
theorem bn_X11_print (rm : Room) (h : rm.cells = 0 ∧ rm.slots = 0) : zBn yX11_print cX11_print 4 (some .long) rm 0 := ⟨tw_1715, tw_11, ⟨by decide +kernel, by decide +kernel, by decide +kernel⟩, h.1, h.2⟩
theorem vw_X11_print : zVw 10 yX11_print := ⟨tw_1713, tw_1714, _, _, rfl⟩
theorem bn_X11_status (rm : Room) (h : rm.cells = 0 ∧ rm.slots = 0) : zBn yX11_status cX11_status 2 (some .int) rm 1 := ⟨tw_1720, tw_11, ⟨by decide +kernel, by decide +kernel, by decide +kernel⟩, h.1, h.2⟩
theorem vw_X11_status : zVw 10 yX11_status := ⟨tw_1718, tw_1719, _, _, rfl⟩
theorem bn_J6_bitCount_0f7a4 (rm : Room) (h : rm.cells = 0 ∧ rm.slots = 0) : zBn yJ6_bitCount_0f7a4 cJ6_bitCount_0f7a4 1 (some .int) rm 1 := ⟨tw_768, tw_24, ⟨by decide +kernel, by decide +kernel, by decide +kernel⟩, h.1, h.2⟩
theorem bn_J0_length_8abf5 (rm : Room) (h : rm.cells = 0 ∧ rm.slots = 0) : zBn yJ0_length_8abf5 cJ0_length_8abf5 1 (some .int) rm 0 := ⟨tw_558, tw_17, ⟨by decide +kernel, by decide +kernel, by decide +kernel⟩, h.1, h.2⟩
theorem vw_J0_length_8abf5 : Cond.instanceMethod yJ0_length_8abf5 ∈ zTW ∧ Cond.selects yJ0_length_8abf5.cls yJ0_length_8abf5 yJ0_length_8abf5 ∈ zTW := ⟨tw_556, tw_557⟩
theorem bn_J0_charAt_5068e (rm : Room) (h : rm.cells = 0 ∧ rm.slots = 0) : zBn yJ0_charAt_5068e cJ0_charAt_5068e 2 (some .char) rm 1 := ⟨tw_568, tw_17, ⟨by decide +kernel, by decide +kernel, by decide +kernel⟩, h.1, h.2⟩
theorem vw_J0_charAt_5068e : Cond.instanceMethod yJ0_charAt_5068e ∈ zTW ∧ Cond.selects yJ0_charAt_5068e.cls yJ0_charAt_5068e yJ0_charAt_5068e ∈ zTW := ⟨tw_566, tw_567⟩
theorem bn_J0_coder_7d493 (rm : Room) (h : rm.cells = 0 ∧ rm.slots = 0) : zBn yJ0_coder_7d493 cJ0_coder_7d493 1 (some .byte) rm 0 := ⟨tw_562, tw_17, ⟨by decide +kernel, by decide +kernel, by decide +kernel⟩, h.1, h.2⟩
theorem vw_J0_coder_7d493 : Cond.instanceMethod yJ0_coder_7d493 ∈ zTW ∧ Cond.selects yJ0_coder_7d493.cls yJ0_coder_7d493 yJ0_coder_7d493 ∈ zTW := ⟨tw_560, tw_561⟩
theorem bn_J0_isLatin1_aae02 (rm : Room) (h : rm.cells = 0 ∧ rm.slots = 0) : zBn yJ0_isLatin1_aae02 cJ0_isLatin1_aae02 1 (some .boolean) rm 0 := ⟨tw_572, tw_17, ⟨by decide +kernel, by decide +kernel, by decide +kernel⟩, h.1, h.2⟩
theorem vw_J0_isLatin1_aae02 : Cond.instanceMethod yJ0_isLatin1_aae02 ∈ zTW ∧ Cond.selects yJ0_isLatin1_aae02.cls yJ0_isLatin1_aae02 yJ0_isLatin1_aae02 ∈ zTW := ⟨tw_570, tw_571⟩
theorem bn_J0_checkIndex_df160 (rm : Room) (h : rm.cells = 0 ∧ rm.slots = 0) : zBn yJ0_checkIndex_df160 cJ0_checkIndex_df160 2 none rm 2 := ⟨tw_578, tw_17, ⟨by decide +kernel, by decide +kernel, by decide +kernel⟩, h.1, h.2⟩
theorem bn_J1_charAt_3b067 (rm : Room) (h : rm.cells = 0 ∧ rm.slots = 0) : zBn yJ1_charAt_3b067 cJ1_charAt_3b067 2 (some .char) rm 2 := ⟨tw_575, tw_18, ⟨by decide +kernel, by decide +kernel, by decide +kernel⟩, h.1, h.2⟩
theorem bn_J3_checkIndex_8e157 (rm : Room) (h : rm.cells = 0 ∧ rm.slots = 0) : zBn yJ3_checkIndex_8e157 cJ3_checkIndex_8e157 3 (some .int) rm 3 := ⟨tw_583, tw_19, ⟨by decide +kernel, by decide +kernel, by decide +kernel⟩, h.1, h.2⟩
theorem zwm : zwM := ⟨zmem 16 (by decide +kernel) rfl, zmem 776 (by decide +kernel) rfl, zmem 777 (by decide +kernel) rfl, zmem 407 (by decide +kernel) rfl, zmem 408 (by decide +kernel) rfl⟩
theorem zwc : Cond.native arraycopyName ∈ zTW ∧ Cond.static arraycopyName ∈ zTW ∧ Cond.initialized "java/lang/System" ∈ zTW := ⟨zmem 404 (by decide +kernel) rfl, zmem 403 (by decide +kernel) rfl, zmem 22 (by decide +kernel) rfl⟩
theorem wn_RX3_34 : (RX3, 34, yX10_bitIn, "SlipSecret") ∈ zNest := List.mem_of_getElem? (i := 9) (by decide +kernel)
theorem wn_RX4_21 : (RX4, 21, yX10_bitIn, "SlipSecret") ∈ zNest := List.mem_of_getElem? (i := 10) (by decide +kernel)
theorem wn_RX0_30 : (RX0, 30, yX10_bitIn, "SlipSecret") ∈ zNest := List.mem_of_getElem? (i := 11) (by decide +kernel)
theorem wn_RX1_67 : (RX1, 67, yX10_bitIn, "SlipSecret") ∈ zNest := List.mem_of_getElem? (i := 12) (by decide +kernel)
theorem wn_RX6_86 : (RX6, 86, yX10_bitIn, "SlipSecret") ∈ zNest := List.mem_of_getElem? (i := 13) (by decide +kernel)
theorem wn_RX9_39 : (RX9, 39, yX10_bitIn, "SlipSecret") ∈ zNest := List.mem_of_getElem? (i := 14) (by decide +kernel)
theorem wn_RX2_78 : (RX2, 78, yX10_bitIn, "SlipSecret") ∈ zNest := List.mem_of_getElem? (i := 15) (by decide +kernel)
theorem ws_RX10_362 : (RX10, 362, zStr[0].2.2.1, zStr[0].2.2.2) ∈ zStr := List.mem_of_getElem? (i := 0) (by decide +kernel)
theorem ws_RX8_56 : (RX8, 56, zStr[1].2.2.1, zStr[1].2.2.2) ∈ zStr := List.mem_of_getElem? (i := 1) (by decide +kernel)
theorem ws_RX8_66 : (RX8, 66, zStr[2].2.2.1, zStr[2].2.2.2) ∈ zStr := List.mem_of_getElem? (i := 2) (by decide +kernel)
theorem ws_RX8_71 : (RX8, 71, zStr[3].2.2.1, zStr[3].2.2.2) ∈ zStr := List.mem_of_getElem? (i := 3) (by decide +kernel)
theorem ws_RX8_79 : (RX8, 79, zStr[4].2.2.1, zStr[4].2.2.2) ∈ zStr := List.mem_of_getElem? (i := 4) (by decide +kernel)
theorem ws_RX8_84 : (RX8, 84, zStr[5].2.2.1, zStr[5].2.2.2) ∈ zStr := List.mem_of_getElem? (i := 5) (by decide +kernel)
theorem ws_RX8_86 : (RX8, 86, zStr[6].2.2.1, zStr[6].2.2.2) ∈ zStr := List.mem_of_getElem? (i := 6) (by decide +kernel)
theorem ws_RX8_91 : (RX8, 91, zStr[7].2.2.1, zStr[7].2.2.2) ∈ zStr := List.mem_of_getElem? (i := 7) (by decide +kernel)
theorem ws_RX10_374 : (RX10, 374, zStr[8].2.2.1, zStr[8].2.2.2) ∈ zStr := List.mem_of_getElem? (i := 8) (by decide +kernel)
theorem ws_RX10_369 : (RX10, 369, zStr[9].2.2.1, zStr[9].2.2.2) ∈ zStr := List.mem_of_getElem? (i := 9) (by decide +kernel)
theorem ws_RX11_187 : (RX11, 187, zStr[10].2.2.1, zStr[10].2.2.2) ∈ zStr := List.mem_of_getElem? (i := 10) (by decide +kernel)
theorem ws_RX11_196 : (RX11, 196, zStr[11].2.2.1, zStr[11].2.2.2) ∈ zStr := List.mem_of_getElem? (i := 11) (by decide +kernel)
theorem ws_RX11_201 : (RX11, 201, zStr[12].2.2.1, zStr[12].2.2.2) ∈ zStr := List.mem_of_getElem? (i := 12) (by decide +kernel)
theorem ws_RX11_203 : (RX11, 203, zStr[13].2.2.1, zStr[13].2.2.2) ∈ zStr := List.mem_of_getElem? (i := 13) (by decide +kernel)
theorem ws_RX11_208 : (RX11, 208, zStr[14].2.2.1, zStr[14].2.2.2) ∈ zStr := List.mem_of_getElem? (i := 14) (by decide +kernel)
theorem ws_RX11_210 : (RX11, 210, zStr[15].2.2.1, zStr[15].2.2.2) ∈ zStr := List.mem_of_getElem? (i := 15) (by decide +kernel)
theorem ws_RX11_215 : (RX11, 215, zStr[16].2.2.1, zStr[16].2.2.2) ∈ zStr := List.mem_of_getElem? (i := 16) (by decide +kernel)
