section
-- ===== PART A: goes FIRST, ahead of the names: the tables' words, and 'selects' of the private methods out of them =====
/-- a private method of a class that the tables say can be made, by its rows of tables_1 -/
def lw_okq (q : MethodName × Nat) : Prop := (q.1.cls ≠ "java/lang/invoke/MethodHandle" ∧ q.1.cls ≠ "java/lang/invoke/VarHandle") ∧ Cond.instantiable q.1.cls q.2 ∈ tables_1 ∧ Cond.privateMethod q.1 ∈ tables_1 ∧ Cond.instanceMethod q.1 ∈ tables_1
theorem lw_p0 : lw_okq (⟨"SlipSecret", "nextFor", "(LSlipSecret$Listener;)I"⟩, 15) := ⟨⟨by decide +kernel, by decide +kernel⟩, List.mem_of_getElem? (i := 27) (by decide +kernel), List.mem_of_getElem? (i := 354) (by decide +kernel), List.mem_of_getElem? (i := 355) (by decide +kernel)⟩
theorem lw_p1 : lw_okq (⟨"SlipSecret", "followersIf", "(II)I"⟩, 15) := ⟨⟨by decide +kernel, by decide +kernel⟩, List.mem_of_getElem? (i := 27) (by decide +kernel), List.mem_of_getElem? (i := 395) (by decide +kernel), List.mem_of_getElem? (i := 396) (by decide +kernel)⟩
theorem lw_p2 : lw_okq (⟨"SlipSecret", "needBetween", "(III)V"⟩, 15) := ⟨⟨by decide +kernel, by decide +kernel⟩, List.mem_of_getElem? (i := 27) (by decide +kernel), List.mem_of_getElem? (i := 458) (by decide +kernel), List.mem_of_getElem? (i := 459) (by decide +kernel)⟩
theorem lw_p3 : lw_okq (⟨"SlipSecret", "refuseArgument", "()V"⟩, 15) := ⟨⟨by decide +kernel, by decide +kernel⟩, List.mem_of_getElem? (i := 27) (by decide +kernel), List.mem_of_getElem? (i := 462) (by decide +kernel), List.mem_of_getElem? (i := 463) (by decide +kernel)⟩
theorem lw_p4 : lw_okq (⟨"java/lang/Throwable", "fillInStackTrace", "(I)Ljava/lang/Throwable;"⟩, 6) := ⟨⟨by decide +kernel, by decide +kernel⟩, List.mem_of_getElem? (i := 504) (by decide +kernel), List.mem_of_getElem? (i := 502) (by decide +kernel), List.mem_of_getElem? (i := 503) (by decide +kernel)⟩
theorem lw_p5 : lw_okq (⟨"SlipSecret$TextReader", "skipBlanks", "()V"⟩, 8) := ⟨⟨by decide +kernel, by decide +kernel⟩, List.mem_of_getElem? (i := 187) (by decide +kernel), List.mem_of_getElem? (i := 543) (by decide +kernel), List.mem_of_getElem? (i := 544) (by decide +kernel)⟩
theorem lw_p6 : lw_okq (⟨"SlipSecret$TextReader", "readLine", "()V"⟩, 8) := ⟨⟨by decide +kernel, by decide +kernel⟩, List.mem_of_getElem? (i := 187) (by decide +kernel), List.mem_of_getElem? (i := 547) (by decide +kernel), List.mem_of_getElem? (i := 548) (by decide +kernel)⟩
theorem lw_p7 : lw_okq (⟨"SlipSecret$TextReader", "isWord", "(ILjava/lang/String;)Z"⟩, 8) := ⟨⟨by decide +kernel, by decide +kernel⟩, List.mem_of_getElem? (i := 187) (by decide +kernel), List.mem_of_getElem? (i := 552) (by decide +kernel), List.mem_of_getElem? (i := 553) (by decide +kernel)⟩
theorem lw_p8 : lw_okq (⟨"SlipSecret$TextReader", "readRing", "(I)V"⟩, 8) := ⟨⟨by decide +kernel, by decide +kernel⟩, List.mem_of_getElem? (i := 187) (by decide +kernel), List.mem_of_getElem? (i := 604) (by decide +kernel), List.mem_of_getElem? (i := 605) (by decide +kernel)⟩
theorem lw_p9 : lw_okq (⟨"SlipSecret$TextReader", "fail", "(II)V"⟩, 8) := ⟨⟨by decide +kernel, by decide +kernel⟩, List.mem_of_getElem? (i := 187) (by decide +kernel), List.mem_of_getElem? (i := 608) (by decide +kernel), List.mem_of_getElem? (i := 609) (by decide +kernel)⟩
theorem lw_p10 : lw_okq (⟨"SlipSecret$TextReader", "readNumber", "(II)I"⟩, 8) := ⟨⟨by decide +kernel, by decide +kernel⟩, List.mem_of_getElem? (i := 187) (by decide +kernel), List.mem_of_getElem? (i := 612) (by decide +kernel), List.mem_of_getElem? (i := 613) (by decide +kernel)⟩
theorem lw_p11 : lw_okq (⟨"SlipSecret$TextReader", "readDigits", "()I"⟩, 8) := ⟨⟨by decide +kernel, by decide +kernel⟩, List.mem_of_getElem? (i := 187) (by decide +kernel), List.mem_of_getElem? (i := 616) (by decide +kernel), List.mem_of_getElem? (i := 617) (by decide +kernel)⟩
theorem lw_p12 : lw_okq (⟨"SlipSecret$TextReader", "needNumber", "(III)V"⟩, 8) := ⟨⟨by decide +kernel, by decide +kernel⟩, List.mem_of_getElem? (i := 187) (by decide +kernel), List.mem_of_getElem? (i := 621) (by decide +kernel), List.mem_of_getElem? (i := 622) (by decide +kernel)⟩
theorem lw_p13 : lw_okq (⟨"SlipSecret$TextReader", "readSigned", "(II)I"⟩, 8) := ⟨⟨by decide +kernel, by decide +kernel⟩, List.mem_of_getElem? (i := 187) (by decide +kernel), List.mem_of_getElem? (i := 625) (by decide +kernel), List.mem_of_getElem? (i := 626) (by decide +kernel)⟩
theorem lw_p14 : lw_okq (⟨"SlipSecret$TextReader", "readPair", "(I)V"⟩, 8) := ⟨⟨by decide +kernel, by decide +kernel⟩, List.mem_of_getElem? (i := 187) (by decide +kernel), List.mem_of_getElem? (i := 634) (by decide +kernel), List.mem_of_getElem? (i := 635) (by decide +kernel)⟩
theorem lw_p15 : lw_okq (⟨"SlipSecret$TextReader", "readRepeat", "()V"⟩, 8) := ⟨⟨by decide +kernel, by decide +kernel⟩, List.mem_of_getElem? (i := 187) (by decide +kernel), List.mem_of_getElem? (i := 650) (by decide +kernel), List.mem_of_getElem? (i := 651) (by decide +kernel)⟩
def lw_privs_1 : List (MethodName × Nat) := [(⟨"SlipSecret", "nextFor", "(LSlipSecret$Listener;)I"⟩, 15), (⟨"SlipSecret", "followersIf", "(II)I"⟩, 15), (⟨"SlipSecret", "needBetween", "(III)V"⟩, 15), (⟨"SlipSecret", "refuseArgument", "()V"⟩, 15), (⟨"java/lang/Throwable", "fillInStackTrace", "(I)Ljava/lang/Throwable;"⟩, 6), (⟨"SlipSecret$TextReader", "skipBlanks", "()V"⟩, 8), (⟨"SlipSecret$TextReader", "readLine", "()V"⟩, 8), (⟨"SlipSecret$TextReader", "isWord", "(ILjava/lang/String;)Z"⟩, 8), (⟨"SlipSecret$TextReader", "readRing", "(I)V"⟩, 8), (⟨"SlipSecret$TextReader", "fail", "(II)V"⟩, 8), (⟨"SlipSecret$TextReader", "readNumber", "(II)I"⟩, 8), (⟨"SlipSecret$TextReader", "readDigits", "()I"⟩, 8), (⟨"SlipSecret$TextReader", "needNumber", "(III)V"⟩, 8), (⟨"SlipSecret$TextReader", "readSigned", "(II)I"⟩, 8), (⟨"SlipSecret$TextReader", "readPair", "(I)V"⟩, 8), (⟨"SlipSecret$TextReader", "readRepeat", "()V"⟩, 8)]
theorem lw_r1 : ∀ q ∈ lw_privs_1, lw_okq q := List.forall_mem_cons.mpr ⟨lw_p0, List.forall_mem_cons.mpr ⟨lw_p1, List.forall_mem_cons.mpr ⟨lw_p2, List.forall_mem_cons.mpr ⟨lw_p3, List.forall_mem_cons.mpr ⟨lw_p4, List.forall_mem_cons.mpr ⟨lw_p5, List.forall_mem_cons.mpr ⟨lw_p6, List.forall_mem_cons.mpr ⟨lw_p7, List.forall_mem_cons.mpr ⟨lw_p8, List.forall_mem_cons.mpr ⟨lw_p9, List.forall_mem_cons.mpr ⟨lw_p10, List.forall_mem_cons.mpr ⟨lw_p11, List.forall_mem_cons.mpr ⟨lw_p12, List.forall_mem_cons.mpr ⟨lw_p13, List.forall_mem_cons.mpr ⟨lw_p14, List.forall_mem_cons.mpr ⟨lw_p15, fun _ h => absurd h List.not_mem_nil⟩⟩⟩⟩⟩⟩⟩⟩⟩⟩⟩⟩⟩⟩⟩⟩
theorem lw_p16 : lw_okq (⟨"SlipSecret$TextReader", "readEndOfLine", "()V"⟩, 8) := ⟨⟨by decide +kernel, by decide +kernel⟩, List.mem_of_getElem? (i := 187) (by decide +kernel), List.mem_of_getElem? (i := 658) (by decide +kernel), List.mem_of_getElem? (i := 659) (by decide +kernel)⟩
theorem lw_p17 : lw_okq (⟨"SlipSecret", "needSetting", "(II)V"⟩, 15) := ⟨⟨by decide +kernel, by decide +kernel⟩, List.mem_of_getElem? (i := 27) (by decide +kernel), List.mem_of_getElem? (i := 682) (by decide +kernel), List.mem_of_getElem? (i := 683) (by decide +kernel)⟩
theorem lw_p18 : lw_okq (⟨"SlipSecret", "remember", "()V"⟩, 15) := ⟨⟨by decide +kernel, by decide +kernel⟩, List.mem_of_getElem? (i := 27) (by decide +kernel), List.mem_of_getElem? (i := 687) (by decide +kernel), List.mem_of_getElem? (i := 688) (by decide +kernel)⟩
theorem lw_p19 : lw_okq (⟨"SlipSecret", "needCounted", "(II)V"⟩, 15) := ⟨⟨by decide +kernel, by decide +kernel⟩, List.mem_of_getElem? (i := 27) (by decide +kernel), List.mem_of_getElem? (i := 710) (by decide +kernel), List.mem_of_getElem? (i := 711) (by decide +kernel)⟩
theorem lw_p20 : lw_okq (⟨"SlipSecret", "refuseMissing", "()V"⟩, 15) := ⟨⟨by decide +kernel, by decide +kernel⟩, List.mem_of_getElem? (i := 27) (by decide +kernel), List.mem_of_getElem? (i := 714) (by decide +kernel), List.mem_of_getElem? (i := 715) (by decide +kernel)⟩
theorem lw_p21 : lw_okq (⟨"SlipSecret", "needTrait", "(II)V"⟩, 15) := ⟨⟨by decide +kernel, by decide +kernel⟩, List.mem_of_getElem? (i := 27) (by decide +kernel), List.mem_of_getElem? (i := 734) (by decide +kernel), List.mem_of_getElem? (i := 735) (by decide +kernel)⟩
theorem lw_p22 : lw_okq (⟨"SlipSecret", "refuseState", "()V"⟩, 15) := ⟨⟨by decide +kernel, by decide +kernel⟩, List.mem_of_getElem? (i := 27) (by decide +kernel), List.mem_of_getElem? (i := 782) (by decide +kernel), List.mem_of_getElem? (i := 783) (by decide +kernel)⟩
theorem lw_p23 : lw_okq (⟨"SlipSecret", "needEnrolled", "()V"⟩, 15) := ⟨⟨by decide +kernel, by decide +kernel⟩, List.mem_of_getElem? (i := 27) (by decide +kernel), List.mem_of_getElem? (i := 860) (by decide +kernel), List.mem_of_getElem? (i := 861) (by decide +kernel)⟩
theorem lw_p24 : lw_okq (⟨"SlipSecret", "toldOfEnrolled", "(I)I"⟩, 15) := ⟨⟨by decide +kernel, by decide +kernel⟩, List.mem_of_getElem? (i := 27) (by decide +kernel), List.mem_of_getElem? (i := 878) (by decide +kernel), List.mem_of_getElem? (i := 879) (by decide +kernel)⟩
theorem lw_p25 : lw_okq (⟨"SlipSecret", "needHeat", "(I)V"⟩, 15) := ⟨⟨by decide +kernel, by decide +kernel⟩, List.mem_of_getElem? (i := 27) (by decide +kernel), List.mem_of_getElem? (i := 901) (by decide +kernel), List.mem_of_getElem? (i := 902) (by decide +kernel)⟩
theorem lw_p26 : lw_okq (⟨"SlipSecret$Reading", "noisySpeed", "(LSlipSecret$Slip;II)I"⟩, 4) := ⟨⟨by decide +kernel, by decide +kernel⟩, List.mem_of_getElem? (i := 223) (by decide +kernel), List.mem_of_getElem? (i := 999) (by decide +kernel), List.mem_of_getElem? (i := 1000) (by decide +kernel)⟩
theorem lw_p27 : lw_okq (⟨"SlipSecret", "isSafeAt", "(I)Z"⟩, 15) := ⟨⟨by decide +kernel, by decide +kernel⟩, List.mem_of_getElem? (i := 27) (by decide +kernel), List.mem_of_getElem? (i := 1067) (by decide +kernel), List.mem_of_getElem? (i := 1068) (by decide +kernel)⟩
theorem lw_p28 : lw_okq (⟨"SlipSecret", "marginsFrom", "(I)I"⟩, 15) := ⟨⟨by decide +kernel, by decide +kernel⟩, List.mem_of_getElem? (i := 27) (by decide +kernel), List.mem_of_getElem? (i := 1078) (by decide +kernel), List.mem_of_getElem? (i := 1079) (by decide +kernel)⟩
theorem lw_p29 : lw_okq (⟨"SlipSecret$WaysCounter", "link", "(LSlipSecret$Slip;I)V"⟩, 3) := ⟨⟨by decide +kernel, by decide +kernel⟩, List.mem_of_getElem? (i := 258) (by decide +kernel), List.mem_of_getElem? (i := 1097) (by decide +kernel), List.mem_of_getElem? (i := 1098) (by decide +kernel)⟩
theorem lw_p30 : lw_okq (⟨"SlipSecret$WaysCounter", "countOf", "(I)J"⟩, 3) := ⟨⟨by decide +kernel, by decide +kernel⟩, List.mem_of_getElem? (i := 258) (by decide +kernel), List.mem_of_getElem? (i := 1102) (by decide +kernel), List.mem_of_getElem? (i := 1103) (by decide +kernel)⟩
theorem lw_p31 : lw_okq (⟨"SlipSecret", "sureOfEnrolled", "()I"⟩, 15) := ⟨⟨by decide +kernel, by decide +kernel⟩, List.mem_of_getElem? (i := 27) (by decide +kernel), List.mem_of_getElem? (i := 1114) (by decide +kernel), List.mem_of_getElem? (i := 1115) (by decide +kernel)⟩
def lw_privs_2 : List (MethodName × Nat) := [(⟨"SlipSecret$TextReader", "readEndOfLine", "()V"⟩, 8), (⟨"SlipSecret", "needSetting", "(II)V"⟩, 15), (⟨"SlipSecret", "remember", "()V"⟩, 15), (⟨"SlipSecret", "needCounted", "(II)V"⟩, 15), (⟨"SlipSecret", "refuseMissing", "()V"⟩, 15), (⟨"SlipSecret", "needTrait", "(II)V"⟩, 15), (⟨"SlipSecret", "refuseState", "()V"⟩, 15), (⟨"SlipSecret", "needEnrolled", "()V"⟩, 15), (⟨"SlipSecret", "toldOfEnrolled", "(I)I"⟩, 15), (⟨"SlipSecret", "needHeat", "(I)V"⟩, 15), (⟨"SlipSecret$Reading", "noisySpeed", "(LSlipSecret$Slip;II)I"⟩, 4), (⟨"SlipSecret", "isSafeAt", "(I)Z"⟩, 15), (⟨"SlipSecret", "marginsFrom", "(I)I"⟩, 15), (⟨"SlipSecret$WaysCounter", "link", "(LSlipSecret$Slip;I)V"⟩, 3), (⟨"SlipSecret$WaysCounter", "countOf", "(I)J"⟩, 3), (⟨"SlipSecret", "sureOfEnrolled", "()I"⟩, 15)]
theorem lw_r2 : ∀ q ∈ lw_privs_2, lw_okq q := List.forall_mem_cons.mpr ⟨lw_p16, List.forall_mem_cons.mpr ⟨lw_p17, List.forall_mem_cons.mpr ⟨lw_p18, List.forall_mem_cons.mpr ⟨lw_p19, List.forall_mem_cons.mpr ⟨lw_p20, List.forall_mem_cons.mpr ⟨lw_p21, List.forall_mem_cons.mpr ⟨lw_p22, List.forall_mem_cons.mpr ⟨lw_p23, List.forall_mem_cons.mpr ⟨lw_p24, List.forall_mem_cons.mpr ⟨lw_p25, List.forall_mem_cons.mpr ⟨lw_p26, List.forall_mem_cons.mpr ⟨lw_p27, List.forall_mem_cons.mpr ⟨lw_p28, List.forall_mem_cons.mpr ⟨lw_p29, List.forall_mem_cons.mpr ⟨lw_p30, List.forall_mem_cons.mpr ⟨lw_p31, fun _ h => absurd h List.not_mem_nil⟩⟩⟩⟩⟩⟩⟩⟩⟩⟩⟩⟩⟩⟩⟩⟩
theorem lw_p32 : lw_okq (⟨"SlipSecret$LeftCounter", "countFrom", "(LSlipSecret$Slip;LSlipSecret$Enrolment;II)I"⟩, 1) := ⟨⟨by decide +kernel, by decide +kernel⟩, List.mem_of_getElem? (i := 275) (by decide +kernel), List.mem_of_getElem? (i := 1133) (by decide +kernel), List.mem_of_getElem? (i := 1134) (by decide +kernel)⟩
theorem lw_p33 : lw_okq (⟨"SlipSecret$LeftCounter", "putBlock", "(LSlipSecret$Slip;LSlipSecret$Enrolment;II)Z"⟩, 1) := ⟨⟨by decide +kernel, by decide +kernel⟩, List.mem_of_getElem? (i := 275) (by decide +kernel), List.mem_of_getElem? (i := 1144) (by decide +kernel), List.mem_of_getElem? (i := 1145) (by decide +kernel)⟩
theorem lw_p34 : lw_okq (⟨"SlipSecret", "epochsToLearn", "(LSlipSecret$Listener;)I"⟩, 15) := ⟨⟨by decide +kernel, by decide +kernel⟩, List.mem_of_getElem? (i := 27) (by decide +kernel), List.mem_of_getElem? (i := 1167) (by decide +kernel), List.mem_of_getElem? (i := 1168) (by decide +kernel)⟩
theorem lw_p35 : lw_okq (⟨"SlipSecret", "guessedRight", "(II)I"⟩, 15) := ⟨⟨by decide +kernel, by decide +kernel⟩, List.mem_of_getElem? (i := 27) (by decide +kernel), List.mem_of_getElem? (i := 1171) (by decide +kernel), List.mem_of_getElem? (i := 1172) (by decide +kernel)⟩
theorem lw_p36 : lw_okq (⟨"SlipSecretModel", "puts", "(I)V"⟩, 35) := ⟨⟨by decide +kernel, by decide +kernel⟩, List.mem_of_getElem? (i := 1179) (by decide +kernel), List.mem_of_getElem? (i := 1298) (by decide +kernel), List.mem_of_getElem? (i := 1299) (by decide +kernel)⟩
theorem lw_p37 : lw_okq (⟨"SlipSecretModel", "isFine", "(ZII)Z"⟩, 35) := ⟨⟨by decide +kernel, by decide +kernel⟩, List.mem_of_getElem? (i := 1179) (by decide +kernel), List.mem_of_getElem? (i := 1309) (by decide +kernel), List.mem_of_getElem? (i := 1310) (by decide +kernel)⟩
theorem lw_p38 : lw_okq (⟨"SlipSecretModel", "sign", "()I"⟩, 35) := ⟨⟨by decide +kernel, by decide +kernel⟩, List.mem_of_getElem? (i := 1179) (by decide +kernel), List.mem_of_getElem? (i := 1313) (by decide +kernel), List.mem_of_getElem? (i := 1314) (by decide +kernel)⟩
theorem lw_p39 : lw_okq (⟨"SlipSecretModel", "oneLine", "()V"⟩, 35) := ⟨⟨by decide +kernel, by decide +kernel⟩, List.mem_of_getElem? (i := 1179) (by decide +kernel), List.mem_of_getElem? (i := 1317) (by decide +kernel), List.mem_of_getElem? (i := 1318) (by decide +kernel)⟩
theorem lw_p40 : lw_okq (⟨"SlipSecretModel", "passes", "(Ljava/lang/String;)Z"⟩, 35) := ⟨⟨by decide +kernel, by decide +kernel⟩, List.mem_of_getElem? (i := 1179) (by decide +kernel), List.mem_of_getElem? (i := 1322) (by decide +kernel), List.mem_of_getElem? (i := 1323) (by decide +kernel)⟩
theorem lw_p41 : lw_okq (⟨"SlipSecretModel", "isSmall", "(I)Z"⟩, 35) := ⟨⟨by decide +kernel, by decide +kernel⟩, List.mem_of_getElem? (i := 1179) (by decide +kernel), List.mem_of_getElem? (i := 1327) (by decide +kernel), List.mem_of_getElem? (i := 1328) (by decide +kernel)⟩
theorem lw_p42 : lw_okq (⟨"SlipSecretModel", "ringTold", "()V"⟩, 35) := ⟨⟨by decide +kernel, by decide +kernel⟩, List.mem_of_getElem? (i := 1179) (by decide +kernel), List.mem_of_getElem? (i := 1332) (by decide +kernel), List.mem_of_getElem? (i := 1333) (by decide +kernel)⟩
theorem lw_p43 : lw_okq (⟨"SlipSecretModel", "wrong", "(II)V"⟩, 35) := ⟨⟨by decide +kernel, by decide +kernel⟩, List.mem_of_getElem? (i := 1179) (by decide +kernel), List.mem_of_getElem? (i := 1336) (by decide +kernel), List.mem_of_getElem? (i := 1337) (by decide +kernel)⟩
theorem lw_p44 : lw_okq (⟨"SlipSecretModel", "number", "(IIZ)I"⟩, 35) := ⟨⟨by decide +kernel, by decide +kernel⟩, List.mem_of_getElem? (i := 1179) (by decide +kernel), List.mem_of_getElem? (i := 1341) (by decide +kernel), List.mem_of_getElem? (i := 1342) (by decide +kernel)⟩
theorem lw_p45 : lw_okq (⟨"SlipSecretModel", "pairTold", "()V"⟩, 35) := ⟨⟨by decide +kernel, by decide +kernel⟩, List.mem_of_getElem? (i := 1179) (by decide +kernel), List.mem_of_getElem? (i := 1347) (by decide +kernel), List.mem_of_getElem? (i := 1348) (by decide +kernel)⟩
theorem lw_p46 : lw_okq (⟨"SlipSecretModel", "heatsTold", "()V"⟩, 35) := ⟨⟨by decide +kernel, by decide +kernel⟩, List.mem_of_getElem? (i := 1179) (by decide +kernel), List.mem_of_getElem? (i := 1353) (by decide +kernel), List.mem_of_getElem? (i := 1354) (by decide +kernel)⟩
theorem lw_p47 : lw_okq (⟨"SlipSecretModel", "repeatTold", "()V"⟩, 35) := ⟨⟨by decide +kernel, by decide +kernel⟩, List.mem_of_getElem? (i := 1179) (by decide +kernel), List.mem_of_getElem? (i := 1359) (by decide +kernel), List.mem_of_getElem? (i := 1360) (by decide +kernel)⟩
def lw_privs_3 : List (MethodName × Nat) := [(⟨"SlipSecret$LeftCounter", "countFrom", "(LSlipSecret$Slip;LSlipSecret$Enrolment;II)I"⟩, 1), (⟨"SlipSecret$LeftCounter", "putBlock", "(LSlipSecret$Slip;LSlipSecret$Enrolment;II)Z"⟩, 1), (⟨"SlipSecret", "epochsToLearn", "(LSlipSecret$Listener;)I"⟩, 15), (⟨"SlipSecret", "guessedRight", "(II)I"⟩, 15), (⟨"SlipSecretModel", "puts", "(I)V"⟩, 35), (⟨"SlipSecretModel", "isFine", "(ZII)Z"⟩, 35), (⟨"SlipSecretModel", "sign", "()I"⟩, 35), (⟨"SlipSecretModel", "oneLine", "()V"⟩, 35), (⟨"SlipSecretModel", "passes", "(Ljava/lang/String;)Z"⟩, 35), (⟨"SlipSecretModel", "isSmall", "(I)Z"⟩, 35), (⟨"SlipSecretModel", "ringTold", "()V"⟩, 35), (⟨"SlipSecretModel", "wrong", "(II)V"⟩, 35), (⟨"SlipSecretModel", "number", "(IIZ)I"⟩, 35), (⟨"SlipSecretModel", "pairTold", "()V"⟩, 35), (⟨"SlipSecretModel", "heatsTold", "()V"⟩, 35), (⟨"SlipSecretModel", "repeatTold", "()V"⟩, 35)]
theorem lw_r3 : ∀ q ∈ lw_privs_3, lw_okq q := List.forall_mem_cons.mpr ⟨lw_p32, List.forall_mem_cons.mpr ⟨lw_p33, List.forall_mem_cons.mpr ⟨lw_p34, List.forall_mem_cons.mpr ⟨lw_p35, List.forall_mem_cons.mpr ⟨lw_p36, List.forall_mem_cons.mpr ⟨lw_p37, List.forall_mem_cons.mpr ⟨lw_p38, List.forall_mem_cons.mpr ⟨lw_p39, List.forall_mem_cons.mpr ⟨lw_p40, List.forall_mem_cons.mpr ⟨lw_p41, List.forall_mem_cons.mpr ⟨lw_p42, List.forall_mem_cons.mpr ⟨lw_p43, List.forall_mem_cons.mpr ⟨lw_p44, List.forall_mem_cons.mpr ⟨lw_p45, List.forall_mem_cons.mpr ⟨lw_p46, List.forall_mem_cons.mpr ⟨lw_p47, fun _ h => absurd h List.not_mem_nil⟩⟩⟩⟩⟩⟩⟩⟩⟩⟩⟩⟩⟩⟩⟩⟩
theorem lw_p48 : lw_okq (⟨"SlipSecretModel", "maySet", "(II)Z"⟩, 35) := ⟨⟨by decide +kernel, by decide +kernel⟩, List.mem_of_getElem? (i := 1179) (by decide +kernel), List.mem_of_getElem? (i := 1372) (by decide +kernel), List.mem_of_getElem? (i := 1373) (by decide +kernel)⟩
theorem lw_p49 : lw_okq (⟨"SlipSecretModel", "keeps", "()V"⟩, 35) := ⟨⟨by decide +kernel, by decide +kernel⟩, List.mem_of_getElem? (i := 1179) (by decide +kernel), List.mem_of_getElem? (i := 1376) (by decide +kernel), List.mem_of_getElem? (i := 1377) (by decide +kernel)⟩
theorem lw_p50 : lw_okq (⟨"SlipSecretModel", "isRing", "(I)Z"⟩, 35) := ⟨⟨by decide +kernel, by decide +kernel⟩, List.mem_of_getElem? (i := 1179) (by decide +kernel), List.mem_of_getElem? (i := 1384) (by decide +kernel), List.mem_of_getElem? (i := 1385) (by decide +kernel)⟩
theorem lw_p51 : lw_okq (⟨"SlipSecretModel", "blocks", "()I"⟩, 35) := ⟨⟨by decide +kernel, by decide +kernel⟩, List.mem_of_getElem? (i := 1179) (by decide +kernel), List.mem_of_getElem? (i := 1392) (by decide +kernel), List.mem_of_getElem? (i := 1393) (by decide +kernel)⟩
theorem lw_p52 : lw_okq (⟨"SlipSecretModel", "usedNow", "()I"⟩, 35) := ⟨⟨by decide +kernel, by decide +kernel⟩, List.mem_of_getElem? (i := 1179) (by decide +kernel), List.mem_of_getElem? (i := 1396) (by decide +kernel), List.mem_of_getElem? (i := 1397) (by decide +kernel)⟩
theorem lw_p53 : lw_okq (⟨"SlipSecretModel", "usedBy", "(IZ)I"⟩, 35) := ⟨⟨by decide +kernel, by decide +kernel⟩, List.mem_of_getElem? (i := 1179) (by decide +kernel), List.mem_of_getElem? (i := 1400) (by decide +kernel), List.mem_of_getElem? (i := 1401) (by decide +kernel)⟩
theorem lw_p54 : lw_okq (⟨"SlipSecretModel", "isSteady", "(II)Z"⟩, 35) := ⟨⟨by decide +kernel, by decide +kernel⟩, List.mem_of_getElem? (i := 1179) (by decide +kernel), List.mem_of_getElem? (i := 1404) (by decide +kernel), List.mem_of_getElem? (i := 1405) (by decide +kernel)⟩
theorem lw_p55 : lw_okq (⟨"SlipSecretModel", "marginOf", "(I)I"⟩, 35) := ⟨⟨by decide +kernel, by decide +kernel⟩, List.mem_of_getElem? (i := 1179) (by decide +kernel), List.mem_of_getElem? (i := 1408) (by decide +kernel), List.mem_of_getElem? (i := 1409) (by decide +kernel)⟩
theorem lw_p56 : lw_okq (⟨"SlipSecretModel", "apart", "(II)I"⟩, 35) := ⟨⟨by decide +kernel, by decide +kernel⟩, List.mem_of_getElem? (i := 1179) (by decide +kernel), List.mem_of_getElem? (i := 1412) (by decide +kernel), List.mem_of_getElem? (i := 1413) (by decide +kernel)⟩
theorem lw_p57 : lw_okq (⟨"SlipSecretModel", "speedOf", "(II)I"⟩, 35) := ⟨⟨by decide +kernel, by decide +kernel⟩, List.mem_of_getElem? (i := 1179) (by decide +kernel), List.mem_of_getElem? (i := 1416) (by decide +kernel), List.mem_of_getElem? (i := 1417) (by decide +kernel)⟩
theorem lw_p58 : lw_okq (⟨"SlipSecretModel", "bitOf", "(I)I"⟩, 35) := ⟨⟨by decide +kernel, by decide +kernel⟩, List.mem_of_getElem? (i := 1179) (by decide +kernel), List.mem_of_getElem? (i := 1420) (by decide +kernel), List.mem_of_getElem? (i := 1421) (by decide +kernel)⟩
theorem lw_p59 : lw_okq (⟨"SlipSecretModel", "bitAt", "(II)I"⟩, 35) := ⟨⟨by decide +kernel, by decide +kernel⟩, List.mem_of_getElem? (i := 1179) (by decide +kernel), List.mem_of_getElem? (i := 1424) (by decide +kernel), List.mem_of_getElem? (i := 1425) (by decide +kernel)⟩
theorem lw_p60 : lw_okq (⟨"SlipSecretModel", "noiseOf", "(I)I"⟩, 35) := ⟨⟨by decide +kernel, by decide +kernel⟩, List.mem_of_getElem? (i := 1179) (by decide +kernel), List.mem_of_getElem? (i := 1431) (by decide +kernel), List.mem_of_getElem? (i := 1432) (by decide +kernel)⟩
theorem lw_p61 : lw_okq (⟨"SlipSecretModel", "blocksOf", "(II)I"⟩, 35) := ⟨⟨by decide +kernel, by decide +kernel⟩, List.mem_of_getElem? (i := 1179) (by decide +kernel), List.mem_of_getElem? (i := 1435) (by decide +kernel), List.mem_of_getElem? (i := 1436) (by decide +kernel)⟩
theorem lw_p62 : lw_okq (⟨"SlipSecretModel", "secretBits", "()I"⟩, 35) := ⟨⟨by decide +kernel, by decide +kernel⟩, List.mem_of_getElem? (i := 1179) (by decide +kernel), List.mem_of_getElem? (i := 1445) (by decide +kernel), List.mem_of_getElem? (i := 1446) (by decide +kernel)⟩
theorem lw_p63 : lw_okq (⟨"SlipSecretModel", "words", "(II)V"⟩, 35) := ⟨⟨by decide +kernel, by decide +kernel⟩, List.mem_of_getElem? (i := 1179) (by decide +kernel), List.mem_of_getElem? (i := 1449) (by decide +kernel), List.mem_of_getElem? (i := 1450) (by decide +kernel)⟩
def lw_privs_4 : List (MethodName × Nat) := [(⟨"SlipSecretModel", "maySet", "(II)Z"⟩, 35), (⟨"SlipSecretModel", "keeps", "()V"⟩, 35), (⟨"SlipSecretModel", "isRing", "(I)Z"⟩, 35), (⟨"SlipSecretModel", "blocks", "()I"⟩, 35), (⟨"SlipSecretModel", "usedNow", "()I"⟩, 35), (⟨"SlipSecretModel", "usedBy", "(IZ)I"⟩, 35), (⟨"SlipSecretModel", "isSteady", "(II)Z"⟩, 35), (⟨"SlipSecretModel", "marginOf", "(I)I"⟩, 35), (⟨"SlipSecretModel", "apart", "(II)I"⟩, 35), (⟨"SlipSecretModel", "speedOf", "(II)I"⟩, 35), (⟨"SlipSecretModel", "bitOf", "(I)I"⟩, 35), (⟨"SlipSecretModel", "bitAt", "(II)I"⟩, 35), (⟨"SlipSecretModel", "noiseOf", "(I)I"⟩, 35), (⟨"SlipSecretModel", "blocksOf", "(II)I"⟩, 35), (⟨"SlipSecretModel", "secretBits", "()I"⟩, 35), (⟨"SlipSecretModel", "words", "(II)V"⟩, 35)]
theorem lw_r4 : ∀ q ∈ lw_privs_4, lw_okq q := List.forall_mem_cons.mpr ⟨lw_p48, List.forall_mem_cons.mpr ⟨lw_p49, List.forall_mem_cons.mpr ⟨lw_p50, List.forall_mem_cons.mpr ⟨lw_p51, List.forall_mem_cons.mpr ⟨lw_p52, List.forall_mem_cons.mpr ⟨lw_p53, List.forall_mem_cons.mpr ⟨lw_p54, List.forall_mem_cons.mpr ⟨lw_p55, List.forall_mem_cons.mpr ⟨lw_p56, List.forall_mem_cons.mpr ⟨lw_p57, List.forall_mem_cons.mpr ⟨lw_p58, List.forall_mem_cons.mpr ⟨lw_p59, List.forall_mem_cons.mpr ⟨lw_p60, List.forall_mem_cons.mpr ⟨lw_p61, List.forall_mem_cons.mpr ⟨lw_p62, List.forall_mem_cons.mpr ⟨lw_p63, fun _ h => absurd h List.not_mem_nil⟩⟩⟩⟩⟩⟩⟩⟩⟩⟩⟩⟩⟩⟩⟩⟩
theorem lw_p64 : lw_okq (⟨"SlipSecretModel", "isPair", "(I)Z"⟩, 35) := ⟨⟨by decide +kernel, by decide +kernel⟩, List.mem_of_getElem? (i := 1179) (by decide +kernel), List.mem_of_getElem? (i := 1460) (by decide +kernel), List.mem_of_getElem? (i := 1461) (by decide +kernel)⟩
theorem lw_p65 : lw_okq (⟨"SlipSecretModel", "heardAt", "(I)I"⟩, 35) := ⟨⟨by decide +kernel, by decide +kernel⟩, List.mem_of_getElem? (i := 1179) (by decide +kernel), List.mem_of_getElem? (i := 1464) (by decide +kernel), List.mem_of_getElem? (i := 1465) (by decide +kernel)⟩
theorem lw_p66 : lw_okq (⟨"SlipSecretModel", "epoch", "()I"⟩, 35) := ⟨⟨by decide +kernel, by decide +kernel⟩, List.mem_of_getElem? (i := 1179) (by decide +kernel), List.mem_of_getElem? (i := 1472) (by decide +kernel), List.mem_of_getElem? (i := 1473) (by decide +kernel)⟩
theorem lw_p67 : lw_okq (⟨"SlipSecretModel", "guessOf", "(I)I"⟩, 35) := ⟨⟨by decide +kernel, by decide +kernel⟩, List.mem_of_getElem? (i := 1179) (by decide +kernel), List.mem_of_getElem? (i := 1476) (by decide +kernel), List.mem_of_getElem? (i := 1477) (by decide +kernel)⟩
theorem lw_p68 : lw_okq (⟨"SlipSecretModel", "isKept", "()Z"⟩, 35) := ⟨⟨by decide +kernel, by decide +kernel⟩, List.mem_of_getElem? (i := 1179) (by decide +kernel), List.mem_of_getElem? (i := 1484) (by decide +kernel), List.mem_of_getElem? (i := 1485) (by decide +kernel)⟩
theorem lw_p69 : lw_okq (⟨"SlipSecretModel", "steadyMany", "()I"⟩, 35) := ⟨⟨by decide +kernel, by decide +kernel⟩, List.mem_of_getElem? (i := 1179) (by decide +kernel), List.mem_of_getElem? (i := 1496) (by decide +kernel), List.mem_of_getElem? (i := 1497) (by decide +kernel)⟩
theorem lw_p70 : lw_okq (⟨"SlipSecretModel", "keptBits", "()I"⟩, 35) := ⟨⟨by decide +kernel, by decide +kernel⟩, List.mem_of_getElem? (i := 1179) (by decide +kernel), List.mem_of_getElem? (i := 1500) (by decide +kernel), List.mem_of_getElem? (i := 1501) (by decide +kernel)⟩
theorem lw_p71 : lw_okq (⟨"SlipSecretModel", "pairsWith", "(I)I"⟩, 35) := ⟨⟨by decide +kernel, by decide +kernel⟩, List.mem_of_getElem? (i := 1179) (by decide +kernel), List.mem_of_getElem? (i := 1508) (by decide +kernel), List.mem_of_getElem? (i := 1509) (by decide +kernel)⟩
theorem lw_p72 : lw_okq (⟨"SlipSecretModel", "isHeat", "(I)Z"⟩, 35) := ⟨⟨by decide +kernel, by decide +kernel⟩, List.mem_of_getElem? (i := 1179) (by decide +kernel), List.mem_of_getElem? (i := 1516) (by decide +kernel), List.mem_of_getElem? (i := 1517) (by decide +kernel)⟩
theorem lw_p73 : lw_okq (⟨"SlipSecretModel", "keptAt", "(I)I"⟩, 35) := ⟨⟨by decide +kernel, by decide +kernel⟩, List.mem_of_getElem? (i := 1179) (by decide +kernel), List.mem_of_getElem? (i := 1528) (by decide +kernel), List.mem_of_getElem? (i := 1529) (by decide +kernel)⟩
theorem lw_p74 : lw_okq (⟨"SlipSecretModel", "blockOf", "(I)I"⟩, 35) := ⟨⟨by decide +kernel, by decide +kernel⟩, List.mem_of_getElem? (i := 1179) (by decide +kernel), List.mem_of_getElem? (i := 1532) (by decide +kernel), List.mem_of_getElem? (i := 1533) (by decide +kernel)⟩
theorem lw_p75 : lw_okq (⟨"SlipSecretModel", "followsNow", "(I)I"⟩, 35) := ⟨⟨by decide +kernel, by decide +kernel⟩, List.mem_of_getElem? (i := 1179) (by decide +kernel), List.mem_of_getElem? (i := 1536) (by decide +kernel), List.mem_of_getElem? (i := 1537) (by decide +kernel)⟩
theorem lw_p76 : lw_okq (⟨"SlipSecretModel", "laysHeard", "()V"⟩, 35) := ⟨⟨by decide +kernel, by decide +kernel⟩, List.mem_of_getElem? (i := 1179) (by decide +kernel), List.mem_of_getElem? (i := 1540) (by decide +kernel), List.mem_of_getElem? (i := 1541) (by decide +kernel)⟩
theorem lw_p77 : lw_okq (⟨"SlipSecretModel", "noOrder", "()V"⟩, 35) := ⟨⟨by decide +kernel, by decide +kernel⟩, List.mem_of_getElem? (i := 1179) (by decide +kernel), List.mem_of_getElem? (i := 1544) (by decide +kernel), List.mem_of_getElem? (i := 1545) (by decide +kernel)⟩
theorem lw_p78 : lw_okq (⟨"SlipSecretModel", "putsHeard", "()V"⟩, 35) := ⟨⟨by decide +kernel, by decide +kernel⟩, List.mem_of_getElem? (i := 1179) (by decide +kernel), List.mem_of_getElem? (i := 1548) (by decide +kernel), List.mem_of_getElem? (i := 1549) (by decide +kernel)⟩
theorem lw_p79 : lw_okq (⟨"SlipSecretModel", "puts", "(II)V"⟩, 35) := ⟨⟨by decide +kernel, by decide +kernel⟩, List.mem_of_getElem? (i := 1179) (by decide +kernel), List.mem_of_getElem? (i := 1552) (by decide +kernel), List.mem_of_getElem? (i := 1553) (by decide +kernel)⟩
def lw_privs_5 : List (MethodName × Nat) := [(⟨"SlipSecretModel", "isPair", "(I)Z"⟩, 35), (⟨"SlipSecretModel", "heardAt", "(I)I"⟩, 35), (⟨"SlipSecretModel", "epoch", "()I"⟩, 35), (⟨"SlipSecretModel", "guessOf", "(I)I"⟩, 35), (⟨"SlipSecretModel", "isKept", "()Z"⟩, 35), (⟨"SlipSecretModel", "steadyMany", "()I"⟩, 35), (⟨"SlipSecretModel", "keptBits", "()I"⟩, 35), (⟨"SlipSecretModel", "pairsWith", "(I)I"⟩, 35), (⟨"SlipSecretModel", "isHeat", "(I)Z"⟩, 35), (⟨"SlipSecretModel", "keptAt", "(I)I"⟩, 35), (⟨"SlipSecretModel", "blockOf", "(I)I"⟩, 35), (⟨"SlipSecretModel", "followsNow", "(I)I"⟩, 35), (⟨"SlipSecretModel", "laysHeard", "()V"⟩, 35), (⟨"SlipSecretModel", "noOrder", "()V"⟩, 35), (⟨"SlipSecretModel", "putsHeard", "()V"⟩, 35), (⟨"SlipSecretModel", "puts", "(II)V"⟩, 35)]
theorem lw_r5 : ∀ q ∈ lw_privs_5, lw_okq q := List.forall_mem_cons.mpr ⟨lw_p64, List.forall_mem_cons.mpr ⟨lw_p65, List.forall_mem_cons.mpr ⟨lw_p66, List.forall_mem_cons.mpr ⟨lw_p67, List.forall_mem_cons.mpr ⟨lw_p68, List.forall_mem_cons.mpr ⟨lw_p69, List.forall_mem_cons.mpr ⟨lw_p70, List.forall_mem_cons.mpr ⟨lw_p71, List.forall_mem_cons.mpr ⟨lw_p72, List.forall_mem_cons.mpr ⟨lw_p73, List.forall_mem_cons.mpr ⟨lw_p74, List.forall_mem_cons.mpr ⟨lw_p75, List.forall_mem_cons.mpr ⟨lw_p76, List.forall_mem_cons.mpr ⟨lw_p77, List.forall_mem_cons.mpr ⟨lw_p78, List.forall_mem_cons.mpr ⟨lw_p79, fun _ h => absurd h List.not_mem_nil⟩⟩⟩⟩⟩⟩⟩⟩⟩⟩⟩⟩⟩⟩⟩⟩
theorem lw_p80 : lw_okq (⟨"SlipSecretModel", "closes", "()V"⟩, 35) := ⟨⟨by decide +kernel, by decide +kernel⟩, List.mem_of_getElem? (i := 1179) (by decide +kernel), List.mem_of_getElem? (i := 1556) (by decide +kernel), List.mem_of_getElem? (i := 1557) (by decide +kernel)⟩
theorem lw_p81 : lw_okq (⟨"SlipSecretModel", "follows", "(I)I"⟩, 35) := ⟨⟨by decide +kernel, by decide +kernel⟩, List.mem_of_getElem? (i := 1179) (by decide +kernel), List.mem_of_getElem? (i := 1560) (by decide +kernel), List.mem_of_getElem? (i := 1561) (by decide +kernel)⟩
theorem lw_p82 : lw_okq (⟨"SlipSecretModel", "readsAll", "(I)V"⟩, 35) := ⟨⟨by decide +kernel, by decide +kernel⟩, List.mem_of_getElem? (i := 1179) (by decide +kernel), List.mem_of_getElem? (i := 1588) (by decide +kernel), List.mem_of_getElem? (i := 1589) (by decide +kernel)⟩
theorem lw_p83 : lw_okq (⟨"SlipSecretModel", "drawn", "(II)I"⟩, 35) := ⟨⟨by decide +kernel, by decide +kernel⟩, List.mem_of_getElem? (i := 1179) (by decide +kernel), List.mem_of_getElem? (i := 1592) (by decide +kernel), List.mem_of_getElem? (i := 1593) (by decide +kernel)⟩
theorem lw_p84 : lw_okq (⟨"SlipSecretModel", "decoded", "(I)I"⟩, 35) := ⟨⟨by decide +kernel, by decide +kernel⟩, List.mem_of_getElem? (i := 1179) (by decide +kernel), List.mem_of_getElem? (i := 1597) (by decide +kernel), List.mem_of_getElem? (i := 1598) (by decide +kernel)⟩
theorem lw_p85 : lw_okq (⟨"SlipSecretModel", "isRefused", "()Z"⟩, 35) := ⟨⟨by decide +kernel, by decide +kernel⟩, List.mem_of_getElem? (i := 1179) (by decide +kernel), List.mem_of_getElem? (i := 1601) (by decide +kernel), List.mem_of_getElem? (i := 1602) (by decide +kernel)⟩
theorem lw_p86 : lw_okq (⟨"SlipSecretModel", "firstUnsafe", "(I)I"⟩, 35) := ⟨⟨by decide +kernel, by decide +kernel⟩, List.mem_of_getElem? (i := 1179) (by decide +kernel), List.mem_of_getElem? (i := 1614) (by decide +kernel), List.mem_of_getElem? (i := 1615) (by decide +kernel)⟩
theorem lw_p87 : lw_okq (⟨"SlipSecretModel", "keptBlocks", "()I"⟩, 35) := ⟨⟨by decide +kernel, by decide +kernel⟩, List.mem_of_getElem? (i := 1179) (by decide +kernel), List.mem_of_getElem? (i := 1618) (by decide +kernel), List.mem_of_getElem? (i := 1619) (by decide +kernel)⟩
theorem lw_p88 : lw_okq (⟨"SlipSecretModel", "isSafe", "(II)Z"⟩, 35) := ⟨⟨by decide +kernel, by decide +kernel⟩, List.mem_of_getElem? (i := 1179) (by decide +kernel), List.mem_of_getElem? (i := 1622) (by decide +kernel), List.mem_of_getElem? (i := 1623) (by decide +kernel)⟩
theorem lw_p89 : lw_okq (⟨"SlipSecretModel", "isShaky", "(II)Z"⟩, 35) := ⟨⟨by decide +kernel, by decide +kernel⟩, List.mem_of_getElem? (i := 1179) (by decide +kernel), List.mem_of_getElem? (i := 1626) (by decide +kernel), List.mem_of_getElem? (i := 1627) (by decide +kernel)⟩
theorem lw_p90 : lw_okq (⟨"SlipSecretModel", "waysBy", "(I)J"⟩, 35) := ⟨⟨by decide +kernel, by decide +kernel⟩, List.mem_of_getElem? (i := 1179) (by decide +kernel), List.mem_of_getElem? (i := 1642) (by decide +kernel), List.mem_of_getElem? (i := 1643) (by decide +kernel)⟩
theorem lw_p91 : lw_okq (⟨"SlipSecretModel", "compares", "(I)V"⟩, 35) := ⟨⟨by decide +kernel, by decide +kernel⟩, List.mem_of_getElem? (i := 1179) (by decide +kernel), List.mem_of_getElem? (i := 1646) (by decide +kernel), List.mem_of_getElem? (i := 1647) (by decide +kernel)⟩
theorem lw_p92 : lw_okq (⟨"SlipSecretModel", "waysOf", "()J"⟩, 35) := ⟨⟨by decide +kernel, by decide +kernel⟩, List.mem_of_getElem? (i := 1179) (by decide +kernel), List.mem_of_getElem? (i := 1650) (by decide +kernel), List.mem_of_getElem? (i := 1651) (by decide +kernel)⟩
theorem lw_p93 : lw_okq (⟨"SlipSecretModel", "isApart", "(I)Z"⟩, 35) := ⟨⟨by decide +kernel, by decide +kernel⟩, List.mem_of_getElem? (i := 1179) (by decide +kernel), List.mem_of_getElem? (i := 1654) (by decide +kernel), List.mem_of_getElem? (i := 1655) (by decide +kernel)⟩
theorem lw_p94 : lw_okq (⟨"SlipSecretModel", "sure", "()I"⟩, 35) := ⟨⟨by decide +kernel, by decide +kernel⟩, List.mem_of_getElem? (i := 1179) (by decide +kernel), List.mem_of_getElem? (i := 1665) (by decide +kernel), List.mem_of_getElem? (i := 1666) (by decide +kernel)⟩
theorem lw_p95 : lw_okq (⟨"SlipSecretModel", "leaks", "()I"⟩, 35) := ⟨⟨by decide +kernel, by decide +kernel⟩, List.mem_of_getElem? (i := 1179) (by decide +kernel), List.mem_of_getElem? (i := 1669) (by decide +kernel), List.mem_of_getElem? (i := 1670) (by decide +kernel)⟩
def lw_privs_6 : List (MethodName × Nat) := [(⟨"SlipSecretModel", "closes", "()V"⟩, 35), (⟨"SlipSecretModel", "follows", "(I)I"⟩, 35), (⟨"SlipSecretModel", "readsAll", "(I)V"⟩, 35), (⟨"SlipSecretModel", "drawn", "(II)I"⟩, 35), (⟨"SlipSecretModel", "decoded", "(I)I"⟩, 35), (⟨"SlipSecretModel", "isRefused", "()Z"⟩, 35), (⟨"SlipSecretModel", "firstUnsafe", "(I)I"⟩, 35), (⟨"SlipSecretModel", "keptBlocks", "()I"⟩, 35), (⟨"SlipSecretModel", "isSafe", "(II)Z"⟩, 35), (⟨"SlipSecretModel", "isShaky", "(II)Z"⟩, 35), (⟨"SlipSecretModel", "waysBy", "(I)J"⟩, 35), (⟨"SlipSecretModel", "compares", "(I)V"⟩, 35), (⟨"SlipSecretModel", "waysOf", "()J"⟩, 35), (⟨"SlipSecretModel", "isApart", "(I)Z"⟩, 35), (⟨"SlipSecretModel", "sure", "()I"⟩, 35), (⟨"SlipSecretModel", "leaks", "()I"⟩, 35)]
theorem lw_r6 : ∀ q ∈ lw_privs_6, lw_okq q := List.forall_mem_cons.mpr ⟨lw_p80, List.forall_mem_cons.mpr ⟨lw_p81, List.forall_mem_cons.mpr ⟨lw_p82, List.forall_mem_cons.mpr ⟨lw_p83, List.forall_mem_cons.mpr ⟨lw_p84, List.forall_mem_cons.mpr ⟨lw_p85, List.forall_mem_cons.mpr ⟨lw_p86, List.forall_mem_cons.mpr ⟨lw_p87, List.forall_mem_cons.mpr ⟨lw_p88, List.forall_mem_cons.mpr ⟨lw_p89, List.forall_mem_cons.mpr ⟨lw_p90, List.forall_mem_cons.mpr ⟨lw_p91, List.forall_mem_cons.mpr ⟨lw_p92, List.forall_mem_cons.mpr ⟨lw_p93, List.forall_mem_cons.mpr ⟨lw_p94, List.forall_mem_cons.mpr ⟨lw_p95, fun _ h => absurd h List.not_mem_nil⟩⟩⟩⟩⟩⟩⟩⟩⟩⟩⟩⟩⟩⟩⟩⟩
theorem lw_p96 : lw_okq (⟨"SlipSecretModel", "left", "(Z)I"⟩, 35) := ⟨⟨by decide +kernel, by decide +kernel⟩, List.mem_of_getElem? (i := 1179) (by decide +kernel), List.mem_of_getElem? (i := 1673) (by decide +kernel), List.mem_of_getElem? (i := 1674) (by decide +kernel)⟩
theorem lw_p97 : lw_okq (⟨"SlipSecretModel", "canBe", "(IZ)Z"⟩, 35) := ⟨⟨by decide +kernel, by decide +kernel⟩, List.mem_of_getElem? (i := 1179) (by decide +kernel), List.mem_of_getElem? (i := 1677) (by decide +kernel), List.mem_of_getElem? (i := 1678) (by decide +kernel)⟩
theorem lw_p98 : lw_okq (⟨"SlipSecretModel", "isRound", "()Z"⟩, 35) := ⟨⟨by decide +kernel, by decide +kernel⟩, List.mem_of_getElem? (i := 1179) (by decide +kernel), List.mem_of_getElem? (i := 1681) (by decide +kernel), List.mem_of_getElem? (i := 1682) (by decide +kernel)⟩
theorem lw_p99 : lw_okq (⟨"SlipSecretModel", "nextNow", "()I"⟩, 35) := ⟨⟨by decide +kernel, by decide +kernel⟩, List.mem_of_getElem? (i := 1179) (by decide +kernel), List.mem_of_getElem? (i := 1697) (by decide +kernel), List.mem_of_getElem? (i := 1698) (by decide +kernel)⟩
theorem lw_p100 : lw_okq (⟨"SlipSecretModel", "wouldFollow", "(II)I"⟩, 35) := ⟨⟨by decide +kernel, by decide +kernel⟩, List.mem_of_getElem? (i := 1179) (by decide +kernel), List.mem_of_getElem? (i := 1701) (by decide +kernel), List.mem_of_getElem? (i := 1702) (by decide +kernel)⟩
theorem lw_p101 : lw_okq (⟨"SlipSecretModel", "followMany", "()I"⟩, 35) := ⟨⟨by decide +kernel, by decide +kernel⟩, List.mem_of_getElem? (i := 1179) (by decide +kernel), List.mem_of_getElem? (i := 1705) (by decide +kernel), List.mem_of_getElem? (i := 1706) (by decide +kernel)⟩
def lw_privs_7 : List (MethodName × Nat) := [(⟨"SlipSecretModel", "left", "(Z)I"⟩, 35), (⟨"SlipSecretModel", "canBe", "(IZ)Z"⟩, 35), (⟨"SlipSecretModel", "isRound", "()Z"⟩, 35), (⟨"SlipSecretModel", "nextNow", "()I"⟩, 35), (⟨"SlipSecretModel", "wouldFollow", "(II)I"⟩, 35), (⟨"SlipSecretModel", "followMany", "()I"⟩, 35)]
theorem lw_r7 : ∀ q ∈ lw_privs_7, lw_okq q := List.forall_mem_cons.mpr ⟨lw_p96, List.forall_mem_cons.mpr ⟨lw_p97, List.forall_mem_cons.mpr ⟨lw_p98, List.forall_mem_cons.mpr ⟨lw_p99, List.forall_mem_cons.mpr ⟨lw_p100, List.forall_mem_cons.mpr ⟨lw_p101, fun _ h => absurd h List.not_mem_nil⟩⟩⟩⟩⟩⟩
def lw_privs : List (MethodName × Nat) := lw_privs_1 ++ (lw_privs_2 ++ (lw_privs_3 ++ (lw_privs_4 ++ (lw_privs_5 ++ (lw_privs_6 ++ (lw_privs_7))))))
def lw_tbl : List Cond := k2_sels lw_privs ++ tables_1
theorem lw_privs_ok : ∀ q ∈ lw_privs, lw_okq q := by
  show ∀ q ∈ lw_privs_1 ++ (lw_privs_2 ++ (lw_privs_3 ++ (lw_privs_4 ++ (lw_privs_5 ++ (lw_privs_6 ++ (lw_privs_7)))))), lw_okq q
  exact List.forall_mem_append.mpr ⟨lw_r1, List.forall_mem_append.mpr ⟨lw_r2, List.forall_mem_append.mpr ⟨lw_r3, List.forall_mem_append.mpr ⟨lw_r4, List.forall_mem_append.mpr ⟨lw_r5, List.forall_mem_append.mpr ⟨lw_r6, lw_r7⟩⟩⟩⟩⟩⟩
-- ===== end of PART A; then your names; then what follows =====
/-! ===== BEGIN words of one list among another's, by their places ===== -/
theorem goodIn_r {big : List Cond} (ws : List Cond) (ps : List Nat) (hp : ws = ps.filterMap (fun i => big[i]?)) (h : ws.all goodWord = true) : GoodIn big ws := by
  intro w hw
  have h1 := List.all_eq_true.mp h w hw
  rw [hp] at hw
  obtain ⟨i, -, hi⟩ := List.mem_filterMap.mp hw
  have hm : w ∈ big := by first | exact List.mem_of_getElem? hi | exact List.getElem?_mem hi
  exact ⟨hm, good_of_word h1⟩
theorem goodIn_app {big a b : List Cond} (ha : GoodIn big a) (hb : GoodIn big b) : GoodIn big (a ++ b) := fun w h => (List.mem_append.mp h).elim (ha w) (hb w)
theorem goodIn_ca {big a b : List Cond} {c : Cond} (ha : GoodIn big (c :: a)) (hb : GoodIn big b) : GoodIn big (c :: (a ++ b)) := fun w h => (List.mem_cons.mp h).elim (fun e => ha w (List.mem_cons.mpr (Or.inl e))) (fun h => (List.mem_append.mp h).elim (fun h => ha w (List.mem_cons.mpr (Or.inr h))) (hb w))
theorem goodIn_sub {big ws : List Cond} (hm : ∀ w ∈ ws, w ∈ big) (h : ws.all goodWord = true) : GoodIn big ws := fun w hw => ⟨hm w hw, good_of_word (List.all_eq_true.mp h w hw)⟩
/-! ===== END ===== -/

/-! ===== BEGIN exceptions that leave a method, and their catching by the caller (launches without stack traces) ===== -/
section VXA
/-! The laws vx_back, vx_callV, vx_callS, vx_callSW, vx_throw0, vx_throwS follow proofs of the library, with one case more: JvmDerived/Free/Laws.lean (Back.of_free), Shelf42/LK1.lean (callV, callS), Shelf/KitTraced.lean (throwNew0V, throwNewS). -/
/-- where a method has thrown q: the class by its name, the cell, what was written, the world -/
def vx_T (XC : String → State → State → Prop) (st : State) (q : Addr) (t : State) (mc ms : Nat) (free : Addr → Prop) : Prop :=
  ∃ (E : String) (ce : Cell) (L : List Loc), XC E st t ∧ t.heap[q]? = some ce ∧ ce.vm = .none ∧ st.vm.findClass E = some ce.cls ∧ st.WarmedH t.vm ∧ st.sameButNew ({ t with vm := st.vm } : State) L mc ms ∧ ∀ z ∈ L, free z.base
def vx_Q (Qc : Array Value → State → Outcome → State → Prop) (XC : String → State → State → Prop) (mc ms : Nat) (free : Addr → Prop) : Array Value → State → Outcome → State → Prop := fun a st o t =>
  (Qc a st o t ∧ ∃ L, FrameEnd st o t L mc ms ∧ ∀ q ∈ L, free q.base) ∨ ∃ q, o = .threw q ∧ vx_T XC st q t mc ms free
/-- a callee that returns or throws -/
def vx_Met (l : Launch) (y : MethodName) (ws : List Cond) (rm : Room) (Pc : Array Value → State → Prop) (Qc : Array Value → State → Outcome → State → Prop) (XC : String → State → State → Prop) (mc ms : Nat) (free : Addr → Prop) : Prop :=
  MetFree l y (headSpec ws rm) Pc (fun _ _ _ _ _ => True) (vx_Q Qc XC mc ms free)
def vx_Post (XC : String → State → State → Prop) (mc ms : Nat) (free : Addr → Prop) : Pt → Array Value → Addr → Pt → Prop := fun A a q B =>
  ∃ (g : JFrame) (mk : MethodId) (t : State) (L : List Loc) (E : String) (ce : Cell), B.U.heap = t.heap ∧ B.U.vm = t.vm ∧ XC E (A.U.calling g mk a) t ∧ t.heap[q]? = some ce ∧ ce.vm = .none ∧ A.U.vm.findClass E = some ce.cls ∧ B.locs = A.locs ++ L ∧ (∀ z ∈ L, free z.base) ∧ B.cells = A.cells + mc ∧ B.slots = A.slots + ms
def vx_Back (l : Launch) (R : Room) (p : Program) (e : Env) (below : List Frame) (s : State) (sargs : Array Value) (y : MethodName) (len W9 : Nat)
    (Pre : Pt → Array Value → Prop) (Post : Pt → Array Value → Option Value → Pt → Prop) (PostX : Pt → Array Value → Addr → Pt → Prop) : Prop :=
  ∀ (m : MethodId) (meth : Method) (c : Code) (A : Pt) (g : JFrame) (ig : Instr) (mk : MethodId) (a : Array Value),
    Stand p l e R s m sargs below meth c A.U A.locs A.cells A.slots → g.method = m → g.locals.size = c.maxLocals → decode c.code g.pc = .ok (ig, len) →
    2 * g.monitorRoom + (g.stack.map fun v => v.category).sum ≤ W9 → A.U.methodNamed? y = some mk → Pre A a →
    (∃ (v : Option Value) (B : Pt), Stand p l e R s m sargs below meth c B.U B.locs B.cells B.slots ∧ Post A a v B ∧
      Steps p.tables e below (doInvoke e (A.U.setTop g) [] mk a).1 (B.U.setTop { g with pc := g.pc + len, stack := v.toList ++ g.stack })) ∨
    (∃ (q : Addr) (B : Pt), Stand p l e R s m sargs below meth c B.U B.locs B.cells B.slots ∧ PostX A a q B ∧
      Steps p.tables e below (doInvoke e (A.U.setTop g) [] mk a).1 ((B.U.setTop g).pushFrame (.throwing q)))
section Payer
variable {l : Launch} {R : Room} {p : Program} {e : Env} {below : List Frame} {s : State} {sargs : Array Value} {y : MethodName} {len W9 : Nat}
theorem vx_back {ws : List Cond} {rm : Room} {Pc : Array Value → State → Prop} {Qc : Array Value → State → Outcome → State → Prop} {XC : String → State → State → Prop} {mc ms : Nat} {free : Addr → Prop} {bytes : ByteArray} {maxL : Nat} {ret : Option FieldType}
    (hM : vx_Met l y ws rm Pc Qc XC mc ms free) (hblind : FrameBlind Pc) (hrc : rm.cells = mc) (hrs : rm.slots = ms)
    (hframes : rm.frames + 1 ≤ R.frames) (hlocals : W9 + (maxL + 11) + rm.locals ≤ R.locals)
    (hws : ∀ w ∈ ws, ∀ a' U, s.WarmedH U.vm → w.before a' U = true) (hcode : Cond.code y bytes maxL ret ∈ ws) (hinit : ∀ a' U, s.WarmedH U.vm → (Cond.initialized y.cls).before a' U = true) :
    vx_Back l R p e below s sargs y len W9 (PreOf R mc ms Pc) (PostOf Qc mc ms free) (vx_Post XC mc ms free) := by
  intro m meth c A g ig mk a X hg hsize hdg hW hn hp
  have h1 : (headSpec ws rm).pre.before a A.U = true := atoms_intro fun w hw => hws w hw _ _ X.warmed
  have h2 : (Cond.code y bytes maxL ret).before a A.U = true := hws _ hcode _ _ X.warmed
  have h3 : (Cond.initialized y.cls).before a A.U = true := hinit _ _ X.warmed
  have h4 : A.cells + (headSpec ws rm).room.cells ≤ R.cells := by rw [show (headSpec ws rm).room.cells = mc from hrc]; exact hp.1
  have h5 : A.slots + (headSpec ws rm).room.slots ≤ R.slots := by rw [show (headSpec ws rm).room.slots = ms from hrs]; exact hp.2.1
  have hPc : Pc a (A.U.calling g mk a) := hblind _ _ _ _ hp.2.2
  obtain ⟨U, Ls, c0, s0⟩ := A
  dsimp only [Pt.U, Pt.locs, Pt.cells, Pt.slots] at h1 h2 h3 h4 h5 X hn hPc ⊢
  obtain ⟨methY, cY, hmY, hcY, -, hlY, -, -, -, -⟩ := Cond.code_spec hn h2
  obtain ⟨kY, hkY, -⟩ := className_of_methodNamed hn
  have hinitY : kY.init = .initialized := Cond.initialized_spec (findClass_of_methodNamed hn) hkY h3
  have h : At U g.method c below := by rw [hg]; exact X.here
  have hlocals9 : W9 + (maxL + 11) + (headSpec ws rm).room.locals ≤ R.locals := hlocals
  have happ : (headSpec ws rm).appliesLoose y e.platform (U.calling g mk a) = true :=
    Spec.appliesLoose_calling (g := g) h hdg hn hkY hinitY
      (X.room_calling (g := g) (R' := (headSpec ws rm).room) hsize hmY hcY hframes (by rw [hlY]; omega) h4 h5) h1
  obtain ⟨mid, hmid⟩ := h.above
  have hfr : (U.setTop g).frames = (.java g :: mid) ++ below := by rw [State.frames_setTop' g h.top, hmid]; rfl
  obtain ⟨o, s₂, hsteps, -, hend, hq⟩ := Steps.callFree hM p X.admits X.cas X.clock (acts := []) hfr happ hPc trivial
  have hq' : vx_Q Qc XC mc ms free a (U.calling g mk a) o s₂ := hq
  rw [State.frames_setTop' g h.top] at hend
  obtain ⟨g₀, hg0⟩ := Option.isSome_iff_exists.mp h.top
  obtain ⟨r, hr⟩ := State.topJava?_eq_some.mp hg0
  have hr' : (({ U with heap := s₂.heap, slotsUsed := s₂.slotsUsed } : State).setVm s₂.vm).frames = .java g₀ :: r := hr
  rcases hq' with ⟨hqc, L, hfe, hL⟩ | ⟨q, rfl, E, ce, L, hx, hce, hcv, hcl, hW₂, hsm, hL⟩
  · obtain ⟨⟨v, rfl⟩, hW₂, e2, q2, q3, q4, q5, q6⟩ := id hfe
    have e3 : s₂ = ({ (U.calling g mk a).setFrames s₂.frames with heap := s₂.heap, slotsUsed := s₂.slotsUsed } : State).setVm s₂.vm := by
      have : s₂ = ({ s₂ with vm := (U.calling g mk a).vm } : State).setVm s₂.vm := rfl
      rw [e2] at this
      exact this
    obtain ⟨c₂, i₂, len₂, hc₂, hd₂, hf₂⟩ := hend
    have hW' : U.WarmedH s₂.vm := hW₂
    have hcc : c₂ = c := by
      have h1 : s₂.code? g.method = U.code? g.method := by
        rw [State.code?_eq, State.code?_eq, hW'.alike.method?]
      exact Option.some.inj (hc₂.symm.trans (h1.trans h.code))
    subst hcc
    have hlen : len₂ = len := by rw [hdg] at hd₂; cases hd₂; rfl
    subst hlen
    have hs₂ : s₂ = (({ U with heap := s₂.heap, slotsUsed := s₂.slotsUsed } : State).setVm s₂.vm).setTop { g with pc := g.pc + len₂, stack := v.toList ++ g.stack } := by
      refine e3.trans ?_
      rw [hf₂, State.calling_eq h.top, State.setFrames_setFrames, State.setTop_of_frames _ hr', hr]
      rfl
    have hsame : U.sameButNew ({ U with heap := s₂.heap, slotsUsed := s₂.slotsUsed } : State) L mc ms := by
      refine ⟨?_, q2, q3, q4, q5, q6⟩
      obtain ⟨t, ht, -⟩ := State.frames_cons hr
      show ({ U with heap := s₂.heap, slotsUsed := s₂.slotsUsed } : State) = { U.setFrames U.frames with heap := s₂.heap, slotsUsed := s₂.slotsUsed }
      rw [State.setFrames_self ht]
    subst hg
    refine Or.inl ⟨v, ⟨(({ U with heap := s₂.heap, slotsUsed := s₂.slotsUsed } : State).setVm s₂.vm), Ls ++ L, c0 + mc, s0 + ms⟩,
      ⟨X.admits, X.cas, X.clock, X.frames, X.room, X.hears, X.method, X.code, (X.here.setHeapUsed s₂.heap s₂.slotsUsed).setVm hW'.alike, X.tail, State.WarmedH.trans X.warmed hW', X.limits, X.bytes, X.same.trans (hsame.setVm s.vm)⟩,
      ⟨g, mk, s₂, L, rfl, rfl, hqc, rfl, hL, rfl, rfl⟩, ?_⟩
    show Steps p.tables e below _ ((({ U with heap := s₂.heap, slotsUsed := s₂.slotsUsed } : State).setVm s₂.vm).setTop { g with pc := g.pc + len₂, stack := v.toList ++ g.stack })
    rw [← hs₂]
    exact hsteps
  · obtain ⟨e2, q2, q3, q4, q5, q6⟩ := id hsm
    have e3 : s₂ = ({ (U.calling g mk a).setFrames s₂.frames with heap := s₂.heap, slotsUsed := s₂.slotsUsed } : State).setVm s₂.vm := by
      have : s₂ = ({ s₂ with vm := (U.calling g mk a).vm } : State).setVm s₂.vm := rfl
      rw [e2] at this
      exact this
    have hf₂ : s₂.frames = .throwing q :: .java g :: U.frames.tail := hend
    have hW' : U.WarmedH s₂.vm := hW₂
    have hs₂ : s₂ = ((({ U with heap := s₂.heap, slotsUsed := s₂.slotsUsed } : State).setVm s₂.vm).setTop g).pushFrame (.throwing q) := by
      refine e3.trans ?_
      rw [hf₂, State.calling_eq h.top, State.setFrames_setFrames, State.pushFrame, State.frames_setTop _ hr', State.setTop_of_frames _ hr', State.setFrames_setFrames, hr]
      rfl
    have hsame : U.sameButNew ({ U with heap := s₂.heap, slotsUsed := s₂.slotsUsed } : State) L mc ms := by
      refine ⟨?_, q2, q3, q4, q5, q6⟩
      obtain ⟨t, ht, -⟩ := State.frames_cons hr
      show ({ U with heap := s₂.heap, slotsUsed := s₂.slotsUsed } : State) = { U.setFrames U.frames with heap := s₂.heap, slotsUsed := s₂.slotsUsed }
      rw [State.setFrames_self ht]
    subst hg
    refine Or.inr ⟨q, ⟨(({ U with heap := s₂.heap, slotsUsed := s₂.slotsUsed } : State).setVm s₂.vm), Ls ++ L, c0 + mc, s0 + ms⟩,
      ⟨X.admits, X.cas, X.clock, X.frames, X.room, X.hears, X.method, X.code, (X.here.setHeapUsed s₂.heap s₂.slotsUsed).setVm hW'.alike, X.tail, State.WarmedH.trans X.warmed hW', X.limits, X.bytes, X.same.trans (hsame.setVm s.vm)⟩,
      ⟨g, mk, s₂, L, E, ce, rfl, rfl, hx, hce, hcv, hcl, rfl, hL, rfl, rfl⟩, ?_⟩
    show Steps p.tables e below _ (((({ U with heap := s₂.heap, slotsUsed := s₂.slotsUsed } : State).setVm s₂.vm).setTop g).pushFrame (.throwing q))
    rw [← hs₂]
    exact hsteps
end Payer
section Calls
variable {p : Program} {l : Launch} {e : Env} {R : Room} {s : State} {m : MethodId} {args : Array Value} {below : List Frame} {meth : Method} {c : Code} {T : State} {locs : List Loc} {cells slots : Nat}
theorem vx_callV (X : Stand p l e R s m args below meth c T locs cells slots) (hexec : p.tables.exec = Jvm.exec) {own C : String} {index : Nat} {y : MethodName} {bytes : ByteArray} {maxL : Nat} {ret : Option FieldType}
    (hown : s.vm.findClass own = some m.cls) (hlink : (Cond.methodLink own index y).before args s = true) (hinst : (Cond.instanceMethod y).before args s = true) (hsel : (Cond.selects C y y).before args s = true)
    (hcode : (Cond.code y bytes maxL ret).before args s = true) (hy : y.cls ≠ "java/lang/invoke/MethodHandle" ∧ y.cls ≠ "java/lang/invoke/VarHandle")
    {W9 : Nat} {Pre : Pt → Array Value → Prop} {Post : Pt → Array Value → Option Value → Pt → Prop} {PostX : Pt → Array Value → Addr → Pt → Prop} (hK : vx_Back l R p e below s args y 3 W9 Pre Post PostX)
    {b : Addr} {cellB : Cell} (hcell : T.heap[b]? = some cellB) (hobj : cellB.vm.isStatics = false) (hcls : s.vm.findClass C = some cellB.cls)
    {g : JFrame} (hg : g.method = m) (hsize : g.locals.size = c.maxLocals) {argsL rest : List Value} (hlen : ∀ sig, parseMethodDescriptor y.desc = some sig → argsL.length = sig.parameters.length)
    (hstack : g.stack = argsL.reverse ++ .ref b :: rest) (hW : 2 * g.monitorRoom + (rest.map fun v => v.category).sum ≤ W9) (hdg : decode c.code g.pc = .ok (.invokevirtual index, 3))
    (hpre : ∀ vm₁, s.WarmedH vm₁ → Pre ⟨T.setVm vm₁, locs, cells, slots⟩ (Value.ref b :: argsL).toArray) :
    (∃ (v : Option Value) (vm₁ : Vm) (B : Pt), s.WarmedH vm₁ ∧ Stand p l e R s m args below meth c B.U B.locs B.cells B.slots ∧ Post ⟨T.setVm vm₁, locs, cells, slots⟩ (Value.ref b :: argsL).toArray v B ∧
      ∀ target, Steps p.tables e below (B.U.setTop { g with pc := g.pc + 3, stack := v.toList ++ rest }) target → Steps p.tables e below (T.setTop g) target) ∨
    (∃ (q : Addr) (vm₁ : Vm) (B : Pt), s.WarmedH vm₁ ∧ Stand p l e R s m args below meth c B.U B.locs B.cells B.slots ∧ PostX ⟨T.setVm vm₁, locs, cells, slots⟩ (Value.ref b :: argsL).toArray q B ∧
      Steps p.tables e below (T.setTop g) ((B.U.setTop { g with stack := rest }).pushFrame (.throwing q))) := by
  obtain ⟨mk, methM, hnamed, hmethM, hstM, habM⟩ := Cond.instanceMethod_spec hinst
  obtain ⟨methM', cM, hmethM', -, -, -, -, -, -, hsigM⟩ := Cond.code_spec hnamed hcode
  cases hmethM.symm.trans hmethM'
  obtain ⟨c2, r2, m2, q1, q2, q3, q4, kP, hkP, hkPi⟩ := Cond.selects_spec hsel
  cases hcls.symm.trans q1
  cases (State.methodFound?_of_named hnamed hy).symm.trans q2
  cases hnamed.symm.trans q3
  have hselP : selectMethod e.platform s.vm cellB.cls mk = .method mk := by rw [Launch.admits_selectMethod X.admits]; exact q4
  obtain ⟨vm₁, X₁, hstep₁⟩ := X.invokevirtual hexec hown hlink hnamed hmethM hstM hkP hkPi hy (a := b) (cell := cellB) hcell
    (fun z h => by rw [h] at hobj; cases hobj) hselP hmethM habM hkP hkPi (g := g) hg (argsL := argsL) (rest := rest) (hlen _ hsigM) hstack hdg
  rcases hK m meth c ⟨T.setVm vm₁, locs, cells, slots⟩ { g with stack := rest } (.invokevirtual index) mk (Value.ref b :: argsL).toArray X₁ hg hsize hdg hW (X₁.named hnamed) (hpre vm₁ X₁.warmed) with ⟨v, B, X', hpost, hsteps⟩ | ⟨q, B, X', hpost, hsteps⟩
  · exact Or.inl ⟨v, vm₁, B, X₁.warmed, X', hpost, fun target h => hstep₁ _ fun acts => by rw [doInvoke_state]; exact hsteps.trans h⟩
  · exact Or.inr ⟨q, vm₁, B, X₁.warmed, X', hpost, hstep₁ _ fun acts => by rw [doInvoke_state]; exact hsteps⟩
theorem vx_callS (X : Stand p l e R s m args below meth c T locs cells slots) (hexec : p.tables.exec = Jvm.exec) {own : String} {index : Nat} {y : MethodName} {bytes : ByteArray} {maxL : Nat} {ret : Option FieldType}
    (hown : s.vm.findClass own = some m.cls) (hlink : (Cond.methodLink own index y).before args s = true) (hstat : (Cond.static y).before args s = true) (hinit : (Cond.initialized y.cls).before args s = true)
    (hcode : (Cond.code y bytes maxL ret).before args s = true) (hy : y.cls ≠ "java/lang/invoke/MethodHandle" ∧ y.cls ≠ "java/lang/invoke/VarHandle")
    {W9 : Nat} {Pre : Pt → Array Value → Prop} {Post : Pt → Array Value → Option Value → Pt → Prop} {PostX : Pt → Array Value → Addr → Pt → Prop} (hK : vx_Back l R p e below s args y 3 W9 Pre Post PostX)
    {g : JFrame} (hg : g.method = m) (hsize : g.locals.size = c.maxLocals) {argsL rest : List Value} (hlen : ∀ sig, parseMethodDescriptor y.desc = some sig → argsL.length = sig.parameters.length)
    (hstack : g.stack = argsL.reverse ++ rest) (hW : 2 * g.monitorRoom + (rest.map fun v => v.category).sum ≤ W9) (hdg : decode c.code g.pc = .ok (.invokestatic index, 3))
    (hpre : ∀ vm₁, s.WarmedH vm₁ → Pre ⟨T.setVm vm₁, locs, cells, slots⟩ argsL.toArray) :
    (∃ (v : Option Value) (vm₁ : Vm) (B : Pt), s.WarmedH vm₁ ∧ Stand p l e R s m args below meth c B.U B.locs B.cells B.slots ∧ Post ⟨T.setVm vm₁, locs, cells, slots⟩ argsL.toArray v B ∧
      ∀ target, Steps p.tables e below (B.U.setTop { g with pc := g.pc + 3, stack := v.toList ++ rest }) target → Steps p.tables e below (T.setTop g) target) ∨
    (∃ (q : Addr) (vm₁ : Vm) (B : Pt), s.WarmedH vm₁ ∧ Stand p l e R s m args below meth c B.U B.locs B.cells B.slots ∧ PostX ⟨T.setVm vm₁, locs, cells, slots⟩ argsL.toArray q B ∧
      Steps p.tables e below (T.setTop g) ((B.U.setTop { g with stack := rest }).pushFrame (.throwing q))) := by
  obtain ⟨mk, hnamed⟩ := Cond.code_named hcode
  obtain ⟨methM, cM, hmethM, -, -, -, -, -, -, hsigM⟩ := Cond.code_spec hnamed hcode
  have hstatic : methM.isStatic = true := Cond.static_spec hnamed hmethM hstat
  obtain ⟨kP, hkP, -⟩ := className_of_methodNamed hnamed
  have hinitP : kP.init = .initialized := Cond.initialized_spec (findClass_of_methodNamed hnamed) hkP hinit
  obtain ⟨vm₁, X₁, hstep₁⟩ := X.invokestatic hexec hown hlink hnamed hmethM hstatic hkP hinitP hy (g := g) hg (argsL := argsL) (rest := rest) (hlen _ hsigM) hstack hdg
  rcases hK m meth c ⟨T.setVm vm₁, locs, cells, slots⟩ { g with stack := rest } (.invokestatic index) mk argsL.toArray X₁ hg hsize hdg hW (X₁.named hnamed) (hpre vm₁ X₁.warmed) with ⟨v, B, X', hpost, hsteps⟩ | ⟨q, B, X', hpost, hsteps⟩
  · exact Or.inl ⟨v, vm₁, B, X₁.warmed, X', hpost, fun target h => hstep₁ _ fun acts => by rw [doInvoke_state]; exact hsteps.trans h⟩
  · exact Or.inr ⟨q, vm₁, B, X₁.warmed, X', hpost, hstep₁ _ fun acts => by rw [doInvoke_state]; exact hsteps⟩
end Calls
theorem vx_cls {s : State} {T : State} {vm₁ : Vm} {E : String} {k : ClassId} (hW : s.WarmedH vm₁) (h : (T.setVm vm₁).vm.findClass E = some k) : s.vm.findClass E = some k := by
  have h1 : vm₁.findClass E = some k := h
  rw [hW.alike.findClass] at h1
  exact h1
/-- the method's frame g, with q thrown over it -/
def vx_W (p : Program) (l : Launch) (e : Env) (R : Room) (s : State) (m : MethodId) (args : Array Value) (below : List Frame) (meth : Method) (c : Code) (H : Heap) (locs : List Loc) (cells slots : Nat) (Q : State → Prop) (g : JFrame) (q : Addr) : Prop :=
  ∀ T : State, T.heap = H → Stand p l e R s m args below meth c T locs cells slots → ∃ t, Steps p.tables e below ((T.setTop g).pushFrame (.throwing q)) t ∧ Q t
def vx_Run (p : Program) (l : Launch) (e : Env) (R : Room) (s : State) (m : MethodId) (args : Array Value) (below : List Frame) (meth : Method) (c : Code) (H : Heap) (locs : List Loc) (cells slots mc ms : Nat) (g : JFrame) (rest : List Value) (Qa : State → Outcome → State → Prop) (XC : String → State → State → Prop) (free : Addr → Prop) : Prop :=
  ∀ T : State, T.heap = H → Stand p l e R s m args below meth c T locs cells slots →
    (∃ (v : Option Value) (st₀ t T' : State) (L : List Loc), st₀.heap = H ∧ Stand p l e R s m args below meth c T' (locs ++ L) (cells + mc) (slots + ms) ∧ (∀ q ∈ L, free q.base) ∧ T'.heap = t.heap ∧ T'.vm = t.vm ∧ Qa st₀ (.returned v) t ∧
      Goes p e below T g T' { g with pc := g.pc + 3, stack := v.toList ++ rest }) ∨
    (∃ (q : Addr) (st₀ t T' : State) (L : List Loc) (E : String) (ce : Cell), st₀.heap = H ∧ Stand p l e R s m args below meth c T' (locs ++ L) (cells + mc) (slots + ms) ∧ (∀ z ∈ L, free z.base) ∧ T'.heap = t.heap ∧ T'.vm = t.vm ∧ XC E st₀ t ∧ t.heap[q]? = some ce ∧ ce.vm = .none ∧ s.vm.findClass E = some ce.cls ∧
      Steps p.tables e below (T.setTop g) ((T'.setTop { g with stack := rest }).pushFrame (.throwing q)))
def vx_X {S : Type} (px : S → Prop) (B : String → S → State → Prop) (A : Nat → Prop) : String → State → State → Prop := fun E st t => ∃ u : S, px u ∧ B E u t ∧ va_F A st t
section Runs
variable {p : Program} {l : Launch} {e : Env} {R : Room} {s : State} {m : MethodId} {args : Array Value} {below : List Frame} {meth : Method} {c : Code} {H : Heap} {locs : List Loc} {cells slots : Nat}
variable {y : MethodName} {bytes cc : ByteArray} {maxL nL mc ms n index : Nat} {ret : Option FieldType} {ws : List Cond} {rm : Room} {Pc : Array Value → State → Prop} {Qc : Array Value → State → Outcome → State → Prop} {XC : String → State → State → Prop} {free : Addr → Prop} {Ts : List Cond} {own C : String} {b : Addr} {As rest : List Value} {g : JFrame}
theorem vx_callBack (cb : CallB R s args own index y bytes maxL ret ws rm mc ms n) (hM : vx_Met l y ws rm Pc Qc XC mc ms free) (hbl : FrameBlind Pc) : vx_Back l R p e below s args y 3 8 (PreOf R mc ms Pc) (PostOf Qc mc ms free) (vx_Post XC mc ms free) := by
  obtain ⟨hrc, hrs, hfr, hlo, hws, hcw, -, hini, -⟩ := cb
  exact vx_back (bytes := bytes) (maxL := maxL) (ret := ret) hM hbl hrc hrs hfr hlo hws hcw (fun a' U hW => word_at hW (Or.inl (by first | rfl | simp [Cond.onTables, Cond.keeps, Cond.steady])) hini)
theorem vx_runV (S : CallFix p m c cc nL s args Ts own) (hM : vx_Met l y ws rm Pc Qc XC mc ms free) (cw : CallW R s args own C index y bytes maxL ret ws rm mc ms n) (hp : PreV s H C b Pc As)
    (hg : g.method = m) (hn : As.length = n) (hsize : g.locals.size = nL) (hstack : g.stack = As.reverse ++ .ref b :: rest) (hW : 2 * g.monitorRoom + (rest.map fun v => v.category).sum ≤ 8) (hdg : decode cc g.pc = .ok (.invokevirtual index, 3)) (hf : cells + mc ≤ R.cells ∧ slots + ms ≤ R.slots) :
    vx_Run p l e R s m args below meth c H locs cells slots mc ms g rest (Qc (Value.ref b :: As).toArray) XC free := by
  have hK : vx_Back l R p e below s args y 3 8 (PreOf R mc ms Pc) (PostOf Qc mc ms free) (vx_Post XC mc ms free) := vx_callBack cw.1 hM hp.1
  obtain ⟨⟨-, -, -, -, -, -, hcode, -, hy, hlen, hl⟩, hin, hse⟩ := cw
  obtain ⟨hx, hb, hml, ho, -⟩ := S
  obtain ⟨-, ⟨cellB, hcB, hoB, hclB⟩, hPc⟩ := hp
  intro T hT X
  rcases vx_callV X hx (C := C) (bytes := bytes) (maxL := maxL) (ret := ret) ho hl hin hse hcode hy hK (by rw [hT]; exact hcB) hoB hclB hg (hsize.trans hml.symm) (argsL := As) (rest := rest) (fun sig h => hn.trans (hlen sig h)) hstack hW (by rw [hb]; exact hdg)
    (fun vm₁ hW₁ => ⟨hf.1, hf.2, hPc (T.setVm vm₁) hT hW₁⟩) with ⟨v, vm₁, ⟨U', l2, c2, s2⟩, hW₁, X', ⟨g', mk, t, L, e1, e2, hq, h1, hL, h2, h3⟩, st⟩ | ⟨q, vm₁, ⟨U', l2, c2, s2⟩, hW₁, X', ⟨g', mk, t, L, E, ce, e1, e2, hq, hce, hcv, hcl, h1, hL, h2, h3⟩, st⟩
  · dsimp only [Pt.U, Pt.locs, Pt.cells, Pt.slots] at X' e1 e2 h1 h2 h3 st
    subst h1; subst h2; subst h3
    exact Or.inl ⟨v, (T.setVm vm₁).calling g' mk (Value.ref b :: As).toArray, t, U', L, hT, X', hL, e1, e2, hq, st⟩
  · dsimp only [Pt.U, Pt.locs, Pt.cells, Pt.slots] at X' e1 e2 h1 h2 h3 st hcl
    subst h1; subst h2; subst h3
    exact Or.inr ⟨q, (T.setVm vm₁).calling g' mk (Value.ref b :: As).toArray, t, U', L, E, ce, hT, X', hL, e1, e2, hq, hce, hcv, vx_cls hW₁ hcl, st⟩
theorem vx_runS (S : CallFix p m c cc nL s args Ts own) (hM : vx_Met l y ws rm Pc Qc XC mc ms free) (cw : CallB R s args own index y bytes maxL ret ws rm mc ms n ∧ (Cond.static y).before args s = true) (hp : PreS s H Pc As)
    (hg : g.method = m) (hn : As.length = n) (hsize : g.locals.size = nL) (hstack : g.stack = As.reverse ++ rest) (hW : 2 * g.monitorRoom + (rest.map fun v => v.category).sum ≤ 8) (hdg : decode cc g.pc = .ok (.invokestatic index, 3)) (hf : cells + mc ≤ R.cells ∧ slots + ms ≤ R.slots) :
    vx_Run p l e R s m args below meth c H locs cells slots mc ms g rest (Qc As.toArray) XC free := by
  have hK : vx_Back l R p e below s args y 3 8 (PreOf R mc ms Pc) (PostOf Qc mc ms free) (vx_Post XC mc ms free) := vx_callBack cw.1 hM hp.1
  obtain ⟨⟨-, -, -, -, -, -, hcode, hini, hy, hlen, hl⟩, hstt⟩ := cw
  obtain ⟨hx, hb, hml, ho, -⟩ := S
  intro T hT X
  rcases vx_callS X hx (bytes := bytes) (maxL := maxL) (ret := ret) ho hl hstt hini hcode hy hK hg (hsize.trans hml.symm) (argsL := As) (rest := rest) (fun sig h => hn.trans (hlen sig h)) hstack hW (by rw [hb]; exact hdg)
    (fun vm₁ hW₁ => ⟨hf.1, hf.2, hp.2 (T.setVm vm₁) hT hW₁⟩) with ⟨v, vm₁, ⟨U', l2, c2, s2⟩, hW₁, X', ⟨g', mk, t, L, e1, e2, hq, h1, hL, h2, h3⟩, st⟩ | ⟨q, vm₁, ⟨U', l2, c2, s2⟩, hW₁, X', ⟨g', mk, t, L, E, ce, e1, e2, hq, hce, hcv, hcl, h1, hL, h2, h3⟩, st⟩
  · dsimp only [Pt.U, Pt.locs, Pt.cells, Pt.slots] at X' e1 e2 h1 h2 h3 st
    subst h1; subst h2; subst h3
    exact Or.inl ⟨v, (T.setVm vm₁).calling g' mk As.toArray, t, U', L, hT, X', hL, e1, e2, hq, st⟩
  · dsimp only [Pt.U, Pt.locs, Pt.cells, Pt.slots] at X' e1 e2 h1 h2 h3 st hcl
    subst h1; subst h2; subst h3
    exact Or.inr ⟨q, (T.setVm vm₁).calling g' mk As.toArray, t, U', L, E, ce, hT, X', hL, e1, e2, hq, hce, hcv, vx_cls hW₁ hcl, st⟩
end Runs
section Rows
variable {p : Program} {l : Launch} {e : Env} {R : Room} {s : State} {m : MethodId} {args : Array Value} {below : List Frame} {meth : Method} {c : Code} {H : Heap} {locs : List Loc} {cells slots : Nat} {Q : State → Prop}
variable {mc ms : Nat} {free : Addr → Prop} {A0 A1 : Nat → Prop} {H0 : Heap} {a : Array Value} {pc : Nat} {ls : Array Slot} {st0 rest : List Value}
theorem vx_keep {st₀ t T' : State} {L : List Loc} (h0 : st₀.heap = H) (e1 : T'.heap = t.heap) (hS : va_S A0 H0 H locs) (hA : ∀ q, q < H.size → A1 q → A0 q) (hf : ∀ q, free q → A0 q) (hL : ∀ q ∈ L, free q.base) (hF : va_F A1 st₀ t) :
    H.size ≤ T'.heap.size ∧ (∀ q : Nat, q < H.size → ¬ A1 q → T'.heap[q]? = H[q]?) ∧ va_S A0 H0 T'.heap (locs ++ L) := by
  obtain ⟨hz, hk⟩ := hF
  rw [h0] at hz hk
  exact ⟨by rw [e1]; exact hz, fun q h1 h2 => by rw [e1]; exact hk q h1 h2,
    ⟨Nat.le_trans hS.1 (by rw [e1]; exact hz), fun q h1 h2 => by rw [e1, hk q (Nat.lt_of_lt_of_le h1 hS.1) (fun z => h2 (hA q (Nat.lt_of_lt_of_le h1 hS.1) z))]; exact hS.2.1 q h1 h2, fun q hq => by
      rcases List.mem_append.mp hq with h | h
      · exact hS.2.2 q h
      · exact hf _ (hL q h)⟩⟩
theorem vx_calli {S SX : Type} {post : Int32 → S → Prop} {px : SX → Prop} {B : S → State → Prop} {BX : String → SX → State → Prop} {AX : Nat → Prop} (hr : vx_Run p l e R s m args below meth c H locs cells slots mc ms (F0 m pc ls st0) rest (va_Qi post B A1 a) (vx_X px BX AX) free) (hS : va_S A0 H0 H locs) (hA : ∀ q, q < H.size → A1 q → A0 q) (hf : ∀ q, free q → A0 q) (hAX : ∀ q, q < H.size → AX q → A0 q)
    (kx : ∀ (E : String) (ce : Cell) (q9 : Addr) (u : SX) (t : State) (H1 : Heap) (locs1 : List Loc), t.heap = H1 → s.vm.Alike t.vm → px u → BX E u t → H.size ≤ H1.size → (∀ q : Nat, q < H.size → ¬ AX q → H1[q]? = H[q]?) → va_S A0 H0 H1 locs1 → H1[q9]? = some ce → ce.vm = .none → s.vm.findClass E = some ce.cls → vx_W p l e R s m args below meth c H1 locs1 (cells + mc) (slots + ms) Q (F0 m pc ls rest) q9)
    (kk : ∀ (r : Int32) (u : S) (t : State) (H1 : Heap) (locs1 : List Loc), t.heap = H1 → s.vm.Alike t.vm → post r u → B u t → H.size ≤ H1.size → (∀ q : Nat, q < H.size → ¬ A1 q → H1[q]? = H[q]?) → va_S A0 H0 H1 locs1 → W p l e R s m args below meth c H1 locs1 (cells + mc) (slots + ms) Q (F0 m (pc + 3) ls (.int r :: rest))) : W p l e R s m args below meth c H locs cells slots Q (F0 m pc ls st0) := by
  intro T hT X
  rcases hr T hT X with ⟨v, st₀, t, T', L, h0, X', hL, e1, e2, ⟨⟨r, u, hv, hp, hb⟩, hF⟩, st⟩ | ⟨q, st₀, t, T', L, E, ce, h0, X', hL, e1, e2, ⟨u, hp, hb, hF⟩, hce, hcv, hcl, st⟩
  · cases hv
    obtain ⟨k1, k2, k3⟩ := vx_keep h0 e1 hS hA hf hL hF
    obtain ⟨t2, a1, b1⟩ := kk r u t T'.heap (locs ++ L) e1.symm (by rw [← e2]; exact X'.warmed.alike) hp hb k1 k2 k3 T' rfl X'
    exact ⟨t2, st t2 a1, b1⟩
  · obtain ⟨k1, k2, k3⟩ := vx_keep h0 e1 hS hAX hf hL hF
    obtain ⟨t2, a1, b1⟩ := kx E ce q u t T'.heap (locs ++ L) e1.symm (by rw [← e2]; exact X'.warmed.alike) hp hb k1 k2 k3 (by rw [e1]; exact hce) hcv hcl T' rfl X'
    exact ⟨t2, st.trans a1, b1⟩
theorem vx_calll {S SX : Type} {post : Int64 → S → Prop} {px : SX → Prop} {B : S → State → Prop} {BX : String → SX → State → Prop} {AX : Nat → Prop} (hr : vx_Run p l e R s m args below meth c H locs cells slots mc ms (F0 m pc ls st0) rest (va_Ql post B A1 a) (vx_X px BX AX) free) (hS : va_S A0 H0 H locs) (hA : ∀ q, q < H.size → A1 q → A0 q) (hf : ∀ q, free q → A0 q) (hAX : ∀ q, q < H.size → AX q → A0 q)
    (kx : ∀ (E : String) (ce : Cell) (q9 : Addr) (u : SX) (t : State) (H1 : Heap) (locs1 : List Loc), t.heap = H1 → s.vm.Alike t.vm → px u → BX E u t → H.size ≤ H1.size → (∀ q : Nat, q < H.size → ¬ AX q → H1[q]? = H[q]?) → va_S A0 H0 H1 locs1 → H1[q9]? = some ce → ce.vm = .none → s.vm.findClass E = some ce.cls → vx_W p l e R s m args below meth c H1 locs1 (cells + mc) (slots + ms) Q (F0 m pc ls rest) q9)
    (kk : ∀ (r : Int64) (u : S) (t : State) (H1 : Heap) (locs1 : List Loc), t.heap = H1 → s.vm.Alike t.vm → post r u → B u t → H.size ≤ H1.size → (∀ q : Nat, q < H.size → ¬ A1 q → H1[q]? = H[q]?) → va_S A0 H0 H1 locs1 → W p l e R s m args below meth c H1 locs1 (cells + mc) (slots + ms) Q (F0 m (pc + 3) ls (.long r :: rest))) : W p l e R s m args below meth c H locs cells slots Q (F0 m pc ls st0) := by
  intro T hT X
  rcases hr T hT X with ⟨v, st₀, t, T', L, h0, X', hL, e1, e2, ⟨⟨r, u, hv, hp, hb⟩, hF⟩, st⟩ | ⟨q, st₀, t, T', L, E, ce, h0, X', hL, e1, e2, ⟨u, hp, hb, hF⟩, hce, hcv, hcl, st⟩
  · cases hv
    obtain ⟨k1, k2, k3⟩ := vx_keep h0 e1 hS hA hf hL hF
    obtain ⟨t2, a1, b1⟩ := kk r u t T'.heap (locs ++ L) e1.symm (by rw [← e2]; exact X'.warmed.alike) hp hb k1 k2 k3 T' rfl X'
    exact ⟨t2, st t2 a1, b1⟩
  · obtain ⟨k1, k2, k3⟩ := vx_keep h0 e1 hS hAX hf hL hF
    obtain ⟨t2, a1, b1⟩ := kx E ce q u t T'.heap (locs ++ L) e1.symm (by rw [← e2]; exact X'.warmed.alike) hp hb k1 k2 k3 (by rw [e1]; exact hce) hcv hcl T' rfl X'
    exact ⟨t2, st.trans a1, b1⟩
theorem vx_callf {S SX : Type} {post : UInt32 → S → Prop} {px : SX → Prop} {B : S → State → Prop} {BX : String → SX → State → Prop} {AX : Nat → Prop} (hr : vx_Run p l e R s m args below meth c H locs cells slots mc ms (F0 m pc ls st0) rest (va_Qf post B A1 a) (vx_X px BX AX) free) (hS : va_S A0 H0 H locs) (hA : ∀ q, q < H.size → A1 q → A0 q) (hf : ∀ q, free q → A0 q) (hAX : ∀ q, q < H.size → AX q → A0 q)
    (kx : ∀ (E : String) (ce : Cell) (q9 : Addr) (u : SX) (t : State) (H1 : Heap) (locs1 : List Loc), t.heap = H1 → s.vm.Alike t.vm → px u → BX E u t → H.size ≤ H1.size → (∀ q : Nat, q < H.size → ¬ AX q → H1[q]? = H[q]?) → va_S A0 H0 H1 locs1 → H1[q9]? = some ce → ce.vm = .none → s.vm.findClass E = some ce.cls → vx_W p l e R s m args below meth c H1 locs1 (cells + mc) (slots + ms) Q (F0 m pc ls rest) q9)
    (kk : ∀ (r : UInt32) (u : S) (t : State) (H1 : Heap) (locs1 : List Loc), t.heap = H1 → s.vm.Alike t.vm → post r u → B u t → H.size ≤ H1.size → (∀ q : Nat, q < H.size → ¬ A1 q → H1[q]? = H[q]?) → va_S A0 H0 H1 locs1 → W p l e R s m args below meth c H1 locs1 (cells + mc) (slots + ms) Q (F0 m (pc + 3) ls (.float r :: rest))) : W p l e R s m args below meth c H locs cells slots Q (F0 m pc ls st0) := by
  intro T hT X
  rcases hr T hT X with ⟨v, st₀, t, T', L, h0, X', hL, e1, e2, ⟨⟨r, u, hv, hp, hb⟩, hF⟩, st⟩ | ⟨q, st₀, t, T', L, E, ce, h0, X', hL, e1, e2, ⟨u, hp, hb, hF⟩, hce, hcv, hcl, st⟩
  · cases hv
    obtain ⟨k1, k2, k3⟩ := vx_keep h0 e1 hS hA hf hL hF
    obtain ⟨t2, a1, b1⟩ := kk r u t T'.heap (locs ++ L) e1.symm (by rw [← e2]; exact X'.warmed.alike) hp hb k1 k2 k3 T' rfl X'
    exact ⟨t2, st t2 a1, b1⟩
  · obtain ⟨k1, k2, k3⟩ := vx_keep h0 e1 hS hAX hf hL hF
    obtain ⟨t2, a1, b1⟩ := kx E ce q u t T'.heap (locs ++ L) e1.symm (by rw [← e2]; exact X'.warmed.alike) hp hb k1 k2 k3 (by rw [e1]; exact hce) hcv hcl T' rfl X'
    exact ⟨t2, st.trans a1, b1⟩
theorem vx_calld {S SX : Type} {post : UInt64 → S → Prop} {px : SX → Prop} {B : S → State → Prop} {BX : String → SX → State → Prop} {AX : Nat → Prop} (hr : vx_Run p l e R s m args below meth c H locs cells slots mc ms (F0 m pc ls st0) rest (va_Qd post B A1 a) (vx_X px BX AX) free) (hS : va_S A0 H0 H locs) (hA : ∀ q, q < H.size → A1 q → A0 q) (hf : ∀ q, free q → A0 q) (hAX : ∀ q, q < H.size → AX q → A0 q)
    (kx : ∀ (E : String) (ce : Cell) (q9 : Addr) (u : SX) (t : State) (H1 : Heap) (locs1 : List Loc), t.heap = H1 → s.vm.Alike t.vm → px u → BX E u t → H.size ≤ H1.size → (∀ q : Nat, q < H.size → ¬ AX q → H1[q]? = H[q]?) → va_S A0 H0 H1 locs1 → H1[q9]? = some ce → ce.vm = .none → s.vm.findClass E = some ce.cls → vx_W p l e R s m args below meth c H1 locs1 (cells + mc) (slots + ms) Q (F0 m pc ls rest) q9)
    (kk : ∀ (r : UInt64) (u : S) (t : State) (H1 : Heap) (locs1 : List Loc), t.heap = H1 → s.vm.Alike t.vm → post r u → B u t → H.size ≤ H1.size → (∀ q : Nat, q < H.size → ¬ A1 q → H1[q]? = H[q]?) → va_S A0 H0 H1 locs1 → W p l e R s m args below meth c H1 locs1 (cells + mc) (slots + ms) Q (F0 m (pc + 3) ls (.double r :: rest))) : W p l e R s m args below meth c H locs cells slots Q (F0 m pc ls st0) := by
  intro T hT X
  rcases hr T hT X with ⟨v, st₀, t, T', L, h0, X', hL, e1, e2, ⟨⟨r, u, hv, hp, hb⟩, hF⟩, st⟩ | ⟨q, st₀, t, T', L, E, ce, h0, X', hL, e1, e2, ⟨u, hp, hb, hF⟩, hce, hcv, hcl, st⟩
  · cases hv
    obtain ⟨k1, k2, k3⟩ := vx_keep h0 e1 hS hA hf hL hF
    obtain ⟨t2, a1, b1⟩ := kk r u t T'.heap (locs ++ L) e1.symm (by rw [← e2]; exact X'.warmed.alike) hp hb k1 k2 k3 T' rfl X'
    exact ⟨t2, st t2 a1, b1⟩
  · obtain ⟨k1, k2, k3⟩ := vx_keep h0 e1 hS hAX hf hL hF
    obtain ⟨t2, a1, b1⟩ := kx E ce q u t T'.heap (locs ++ L) e1.symm (by rw [← e2]; exact X'.warmed.alike) hp hb k1 k2 k3 (by rw [e1]; exact hce) hcv hcl T' rfl X'
    exact ⟨t2, st.trans a1, b1⟩
theorem vx_callv {S SX : Type} {post : S → Prop} {px : SX → Prop} {B : S → State → Prop} {BX : String → SX → State → Prop} {AX : Nat → Prop} (hr : vx_Run p l e R s m args below meth c H locs cells slots mc ms (F0 m pc ls st0) rest (va_Qv post B A1 a) (vx_X px BX AX) free) (hS : va_S A0 H0 H locs) (hA : ∀ q, q < H.size → A1 q → A0 q) (hf : ∀ q, free q → A0 q) (hAX : ∀ q, q < H.size → AX q → A0 q)
    (kx : ∀ (E : String) (ce : Cell) (q9 : Addr) (u : SX) (t : State) (H1 : Heap) (locs1 : List Loc), t.heap = H1 → s.vm.Alike t.vm → px u → BX E u t → H.size ≤ H1.size → (∀ q : Nat, q < H.size → ¬ AX q → H1[q]? = H[q]?) → va_S A0 H0 H1 locs1 → H1[q9]? = some ce → ce.vm = .none → s.vm.findClass E = some ce.cls → vx_W p l e R s m args below meth c H1 locs1 (cells + mc) (slots + ms) Q (F0 m pc ls rest) q9)
    (kk : ∀ (u : S) (t : State) (H1 : Heap) (locs1 : List Loc), t.heap = H1 → s.vm.Alike t.vm → post u → B u t → H.size ≤ H1.size → (∀ q : Nat, q < H.size → ¬ A1 q → H1[q]? = H[q]?) → va_S A0 H0 H1 locs1 → W p l e R s m args below meth c H1 locs1 (cells + mc) (slots + ms) Q (F0 m (pc + 3) ls (rest))) : W p l e R s m args below meth c H locs cells slots Q (F0 m pc ls st0) := by
  intro T hT X
  rcases hr T hT X with ⟨v, st₀, t, T', L, h0, X', hL, e1, e2, ⟨⟨u, hv, hp, hb⟩, hF⟩, st⟩ | ⟨q, st₀, t, T', L, E, ce, h0, X', hL, e1, e2, ⟨u, hp, hb, hF⟩, hce, hcv, hcl, st⟩
  · cases hv
    obtain ⟨k1, k2, k3⟩ := vx_keep h0 e1 hS hA hf hL hF
    obtain ⟨t2, a1, b1⟩ := kk u t T'.heap (locs ++ L) e1.symm (by rw [← e2]; exact X'.warmed.alike) hp hb k1 k2 k3 T' rfl X'
    exact ⟨t2, st t2 a1, b1⟩
  · obtain ⟨k1, k2, k3⟩ := vx_keep h0 e1 hS hAX hf hL hF
    obtain ⟨t2, a1, b1⟩ := kx E ce q u t T'.heap (locs ++ L) e1.symm (by rw [← e2]; exact X'.warmed.alike) hp hb k1 k2 k3 (by rw [e1]; exact hce) hcv hcl T' rfl X'
    exact ⟨t2, st.trans a1, b1⟩
/-- caught by the row x of this method's table; the rows ahead don't take it -/
theorem vx_catch {own name : String} {E : String} {ce : Cell} {q : Addr} (hown : s.vm.findClass own = some m.cls) (pre : List ExceptionTableEntry) (x : ExceptionTableEntry) (suf : List ExceptionTableEntry) (hsplit : c.exceptionTable.toList = pre ++ x :: suf)
    (hpass : ∀ z ∈ pre, covers z pc = false ∨ (z.catchType ≠ 0 ∧ ∃ nm : String, (Cond.classLink own z.catchType nm).before args s = true ∧ va_Nc E nm s)) (hx : covers x pc = true) (h0 : x.catchType ≠ 0)
    (hlink : (Cond.classLink own x.catchType name).before args s = true) (hcast : (Cond.castable E name).before args s = true) (hcell : H[q]? = some ce) (hv : ce.vm = .none) (hcl : s.vm.findClass E = some ce.cls)
    (kk : W p l e R s m args below meth c H locs cells slots Q (F0 m x.handlerPc ls [.ref q])) : vx_W p l e R s m args below meth c H locs cells slots Q (F0 m pc ls rest) q := by
  intro T hT X
  have hpl : e.platform.magicAccessors = ({} : Platform).magicAccessors := by rw [X.admits.platform]
  obtain ⟨c3, c4, hc3, hc4, hasg⟩ := Cond.castable_spec hcast
  cases Option.some.inj (hc3.symm.trans hcl)
  obtain ⟨c5, hc5, hcl5⟩ := Cond.classLink_spec hown hlink e.platform hpl
  cases Option.some.inj (hc4.symm.trans hc5)
  obtain ⟨vm', X', st⟩ := X.thenCaughtThrough q (g := F0 m pc ls rest) rfl (Steps.refl _) (by rw [hT]; exact hcell) (by rw [hv]; rfl) (by obtain ⟨k9, h9, -⟩ := Vm.findClass_spec hcl; exact ⟨k9, h9⟩) pre x suf hsplit
    (fun z hz => by
      rcases hpass z hz with h | ⟨hz0, nm, hl1, hn1⟩
      · exact Or.inl h
      · obtain ⟨c6, hc6, hcl6⟩ := Cond.classLink_spec hown hl1 e.platform hpl
        obtain ⟨a8, b8, h1, h2, h3⟩ := hn1
        cases Option.some.inj (h1.symm.trans hcl)
        cases Option.some.inj (h2.symm.trans hc6)
        exact Or.inr ⟨hz0, _, hcl6, h3⟩) hx (Or.inr ⟨h0, c4, hcl5, hasg⟩)
  obtain ⟨t, a1, b1⟩ := kk (T.setVm vm') hT X'
  exact ⟨t, st.trans a1, b1⟩
end Rows
section Ends
variable {p : Program} {l : Launch} {e : Env} {R : Room} {s : State} {m : MethodId} {args : Array Value} {below : List Frame} {meth : Method} {c : Code} {H : Heap} {locs : List Loc} {cells slots : Nat} {Q : State → Prop}
variable {mc ms : Nat} {free : Addr → Prop} {A0 A1 : Nat → Prop} {H0 : Heap} {a : Array Value} {ls : Array Slot} {st0 rest : List Value}
variable {Qc : Array Value → State → Outcome → State → Prop} {XC : String → State → State → Prop}
/-- what a body that may throw owes at its end -/
def vx_MQ (below : List Frame) (Qc : Array Value → State → Outcome → State → Prop) (XC : String → State → State → Prop) (a : Array Value) (s : State) (mc ms : Nat) (free : Addr → Prop) : State → Prop := fun t =>
  ∃ o, t.status = .running ∧ Ended t below o ∧ vx_Q Qc XC mc ms free a s o t
theorem vx_ret {g : JFrame} {mc ms : Nat} (k : W p l e R s m args below meth c H locs cells slots (MQ below Qc args s mc ms free) g) : W p l e R s m args below meth c H locs cells slots (vx_MQ below Qc XC args s mc ms free) g := by
  intro T hT X
  obtain ⟨t, a1, o, b1, b2, b3, b4⟩ := k T hT X
  exact ⟨t, a1, o, b1, b2, Or.inl ⟨b3, b4⟩⟩
/-- not caught here: it goes on to the caller -/
theorem vx_widen {g : JFrame} {q : Addr} {k n : Nat} (h1 : cells ≤ k) (h2 : slots ≤ n) (kk : vx_W p l e R s m args below meth c H locs k n Q g q) : vx_W p l e R s m args below meth c H locs cells slots Q g q := fun T hT X => kk T hT (stand_widen X h1 h2)
theorem vx_out {pc : Nat} {E : String} {ce : Cell} {q : Addr} {mc ms : Nat} (hout : ∀ x ∈ c.exceptionTable.toList, covers x pc = false) (hlocks : meth.locks = false) (hcell : H[q]? = some ce) (hv : ce.vm = .none) (hcl : s.vm.findClass E = some ce.cls)
    (hx : ∀ t : State, t.heap = H → s.vm.Alike t.vm → XC E s t) (hf : ∀ z ∈ locs, free z.base) (hc : cells ≤ mc) (hs : slots ≤ ms) :
    vx_W p l e R s m args below meth c H locs cells slots (vx_MQ below Qc XC args s mc ms free) (F0 m pc ls rest) q := by
  intro T hT X
  obtain ⟨st1, hrun, hend, hW, hsm⟩ := X.leaveThrown q (g := F0 m pc ls rest) rfl rfl rfl hout hlocks
  have hcell9 : (T.setFrames (.throwing q :: below)).heap[q]? = some ce := by
    show T.heap[q]? = some ce
    rw [hT]; exact hcell
  exact ⟨_, st1, .threw q, hrun, hend, Or.inr ⟨q, rfl, E, ce, locs, hx _ hT hW.alike, hcell9, hv, hcl, hW, hsm.mono hc hs, hf⟩⟩
theorem vx_frame {U : State} {k n : Nat} (h : s.sameButNew ({ U with vm := s.vm } : State) locs k n) : s.heap.size ≤ U.heap.size ∧ ∀ q : Nat, q < s.heap.size → (∀ z ∈ locs, z.base ≠ q) → U.heap[q]? = s.heap[q]? := by
  obtain ⟨-, h2, -, -, -, h6⟩ := h
  refine ⟨h2, fun q hq hz => ?_⟩
  obtain ⟨c9, e1, e2, e3, e4⟩ := h6 q _ (Array.getElem?_eq_getElem hq)
  have hs : c9.slots = (s.heap[q]).slots := Array.ext_getElem? fun i => e4 i fun hm => hz _ hm rfl
  have h9 : c9 = s.heap[q] := by
    rw [hs] at e2
    exact e2
  have e5 : U.heap[q]? = some c9 := e1
  rw [e5, h9, Array.getElem?_eq_getElem hq]
/-- the words of a throw but the four that speak of the heap -/
def vx_no (w : Cond) : Bool := decide (w ≠ .isRef (.static Bundle.tN "UNASSIGNED_STACK" Bundle.steD)) && decide (w ≠ .isRef (.static Bundle.tN "SUPPRESSED_SENTINEL" Bundle.listD)) && decide (w ≠ .laysStatic Bundle.tN "UNASSIGNED_STACK" Bundle.steD) && decide (w ≠ .laysStatic Bundle.tN "SUPPRESSED_SENTINEL" Bundle.listD)
def vx_at0 (own : String) (ic : Nat) (X : String) (names : List String) : List Cond := (Bundle.ownAtoms0 own ic X names).filter vx_no
def vx_atS (own : String) (ic : Nat) (X : String) (names : List String) : List Cond := (Bundle.ownAtoms own ic X names).filter vx_no
/-- a word that the tables alone decide, or a good one -/
def vx_ot (w : Cond) : Bool := w.onTables || goodWord w
theorem vx_ot_at {args a' : Array Value} {s U : State} {w : Cond} (hW : s.WarmedH U.vm) (hvm : s.vm = U.vm) (hg : vx_ot w = true) (h : w.before args s = true) : w.before a' U = true := by
  simp only [vx_ot, Bool.or_eq_true] at hg
  rcases hg with hg | hg
  · exact va_tabs hg hvm h
  · exact word_at hW (good_of_word hg) h
/-- a list's words: the good ones out of the method's own list, the others by premises of their own -/
theorem vx_hat {args : Array Value} {s : State} {L B : List Cond} (h1 : ∀ w ∈ L.filter goodWord, w.before args s = true) (h2 : ∀ w ∈ L.filter (fun w => !goodWord w), w ∈ B) (h3 : ∀ w ∈ B, w.before args s = true) : ∀ w ∈ L, w.before args s = true := by
  intro w hw
  by_cases g : goodWord w = true
  · exact h1 w (List.mem_filter.mpr ⟨hw, g⟩)
  · refine h3 w (h2 w (List.mem_filter.mpr ⟨hw, ?_⟩))
    show (!goodWord w) = true
    cases hgw : goodWord w
    · rfl
    · exact absurd hgw g
theorem vx_c {args : Array Value} {s : State} {w : Cond} {B : List Cond} (h : w.before args s = true) (t : ∀ w ∈ B, w.before args s = true) : ∀ w' ∈ w :: B, w'.before args s = true := fun w' h' => (List.mem_cons.mp h').elim (fun e => by rw [e]; exact h) (t w')
theorem vx_n {args : Array Value} {s : State} : ∀ w ∈ ([] : List Cond), w.before args s = true := fun _ h => nomatch h
theorem vx_own {args : Array Value} {s : State} {L : List Cond} (h1 : ∀ w ∈ L.filter vx_no, w.before args s = true)
    (hU : (Cond.isRef (.static Bundle.tN "UNASSIGNED_STACK" Bundle.steD)).before args s = true) (hN : (Cond.isRef (.static Bundle.tN "SUPPRESSED_SENTINEL" Bundle.listD)).before args s = true)
    (lU : (Cond.laysStatic Bundle.tN "UNASSIGNED_STACK" Bundle.steD).before args s = true) (lN : (Cond.laysStatic Bundle.tN "SUPPRESSED_SENTINEL" Bundle.listD).before args s = true) : ∀ w ∈ L, w.before args s = true := by
  intro w hw
  by_cases e1 : w = .isRef (.static Bundle.tN "UNASSIGNED_STACK" Bundle.steD)
  · rw [e1]; exact hU
  · by_cases e2 : w = .isRef (.static Bundle.tN "SUPPRESSED_SENTINEL" Bundle.listD)
    · rw [e2]; exact hN
    · by_cases e3 : w = .laysStatic Bundle.tN "UNASSIGNED_STACK" Bundle.steD
      · rw [e3]; exact lU
      · by_cases e4 : w = .laysStatic Bundle.tN "SUPPRESSED_SENTINEL" Bundle.listD
        · rw [e4]; exact lN
        · exact h1 w (List.mem_filter.mpr ⟨hw, by unfold vx_no; rw [decide_eq_true e1, decide_eq_true e2, decide_eq_true e3, decide_eq_true e4]; rfl⟩)
/-- where a static field lies, its class's statics cell in H -/
def vx_L (C n d : String) (A : Nat → Prop) (U : State) (H : Heap) : Prop := ∃ (c : ClassId) (k : Class) (i : Nat) (f : Field) (a : Nat) (cell : Cell), U.vm.findClass C = some c ∧ U.fieldFound? C n d = some (c, k, i, f) ∧ f.isStatic = true ∧ k.statics = some a ∧ H[a]? = some cell ∧ cell.vm.isStatics = true ∧ cell.cls = c ∧ f.slot < cell.slots.size ∧ k.staticTypes[f.slot]? = some f.type ∧ ¬ A a
theorem vx_L.moved {C n d : String} {A : Nat → Prop} {u U : State} {H : Heap} (hvm : u.vm.Alike U.vm) (h : vx_L C n d A u H) : vx_L C n d A U H := by
  obtain ⟨c, k, i, f, a, cell, h1, h2, h3, h4, h5, h6, h7, h8, h9, h10⟩ := h
  obtain ⟨k', hi', he⟩ := State.fieldFound?_setVm hvm h2
  exact ⟨c, k', i, f, a, cell, by rw [hvm.findClass]; exact h1, hi', h3, by rw [he]; exact h4, h5, h6, h7, h8, by rw [he]; exact h9, h10⟩
theorem vx_L.kept {C n d : String} {A : Nat → Prop} {U : State} {H H1 : Heap} (h : vx_L C n d A U H) (hq : ∀ a : Nat, a < H.size → ¬ A a → H1[a]? = H[a]?) : vx_L C n d A U H1 := by
  obtain ⟨c, k, i, f, a, cell, h1, h2, h3, h4, h5, h6, h7, h8, h9, h10⟩ := h
  exact ⟨c, k, i, f, a, cell, h1, h2, h3, h4, by rw [hq a (Array.getElem?_eq_some_iff.mp h5).1 h10]; exact h5, h6, h7, h8, h9, h10⟩
theorem vx_L.narrow {C n d : String} {A B : Nat → Prop} {U : State} {H : Heap} (h : vx_L C n d A U H) (hAB : ∀ q, B q → A q) : vx_L C n d B U H := by
  obtain ⟨c, k, i, f, a, cell, h1, h2, h3, h4, h5, h6, h7, h8, h9, h10⟩ := h
  exact ⟨c, k, i, f, a, cell, h1, h2, h3, h4, h5, h6, h7, h8, h9, fun z => h10 (hAB _ z)⟩
theorem vx_L.word {C n d : String} {A : Nat → Prop} {s : State} {args : Array Value} (h : vx_L C n d A s s.heap) : (Cond.laysStatic C n d).before args s = true := by
  obtain ⟨c, k, i, f, a, cell, h1, h2, h3, h4, h5, h6, h7, h8, h9, -⟩ := h
  show (Cond.laysStatic C n d).holds args s none s [] = true
  exact Cond.laysStatic_of h1 h2 h3 h4 h5 h6 h7 h8 h9
/-- .. and what it holds: null or some reference -/
def vx_Zq (C n d : String) (A : Nat → Prop) (U : State) (H : Heap) : Prop := va_Zq C n d A U H ∧ vx_L C n d A U H
theorem vx_Zq.moved {C n d : String} {A : Nat → Prop} {u U : State} {H : Heap} (hvm : u.vm.Alike U.vm) (h : vx_Zq C n d A u H) : vx_Zq C n d A U H := ⟨va_Zq.moved hvm h.1, vx_L.moved hvm h.2⟩
theorem vx_Zq.kept {C n d : String} {A : Nat → Prop} {U : State} {H H1 : Heap} (h : vx_Zq C n d A U H) (hq : ∀ a : Nat, a < H.size → ¬ A a → H1[a]? = H[a]?) : vx_Zq C n d A U H1 := ⟨va_Zq.kept h.1 hq, vx_L.kept h.2 hq⟩
theorem vx_Zq.narrow {C n d : String} {A B : Nat → Prop} {U : State} {H : Heap} (h : vx_Zq C n d A U H) (hAB : ∀ q, B q → A q) : vx_Zq C n d B U H := ⟨va_Zq.narrow h.1 hAB, vx_L.narrow h.2 hAB⟩
theorem vx_Zqof {args : Array Value} {s : State} {C n d : String} {A : Nat → Prop} (hl : (Cond.laysStatic C n d).before args s = true) (hini : (Cond.initialized C).before args s = true) (h : (Cond.isRef (.static C n d)).before args s = true) (hA : ∀ a : Nat, a < s.heap.size → ¬ A a) : vx_Zq C n d A s s.heap := by
  refine ⟨va_Zqof hl hini h hA, ?_⟩
  obtain ⟨c, k, i, f, a, cell, h1, h2, h3, h4, h5, h6, h7, h8, h9⟩ := Cond.laysStatic_spec hl
  exact ⟨c, k, i, f, a, cell, h1, h2, h3, h4, h5, h6, h7, h8, h9, hA a (Array.getElem?_eq_some_iff.mp h5).1⟩
theorem vx_isRef {C n d : String} {v : Value} {A : Nat → Prop} {s : State} {args : Array Value} (h : va_Z C n d v A s s.heap) (hv : v.isRef = true) : (Cond.isRef (.static C n d)).before args s = true := by
  obtain ⟨cf, kf, fi, f, a, cell, h1, h2, h3, h4, h5, h6, h7, -⟩ := h
  have he : (Term.static C n d).eval args s none [] s = some v := by
    simp [Term.eval, State.fieldNamed?, h1, h2, h4, h5, h6, h7]
  simp only [Cond.before, Cond.holds, Cond.value, he]
  cases v <;> simp_all [Value.isRef]
theorem vx_isRefq {C n d : String} {A : Nat → Prop} {s : State} {args : Array Value} (h : va_Zq C n d A s s.heap) : (Cond.isRef (.static C n d)).before args s = true := by
  rcases h with h | ⟨t, h⟩
  · exact vx_isRef h rfl
  · exact vx_isRef h rfl
/-- the same frame, seen from here: as if the method were called anew in this heap -/
theorem vx_rebase {T : State} (X : Stand p l e R s m args below meth c T locs cells slots) {R' : Room} (hf : R'.frames ≤ R.frames) (hl : R'.locals ≤ R.locals) (hc : cells + R'.cells ≤ R.cells) (hs : slots + R'.slots ≤ R.slots) :
    Stand p l e R' ((T.setVm s.vm).setFrames (.invoking m args :: below)) m args below meth c T [] 0 0 := by
  have htop : (T.setVm s.vm).topJava?.isSome := X.here.top
  have hF : ((T.setVm s.vm).setFrames (.invoking m args :: below)).frames = .invoking m args :: below := State.frames_setFrames _ (State.cur_lt_of_top htop)
  obtain ⟨g₀, hg0⟩ := Option.isSome_iff_exists.mp htop
  obtain ⟨r, hr⟩ := State.topJava?_eq_some.mp hg0
  have hl9 : e.platform.stackLimits (T.setVm s.vm).me = e.platform.stackLimits s.me := X.limits
  have hb9 : (T.setVm s.vm).me.stackBytes = s.me.stackBytes := X.bytes
  refine ⟨X.admits, X.cas, X.clock, hF, ?_, X.hears, X.method, X.code, X.here, X.tail, X.warmed, ?_, ?_, ?_⟩
  · have h := X.room
    have hU : ((T.setVm s.vm).setFrames (.invoking m args :: below)).localsInUse = s.localsInUse := by
      rw [State.localsInUse_invoking hF (meth := meth) (c := c) X.method X.code, State.localsInUse_invoking X.frames X.method X.code]
    simp only [State.hasRoom, Bool.and_eq_true, decide_eq_true_eq] at h ⊢
    obtain ⟨⟨⟨⟨h1, h2, h3, h4, h5, h6⟩, h7⟩, h8⟩, h9⟩ := h
    rw [X.frames, List.length_cons] at h2 h3
    have q1 := X.heapSize
    have q2 := X.used
    simp only [hF, hU, List.length_cons, State.stackLimits_setFrames, State.stackBytes_setFrames, hl9, hb9]
    refine ⟨⟨⟨⟨by omega, by omega, by omega, by omega, by omega, h6⟩, ?_⟩, ?_⟩, X.book⟩
    · show T.heap.size + R'.cells ≤ e.platform.maxCells
      omega
    · show T.slotsUsed + R'.slots ≤ e.platform.maxSlots
      omega
  · rw [State.stackLimits_setFrames]; rfl
  · rw [State.stackBytes_setFrames]; rfl
  · refine ⟨?_, Nat.le_refl _, Nat.le_refl _, ?_, ?_, fun a c9 h9 => ⟨c9, h9, rfl, rfl, fun _ _ => rfl⟩⟩
    · obtain ⟨t, ht, -⟩ := State.frames_cons hr
      show T.setVm s.vm = { ((T.setVm s.vm).setFrames (.invoking m args :: below)).setFrames (T.setVm s.vm).frames with heap := T.heap, slotsUsed := T.slotsUsed }
      rw [State.setFrames_setFrames, State.setFrames_self ht]
      rfl
    · show T.slotsUsed = T.slotsUsed + ((T.heap.toList.drop T.heap.size).map (·.slots.size)).sum
      rw [List.drop_eq_nil_of_le (Nat.le_of_eq Array.length_toList)]
      rfl
    · show ((T.heap.toList.drop T.heap.size).map (·.slots.size)).sum ≤ 0
      rw [List.drop_eq_nil_of_le (Nat.le_of_eq Array.length_toList)]
      exact Nat.le_refl _
/-- 'throw new E()': new; dup; invokespecial; athrow -/
theorem vx_throw0 {cc : ByteArray} {pc : Nat} (hexec : p.tables.exec = Jvm.exec) (hb : c.code = cc) (hl : l.stackTraces = false) {own cls : String} {names : List String} {ik ic mc ms : Nat} {A : Nat → Prop}
    (hown : s.vm.findClass own = some m.cls) (hcls : Bundle.fit cls = true) (hnames : ∀ n ∈ names, Bundle.fit n = true)
    (hk : (Cond.classLink own ik cls).before args s = true) (hini : (Cond.initialized cls).before args s = true) (hat : ∀ w ∈ vx_at0 own ic cls names, w.before args s = true)
    (hgood : ∀ w ∈ Cond.classLink own ik cls :: Cond.initialized cls :: vx_at0 own ic cls names, vx_ot w = true)
    (hU : vx_Zq Bundle.tN "UNASSIGNED_STACK" Bundle.steD A s s.heap) (hN : vx_Zq Bundle.tN "SUPPRESSED_SENTINEL" Bundle.listD A s s.heap) (hS : va_S A s.heap H locs) (hsize : ls.size = c.maxLocals)
    (d0 : decode cc pc = .ok (.new ik, 3)) (d3 : decode cc (pc + 3) = .ok (.dup, 1)) (d4 : decode cc (pc + 4) = .ok (.invokespecial ic, 3)) (d7 : decode cc (pc + 7) = .ok (.athrow, 1))
    (hout : ∀ x ∈ c.exceptionTable.toList, covers x (pc + 7) = false)
    (hRframes : names.length + 3 < R.frames) (hRlocals : (rest.map fun v => v.category).sum + (13 * (names.length + 1) + 42) ≤ R.locals) (hRcells : cells + 1 ≤ R.cells) (hRslots : slots + 6 ≤ R.slots) (hlocks : meth.locks = false)
    (hx : ∀ t : State, s.vm.Alike t.vm → H.size ≤ t.heap.size → (∀ q : Nat, q < H.size → t.heap[q]? = H[q]?) → XC cls s t)
    (hf : ∀ z ∈ locs, free z.base) (hc : cells + 1 ≤ mc) (hs : slots + 6 ≤ ms) :
    W p l e R s m args below meth c H locs cells slots (vx_MQ below Qc XC args s mc ms free) (F0 m pc ls rest) := by
  intro T hT X
  have htr : e.platform.stackTraces = false := (show e.platform.stackTraces = l.stackTraces by rw [X.admits.platform]).trans hl
  have Y := vx_rebase X (R' := { frames := R.frames, locals := R.locals, cells := 1, slots := 6 }) (Nat.le_refl _) (Nat.le_refl _) hRcells hRslots
  obtain ⟨s', hA⟩ : ∃ z, z = (T.setVm s.vm).setFrames (.invoking m args :: below) := ⟨_, rfl⟩
  rw [← hA] at Y
  have hvm : s'.vm = s.vm := by rw [hA]; rfl
  have hhp : s'.heap = H := by rw [hA]; exact hT
  have hW0 : s.WarmedH s'.vm := by rw [hvm]; exact State.WarmedH.refl s
  have hat' : ∀ w ∈ vx_at0 own ic cls names, w.before args s' = true := fun w hw => vx_ot_at hW0 hvm.symm (hgood w (List.mem_cons_of_mem _ (List.mem_cons_of_mem _ hw))) (hat w hw)
  have hk' : (Cond.classLink own ik cls).before args s' = true := vx_ot_at hW0 hvm.symm (hgood _ List.mem_cons_self) hk
  have hini' : (Cond.initialized cls).before args s' = true := vx_ot_at hW0 hvm.symm (hgood _ (List.mem_cons_of_mem _ List.mem_cons_self)) hini
  have hU' : vx_Zq Bundle.tN "UNASSIGNED_STACK" Bundle.steD A s' s'.heap := by rw [hhp]; exact vx_Zq.moved hW0.alike (hU.kept hS.2.1)
  have hN' : vx_Zq Bundle.tN "SUPPRESSED_SENTINEL" Bundle.listD A s' s'.heap := by rw [hhp]; exact vx_Zq.moved hW0.alike (hN.kept hS.2.1)
  have h : ∀ w ∈ Bundle.ownAtoms0 own ic cls names, w.before args s' = true := vx_own hat' (vx_isRefq hU'.1) (vx_isRefq hN'.1) hU'.2.word hN'.2.word
  have hown' : s'.vm.findClass own = some m.cls := by rw [hvm]; exact hown
  have hins : (Cond.instantiable cls 6).before args s' = true := h _ (by simp [Bundle.ownAtoms0])
  obtain ⟨vm₁, cX, kX, hfX, hkX, -, -, X₁, st1⟩ := Y.newCold hexec (own := own) (C := cls) (index := ik) (n := 6) hown' hk' hins hini'
    (g := F0 m pc ls rest) rfl (by rw [hb]; exact d0) (Nat.le_refl _) (Nat.le_refl _)
  generalize hT1 : (T.setVm vm₁).pushCell { cls := cX, slots := kX.instanceTypes.map defaultValue, vm := .none } = T1 at X₁ st1
  have hcat : (Value.ref T.heap.size).category = 1 := rfl
  have hcellA : T1.heap[T.heap.size]? = some (freshCell cX kX) := by rw [← hT1]; exact State.heap_pushCell_size _ _
  have d3' : decode c.code (pc + 3) = .ok (.dup, 1) := by rw [hb]; exact d3
  obtain ⟨U, hsteps, hrun, hend, hW, hsame, ce, hce, hO⟩ := X₁.ctorThrow0 hexec htr (own := own) (cls := cls) (names := names) (ic := ic) hown' hcls hnames h (fun x hx => nomatch hx) hfX hkX hcellA (by rw [hhp, hT]; exact Nat.le_refl _)
    (g := { method := m, pc := pc + 4, locals := ls, stack := .ref T.heap.size :: .ref T.heap.size :: rest, locked := none }) rfl hsize rfl rfl (rest := rest) rfl
    (by rw [hb]; exact d4) (by rw [hb]; exact d7) hout hRframes (by simp only [List.map_cons, List.sum_cons, hcat]; omega) hlocks
  obtain ⟨f1, f2⟩ := vx_frame hsame
  rw [hhp] at f1 f2
  have hWs : s.WarmedH U.vm := State.WarmedH.trans hW0 hW
  have hcl : s.vm.findClass cls = some ce.cls := by
    have h9 := hO.cls
    rw [hvm] at h9
    exact h9
  have hall : s.sameButNew ({ U with vm := s.vm } : State) locs mc ms := by
    subst hA
    obtain ⟨e1, e2⟩ := hsame
    rw [State.setFrames_setFrames] at e1
    have h2 : (T.setVm s.vm).sameButNew ({ U with vm := s.vm } : State) [] (0 + 1) (0 + 6) := ⟨e1, e2⟩
    have h3 := X.same.trans h2
    rw [List.append_nil] at h3
    exact h3.mono hc hs
  refine ⟨U, ?_, .threw T.heap.size, hrun, hend, Or.inr ⟨T.heap.size, rfl, cls, ce, locs, hx U hWs.alike f1 (fun q hq => f2 q hq (fun z hz => nomatch hz)), hce, hO.vm, hcl, hWs, hall, hf⟩⟩
  refine st1 _ ?_
  show Steps p.tables e below (T1.setTop { method := m, pc := pc + 3, locals := ls, stack := .ref T.heap.size :: rest, locked := none }) _
  jvm_step X₁.here [X₁.here.top, hexec, d3', Value.category]
  exact hsteps
/-- 'throw new E("text")': new; dup; ldc; invokespecial; athrow -/
theorem vx_throwS {cc : ByteArray} {pc : Nat} (hexec : p.tables.exec = Jvm.exec) (hb : c.code = cc) (hl : l.stackTraces = false) {own cls text : String} {names : List String} {ik is ic mc ms sa : Nat} {A : Nat → Prop}
    (hown : s.vm.findClass own = some m.cls) (hcls : Bundle.fit cls = true) (hnames : ∀ n ∈ names, Bundle.fit n = true)
    (hk : (Cond.classLink own ik cls).before args s = true) (hini : (Cond.initialized cls).before args s = true) (hstr : vk_R own is text sa s) (hat : ∀ w ∈ vx_atS own ic cls names, w.before args s = true)
    (hgood : ∀ w ∈ Cond.classLink own ik cls :: Cond.initialized cls :: vx_atS own ic cls names, vx_ot w = true)
    (hU : vx_Zq Bundle.tN "UNASSIGNED_STACK" Bundle.steD A s s.heap) (hN : vx_Zq Bundle.tN "SUPPRESSED_SENTINEL" Bundle.listD A s s.heap) (hS : va_S A s.heap H locs) (hsize : ls.size = c.maxLocals)
    (d0 : decode cc pc = .ok (.new ik, 3)) (d3 : decode cc (pc + 3) = .ok (.dup, 1)) (d4 : decode cc (pc + 4) = .ok (.ldc is, 2)) (d6 : decode cc (pc + 6) = .ok (.invokespecial ic, 3)) (d9 : decode cc (pc + 9) = .ok (.athrow, 1))
    (hout : ∀ x ∈ c.exceptionTable.toList, covers x (pc + 9) = false)
    (hRframes : names.length + 3 < R.frames) (hRlocals : (rest.map fun v => v.category).sum + (13 * (names.length + 1) + 43) ≤ R.locals) (hRcells : cells + 1 ≤ R.cells) (hRslots : slots + 6 ≤ R.slots) (hlocks : meth.locks = false)
    (hx : ∀ t : State, s.vm.Alike t.vm → H.size ≤ t.heap.size → (∀ q : Nat, q < H.size → t.heap[q]? = H[q]?) → XC cls s t)
    (hf : ∀ z ∈ locs, free z.base) (hc : cells + 1 ≤ mc) (hs : slots + 6 ≤ ms) :
    W p l e R s m args below meth c H locs cells slots (vx_MQ below Qc XC args s mc ms free) (F0 m pc ls rest) := by
  intro T hT X
  have htr : e.platform.stackTraces = false := (show e.platform.stackTraces = l.stackTraces by rw [X.admits.platform]).trans hl
  have Y := vx_rebase X (R' := { frames := R.frames, locals := R.locals, cells := 1, slots := 6 }) (Nat.le_refl _) (Nat.le_refl _) hRcells hRslots
  obtain ⟨s', hA⟩ : ∃ z, z = (T.setVm s.vm).setFrames (.invoking m args :: below) := ⟨_, rfl⟩
  rw [← hA] at Y
  have hvm : s'.vm = s.vm := by rw [hA]; rfl
  have hhp : s'.heap = H := by rw [hA]; exact hT
  have hW0 : s.WarmedH s'.vm := by rw [hvm]; exact State.WarmedH.refl s
  have hat' : ∀ w ∈ vx_atS own ic cls names, w.before args s' = true := fun w hw => vx_ot_at hW0 hvm.symm (hgood w (List.mem_cons_of_mem _ (List.mem_cons_of_mem _ hw))) (hat w hw)
  have hk' : (Cond.classLink own ik cls).before args s' = true := vx_ot_at hW0 hvm.symm (hgood _ List.mem_cons_self) hk
  have hini' : (Cond.initialized cls).before args s' = true := vx_ot_at hW0 hvm.symm (hgood _ (List.mem_cons_of_mem _ List.mem_cons_self)) hini
  have hU' : vx_Zq Bundle.tN "UNASSIGNED_STACK" Bundle.steD A s' s'.heap := by rw [hhp]; exact vx_Zq.moved hW0.alike (hU.kept hS.2.1)
  have hN' : vx_Zq Bundle.tN "SUPPRESSED_SENTINEL" Bundle.listD A s' s'.heap := by rw [hhp]; exact vx_Zq.moved hW0.alike (hN.kept hS.2.1)
  have h : ∀ w ∈ Bundle.ownAtoms own ic cls names, w.before args s' = true := vx_own hat' (vx_isRefq hU'.1) (vx_isRefq hN'.1) hU'.2.word hN'.2.word
  have hown' : s'.vm.findClass own = some m.cls := by rw [hvm]; exact hown
  have hins : (Cond.instantiable cls 6).before args s' = true := h _ (by simp [Bundle.ownAtoms])
  obtain ⟨vm₁, cX, kX, hfX, hkX, -, -, X₁, st1⟩ := Y.newCold hexec (own := own) (C := cls) (index := ik) (n := 6) hown' hk' hins hini'
    (g := F0 m pc ls rest) rfl (by rw [hb]; exact d0) (Nat.le_refl _) (Nat.le_refl _)
  generalize hT1 : (T.setVm vm₁).pushCell { cls := cX, slots := kX.instanceTypes.map defaultValue, vm := .none } = T1 at X₁ st1
  have hcat : (Value.ref T.heap.size).category = 1 := rfl
  have hcellA : T1.heap[T.heap.size]? = some (freshCell cX kX) := by rw [← hT1]; exact State.heap_pushCell_size _ _
  have d3' : decode c.code (pc + 3) = .ok (.dup, 1) := by rw [hb]; exact d3
  have d4' : decode c.code (pc + 4) = .ok (.ldc is, 2) := by rw [hb]; exact d4
  have hstr' : vk_R own is text sa s' := vk_R.warm hW0 hstr
  obtain ⟨U, hsteps, hrun, hend, hW, hsame, ce, hce, hO⟩ := X₁.ctorThrowS hexec htr (own := own) (cls := cls) (names := names) (ic := ic) hown' hcls hnames h (fun x hx => nomatch hx) hfX hkX hcellA (by rw [hhp, hT]; exact Nat.le_refl _) (msg := .ref sa) rfl
    (g := { method := m, pc := pc + 6, locals := ls, stack := .ref sa :: .ref T.heap.size :: .ref T.heap.size :: rest, locked := none }) rfl hsize rfl rfl (rest := rest) rfl
    (by rw [hb]; exact d6) (by rw [hb]; exact d9) hout hRframes (by simp only [List.map_cons, List.sum_cons, hcat]; omega) hlocks
  obtain ⟨f1, f2⟩ := vx_frame hsame
  rw [hhp] at f1 f2
  have hWs : s.WarmedH U.vm := State.WarmedH.trans hW0 hW
  have hcl : s.vm.findClass cls = some ce.cls := by
    have h9 := hO.cls
    rw [hvm] at h9
    exact h9
  have hall : s.sameButNew ({ U with vm := s.vm } : State) locs mc ms := by
    subst hA
    obtain ⟨e1, e2⟩ := hsame
    rw [State.setFrames_setFrames] at e1
    have h2 : (T.setVm s.vm).sameButNew ({ U with vm := s.vm } : State) [] (0 + 1) (0 + 6) := ⟨e1, e2⟩
    have h3 := X.same.trans h2
    rw [List.append_nil] at h3
    exact h3.mono hc hs
  refine ⟨U, ?_, .threw T.heap.size, hrun, hend, Or.inr ⟨T.heap.size, rfl, cls, ce, locs, hx U hWs.alike f1 (fun q hq => f2 q hq (fun z hz => nomatch hz)), hce, hO.vm, hcl, hWs, hall, hf⟩⟩
  refine st1 _ ?_
  show Steps p.tables e below (T1.setTop { method := m, pc := pc + 3, locals := ls, stack := .ref T.heap.size :: rest, locked := none }) _
  jvm_step X₁.here [X₁.here.top, hexec, d3', Value.category]
  exact X₁.ldcString hexec (own := own) (text := text) (index := is) (a := sa) hown' hstr'.1 hstr'.2
    (g := { method := m, pc := pc + 4, locals := ls, stack := .ref T.heap.size :: .ref T.heap.size :: rest, locked := none }) rfl d4' _ hsteps
/-- 'throw new E("text")', the text by a wide index -/
theorem vx_throwSW {cc : ByteArray} {pc : Nat} (hexec : p.tables.exec = Jvm.exec) (hb : c.code = cc) (hl : l.stackTraces = false) {own cls text : String} {names : List String} {ik is ic mc ms sa : Nat} {A : Nat → Prop}
    (hown : s.vm.findClass own = some m.cls) (hcls : Bundle.fit cls = true) (hnames : ∀ n ∈ names, Bundle.fit n = true)
    (hk : (Cond.classLink own ik cls).before args s = true) (hini : (Cond.initialized cls).before args s = true) (hstr : vk_R own is text sa s) (hat : ∀ w ∈ vx_atS own ic cls names, w.before args s = true)
    (hgood : ∀ w ∈ Cond.classLink own ik cls :: Cond.initialized cls :: vx_atS own ic cls names, vx_ot w = true)
    (hU : vx_Zq Bundle.tN "UNASSIGNED_STACK" Bundle.steD A s s.heap) (hN : vx_Zq Bundle.tN "SUPPRESSED_SENTINEL" Bundle.listD A s s.heap) (hS : va_S A s.heap H locs) (hsize : ls.size = c.maxLocals)
    (d0 : decode cc pc = .ok (.new ik, 3)) (d3 : decode cc (pc + 3) = .ok (.dup, 1)) (d4 : decode cc (pc + 4) = .ok (.ldc_w is, 3)) (d7 : decode cc (pc + 7) = .ok (.invokespecial ic, 3)) (d10 : decode cc (pc + 10) = .ok (.athrow, 1))
    (hout : ∀ x ∈ c.exceptionTable.toList, covers x (pc + 10) = false)
    (hRframes : names.length + 3 < R.frames) (hRlocals : (rest.map fun v => v.category).sum + (13 * (names.length + 1) + 43) ≤ R.locals) (hRcells : cells + 1 ≤ R.cells) (hRslots : slots + 6 ≤ R.slots) (hlocks : meth.locks = false)
    (hx : ∀ t : State, s.vm.Alike t.vm → H.size ≤ t.heap.size → (∀ q : Nat, q < H.size → t.heap[q]? = H[q]?) → XC cls s t)
    (hf : ∀ z ∈ locs, free z.base) (hc : cells + 1 ≤ mc) (hs : slots + 6 ≤ ms) :
    W p l e R s m args below meth c H locs cells slots (vx_MQ below Qc XC args s mc ms free) (F0 m pc ls rest) := by
  intro T hT X
  have htr : e.platform.stackTraces = false := (show e.platform.stackTraces = l.stackTraces by rw [X.admits.platform]).trans hl
  have Y := vx_rebase X (R' := { frames := R.frames, locals := R.locals, cells := 1, slots := 6 }) (Nat.le_refl _) (Nat.le_refl _) hRcells hRslots
  obtain ⟨s', hA⟩ : ∃ z, z = (T.setVm s.vm).setFrames (.invoking m args :: below) := ⟨_, rfl⟩
  rw [← hA] at Y
  have hvm : s'.vm = s.vm := by rw [hA]; rfl
  have hhp : s'.heap = H := by rw [hA]; exact hT
  have hW0 : s.WarmedH s'.vm := by rw [hvm]; exact State.WarmedH.refl s
  have hat' : ∀ w ∈ vx_atS own ic cls names, w.before args s' = true := fun w hw => vx_ot_at hW0 hvm.symm (hgood w (List.mem_cons_of_mem _ (List.mem_cons_of_mem _ hw))) (hat w hw)
  have hk' : (Cond.classLink own ik cls).before args s' = true := vx_ot_at hW0 hvm.symm (hgood _ List.mem_cons_self) hk
  have hini' : (Cond.initialized cls).before args s' = true := vx_ot_at hW0 hvm.symm (hgood _ (List.mem_cons_of_mem _ List.mem_cons_self)) hini
  have hU' : vx_Zq Bundle.tN "UNASSIGNED_STACK" Bundle.steD A s' s'.heap := by rw [hhp]; exact vx_Zq.moved hW0.alike (hU.kept hS.2.1)
  have hN' : vx_Zq Bundle.tN "SUPPRESSED_SENTINEL" Bundle.listD A s' s'.heap := by rw [hhp]; exact vx_Zq.moved hW0.alike (hN.kept hS.2.1)
  have h : ∀ w ∈ Bundle.ownAtoms own ic cls names, w.before args s' = true := vx_own hat' (vx_isRefq hU'.1) (vx_isRefq hN'.1) hU'.2.word hN'.2.word
  have hown' : s'.vm.findClass own = some m.cls := by rw [hvm]; exact hown
  have hins : (Cond.instantiable cls 6).before args s' = true := h _ (by simp [Bundle.ownAtoms])
  obtain ⟨vm₁, cX, kX, hfX, hkX, -, -, X₁, st1⟩ := Y.newCold hexec (own := own) (C := cls) (index := ik) (n := 6) hown' hk' hins hini'
    (g := F0 m pc ls rest) rfl (by rw [hb]; exact d0) (Nat.le_refl _) (Nat.le_refl _)
  generalize hT1 : (T.setVm vm₁).pushCell { cls := cX, slots := kX.instanceTypes.map defaultValue, vm := .none } = T1 at X₁ st1
  have hcat : (Value.ref T.heap.size).category = 1 := rfl
  have hcellA : T1.heap[T.heap.size]? = some (freshCell cX kX) := by rw [← hT1]; exact State.heap_pushCell_size _ _
  have d3' : decode c.code (pc + 3) = .ok (.dup, 1) := by rw [hb]; exact d3
  have d4' : decode c.code (pc + 4) = .ok (.ldc_w is, 3) := by rw [hb]; exact d4
  have hstr' : vk_R own is text sa s' := vk_R.warm hW0 hstr
  obtain ⟨U, hsteps, hrun, hend, hW, hsame, ce, hce, hO⟩ := X₁.ctorThrowS hexec htr (own := own) (cls := cls) (names := names) (ic := ic) hown' hcls hnames h (fun x hx => nomatch hx) hfX hkX hcellA (by rw [hhp, hT]; exact Nat.le_refl _) (msg := .ref sa) rfl
    (g := { method := m, pc := pc + 7, locals := ls, stack := .ref sa :: .ref T.heap.size :: .ref T.heap.size :: rest, locked := none }) rfl hsize rfl rfl (rest := rest) rfl
    (by rw [hb]; exact d7) (by rw [hb]; exact d10) hout hRframes (by simp only [List.map_cons, List.sum_cons, hcat]; omega) hlocks
  obtain ⟨f1, f2⟩ := vx_frame hsame
  rw [hhp] at f1 f2
  have hWs : s.WarmedH U.vm := State.WarmedH.trans hW0 hW
  have hcl : s.vm.findClass cls = some ce.cls := by
    have h9 := hO.cls
    rw [hvm] at h9
    exact h9
  have hall : s.sameButNew ({ U with vm := s.vm } : State) locs mc ms := by
    subst hA
    obtain ⟨e1, e2⟩ := hsame
    rw [State.setFrames_setFrames] at e1
    have h2 : (T.setVm s.vm).sameButNew ({ U with vm := s.vm } : State) [] (0 + 1) (0 + 6) := ⟨e1, e2⟩
    have h3 := X.same.trans h2
    rw [List.append_nil] at h3
    exact h3.mono hc hs
  refine ⟨U, ?_, .threw T.heap.size, hrun, hend, Or.inr ⟨T.heap.size, rfl, cls, ce, locs, hx U hWs.alike f1 (fun q hq => f2 q hq (fun z hz => nomatch hz)), hce, hO.vm, hcl, hWs, hall, hf⟩⟩
  refine st1 _ ?_
  show Steps p.tables e below (T1.setTop { method := m, pc := pc + 3, locals := ls, stack := .ref T.heap.size :: rest, locked := none }) _
  jvm_step X₁.here [X₁.here.top, hexec, d3', Value.category]
  exact X₁.ldcStringW hexec (own := own) (text := text) (index := is) (a := sa) hown' hstr'.1 hstr'.2
    (g := { method := m, pc := pc + 4, locals := ls, stack := .ref T.heap.size :: .ref T.heap.size :: rest, locked := none }) rfl d4' _ hsteps
end Ends
section Bodies
variable {l : Launch}
theorem vx_ofW {y : MethodName} {ws ws' : List Cond} {rm : Room} {Pc : Array Value → State → Prop} {Qc : Array Value → State → Outcome → State → Prop} {XC : String → State → State → Prop} {mc ms : Nat} {free : Addr → Prop} {cc : ByteArray} {maxL : Nat} {ret : Option FieldType}
    (hy : plainName y.cls = true) (hw : ws = Cond.code y cc maxL ret :: ws')
    (body : ∀ p e s m args below meth c s₁, BodyLoose p l y (headSpec ws rm) cc maxL ret e s m args below meth c s₁ → c.maxLocals = maxL → (∀ x ∈ c.exceptionTable.toList, False) → Pc args s →
      W p l e (headSpec ws rm).room s m args below meth c s.heap [] 0 0 (vx_MQ below Qc XC args s mc ms free) (entryFrame m args maxL)) : vx_Met l y ws rm Pc Qc XC mc ms free := by
  refine MetFree.of_bodyS (code := cc) (maxLocals := maxL) (ret := ret) hy ?_ ?_
  · intro args s m h hn
    obtain ⟨meth, c, h1, h2, h3, h4, h5, h6, -, -⟩ := Cond.code_spec hn (atoms_spec (ws := ws) h _ (by rw [hw]; exact List.mem_cons_self))
    exact ⟨meth, c, h1, h2, h3, h4, h5, h6⟩
  · intro p e s m args below meth c s₁ B hml hP _
    have hh0 : s₁.heap = s.heap := by rw [B.state]; rfl
    have ht : ∀ x ∈ c.exceptionTable.toList, False := by
      obtain ⟨meth9, c9, h1, h2, -, -, -, -, h7, -⟩ := Cond.code_spec B.named (atoms_spec (ws := ws) B.pre _ (by rw [hw]; exact List.mem_cons_self))
      cases Option.some.inj (h1.symm.trans B.method)
      cases Option.some.inj (h2.symm.trans (Stand.of_body B).code)
      intro x hx
      rw [Array.isEmpty_iff.mp h7] at hx
      cases hx
    obtain ⟨t, a1, o, b1, b2, b3⟩ := body p e s m args below meth c s₁ B hml ht hP s₁ hh0 (Stand.of_body B)
    exact ⟨t, o, a1, b1, b2, b3⟩
/-- the table of a body with handlers -/
theorem vx_table {p : Program} {x y : MethodName} {S : Spec} {cc bytes : ByteArray} {maxL maxL' : Nat} {ret ret' : Option FieldType} {e : Env} {s s₁ : State} {m : MethodId} {args : Array Value} {below : List Frame} {meth : Method} {c : Code} {hh : List (Nat × Nat × Nat × Nat)}
    (B : BodyLoose p l y S cc maxL ret e s m args below meth c s₁) (h : (Cond.codeWith y bytes maxL' ret' hh).before args s = true) : c.exceptionTable.toList = tableOf hh := by
  obtain ⟨m9, meth9, c9, hn9, h1, h2, -, -, h6, -⟩ := Cond.codeWith_spec h
  cases Option.some.inj (hn9.symm.trans B.named)
  cases Option.some.inj (h1.symm.trans B.method)
  cases Option.some.inj (h2.symm.trans (Stand.of_body B).code)
  rw [← h6, table_eq]
end Bodies
end VXA
/-! ===== END ===== -/
/-! ===== BEGIN a static call of a method with an exception table ===== -/
section VXS
variable {p : Program} {l : Launch} {e : Env} {R : Room} {s : State} {m : MethodId} {args : Array Value} {below : List Frame} {meth : Method} {c : Code} {T : State} {H : Heap} {locs : List Loc} {cells slots : Nat}
abbrev vx_CSW (R : Room) (s : State) (args : Array Value) (own : String) (index : Nat) (y : MethodName) (bytes : ByteArray) (maxL : Nat) (ret : Option FieldType) (hh : List (Nat × Nat × Nat × Nat)) (ws : List Cond) (rm : Room) (mc ms n : Nat) : Prop :=
  (rm.cells = mc ∧ rm.slots = ms ∧ rm.frames + 1 ≤ R.frames ∧ 8 + (maxL + 11) + rm.locals ≤ R.locals ∧ (∀ w ∈ ws, ∀ (a' : Array Value) (U : State), s.WarmedH U.vm → w.before a' U = true) ∧ Cond.codeWith y bytes maxL ret hh ∈ ws) ∧
  (Cond.codeWith y bytes maxL ret hh).before args s = true ∧ (Cond.initialized y.cls).before args s = true ∧ (y.cls ≠ "java/lang/invoke/MethodHandle" ∧ y.cls ≠ "java/lang/invoke/VarHandle") ∧
  (∀ sig, parseMethodDescriptor y.desc = some sig → n = sig.parameters.length) ∧ (Cond.methodLink own index y).before args s = true ∧ (Cond.static y).before args s = true
theorem vx_cwSW {own : String} {index maxL mc ms : Nat} {y : MethodName} {bytes : ByteArray} {ret : Option FieldType} {hh : List (Nat × Nat × Nat × Nat)} {Ts ws ws' : List Cond} {rm : Room} (n : Nat) (ht : ∀ w ∈ Ts, w.before args s = true) (hT : GoodIn Ts (va_wsS own index y ws)) (hw : ws = Cond.codeWith y bytes maxL ret hh :: ws') (hrc : rm.cells = mc) (hrs : rm.slots = ms)
    (hd : y.cls ≠ "java/lang/invoke/MethodHandle" ∧ y.cls ≠ "java/lang/invoke/VarHandle" ∧ (parseMethodDescriptor y.desc).map (fun d => d.parameters.length) = some n) (hR : rm.frames + 1 ≤ R.frames ∧ 8 + (maxL + 11) + rm.locals ≤ R.locals) :
    vx_CSW R s args own index y bytes maxL ret hh ws rm mc ms n := by
  have ok : ∀ w ∈ va_wsS own index y ws, w.before args s = true := fun w h => ht w (hT w h).1
  have hG : GoodIn Ts ws := fun w h => hT w (by unfold va_wsS; exact List.mem_append_right _ h)
  have hc : Cond.codeWith y bytes maxL ret hh ∈ ws := by rw [hw]; exact List.mem_cons_self
  refine ⟨⟨hrc, hrs, hR.1, hR.2, pay_in ht hG, hc⟩, ht _ (hG _ hc).1, ok _ (by simp [va_wsS]), ⟨hd.1, hd.2.1⟩, fun sig h => ?_, ok _ (by simp [va_wsS]), ok _ (by simp [va_wsS])⟩
  have h2 := hd.2.2
  rw [h] at h2
  exact (Option.some.inj h2).symm
theorem vx_callSW (X : Stand p l e R s m args below meth c T locs cells slots) (hexec : p.tables.exec = Jvm.exec) {own : String} {index : Nat} {y : MethodName} {bytes : ByteArray} {maxL : Nat} {ret : Option FieldType} {hh : List (Nat × Nat × Nat × Nat)}
    (hown : s.vm.findClass own = some m.cls) (hlink : (Cond.methodLink own index y).before args s = true) (hstat : (Cond.static y).before args s = true) (hinit : (Cond.initialized y.cls).before args s = true)
    (hcode : (Cond.codeWith y bytes maxL ret hh).before args s = true) (hy : y.cls ≠ "java/lang/invoke/MethodHandle" ∧ y.cls ≠ "java/lang/invoke/VarHandle")
    {W9 : Nat} {Pre : Pt → Array Value → Prop} {Post : Pt → Array Value → Option Value → Pt → Prop} (hK : Back l R p e below s args y 3 W9 Pre Post)
    {g : JFrame} (hg : g.method = m) (hsize : g.locals.size = c.maxLocals) {argsL rest : List Value} (hlen : ∀ sig, parseMethodDescriptor y.desc = some sig → argsL.length = sig.parameters.length)
    (hstack : g.stack = argsL.reverse ++ rest) (hW : 2 * g.monitorRoom + (rest.map fun v => v.category).sum ≤ W9) (hdg : decode c.code g.pc = .ok (.invokestatic index, 3))
    (hpre : ∀ vm₁, s.WarmedH vm₁ → Pre ⟨T.setVm vm₁, locs, cells, slots⟩ argsL.toArray) :
    ∃ (v : Option Value) (vm₁ : Vm) (B : Pt), s.WarmedH vm₁ ∧ Stand p l e R s m args below meth c B.U B.locs B.cells B.slots ∧ Post ⟨T.setVm vm₁, locs, cells, slots⟩ argsL.toArray v B ∧
      ∀ target, Steps p.tables e below (B.U.setTop { g with pc := g.pc + 3, stack := v.toList ++ rest }) target → Steps p.tables e below (T.setTop g) target := by
  obtain ⟨mk, methM, cM, hnamed, hmethM, -, -, -, -, -, -, hsigM⟩ := Cond.codeWith_spec hcode
  have hstatic : methM.isStatic = true := Cond.static_spec hnamed hmethM hstat
  obtain ⟨kP, hkP, -⟩ := className_of_methodNamed hnamed
  have hinitP : kP.init = .initialized := Cond.initialized_spec (findClass_of_methodNamed hnamed) hkP hinit
  obtain ⟨vm₁, X₁, hstep₁⟩ := X.invokestatic hexec hown hlink hnamed hmethM hstatic hkP hinitP hy (g := g) hg (argsL := argsL) (rest := rest) (hlen _ hsigM) hstack hdg
  obtain ⟨v, B, X', hpost, hsteps⟩ := hK m meth c ⟨T.setVm vm₁, locs, cells, slots⟩ { g with stack := rest } (.invokestatic index) mk argsL.toArray X₁ hg hsize hdg hW (X₁.named hnamed) (hpre vm₁ X₁.warmed)
  exact ⟨v, vm₁, B, X₁.warmed, X', hpost, fun target h => hstep₁ _ fun acts => by rw [doInvoke_state]; exact hsteps.trans h⟩
theorem vx_runSW {y : MethodName} {bytes cc : ByteArray} {maxL nL mc ms n index : Nat} {ret : Option FieldType} {hh : List (Nat × Nat × Nat × Nat)} {ws : List Cond} {rm : Room} {Pc : Array Value → State → Prop} {Qc : Array Value → State → Outcome → State → Prop} {free : Addr → Prop} {Ts : List Cond} {own : String} {As rest : List Value} {g : JFrame}
    (S : CallFix p m c cc nL s args Ts own) (hM : Met l y ws rm Pc Qc mc ms free) (cw : vx_CSW R s args own index y bytes maxL ret hh ws rm mc ms n) (hp : PreS s H Pc As)
    (hg : g.method = m) (hn : As.length = n) (hsize : g.locals.size = nL) (hstack : g.stack = As.reverse ++ rest) (hW : 2 * g.monitorRoom + (rest.map fun v => v.category).sum ≤ 8) (hdg : decode cc g.pc = .ok (.invokestatic index, 3)) (hf : cells + mc ≤ R.cells ∧ slots + ms ≤ R.slots) :
    va_Run p l e R s m args below meth c H locs cells slots mc ms g rest (Qc As.toArray) (free) := by
  obtain ⟨⟨hrc, hrs, hfr, hlo, hws, hcw⟩, hcode, hini, hy, hlen, hl, hstt⟩ := cw
  have hK : Back l R p e below s args y 3 8 (PreOf R mc ms Pc) (PostOf Qc mc ms free) := va_backW (hh := hh) (bytes := bytes) (maxL := maxL) (ret := ret) hM hp.1 hrc hrs hfr hlo hws hcw (fun a' U hW => word_at hW (Or.inl (by first | rfl | simp [Cond.onTables, Cond.keeps, Cond.steady])) hini)
  obtain ⟨hx, hb, hml, ho, -⟩ := S
  intro T hT X
  obtain ⟨v, vm₁, ⟨U', l2, c2, s2⟩, hW₁, X', ⟨g', mk, t, L, e1, e2, hq, h1, hL, h2, h3⟩, st⟩ := vx_callSW X hx (hh := hh) (bytes := bytes) (maxL := maxL) (ret := ret) ho hl hstt hini hcode hy hK hg (hsize.trans hml.symm) (argsL := As) (rest := rest) (fun sig h => hn.trans (hlen sig h)) hstack hW (by rw [hb]; exact hdg)
    (fun vm₁ hW₁ => ⟨hf.1, hf.2, hp.2 (T.setVm vm₁) hT hW₁⟩)
  dsimp only [Pt.U, Pt.locs, Pt.cells, Pt.slots] at X' e1 e2 h1 h2 h3 st
  subst h1; subst h2; subst h3
  exact ⟨v, (T.setVm vm₁).calling g' mk As.toArray, t, U', L, hT, X', hL, e1, e2, hq, st⟩
/-- not caught here, past rows that name other classes: it goes on to the caller -/
theorem vx_outP {p : Program} {l : Launch} {e : Env} {R : Room} {s : State} {m : MethodId} {args : Array Value} {below : List Frame} {meth : Method} {c : Code} {H : Heap} {locs : List Loc} {cells slots : Nat} {free : Addr → Prop} {ls : Array Slot} {rest : List Value} {Qc : Array Value → State → Outcome → State → Prop} {XC : String → State → State → Prop}
    {pc : Nat} {own E : String} {ce : Cell} {q : Addr} {mc ms : Nat} (hown : s.vm.findClass own = some m.cls) (hlocks : meth.locks = false)
    (hpass : ∀ z ∈ c.exceptionTable.toList, covers z pc = false ∨ (z.catchType ≠ 0 ∧ ∃ nm : String, (Cond.classLink own z.catchType nm).before args s = true ∧ va_Nc E nm s)) (hcell : H[q]? = some ce) (hv : ce.vm = .none) (hcl : s.vm.findClass E = some ce.cls)
    (hx : ∀ t : State, t.heap = H → s.vm.Alike t.vm → XC E s t) (hf : ∀ z ∈ locs, free z.base) (hc : cells ≤ mc) (hs : slots ≤ ms) :
    vx_W p l e R s m args below meth c H locs cells slots (vx_MQ below Qc XC args s mc ms free) (F0 m pc ls rest) q := by
  intro T hT X
  have hpl : e.platform.magicAccessors = ({} : Platform).magicAccessors := by rw [X.admits.platform]
  obtain ⟨vm', hW', X', st⟩ := X.outThrough hlocks q (g := F0 m pc ls rest) rfl rfl rfl (cell := ce) (by rw [hT]; exact hcell) (by rw [hv]; rfl)
    (by obtain ⟨k9, h9, -⟩ := Vm.findClass_spec hcl; exact ⟨k9, h9⟩) (fun z hz => by
      rcases hpass z hz with h | ⟨hz0, nm, hl1, hn1⟩
      · exact Or.inl h
      · obtain ⟨c6, hc6, hcl6⟩ := Cond.classLink_spec hown hl1 e.platform hpl
        obtain ⟨a8, b8, h1, h2, h3⟩ := hn1
        cases Option.some.inj (h1.symm.trans hcl)
        cases Option.some.inj (h2.symm.trans hc6)
        exact Or.inr ⟨hz0, _, hcl6, h3⟩)
  obtain ⟨g₀, hfr⟩ := X'.frames_eq
  have hcell9 : ((T.setVm vm').setFrames (.throwing q :: below)).heap[q]? = some ce := by
    show T.heap[q]? = some ce
    rw [hT]; exact hcell
  have hend : Ended ((T.setVm vm').setFrames (.throwing q :: below)) below (.threw q) := State.frames_setFrames _ (State.cur_lt_of_frames hfr)
  refine ⟨(T.setVm vm').setFrames (.throwing q :: below), ?_, .threw q, X'.here.running, hend, Or.inr ⟨q, rfl, E, ce, locs, hx _ hT (X'.ends _).1.alike, hcell9, hv, hcl, (X'.ends _).1, (X'.ends _).2.mono hc hs, hf⟩⟩
  rw [X.pushThrowing_eq]
  exact st
/-- a thing of a world lies in the heap -/
theorem vx_lt {D : va_G} {cl : List vw_C} {ws : va_W} {H1 : Heap} (h : va_P D cl ws H1) {k : Nat} {q : Nat × va_E} (hk : ws[k]? = some q) : q.1 < H1.size := (h k q hk).lt
end VXS
/-! ===== END ===== -/
/-! ===== BEGIN methods with a table of their own: called by a name, returning or throwing ===== -/
section VXH
/-! vx_backW, vx_callVX, vx_callSX, vx_callVW, vx_runVW, vx_runVX, vx_runSX, vx_ofWH follow the same proofs as their sisters above (Free/Laws.lean, Shelf42/LK1.lean); vx_outP calls Shelf42/NT130.lean (outThrough). -/
section
variable {l : Launch} {R : Room} {p : Program} {e : Env} {below : List Frame} {s : State} {sargs : Array Value} {y : MethodName} {len W9 : Nat}
theorem vx_backW {ws : List Cond} {rm : Room} {Pc : Array Value → State → Prop} {Qc : Array Value → State → Outcome → State → Prop} {XC : String → State → State → Prop} {mc ms : Nat} {free : Addr → Prop} {bytes : ByteArray} {maxL : Nat} {ret : Option FieldType} {hh : List (Nat × Nat × Nat × Nat)}
    (hM : vx_Met l y ws rm Pc Qc XC mc ms free) (hblind : FrameBlind Pc) (hrc : rm.cells = mc) (hrs : rm.slots = ms)
    (hframes : rm.frames + 1 ≤ R.frames) (hlocals : W9 + (maxL + 11) + rm.locals ≤ R.locals)
    (hws : ∀ w ∈ ws, ∀ a' U, s.WarmedH U.vm → w.before a' U = true) (hcode : Cond.codeWith y bytes maxL ret hh ∈ ws) (hinit : ∀ a' U, s.WarmedH U.vm → (Cond.initialized y.cls).before a' U = true) :
    vx_Back l R p e below s sargs y len W9 (PreOf R mc ms Pc) (PostOf Qc mc ms free) (vx_Post XC mc ms free) := by
  intro m meth c A g ig mk a X hg hsize hdg hW hn hp
  have h1 : (headSpec ws rm).pre.before a A.U = true := atoms_intro fun w hw => hws w hw _ _ X.warmed
  have h2 : (Cond.codeWith y bytes maxL ret hh).before a A.U = true := hws _ hcode _ _ X.warmed
  have h3 : (Cond.initialized y.cls).before a A.U = true := hinit _ _ X.warmed
  have h4 : A.cells + (headSpec ws rm).room.cells ≤ R.cells := by rw [show (headSpec ws rm).room.cells = mc from hrc]; exact hp.1
  have h5 : A.slots + (headSpec ws rm).room.slots ≤ R.slots := by rw [show (headSpec ws rm).room.slots = ms from hrs]; exact hp.2.1
  have hPc : Pc a (A.U.calling g mk a) := hblind _ _ _ _ hp.2.2
  obtain ⟨U, Ls, c0, s0⟩ := A
  dsimp only [Pt.U, Pt.locs, Pt.cells, Pt.slots] at h1 h2 h3 h4 h5 X hn hPc ⊢
  obtain ⟨m9, methY, cY, hn9, hmY, hcY, -, hlY, -⟩ := Cond.codeWith_spec h2
  cases Option.some.inj (hn9.symm.trans hn)
  obtain ⟨kY, hkY, -⟩ := className_of_methodNamed hn
  have hinitY : kY.init = .initialized := Cond.initialized_spec (findClass_of_methodNamed hn) hkY h3
  have h : At U g.method c below := by rw [hg]; exact X.here
  have hlocals9 : W9 + (maxL + 11) + (headSpec ws rm).room.locals ≤ R.locals := hlocals
  have happ : (headSpec ws rm).appliesLoose y e.platform (U.calling g mk a) = true :=
    Spec.appliesLoose_calling (g := g) h hdg hn hkY hinitY
      (X.room_calling (g := g) (R' := (headSpec ws rm).room) hsize hmY hcY hframes (by rw [hlY]; omega) h4 h5) h1
  obtain ⟨mid, hmid⟩ := h.above
  have hfr : (U.setTop g).frames = (.java g :: mid) ++ below := by rw [State.frames_setTop' g h.top, hmid]; rfl
  obtain ⟨o, s₂, hsteps, -, hend, hq⟩ := Steps.callFree hM p X.admits X.cas X.clock (acts := []) hfr happ hPc trivial
  have hq' : vx_Q Qc XC mc ms free a (U.calling g mk a) o s₂ := hq
  rw [State.frames_setTop' g h.top] at hend
  obtain ⟨g₀, hg0⟩ := Option.isSome_iff_exists.mp h.top
  obtain ⟨r, hr⟩ := State.topJava?_eq_some.mp hg0
  have hr' : (({ U with heap := s₂.heap, slotsUsed := s₂.slotsUsed } : State).setVm s₂.vm).frames = .java g₀ :: r := hr
  rcases hq' with ⟨hqc, L, hfe, hL⟩ | ⟨q, rfl, E, ce, L, hx, hce, hcv, hcl, hW₂, hsm, hL⟩
  · obtain ⟨⟨v, rfl⟩, hW₂, e2, q2, q3, q4, q5, q6⟩ := id hfe
    have e3 : s₂ = ({ (U.calling g mk a).setFrames s₂.frames with heap := s₂.heap, slotsUsed := s₂.slotsUsed } : State).setVm s₂.vm := by
      have : s₂ = ({ s₂ with vm := (U.calling g mk a).vm } : State).setVm s₂.vm := rfl
      rw [e2] at this
      exact this
    obtain ⟨c₂, i₂, len₂, hc₂, hd₂, hf₂⟩ := hend
    have hW' : U.WarmedH s₂.vm := hW₂
    have hcc : c₂ = c := by
      have h1 : s₂.code? g.method = U.code? g.method := by
        rw [State.code?_eq, State.code?_eq, hW'.alike.method?]
      exact Option.some.inj (hc₂.symm.trans (h1.trans h.code))
    subst hcc
    have hlen : len₂ = len := by rw [hdg] at hd₂; cases hd₂; rfl
    subst hlen
    have hs₂ : s₂ = (({ U with heap := s₂.heap, slotsUsed := s₂.slotsUsed } : State).setVm s₂.vm).setTop { g with pc := g.pc + len₂, stack := v.toList ++ g.stack } := by
      refine e3.trans ?_
      rw [hf₂, State.calling_eq h.top, State.setFrames_setFrames, State.setTop_of_frames _ hr', hr]
      rfl
    have hsame : U.sameButNew ({ U with heap := s₂.heap, slotsUsed := s₂.slotsUsed } : State) L mc ms := by
      refine ⟨?_, q2, q3, q4, q5, q6⟩
      obtain ⟨t, ht, -⟩ := State.frames_cons hr
      show ({ U with heap := s₂.heap, slotsUsed := s₂.slotsUsed } : State) = { U.setFrames U.frames with heap := s₂.heap, slotsUsed := s₂.slotsUsed }
      rw [State.setFrames_self ht]
    subst hg
    refine Or.inl ⟨v, ⟨(({ U with heap := s₂.heap, slotsUsed := s₂.slotsUsed } : State).setVm s₂.vm), Ls ++ L, c0 + mc, s0 + ms⟩,
      ⟨X.admits, X.cas, X.clock, X.frames, X.room, X.hears, X.method, X.code, (X.here.setHeapUsed s₂.heap s₂.slotsUsed).setVm hW'.alike, X.tail, State.WarmedH.trans X.warmed hW', X.limits, X.bytes, X.same.trans (hsame.setVm s.vm)⟩,
      ⟨g, mk, s₂, L, rfl, rfl, hqc, rfl, hL, rfl, rfl⟩, ?_⟩
    show Steps p.tables e below _ ((({ U with heap := s₂.heap, slotsUsed := s₂.slotsUsed } : State).setVm s₂.vm).setTop { g with pc := g.pc + len₂, stack := v.toList ++ g.stack })
    rw [← hs₂]
    exact hsteps
  · obtain ⟨e2, q2, q3, q4, q5, q6⟩ := id hsm
    have e3 : s₂ = ({ (U.calling g mk a).setFrames s₂.frames with heap := s₂.heap, slotsUsed := s₂.slotsUsed } : State).setVm s₂.vm := by
      have : s₂ = ({ s₂ with vm := (U.calling g mk a).vm } : State).setVm s₂.vm := rfl
      rw [e2] at this
      exact this
    have hf₂ : s₂.frames = .throwing q :: .java g :: U.frames.tail := hend
    have hW' : U.WarmedH s₂.vm := hW₂
    have hs₂ : s₂ = ((({ U with heap := s₂.heap, slotsUsed := s₂.slotsUsed } : State).setVm s₂.vm).setTop g).pushFrame (.throwing q) := by
      refine e3.trans ?_
      rw [hf₂, State.calling_eq h.top, State.setFrames_setFrames, State.pushFrame, State.frames_setTop _ hr', State.setTop_of_frames _ hr', State.setFrames_setFrames, hr]
      rfl
    have hsame : U.sameButNew ({ U with heap := s₂.heap, slotsUsed := s₂.slotsUsed } : State) L mc ms := by
      refine ⟨?_, q2, q3, q4, q5, q6⟩
      obtain ⟨t, ht, -⟩ := State.frames_cons hr
      show ({ U with heap := s₂.heap, slotsUsed := s₂.slotsUsed } : State) = { U.setFrames U.frames with heap := s₂.heap, slotsUsed := s₂.slotsUsed }
      rw [State.setFrames_self ht]
    subst hg
    refine Or.inr ⟨q, ⟨(({ U with heap := s₂.heap, slotsUsed := s₂.slotsUsed } : State).setVm s₂.vm), Ls ++ L, c0 + mc, s0 + ms⟩,
      ⟨X.admits, X.cas, X.clock, X.frames, X.room, X.hears, X.method, X.code, (X.here.setHeapUsed s₂.heap s₂.slotsUsed).setVm hW'.alike, X.tail, State.WarmedH.trans X.warmed hW', X.limits, X.bytes, X.same.trans (hsame.setVm s.vm)⟩,
      ⟨g, mk, s₂, L, E, ce, rfl, rfl, hx, hce, hcv, hcl, rfl, hL, rfl, rfl⟩, ?_⟩
    show Steps p.tables e below _ (((({ U with heap := s₂.heap, slotsUsed := s₂.slotsUsed } : State).setVm s₂.vm).setTop g).pushFrame (.throwing q))
    rw [← hs₂]
    exact hsteps
end
variable {p : Program} {l : Launch} {e : Env} {R : Room} {s : State} {m : MethodId} {args : Array Value} {below : List Frame} {meth : Method} {c : Code} {T : State} {H : Heap} {locs : List Loc} {cells slots : Nat}
theorem vx_callVX (X : Stand p l e R s m args below meth c T locs cells slots) (hexec : p.tables.exec = Jvm.exec) {own C : String} {index : Nat} {y : MethodName} {bytes : ByteArray} {maxL : Nat} {ret : Option FieldType} {hh : List (Nat × Nat × Nat × Nat)}
    (hown : s.vm.findClass own = some m.cls) (hlink : (Cond.methodLink own index y).before args s = true) (hinst : (Cond.instanceMethod y).before args s = true) (hsel : (Cond.selects C y y).before args s = true)
    (hcode : (Cond.codeWith y bytes maxL ret hh).before args s = true) (hy : y.cls ≠ "java/lang/invoke/MethodHandle" ∧ y.cls ≠ "java/lang/invoke/VarHandle")
    {W9 : Nat} {Pre : Pt → Array Value → Prop} {Post : Pt → Array Value → Option Value → Pt → Prop} {PostX : Pt → Array Value → Addr → Pt → Prop} (hK : vx_Back l R p e below s args y 3 W9 Pre Post PostX)
    {b : Addr} {cellB : Cell} (hcell : T.heap[b]? = some cellB) (hobj : cellB.vm.isStatics = false) (hcls : s.vm.findClass C = some cellB.cls)
    {g : JFrame} (hg : g.method = m) (hsize : g.locals.size = c.maxLocals) {argsL rest : List Value} (hlen : ∀ sig, parseMethodDescriptor y.desc = some sig → argsL.length = sig.parameters.length)
    (hstack : g.stack = argsL.reverse ++ .ref b :: rest) (hW : 2 * g.monitorRoom + (rest.map fun v => v.category).sum ≤ W9) (hdg : decode c.code g.pc = .ok (.invokevirtual index, 3))
    (hpre : ∀ vm₁, s.WarmedH vm₁ → Pre ⟨T.setVm vm₁, locs, cells, slots⟩ (Value.ref b :: argsL).toArray) :
    (∃ (v : Option Value) (vm₁ : Vm) (B : Pt), s.WarmedH vm₁ ∧ Stand p l e R s m args below meth c B.U B.locs B.cells B.slots ∧ Post ⟨T.setVm vm₁, locs, cells, slots⟩ (Value.ref b :: argsL).toArray v B ∧
      ∀ target, Steps p.tables e below (B.U.setTop { g with pc := g.pc + 3, stack := v.toList ++ rest }) target → Steps p.tables e below (T.setTop g) target) ∨
    (∃ (q : Addr) (vm₁ : Vm) (B : Pt), s.WarmedH vm₁ ∧ Stand p l e R s m args below meth c B.U B.locs B.cells B.slots ∧ PostX ⟨T.setVm vm₁, locs, cells, slots⟩ (Value.ref b :: argsL).toArray q B ∧
      Steps p.tables e below (T.setTop g) ((B.U.setTop { g with stack := rest }).pushFrame (.throwing q))) := by
  obtain ⟨mk, methM, hnamed, hmethM, hstM, habM⟩ := Cond.instanceMethod_spec hinst
  obtain ⟨m8, methM', cM, hn8, hmethM', -, -, -, -, -, -, hsigM⟩ := Cond.codeWith_spec hcode
  cases Option.some.inj (hn8.symm.trans hnamed)
  cases hmethM.symm.trans hmethM'
  obtain ⟨c2, r2, m2, q1, q2, q3, q4, kP, hkP, hkPi⟩ := Cond.selects_spec hsel
  cases hcls.symm.trans q1
  cases (State.methodFound?_of_named hnamed hy).symm.trans q2
  cases hnamed.symm.trans q3
  have hselP : selectMethod e.platform s.vm cellB.cls mk = .method mk := by rw [Launch.admits_selectMethod X.admits]; exact q4
  obtain ⟨vm₁, X₁, hstep₁⟩ := X.invokevirtual hexec hown hlink hnamed hmethM hstM hkP hkPi hy (a := b) (cell := cellB) hcell
    (fun z h => by rw [h] at hobj; cases hobj) hselP hmethM habM hkP hkPi (g := g) hg (argsL := argsL) (rest := rest) (hlen _ hsigM) hstack hdg
  rcases hK m meth c ⟨T.setVm vm₁, locs, cells, slots⟩ { g with stack := rest } (.invokevirtual index) mk (Value.ref b :: argsL).toArray X₁ hg hsize hdg hW (X₁.named hnamed) (hpre vm₁ X₁.warmed) with ⟨v, B, X', hpost, hsteps⟩ | ⟨q, B, X', hpost, hsteps⟩
  · exact Or.inl ⟨v, vm₁, B, X₁.warmed, X', hpost, fun target h => hstep₁ _ fun acts => by rw [doInvoke_state]; exact hsteps.trans h⟩
  · exact Or.inr ⟨q, vm₁, B, X₁.warmed, X', hpost, hstep₁ _ fun acts => by rw [doInvoke_state]; exact hsteps⟩
theorem vx_callSX (X : Stand p l e R s m args below meth c T locs cells slots) (hexec : p.tables.exec = Jvm.exec) {own : String} {index : Nat} {y : MethodName} {bytes : ByteArray} {maxL : Nat} {ret : Option FieldType} {hh : List (Nat × Nat × Nat × Nat)}
    (hown : s.vm.findClass own = some m.cls) (hlink : (Cond.methodLink own index y).before args s = true) (hstat : (Cond.static y).before args s = true) (hinit : (Cond.initialized y.cls).before args s = true)
    (hcode : (Cond.codeWith y bytes maxL ret hh).before args s = true) (hy : y.cls ≠ "java/lang/invoke/MethodHandle" ∧ y.cls ≠ "java/lang/invoke/VarHandle")
    {W9 : Nat} {Pre : Pt → Array Value → Prop} {Post : Pt → Array Value → Option Value → Pt → Prop} {PostX : Pt → Array Value → Addr → Pt → Prop} (hK : vx_Back l R p e below s args y 3 W9 Pre Post PostX)
    {g : JFrame} (hg : g.method = m) (hsize : g.locals.size = c.maxLocals) {argsL rest : List Value} (hlen : ∀ sig, parseMethodDescriptor y.desc = some sig → argsL.length = sig.parameters.length)
    (hstack : g.stack = argsL.reverse ++ rest) (hW : 2 * g.monitorRoom + (rest.map fun v => v.category).sum ≤ W9) (hdg : decode c.code g.pc = .ok (.invokestatic index, 3))
    (hpre : ∀ vm₁, s.WarmedH vm₁ → Pre ⟨T.setVm vm₁, locs, cells, slots⟩ argsL.toArray) :
    (∃ (v : Option Value) (vm₁ : Vm) (B : Pt), s.WarmedH vm₁ ∧ Stand p l e R s m args below meth c B.U B.locs B.cells B.slots ∧ Post ⟨T.setVm vm₁, locs, cells, slots⟩ argsL.toArray v B ∧
      ∀ target, Steps p.tables e below (B.U.setTop { g with pc := g.pc + 3, stack := v.toList ++ rest }) target → Steps p.tables e below (T.setTop g) target) ∨
    (∃ (q : Addr) (vm₁ : Vm) (B : Pt), s.WarmedH vm₁ ∧ Stand p l e R s m args below meth c B.U B.locs B.cells B.slots ∧ PostX ⟨T.setVm vm₁, locs, cells, slots⟩ argsL.toArray q B ∧
      Steps p.tables e below (T.setTop g) ((B.U.setTop { g with stack := rest }).pushFrame (.throwing q))) := by
  obtain ⟨mk, methM, cM, hnamed, hmethM, -, -, -, -, -, -, hsigM⟩ := Cond.codeWith_spec hcode
  have hstatic : methM.isStatic = true := Cond.static_spec hnamed hmethM hstat
  obtain ⟨kP, hkP, -⟩ := className_of_methodNamed hnamed
  have hinitP : kP.init = .initialized := Cond.initialized_spec (findClass_of_methodNamed hnamed) hkP hinit
  obtain ⟨vm₁, X₁, hstep₁⟩ := X.invokestatic hexec hown hlink hnamed hmethM hstatic hkP hinitP hy (g := g) hg (argsL := argsL) (rest := rest) (hlen _ hsigM) hstack hdg
  rcases hK m meth c ⟨T.setVm vm₁, locs, cells, slots⟩ { g with stack := rest } (.invokestatic index) mk argsL.toArray X₁ hg hsize hdg hW (X₁.named hnamed) (hpre vm₁ X₁.warmed) with ⟨v, B, X', hpost, hsteps⟩ | ⟨q, B, X', hpost, hsteps⟩
  · exact Or.inl ⟨v, vm₁, B, X₁.warmed, X', hpost, fun target h => hstep₁ _ fun acts => by rw [doInvoke_state]; exact hsteps.trans h⟩
  · exact Or.inr ⟨q, vm₁, B, X₁.warmed, X', hpost, hstep₁ _ fun acts => by rw [doInvoke_state]; exact hsteps⟩
theorem vx_callVW (X : Stand p l e R s m args below meth c T locs cells slots) (hexec : p.tables.exec = Jvm.exec) {own C : String} {index : Nat} {y : MethodName} {bytes : ByteArray} {maxL : Nat} {ret : Option FieldType} {hh : List (Nat × Nat × Nat × Nat)}
    (hown : s.vm.findClass own = some m.cls) (hlink : (Cond.methodLink own index y).before args s = true) (hinst : (Cond.instanceMethod y).before args s = true) (hsel : (Cond.selects C y y).before args s = true)
    (hcode : (Cond.codeWith y bytes maxL ret hh).before args s = true) (hy : y.cls ≠ "java/lang/invoke/MethodHandle" ∧ y.cls ≠ "java/lang/invoke/VarHandle")
    {W9 : Nat} {Pre : Pt → Array Value → Prop} {Post : Pt → Array Value → Option Value → Pt → Prop} (hK : Back l R p e below s args y 3 W9 Pre Post)
    {b : Addr} {cellB : Cell} (hcell : T.heap[b]? = some cellB) (hobj : cellB.vm.isStatics = false) (hcls : s.vm.findClass C = some cellB.cls)
    {g : JFrame} (hg : g.method = m) (hsize : g.locals.size = c.maxLocals) {argsL rest : List Value} (hlen : ∀ sig, parseMethodDescriptor y.desc = some sig → argsL.length = sig.parameters.length)
    (hstack : g.stack = argsL.reverse ++ .ref b :: rest) (hW : 2 * g.monitorRoom + (rest.map fun v => v.category).sum ≤ W9) (hdg : decode c.code g.pc = .ok (.invokevirtual index, 3))
    (hpre : ∀ vm₁, s.WarmedH vm₁ → Pre ⟨T.setVm vm₁, locs, cells, slots⟩ (Value.ref b :: argsL).toArray) :
    ∃ (v : Option Value) (vm₁ : Vm) (B : Pt), s.WarmedH vm₁ ∧ Stand p l e R s m args below meth c B.U B.locs B.cells B.slots ∧ Post ⟨T.setVm vm₁, locs, cells, slots⟩ (Value.ref b :: argsL).toArray v B ∧
      ∀ target, Steps p.tables e below (B.U.setTop { g with pc := g.pc + 3, stack := v.toList ++ rest }) target → Steps p.tables e below (T.setTop g) target := by
  obtain ⟨mk, methM, hnamed, hmethM, hstM, habM⟩ := Cond.instanceMethod_spec hinst
  obtain ⟨m8, methM', cM, hn8, hmethM', -, -, -, -, -, -, hsigM⟩ := Cond.codeWith_spec hcode
  cases Option.some.inj (hn8.symm.trans hnamed)
  cases hmethM.symm.trans hmethM'
  obtain ⟨c2, r2, m2, q1, q2, q3, q4, kP, hkP, hkPi⟩ := Cond.selects_spec hsel
  cases hcls.symm.trans q1
  cases (State.methodFound?_of_named hnamed hy).symm.trans q2
  cases hnamed.symm.trans q3
  have hselP : selectMethod e.platform s.vm cellB.cls mk = .method mk := by rw [Launch.admits_selectMethod X.admits]; exact q4
  obtain ⟨vm₁, X₁, hstep₁⟩ := X.invokevirtual hexec hown hlink hnamed hmethM hstM hkP hkPi hy (a := b) (cell := cellB) hcell
    (fun z h => by rw [h] at hobj; cases hobj) hselP hmethM habM hkP hkPi (g := g) hg (argsL := argsL) (rest := rest) (hlen _ hsigM) hstack hdg
  obtain ⟨v, B, X', hpost, hsteps⟩ := hK m meth c ⟨T.setVm vm₁, locs, cells, slots⟩ { g with stack := rest } (.invokevirtual index) mk (Value.ref b :: argsL).toArray X₁ hg hsize hdg hW (X₁.named hnamed) (hpre vm₁ X₁.warmed)
  exact ⟨v, vm₁, B, X₁.warmed, X', hpost, fun target h => hstep₁ _ fun acts => by rw [doInvoke_state]; exact hsteps.trans h⟩
abbrev vx_CVW (R : Room) (s : State) (args : Array Value) (own C : String) (index : Nat) (y : MethodName) (bytes : ByteArray) (maxL : Nat) (ret : Option FieldType) (hh : List (Nat × Nat × Nat × Nat)) (ws : List Cond) (rm : Room) (mc ms n : Nat) : Prop :=
  (rm.cells = mc ∧ rm.slots = ms ∧ rm.frames + 1 ≤ R.frames ∧ 8 + (maxL + 11) + rm.locals ≤ R.locals ∧ (∀ w ∈ ws, ∀ (a' : Array Value) (U : State), s.WarmedH U.vm → w.before a' U = true) ∧ Cond.codeWith y bytes maxL ret hh ∈ ws) ∧
  (Cond.codeWith y bytes maxL ret hh).before args s = true ∧ (Cond.initialized y.cls).before args s = true ∧ (y.cls ≠ "java/lang/invoke/MethodHandle" ∧ y.cls ≠ "java/lang/invoke/VarHandle") ∧
  (∀ sig, parseMethodDescriptor y.desc = some sig → n = sig.parameters.length) ∧ (Cond.methodLink own index y).before args s = true ∧ (Cond.instanceMethod y).before args s = true ∧ (Cond.selects C y y).before args s = true
theorem vx_cwVW {own C : String} {index maxL mc ms : Nat} {y : MethodName} {bytes : ByteArray} {ret : Option FieldType} {hh : List (Nat × Nat × Nat × Nat)} {Ts ws ws' : List Cond} {rm : Room} (n : Nat) (ht : ∀ w ∈ Ts, w.before args s = true) (hT : GoodIn Ts (wsV own index C y ws)) (hw : ws = Cond.codeWith y bytes maxL ret hh :: ws') (hrc : rm.cells = mc) (hrs : rm.slots = ms)
    (hd : y.cls = C ∧ y.cls ≠ "java/lang/invoke/MethodHandle" ∧ y.cls ≠ "java/lang/invoke/VarHandle" ∧ (parseMethodDescriptor y.desc).map (fun d => d.parameters.length) = some n) (hR : rm.frames + 1 ≤ R.frames ∧ 8 + (maxL + 11) + rm.locals ≤ R.locals) :
    vx_CVW R s args own C index y bytes maxL ret hh ws rm mc ms n := by
  obtain ⟨hC, hd⟩ := hd
  subst hC
  have ok : ∀ w ∈ wsV own index y.cls y ws, w.before args s = true := fun w h => ht w (hT w h).1
  have hG : GoodIn Ts ws := fun w h => hT w (by unfold wsV; exact List.mem_append_right _ h)
  have hc : Cond.codeWith y bytes maxL ret hh ∈ ws := by rw [hw]; exact List.mem_cons_self
  refine ⟨⟨hrc, hrs, hR.1, hR.2, pay_in ht hG, hc⟩, ht _ (hG _ hc).1, ok _ (by simp [wsV]), ⟨hd.1, hd.2.1⟩, fun sig h => ?_, ok _ (by simp [wsV]), ok _ (by simp [wsV]), ok _ (by simp [wsV])⟩
  have h2 := hd.2.2
  rw [h] at h2
  exact (Option.some.inj h2).symm
theorem vx_runVW {y : MethodName} {bytes cc : ByteArray} {maxL nL mc ms n index : Nat} {ret : Option FieldType} {hh : List (Nat × Nat × Nat × Nat)} {ws : List Cond} {rm : Room} {Pc : Array Value → State → Prop} {Qc : Array Value → State → Outcome → State → Prop} {free : Addr → Prop} {Ts : List Cond} {own C : String} {b : Addr} {As rest : List Value} {g : JFrame}
    (S : CallFix p m c cc nL s args Ts own) (hM : Met l y ws rm Pc Qc mc ms free) (cw : vx_CVW R s args own C index y bytes maxL ret hh ws rm mc ms n) (hp : PreV s H C b Pc As)
    (hg : g.method = m) (hn : As.length = n) (hsize : g.locals.size = nL) (hstack : g.stack = As.reverse ++ .ref b :: rest) (hW : 2 * g.monitorRoom + (rest.map fun v => v.category).sum ≤ 8) (hdg : decode cc g.pc = .ok (.invokevirtual index, 3)) (hf : cells + mc ≤ R.cells ∧ slots + ms ≤ R.slots) :
    va_Run p l e R s m args below meth c H locs cells slots mc ms g rest (Qc (Value.ref b :: As).toArray) free := by
  obtain ⟨⟨hrc, hrs, hfr, hlo, hws, hcw⟩, hcode, hini, hy, hlen, hl, hin, hse⟩ := cw
  have hK : Back l R p e below s args y 3 8 (PreOf R mc ms Pc) (PostOf Qc mc ms free) := va_backW (hh := hh) (bytes := bytes) (maxL := maxL) (ret := ret) hM hp.1 hrc hrs hfr hlo hws hcw (fun a' U hW => word_at hW (Or.inl (by first | rfl | simp [Cond.onTables, Cond.keeps, Cond.steady])) hini)
  obtain ⟨hx, hb, hml, ho, -⟩ := S
  obtain ⟨-, ⟨cellB, hcB, hoB, hclB⟩, hPc⟩ := hp
  intro T hT X
  obtain ⟨v, vm₁, ⟨U', l2, c2, s2⟩, hW₁, X', ⟨g', mk, t, L, e1, e2, hq, h1, hL, h2, h3⟩, st⟩ := vx_callVW X hx (C := C) (hh := hh) (bytes := bytes) (maxL := maxL) (ret := ret) ho hl hin hse hcode hy hK (by rw [hT]; exact hcB) hoB hclB hg (hsize.trans hml.symm) (argsL := As) (rest := rest) (fun sig h => hn.trans (hlen sig h)) hstack hW (by rw [hb]; exact hdg)
    (fun vm₁ hW₁ => ⟨hf.1, hf.2, hPc (T.setVm vm₁) hT hW₁⟩)
  dsimp only [Pt.U, Pt.locs, Pt.cells, Pt.slots] at X' e1 e2 h1 h2 h3 st
  subst h1; subst h2; subst h3
  exact ⟨v, (T.setVm vm₁).calling g' mk (Value.ref b :: As).toArray, t, U', L, hT, X', hL, e1, e2, hq, st⟩
section
variable {y : MethodName} {bytes cc : ByteArray} {maxL nL mc ms n index : Nat} {ret : Option FieldType} {ws : List Cond} {rm : Room} {Pc : Array Value → State → Prop} {Qc : Array Value → State → Outcome → State → Prop} {XC : String → State → State → Prop} {free : Addr → Prop} {Ts : List Cond} {own C : String} {b : Addr} {As rest : List Value} {g : JFrame}
theorem vx_runVX {hh : List (Nat × Nat × Nat × Nat)} (S : CallFix p m c cc nL s args Ts own) (hM : vx_Met l y ws rm Pc Qc XC mc ms free) (cw : vx_CVW R s args own C index y bytes maxL ret hh ws rm mc ms n) (hp : PreV s H C b Pc As)
    (hg : g.method = m) (hn : As.length = n) (hsize : g.locals.size = nL) (hstack : g.stack = As.reverse ++ .ref b :: rest) (hW : 2 * g.monitorRoom + (rest.map fun v => v.category).sum ≤ 8) (hdg : decode cc g.pc = .ok (.invokevirtual index, 3)) (hf : cells + mc ≤ R.cells ∧ slots + ms ≤ R.slots) :
    vx_Run p l e R s m args below meth c H locs cells slots mc ms g rest (Qc (Value.ref b :: As).toArray) XC free := by
  obtain ⟨⟨hrc, hrs, hfr, hlo, hws, hcw⟩, hcode, hini, hy, hlen, hl, hin, hse⟩ := cw
  have hK : vx_Back l R p e below s args y 3 8 (PreOf R mc ms Pc) (PostOf Qc mc ms free) (vx_Post XC mc ms free) := vx_backW (hh := hh) (bytes := bytes) (maxL := maxL) (ret := ret) hM hp.1 hrc hrs hfr hlo hws hcw (fun a' U hW => word_at hW (Or.inl (by first | rfl | simp [Cond.onTables, Cond.keeps, Cond.steady])) hini)
  obtain ⟨hx, hb, hml, ho, -⟩ := S
  obtain ⟨-, ⟨cellB, hcB, hoB, hclB⟩, hPc⟩ := hp
  intro T hT X
  rcases vx_callVX X hx (C := C) (hh := hh) (bytes := bytes) (maxL := maxL) (ret := ret) ho hl hin hse hcode hy hK (by rw [hT]; exact hcB) hoB hclB hg (hsize.trans hml.symm) (argsL := As) (rest := rest) (fun sig h => hn.trans (hlen sig h)) hstack hW (by rw [hb]; exact hdg)
    (fun vm₁ hW₁ => ⟨hf.1, hf.2, hPc (T.setVm vm₁) hT hW₁⟩) with ⟨v, vm₁, ⟨U', l2, c2, s2⟩, hW₁, X', ⟨g', mk, t, L, e1, e2, hq, h1, hL, h2, h3⟩, st⟩ | ⟨q, vm₁, ⟨U', l2, c2, s2⟩, hW₁, X', ⟨g', mk, t, L, E, ce, e1, e2, hq, hce, hcv, hcl, h1, hL, h2, h3⟩, st⟩
  · dsimp only [Pt.U, Pt.locs, Pt.cells, Pt.slots] at X' e1 e2 h1 h2 h3 st
    subst h1; subst h2; subst h3
    exact Or.inl ⟨v, (T.setVm vm₁).calling g' mk (Value.ref b :: As).toArray, t, U', L, hT, X', hL, e1, e2, hq, st⟩
  · dsimp only [Pt.U, Pt.locs, Pt.cells, Pt.slots] at X' e1 e2 h1 h2 h3 st hcl
    subst h1; subst h2; subst h3
    exact Or.inr ⟨q, (T.setVm vm₁).calling g' mk (Value.ref b :: As).toArray, t, U', L, E, ce, hT, X', hL, e1, e2, hq, hce, hcv, vx_cls hW₁ hcl, st⟩
theorem vx_runSX {hh : List (Nat × Nat × Nat × Nat)} (S : CallFix p m c cc nL s args Ts own) (hM : vx_Met l y ws rm Pc Qc XC mc ms free) (cw : vx_CSW R s args own index y bytes maxL ret hh ws rm mc ms n) (hp : PreS s H Pc As)
    (hg : g.method = m) (hn : As.length = n) (hsize : g.locals.size = nL) (hstack : g.stack = As.reverse ++ rest) (hW : 2 * g.monitorRoom + (rest.map fun v => v.category).sum ≤ 8) (hdg : decode cc g.pc = .ok (.invokestatic index, 3)) (hf : cells + mc ≤ R.cells ∧ slots + ms ≤ R.slots) :
    vx_Run p l e R s m args below meth c H locs cells slots mc ms g rest (Qc As.toArray) XC free := by
  obtain ⟨⟨hrc, hrs, hfr, hlo, hws, hcw⟩, hcode, hini, hy, hlen, hl, hstt⟩ := cw
  have hK : vx_Back l R p e below s args y 3 8 (PreOf R mc ms Pc) (PostOf Qc mc ms free) (vx_Post XC mc ms free) := vx_backW (hh := hh) (bytes := bytes) (maxL := maxL) (ret := ret) hM hp.1 hrc hrs hfr hlo hws hcw (fun a' U hW => word_at hW (Or.inl (by first | rfl | simp [Cond.onTables, Cond.keeps, Cond.steady])) hini)
  obtain ⟨hx, hb, hml, ho, -⟩ := S
  intro T hT X
  rcases vx_callSX X hx (hh := hh) (bytes := bytes) (maxL := maxL) (ret := ret) ho hl hstt hini hcode hy hK hg (hsize.trans hml.symm) (argsL := As) (rest := rest) (fun sig h => hn.trans (hlen sig h)) hstack hW (by rw [hb]; exact hdg)
    (fun vm₁ hW₁ => ⟨hf.1, hf.2, hp.2 (T.setVm vm₁) hT hW₁⟩) with ⟨v, vm₁, ⟨U', l2, c2, s2⟩, hW₁, X', ⟨g', mk, t, L, e1, e2, hq, h1, hL, h2, h3⟩, st⟩ | ⟨q, vm₁, ⟨U', l2, c2, s2⟩, hW₁, X', ⟨g', mk, t, L, E, ce, e1, e2, hq, hce, hcv, hcl, h1, hL, h2, h3⟩, st⟩
  · dsimp only [Pt.U, Pt.locs, Pt.cells, Pt.slots] at X' e1 e2 h1 h2 h3 st
    subst h1; subst h2; subst h3
    exact Or.inl ⟨v, (T.setVm vm₁).calling g' mk As.toArray, t, U', L, hT, X', hL, e1, e2, hq, st⟩
  · dsimp only [Pt.U, Pt.locs, Pt.cells, Pt.slots] at X' e1 e2 h1 h2 h3 st hcl
    subst h1; subst h2; subst h3
    exact Or.inr ⟨q, (T.setVm vm₁).calling g' mk As.toArray, t, U', L, E, ce, hT, X', hL, e1, e2, hq, hce, hcv, vx_cls hW₁ hcl, st⟩
end
end VXH
theorem vx_ofWH {l : Launch} {y : MethodName} {ws ws' : List Cond} {rm : Room} {Pc : Array Value → State → Prop} {Qc : Array Value → State → Outcome → State → Prop} {XC : String → State → State → Prop} {mc ms : Nat} {free : Addr → Prop} {cc : ByteArray} {maxL : Nat} {ret : Option FieldType} {hh : List (Nat × Nat × Nat × Nat)}
    (hy : plainName y.cls = true) (hw : ws = Cond.codeWith y cc maxL ret hh :: ws')
    (body : ∀ p e s m args below meth c s₁, BodyLoose p l y (headSpec ws rm) cc maxL ret e s m args below meth c s₁ → c.maxLocals = maxL → Pc args s →
      W p l e (headSpec ws rm).room s m args below meth c s.heap [] 0 0 (vx_MQ below Qc XC args s mc ms free) (entryFrame m args maxL)) : vx_Met l y ws rm Pc Qc XC mc ms free := by
  refine MetFree.of_bodyS (code := cc) (maxLocals := maxL) (ret := ret) hy ?_ ?_
  · intro args s m h hn
    obtain ⟨m9, meth, c, hn9, h1, h2, h3, h4, -, h5, h6, -⟩ := Cond.codeWith_spec (atoms_spec (ws := ws) h _ (by rw [hw]; exact List.mem_cons_self))
    cases hn.symm.trans hn9
    exact ⟨meth, c, h1, h2, h3, h4, h5, h6⟩
  · intro p e s m args below meth c s₁ B hml hP _
    have hh0 : s₁.heap = s.heap := by rw [B.state]; rfl
    obtain ⟨t, a1, o, b1, b2, b3⟩ := body p e s m args below meth c s₁ B hml hP s₁ hh0 (Stand.of_body B)
    exact ⟨t, o, a1, b1, b2, b3⟩
/-! ===== END ===== -/

def RX0 : String := "SlipSecret$Code"
def TX0 : u_T := fun k => match k with
  | _ => ("", "", "", false)
def tyX0 : Nat → FieldType := fun k => match k with
  | _ => .int
abbrev wsX00 : List Cond := u_ws RX0 TX0 0
theorem nmX0 : ∀ a, a < 0 → ∀ b, b < 0 → a ≠ b → (TX0 a).2.1 ≠ (TX0 b).2.1 := by decide +kernel
theorem tyX0_ok : ∀ k, k < 0 → parseFieldDescriptor (TX0 k).2.2.1 = some (tyX0 k) := by decide +kernel
abbrev cX0_isRepeat : ByteArray := prog_2_method_2_code
def yX0_isRepeat : MethodName := ⟨RX0, "isRepeat", "(I)Z"⟩
abbrev cX0_lengthOf : ByteArray := prog_2_method_3_code
def yX0_lengthOf : MethodName := ⟨RX0, "lengthOf", "(I)I"⟩
abbrev cX0_bitsOf : ByteArray := prog_2_method_4_code
def yX0_bitsOf : MethodName := ⟨RX0, "bitsOf", "(I)I"⟩
abbrev cX0_mendedBy : ByteArray := prog_2_method_5_code
def yX0_mendedBy : MethodName := ⟨RX0, "mendedBy", "(I)I"⟩
abbrev cX0_wordOf : ByteArray := prog_2_method_6_code
def yX0_wordOf : MethodName := ⟨RX0, "wordOf", "(II)I"⟩
abbrev cX0_decodedFrom : ByteArray := prog_2_method_7_code
def yX0_decodedFrom : MethodName := ⟨RX0, "decodedFrom", "(II)I"⟩
abbrev cX0_wordsOf : ByteArray := prog_2_method_8_code
def yX0_wordsOf : MethodName := ⟨RX0, "wordsOf", "(III)I"⟩
abbrev cX0_secretFrom : ByteArray := prog_2_method_9_code
def yX0_secretFrom : MethodName := ⟨RX0, "secretFrom", "(III)I"⟩
abbrev cX0_checkWith : ByteArray := prog_2_method_10_code
def yX0_checkWith : MethodName := ⟨RX0, "checkWith", "(III)I"⟩
abbrev cX0_canBecome : ByteArray := prog_2_method_11_code
def yX0_canBecome : MethodName := ⟨RX0, "canBecome", "(III)Z"⟩
def RX1 : String := "SlipSecret$Enrolment"
def TX1 : u_T := fun k => match k with
  | 0 => ("SlipSecret$Enrolment", "count", "I", false)
  | 1 => ("SlipSecret$Enrolment", "pairs", "[I", true)
  | 2 => ("SlipSecret$Enrolment", "repeat", "I", false)
  | 3 => ("SlipSecret$Enrolment", "blocks", "I", false)
  | 4 => ("SlipSecret$Enrolment", "bits", "I", false)
  | 5 => ("SlipSecret$Enrolment", "helper", "I", false)
  | 6 => ("SlipSecret$Enrolment", "firstHelper", "I", false)
  | 7 => ("SlipSecret$Enrolment", "secret", "I", false)
  | _ => ("SlipSecret$Enrolment", "check", "I", false)
def tyX1 : Nat → FieldType := fun k => match k with
  | 0 => .int
  | 1 => .array .int
  | 2 => .int
  | 3 => .int
  | 4 => .int
  | 5 => .int
  | 6 => .int
  | 7 => .int
  | _ => .int
abbrev wsX10 : List Cond := u_ws RX1 TX1 9
theorem nmX1 : ∀ a, a < 9 → ∀ b, b < 9 → a ≠ b → (TX1 a).2.1 ≠ (TX1 b).2.1 := by decide +kernel
theorem tyX1_ok : ∀ k, k < 9 → parseFieldDescriptor (TX1 k).2.2.1 = some (tyX1 k) := by decide +kernel
abbrev cX1_init : ByteArray := prog_3_method_1_code
def yX1_init : MethodName := ⟨RX1, "<init>", "()V"⟩
abbrev cX1_clear : ByteArray := prog_3_method_2_code
def yX1_clear : MethodName := ⟨RX1, "clear", "()V"⟩
abbrev cX1_copyFrom : ByteArray := prog_3_method_3_code
def yX1_copyFrom : MethodName := ⟨RX1, "copyFrom", "(LSlipSecret$Enrolment;)V"⟩
abbrev cX1_isEmpty : ByteArray := prog_3_method_4_code
def yX1_isEmpty : MethodName := ⟨RX1, "isEmpty", "()Z"⟩
abbrev cX1_keep : ByteArray := prog_3_method_5_code
def yX1_keep : MethodName := ⟨RX1, "keep", "(LSlipSecret$Slip;III)V"⟩
abbrev cX1_secretBits : ByteArray := prog_3_method_6_code
def yX1_secretBits : MethodName := ⟨RX1, "secretBits", "()I"⟩
abbrev cX1_placeOf : ByteArray := prog_3_method_7_code
def yX1_placeOf : MethodName := ⟨RX1, "placeOf", "(I)I"⟩
abbrev cX1_pairsAsSet : ByteArray := prog_3_method_8_code
def yX1_pairsAsSet : MethodName := ⟨RX1, "pairsAsSet", "()I"⟩
abbrev cX1_shakyAt : ByteArray := prog_3_method_9_code
def yX1_shakyAt : MethodName := ⟨RX1, "shakyAt", "(LSlipSecret$Slip;I)I"⟩
abbrev cX1_isSafeBlock : ByteArray := prog_3_method_10_code
def yX1_isSafeBlock : MethodName := ⟨RX1, "isSafeBlock", "(II)Z"⟩
abbrev cX1_safeBlocks : ByteArray := prog_3_method_11_code
def yX1_safeBlocks : MethodName := ⟨RX1, "safeBlocks", "(I)I"⟩
abbrev cX1_firstUnsafe : ByteArray := prog_3_method_12_code
def yX1_firstUnsafe : MethodName := ⟨RX1, "firstUnsafe", "(I)I"⟩
abbrev cX1_leaked : ByteArray := prog_3_method_13_code
def yX1_leaked : MethodName := ⟨RX1, "leaked", "()I"⟩
def RX2 : String := "SlipSecret$LeftCounter"
def TX2 : u_T := fun k => match k with
  | _ => ("SlipSecret$LeftCounter", "orders", "[LSlipSecret$Order;", true)
def tyX2 : Nat → FieldType := fun k => match k with
  | _ => .array (.object "SlipSecret$Order")
abbrev wsX20 : List Cond := u_ws RX2 TX2 1
theorem nmX2 : ∀ a, a < 1 → ∀ b, b < 1 → a ≠ b → (TX2 a).2.1 ≠ (TX2 b).2.1 := by decide +kernel
theorem tyX2_ok : ∀ k, k < 1 → parseFieldDescriptor (TX2 k).2.2.1 = some (tyX2 k) := by decide +kernel
abbrev cX2_init : ByteArray := prog_4_method_1_code
def yX2_init : MethodName := ⟨RX2, "<init>", "()V"⟩
abbrev cX2_count : ByteArray := prog_4_method_2_code
def yX2_count : MethodName := ⟨RX2, "count", "(LSlipSecret$Slip;LSlipSecret$Enrolment;LSlipSecret$Order;)I"⟩
abbrev cX2_countFrom : ByteArray := prog_4_method_3_code
def yX2_countFrom : MethodName := ⟨RX2, "countFrom", "(LSlipSecret$Slip;LSlipSecret$Enrolment;II)I"⟩
abbrev cX2_putBlock : ByteArray := prog_4_method_4_code
def yX2_putBlock : MethodName := ⟨RX2, "putBlock", "(LSlipSecret$Slip;LSlipSecret$Enrolment;II)Z"⟩
def RX3 : String := "SlipSecret$Listener"
def TX3 : u_T := fun k => match k with
  | 0 => ("SlipSecret$Listener", "count", "I", false)
  | 1 => ("SlipSecret$Listener", "pairs", "[I", true)
  | 2 => ("SlipSecret$Listener", "heard", "I", false)
  | 3 => ("SlipSecret$Listener", "heardBits", "I", false)
  | _ => ("SlipSecret$Listener", "weights", "[I", true)
def tyX3 : Nat → FieldType := fun k => match k with
  | 0 => .int
  | 1 => .array .int
  | 2 => .int
  | 3 => .int
  | _ => .array .int
abbrev wsX30 : List Cond := u_ws RX3 TX3 5
theorem nmX3 : ∀ a, a < 5 → ∀ b, b < 5 → a ≠ b → (TX3 a).2.1 ≠ (TX3 b).2.1 := by decide +kernel
theorem tyX3_ok : ∀ k, k < 5 → parseFieldDescriptor (TX3 k).2.2.1 = some (tyX3 k) := by decide +kernel
abbrev cX3_init : ByteArray := prog_5_method_1_code
def yX3_init : MethodName := ⟨RX3, "<init>", "()V"⟩
abbrev cX3_clear : ByteArray := prog_5_method_2_code
def yX3_clear : MethodName := ⟨RX3, "clear", "()V"⟩
abbrev cX3_copyFrom : ByteArray := prog_5_method_3_code
def yX3_copyFrom : MethodName := ⟨RX3, "copyFrom", "(LSlipSecret$Listener;)V"⟩
abbrev cX3_hasHeard : ByteArray := prog_5_method_4_code
def yX3_hasHeard : MethodName := ⟨RX3, "hasHeard", "(I)Z"⟩
abbrev cX3_heardBitOf : ByteArray := prog_5_method_5_code
def yX3_heardBitOf : MethodName := ⟨RX3, "heardBitOf", "(I)I"⟩
abbrev cX3_keep : ByteArray := prog_5_method_6_code
def yX3_keep : MethodName := ⟨RX3, "keep", "(II)V"⟩
abbrev cX3_guessOf : ByteArray := prog_5_method_7_code
def yX3_guessOf : MethodName := ⟨RX3, "guessOf", "(LSlipSecret$Slip;I)I"⟩
abbrev cX3_learn : ByteArray := prog_5_method_8_code
def yX3_learn : MethodName := ⟨RX3, "learn", "(LSlipSecret$Slip;)I"⟩
abbrev cX3_putInto : ByteArray := prog_5_method_9_code
def yX3_putInto : MethodName := ⟨RX3, "putInto", "(LSlipSecret$Order;LSlipSecret$Slip;)V"⟩
def RX4 : String := "SlipSecret$Order"
def TX4 : u_T := fun k => match k with
  | _ => ("SlipSecret$Order", "behind", "[I", true)
def tyX4 : Nat → FieldType := fun k => match k with
  | _ => .array .int
abbrev wsX40 : List Cond := u_ws RX4 TX4 1
theorem nmX4 : ∀ a, a < 1 → ∀ b, b < 1 → a ≠ b → (TX4 a).2.1 ≠ (TX4 b).2.1 := by decide +kernel
theorem tyX4_ok : ∀ k, k < 1 → parseFieldDescriptor (TX4 k).2.2.1 = some (tyX4 k) := by decide +kernel
abbrev cX4_init : ByteArray := prog_6_method_1_code
def yX4_init : MethodName := ⟨RX4, "<init>", "()V"⟩
abbrev cX4_clear : ByteArray := prog_6_method_2_code
def yX4_clear : MethodName := ⟨RX4, "clear", "()V"⟩
abbrev cX4_copyFrom : ByteArray := prog_6_method_3_code
def yX4_copyFrom : MethodName := ⟨RX4, "copyFrom", "(LSlipSecret$Order;)V"⟩
abbrev cX4_put : ByteArray := prog_6_method_4_code
def yX4_put : MethodName := ⟨RX4, "put", "(II)V"⟩
abbrev cX4_putPair : ByteArray := prog_6_method_5_code
def yX4_putPair : MethodName := ⟨RX4, "putPair", "(LSlipSecret$Slip;II)V"⟩
abbrev cX4_isAhead : ByteArray := prog_6_method_6_code
def yX4_isAhead : MethodName := ⟨RX4, "isAhead", "(II)Z"⟩
abbrev cX4_isBroken : ByteArray := prog_6_method_7_code
def yX4_isBroken : MethodName := ⟨RX4, "isBroken", "()Z"⟩
abbrev cX4_bitTold : ByteArray := prog_6_method_8_code
def yX4_bitTold : MethodName := ⟨RX4, "bitTold", "(II)I"⟩
def RX5 : String := "SlipSecret$Reading"
def TX5 : u_T := fun k => match k with
  | 0 => ("SlipSecret$Reading", "seed", "I", false)
  | 1 => ("SlipSecret$Reading", "raw", "I", false)
  | 2 => ("SlipSecret$Reading", "secret", "I", false)
  | _ => ("SlipSecret$Reading", "corrected", "I", false)
def tyX5 : Nat → FieldType := fun k => match k with
  | 0 => .int
  | 1 => .int
  | 2 => .int
  | _ => .int
abbrev wsX50 : List Cond := u_ws RX5 TX5 4
theorem nmX5 : ∀ a, a < 4 → ∀ b, b < 4 → a ≠ b → (TX5 a).2.1 ≠ (TX5 b).2.1 := by decide +kernel
theorem tyX5_ok : ∀ k, k < 4 → parseFieldDescriptor (TX5 k).2.2.1 = some (tyX5 k) := by decide +kernel
abbrev cX5_init : ByteArray := prog_7_method_1_code
def yX5_init : MethodName := ⟨RX5, "<init>", "()V"⟩
abbrev cX5_take : ByteArray := prog_7_method_2_code
def yX5_take : MethodName := ⟨RX5, "take", "(LSlipSecret$State;I)V"⟩
abbrev cX5_isRefused : ByteArray := prog_7_method_3_code
def yX5_isRefused : MethodName := ⟨RX5, "isRefused", "(LSlipSecret$Enrolment;)Z"⟩
abbrev cX5_noisySpeed : ByteArray := prog_7_method_4_code
def yX5_noisySpeed : MethodName := ⟨RX5, "noisySpeed", "(LSlipSecret$Slip;II)I"⟩
def RX6 : String := "SlipSecret$Slip"
def TX6 : u_T := fun k => match k with
  | 0 => ("SlipSecret$Slip", "rings", "I", false)
  | 1 => ("SlipSecret$Slip", "base", "[I", true)
  | 2 => ("SlipSecret$Slip", "drift", "[I", true)
  | 3 => ("SlipSecret$Slip", "noise", "[I", true)
  | 4 => ("SlipSecret$Slip", "pairs", "I", false)
  | 5 => ("SlipSecret$Slip", "first", "[I", true)
  | 6 => ("SlipSecret$Slip", "second", "[I", true)
  | _ => ("SlipSecret$Slip", "settings", "[I", true)
def tyX6 : Nat → FieldType := fun k => match k with
  | 0 => .int
  | 1 => .array .int
  | 2 => .array .int
  | 3 => .array .int
  | 4 => .int
  | 5 => .array .int
  | 6 => .array .int
  | _ => .array .int
abbrev wsX60 : List Cond := u_ws RX6 TX6 8
theorem nmX6 : ∀ a, a < 8 → ∀ b, b < 8 → a ≠ b → (TX6 a).2.1 ≠ (TX6 b).2.1 := by decide +kernel
theorem tyX6_ok : ∀ k, k < 8 → parseFieldDescriptor (TX6 k).2.2.1 = some (tyX6 k) := by decide +kernel
abbrev cX6_init : ByteArray := prog_8_method_1_code
def yX6_init : MethodName := ⟨RX6, "<init>", "()V"⟩
abbrev cX6_clear : ByteArray := prog_8_method_2_code
def yX6_clear : MethodName := ⟨RX6, "clear", "()V"⟩
abbrev cX6_copyFrom : ByteArray := prog_8_method_3_code
def yX6_copyFrom : MethodName := ⟨RX6, "copyFrom", "(LSlipSecret$Slip;)V"⟩
abbrev cX6_traitRow : ByteArray := prog_8_method_4_code
def yX6_traitRow : MethodName := ⟨RX6, "traitRow", "(I)[I"⟩
abbrev cX6_addRing : ByteArray := prog_8_method_5_code
def yX6_addRing : MethodName := ⟨RX6, "addRing", "(III)V"⟩
abbrev cX6_addPair : ByteArray := prog_8_method_6_code
def yX6_addPair : MethodName := ⟨RX6, "addPair", "(II)V"⟩
abbrev cX6_hasPair : ByteArray := prog_8_method_7_code
def yX6_hasPair : MethodName := ⟨RX6, "hasPair", "(II)Z"⟩
abbrev cX6_pairsWith : ByteArray := prog_8_method_8_code
def yX6_pairsWith : MethodName := ⟨RX6, "pairsWith", "(I)I"⟩
abbrev cX6_speedOf : ByteArray := prog_8_method_9_code
def yX6_speedOf : MethodName := ⟨RX6, "speedOf", "(II)I"⟩
abbrev cX6_ringsAheadOf : ByteArray := prog_8_method_10_code
def yX6_ringsAheadOf : MethodName := ⟨RX6, "ringsAheadOf", "(II)I"⟩
abbrev cX6_bitFrom : ByteArray := prog_8_method_11_code
def yX6_bitFrom : MethodName := ⟨RX6, "bitFrom", "(III)I"⟩
abbrev cX6_bitAt : ByteArray := prog_8_method_12_code
def yX6_bitAt : MethodName := ⟨RX6, "bitAt", "(II)I"⟩
abbrev cX6_bitOf : ByteArray := prog_8_method_13_code
def yX6_bitOf : MethodName := ⟨RX6, "bitOf", "(I)I"⟩
abbrev cX6_marginOf : ByteArray := prog_8_method_14_code
def yX6_marginOf : MethodName := ⟨RX6, "marginOf", "(I)I"⟩
abbrev cX6_allPairs : ByteArray := prog_8_method_15_code
def yX6_allPairs : MethodName := ⟨RX6, "allPairs", "()I"⟩
abbrev cX6_steadyPairs : ByteArray := prog_8_method_16_code
def yX6_steadyPairs : MethodName := ⟨RX6, "steadyPairs", "()I"⟩
abbrev cX6_usedPairs : ByteArray := prog_8_method_17_code
def yX6_usedPairs : MethodName := ⟨RX6, "usedPairs", "()I"⟩
abbrev cX6_blockCount : ByteArray := prog_8_method_18_code
def yX6_blockCount : MethodName := ⟨RX6, "blockCount", "(I)I"⟩
abbrev cX6_blockOf : ByteArray := prog_8_method_19_code
def yX6_blockOf : MethodName := ⟨RX6, "blockOf", "(I)I"⟩
abbrev cX6_pairAt : ByteArray := prog_8_method_20_code
def yX6_pairAt : MethodName := ⟨RX6, "pairAt", "(II)I"⟩
abbrev cX6_canRead : ByteArray := prog_8_method_21_code
def yX6_canRead : MethodName := ⟨RX6, "canRead", "(III)Z"⟩
abbrev cX6_drawsOf : ByteArray := prog_8_method_22_code
def yX6_drawsOf : MethodName := ⟨RX6, "drawsOf", "(I)I"⟩
abbrev cX6_drawsWithOne : ByteArray := prog_8_method_23_code
def yX6_drawsWithOne : MethodName := ⟨RX6, "drawsWithOne", "(II)I"⟩
def RX7 : String := "SlipSecret$State"
def TX7 : u_T := fun k => match k with
  | 0 => ("SlipSecret$State", "slip", "LSlipSecret$Slip;", true)
  | 1 => ("SlipSecret$State", "kept", "LSlipSecret$Enrolment;", true)
  | _ => ("SlipSecret$State", "listener", "LSlipSecret$Listener;", true)
def tyX7 : Nat → FieldType := fun k => match k with
  | 0 => .object "SlipSecret$Slip"
  | 1 => .object "SlipSecret$Enrolment"
  | _ => .object "SlipSecret$Listener"
abbrev wsX70 : List Cond := u_ws RX7 TX7 3
theorem nmX7 : ∀ a, a < 3 → ∀ b, b < 3 → a ≠ b → (TX7 a).2.1 ≠ (TX7 b).2.1 := by decide +kernel
theorem tyX7_ok : ∀ k, k < 3 → parseFieldDescriptor (TX7 k).2.2.1 = some (tyX7 k) := by decide +kernel
abbrev cX7_init : ByteArray := prog_9_method_1_code
def yX7_init : MethodName := ⟨RX7, "<init>", "()V"⟩
abbrev cX7_copyFrom : ByteArray := prog_9_method_2_code
def yX7_copyFrom : MethodName := ⟨RX7, "copyFrom", "(LSlipSecret$State;)V"⟩
def RX8 : String := "SlipSecret$TextReader"
def TX8 : u_T := fun k => match k with
  | 0 => ("SlipSecret$TextReader", "draft", "LSlipSecret$Slip;", true)
  | 1 => ("SlipSecret$TextReader", "faultPlace", "I", false)
  | 2 => ("SlipSecret$TextReader", "faultKind", "I", false)
  | 3 => ("SlipSecret$TextReader", "tape", "[I", true)
  | 4 => ("SlipSecret$TextReader", "tapeLength", "I", false)
  | 5 => ("SlipSecret$TextReader", "length", "I", false)
  | 6 => ("SlipSecret$TextReader", "place", "I", false)
  | _ => ("SlipSecret$TextReader", "numberPlace", "I", false)
def tyX8 : Nat → FieldType := fun k => match k with
  | 0 => .object "SlipSecret$Slip"
  | 1 => .int
  | 2 => .int
  | 3 => .array .int
  | 4 => .int
  | 5 => .int
  | 6 => .int
  | _ => .int
abbrev wsX80 : List Cond := u_ws RX8 TX8 8
theorem nmX8 : ∀ a, a < 8 → ∀ b, b < 8 → a ≠ b → (TX8 a).2.1 ≠ (TX8 b).2.1 := by decide +kernel
theorem tyX8_ok : ∀ k, k < 8 → parseFieldDescriptor (TX8 k).2.2.1 = some (tyX8 k) := by decide +kernel
abbrev cX8_init : ByteArray := prog_10_method_1_code
def yX8_init : MethodName := ⟨RX8, "<init>", "()V"⟩
abbrev cX8_putOnTape : ByteArray := prog_10_method_2_code
def yX8_putOnTape : MethodName := ⟨RX8, "putOnTape", "(I)V"⟩
abbrev cX8_read : ByteArray := prog_10_method_3_code
def yX8_read : MethodName := ⟨RX8, "read", "(I)I"⟩
abbrev cX8_fail : ByteArray := prog_10_method_4_code
def yX8_fail : MethodName := ⟨RX8, "fail", "(II)V"⟩
abbrev cX8_skipBlanks : ByteArray := prog_10_method_5_code
def yX8_skipBlanks : MethodName := ⟨RX8, "skipBlanks", "()V"⟩
abbrev cX8_readLine : ByteArray := prog_10_method_6_code
def yX8_readLine : MethodName := ⟨RX8, "readLine", "()V"⟩
abbrev cX8_readEndOfLine : ByteArray := prog_10_method_7_code
def yX8_readEndOfLine : MethodName := ⟨RX8, "readEndOfLine", "()V"⟩
abbrev cX8_isWord : ByteArray := prog_10_method_8_code
def yX8_isWord : MethodName := ⟨RX8, "isWord", "(ILjava/lang/String;)Z"⟩
abbrev cX8_readRing : ByteArray := prog_10_method_9_code
def yX8_readRing : MethodName := ⟨RX8, "readRing", "(I)V"⟩
abbrev cX8_readPair : ByteArray := prog_10_method_10_code
def yX8_readPair : MethodName := ⟨RX8, "readPair", "(I)V"⟩
abbrev cX8_readRepeat : ByteArray := prog_10_method_11_code
def yX8_readRepeat : MethodName := ⟨RX8, "readRepeat", "()V"⟩
abbrev cX8_readNumber : ByteArray := prog_10_method_12_code
def yX8_readNumber : MethodName := ⟨RX8, "readNumber", "(II)I"⟩
abbrev cX8_readSigned : ByteArray := prog_10_method_13_code
def yX8_readSigned : MethodName := ⟨RX8, "readSigned", "(II)I"⟩
abbrev cX8_needNumber : ByteArray := prog_10_method_14_code
def yX8_needNumber : MethodName := ⟨RX8, "needNumber", "(III)V"⟩
abbrev cX8_readDigits : ByteArray := prog_10_method_15_code
def yX8_readDigits : MethodName := ⟨RX8, "readDigits", "()I"⟩
def RX9 : String := "SlipSecret$WaysCounter"
def TX9 : u_T := fun k => match k with
  | 0 => ("SlipSecret$WaysCounter", "linked", "[I", true)
  | 1 => ("SlipSecret$WaysCounter", "signs", "[I", true)
  | _ => ("SlipSecret$WaysCounter", "found", "[J", true)
def tyX9 : Nat → FieldType := fun k => match k with
  | 0 => .array .int
  | 1 => .array .int
  | _ => .array .long
abbrev wsX90 : List Cond := u_ws RX9 TX9 3
theorem nmX9 : ∀ a, a < 3 → ∀ b, b < 3 → a ≠ b → (TX9 a).2.1 ≠ (TX9 b).2.1 := by decide +kernel
theorem tyX9_ok : ∀ k, k < 3 → parseFieldDescriptor (TX9 k).2.2.1 = some (tyX9 k) := by decide +kernel
abbrev cX9_init : ByteArray := prog_11_method_1_code
def yX9_init : MethodName := ⟨RX9, "<init>", "()V"⟩
abbrev cX9_count : ByteArray := prog_11_method_2_code
def yX9_count : MethodName := ⟨RX9, "count", "(LSlipSecret$Slip;I)J"⟩
abbrev cX9_countOf : ByteArray := prog_11_method_3_code
def yX9_countOf : MethodName := ⟨RX9, "countOf", "(I)J"⟩
abbrev cX9_link : ByteArray := prog_11_method_4_code
def yX9_link : MethodName := ⟨RX9, "link", "(LSlipSecret$Slip;I)V"⟩
def RX10 : String := "SlipSecret"
def TX10 : u_T := fun k => match k with
  | 0 => ("SlipSecret", "now", "LSlipSecret$State;", false)
  | 1 => ("SlipSecret", "past", "[LSlipSecret$State;", true)
  | 2 => ("SlipSecret", "pastCount", "I", false)
  | 3 => ("SlipSecret", "pastTop", "I", false)
  | 4 => ("SlipSecret", "reader", "LSlipSecret$TextReader;", true)
  | 5 => ("SlipSecret", "refusedMissing", "I", false)
  | 6 => ("SlipSecret", "refusedArgument", "I", false)
  | 7 => ("SlipSecret", "refusedState", "I", false)
  | 8 => ("SlipSecret", "reading", "LSlipSecret$Reading;", true)
  | 9 => ("SlipSecret", "order", "LSlipSecret$Order;", true)
  | 10 => ("SlipSecret", "trial", "LSlipSecret$Order;", true)
  | 11 => ("SlipSecret", "imagined", "LSlipSecret$Listener;", true)
  | 12 => ("SlipSecret", "waysCounter", "LSlipSecret$WaysCounter;", true)
  | 13 => ("SlipSecret", "leftCounter", "LSlipSecret$LeftCounter;", true)
  | _ => ("SlipSecret", "margins", "[I", true)
def tyX10 : Nat → FieldType := fun k => match k with
  | 0 => .object "SlipSecret$State"
  | 1 => .array (.object "SlipSecret$State")
  | 2 => .int
  | 3 => .int
  | 4 => .object "SlipSecret$TextReader"
  | 5 => .int
  | 6 => .int
  | 7 => .int
  | 8 => .object "SlipSecret$Reading"
  | 9 => .object "SlipSecret$Order"
  | 10 => .object "SlipSecret$Order"
  | 11 => .object "SlipSecret$Listener"
  | 12 => .object "SlipSecret$WaysCounter"
  | 13 => .object "SlipSecret$LeftCounter"
  | _ => .array .int
abbrev wsX100 : List Cond := u_ws RX10 TX10 15
theorem nmX10 : ∀ a, a < 15 → ∀ b, b < 15 → a ≠ b → (TX10 a).2.1 ≠ (TX10 b).2.1 := by decide +kernel
theorem tyX10_ok : ∀ k, k < 15 → parseFieldDescriptor (TX10 k).2.2.1 = some (tyX10 k) := by decide +kernel
abbrev cX10_init : ByteArray := prog_1_method_1_code
def yX10_init : MethodName := ⟨RX10, "<init>", "()V"⟩
abbrev cX10_feed : ByteArray := prog_1_method_2_code
def yX10_feed : MethodName := ⟨RX10, "feed", "(IIIII)I"⟩
abbrev cX10_text : ByteArray := prog_1_method_3_code
def yX10_text : MethodName := ⟨RX10, "text", "(I)I"⟩
abbrev cX10_fault : ByteArray := prog_1_method_4_code
def yX10_fault : MethodName := ⟨RX10, "fault", "()I"⟩
abbrev cX10_set : ByteArray := prog_1_method_5_code
def yX10_set : MethodName := ⟨RX10, "set", "(II)I"⟩
abbrev cX10_wear : ByteArray := prog_1_method_6_code
def yX10_wear : MethodName := ⟨RX10, "wear", "(III)I"⟩
abbrev cX10_enrol : ByteArray := prog_1_method_7_code
def yX10_enrol : MethodName := ⟨RX10, "enrol", "(I)I"⟩
abbrev cX10_hear : ByteArray := prog_1_method_8_code
def yX10_hear : MethodName := ⟨RX10, "hear", "(I)I"⟩
abbrev cX10_train : ByteArray := prog_1_method_9_code
def yX10_train : MethodName := ⟨RX10, "train", "(I)I"⟩
abbrev cX10_turn : ByteArray := prog_1_method_10_code
def yX10_turn : MethodName := ⟨RX10, "turn", "(I)I"⟩
abbrev cX10_undo : ByteArray := prog_1_method_11_code
def yX10_undo : MethodName := ⟨RX10, "undo", "()I"⟩
abbrev cX10_told : ByteArray := prog_1_method_12_code
def yX10_told : MethodName := ⟨RX10, "told", "(I)I"⟩
abbrev cX10_ring : ByteArray := prog_1_method_13_code
def yX10_ring : MethodName := ⟨RX10, "ring", "(II)I"⟩
abbrev cX10_speed : ByteArray := prog_1_method_14_code
def yX10_speed : MethodName := ⟨RX10, "speed", "(II)I"⟩
abbrev cX10_rank : ByteArray := prog_1_method_15_code
def yX10_rank : MethodName := ⟨RX10, "rank", "(II)I"⟩
abbrev cX10_pair : ByteArray := prog_1_method_16_code
def yX10_pair : MethodName := ⟨RX10, "pair", "(II)I"⟩
abbrev cX10_bit : ByteArray := prog_1_method_17_code
def yX10_bit : MethodName := ⟨RX10, "bit", "(II)I"⟩
abbrev cX10_flips : ByteArray := prog_1_method_18_code
def yX10_flips : MethodName := ⟨RX10, "flips", "(II)I"⟩
abbrev cX10_odds : ByteArray := prog_1_method_19_code
def yX10_odds : MethodName := ⟨RX10, "odds", "(IIZ)I"⟩
abbrev cX10_block : ByteArray := prog_1_method_20_code
def yX10_block : MethodName := ⟨RX10, "block", "(II)I"⟩
abbrev cX10_recover : ByteArray := prog_1_method_21_code
def yX10_recover : MethodName := ⟨RX10, "recover", "(III)I"⟩
abbrev cX10_fails : ByteArray := prog_1_method_22_code
def yX10_fails : MethodName := ⟨RX10, "fails", "(IIII)I"⟩
abbrev cX10_safe : ByteArray := prog_1_method_23_code
def yX10_safe : MethodName := ⟨RX10, "safe", "(II)I"⟩
abbrev cX10_range : ByteArray := prog_1_method_24_code
def yX10_range : MethodName := ⟨RX10, "range", "(I)I"⟩
abbrev cX10_guardFor : ByteArray := prog_1_method_25_code
def yX10_guardFor : MethodName := ⟨RX10, "guardFor", "(I)I"⟩
abbrev cX10_ways : ByteArray := prog_1_method_26_code
def yX10_ways : MethodName := ⟨RX10, "ways", "(I)J"⟩
abbrev cX10_leak : ByteArray := prog_1_method_27_code
def yX10_leak : MethodName := ⟨RX10, "leak", "(I)I"⟩
abbrev cX10_success : ByteArray := prog_1_method_28_code
def yX10_success : MethodName := ⟨RX10, "success", "(I)I"⟩
abbrev cX10_curve : ByteArray := prog_1_method_29_code
def yX10_curve : MethodName := ⟨RX10, "curve", "(II)I"⟩
abbrev cX10_nextPair : ByteArray := prog_1_method_30_code
def yX10_nextPair : MethodName := ⟨RX10, "nextPair", "()I"⟩
abbrev cX10_needs : ByteArray := prog_1_method_31_code
def yX10_needs : MethodName := ⟨RX10, "needs", "()I"⟩
abbrev cX10_print : ByteArray := prog_1_method_32_code
def yX10_print : MethodName := ⟨RX10, "print", "()J"⟩
abbrev cX10_status : ByteArray := prog_1_method_33_code
def yX10_status : MethodName := ⟨RX10, "status", "(I)I"⟩
abbrev cX10_refuseArgument : ByteArray := prog_1_method_34_code
def yX10_refuseArgument : MethodName := ⟨RX10, "refuseArgument", "()V"⟩
abbrev cX10_refuseState : ByteArray := prog_1_method_35_code
def yX10_refuseState : MethodName := ⟨RX10, "refuseState", "()V"⟩
abbrev cX10_refuseMissing : ByteArray := prog_1_method_36_code
def yX10_refuseMissing : MethodName := ⟨RX10, "refuseMissing", "()V"⟩
abbrev cX10_needCounted : ByteArray := prog_1_method_37_code
def yX10_needCounted : MethodName := ⟨RX10, "needCounted", "(II)V"⟩
abbrev cX10_needBetween : ByteArray := prog_1_method_38_code
def yX10_needBetween : MethodName := ⟨RX10, "needBetween", "(III)V"⟩
abbrev cX10_needHeat : ByteArray := prog_1_method_39_code
def yX10_needHeat : MethodName := ⟨RX10, "needHeat", "(I)V"⟩
abbrev cX10_needEnrolled : ByteArray := prog_1_method_40_code
def yX10_needEnrolled : MethodName := ⟨RX10, "needEnrolled", "()V"⟩
abbrev cX10_needSetting : ByteArray := prog_1_method_41_code
def yX10_needSetting : MethodName := ⟨RX10, "needSetting", "(II)V"⟩
abbrev cX10_needTrait : ByteArray := prog_1_method_42_code
def yX10_needTrait : MethodName := ⟨RX10, "needTrait", "(II)V"⟩
abbrev cX10_remember : ByteArray := prog_1_method_43_code
def yX10_remember : MethodName := ⟨RX10, "remember", "()V"⟩
abbrev cX10_toldOfEnrolled : ByteArray := prog_1_method_44_code
def yX10_toldOfEnrolled : MethodName := ⟨RX10, "toldOfEnrolled", "(I)I"⟩
abbrev cX10_isSafeAt : ByteArray := prog_1_method_45_code
def yX10_isSafeAt : MethodName := ⟨RX10, "isSafeAt", "(I)Z"⟩
abbrev cX10_marginsFrom : ByteArray := prog_1_method_46_code
def yX10_marginsFrom : MethodName := ⟨RX10, "marginsFrom", "(I)I"⟩
abbrev cX10_sureOfEnrolled : ByteArray := prog_1_method_47_code
def yX10_sureOfEnrolled : MethodName := ⟨RX10, "sureOfEnrolled", "()I"⟩
abbrev cX10_epochsToLearn : ByteArray := prog_1_method_48_code
def yX10_epochsToLearn : MethodName := ⟨RX10, "epochsToLearn", "(LSlipSecret$Listener;)I"⟩
abbrev cX10_guessedRight : ByteArray := prog_1_method_49_code
def yX10_guessedRight : MethodName := ⟨RX10, "guessedRight", "(II)I"⟩
abbrev cX10_nextFor : ByteArray := prog_1_method_50_code
def yX10_nextFor : MethodName := ⟨RX10, "nextFor", "(LSlipSecret$Listener;)I"⟩
abbrev cX10_followersIf : ByteArray := prog_1_method_51_code
def yX10_followersIf : MethodName := ⟨RX10, "followersIf", "(II)I"⟩
abbrev cX10_bitIn : ByteArray := prog_1_method_52_code
def yX10_bitIn : MethodName := ⟨RX10, "bitIn", "(II)I"⟩
abbrev cX10_commonDivisor : ByteArray := prog_1_method_53_code
def yX10_commonDivisor : MethodName := ⟨RX10, "commonDivisor", "(II)I"⟩
def RX11 : String := "SlipSecretModel"
def TX11 : u_T := fun k => match k with
  | 0 => ("SlipSecretModel", "thrown", "I", false)
  | 1 => ("SlipSecretModel", "refused", "[I", true)
  | 2 => ("SlipSecretModel", "m", "[I", true)
  | 3 => ("SlipSecretModel", "read", "[I", true)
  | 4 => ("SlipSecretModel", "back", "[I", true)
  | 5 => ("SlipSecretModel", "one", "[I", true)
  | 6 => ("SlipSecretModel", "two", "[I", true)
  | 7 => ("SlipSecretModel", "readOne", "[I", true)
  | 8 => ("SlipSecretModel", "readTwo", "[I", true)
  | 9 => ("SlipSecretModel", "undos", "I", false)
  | 10 => ("SlipSecretModel", "rings", "I", false)
  | 11 => ("SlipSecretModel", "pairs", "I", false)
  | 12 => ("SlipSecretModel", "used", "[I", true)
  | 13 => ("SlipSecretModel", "place", "[I", true)
  | 14 => ("SlipSecretModel", "word", "[I", true)
  | 15 => ("SlipSecretModel", "tape", "[B", true)
  | 16 => ("SlipSecretModel", "text", "[B", true)
  | 17 => ("SlipSecretModel", "taped", "I", false)
  | 18 => ("SlipSecretModel", "size", "I", false)
  | 19 => ("SlipSecretModel", "next", "I", false)
  | 20 => ("SlipSecretModel", "from", "I", false)
  | 21 => ("SlipSecretModel", "fault", "I", false)
  | 22 => ("SlipSecretModel", "faultNow", "I", false)
  | 23 => ("SlipSecretModel", "faultAt", "I", false)
  | 24 => ("SlipSecretModel", "readRings", "I", false)
  | 25 => ("SlipSecretModel", "readPairs", "I", false)
  | 26 => ("SlipSecretModel", "begin", "I", false)
  | 27 => ("SlipSecretModel", "seeds", "I", false)
  | 28 => ("SlipSecretModel", "raw", "I", false)
  | 29 => ("SlipSecretModel", "corrected", "I", false)
  | 30 => ("SlipSecretModel", "secretRead", "I", false)
  | 31 => ("SlipSecretModel", "behind", "[I", true)
  | 32 => ("SlipSecretModel", "beside", "[I", true)
  | 33 => ("SlipSecretModel", "ways", "[J", true)
  | _ => ("SlipSecretModel", "aside", "[I", true)
def tyX11 : Nat → FieldType := fun k => match k with
  | 0 => .int
  | 1 => .array .int
  | 2 => .array .int
  | 3 => .array .int
  | 4 => .array .int
  | 5 => .array .int
  | 6 => .array .int
  | 7 => .array .int
  | 8 => .array .int
  | 9 => .int
  | 10 => .int
  | 11 => .int
  | 12 => .array .int
  | 13 => .array .int
  | 14 => .array .int
  | 15 => .array .byte
  | 16 => .array .byte
  | 17 => .int
  | 18 => .int
  | 19 => .int
  | 20 => .int
  | 21 => .int
  | 22 => .int
  | 23 => .int
  | 24 => .int
  | 25 => .int
  | 26 => .int
  | 27 => .int
  | 28 => .int
  | 29 => .int
  | 30 => .int
  | 31 => .array .int
  | 32 => .array .int
  | 33 => .array .long
  | _ => .array .int
abbrev wsX110 : List Cond := u_ws RX11 TX11 35
theorem nmX11 : ∀ a, a < 35 → ∀ b, b < 35 → a ≠ b → (TX11 a).2.1 ≠ (TX11 b).2.1 := by decide +kernel
theorem tyX11_ok : ∀ k, k < 35 → parseFieldDescriptor (TX11 k).2.2.1 = some (tyX11 k) := by decide +kernel
abbrev cX11_thrown : ByteArray := prog_13_method_1_code
def yX11_thrown : MethodName := ⟨RX11, "thrown", "()I"⟩
abbrev cX11_isFine : ByteArray := prog_13_method_2_code
def yX11_isFine : MethodName := ⟨RX11, "isFine", "(ZII)Z"⟩
abbrev cX11_within : ByteArray := prog_13_method_3_code
def yX11_within : MethodName := ⟨RX11, "within", "(III)Z"⟩
abbrev cX11_init : ByteArray := prog_13_method_4_code
def yX11_init : MethodName := ⟨RX11, "<init>", "()V"⟩
abbrev cX11_clears : ByteArray := prog_13_method_5_code
def yX11_clears : MethodName := ⟨RX11, "clears", "([I)V"⟩
abbrev cX11_speedOf : ByteArray := prog_13_method_6_code
def yX11_speedOf : MethodName := ⟨RX11, "speedOf", "(II)I"⟩
abbrev cX11_noiseOf : ByteArray := prog_13_method_7_code
def yX11_noiseOf : MethodName := ⟨RX11, "noiseOf", "(I)I"⟩
abbrev cX11_bitBy : ByteArray := prog_13_method_8_code
def yX11_bitBy : MethodName := ⟨RX11, "bitBy", "(IIII)I"⟩
abbrev cX11_bitAt : ByteArray := prog_13_method_9_code
def yX11_bitAt : MethodName := ⟨RX11, "bitAt", "(II)I"⟩
abbrev cX11_bitOf : ByteArray := prog_13_method_10_code
def yX11_bitOf : MethodName := ⟨RX11, "bitOf", "(I)I"⟩
abbrev cX11_apart : ByteArray := prog_13_method_11_code
def yX11_apart : MethodName := ⟨RX11, "apart", "(II)I"⟩
abbrev cX11_marginOf : ByteArray := prog_13_method_12_code
def yX11_marginOf : MethodName := ⟨RX11, "marginOf", "(I)I"⟩
abbrev cX11_isSteady : ByteArray := prog_13_method_13_code
def yX11_isSteady : MethodName := ⟨RX11, "isSteady", "(II)Z"⟩
abbrev cX11_usedBy : ByteArray := prog_13_method_14_code
def yX11_usedBy : MethodName := ⟨RX11, "usedBy", "(IZ)I"⟩
abbrev cX11_usedNow : ByteArray := prog_13_method_15_code
def yX11_usedNow : MethodName := ⟨RX11, "usedNow", "()I"⟩
abbrev cX11_wideBy : ByteArray := prog_13_method_16_code
def yX11_wideBy : MethodName := ⟨RX11, "wideBy", "(I)I"⟩
abbrev cX11_givesBy : ByteArray := prog_13_method_17_code
def yX11_givesBy : MethodName := ⟨RX11, "givesBy", "(I)I"⟩
abbrev cX11_blocksOf : ByteArray := prog_13_method_18_code
def yX11_blocksOf : MethodName := ⟨RX11, "blocksOf", "(II)I"⟩
abbrev cX11_blocks : ByteArray := prog_13_method_19_code
def yX11_blocks : MethodName := ⟨RX11, "blocks", "()I"⟩
abbrev cX11_words : ByteArray := prog_13_method_20_code
def yX11_words : MethodName := ⟨RX11, "words", "(II)V"⟩
abbrev cX11_decoded : ByteArray := prog_13_method_21_code
def yX11_decoded : MethodName := ⟨RX11, "decoded", "(I)I"⟩
abbrev cX11_checkOf : ByteArray := prog_13_method_22_code
def yX11_checkOf : MethodName := ⟨RX11, "checkOf", "(II)I"⟩
abbrev cX11_feed : ByteArray := prog_13_method_23_code
def yX11_feed : MethodName := ⟨RX11, "feed", "(IIIII)I"⟩
abbrev cX11_puts : ByteArray := prog_13_method_24_code
def yX11_puts : MethodName := ⟨RX11, "puts", "(I)V"⟩
abbrev cX11_wrong : ByteArray := prog_13_method_25_code
def yX11_wrong : MethodName := ⟨RX11, "wrong", "(II)V"⟩
abbrev cX11_sign : ByteArray := prog_13_method_26_code
def yX11_sign : MethodName := ⟨RX11, "sign", "()I"⟩
abbrev cX11_isSmall : ByteArray := prog_13_method_27_code
def yX11_isSmall : MethodName := ⟨RX11, "isSmall", "(I)Z"⟩
abbrev cX11_passes : ByteArray := prog_13_method_28_code
def yX11_passes : MethodName := ⟨RX11, "passes", "(Ljava/lang/String;)Z"⟩
abbrev cX11_number : ByteArray := prog_13_method_29_code
def yX11_number : MethodName := ⟨RX11, "number", "(IIZ)I"⟩
abbrev cX11_ringTold : ByteArray := prog_13_method_30_code
def yX11_ringTold : MethodName := ⟨RX11, "ringTold", "()V"⟩
abbrev cX11_pairTold : ByteArray := prog_13_method_31_code
def yX11_pairTold : MethodName := ⟨RX11, "pairTold", "()V"⟩
abbrev cX11_heatsTold : ByteArray := prog_13_method_32_code
def yX11_heatsTold : MethodName := ⟨RX11, "heatsTold", "()V"⟩
abbrev cX11_repeatTold : ByteArray := prog_13_method_33_code
def yX11_repeatTold : MethodName := ⟨RX11, "repeatTold", "()V"⟩
abbrev cX11_oneLine : ByteArray := prog_13_method_34_code
def yX11_oneLine : MethodName := ⟨RX11, "oneLine", "()V"⟩
abbrev cX11_text : ByteArray := prog_13_method_35_code
def yX11_text : MethodName := ⟨RX11, "text", "(I)I"⟩
abbrev cX11_fault : ByteArray := prog_13_method_36_code
def yX11_fault : MethodName := ⟨RX11, "fault", "()I"⟩
abbrev cX11_keeps : ByteArray := prog_13_method_37_code
def yX11_keeps : MethodName := ⟨RX11, "keeps", "()V"⟩
abbrev cX11_isRing : ByteArray := prog_13_method_38_code
def yX11_isRing : MethodName := ⟨RX11, "isRing", "(I)Z"⟩
abbrev cX11_isPair : ByteArray := prog_13_method_39_code
def yX11_isPair : MethodName := ⟨RX11, "isPair", "(I)Z"⟩
abbrev cX11_maySet : ByteArray := prog_13_method_40_code
def yX11_maySet : MethodName := ⟨RX11, "maySet", "(II)Z"⟩
abbrev cX11_set : ByteArray := prog_13_method_41_code
def yX11_set : MethodName := ⟨RX11, "set", "(II)I"⟩
abbrev cX11_wear : ByteArray := prog_13_method_42_code
def yX11_wear : MethodName := ⟨RX11, "wear", "(III)I"⟩
abbrev cX11_secretBits : ByteArray := prog_13_method_43_code
def yX11_secretBits : MethodName := ⟨RX11, "secretBits", "()I"⟩
abbrev cX11_enrol : ByteArray := prog_13_method_44_code
def yX11_enrol : MethodName := ⟨RX11, "enrol", "(I)I"⟩
abbrev cX11_heardAt : ByteArray := prog_13_method_45_code
def yX11_heardAt : MethodName := ⟨RX11, "heardAt", "(I)I"⟩
abbrev cX11_hear : ByteArray := prog_13_method_46_code
def yX11_hear : MethodName := ⟨RX11, "hear", "(I)I"⟩
abbrev cX11_guessOf : ByteArray := prog_13_method_47_code
def yX11_guessOf : MethodName := ⟨RX11, "guessOf", "(I)I"⟩
abbrev cX11_epoch : ByteArray := prog_13_method_48_code
def yX11_epoch : MethodName := ⟨RX11, "epoch", "()I"⟩
abbrev cX11_train : ByteArray := prog_13_method_49_code
def yX11_train : MethodName := ⟨RX11, "train", "(I)I"⟩
abbrev cX11_isKept : ByteArray := prog_13_method_50_code
def yX11_isKept : MethodName := ⟨RX11, "isKept", "()Z"⟩
abbrev cX11_turn : ByteArray := prog_13_method_51_code
def yX11_turn : MethodName := ⟨RX11, "turn", "(I)I"⟩
abbrev cX11_undo : ByteArray := prog_13_method_52_code
def yX11_undo : MethodName := ⟨RX11, "undo", "()I"⟩
abbrev cX11_steadyMany : ByteArray := prog_13_method_53_code
def yX11_steadyMany : MethodName := ⟨RX11, "steadyMany", "()I"⟩
abbrev cX11_keptBits : ByteArray := prog_13_method_54_code
def yX11_keptBits : MethodName := ⟨RX11, "keptBits", "()I"⟩
abbrev cX11_told : ByteArray := prog_13_method_55_code
def yX11_told : MethodName := ⟨RX11, "told", "(I)I"⟩
abbrev cX11_pairsWith : ByteArray := prog_13_method_56_code
def yX11_pairsWith : MethodName := ⟨RX11, "pairsWith", "(I)I"⟩
abbrev cX11_ring : ByteArray := prog_13_method_57_code
def yX11_ring : MethodName := ⟨RX11, "ring", "(II)I"⟩
abbrev cX11_isHeat : ByteArray := prog_13_method_58_code
def yX11_isHeat : MethodName := ⟨RX11, "isHeat", "(I)Z"⟩
abbrev cX11_speed : ByteArray := prog_13_method_59_code
def yX11_speed : MethodName := ⟨RX11, "speed", "(II)I"⟩
abbrev cX11_rank : ByteArray := prog_13_method_60_code
def yX11_rank : MethodName := ⟨RX11, "rank", "(II)I"⟩
abbrev cX11_blockOf : ByteArray := prog_13_method_61_code
def yX11_blockOf : MethodName := ⟨RX11, "blockOf", "(I)I"⟩
abbrev cX11_keptAt : ByteArray := prog_13_method_62_code
def yX11_keptAt : MethodName := ⟨RX11, "keptAt", "(I)I"⟩
abbrev cX11_pair : ByteArray := prog_13_method_63_code
def yX11_pair : MethodName := ⟨RX11, "pair", "(II)I"⟩
abbrev cX11_bit : ByteArray := prog_13_method_64_code
def yX11_bit : MethodName := ⟨RX11, "bit", "(II)I"⟩
abbrev cX11_flips : ByteArray := prog_13_method_65_code
def yX11_flips : MethodName := ⟨RX11, "flips", "(II)I"⟩
abbrev cX11_common : ByteArray := prog_13_method_66_code
def yX11_common : MethodName := ⟨RX11, "common", "(II)I"⟩
abbrev cX11_odds : ByteArray := prog_13_method_67_code
def yX11_odds : MethodName := ⟨RX11, "odds", "(IIZ)I"⟩
abbrev cX11_block : ByteArray := prog_13_method_68_code
def yX11_block : MethodName := ⟨RX11, "block", "(II)I"⟩
abbrev cX11_drawn : ByteArray := prog_13_method_69_code
def yX11_drawn : MethodName := ⟨RX11, "drawn", "(II)I"⟩
abbrev cX11_readsAll : ByteArray := prog_13_method_70_code
def yX11_readsAll : MethodName := ⟨RX11, "readsAll", "(I)V"⟩
abbrev cX11_isRefused : ByteArray := prog_13_method_71_code
def yX11_isRefused : MethodName := ⟨RX11, "isRefused", "()Z"⟩
abbrev cX11_recover : ByteArray := prog_13_method_72_code
def yX11_recover : MethodName := ⟨RX11, "recover", "(III)I"⟩
abbrev cX11_fails : ByteArray := prog_13_method_73_code
def yX11_fails : MethodName := ⟨RX11, "fails", "(IIII)I"⟩
abbrev cX11_isShaky : ByteArray := prog_13_method_74_code
def yX11_isShaky : MethodName := ⟨RX11, "isShaky", "(II)Z"⟩
abbrev cX11_isSafe : ByteArray := prog_13_method_75_code
def yX11_isSafe : MethodName := ⟨RX11, "isSafe", "(II)Z"⟩
abbrev cX11_keptBlocks : ByteArray := prog_13_method_76_code
def yX11_keptBlocks : MethodName := ⟨RX11, "keptBlocks", "()I"⟩
abbrev cX11_firstUnsafe : ByteArray := prog_13_method_77_code
def yX11_firstUnsafe : MethodName := ⟨RX11, "firstUnsafe", "(I)I"⟩
abbrev cX11_safe : ByteArray := prog_13_method_78_code
def yX11_safe : MethodName := ⟨RX11, "safe", "(II)I"⟩
abbrev cX11_range : ByteArray := prog_13_method_79_code
def yX11_range : MethodName := ⟨RX11, "range", "(I)I"⟩
abbrev cX11_guardFor : ByteArray := prog_13_method_80_code
def yX11_guardFor : MethodName := ⟨RX11, "guardFor", "(I)I"⟩
abbrev cX11_noOrder : ByteArray := prog_13_method_81_code
def yX11_noOrder : MethodName := ⟨RX11, "noOrder", "()V"⟩
abbrev cX11_puts_ : ByteArray := prog_13_method_82_code
def yX11_puts_ : MethodName := ⟨RX11, "puts", "(II)V"⟩
abbrev cX11_closes : ByteArray := prog_13_method_83_code
def yX11_closes : MethodName := ⟨RX11, "closes", "()V"⟩
abbrev cX11_isRound : ByteArray := prog_13_method_84_code
def yX11_isRound : MethodName := ⟨RX11, "isRound", "()Z"⟩
abbrev cX11_putsHeard : ByteArray := prog_13_method_85_code
def yX11_putsHeard : MethodName := ⟨RX11, "putsHeard", "()V"⟩
abbrev cX11_follows : ByteArray := prog_13_method_86_code
def yX11_follows : MethodName := ⟨RX11, "follows", "(I)I"⟩
abbrev cX11_laysHeard : ByteArray := prog_13_method_87_code
def yX11_laysHeard : MethodName := ⟨RX11, "laysHeard", "()V"⟩
abbrev cX11_followsNow : ByteArray := prog_13_method_88_code
def yX11_followsNow : MethodName := ⟨RX11, "followsNow", "(I)I"⟩
abbrev cX11_followMany : ByteArray := prog_13_method_89_code
def yX11_followMany : MethodName := ⟨RX11, "followMany", "()I"⟩
abbrev cX11_waysOf : ByteArray := prog_13_method_90_code
def yX11_waysOf : MethodName := ⟨RX11, "waysOf", "()J"⟩
abbrev cX11_isApart : ByteArray := prog_13_method_91_code
def yX11_isApart : MethodName := ⟨RX11, "isApart", "(I)Z"⟩
abbrev cX11_many : ByteArray := prog_13_method_92_code
def yX11_many : MethodName := ⟨RX11, "many", "(I)I"⟩
abbrev cX11_compares : ByteArray := prog_13_method_93_code
def yX11_compares : MethodName := ⟨RX11, "compares", "(I)V"⟩
abbrev cX11_waysBy : ByteArray := prog_13_method_94_code
def yX11_waysBy : MethodName := ⟨RX11, "waysBy", "(I)J"⟩
abbrev cX11_ways : ByteArray := prog_13_method_95_code
def yX11_ways : MethodName := ⟨RX11, "ways", "(I)J"⟩
abbrev cX11_sure : ByteArray := prog_13_method_96_code
def yX11_sure : MethodName := ⟨RX11, "sure", "()I"⟩
abbrev cX11_leaks : ByteArray := prog_13_method_97_code
def yX11_leaks : MethodName := ⟨RX11, "leaks", "()I"⟩
abbrev cX11_canBe : ByteArray := prog_13_method_98_code
def yX11_canBe : MethodName := ⟨RX11, "canBe", "(IZ)Z"⟩
abbrev cX11_left : ByteArray := prog_13_method_99_code
def yX11_left : MethodName := ⟨RX11, "left", "(Z)I"⟩
abbrev cX11_leak : ByteArray := prog_13_method_100_code
def yX11_leak : MethodName := ⟨RX11, "leak", "(I)I"⟩
abbrev cX11_success : ByteArray := prog_13_method_101_code
def yX11_success : MethodName := ⟨RX11, "success", "(I)I"⟩
abbrev cX11_curve : ByteArray := prog_13_method_102_code
def yX11_curve : MethodName := ⟨RX11, "curve", "(II)I"⟩
abbrev cX11_wouldFollow : ByteArray := prog_13_method_103_code
def yX11_wouldFollow : MethodName := ⟨RX11, "wouldFollow", "(II)I"⟩
abbrev cX11_nextNow : ByteArray := prog_13_method_104_code
def yX11_nextNow : MethodName := ⟨RX11, "nextNow", "()I"⟩
abbrev cX11_nextPair : ByteArray := prog_13_method_105_code
def yX11_nextPair : MethodName := ⟨RX11, "nextPair", "()I"⟩
abbrev cX11_needs : ByteArray := prog_13_method_106_code
def yX11_needs : MethodName := ⟨RX11, "needs", "()I"⟩
abbrev cX11_print : ByteArray := prog_13_method_107_code
def yX11_print : MethodName := ⟨RX11, "print", "()J"⟩
abbrev cX11_status : ByteArray := prog_13_method_108_code
def yX11_status : MethodName := ⟨RX11, "status", "(I)I"⟩
def RJx145de : String := "java/io/Serializable"
def RJx9f9b0 : String := "java/lang/CharSequence"
def RJxb160c : String := "java/lang/Comparable"
def RJ6 : String := "java/lang/Integer"
abbrev cJ6_bitCount_0f7a4 : ByteArray := prog_20_method_49_code
def yJ6_bitCount_0f7a4 : MethodName := ⟨RJ6, "bitCount", "(I)I"⟩
def RJ9 : String := "java/lang/Math"
abbrev cJ9_max_7cf53 : ByteArray := prog_21_method_65_code
def yJ9_max_7cf53 : MethodName := ⟨RJ9, "max", "(II)I"⟩
abbrev cJ9_min_7cf53 : ByteArray := prog_21_method_69_code
def yJ9_min_7cf53 : MethodName := ⟨RJ9, "min", "(II)I"⟩
def RJ0 : String := "java/lang/String"
abbrev cJ0_length_8abf5 : ByteArray := prog_23_method_54_code
def yJ0_length_8abf5 : MethodName := ⟨RJ0, "length", "()I"⟩
abbrev cJ0_charAt_5068e : ByteArray := prog_23_method_56_code
def yJ0_charAt_5068e : MethodName := ⟨RJ0, "charAt", "(I)C"⟩
abbrev cJ0_coder_7d493 : ByteArray := prog_23_method_152_code
def yJ0_coder_7d493 : MethodName := ⟨RJ0, "coder", "()B"⟩
abbrev cJ0_isLatin1_aae02 : ByteArray := prog_23_method_154_code
def yJ0_isLatin1_aae02 : MethodName := ⟨RJ0, "isLatin1", "()Z"⟩
abbrev cJ0_checkIndex_df160 : ByteArray := prog_23_method_155_code
def yJ0_checkIndex_df160 : MethodName := ⟨RJ0, "checkIndex", "(II)V"⟩
def RJ1 : String := "java/lang/StringLatin1"
abbrev cJ1_charAt_3b067 : ByteArray := prog_24_method_2_code
def yJ1_charAt_3b067 : MethodName := ⟨RJ1, "charAt", "([BI)C"⟩
def RJ2 : String := "java/lang/StringUTF16"
abbrev cJ2_getChar_3b067 : ByteArray := prog_25_method_5_code
def yJ2_getChar_3b067 : MethodName := ⟨RJ2, "getChar", "([BI)C"⟩
abbrev cJ2_length_9d52b : ByteArray := prog_25_method_6_code
def yJ2_length_9d52b : MethodName := ⟨RJ2, "length", "([B)I"⟩
abbrev cJ2_charAt_3b067 : ByteArray := prog_25_method_83_code
def yJ2_charAt_3b067 : MethodName := ⟨RJ2, "charAt", "([BI)C"⟩
abbrev cJ2_checkIndex_2214a : ByteArray := prog_25_method_91_code
def yJ2_checkIndex_2214a : MethodName := ⟨RJ2, "checkIndex", "(I[B)V"⟩
def RJ10 : String := "java/lang/System"
def RJxfd54e : String := "java/lang/constant/Constable"
def RJx3cf43 : String := "java/lang/constant/ConstantDesc"
def RJ3 : String := "jdk/internal/util/Preconditions"
abbrev cJ3_checkIndex_8e157 : ByteArray := prog_31_method_11_code
def yJ3_checkIndex_8e157 : MethodName := ⟨RJ3, "checkIndex", "(IILjava/util/function/BiFunction;)I"⟩
def RL : String := "SlipSecretLaw"
abbrev cL_text : ByteArray := method_3_code
def yL_text : MethodName := ⟨RL, "text", "(LSlipSecret;I[J)I"⟩
abbrev cL_set : ByteArray := method_4_code
def yL_set : MethodName := ⟨RL, "set", "(LSlipSecret;II[J)I"⟩
abbrev cL_wear : ByteArray := method_5_code
def yL_wear : MethodName := ⟨RL, "wear", "(LSlipSecret;III[J)I"⟩
abbrev cL_enrol : ByteArray := method_6_code
def yL_enrol : MethodName := ⟨RL, "enrol", "(LSlipSecret;I[J)I"⟩
abbrev cL_hear : ByteArray := method_7_code
def yL_hear : MethodName := ⟨RL, "hear", "(LSlipSecret;I[J)I"⟩
abbrev cL_train : ByteArray := method_8_code
def yL_train : MethodName := ⟨RL, "train", "(LSlipSecret;I[J)I"⟩
abbrev cL_turn : ByteArray := method_9_code
def yL_turn : MethodName := ⟨RL, "turn", "(LSlipSecret;I[J)I"⟩
abbrev cL_told : ByteArray := method_10_code
def yL_told : MethodName := ⟨RL, "told", "(LSlipSecret;I[J)I"⟩
abbrev cL_ring : ByteArray := method_11_code
def yL_ring : MethodName := ⟨RL, "ring", "(LSlipSecret;II[J)I"⟩
abbrev cL_speed : ByteArray := method_12_code
def yL_speed : MethodName := ⟨RL, "speed", "(LSlipSecret;II[J)I"⟩
abbrev cL_rank : ByteArray := method_13_code
def yL_rank : MethodName := ⟨RL, "rank", "(LSlipSecret;II[J)I"⟩
abbrev cL_pair : ByteArray := method_14_code
def yL_pair : MethodName := ⟨RL, "pair", "(LSlipSecret;II[J)I"⟩
abbrev cL_bit : ByteArray := method_15_code
def yL_bit : MethodName := ⟨RL, "bit", "(LSlipSecret;II[J)I"⟩
abbrev cL_flips : ByteArray := method_16_code
def yL_flips : MethodName := ⟨RL, "flips", "(LSlipSecret;II[J)I"⟩
abbrev cL_odds : ByteArray := method_17_code
def yL_odds : MethodName := ⟨RL, "odds", "(LSlipSecret;IIZ[J)I"⟩
abbrev cL_block : ByteArray := method_18_code
def yL_block : MethodName := ⟨RL, "block", "(LSlipSecret;II[J)I"⟩
abbrev cL_recover : ByteArray := method_19_code
def yL_recover : MethodName := ⟨RL, "recover", "(LSlipSecret;III[J)I"⟩
abbrev cL_fails : ByteArray := method_20_code
def yL_fails : MethodName := ⟨RL, "fails", "(LSlipSecret;IIII[J)I"⟩
abbrev cL_safe : ByteArray := method_21_code
def yL_safe : MethodName := ⟨RL, "safe", "(LSlipSecret;II[J)I"⟩
abbrev cL_range : ByteArray := method_22_code
def yL_range : MethodName := ⟨RL, "range", "(LSlipSecret;I[J)I"⟩
abbrev cL_guardFor : ByteArray := method_23_code
def yL_guardFor : MethodName := ⟨RL, "guardFor", "(LSlipSecret;I[J)I"⟩
abbrev cL_ways : ByteArray := method_24_code
def yL_ways : MethodName := ⟨RL, "ways", "(LSlipSecret;I[J)I"⟩
abbrev cL_leak : ByteArray := method_25_code
def yL_leak : MethodName := ⟨RL, "leak", "(LSlipSecret;I[J)I"⟩
abbrev cL_success : ByteArray := method_26_code
def yL_success : MethodName := ⟨RL, "success", "(LSlipSecret;I[J)I"⟩
abbrev cL_curve : ByteArray := method_27_code
def yL_curve : MethodName := ⟨RL, "curve", "(LSlipSecret;II[J)I"⟩
abbrev cL_law : ByteArray := code
def yL_law : MethodName := ⟨RL, "law", "([I)Z"⟩
abbrev vwCl : List vw_C := [(RX1, TX1, 9), (RX2, TX2, 1), (RX3, TX3, 5), (RX4, TX4, 1), (RX5, TX5, 4), (RX6, TX6, 8), (RX7, TX7, 3), (RX8, TX8, 8), (RX9, TX9, 3), (RX10, TX10, 15), (RX11, TX11, 35)]
end
section
/-! The own machine: values zV (int, long, reference with its kind), heaps zH (ints, longs, references, by address and slot), transformers zT. -/
abbrev zV : Type := Int32 ⊕ (Int64 ⊕ ((Nat × Nat) × Nat))
abbrev vI (x : Int32) : zV := .inl x
abbrev vL (x : Int64) : zV := .inr (.inl x)
abbrev vR (t n a : Nat) : zV := .inr (.inr ((t, n), a))
def zv : zV → Value
  | .inl x => .int x
  | .inr (.inl x) => .long x
  | .inr (.inr q) => .ref q.2
abbrev zH : Type := (Nat → Nat → Int32) × ((Nat → Nat → Int64) × (Nat → Nat → Nat))
abbrev zL : Type := List (Option zV)
abbrev zT : Type := zL → List zV → zH → Prop
/-- class ids and slots; array classes; kinds by address; where the old heap ends; the script -/
abbrev zY : Type := va_G × ((Nat → ClassId) × ((Nat → Nat × Nat) × (Nat × (Nat → Int32))))
abbrev yD (Y : zY) : va_G := Y.1
abbrev yC (Y : zY) : Nat → ClassId := Y.2.1
abbrev yK (Y : zY) : Nat → Nat × Nat := Y.2.2.1
abbrev yO (Y : zY) : Nat := Y.2.2.2.1
abbrev yX (Y : zY) : Nat → Int32 := Y.2.2.2.2
/-- the machine's context of a walk -/
abbrev zX := Program × Launch × Env × Room × State × MethodId × Array Value × List Frame × Method × Code × (State → Prop)
abbrev xR (X : zX) : Room := X.2.2.2.1
abbrev xS (X : zX) : State := X.2.2.2.2.1
abbrev xM (X : zX) : MethodId := X.2.2.2.2.2.1
abbrev xA (X : zX) : Array Value := X.2.2.2.2.2.2.1
abbrev xB (X : zX) : List Frame := X.2.2.2.2.2.2.2.1
abbrev xH (X : zX) : Method := X.2.2.2.2.2.2.2.2.1
abbrev xC (X : zX) : Code := X.2.2.2.2.2.2.2.2.2.1
abbrev xQ (X : zX) : State → Prop := X.2.2.2.2.2.2.2.2.2.2
def zW (X : zX) (H : Heap) (locs : List Loc) (u v : Nat) (g : JFrame) : Prop := W X.1 X.2.1 X.2.2.1 (xR X) (xS X) (xM X) (xA X) (xB X) (xH X) (xC X) H locs u v (xQ X) g
/-- fields: 0 an int; 1 a reference at a fixed distance, of a kind; 2 a reference that changes, of a kind -/
def zF (ci k : Nat) : Nat × (Nat × (Nat × Nat)) := match ci, k with
  | 0, 1 => (1, 1, 1, 28)
  | 1, 0 => (1, 1, 5, 17)
  | 2, 1 => (1, 1, 1, 28)
  | 2, 4 => (1, 2, 1, 10)
  | 3, 0 => (1, 1, 1, 10)
  | 5, 1 => (1, 1, 1, 10)
  | 5, 2 => (1, 2, 1, 10)
  | 5, 3 => (1, 3, 1, 10)
  | 5, 5 => (1, 4, 1, 28)
  | 5, 6 => (1, 5, 1, 28)
  | 5, 7 => (1, 6, 1, 5)
  | 6, 0 => (1, 1, 15, 0)
  | 6, 1 => (1, 8, 10, 0)
  | 6, 2 => (1, 10, 12, 0)
  | 7, 0 => (1, 1, 15, 0)
  | 7, 3 => (1, 8, 1, 400)
  | 8, 0 => (1, 1, 1, 10)
  | 8, 1 => (1, 2, 1, 1024)
  | 8, 2 => (1, 3, 3, 1024)
  | 9, 0 => (2, 0, 16, 0)
  | 9, 1 => (1, 14, 4, 12)
  | 9, 4 => (1, 171, 17, 0)
  | 9, 8 => (1, 180, 14, 0)
  | 9, 9 => (1, 181, 13, 0)
  | 9, 10 => (1, 183, 13, 0)
  | 9, 11 => (1, 185, 12, 0)
  | 9, 12 => (1, 188, 18, 0)
  | 9, 13 => (1, 192, 11, 0)
  | 9, 14 => (1, 228, 1, 28)
  | 10, 1 => (1, 1, 1, 3)
  | 10, 2 => (1, 2, 1, 218)
  | 10, 3 => (1, 3, 1, 218)
  | 10, 4 => (1, 4, 1, 2616)
  | 10, 5 => (1, 5, 1, 28)
  | 10, 6 => (1, 6, 1, 28)
  | 10, 7 => (1, 7, 1, 28)
  | 10, 8 => (1, 8, 1, 28)
  | 10, 12 => (1, 9, 1, 28)
  | 10, 13 => (1, 10, 1, 7)
  | 10, 14 => (1, 11, 1, 7)
  | 10, 15 => (1, 12, 2, 400)
  | 10, 16 => (1, 13, 2, 400)
  | 10, 31 => (1, 14, 1, 10)
  | 10, 32 => (1, 15, 1, 10)
  | 10, 33 => (1, 16, 3, 1024)
  | 10, 34 => (1, 17, 1, 218)
  | _, _ => (0, 0, 0, 0)
def zfv (ci k a : Nat) (h : zH) : Value := match (zF ci k).1 with
  | 0 => .int (h.1 a k)
  | 1 => .ref (a + (zF ci k).2.1)
  | _ => .ref (h.2.2 a k)
/-- tags: 1 int, 2 byte, 3 long arrays, 4 of State, 5 of Order; 7 a String constant, 8 a constant array, 9 the script; 10 + class an object -/
def zRa (Y : zY) (h : zH) (H : Heap) (a : Nat) : Prop :=
  (∀ n : Nat, yK Y a = (1, n) → H[a]? = some (vp_cell (yC Y 1) (n, .inl (h.1 a)))) ∧
  (∀ n : Nat, yK Y a = (2, n) → H[a]? = some (vp_cell (yC Y 2) (n, .inl (h.1 a)))) ∧
  (∀ n : Nat, yK Y a = (3, n) → H[a]? = some (vp_cell (yC Y 3) (n, .inr (.inl (h.2.1 a))))) ∧
  (∀ n : Nat, yK Y a = (4, n) → H[a]? = some (vp_cell (yC Y 4) (n, .inr (.inr (.inr (.inr (fun j => some (h.2.2 a j))))))) ∧ ∀ j : Nat, j < n → yK Y (h.2.2 a j) = (16, 0)) ∧
  (∀ n : Nat, yK Y a = (5, n) → H[a]? = some (vp_cell (yC Y 5) (n, .inr (.inr (.inr (.inr (fun j => some (h.2.2 a j))))))) ∧ ∀ j : Nat, j < n → yK Y (h.2.2 a j) = (13, 0)) ∧
  (∀ ci n : Nat, yK Y a = (10 + ci, n) → ∃ r : vw_C, vwCl[ci]? = some r ∧ t_OB a ((yD Y).1 ci) r.2.2 ((yD Y).2 ci) H (fun k => zfv ci k a h) ∧ ∀ k : Nat, (zF ci k).1 = 2 → yK Y (h.2.2 a k) = (zF ci k).2.2)
def zR (Y : zY) (h : zH) (H : Heap) : Prop := ∀ a : Nat, zRa Y h H a
theorem zRa_congr {Y : zY} {h h' : zH} {H H1 : Heap} {a : Nat} (hR : zRa Y h H a) (ho : H1[a]? = H[a]?) (h1 : h'.1 a = h.1 a) (h2 : h'.2.1 a = h.2.1 a) (h3 : h'.2.2 a = h.2.2 a) : zRa Y h' H1 a := by
  obtain ⟨r1, r2, r3, r4, r5, r6⟩ := hR
  refine ⟨fun n hn => ?_, fun n hn => ?_, fun n hn => ?_, fun n hn => ?_, fun n hn => ?_, fun ci n hn => ?_⟩
  · rw [ho, h1]; exact r1 n hn
  · rw [ho, h1]; exact r2 n hn
  · rw [ho, h2]; exact r3 n hn
  · rw [ho, h3]; exact r4 n hn
  · rw [ho, h3]; exact r5 n hn
  · obtain ⟨r, q1, q2, q3⟩ := r6 ci n hn
    refine ⟨r, q1, (q2.kept ho).to (fun k _ => ?_), fun k hk => by rw [h3]; exact q3 k hk⟩
    simp only [zfv, h1, h3]
theorem zR_upd {Y : zY} {h h' : zH} {H H1 : Heap} (a : Nat) (hR : zR Y h H) (ho : ∀ q : Nat, q ≠ a → H1[q]? = H[q]?) (h1 : ∀ q : Nat, q ≠ a → h'.1 q = h.1 q) (h2 : ∀ q : Nat, q ≠ a → h'.2.1 q = h.2.1 q) (h3 : ∀ q : Nat, q ≠ a → h'.2.2 q = h.2.2 q) (ha : zRa Y h' H1 a) : zR Y h' H1 := by
  intro q
  by_cases hq : q = a
  · rw [hq]; exact ha
  · exact zRa_congr (hR q) (ho q hq) (h1 q hq) (h2 q hq) (h3 q hq)
def zwr (t : Nat) : Prop := t ≠ 0 ∧ t ≠ 7 ∧ t ≠ 8 ∧ t ≠ 9
def zWF (Y : zY) : Prop := (∀ a ci n k : Nat, yK Y a = (10 + ci, n) → (zF ci k).1 = 1 → yK Y (a + (zF ci k).2.1) = (zF ci k).2.2) ∧ (∀ a : Nat, zwr (yK Y a).1 → yO Y ≤ a) ∧ ∀ a : Nat, (yK Y a).2 < 2 ^ 31
def zA (Y : zY) (sz : Nat) : Nat → Prop := fun q => zwr (yK Y q).1 ∨ sz ≤ q
def zK (Y : zY) (U : State) : Prop := va_K (yD Y) vwCl [(yC Y 1, .int), (yC Y 2, .byte), (yC Y 3, .long), (yC Y 4, .object RX7), (yC Y 5, .object RX4)] U
def zok (Y : zY) : zV → Prop
  | .inr (.inr q) => yK Y q.2 = q.1
  | _ => True

def zNest : List (String × Nat × MethodName × String) := [("SlipSecret", 9, ⟨"SlipSecret$State", "<init>", "()V"⟩, "SlipSecret"), ("SlipSecret$State", 18, ⟨"SlipSecret$Enrolment", "<init>", "()V"⟩, "SlipSecret"), ("SlipSecret$State", 25, ⟨"SlipSecret$Listener", "<init>", "()V"⟩, "SlipSecret"), ("SlipSecret", 22, ⟨"SlipSecret$TextReader", "<init>", "()V"⟩, "SlipSecret"), ("SlipSecret", 29, ⟨"SlipSecret$Reading", "<init>", "()V"⟩, "SlipSecret"), ("SlipSecret", 36, ⟨"SlipSecret$Order", "<init>", "()V"⟩, "SlipSecret"), ("SlipSecret", 46, ⟨"SlipSecret$Listener", "<init>", "()V"⟩, "SlipSecret"), ("SlipSecret", 53, ⟨"SlipSecret$WaysCounter", "<init>", "()V"⟩, "SlipSecret"), ("SlipSecret$LeftCounter", 17, ⟨"SlipSecret$Order", "<init>", "()V"⟩, "SlipSecret"), ("SlipSecret$Listener", 34, ⟨"SlipSecret", "bitIn", "(II)I"⟩, "SlipSecret"), ("SlipSecret$Order", 21, ⟨"SlipSecret", "bitIn", "(II)I"⟩, "SlipSecret"), ("SlipSecret$Code", 30, ⟨"SlipSecret", "bitIn", "(II)I"⟩, "SlipSecret"), ("SlipSecret$Enrolment", 67, ⟨"SlipSecret", "bitIn", "(II)I"⟩, "SlipSecret"), ("SlipSecret$Slip", 86, ⟨"SlipSecret", "bitIn", "(II)I"⟩, "SlipSecret"), ("SlipSecret$WaysCounter", 39, ⟨"SlipSecret", "bitIn", "(II)I"⟩, "SlipSecret"), ("SlipSecret$LeftCounter", 78, ⟨"SlipSecret", "bitIn", "(II)I"⟩, "SlipSecret")]
def zExc : List String := ["java/lang/IllegalArgumentException", "java/util/NoSuchElementException", "java/lang/IllegalStateException"]
def zNoc : List (String × String) := [("java/lang/IllegalArgumentException", "java/util/NoSuchElementException"), ("java/lang/IllegalArgumentException", "java/lang/IllegalStateException"), ("java/lang/IllegalStateException", "java/util/NoSuchElementException"), ("java/lang/IllegalStateException", "java/lang/IllegalArgumentException"), ("java/util/NoSuchElementException", "java/lang/IllegalArgumentException"), ("java/util/NoSuchElementException", "java/lang/IllegalStateException")]
def zStr : List (String × Nat × String × Nat) := [("SlipSecret", 362, "an argument is out of its range", 0), ("SlipSecret$TextReader", 56, "ring", 1), ("SlipSecret$TextReader", 66, "pai\x72", 2), ("SlipSecret$TextReader", 71, "guard", 3), ("SlipSecret$TextReader", 79, "heats", 4), ("SlipSecret$TextReader", 84, "all", 5), ("SlipSecret$TextReader", 86, "repeat", 6), ("SlipSecret$TextReader", 91, "hamming", 7), ("SlipSecret", 374, "there is none of this numbe\x72", 8), ("SlipSecret", 369, "nothing is there to do it with", 9), ("SlipSecretModel", 187, "ring", 1), ("SlipSecretModel", 196, "pai\x72", 2), ("SlipSecretModel", 201, "guard", 3), ("SlipSecretModel", 203, "heats", 4), ("SlipSecretModel", 208, "all", 5), ("SlipSecretModel", 210, "repeat", 6), ("SlipSecretModel", 215, "hamming", 7)]
def zLen : List Nat := [31, 4, 4, 5, 5, 3, 6, 7, 28, 30]
def zByt : List (List Int32) := [[97, 110, 32, 97, 114, 103, 117, 109, 101, 110, 116, 32, 105, 115, 32, 111, 117, 116, 32, 111, 102, 32, 105, 116, 115, 32, 114, 97, 110, 103, 101], [114, 105, 110, 103], [112, 97, 105, 114], [103, 117, 97, 114, 100], [104, 101, 97, 116, 115], [97, 108, 108], [114, 101, 112, 101, 97, 116], [104, 97, 109, 109, 105, 110, 103], [116, 104, 101, 114, 101, 32, 105, 115, 32, 110, 111, 110, 101, 32, 111, 102, 32, 116, 104, 105, 115, 32, 110, 117, 109, 98, 101, 114], [110, 111, 116, 104, 105, 110, 103, 32, 105, 115, 32, 116, 104, 101, 114, 101, 32, 116, 111, 32, 100, 111, 32, 105, 116, 32, 119, 105, 116, 104]]
def zNT : Nat := 10
def zCc (n j : Nat) : Int32 := if n = 0 then ([11, 13, 1, 14, 2, 4, 8] : List Int32).getD j 0 else ([85, 102, 120] : List Int32).getD j 0
def zCn (n : Nat) : Nat := if n = 0 then 7 else 3
def zCf (n : Nat) : String := if n = 0 then "HAMMING_PARTS" else "HAMMING_SUMS"
/-- what the start gives of constants: links in the nest, exceptions' casts, String constants, constant arrays, the throwables' statics, the script -/
def zS (Y : zY) (U : State) (H : Heap) : Prop :=
  (∀ q ∈ zNest, va_Nw (.methodLinkNest q.1 q.2.1 q.2.2.1 q.2.2.2) U) ∧
  (∀ c ∈ zExc, va_Nw (.castable c c) U) ∧
  (∀ q ∈ zNoc, va_Nc q.1 q.2 U) ∧
  (∃ adK adV : Nat → Nat, vk_S zNT zLen zByt adK adV (fun q => yO Y ≤ q) U H ∧ (∀ q ∈ zStr, vk_R q.1 q.2.1 q.2.2.1 (adK q.2.2.2) U ∧ yK Y (adK q.2.2.2) = (7, q.2.2.2)) ∧ ∀ a n : Nat, yK Y a = (7, n) → n < zNT ∧ a = adK n) ∧
  ((∀ n : Nat, n < 2 → ∃ t : Nat, yK Y t = (8, n) ∧ va_Z RX0 (zCf n) "[I" (.ref t) (fun q => yO Y ≤ q) U H) ∧ ∀ t n : Nat, yK Y t = (8, n) → va_T .int t (zCn n) (fun j => .int (zCc n j)) (fun q => yO Y ≤ q) U H) ∧
  va_Z "java/lang/String" "COMPACT_STRINGS" "Z" (.int 1) (fun q => yO Y ≤ q) U H ∧
  (vx_Zq Bundle.tN "UNASSIGNED_STACK" Bundle.steD (fun q => yO Y ≤ q) U H ∧ vx_Zq Bundle.tN "SUPPRESSED_SENTINEL" Bundle.listD (fun q => yO Y ≤ q) U H) ∧
  (∀ a n : Nat, yK Y a = (9, n) → va_X a n (yX Y) U H ∧ a < yO Y)
theorem zS_moved {Y : zY} {s U : State} {H H1 : Heap} (hW : s.WarmedH U.vm) (hz : yO Y ≤ H.size) (hq : ∀ a : Nat, a < yO Y → H1[a]? = H[a]?) (h : zS Y s H) : zS Y U H1 := by
  obtain ⟨h1, h2, h3, ⟨adK, adV, h4, h5, h6⟩, ⟨h7, h8⟩, h9, ⟨h10, h11⟩, h12⟩ := h
  have hvm : s.vm.Alike U.vm := hW.alike
  have hk : ∀ a : Nat, a < H.size → ¬ (fun q => yO Y ≤ q) a → H1[a]? = H[a]? := fun a _ h => hq a (Nat.not_le.mp h)
  refine ⟨fun q hq => va_Nw.warmM hW (h1 q hq), fun c hc => va_Nw.warmC hW (h2 c hc), fun q hq => (h3 q hq).moved hvm, ⟨adK, adV, (h4.moved hvm).kept hk, fun q hq => ⟨(h5 q hq).1.warm hW, (h5 q hq).2⟩, h6⟩,
    ⟨fun n hn => ?_, fun t n ht => ((h8 t n ht).moved hvm).kept hk⟩, (h9.moved hvm).kept hk, ⟨(h10.moved hvm).kept hk, (h11.moved hvm).kept hk⟩, fun a n ha => ⟨((h12 a n ha).1.moved hvm).kept (hq a (h12 a n ha).2), (h12 a n ha).2⟩⟩
  obtain ⟨t, ht, hZ⟩ := h7 n hn
  exact ⟨t, ht, (hZ.moved hvm).kept hk⟩
/-- all good words of the tables -/
def zTW : List Cond := lw_tbl.filter goodWord
/-- what holds through a walk -/
def zOK (X : zX) (Y : zY) (cc : ByteArray) (own : String) : Prop :=
  X.1.tables.exec = Jvm.exec ∧ (xC X).code = cc ∧ (xS X).vm.findClass own = some (xM X).cls ∧ (∀ w ∈ zTW, w.before (xA X) (xS X) = true) ∧ zK Y (xS X) ∧ zS Y (xS X) (xS X).heap ∧ zWF Y ∧ yO Y ≤ (xS X).heap.size
/-! locals -/
def zlv : Nat → zL → List (Nat × Value)
  | _, [] => []
  | i, none :: l => zlv (i + 1) l
  | i, some v :: l => (i, zv v) :: zlv (i + 1) l
def zlg : zL → Nat → Option zV
  | [], _ => none
  | v :: _, 0 => v
  | _ :: l, n + 1 => zlg l n
def zls : zL → Nat → Option zV → (zL → Prop) → Prop
  | [], _, _, _ => False
  | _ :: l, 0, v, k => k (v :: l)
  | some (.inr (.inl _)) :: l, 1, v, k => zls l 0 v (fun l' => k (none :: l'))
  | a :: l, n + 1, v, k => zls l n v (fun l' => k (a :: l'))
theorem zlv_mem : ∀ (l : zL) (i : Nat) (q : Nat × Value), q ∈ zlv i l ↔ ∃ (j : Nat) (v : zV), l[j]? = some (some v) ∧ q = (i + j, zv v)
  | [], i, q => by simp [zlv]
  | none :: l, i, q => by
    rw [zlv, zlv_mem l (i + 1) q]
    constructor
    · rintro ⟨j, v, h1, h2⟩
      exact ⟨j + 1, v, by simpa using h1, by rw [h2]; congr 1; omega⟩
    · rintro ⟨j, v, h1, h2⟩
      cases j with
      | zero => simp at h1
      | succ j => exact ⟨j, v, by simpa using h1, by rw [h2]; congr 1; omega⟩
  | some w :: l, i, q => by
    rw [zlv, List.mem_cons, zlv_mem l (i + 1) q]
    constructor
    · rintro (h | ⟨j, v, h1, h2⟩)
      · exact ⟨0, w, by simp, by simpa using h⟩
      · exact ⟨j + 1, v, by simpa using h1, by rw [h2]; congr 1; omega⟩
    · rintro ⟨j, v, h1, h2⟩
      cases j with
      | zero =>
        simp at h1
        subst h1
        exact Or.inl (by simpa using h2)
      | succ j => exact Or.inr ⟨j, v, by simpa using h1, by rw [h2]; congr 1; omega⟩
theorem zlg_at : ∀ (l : zL) (n : Nat) (v : zV), zlg l n = some v → l[n]? = some (some v)
  | [], n, v, h => by simp [zlg] at h
  | a :: l, 0, v, h => by simp only [zlg] at h; simp [h]
  | a :: l, n + 1, v, h => by simp only [zlg] at h; simpa using zlg_at l n v h
theorem zls_spec : ∀ (l : zL) (n : Nat) (v : Option zV) (k : zL → Prop), zls l n v k → ∃ l' : zL, k l' ∧ l'.length = l.length ∧ n < l.length ∧ l'[n]? = some v ∧ ∀ (j : Nat) (w : zV), j ≠ n → l'[j]? = some (some w) → l[j]? = some (some w) ∧ ¬ (j + 1 = n ∧ (zv w).category = 2)
  | [], n, v, k, h => by simp [zls] at h
  | a :: l, 0, v, k, h => by
    refine ⟨v :: l, by simpa [zls] using h, rfl, by simp, by simp, fun j w hj hw => ?_⟩
    cases j with
    | zero => exact absurd rfl hj
    | succ j => exact ⟨by simpa using hw, by omega⟩
  | a :: l, n + 1, v, k, h => by
    have key : ∀ b : Option zV, (b = none ∨ (b = a ∧ ∀ w : zV, a = some w → n = 0 → (zv w).category ≠ 2)) → zls l n v (fun l' => k (b :: l')) → ∃ l' : zL, k l' ∧ l'.length = (a :: l).length ∧ n + 1 < (a :: l).length ∧ l'[n + 1]? = some v ∧ ∀ (j : Nat) (w : zV), j ≠ n + 1 → l'[j]? = some (some w) → (a :: l)[j]? = some (some w) ∧ ¬ (j + 1 = n + 1 ∧ (zv w).category = 2) := by
      intro b hb hz
      obtain ⟨l', h1, h2, h3, h4, h5⟩ := zls_spec l n v _ hz
      refine ⟨b :: l', h1, by simp [h2], by simp; exact h3, by simpa using h4, fun j w hj hw => ?_⟩
      cases j with
      | zero =>
        simp at hw
        rcases hb with hb | ⟨hb, hb2⟩
        · rw [hb] at hw; cases hw
        · rw [hb] at hw
          exact ⟨by simp [hw], fun q => hb2 w hw (by omega) q.2⟩
      | succ j =>
        obtain ⟨g1, g2⟩ := h5 j w (by omega) (by simpa using hw)
        exact ⟨by simpa using g1, fun q => g2 ⟨by omega, q.2⟩⟩
    cases a with
    | none => exact key none (Or.inl rfl) (by simpa [zls] using h)
    | some w =>
      cases w with
      | inl x => exact key (some (.inl x)) (Or.inr ⟨rfl, fun w hw _ => by cases hw; simp [zv, Value.category]⟩) (by cases n <;> simpa [zls] using h)
      | inr w =>
        cases w with
        | inl x =>
          cases n with
          | zero => exact key none (Or.inl rfl) (by simpa [zls] using h)
          | succ n => exact key (some (.inr (.inl x))) (Or.inr ⟨rfl, fun w hw q => by omega⟩) (by simpa [zls] using h)
        | inr x => exact key (some (.inr (.inr x))) (Or.inr ⟨rfl, fun w hw _ => by cases hw; simp [zv, Value.category]⟩) (by cases n <;> simpa [zls] using h)
/-- the locals of a frame are as listed, and their references are of their kinds -/
def zLk (Y : zY) (nL : Nat) (ls : zL) (lsA : Array Slot) : Prop := lv_has lsA nL (zlv 0 ls) ∧ ls.length = nL ∧ ∀ (j : Nat) (v : zV), ls[j]? = some (some v) → zok Y v
theorem zLk_get {Y : zY} {nL : Nat} {ls : zL} {lsA : Array Slot} {n : Nat} {v : zV} (h : zLk Y nL ls lsA) (hv : zlg ls n = some v) : lsA[n]? = some (.val (zv v)) ∧ zok Y v := by
  have h1 := zlg_at ls n v hv
  refine ⟨?_, h.2.2 n v h1⟩
  have h2 := h.1.2.2 (n, zv v) ((zlv_mem ls 0 _).mpr ⟨n, v, h1, by simp⟩)
  exact h2
/-- the walk is sound at a place: whoever has T there comes to the end -/
def zSd (X : zX) (Y : zY) (u v pc : Nat) (T : zT) : Prop := ∀ (ls : zL) (st : List zV) (h : zH), T ls st h → ∀ (H : Heap) (locs : List Loc) (lsA : Array Slot), zR Y h H → zLk Y (xC X).maxLocals ls lsA → (∀ q ∈ st, zok Y q) → va_S (zA Y (xS X).heap.size) (xS X).heap H locs → zW X H locs u v (F0 (xM X) pc lsA (st.map zv))
theorem zSd_weak {X : zX} {Y : zY} {u v pc : Nat} {T T' : zT} (h : zSd X Y u v pc T) (hw : ∀ ls st h, T' ls st h → T ls st h) : zSd X Y u v pc T' := fun ls st h0 t => h ls st h0 (hw ls st h0 t)
theorem zSd_more {X : zX} {Y : zY} {u v u' v' pc : Nat} {T : zT} (h : zSd X Y u' v' pc T) (hu : u ≤ u') (hv : v ≤ v') : zSd X Y u v pc T := fun ls st h0 t H locs lsA a b c d => W.widen hu hv (h ls st h0 t H locs lsA a b c d)
theorem zSd_at {X : zX} {Y : zY} {u v pc pc' : Nat} {T : zT} (h : zSd X Y u v pc T) (he : pc = pc') : zSd X Y u v pc' T := he ▸ h
/-- a loop: an invariant with a measure -/
theorem zSd_loop {X : zX} {Y : zY} {u v pc : Nat} {I : Nat → zT} (hb : ∀ n : Nat, zSd X Y u v pc (fun ls st h => ∃ k, k < n ∧ I k ls st h) → zSd X Y u v pc (I n)) : ∀ n : Nat, zSd X Y u v pc (I n) := by
  intro n
  induction n using Nat.strongRecOn with
  | _ n ih => exact hb n (fun ls st h ⟨k, hk, t⟩ => ih k hk ls st h t)
theorem zq1 {Y : zY} {a : zV} {l : List zV} (h : ∀ q ∈ a :: l, zok Y q) : zok Y a ∧ ∀ q ∈ l, zok Y q := ⟨h a List.mem_cons_self, fun q hq => h q (List.mem_cons_of_mem _ hq)⟩
theorem zq2 {Y : zY} {a b : zV} {l : List zV} (h : ∀ q ∈ a :: b :: l, zok Y q) : ∀ q ∈ l, zok Y q := (zq1 (zq1 h).2).2
theorem zqc {Y : zY} {a : zV} {l : List zV} (h1 : zok Y a) (h2 : ∀ q ∈ l, zok Y q) : ∀ q ∈ a :: l, zok Y q := fun q hq => (List.mem_cons.mp hq).elim (fun e => e ▸ h1) (h2 q)
section ZB
variable {X : zX} {Y : zY} {u v pc : Nat} {cc : ByteArray} {own : String} {k k2 : zT}

def zi_ild (n : Nat) (k : zT) : zT := fun ls st h => match zlg ls n with
  | some (.inl x) => k ls (.inl x :: st) h
  | _ => False
theorem zr_iload {n : Nat} (O : zOK X Y cc own) (d : decode cc pc = .ok (.iload n, 2)) (hk : zSd X Y u v (pc + 2) k) : zSd X Y u v pc (zi_ild n k) := by
  intro ls st h t H locs lsA hR hL hv hS
  unfold zi_ild at t
  split at t
  · rename_i x hx
    obtain ⟨h1, h2⟩ := zLk_get hL hx
    exact lv_iload O.1 O.2.1 d h1 (hk _ _ _ t H locs lsA hR hL (zqc h2 hv) hS)
  · exact t.elim
theorem zr_iload_n {n : Nat} {j : Fin 4} (O : zOK X Y cc own) (d : decode cc pc = .ok (.iload_n j, 1)) (hj : (j : Nat) = n) (hk : zSd X Y u v (pc + 1) k) : zSd X Y u v pc (zi_ild n k) := by
  intro ls st h t H locs lsA hR hL hv hS
  unfold zi_ild at t
  split at t
  · rename_i x hx
    obtain ⟨h1, h2⟩ := zLk_get hL hx
    exact lv_iload_n O.1 O.2.1 d hj h1 (hk _ _ _ t H locs lsA hR hL (zqc h2 hv) hS)
  · exact t.elim
def zi_lld (n : Nat) (k : zT) : zT := fun ls st h => match zlg ls n with
  | some (.inr (.inl x)) => k ls (.inr (.inl x) :: st) h
  | _ => False
theorem zr_lload {n : Nat} (O : zOK X Y cc own) (d : decode cc pc = .ok (.lload n, 2)) (hk : zSd X Y u v (pc + 2) k) : zSd X Y u v pc (zi_lld n k) := by
  intro ls st h t H locs lsA hR hL hv hS
  unfold zi_lld at t
  split at t
  · rename_i x hx
    obtain ⟨h1, h2⟩ := zLk_get hL hx
    exact lv_lload O.1 O.2.1 d h1 (hk _ _ _ t H locs lsA hR hL (zqc h2 hv) hS)
  · exact t.elim
theorem zr_lload_n {n : Nat} {j : Fin 4} (O : zOK X Y cc own) (d : decode cc pc = .ok (.lload_n j, 1)) (hj : (j : Nat) = n) (hk : zSd X Y u v (pc + 1) k) : zSd X Y u v pc (zi_lld n k) := by
  intro ls st h t H locs lsA hR hL hv hS
  unfold zi_lld at t
  split at t
  · rename_i x hx
    obtain ⟨h1, h2⟩ := zLk_get hL hx
    exact lv_lload_n O.1 O.2.1 d hj h1 (hk _ _ _ t H locs lsA hR hL (zqc h2 hv) hS)
  · exact t.elim
def zi_ald (n : Nat) (k : zT) : zT := fun ls st h => match zlg ls n with
  | some (.inr (.inr x)) => k ls (.inr (.inr x) :: st) h
  | _ => False
theorem zr_aload {n : Nat} (O : zOK X Y cc own) (d : decode cc pc = .ok (.aload n, 2)) (hk : zSd X Y u v (pc + 2) k) : zSd X Y u v pc (zi_ald n k) := by
  intro ls st h t H locs lsA hR hL hv hS
  unfold zi_ald at t
  split at t
  · rename_i x hx
    obtain ⟨h1, h2⟩ := zLk_get hL hx
    exact lv_aload O.1 O.2.1 d h1 (hk _ _ _ t H locs lsA hR hL (zqc h2 hv) hS)
  · exact t.elim
theorem zr_aload_n {n : Nat} {j : Fin 4} (O : zOK X Y cc own) (d : decode cc pc = .ok (.aload_n j, 1)) (hj : (j : Nat) = n) (hk : zSd X Y u v (pc + 1) k) : zSd X Y u v pc (zi_ald n k) := by
  intro ls st h t H locs lsA hR hL hv hS
  unfold zi_ald at t
  split at t
  · rename_i x hx
    obtain ⟨h1, h2⟩ := zLk_get hL hx
    exact lv_aload_n O.1 O.2.1 d hj h1 (hk _ _ _ t H locs lsA hR hL (zqc h2 hv) hS)
  · exact t.elim
theorem zLk_set1 {nL : Nat} {ls ls' : zL} {lsA lsA' : Array Slot} {n : Nat} {w : zV} (h : zLk Y nL ls lsA) (hw : zok Y w) (h2 : ls'.length = ls.length) (h4 : ls'[n]? = some (some w)) (h5 : ∀ (j : Nat) (w : zV), j ≠ n → ls'[j]? = some (some w) → ls[j]? = some (some w) ∧ ¬ (j + 1 = n ∧ (zv w).category = 2))
    (hA : lv_has lsA' nL ((n, zv w) :: (zlv 0 ls).filter (fun q => !(q.1 == n) && !(q.1 + 1 == n && q.2.category == 2)))) : zLk Y nL ls' lsA' := by
  refine ⟨⟨hA.1, hA.2.1, fun q hq => ?_⟩, h2.trans h.2.1, fun j w' hj => ?_⟩
  · obtain ⟨j, w', h6, rfl⟩ := (zlv_mem ls' 0 q).mp hq
    by_cases hjn : j = n
    · subst hjn
      rw [h4] at h6
      cases h6
      exact hA.2.2 _ (by simp)
    · obtain ⟨h7, h8⟩ := h5 j w' hjn h6
      refine hA.2.2 _ (List.mem_cons_of_mem _ (List.mem_filter.mpr ⟨(zlv_mem ls 0 _).mpr ⟨j, w', h7, rfl⟩, ?_⟩))
      simp only [Bool.and_eq_true, Bool.not_eq_true', beq_eq_false_iff_ne, ne_eq, Bool.and_eq_false_iff]
      refine ⟨by omega, ?_⟩
      by_cases hz : j + 1 = n
      · exact Or.inr (fun q => h8 ⟨hz, q⟩)
      · exact Or.inl (by omega)
  · by_cases hjn : j = n
    · subst hjn
      rw [h4] at hj
      cases hj
      exact hw
    · exact h.2.2 j w' (h5 j w' hjn hj).1
theorem zLk_set2 {nL : Nat} {ls l1 ls' : zL} {lsA lsA' : Array Slot} {n : Nat} {w : zV} (h : zLk Y nL ls lsA) (hw : zok Y w) (a2 : l1.length = ls.length) (a4 : l1[n + 1]? = some none) (a5 : ∀ (j : Nat) (w : zV), j ≠ n + 1 → l1[j]? = some (some w) → ls[j]? = some (some w) ∧ ¬ (j + 1 = n + 1 ∧ (zv w).category = 2))
    (h2 : ls'.length = l1.length) (h4 : ls'[n]? = some (some w)) (h5 : ∀ (j : Nat) (w : zV), j ≠ n → ls'[j]? = some (some w) → l1[j]? = some (some w) ∧ ¬ (j + 1 = n ∧ (zv w).category = 2))
    (hA : lv_has lsA' nL ((n, zv w) :: (zlv 0 ls).filter (fun q => !(q.1 == n) && (!(q.1 == n + 1) && !(q.1 + 1 == n && q.2.category == 2))))) : zLk Y nL ls' lsA' := by
  refine ⟨⟨hA.1, hA.2.1, fun q hq => ?_⟩, h2.trans (a2.trans h.2.1), fun j w' hj => ?_⟩
  · obtain ⟨j, w', h6, rfl⟩ := (zlv_mem ls' 0 q).mp hq
    by_cases hjn : j = n
    · subst hjn
      rw [h4] at h6
      cases h6
      exact hA.2.2 _ (by simp)
    · obtain ⟨h7, h8⟩ := h5 j w' hjn h6
      have hj1 : j ≠ n + 1 := fun q => by rw [q, a4] at h7; cases h7
      obtain ⟨h9, -⟩ := a5 j w' hj1 h7
      refine hA.2.2 _ (List.mem_cons_of_mem _ (List.mem_filter.mpr ⟨(zlv_mem ls 0 _).mpr ⟨j, w', h9, rfl⟩, ?_⟩))
      simp only [Bool.and_eq_true, Bool.not_eq_true', beq_eq_false_iff_ne, ne_eq, Bool.and_eq_false_iff]
      refine ⟨by omega, by omega, ?_⟩
      by_cases hz : j + 1 = n
      · exact Or.inr (fun q => h8 ⟨hz, q⟩)
      · exact Or.inl (by omega)
  · by_cases hjn : j = n
    · subst hjn
      rw [h4] at hj
      cases hj
      exact hw
    · have h7 := (h5 j w' hjn hj).1
      have hj1 : j ≠ n + 1 := fun q => by rw [q, a4] at h7; cases h7
      exact h.2.2 j w' (a5 j w' hj1 h7).1
def zi_ist (n : Nat) (k : zT) : zT := fun ls st h => match st with
  | .inl x :: st' => zls ls n (some (.inl x)) (fun ls' => k ls' st' h)
  | _ => False
def zi_ast (n : Nat) (k : zT) : zT := fun ls st h => match st with
  | .inr (.inr x) :: st' => zls ls n (some (.inr (.inr x))) (fun ls' => k ls' st' h)
  | _ => False
def zi_lst (n : Nat) (k : zT) : zT := fun ls st h => match st with
  | .inr (.inl x) :: st' => zls ls (n + 1) none (fun l1 => zls l1 n (some (.inr (.inl x))) (fun ls' => k ls' st' h))
  | _ => False
theorem zr_istore {n : Nat} (O : zOK X Y cc own) (d : decode cc pc = .ok (.istore n, 2)) (hk : zSd X Y u v (pc + 2) k) : zSd X Y u v pc (zi_ist n k) := by
  intro ls st h t H locs lsA hR hL hv hS
  rcases st with _ | ⟨x | _, st⟩ <;> first | exact False.elim t | skip
  obtain ⟨ls', t', h2, h3, h4, h5⟩ := zls_spec _ _ _ _ t
  exact lv_istore O.1 O.2.1 d hL.1 (hL.2.1 ▸ h3) rfl (fun lsA' hA => hk _ _ _ t' H locs lsA' hR (zLk_set1 hL (zq1 hv).1 h2 h4 h5 hA) (zq1 hv).2 hS)
theorem zr_istore_n {n : Nat} {j : Fin 4} (O : zOK X Y cc own) (d : decode cc pc = .ok (.istore_n j, 1)) (hj : (j : Nat) = n) (hk : zSd X Y u v (pc + 1) k) : zSd X Y u v pc (zi_ist n k) := by
  intro ls st h t H locs lsA hR hL hv hS
  rcases st with _ | ⟨x | _, st⟩ <;> first | exact False.elim t | skip
  obtain ⟨ls', t', h2, h3, h4, h5⟩ := zls_spec _ _ _ _ t
  exact lv_istore_n O.1 O.2.1 d hj hL.1 (hL.2.1 ▸ h3) rfl (fun lsA' hA => hk _ _ _ t' H locs lsA' hR (zLk_set1 hL (zq1 hv).1 h2 h4 h5 hA) (zq1 hv).2 hS)
theorem zr_astore {n : Nat} (O : zOK X Y cc own) (d : decode cc pc = .ok (.astore n, 2)) (hk : zSd X Y u v (pc + 2) k) : zSd X Y u v pc (zi_ast n k) := by
  intro ls st h t H locs lsA hR hL hv hS
  rcases st with _ | ⟨_ | _ | x, st⟩ <;> first | exact False.elim t | skip
  obtain ⟨ls', t', h2, h3, h4, h5⟩ := zls_spec _ _ _ _ t
  exact lv_astore O.1 O.2.1 d hL.1 (hL.2.1 ▸ h3) rfl (fun lsA' hA => hk _ _ _ t' H locs lsA' hR (zLk_set1 hL (zq1 hv).1 h2 h4 h5 hA) (zq1 hv).2 hS)
theorem zr_astore_n {n : Nat} {j : Fin 4} (O : zOK X Y cc own) (d : decode cc pc = .ok (.astore_n j, 1)) (hj : (j : Nat) = n) (hk : zSd X Y u v (pc + 1) k) : zSd X Y u v pc (zi_ast n k) := by
  intro ls st h t H locs lsA hR hL hv hS
  rcases st with _ | ⟨_ | _ | x, st⟩ <;> first | exact False.elim t | skip
  obtain ⟨ls', t', h2, h3, h4, h5⟩ := zls_spec _ _ _ _ t
  exact lv_astore_n O.1 O.2.1 d hj hL.1 (hL.2.1 ▸ h3) rfl (fun lsA' hA => hk _ _ _ t' H locs lsA' hR (zLk_set1 hL (zq1 hv).1 h2 h4 h5 hA) (zq1 hv).2 hS)
theorem zr_lstore {n : Nat} (O : zOK X Y cc own) (d : decode cc pc = .ok (.lstore n, 2)) (hk : zSd X Y u v (pc + 2) k) : zSd X Y u v pc (zi_lst n k) := by
  intro ls st h t H locs lsA hR hL hv hS
  rcases st with _ | ⟨_ | x | _, st⟩ <;> first | exact False.elim t | skip
  obtain ⟨l1, t1, a2, a3, a4, a5⟩ := zls_spec _ _ _ _ t
  obtain ⟨ls', t', h2, h3, h4, h5⟩ := zls_spec _ _ _ _ t1
  exact lv_lstore O.1 O.2.1 d hL.1 (hL.2.1 ▸ a3) rfl (fun lsA' hA => hk _ _ _ t' H locs lsA' hR (zLk_set2 hL (zq1 hv).1 a2 a4 a5 h2 h4 h5 hA) (zq1 hv).2 hS)
theorem zr_lstore_n {n : Nat} {j : Fin 4} (O : zOK X Y cc own) (d : decode cc pc = .ok (.lstore_n j, 1)) (hj : (j : Nat) = n) (hk : zSd X Y u v (pc + 1) k) : zSd X Y u v pc (zi_lst n k) := by
  intro ls st h t H locs lsA hR hL hv hS
  rcases st with _ | ⟨_ | x | _, st⟩ <;> first | exact False.elim t | skip
  obtain ⟨l1, t1, a2, a3, a4, a5⟩ := zls_spec _ _ _ _ t
  obtain ⟨ls', t', h2, h3, h4, h5⟩ := zls_spec _ _ _ _ t1
  exact lv_lstore_n O.1 O.2.1 d hj hL.1 (hL.2.1 ▸ a3) rfl (fun lsA' hA => hk _ _ _ t' H locs lsA' hR (zLk_set2 hL (zq1 hv).1 a2 a4 a5 h2 h4 h5 hA) (zq1 hv).2 hS)
def zi_inc (n : Nat) (c : Int32) (k : zT) : zT := fun ls st h => match zlg ls n with
  | some (.inl x) => zls ls n (some (.inl (x + c))) (fun ls' => k ls' st h)
  | _ => False
theorem zr_iinc {n : Nat} {z : Int} {c : Int32} (O : zOK X Y cc own) (d : decode cc pc = .ok (.iinc n z, 3)) (hc : Int32.ofInt z = c) (hk : zSd X Y u v (pc + 3) k) : zSd X Y u v pc (zi_inc n c k) := by
  intro ls st h t H locs lsA hR hL hv hS
  unfold zi_inc at t
  split at t
  · rename_i x hx
    obtain ⟨ls', t', h2, h3, h4, h5⟩ := zls_spec _ _ _ _ t
    have hm : (n, zv (.inl x)) ∈ zlv 0 ls := (zlv_mem ls 0 _).mpr ⟨n, _, zlg_at ls n _ hx, by simp⟩
    obtain ⟨kk, hkk⟩ := List.getElem?_of_mem hm
    subst hc
    exact lv_iinc (x := x) (v := x + Int32.ofInt z) O.1 O.2.1 d hL.1 hkk rfl (hL.2.1 ▸ h3) rfl (fun lsA' hA => hk _ _ _ t' H locs lsA' hR (zLk_set1 (w := .inl (x + Int32.ofInt z)) hL trivial h2 h4 h5 hA) hv hS)
  · exact t.elim
/-- a constant on the stack -/
def zi_c (x : Int32) (k : zT) : zT := fun ls st h => k ls (.inl x :: st) h
def zi_cl (x : Int64) (k : zT) : zT := fun ls st h => k ls (.inr (.inl x) :: st) h
theorem zr_iconst {n : Int} {x : Int32} (O : zOK X Y cc own) (d : decode cc pc = .ok (.iconst n, 1)) (hx : Int32.ofInt n = x) (hk : zSd X Y u v (pc + 1) k) : zSd X Y u v pc (zi_c x k) := fun ls st h t H locs lsA hR hL hv hS =>
  lv_iconst O.1 O.2.1 d hx (hk _ _ _ t H locs lsA hR hL (zqc trivial hv) hS)
theorem zr_bipush {n : Int} {x : Int32} (O : zOK X Y cc own) (d : decode cc pc = .ok (.bipush n, 2)) (hx : (Int8.ofInt n).toInt32 = x) (hk : zSd X Y u v (pc + 2) k) : zSd X Y u v pc (zi_c x k) := fun ls st h t H locs lsA hR hL hv hS =>
  lv_bipush O.1 O.2.1 d hx (hk _ _ _ t H locs lsA hR hL (zqc trivial hv) hS)
theorem zr_sipush {n : Int} {x : Int32} (O : zOK X Y cc own) (d : decode cc pc = .ok (.sipush n, 3)) (hx : (Int16.ofInt n).toInt32 = x) (hk : zSd X Y u v (pc + 3) k) : zSd X Y u v pc (zi_c x k) := fun ls st h t H locs lsA hR hL hv hS =>
  lv_sipush O.1 O.2.1 d hx (hk _ _ _ t H locs lsA hR hL (zqc trivial hv) hS)
theorem zr_lconst {n : Fin 2} {x : Int64} (O : zOK X Y cc own) (d : decode cc pc = .ok (.lconst n, 1)) (hx : Int64.ofNat (n : Nat) = x) (hk : zSd X Y u v (pc + 1) k) : zSd X Y u v pc (zi_cl x k) := fun ls st h t H locs lsA hR hL hv hS =>
  lv_lconst O.1 O.2.1 d hx (hk _ _ _ t H locs lsA hR hL (zqc trivial hv) hS)
theorem zr_ldc {n : Nat} {x : Int32} (O : zOK X Y cc own) (d : decode cc pc = .ok (.ldc n, 2)) (hw : Jvm.Cond.constant own n x ∈ zTW) (hk : zSd X Y u v (pc + 2) k) : zSd X Y u v pc (zi_c x k) := fun ls st h t H locs lsA hR hL hv hS =>
  lv_ldc O.1 O.2.1 O.2.2.1 (O.2.2.2.1 _ hw) d (hk _ _ _ t H locs lsA hR hL (zqc trivial hv) hS)
theorem zr_ldcw {n : Nat} {x : Int32} (O : zOK X Y cc own) (d : decode cc pc = .ok (.ldc_w n, 3)) (hw : Jvm.Cond.constant own n x ∈ zTW) (hk : zSd X Y u v (pc + 3) k) : zSd X Y u v pc (zi_c x k) := fun ls st h t H locs lsA hR hL hv hS =>
  lv_ldcw O.1 O.2.1 O.2.2.1 (O.2.2.2.1 _ hw) d (hk _ _ _ t H locs lsA hR hL (zqc trivial hv) hS)
theorem zr_ldc2 {n : Nat} {x : Int64} (O : zOK X Y cc own) (d : decode cc pc = .ok (.ldc2_w n, 3)) (hw : Jvm.Cond.constantLong own n x ∈ zTW) (hk : zSd X Y u v (pc + 3) k) : zSd X Y u v pc (zi_cl x k) := fun ls st h t H locs lsA hR hL hv hS =>
  lv_ldc2 O.1 O.2.1 O.2.2.1 (O.2.2.2.1 _ hw) d (hk _ _ _ t H locs lsA hR hL (zqc trivial hv) hS)
def zi_iadd (k : zT) : zT := fun ls st h => match st with
  | .inl y :: .inl x :: st' => k ls (.inl (x + y) :: st') h
  | _ => False
theorem zr_iadd (O : zOK X Y cc own) (d : decode cc pc = .ok (.iadd, 1)) (hk : zSd X Y u v (pc + 1) k) : zSd X Y u v pc (zi_iadd k) := by
  intro ls st h t H locs lsA hR hL hv hS
  rcases st with _ | ⟨y | _, _ | ⟨x | _, st⟩⟩ <;> first | exact False.elim t | skip
  exact lv_iadd O.1 O.2.1 d (hk _ _ _ t H locs lsA hR hL (zqc trivial (zq2 hv)) hS)
def zi_isub (k : zT) : zT := fun ls st h => match st with
  | .inl y :: .inl x :: st' => k ls (.inl (x - y) :: st') h
  | _ => False
theorem zr_isub (O : zOK X Y cc own) (d : decode cc pc = .ok (.isub, 1)) (hk : zSd X Y u v (pc + 1) k) : zSd X Y u v pc (zi_isub k) := by
  intro ls st h t H locs lsA hR hL hv hS
  rcases st with _ | ⟨y | _, _ | ⟨x | _, st⟩⟩ <;> first | exact False.elim t | skip
  exact lv_isub O.1 O.2.1 d (hk _ _ _ t H locs lsA hR hL (zqc trivial (zq2 hv)) hS)
def zi_imul (k : zT) : zT := fun ls st h => match st with
  | .inl y :: .inl x :: st' => k ls (.inl (x * y) :: st') h
  | _ => False
theorem zr_imul (O : zOK X Y cc own) (d : decode cc pc = .ok (.imul, 1)) (hk : zSd X Y u v (pc + 1) k) : zSd X Y u v pc (zi_imul k) := by
  intro ls st h t H locs lsA hR hL hv hS
  rcases st with _ | ⟨y | _, _ | ⟨x | _, st⟩⟩ <;> first | exact False.elim t | skip
  exact lv_imul O.1 O.2.1 d (hk _ _ _ t H locs lsA hR hL (zqc trivial (zq2 hv)) hS)
def zi_iand (k : zT) : zT := fun ls st h => match st with
  | .inl y :: .inl x :: st' => k ls (.inl (x &&& y) :: st') h
  | _ => False
theorem zr_iand (O : zOK X Y cc own) (d : decode cc pc = .ok (.iand, 1)) (hk : zSd X Y u v (pc + 1) k) : zSd X Y u v pc (zi_iand k) := by
  intro ls st h t H locs lsA hR hL hv hS
  rcases st with _ | ⟨y | _, _ | ⟨x | _, st⟩⟩ <;> first | exact False.elim t | skip
  exact lv_iand O.1 O.2.1 d (hk _ _ _ t H locs lsA hR hL (zqc trivial (zq2 hv)) hS)
def zi_ior (k : zT) : zT := fun ls st h => match st with
  | .inl y :: .inl x :: st' => k ls (.inl (x ||| y) :: st') h
  | _ => False
theorem zr_ior (O : zOK X Y cc own) (d : decode cc pc = .ok (.ior, 1)) (hk : zSd X Y u v (pc + 1) k) : zSd X Y u v pc (zi_ior k) := by
  intro ls st h t H locs lsA hR hL hv hS
  rcases st with _ | ⟨y | _, _ | ⟨x | _, st⟩⟩ <;> first | exact False.elim t | skip
  exact lv_ior O.1 O.2.1 d (hk _ _ _ t H locs lsA hR hL (zqc trivial (zq2 hv)) hS)
def zi_ixor (k : zT) : zT := fun ls st h => match st with
  | .inl y :: .inl x :: st' => k ls (.inl (x ^^^ y) :: st') h
  | _ => False
theorem zr_ixor (O : zOK X Y cc own) (d : decode cc pc = .ok (.ixor, 1)) (hk : zSd X Y u v (pc + 1) k) : zSd X Y u v pc (zi_ixor k) := by
  intro ls st h t H locs lsA hR hL hv hS
  rcases st with _ | ⟨y | _, _ | ⟨x | _, st⟩⟩ <;> first | exact False.elim t | skip
  exact lv_ixor O.1 O.2.1 d (hk _ _ _ t H locs lsA hR hL (zqc trivial (zq2 hv)) hS)
def zi_ishl (k : zT) : zT := fun ls st h => match st with
  | .inl y :: .inl x :: st' => k ls (.inl (x <<< (y &&& 31)) :: st') h
  | _ => False
theorem zr_ishl (O : zOK X Y cc own) (d : decode cc pc = .ok (.ishl, 1)) (hk : zSd X Y u v (pc + 1) k) : zSd X Y u v pc (zi_ishl k) := by
  intro ls st h t H locs lsA hR hL hv hS
  rcases st with _ | ⟨y | _, _ | ⟨x | _, st⟩⟩ <;> first | exact False.elim t | skip
  exact lv_ishl O.1 O.2.1 d (hk _ _ _ t H locs lsA hR hL (zqc trivial (zq2 hv)) hS)
def zi_ishr (k : zT) : zT := fun ls st h => match st with
  | .inl y :: .inl x :: st' => k ls (.inl (x >>> (y &&& 31)) :: st') h
  | _ => False
theorem zr_ishr (O : zOK X Y cc own) (d : decode cc pc = .ok (.ishr, 1)) (hk : zSd X Y u v (pc + 1) k) : zSd X Y u v pc (zi_ishr k) := by
  intro ls st h t H locs lsA hR hL hv hS
  rcases st with _ | ⟨y | _, _ | ⟨x | _, st⟩⟩ <;> first | exact False.elim t | skip
  exact lv_ishr O.1 O.2.1 d (hk _ _ _ t H locs lsA hR hL (zqc trivial (zq2 hv)) hS)
def zi_idiv (k : zT) : zT := fun ls st h => match st with
  | .inl y :: .inl x :: st' => ¬ y = 0 ∧ k ls (.inl (x / y) :: st') h
  | _ => False
theorem zr_idiv (O : zOK X Y cc own) (d : decode cc pc = .ok (.idiv, 1)) (hk : zSd X Y u v (pc + 1) k) : zSd X Y u v pc (zi_idiv k) := by
  intro ls st h t H locs lsA hR hL hv hS
  rcases st with _ | ⟨y | _, _ | ⟨x | _, st⟩⟩ <;> first | exact False.elim t | skip
  exact lv_idiv O.1 O.2.1 d t.1 (hk _ _ _ t.2 H locs lsA hR hL (zqc trivial (zq2 hv)) hS)
def zi_irem (k : zT) : zT := fun ls st h => match st with
  | .inl y :: .inl x :: st' => ¬ y = 0 ∧ k ls (.inl (x - x / y * y) :: st') h
  | _ => False
theorem zr_irem (O : zOK X Y cc own) (d : decode cc pc = .ok (.irem, 1)) (hk : zSd X Y u v (pc + 1) k) : zSd X Y u v pc (zi_irem k) := by
  intro ls st h t H locs lsA hR hL hv hS
  rcases st with _ | ⟨y | _, _ | ⟨x | _, st⟩⟩ <;> first | exact False.elim t | skip
  exact lv_irem O.1 O.2.1 d t.1 (hk _ _ _ t.2 H locs lsA hR hL (zqc trivial (zq2 hv)) hS)
def zi_ladd (k : zT) : zT := fun ls st h => match st with
  | .inr (.inl y) :: .inr (.inl x) :: st' => k ls (.inr (.inl (x + y)) :: st') h
  | _ => False
theorem zr_ladd (O : zOK X Y cc own) (d : decode cc pc = .ok (.ladd, 1)) (hk : zSd X Y u v (pc + 1) k) : zSd X Y u v pc (zi_ladd k) := by
  intro ls st h t H locs lsA hR hL hv hS
  rcases st with _ | ⟨_ | y | _, _ | ⟨_ | x | _, st⟩⟩ <;> first | exact False.elim t | skip
  exact lv_ladd O.1 O.2.1 d (hk _ _ _ t H locs lsA hR hL (zqc trivial (zq2 hv)) hS)
def zi_lsub (k : zT) : zT := fun ls st h => match st with
  | .inr (.inl y) :: .inr (.inl x) :: st' => k ls (.inr (.inl (x - y)) :: st') h
  | _ => False
theorem zr_lsub (O : zOK X Y cc own) (d : decode cc pc = .ok (.lsub, 1)) (hk : zSd X Y u v (pc + 1) k) : zSd X Y u v pc (zi_lsub k) := by
  intro ls st h t H locs lsA hR hL hv hS
  rcases st with _ | ⟨_ | y | _, _ | ⟨_ | x | _, st⟩⟩ <;> first | exact False.elim t | skip
  exact lv_lsub O.1 O.2.1 d (hk _ _ _ t H locs lsA hR hL (zqc trivial (zq2 hv)) hS)
def zi_lmul (k : zT) : zT := fun ls st h => match st with
  | .inr (.inl y) :: .inr (.inl x) :: st' => k ls (.inr (.inl (x * y)) :: st') h
  | _ => False
theorem zr_lmul (O : zOK X Y cc own) (d : decode cc pc = .ok (.lmul, 1)) (hk : zSd X Y u v (pc + 1) k) : zSd X Y u v pc (zi_lmul k) := by
  intro ls st h t H locs lsA hR hL hv hS
  rcases st with _ | ⟨_ | y | _, _ | ⟨_ | x | _, st⟩⟩ <;> first | exact False.elim t | skip
  exact lv_lmul O.1 O.2.1 d (hk _ _ _ t H locs lsA hR hL (zqc trivial (zq2 hv)) hS)
def zi_lcmp (k : zT) : zT := fun ls st h => match st with
  | .inr (.inl y) :: .inr (.inl x) :: st' => k ls (.inl (lg_cmp x y) :: st') h
  | _ => False
theorem zr_lcmp (O : zOK X Y cc own) (d : decode cc pc = .ok (.lcmp, 1)) (hk : zSd X Y u v (pc + 1) k) : zSd X Y u v pc (zi_lcmp k) := by
  intro ls st h t H locs lsA hR hL hv hS
  rcases st with _ | ⟨_ | y | _, _ | ⟨_ | x | _, st⟩⟩ <;> first | exact False.elim t | skip
  exact W.lcmp O.1 O.2.1 d (hk _ _ _ t H locs lsA hR hL (zqc trivial (zq2 hv)) hS)
def zi_lshl (k : zT) : zT := fun ls st h => match st with
  | .inl y :: .inr (.inl x) :: st' => k ls (.inr (.inl (x <<< (y.toInt64 &&& 63))) :: st') h
  | _ => False
theorem zr_lshl (O : zOK X Y cc own) (d : decode cc pc = .ok (.lshl, 1)) (hk : zSd X Y u v (pc + 1) k) : zSd X Y u v pc (zi_lshl k) := by
  intro ls st h t H locs lsA hR hL hv hS
  rcases st with _ | ⟨y | _, _ | ⟨_ | x | _, st⟩⟩ <;> first | exact False.elim t | skip
  exact lv_lshl O.1 O.2.1 d rfl (hk _ _ _ t H locs lsA hR hL (zqc trivial (zq2 hv)) hS)
def zi_ineg (k : zT) : zT := fun ls st h => match st with
  | .inl x :: st' => k ls (.inl (-x) :: st') h
  | _ => False
theorem zr_ineg (O : zOK X Y cc own) (d : decode cc pc = .ok (.ineg, 1)) (hk : zSd X Y u v (pc + 1) k) : zSd X Y u v pc (zi_ineg k) := by
  intro ls st h t H locs lsA hR hL hv hS
  rcases st with _ | ⟨x | _, st⟩ <;> first | exact False.elim t | skip
  exact lv_ineg O.1 O.2.1 d (hk _ _ _ t H locs lsA hR hL (zqc trivial (zq1 hv).2) hS)
def zi_i2l (k : zT) : zT := fun ls st h => match st with
  | .inl x :: st' => k ls (.inr (.inl x.toInt64) :: st') h
  | _ => False
theorem zr_i2l (O : zOK X Y cc own) (d : decode cc pc = .ok (.i2l, 1)) (hk : zSd X Y u v (pc + 1) k) : zSd X Y u v pc (zi_i2l k) := by
  intro ls st h t H locs lsA hR hL hv hS
  rcases st with _ | ⟨x | _, st⟩ <;> first | exact False.elim t | skip
  exact lv_i2l O.1 O.2.1 d rfl (hk _ _ _ t H locs lsA hR hL (zqc trivial (zq1 hv).2) hS)
def zi_i2b (k : zT) : zT := fun ls st h => match st with
  | .inl x :: st' => k ls (.inl x.toInt8.toInt32 :: st') h
  | _ => False
theorem zr_i2b (O : zOK X Y cc own) (d : decode cc pc = .ok (.i2b, 1)) (hk : zSd X Y u v (pc + 1) k) : zSd X Y u v pc (zi_i2b k) := by
  intro ls st h t H locs lsA hR hL hv hS
  rcases st with _ | ⟨x | _, st⟩ <;> first | exact False.elim t | skip
  exact lv_i2b O.1 O.2.1 d rfl (hk _ _ _ t H locs lsA hR hL (zqc trivial (zq1 hv).2) hS)
def zi_lneg (k : zT) : zT := fun ls st h => match st with
  | .inr (.inl x) :: st' => k ls (.inr (.inl (-x)) :: st') h
  | _ => False
theorem zr_lneg (O : zOK X Y cc own) (d : decode cc pc = .ok (.lneg, 1)) (hk : zSd X Y u v (pc + 1) k) : zSd X Y u v pc (zi_lneg k) := by
  intro ls st h t H locs lsA hR hL hv hS
  rcases st with _ | ⟨_ | x | _, st⟩ <;> first | exact False.elim t | skip
  exact lv_lneg O.1 O.2.1 d (hk _ _ _ t H locs lsA hR hL (zqc trivial (zq1 hv).2) hS)
theorem zcat1 {q : zV} (h : ∀ x : Int64, q ≠ .inr (.inl x)) : (zv q).category = 1 := by
  rcases q with x | x | x
  · rfl
  · exact absurd rfl (h x)
  · rfl
def zi_dup (k : zT) : zT := fun ls st h => match st with
  | .inl x :: st' => k ls (.inl x :: .inl x :: st') h
  | .inr (.inr x) :: st' => k ls (.inr (.inr x) :: .inr (.inr x) :: st') h
  | _ => False
theorem zr_dup (O : zOK X Y cc own) (d : decode cc pc = .ok (.dup, 1)) (hk : zSd X Y u v (pc + 1) k) : zSd X Y u v pc (zi_dup k) := by
  intro ls st h t H locs lsA hR hL hv hS
  rcases st with _ | ⟨x | x | x, st⟩
  · exact False.elim t
  · exact lv_dup O.1 O.2.1 d rfl (hk _ _ _ t H locs lsA hR hL (zqc (zq1 hv).1 hv) hS)
  · exact False.elim t
  · exact lv_dup O.1 O.2.1 d rfl (hk _ _ _ t H locs lsA hR hL (zqc (zq1 hv).1 hv) hS)
def zi_pop (k : zT) : zT := fun ls st h => match st with
  | .inl _ :: st' => k ls st' h
  | .inr (.inr _) :: st' => k ls st' h
  | _ => False
theorem zr_pop (O : zOK X Y cc own) (d : decode cc pc = .ok (.pop, 1)) (hk : zSd X Y u v (pc + 1) k) : zSd X Y u v pc (zi_pop k) := by
  intro ls st h t H locs lsA hR hL hv hS
  rcases st with _ | ⟨x | x | x, st⟩
  · exact False.elim t
  · exact lv_pop O.1 O.2.1 d rfl (hk _ _ _ t H locs lsA hR hL (zq1 hv).2 hS)
  · exact False.elim t
  · exact lv_pop O.1 O.2.1 d rfl (hk _ _ _ t H locs lsA hR hL (zq1 hv).2 hS)
/-- a reference and an index, twice -/
def zi_dup2 (k : zT) : zT := fun ls st h => match st with
  | .inl x :: .inr (.inr y) :: st' => k ls (.inl x :: .inr (.inr y) :: .inl x :: .inr (.inr y) :: st') h
  | _ => False
theorem zr_dup2 (O : zOK X Y cc own) (d : decode cc pc = .ok (.dup2, 1)) (hk : zSd X Y u v (pc + 1) k) : zSd X Y u v pc (zi_dup2 k) := by
  intro ls st h t H locs lsA hR hL hv hS
  rcases st with _ | ⟨x | _, _ | ⟨_ | _ | y, st⟩⟩ <;> first | exact False.elim t | skip
  exact lv_dup2_11 O.1 O.2.1 d rfl rfl (hk _ _ _ t H locs lsA hR hL (zqc (zq1 hv).1 (zqc (zq1 (zq1 hv).2).1 hv)) hS)
def zi_ifeq (k k2 : zT) : zT := fun ls st h => match st with
  | .inl x :: st' => (x = 0 → k ls st' h) ∧ (¬ x = 0 → k2 ls st' h)
  | _ => False
theorem zr_ifeq {off : Int} {tgt : Nat} (O : zOK X Y cc own) (d : decode cc pc = .ok (.ifCond .eq off, 3)) (ht : (pc : Int) + off = (tgt : Int)) (hk : zSd X Y u v tgt k) (hk2 : zSd X Y u v (pc + 3) k2) : zSd X Y u v pc (zi_ifeq k k2) := by
  intro ls st h t H locs lsA hR hL hv hS
  rcases st with _ | ⟨x | _, st⟩ <;> first | exact False.elim t | skip
  exact lv_if_eq O.1 O.2.1 d ht (fun c => hk _ _ _ (t.1 c) H locs lsA hR hL (zq1 hv).2 hS) (fun c => hk2 _ _ _ (t.2 c) H locs lsA hR hL (zq1 hv).2 hS)
def zi_ifne (k k2 : zT) : zT := fun ls st h => match st with
  | .inl x :: st' => (¬ x = 0 → k ls st' h) ∧ (x = 0 → k2 ls st' h)
  | _ => False
theorem zr_ifne {off : Int} {tgt : Nat} (O : zOK X Y cc own) (d : decode cc pc = .ok (.ifCond .ne off, 3)) (ht : (pc : Int) + off = (tgt : Int)) (hk : zSd X Y u v tgt k) (hk2 : zSd X Y u v (pc + 3) k2) : zSd X Y u v pc (zi_ifne k k2) := by
  intro ls st h t H locs lsA hR hL hv hS
  rcases st with _ | ⟨x | _, st⟩ <;> first | exact False.elim t | skip
  exact lv_if_ne O.1 O.2.1 d ht (fun c => hk _ _ _ (t.1 c) H locs lsA hR hL (zq1 hv).2 hS) (fun c => hk2 _ _ _ (t.2 c) H locs lsA hR hL (zq1 hv).2 hS)
def zi_iflt (k k2 : zT) : zT := fun ls st h => match st with
  | .inl x :: st' => (x < 0 → k ls st' h) ∧ (¬ x < 0 → k2 ls st' h)
  | _ => False
theorem zr_iflt {off : Int} {tgt : Nat} (O : zOK X Y cc own) (d : decode cc pc = .ok (.ifCond .lt off, 3)) (ht : (pc : Int) + off = (tgt : Int)) (hk : zSd X Y u v tgt k) (hk2 : zSd X Y u v (pc + 3) k2) : zSd X Y u v pc (zi_iflt k k2) := by
  intro ls st h t H locs lsA hR hL hv hS
  rcases st with _ | ⟨x | _, st⟩ <;> first | exact False.elim t | skip
  exact lv_if_lt O.1 O.2.1 d ht (fun c => hk _ _ _ (t.1 c) H locs lsA hR hL (zq1 hv).2 hS) (fun c => hk2 _ _ _ (t.2 c) H locs lsA hR hL (zq1 hv).2 hS)
def zi_ifge (k k2 : zT) : zT := fun ls st h => match st with
  | .inl x :: st' => (0 ≤ x → k ls st' h) ∧ (¬ 0 ≤ x → k2 ls st' h)
  | _ => False
theorem zr_ifge {off : Int} {tgt : Nat} (O : zOK X Y cc own) (d : decode cc pc = .ok (.ifCond .ge off, 3)) (ht : (pc : Int) + off = (tgt : Int)) (hk : zSd X Y u v tgt k) (hk2 : zSd X Y u v (pc + 3) k2) : zSd X Y u v pc (zi_ifge k k2) := by
  intro ls st h t H locs lsA hR hL hv hS
  rcases st with _ | ⟨x | _, st⟩ <;> first | exact False.elim t | skip
  exact lv_if_ge O.1 O.2.1 d ht (fun c => hk _ _ _ (t.1 c) H locs lsA hR hL (zq1 hv).2 hS) (fun c => hk2 _ _ _ (t.2 c) H locs lsA hR hL (zq1 hv).2 hS)
def zi_ifgt (k k2 : zT) : zT := fun ls st h => match st with
  | .inl x :: st' => (0 < x → k ls st' h) ∧ (¬ 0 < x → k2 ls st' h)
  | _ => False
theorem zr_ifgt {off : Int} {tgt : Nat} (O : zOK X Y cc own) (d : decode cc pc = .ok (.ifCond .gt off, 3)) (ht : (pc : Int) + off = (tgt : Int)) (hk : zSd X Y u v tgt k) (hk2 : zSd X Y u v (pc + 3) k2) : zSd X Y u v pc (zi_ifgt k k2) := by
  intro ls st h t H locs lsA hR hL hv hS
  rcases st with _ | ⟨x | _, st⟩ <;> first | exact False.elim t | skip
  exact lv_if_gt O.1 O.2.1 d ht (fun c => hk _ _ _ (t.1 c) H locs lsA hR hL (zq1 hv).2 hS) (fun c => hk2 _ _ _ (t.2 c) H locs lsA hR hL (zq1 hv).2 hS)
def zi_ifle (k k2 : zT) : zT := fun ls st h => match st with
  | .inl x :: st' => (x ≤ 0 → k ls st' h) ∧ (¬ x ≤ 0 → k2 ls st' h)
  | _ => False
theorem zr_ifle {off : Int} {tgt : Nat} (O : zOK X Y cc own) (d : decode cc pc = .ok (.ifCond .le off, 3)) (ht : (pc : Int) + off = (tgt : Int)) (hk : zSd X Y u v tgt k) (hk2 : zSd X Y u v (pc + 3) k2) : zSd X Y u v pc (zi_ifle k k2) := by
  intro ls st h t H locs lsA hR hL hv hS
  rcases st with _ | ⟨x | _, st⟩ <;> first | exact False.elim t | skip
  exact lv_if_le O.1 O.2.1 d ht (fun c => hk _ _ _ (t.1 c) H locs lsA hR hL (zq1 hv).2 hS) (fun c => hk2 _ _ _ (t.2 c) H locs lsA hR hL (zq1 hv).2 hS)
def zi_iceq (k k2 : zT) : zT := fun ls st h => match st with
  | .inl y :: .inl x :: st' => (x = y → k ls st' h) ∧ (¬ x = y → k2 ls st' h)
  | _ => False
theorem zr_iceq {off : Int} {tgt : Nat} (O : zOK X Y cc own) (d : decode cc pc = .ok (.if_icmp .eq off, 3)) (ht : (pc : Int) + off = (tgt : Int)) (hk : zSd X Y u v tgt k) (hk2 : zSd X Y u v (pc + 3) k2) : zSd X Y u v pc (zi_iceq k k2) := by
  intro ls st h t H locs lsA hR hL hv hS
  rcases st with _ | ⟨y | _, _ | ⟨x | _, st⟩⟩ <;> first | exact False.elim t | skip
  exact lv_icmp_eq O.1 O.2.1 d ht (fun c => hk _ _ _ (t.1 c) H locs lsA hR hL (zq2 hv) hS) (fun c => hk2 _ _ _ (t.2 c) H locs lsA hR hL (zq2 hv) hS)
def zi_icne (k k2 : zT) : zT := fun ls st h => match st with
  | .inl y :: .inl x :: st' => (¬ x = y → k ls st' h) ∧ (x = y → k2 ls st' h)
  | _ => False
theorem zr_icne {off : Int} {tgt : Nat} (O : zOK X Y cc own) (d : decode cc pc = .ok (.if_icmp .ne off, 3)) (ht : (pc : Int) + off = (tgt : Int)) (hk : zSd X Y u v tgt k) (hk2 : zSd X Y u v (pc + 3) k2) : zSd X Y u v pc (zi_icne k k2) := by
  intro ls st h t H locs lsA hR hL hv hS
  rcases st with _ | ⟨y | _, _ | ⟨x | _, st⟩⟩ <;> first | exact False.elim t | skip
  exact lv_icmp_ne O.1 O.2.1 d ht (fun c => hk _ _ _ (t.1 c) H locs lsA hR hL (zq2 hv) hS) (fun c => hk2 _ _ _ (t.2 c) H locs lsA hR hL (zq2 hv) hS)
def zi_iclt (k k2 : zT) : zT := fun ls st h => match st with
  | .inl y :: .inl x :: st' => (x < y → k ls st' h) ∧ (¬ x < y → k2 ls st' h)
  | _ => False
theorem zr_iclt {off : Int} {tgt : Nat} (O : zOK X Y cc own) (d : decode cc pc = .ok (.if_icmp .lt off, 3)) (ht : (pc : Int) + off = (tgt : Int)) (hk : zSd X Y u v tgt k) (hk2 : zSd X Y u v (pc + 3) k2) : zSd X Y u v pc (zi_iclt k k2) := by
  intro ls st h t H locs lsA hR hL hv hS
  rcases st with _ | ⟨y | _, _ | ⟨x | _, st⟩⟩ <;> first | exact False.elim t | skip
  exact lv_icmp_lt O.1 O.2.1 d ht (fun c => hk _ _ _ (t.1 c) H locs lsA hR hL (zq2 hv) hS) (fun c => hk2 _ _ _ (t.2 c) H locs lsA hR hL (zq2 hv) hS)
def zi_icge (k k2 : zT) : zT := fun ls st h => match st with
  | .inl y :: .inl x :: st' => (y ≤ x → k ls st' h) ∧ (¬ y ≤ x → k2 ls st' h)
  | _ => False
theorem zr_icge {off : Int} {tgt : Nat} (O : zOK X Y cc own) (d : decode cc pc = .ok (.if_icmp .ge off, 3)) (ht : (pc : Int) + off = (tgt : Int)) (hk : zSd X Y u v tgt k) (hk2 : zSd X Y u v (pc + 3) k2) : zSd X Y u v pc (zi_icge k k2) := by
  intro ls st h t H locs lsA hR hL hv hS
  rcases st with _ | ⟨y | _, _ | ⟨x | _, st⟩⟩ <;> first | exact False.elim t | skip
  exact lv_icmp_ge O.1 O.2.1 d ht (fun c => hk _ _ _ (t.1 c) H locs lsA hR hL (zq2 hv) hS) (fun c => hk2 _ _ _ (t.2 c) H locs lsA hR hL (zq2 hv) hS)
def zi_icgt (k k2 : zT) : zT := fun ls st h => match st with
  | .inl y :: .inl x :: st' => (y < x → k ls st' h) ∧ (¬ y < x → k2 ls st' h)
  | _ => False
theorem zr_icgt {off : Int} {tgt : Nat} (O : zOK X Y cc own) (d : decode cc pc = .ok (.if_icmp .gt off, 3)) (ht : (pc : Int) + off = (tgt : Int)) (hk : zSd X Y u v tgt k) (hk2 : zSd X Y u v (pc + 3) k2) : zSd X Y u v pc (zi_icgt k k2) := by
  intro ls st h t H locs lsA hR hL hv hS
  rcases st with _ | ⟨y | _, _ | ⟨x | _, st⟩⟩ <;> first | exact False.elim t | skip
  exact lv_icmp_gt O.1 O.2.1 d ht (fun c => hk _ _ _ (t.1 c) H locs lsA hR hL (zq2 hv) hS) (fun c => hk2 _ _ _ (t.2 c) H locs lsA hR hL (zq2 hv) hS)
def zi_icle (k k2 : zT) : zT := fun ls st h => match st with
  | .inl y :: .inl x :: st' => (x ≤ y → k ls st' h) ∧ (¬ x ≤ y → k2 ls st' h)
  | _ => False
theorem zr_icle {off : Int} {tgt : Nat} (O : zOK X Y cc own) (d : decode cc pc = .ok (.if_icmp .le off, 3)) (ht : (pc : Int) + off = (tgt : Int)) (hk : zSd X Y u v tgt k) (hk2 : zSd X Y u v (pc + 3) k2) : zSd X Y u v pc (zi_icle k k2) := by
  intro ls st h t H locs lsA hR hL hv hS
  rcases st with _ | ⟨y | _, _ | ⟨x | _, st⟩⟩ <;> first | exact False.elim t | skip
  exact lv_icmp_le O.1 O.2.1 d ht (fun c => hk _ _ _ (t.1 c) H locs lsA hR hL (zq2 hv) hS) (fun c => hk2 _ _ _ (t.2 c) H locs lsA hR hL (zq2 hv) hS)
theorem zr_goto {off : Int} {tgt : Nat} (O : zOK X Y cc own) (d : decode cc pc = .ok (.goto off, 3)) (ht : (pc : Int) + off = (tgt : Int)) (hk : zSd X Y u v tgt k) : zSd X Y u v pc k := fun ls st h t H locs lsA hR hL hv hS =>
  lv_goto O.1 O.2.1 d ht (hk _ _ _ t H locs lsA hR hL hv hS)
/-- a switch: the cases from lo on, and what is outside -/
def zi_sw (lo : Int) (ks : List zT) (kd : zT) : zT := fun ls st h => match st with
  | .inl x :: st' => (∀ (j : Nat) (kj : zT), ks[j]? = some kj → x.toInt = lo + j → kj ls st' h) ∧ ((x.toInt < lo ∨ lo + ks.length ≤ x.toInt) → kd ls st' h)
  | _ => False
theorem zr_switch {df lo hi : Int} {offs : Array Int} {len tgt : Nat} {ks : List zT} {kd : zT} (O : zOK X Y cc own) (d : decode cc pc = .ok (.tableswitch df lo hi offs, len)) (hn : lo + ks.length = hi + 1) (ht : (pc : Int) + df = (tgt : Int)) (hd : zSd X Y u v tgt kd)
    (hks : ∀ (j : Nat) (kj : zT), ks[j]? = some kj → ∃ (off : Int) (t : Nat), offs[j]? = some off ∧ (pc : Int) + off = (t : Int) ∧ zSd X Y u v t kj) : zSd X Y u v pc (zi_sw lo ks kd) := by
  intro ls st h t H locs lsA hR hL hv hS
  rcases st with _ | ⟨x | _, st⟩ <;> first | exact False.elim t | skip
  by_cases h1 : x.toInt < lo
  · exact lv_tableOut O.1 O.2.1 d (Or.inl h1) ht (hd _ _ _ (t.2 (Or.inl h1)) H locs lsA hR hL (zq1 hv).2 hS)
  · by_cases h2 : hi < x.toInt
    · exact lv_tableOut O.1 O.2.1 d (Or.inr h2) ht (hd _ _ _ (t.2 (Or.inr (by omega))) H locs lsA hR hL (zq1 hv).2 hS)
    · have hj : (x.toInt - lo).toNat < ks.length := by omega
      obtain ⟨off, tg, ho, htg, hs⟩ := hks _ _ (List.getElem?_eq_getElem hj)
      exact lv_tableIn O.1 O.2.1 d h1 h2 ho htg (hs _ _ _ (t.1 _ _ (List.getElem?_eq_getElem hj) (by omega)) H locs lsA hR hL (zq1 hv).2 hS)
theorem zks_nil {α : Type} {P : Nat → α → Prop} {i : Nat} : ∀ (j : Nat) (a : α), ([] : List α)[j]? = some a → P (i + j) a := fun j a h => by simp at h
theorem zks_cons {α : Type} {P : Nat → α → Prop} {i : Nat} {a : α} {l : List α} (h : P i a) (hl : ∀ (j : Nat) (b : α), l[j]? = some b → P (i + 1 + j) b) : ∀ (j : Nat) (b : α), (a :: l)[j]? = some b → P (i + j) b := by
  intro j b hb
  cases j with
  | zero => simp at hb; subst hb; exact h
  | succ j =>
    have := hl j b (by simpa using hb)
    rwa [show i + (j + 1) = i + 1 + j by omega]
end ZB
end
section
/-! heap: updates -/
def zsI (h : zH) (a j : Nat) (x : Int32) : zH := (va_up h.1 a (va_up (h.1 a) j x), h.2)
def zsL (h : zH) (a j : Nat) (x : Int64) : zH := (h.1, va_up h.2.1 a (va_up (h.2.1 a) j x), h.2.2)
def zsR (h : zH) (a j b : Nat) : zH := (h.1, h.2.1, va_up h.2.2 a (va_up (h.2.2 a) j b))
def zsW (h : zH) (a : Nat) (f : Nat → Int32) : zH := (va_up h.1 a f, h.2)
theorem zup_s {α : Type} (f : Nat → α) (k : Nat) (x : α) : va_up f k x k = x := by simp [va_up]
theorem zup_n {α : Type} (f : Nat → α) {k j : Nat} (x : α) (h : j ≠ k) : va_up f k x j = f j := by simp [va_up, h]
theorem ztag {Y : zY} {a t t' n n' : Nat} (h : yK Y a = (t, n)) (h' : yK Y a = (t', n')) : t = t' ∧ n = n' := by
  rw [h] at h'
  cases h'
  exact ⟨rfl, rfl⟩
theorem zwr_of {t : Nat} (h : t = 1 ∨ t = 2 ∨ t = 3 ∨ t = 4 ∨ t = 5 ∨ 10 ≤ t) : zwr t := by
  unfold zwr; omega
theorem zA_of {Y : zY} {sz a t n : Nat} (h : yK Y a = (t, n)) (ht : zwr t) : zA Y sz a := Or.inl (by rw [h]; exact ht)
theorem zin_of {Y : zY} {a t n j : Nat} (hF : zWF Y) (h : yK Y a = (t, n)) (hj : j < n) : vp_in (nI j) n ∧ (nI j).toNatClampNeg = j := by
  have h1 : n < 2 ^ 31 := by have := hF.2.2 a; rw [h] at this; exact this
  exact ⟨vp_in_nI hj h1, nI_clamp (by omega)⟩
section ZH
variable {p : Program} {l : Launch} {e : Env} {R : Room} {s : State} {m : MethodId} {args : Array Value} {below : List Frame} {meth : Method} {c : Code} {H : Heap} {locs : List Loc} {cells slots : Nat} {Q : State → Prop}
variable {cc : ByteArray} {pc : Nat} {ls : Array Slot} {rest : List Value} {D : va_G} {cl : List vw_C} {A : Nat → Prop} {a : Nat} {tys : List (ClassId × FieldType)} {H0 : Heap}
theorem zq_get (hexec : p.tables.exec = Jvm.exec) (hb : c.code = cc) {own C : String} {T : u_T} {N ci index : Nat} {Ts : List Cond} (hts : ∀ w ∈ Ts, w.before args s = true) (hin : ∀ w ∈ u_ws C T N, w ∈ Ts) (hown : s.vm.findClass own = some m.cls) (hK : va_K D cl tys s) {V : Nat → Value} (hob : t_OB a (D.1 ci) N (D.2 ci) H V) (hc : cl[ci]? = some (C, T, N)) (k : Nat) (hk : k < N) (hlink : (Cond.fieldLink own index (T k).1 (T k).2.1 (T k).2.2.1).before args s = true) (hdg : decode cc pc = .ok (.getfield index, 3))
    (kk : W p l e R s m args below meth c H locs cells slots Q (F0 m (pc + 3) ls (V k :: rest))) : W p l e R s m args below meth c H locs cells slots Q (F0 m pc ls (.ref a :: rest)) := by
  obtain ⟨cell, q1, q2, q3, q4⟩ := hob
  obtain ⟨hS, hfc, kC, hkC, hkind⟩ := hK.1 ci _ hc
  obtain ⟨cf, kf, fi, f, hi, hsl⟩ := hS k hk
  refine W.getf hexec hb hown hlink hi (u_facts hfc hkC (u_lays hts hin hk) hi).1 q1 (by rw [q3]; exact fun h => by cases h) (v := V k) ?_ rfl rfl hdg kk
  rw [hsl, q4 k hk]
theorem zq_put (hexec : p.tables.exec = Jvm.exec) (hb : c.code = cc) {own C : String} {T : u_T} {N ci index : Nat} {Ts : List Cond} (hts : ∀ w ∈ Ts, w.before args s = true) (hin : ∀ w ∈ u_ws C T N, w ∈ Ts) (ty0 : Nat → FieldType) (hty : ∀ k, k < N → parseFieldDescriptor (T k).2.2.1 = some (ty0 k)) (hnm : ∀ a, a < N → ∀ b, b < N → a ≠ b → (T a).2.1 ≠ (T b).2.1) (hown : s.vm.findClass own = some m.cls) (hK : va_K D cl tys s) {V : Nat → Value} (hob : t_OB a (D.1 ci) N (D.2 ci) H V) (hS0 : va_S A H0 H locs) (hAa : A a) (hc : cl[ci]? = some (C, T, N)) (k : Nat) (hk : k < N) (hlink : (Cond.fieldLink own index (T k).1 (T k).2.1 (T k).2.2.1).before args s = true) (hfin : (T k).2.2.2 = false) {v : Value} (hn : narrow (ty0 k) v = v) (hfit : fits (ty0 k) v = true)
    (hdg : decode cc pc = .ok (.putfield index, 3)) (kk : ∀ (H1 : Heap) (locs1 : List Loc), t_OB a (D.1 ci) N (D.2 ci) H1 (updV V k v) → (∀ q : Nat, q ≠ a → H1[q]? = H[q]?) → va_S A H0 H1 locs1 → W p l e R s m args below meth c H1 locs1 cells slots Q (F0 m (pc + 3) ls rest)) : W p l e R s m args below meth c H locs cells slots Q (F0 m pc ls (v :: .ref a :: rest)) := by
  have hap := va_apart (own := own) hts hin ty0 hty hnm hK hc
  obtain ⟨cell, q1, q2, q3, q4⟩ := hob
  obtain ⟨hS, hfc, kC, hkC, hkind⟩ := hK.1 ci _ hc
  obtain ⟨cf, kf, fi, f, hi, hsl⟩ := hS k hk
  have hlay := hts _ (hin _ (u_in_lay hk))
  unfold u_lay at hlay
  rw [if_neg (by rw [hfin]; decide)] at hlay
  have hst := (u_facts hfc hkC (u_lays hts hin hk) hi).1
  have h6 := u_store hfc hkC hkind hlay hi (hty k hk) hn hfit
  refine W.putK hexec hb (f := f) ⟨hown, hlink, ⟨_, _, _, hi⟩, hst⟩ (by rw [q2]; exact h6) q1 q3 (by rw [hsl]; exact k2_hasslot (q4 k hk)) rfl rfl hdg fun H' e1 e2 e3 => ?_
  rw [hsl] at e1 ⊢
  exact kk H' _ ⟨_, e1, q2, q3, t_set q4 hap hk v⟩ e3 (hS0.put e2 e3 hAa)
theorem zq_copy (hexec : p.tables.exec = Jvm.exec) (hb : c.code = cc) (hml : c.maxLocals = ls.size) {own : String} {index : Nat} (hown : s.vm.findClass own = some m.cls) (hlink : (Cond.methodLink own index arraycopyName).before args s = true) (hnat : (Cond.native arraycopyName).before args s = true) (hstat : (Cond.static arraycopyName).before args s = true) (hini : (Cond.initialized "java/lang/System").before args s = true)
    (hS : va_S A H0 H locs) (hAa : A a) {a0 : Nat} {c0 c1 : ClassId} {n0 n1 : Nat} {f g : Nat → Int32} (hc0 : H[a0]? = some (vp_cell c0 (n0, .inl f))) (hc1 : H[a]? = some (vp_cell c1 (n1, .inl g))) (ht0 : ArrOfT s c0 .int) (ht1 : ArrOfT s c1 .int)
    {mm : Nat} {n : Int32} (hn : n = nI mm) (hm : mm < 2 ^ 31) (h4 : mm ≤ n0) (h5 : mm ≤ n1)
    (hframes : 1 ≤ R.frames) (hlocals : (rest.map fun v => v.category).sum + (nativeFrameWords "java/lang/System" "arraycopy" 5 + 11) ≤ R.locals) (hdg : decode cc pc = .ok (.invokestatic index, 3))
    (kk : ∀ (H1 : Heap) (locs1 : List Loc), H1[a]? = some (vp_cell c1 (n1, .inl (fun j => if j < mm then f j else g j))) → (∀ q : Nat, q ≠ a → H1[q]? = H[q]?) → va_S A H0 H1 locs1 → W p l e R s m args below meth c H1 locs1 cells slots Q (F0 m (pc + 3) ls rest)) : W p l e R s m args below meth c H locs cells slots Q (F0 m pc ls (.int n :: .int 0 :: .ref a :: .int 0 :: .ref a0 :: rest)) := by
  have hz : (0 : Int32).toNatClampNeg = 0 := sb_cl0
  have hz2 : (0 : Int32).toInt = 0 := rfl
  have hnn : n.toNatClampNeg = mm := by rw [hn]; exact nI_clamp hm
  have hni : n.toInt = (mm : Int) := by rw [hn]; exact nI_toInt hm
  intro T hT X
  obtain ⟨-, k0, hk0, cm0, hkk0⟩ := ht0 n0 (fun j => .int (f j))
  obtain ⟨-, k1, hk1, cm1, hkk1⟩ := ht1 n1 (fun j => .int (g j))
  obtain ⟨vm', X', step⟩ := X.arraycopy hexec hown hlink hnat hstat hini (src := a0) (dst := a) (cs := vp_cell c0 (n0, .inl f)) (cd := vp_cell c1 (n1, .inl g)) (srcPos := 0) (destPos := 0) (n := n) (by rw [hT]; exact hc0) (by rw [hT]; exact hc1)
    (fun _ h => by cases h) (fun _ h => by cases h) (fun h => by cases h) (fun h => by cases h) hk0 hk1 hkk0 hkk1 (by simp [refKind]) (by decide) (by decide) (by rw [hn]; exact nI_pos hm)
    (by rw [hz2, hni]; show ¬ _ > ((arrV c0 n0 (fun j => .int (f j))).slots.size : Int); rw [arrV_size]; omega)
    (by rw [hz2, hni]; show ¬ _ > ((arrV c1 n1 (fun j => .int (g j))).slots.size : Int); rw [arrV_size]; omega)
    (fun vm₁ _ i hi => by
      have e : (vp_cell c0 (n0, .inl f)).slots.getD ((0 : Int32).toNatClampNeg + i) .null = .int (f ((0 : Int32).toNatClampNeg + i)) := by
        show (arrV c0 n0 (fun j => .int (f j))).slots.getD _ _ = _
        rw [Array.getD_eq_getD_getElem?, arrV_read _ _ (by omega)]
        rfl
      refine ⟨?_, ?_⟩
      · rw [e]
        rfl
      · rw [e]
        exact trivial)
    (g := F0 m pc ls (.int n :: .int 0 :: .ref a :: .int 0 :: .ref a0 :: rest)) rfl (by rw [hml]) (rest := rest) rfl (by rw [hb]; exact hdg) hframes (by show 2 * 0 + _ + _ ≤ _; omega)
  have e1 : copied (vp_cell c0 (n0, .inl f)) (vp_cell c1 (n1, .inl g)) 0 0 n = vp_cell c1 (n1, .inl (va_cpy f g (0 : Int32).toNatClampNeg (0 : Int32).toNatClampNeg n.toNatClampNeg)) := va_copied (fun z => .int z) c0 c1 f g (by omega)
  have e2 : (va_cpy f g (0 : Int32).toNatClampNeg (0 : Int32).toNatClampNeg n.toNatClampNeg) = fun j => if j < mm then f j else g j := by
    funext j
    rw [hz, hnn]
    simp [va_cpy]
  rw [e1, e2] at X' step
  have hl : a < H.size := (Array.getElem?_eq_some_iff.mp hc1).1
  have oq : ∀ q : Nat, q ≠ a → (H.setIfInBounds a (vp_cell c1 (n1, .inl (fun j => if j < mm then f j else g j))))[q]? = H[q]? := fun q hq => by simp [Array.getElem?_setIfInBounds, Ne.symm hq]
  have hheap : ((T.setVm vm').setCell a (vp_cell c1 (n1, .inl (fun j => if j < mm then f j else g j)))).heap = H.setIfInBounds a (vp_cell c1 (n1, .inl (fun j => if j < mm then f j else g j))) := by rw [← hT]; rfl
  obtain ⟨t, a1, b1⟩ := kk _ _ (show (H.setIfInBounds a _)[a]? = some _ by simp [Array.getElem?_setIfInBounds, hl]) oq ⟨by simp; exact hS.1, fun q g1 g2 => by
      rw [oq q (fun e => g2 (by rw [e]; exact hAa))]
      exact hS.2.1 q g1 g2, fun q hq => by
      rcases List.mem_append.mp hq with h | h
      · exact hS.2.2 q h
      · obtain ⟨z, -, hz⟩ := List.mem_map.mp h
        rw [← hz]
        exact hAa⟩ _ hheap X'
  exact ⟨t, step t a1, b1⟩
end ZH
theorem zS_lo {Y : zY} {s : State} {H : Heap} {locs : List Loc} (hF : zWF Y) (hlo : yO Y ≤ s.heap.size) (h : va_S (zA Y s.heap.size) s.heap H locs) : va_S (fun q => yO Y ≤ q) s.heap H locs := by
  have hA : ∀ q, zA Y s.heap.size q → yO Y ≤ q := fun q hq => hq.elim (hF.2.1 q) (fun h => Nat.le_trans hlo h)
  exact ⟨h.1, fun q h1 h2 => h.2.1 q h1 (fun z => h2 (hA q z)), fun z hz => hA _ (h.2.2 z hz)⟩
section ZC
variable {X : zX} {Y : zY} {u v pc : Nat} {cc : ByteArray} {own : String} {k : zT}
/-- a class of the tables: its place, its fields' words, types, names -/
def zCl (ci : Nat) (C : String) (T : u_T) (N : Nat) (ty : Nat → FieldType) : Prop := vwCl[ci]? = some (C, T, N) ∧ (∀ w ∈ u_ws C T N, w ∈ zTW) ∧ (∀ k, k < N → parseFieldDescriptor (T k).2.2.1 = some (ty k)) ∧ ∀ a, a < N → ∀ b, b < N → a ≠ b → (T a).2.1 ≠ (T b).2.1
def zi_gI (ci j : Nat) (k : zT) : zT := fun ls st h => match st with
  | .inr (.inr (kd, a)) :: st' => cond (Nat.beq kd.1 (10 + ci)) (k ls (.inl (h.1 a j) :: st') h) False
  | _ => False
def zi_gS (ci off t n : Nat) (k : zT) : zT := fun ls st h => match st with
  | .inr (.inr (kd, a)) :: st' => cond (Nat.beq kd.1 (10 + ci)) (k ls (.inr (.inr ((t, n), a + off)) :: st') h) False
  | _ => False
def zi_gR (ci j t n : Nat) (k : zT) : zT := fun ls st h => match st with
  | .inr (.inr (kd, a)) :: st' => cond (Nat.beq kd.1 (10 + ci)) (k ls (.inr (.inr ((t, n), h.2.2 a j)) :: st') h) False
  | _ => False
theorem zcond {b : Bool} {A : Prop} (h : cond b A False) : b = true ∧ A := by
  cases b with
  | true => exact ⟨rfl, h⟩
  | false => exact False.elim h
theorem zbeq {a b : Nat} (h : Nat.beq a b = true) : a = b := Nat.eq_of_beq_eq_true h
theorem zkd {kd : Nat × Nat} {t : Nat} (h : kd.1 = t) : kd = (t, kd.2) := by
  cases kd; cases h; rfl
theorem zr_gI {ci j idx N : Nat} {C : String} {T : u_T} {ty : Nat → FieldType} (O : zOK X Y cc own) (hc : zCl ci C T N ty) (hj : j < N) (hf : (zF ci j).1 = 0) (hl : Cond.fieldLink own idx (T j).1 (T j).2.1 (T j).2.2.1 ∈ zTW) (d : decode cc pc = .ok (.getfield idx, 3)) (hk : zSd X Y u v (pc + 3) k) : zSd X Y u v pc (zi_gI ci j k) := by
  intro ls st h t H locs lsA hR hL hv hS
  rcases st with _ | ⟨_ | _ | ⟨kd, a⟩, st⟩ <;> first | exact False.elim t | skip
  obtain ⟨b, t⟩ := zcond t
  have hka : yK Y a = kd := (zq1 hv).1
  rw [zkd (zbeq b)] at hka
  obtain ⟨r, h1, h2, h3⟩ := (hR a).2.2.2.2.2 ci _ hka
  cases h1.symm.trans hc.1
  have e : zfv ci j a h = .int (h.1 a j) := by simp only [zfv, hf]
  refine zq_get O.1 O.2.1 O.2.2.2.1 hc.2.1 O.2.2.1 O.2.2.2.2.1 h2 hc.1 j hj (O.2.2.2.1 _ hl) d ?_
  rw [e]
  exact hk _ _ _ t H locs lsA hR hL (zqc trivial (zq1 hv).2) hS
theorem zr_gS {ci j idx N off t n : Nat} {C : String} {T : u_T} {ty : Nat → FieldType} (O : zOK X Y cc own) (hc : zCl ci C T N ty) (hj : j < N) (hf : zF ci j = (1, off, t, n)) (hl : Cond.fieldLink own idx (T j).1 (T j).2.1 (T j).2.2.1 ∈ zTW) (d : decode cc pc = .ok (.getfield idx, 3)) (hk : zSd X Y u v (pc + 3) k) : zSd X Y u v pc (zi_gS ci off t n k) := by
  intro ls st h t H locs lsA hR hL hv hS
  rcases st with _ | ⟨_ | _ | ⟨kd, a⟩, st⟩ <;> first | exact False.elim t | skip
  obtain ⟨b, t⟩ := zcond t
  have hka : yK Y a = kd := (zq1 hv).1
  rw [zkd (zbeq b)] at hka
  obtain ⟨r, h1, h2, h3⟩ := (hR a).2.2.2.2.2 ci _ hka
  cases h1.symm.trans hc.1
  have e : zfv ci j a h = .ref (a + off) := by simp only [zfv, hf]
  refine zq_get O.1 O.2.1 O.2.2.2.1 hc.2.1 O.2.2.1 O.2.2.2.2.1 h2 hc.1 j hj (O.2.2.2.1 _ hl) d ?_
  rw [e]
  have hw := O.2.2.2.2.2.2.1.1 a ci _ j hka (by rw [hf])
  rw [hf] at hw
  exact hk _ _ _ t H locs lsA hR hL (zqc hw (zq1 hv).2) hS
theorem zr_gR {ci j idx N off t n : Nat} {C : String} {T : u_T} {ty : Nat → FieldType} (O : zOK X Y cc own) (hc : zCl ci C T N ty) (hj : j < N) (hf : zF ci j = (2, off, t, n)) (hl : Cond.fieldLink own idx (T j).1 (T j).2.1 (T j).2.2.1 ∈ zTW) (d : decode cc pc = .ok (.getfield idx, 3)) (hk : zSd X Y u v (pc + 3) k) : zSd X Y u v pc (zi_gR ci j t n k) := by
  intro ls st h t H locs lsA hR hL hv hS
  rcases st with _ | ⟨_ | _ | ⟨kd, a⟩, st⟩ <;> first | exact False.elim t | skip
  obtain ⟨b, t⟩ := zcond t
  have hka : yK Y a = kd := (zq1 hv).1
  rw [zkd (zbeq b)] at hka
  obtain ⟨r, h1, h2, h3⟩ := (hR a).2.2.2.2.2 ci _ hka
  cases h1.symm.trans hc.1
  have e : zfv ci j a h = .ref (h.2.2 a j) := by simp only [zfv, hf]
  refine zq_get O.1 O.2.1 O.2.2.2.1 hc.2.1 O.2.2.1 O.2.2.2.2.1 h2 hc.1 j hj (O.2.2.2.1 _ hl) d ?_
  rw [e]
  have hw := h3 j (by rw [hf])
  rw [hf] at hw
  exact hk _ _ _ t H locs lsA hR hL (zqc hw (zq1 hv).2) hS
def zi_pI (ci j : Nat) (k : zT) : zT := fun ls st h => match st with
  | .inl x :: .inr (.inr (kd, a)) :: st' => cond (Nat.beq kd.1 (10 + ci)) (k ls st' (zsI h a j x)) False
  | _ => False
def zi_pR (ci j t n : Nat) (k : zT) : zT := fun ls st h => match st with
  | .inr (.inr (kv, b)) :: .inr (.inr (kd, a)) :: st' => cond (Nat.beq kd.1 (10 + ci) && (Nat.beq kv.1 t && Nat.beq kv.2 n)) (k ls st' (zsR h a j b)) False
  | _ => False
theorem zr_pI {ci j idx N : Nat} {C : String} {T : u_T} {ty : Nat → FieldType} (O : zOK X Y cc own) (hc : zCl ci C T N ty) (hj : j < N) (hf : (zF ci j).1 = 0) (hfin : (T j).2.2.2 = false) (hty : ty j = .int) (hl : Cond.fieldLink own idx (T j).1 (T j).2.1 (T j).2.2.1 ∈ zTW) (d : decode cc pc = .ok (.putfield idx, 3)) (hk : zSd X Y u v (pc + 3) k) : zSd X Y u v pc (zi_pI ci j k) := by
  intro ls st h t H locs lsA hR hL hv hS
  rcases st with _ | ⟨x | _, _ | ⟨_ | _ | ⟨kd, a⟩, st⟩⟩ <;> first | exact False.elim t | skip
  obtain ⟨b, t⟩ := zcond t
  have hka : yK Y a = kd := (zq1 (zq1 hv).2).1
  rw [zkd (zbeq b)] at hka
  obtain ⟨r, h1, h2, h3⟩ := (hR a).2.2.2.2.2 ci _ hka
  cases h1.symm.trans hc.1
  refine zq_put (v := .int x) O.1 O.2.1 O.2.2.2.1 hc.2.1 ty hc.2.2.1 hc.2.2.2 O.2.2.1 O.2.2.2.2.1 h2 hS (zA_of hka (zwr_of (by omega))) hc.1 j hj (O.2.2.2.1 _ hl) hfin (by rw [hty]; rfl) (by rw [hty]; rfl) d (fun H1 locs1 g1 g2 g3 => ?_)
  refine hk _ _ _ t H1 locs1 lsA ?_ hL (zq2 hv) g3
  refine zR_upd a hR g2 (fun q hq => zup_n _ _ hq) (fun q _ => rfl) (fun q _ => rfl) ?_
  refine ⟨fun n hn => ?_, fun n hn => ?_, fun n hn => ?_, fun n hn => ?_, fun n hn => ?_, fun ci' n hn => ?_⟩
  · have := (ztag hka hn).1; omega
  · have := (ztag hka hn).1; omega
  · have := (ztag hka hn).1; omega
  · have := (ztag hka hn).1; omega
  · have := (ztag hka hn).1; omega
  · have hci : ci' = ci := by have := (ztag hka hn).1; omega
    subst hci
    refine ⟨_, hc.1, g1.to (fun i _ => ?_), h3⟩
    by_cases hi : i = j
    · subst hi
      simp [updV, zfv, hf, zsI, va_up]
    · simp [updV, zfv, hi, zsI, va_up]
theorem zr_pR {ci j idx N off t n : Nat} {C : String} {T : u_T} {ty : Nat → FieldType} {D : String} (O : zOK X Y cc own) (hc : zCl ci C T N ty) (hj : j < N) (hf : zF ci j = (2, off, t, n)) (hfin : (T j).2.2.2 = false) (hty : ty j = .object D) (hl : Cond.fieldLink own idx (T j).1 (T j).2.1 (T j).2.2.1 ∈ zTW) (d : decode cc pc = .ok (.putfield idx, 3)) (hk : zSd X Y u v (pc + 3) k) : zSd X Y u v pc (zi_pR ci j t n k) := by
  intro ls st h t H locs lsA hR hL hv hS
  rcases st with _ | ⟨_ | _ | ⟨kv, q⟩, _ | ⟨_ | _ | ⟨kd, a⟩, st⟩⟩ <;> first | exact False.elim t | skip
  obtain ⟨b, t⟩ := zcond t
  simp only [Bool.and_eq_true] at b
  obtain ⟨b, b2, b3⟩ := b
  have hka : yK Y a = kd := (zq1 (zq1 hv).2).1
  have hkq : yK Y q = kv := (zq1 hv).1
  rw [zkd (zbeq b)] at hka
  rw [zkd (zbeq b2), zbeq b3] at hkq
  obtain ⟨r, h1, h2, h3⟩ := (hR a).2.2.2.2.2 ci _ hka
  cases h1.symm.trans hc.1
  refine zq_put (v := .ref q) O.1 O.2.1 O.2.2.2.1 hc.2.1 ty hc.2.2.1 hc.2.2.2 O.2.2.1 O.2.2.2.2.1 h2 hS (zA_of hka (zwr_of (by omega))) hc.1 j hj (O.2.2.2.1 _ hl) hfin (by rw [hty]; rfl) (by rw [hty]; rfl) d (fun H1 locs1 g1 g2 g3 => ?_)
  refine hk _ _ _ t H1 locs1 lsA ?_ hL (zq2 hv) g3
  refine zR_upd a hR g2 (fun q _ => rfl) (fun q _ => rfl) (fun q hq => zup_n _ _ hq) ?_
  refine ⟨fun n hn => ?_, fun n hn => ?_, fun n hn => ?_, fun n hn => ?_, fun n hn => ?_, fun ci' n hn => ?_⟩
  · have := (ztag hka hn).1; omega
  · have := (ztag hka hn).1; omega
  · have := (ztag hka hn).1; omega
  · have := (ztag hka hn).1; omega
  · have := (ztag hka hn).1; omega
  · have hci : ci' = ci := by have := (ztag hka hn).1; omega
    subst hci
    refine ⟨_, hc.1, g1.to (fun i _ => ?_), fun i hi => ?_⟩
    · by_cases hi : i = j
      · subst hi
        simp [updV, zfv, hf, zsR, va_up]
      · simp [updV, zfv, hi, zsR, va_up]
    · by_cases hij : i = j
      · subst hij
        simp [zsR, va_up, hf, hkq]
      · simpa [zsR, va_up, hij] using h3 i hi
/-! arrays -/
def zi_iald (k : zT) : zT := fun ls st h => match st with
  | .inl i :: .inr (.inr (kd, a)) :: st' => cond (Nat.beq kd.1 1) (∃ j : Nat, i = nI j ∧ j < kd.2 ∧ k ls (.inl (h.1 a j) :: st') h) False
  | _ => False
def zi_bald (k : zT) : zT := fun ls st h => match st with
  | .inl i :: .inr (.inr (kd, a)) :: st' => cond (Nat.beq kd.1 2) (∃ j : Nat, i = nI j ∧ j < kd.2 ∧ k ls (.inl (h.1 a j) :: st') h) False
  | _ => False
def zi_lald (k : zT) : zT := fun ls st h => match st with
  | .inl i :: .inr (.inr (kd, a)) :: st' => cond (Nat.beq kd.1 3) (∃ j : Nat, i = nI j ∧ j < kd.2 ∧ k ls (.inr (.inl (h.2.1 a j)) :: st') h) False
  | _ => False
def zi_aald4 (k : zT) : zT := fun ls st h => match st with
  | .inl i :: .inr (.inr (kd, a)) :: st' => cond (Nat.beq kd.1 4) (∃ j : Nat, i = nI j ∧ j < kd.2 ∧ k ls (.inr (.inr ((16, 0), h.2.2 a j)) :: st') h) False
  | _ => False
def zi_aald5 (k : zT) : zT := fun ls st h => match st with
  | .inl i :: .inr (.inr (kd, a)) :: st' => cond (Nat.beq kd.1 5) (∃ j : Nat, i = nI j ∧ j < kd.2 ∧ k ls (.inr (.inr ((13, 0), h.2.2 a j)) :: st') h) False
  | _ => False
theorem zr_iald (O : zOK X Y cc own) (d : decode cc pc = .ok (.iaload, 1)) (hk : zSd X Y u v (pc + 1) k) : zSd X Y u v pc (zi_iald k) := by
  intro ls st h t H locs lsA hR hL hv hS
  rcases st with _ | ⟨i | _, _ | ⟨_ | _ | ⟨kd, a⟩, st⟩⟩ <;> first | exact False.elim t | skip
  obtain ⟨b, j, rfl, hj, t⟩ := zcond t
  have hka : yK Y a = kd := (zq1 (zq1 hv).2).1
  rw [zkd (zbeq b)] at hka
  obtain ⟨hin, hcl⟩ := zin_of O.2.2.2.2.2.2.1 hka hj
  exact W.iald (v := .int (h.1 a j)) O.1 O.2.1 ((hR a).1 _ hka) ((O.2.2.2.2.1.2 0 _ rfl).1 kd.2 (fun i => .int (h.1 a i))) (fun q => by cases q) (by show ¬ (_ ∨ (arrV _ _ _).slots.size ≤ _); rw [arrV_size]; exact hin) (by show (arrV _ _ _).slots[_]? = _; rw [hcl, arrV_read _ _ hj]) rfl rfl d (hk _ _ _ t H locs lsA hR hL (zqc trivial (zq2 hv)) hS)
theorem zr_bald (O : zOK X Y cc own) (d : decode cc pc = .ok (.baload, 1)) (hk : zSd X Y u v (pc + 1) k) : zSd X Y u v pc (zi_bald k) := by
  intro ls st h t H locs lsA hR hL hv hS
  rcases st with _ | ⟨i | _, _ | ⟨_ | _ | ⟨kd, a⟩, st⟩⟩ <;> first | exact False.elim t | skip
  obtain ⟨b, j, rfl, hj, t⟩ := zcond t
  have hka : yK Y a = kd := (zq1 (zq1 hv).2).1
  rw [zkd (zbeq b)] at hka
  obtain ⟨hin, hcl⟩ := zin_of O.2.2.2.2.2.2.1 hka hj
  exact W.bald (v := .int (h.1 a j)) O.1 O.2.1 ((hR a).2.1 _ hka) ((O.2.2.2.2.1.2 1 _ rfl).1 kd.2 (fun i => .int (h.1 a i))) (fun q => by cases q) (by show ¬ (_ ∨ (arrV _ _ _).slots.size ≤ _); rw [arrV_size]; exact hin) (by show (arrV _ _ _).slots[_]? = _; rw [hcl, arrV_read _ _ hj]) rfl rfl d (hk _ _ _ t H locs lsA hR hL (zqc trivial (zq2 hv)) hS)
theorem zr_lald (O : zOK X Y cc own) (d : decode cc pc = .ok (.laload, 1)) (hk : zSd X Y u v (pc + 1) k) : zSd X Y u v pc (zi_lald k) := by
  intro ls st h t H locs lsA hR hL hv hS
  rcases st with _ | ⟨i | _, _ | ⟨_ | _ | ⟨kd, a⟩, st⟩⟩ <;> first | exact False.elim t | skip
  obtain ⟨b, j, rfl, hj, t⟩ := zcond t
  have hka : yK Y a = kd := (zq1 (zq1 hv).2).1
  rw [zkd (zbeq b)] at hka
  obtain ⟨hin, hcl⟩ := zin_of O.2.2.2.2.2.2.1 hka hj
  exact W.lald (v := .long (h.2.1 a j)) O.1 O.2.1 ((hR a).2.2.1 _ hka) ((O.2.2.2.2.1.2 2 _ rfl).1 kd.2 (fun i => .long (h.2.1 a i))) (fun q => by cases q) (by show ¬ (_ ∨ (arrV _ _ _).slots.size ≤ _); rw [arrV_size]; exact hin) (by show (arrV _ _ _).slots[_]? = _; rw [hcl, arrV_read _ _ hj]) rfl rfl d (hk _ _ _ t H locs lsA hR hL (zqc trivial (zq2 hv)) hS)
theorem zr_aald4 (O : zOK X Y cc own) (d : decode cc pc = .ok (.aaload, 1)) (hk : zSd X Y u v (pc + 1) k) : zSd X Y u v pc (zi_aald4 k) := by
  intro ls st h t H locs lsA hR hL hv hS
  rcases st with _ | ⟨i | _, _ | ⟨_ | _ | ⟨kd, a⟩, st⟩⟩ <;> first | exact False.elim t | skip
  obtain ⟨b, j, rfl, hj, t⟩ := zcond t
  have hka : yK Y a = kd := (zq1 (zq1 hv).2).1
  rw [zkd (zbeq b)] at hka
  obtain ⟨hin, hcl⟩ := zin_of O.2.2.2.2.2.2.1 hka hj
  obtain ⟨hcell, hkinds⟩ := (hR a).2.2.2.1 _ hka
  exact W.aald (v := .ref (h.2.2 a j)) (ty := .object RX7) O.1 O.2.1 hcell ((O.2.2.2.2.1.2 3 _ rfl).1 kd.2 (fun i => va_rf (some (h.2.2 a i)))) rfl (fun q => by cases q) (by show ¬ (_ ∨ (arrV _ _ _).slots.size ≤ _); rw [arrV_size]; exact hin) (by show (arrV _ _ _).slots[_]? = _; rw [hcl, arrV_read _ _ hj]; rfl) rfl rfl d (hk _ _ _ t H locs lsA hR hL (zqc (hkinds j hj) (zq2 hv)) hS)
theorem zr_aald5 (O : zOK X Y cc own) (d : decode cc pc = .ok (.aaload, 1)) (hk : zSd X Y u v (pc + 1) k) : zSd X Y u v pc (zi_aald5 k) := by
  intro ls st h t H locs lsA hR hL hv hS
  rcases st with _ | ⟨i | _, _ | ⟨_ | _ | ⟨kd, a⟩, st⟩⟩ <;> first | exact False.elim t | skip
  obtain ⟨b, j, rfl, hj, t⟩ := zcond t
  have hka : yK Y a = kd := (zq1 (zq1 hv).2).1
  rw [zkd (zbeq b)] at hka
  obtain ⟨hin, hcl⟩ := zin_of O.2.2.2.2.2.2.1 hka hj
  obtain ⟨hcell, hkinds⟩ := (hR a).2.2.2.2.1 _ hka
  exact W.aald (v := .ref (h.2.2 a j)) (ty := .object RX4) O.1 O.2.1 hcell ((O.2.2.2.2.1.2 4 _ rfl).1 kd.2 (fun i => va_rf (some (h.2.2 a i)))) rfl (fun q => by cases q) (by show ¬ (_ ∨ (arrV _ _ _).slots.size ≤ _); rw [arrV_size]; exact hin) (by show (arrV _ _ _).slots[_]? = _; rw [hcl, arrV_read _ _ hj]; rfl) rfl rfl d (hk _ _ _ t H locs lsA hR hL (zqc (hkinds j hj) (zq2 hv)) hS)
def zi_iast (k : zT) : zT := fun ls st h => match st with
  | .inl x :: .inl i :: .inr (.inr (kd, a)) :: st' => cond (Nat.beq kd.1 1) (∃ j : Nat, i = nI j ∧ j < kd.2 ∧ k ls st' (zsI h a j x)) False
  | _ => False
def zi_bast (k : zT) : zT := fun ls st h => match st with
  | .inl x :: .inl i :: .inr (.inr (kd, a)) :: st' => cond (Nat.beq kd.1 2) (∃ j : Nat, i = nI j ∧ j < kd.2 ∧ k ls st' (zsI h a j x.toInt8.toInt32)) False
  | _ => False
def zi_last (k : zT) : zT := fun ls st h => match st with
  | .inr (.inl x) :: .inl i :: .inr (.inr (kd, a)) :: st' => cond (Nat.beq kd.1 3) (∃ j : Nat, i = nI j ∧ j < kd.2 ∧ k ls st' (zsL h a j x)) False
  | _ => False
def zi_aast4 (k : zT) : zT := fun ls st h => match st with
  | .inr (.inr (kv, q)) :: .inl i :: .inr (.inr (kd, a)) :: st' => cond (Nat.beq kd.1 4 && (Nat.beq kv.1 16 && Nat.beq kv.2 0)) (∃ j : Nat, i = nI j ∧ j < kd.2 ∧ k ls st' (zsR h a j q)) False
  | _ => False
theorem zupd_arr {β : Type} (C : β → Value) (cA : ClassId) (n j : Nat) (f : Nat → β) (x : β) : (arrV cA n (fun i => C (f i))).setSlot j (C x) = arrV cA n (fun i => C (va_up f j x i)) := by
  rw [arrV_store]
  congr 1
  funext q
  by_cases hq : q = j
  · subst hq
    simp [updV, va_up]
  · simp [updV, va_up, hq]
theorem zr_iast (O : zOK X Y cc own) (d : decode cc pc = .ok (.iastore, 1)) (hk : zSd X Y u v (pc + 1) k) : zSd X Y u v pc (zi_iast k) := by
  intro ls st h t H locs lsA hR hL hv hS
  rcases st with _ | ⟨x | _, _ | ⟨i | _, _ | ⟨_ | _ | ⟨kd, a⟩, st⟩⟩⟩ <;> first | exact False.elim t | skip
  obtain ⟨b, j, rfl, hj, t⟩ := zcond t
  have hka : yK Y a = kd := (zq1 (zq1 (zq1 hv).2).2).1
  rw [zkd (zbeq b)] at hka
  obtain ⟨hin, hcl⟩ := zin_of O.2.2.2.2.2.2.1 hka hj
  refine W.iast O.1 O.2.1 ((hR a).1 _ hka) ((O.2.2.2.2.1.2 0 _ rfl).1 kd.2 (fun i => .int (h.1 a i))) (fun q => by cases q) (by show ¬ (_ ∨ (arrV _ _ _).slots.size ≤ _); rw [arrV_size]; exact hin) rfl rfl d fun H1 e1 e2 e3 => ?_
  refine hk _ _ _ t H1 _ lsA ?_ hL (zq1 (zq2 hv)).2 (hS.put e2 e3 (zA_of hka (zwr_of (by omega))))
  refine zR_upd a hR e3 (fun q hq => zup_n _ _ hq) (fun q _ => rfl) (fun q _ => rfl) ?_
  refine ⟨fun n hn => ?_, fun n hn => ?_, fun n hn => ?_, fun n hn => ?_, fun n hn => ?_, fun ci n hn => ?_⟩
  · cases (ztag hka hn).2
    rw [e1, hcl]
    rw [show (zsI h a j x).1 a = va_up (h.1 a) j x from zup_s _ _ _]
    exact congrArg some (zupd_arr .int _ _ _ _ _)
  · have := (ztag hka hn).1; omega
  · have := (ztag hka hn).1; omega
  · have := (ztag hka hn).1; omega
  · have := (ztag hka hn).1; omega
  · have := (ztag hka hn).1; omega
theorem zr_bast (O : zOK X Y cc own) (d : decode cc pc = .ok (.bastore, 1)) (hk : zSd X Y u v (pc + 1) k) : zSd X Y u v pc (zi_bast k) := by
  intro ls st h t H locs lsA hR hL hv hS
  rcases st with _ | ⟨x | _, _ | ⟨i | _, _ | ⟨_ | _ | ⟨kd, a⟩, st⟩⟩⟩ <;> first | exact False.elim t | skip
  obtain ⟨b, j, rfl, hj, t⟩ := zcond t
  have hka : yK Y a = kd := (zq1 (zq1 (zq1 hv).2).2).1
  rw [zkd (zbeq b)] at hka
  obtain ⟨hin, hcl⟩ := zin_of O.2.2.2.2.2.2.1 hka hj
  refine W.bast O.1 O.2.1 ((hR a).2.1 _ hka) ((O.2.2.2.2.1.2 1 _ rfl).1 kd.2 (fun i => .int (h.1 a i))) (fun q => by cases q) (by show ¬ (_ ∨ (arrV _ _ _).slots.size ≤ _); rw [arrV_size]; exact hin) rfl rfl d fun H1 e1 e2 e3 => ?_
  refine hk _ _ _ t H1 _ lsA ?_ hL (zq1 (zq2 hv)).2 (hS.put e2 e3 (zA_of hka (zwr_of (by omega))))
  refine zR_upd a hR e3 (fun q hq => zup_n _ _ hq) (fun q _ => rfl) (fun q _ => rfl) ?_
  refine ⟨fun n hn => ?_, fun n hn => ?_, fun n hn => ?_, fun n hn => ?_, fun n hn => ?_, fun ci n hn => ?_⟩
  · have := (ztag hka hn).1; omega
  · cases (ztag hka hn).2
    rw [e1, hcl]
    rw [show narrow FieldType.byte (Value.int x) = Value.int x.toInt8.toInt32 from rfl]
    rw [show (zsI h a j x.toInt8.toInt32).1 a = va_up (h.1 a) j x.toInt8.toInt32 from zup_s _ _ _]
    exact congrArg some (zupd_arr .int _ _ _ _ _)
  · have := (ztag hka hn).1; omega
  · have := (ztag hka hn).1; omega
  · have := (ztag hka hn).1; omega
  · have := (ztag hka hn).1; omega
theorem zr_last (O : zOK X Y cc own) (d : decode cc pc = .ok (.lastore, 1)) (hk : zSd X Y u v (pc + 1) k) : zSd X Y u v pc (zi_last k) := by
  intro ls st h t H locs lsA hR hL hv hS
  rcases st with _ | ⟨_ | x | _, _ | ⟨i | _, _ | ⟨_ | _ | ⟨kd, a⟩, st⟩⟩⟩ <;> first | exact False.elim t | skip
  obtain ⟨b, j, rfl, hj, t⟩ := zcond t
  have hka : yK Y a = kd := (zq1 (zq1 (zq1 hv).2).2).1
  rw [zkd (zbeq b)] at hka
  obtain ⟨hin, hcl⟩ := zin_of O.2.2.2.2.2.2.1 hka hj
  refine W.last O.1 O.2.1 ((hR a).2.2.1 _ hka) ((O.2.2.2.2.1.2 2 _ rfl).1 kd.2 (fun i => .long (h.2.1 a i))) (fun q => by cases q) (by show ¬ (_ ∨ (arrV _ _ _).slots.size ≤ _); rw [arrV_size]; exact hin) rfl rfl d fun H1 e1 e2 e3 => ?_
  refine hk _ _ _ t H1 _ lsA ?_ hL (zq1 (zq2 hv)).2 (hS.put e2 e3 (zA_of hka (zwr_of (by omega))))
  refine zR_upd a hR e3 (fun q _ => rfl) (fun q hq => zup_n _ _ hq) (fun q _ => rfl) ?_
  refine ⟨fun n hn => ?_, fun n hn => ?_, fun n hn => ?_, fun n hn => ?_, fun n hn => ?_, fun ci n hn => ?_⟩
  · have := (ztag hka hn).1; omega
  · have := (ztag hka hn).1; omega
  · cases (ztag hka hn).2
    rw [e1, hcl]
    rw [show (zsL h a j x).2.1 a = va_up (h.2.1 a) j x from zup_s _ _ _]
    exact congrArg some (zupd_arr .long _ _ _ _ _)
  · have := (ztag hka hn).1; omega
  · have := (ztag hka hn).1; omega
  · have := (ztag hka hn).1; omega
theorem zr_aast4 (O : zOK X Y cc own) (d : decode cc pc = .ok (.aastore, 1)) (hk : zSd X Y u v (pc + 1) k) : zSd X Y u v pc (zi_aast4 k) := by
  intro ls st h t H locs lsA hR hL hv hS
  rcases st with _ | ⟨_ | _ | ⟨kv, q⟩, _ | ⟨i | _, _ | ⟨_ | _ | ⟨kd, a⟩, st⟩⟩⟩ <;> first | exact False.elim t | skip
  obtain ⟨b, j, rfl, hj, t⟩ := zcond t
  simp only [Bool.and_eq_true] at b
  obtain ⟨b, b2, b3⟩ := b
  have hka : yK Y a = kd := (zq1 (zq1 (zq1 hv).2).2).1
  have hkq : yK Y q = kv := (zq1 hv).1
  rw [zkd (zbeq b)] at hka
  rw [zkd (zbeq b2), zbeq b3] at hkq
  obtain ⟨hin, hcl⟩ := zin_of O.2.2.2.2.2.2.1 hka hj
  obtain ⟨hcell, hkinds⟩ := (hR a).2.2.2.1 _ hka
  obtain ⟨r, h1, ⟨cellV, g1, g2, g3, -⟩, -⟩ := (hR q).2.2.2.2.2 6 _ hkq
  have hcls := (O.2.2.2.2.1.1 6 _ (rfl : vwCl[6]? = some (RX7, TX7, 3))).2
  obtain ⟨kA, comp, k1, k2, k3, -⟩ := (O.2.2.2.2.1.2 3 _ rfl).2
  have hcomp : comp = (yD Y).1 6 := Option.some.inj (k3.symm.trans hcls.1)
  subst hcomp
  obtain ⟨kC, hkC, -⟩ := hcls.2
  refine W.aast O.1 O.2.1 hcell (fun q h => by cases h) (fun h => by cases h) k1 k2 rfl hkC ⟨fun z => hin (Or.inl z), by show _ < (arrV _ _ _).slots.size; rw [arrV_size, hcl]; exact hj⟩ g1 (fun q h => by rw [g3] at h; cases h) (by rw [g2]; exact hkC) (by rw [g2]; exact va_assign hcls) rfl rfl d fun H1 e1 e2 e3 => ?_
  refine hk _ _ _ t H1 _ lsA ?_ hL (zq1 (zq2 hv)).2 (hS.put e2 e3 (zA_of hka (zwr_of (by omega))))
  refine zR_upd a hR e3 (fun q _ => rfl) (fun q _ => rfl) (fun q hq => zup_n _ _ hq) ?_
  refine ⟨fun n hn => ?_, fun n hn => ?_, fun n hn => ?_, fun n hn => ?_, fun n hn => ?_, fun ci n hn => ?_⟩
  · have := (ztag hka hn).1; omega
  · have := (ztag hka hn).1; omega
  · have := (ztag hka hn).1; omega
  · cases (ztag hka hn).2
    refine ⟨?_, fun i hi => ?_⟩
    · rw [e1, hcl]
      rw [show (zsR h a j q).2.2 a = va_up (h.2.2 a) j q from zup_s _ _ _]
      exact congrArg some (zupd_arr (fun z => va_rf (some z)) _ _ _ _ _)
    · rw [show (zsR h a j q).2.2 a = va_up (h.2.2 a) j q from zup_s _ _ _]
      by_cases hij : i = j
      · subst hij
        rw [zup_s]; exact hkq
      · rw [zup_n _ _ hij]; exact hkinds i hi
  · have := (ztag hka hn).1; omega
  · have := (ztag hka hn).1; omega
/-! constant arrays, the script -/
def zi_gst (n : Nat) (k : zT) : zT := fun ls st h => ∀ t : Nat, k ls (.inr (.inr ((8, n), t)) :: st) h
theorem zr_gst {n idx : Nat} (O : zOK X Y cc own) (hn : n < 2) (hl : Cond.fieldLink own idx RX0 (zCf n) "[I" ∈ zTW) (d : decode cc pc = .ok (.getstatic idx, 3)) (hk : zSd X Y u v (pc + 3) k) : zSd X Y u v pc (zi_gst n k) := by
  intro ls st h t H locs lsA hR hL hv hS
  obtain ⟨t0, ht0, hZ⟩ := O.2.2.2.2.2.1.2.2.2.2.1.1 n hn
  exact va_gets O.1 O.2.1 hZ (zS_lo O.2.2.2.2.2.2.1 O.2.2.2.2.2.2.2 hS) O.2.2.1 (O.2.2.2.1 _ hl) (fun _ h9 => h9) d (hk _ _ _ (t t0) H locs lsA hR hL (zqc ht0 hv) hS)
def zi_iald8 (k : zT) : zT := fun ls st h => match st with
  | .inl i :: .inr (.inr (kd, a)) :: st' => cond (Nat.beq kd.1 8) (∃ j : Nat, i = nI j ∧ j < zCn kd.2 ∧ k ls (.inl (zCc kd.2 j) :: st') h) False
  | _ => False
theorem zr_iald8 (O : zOK X Y cc own) (d : decode cc pc = .ok (.iaload, 1)) (hk : zSd X Y u v (pc + 1) k) : zSd X Y u v pc (zi_iald8 k) := by
  intro ls st h t H locs lsA hR hL hv hS
  rcases st with _ | ⟨i | _, _ | ⟨_ | _ | ⟨kd, a⟩, st⟩⟩ <;> first | exact False.elim t | skip
  obtain ⟨b, j, rfl, hj, t⟩ := zcond t
  have hka : yK Y a = kd := (zq1 (zq1 hv).2).1
  rw [zkd (zbeq b)] at hka
  have hj7 : zCn kd.2 < 2 ^ 31 := by unfold zCn; split <;> decide
  have hcl : (nI j).toNatClampNeg = j := nI_clamp (by omega)
  exact va_ti O.1 O.2.1 (O.2.2.2.2.2.1.2.2.2.2.1.2 a _ hka) (zS_lo O.2.2.2.2.2.2.1 O.2.2.2.2.2.2.2 hS) (vp_in_nI hj hj7) (v := .int (zCc kd.2 j)) (by rw [hcl]) d (hk _ _ _ t H locs lsA hR hL (zqc trivial (zq2 hv)) hS)
def zi_iald9 (xs : Nat → Int32) (k : zT) : zT := fun ls st h => match st with
  | .inl i :: .inr (.inr (kd, a)) :: st' => cond (Nat.beq kd.1 9) (∃ j : Nat, i = nI j ∧ j < kd.2 ∧ k ls (.inl (xs j) :: st') h) False
  | _ => False
theorem zr_iald9 (O : zOK X Y cc own) (d : decode cc pc = .ok (.iaload, 1)) (hk : zSd X Y u v (pc + 1) k) : zSd X Y u v pc (zi_iald9 (yX Y) k) := by
  intro ls st h t H locs lsA hR hL hv hS
  rcases st with _ | ⟨i | _, _ | ⟨_ | _ | ⟨kd, a⟩, st⟩⟩ <;> first | exact False.elim t | skip
  obtain ⟨b, j, rfl, hj, t⟩ := zcond t
  have hka : yK Y a = kd := (zq1 (zq1 hv).2).1
  rw [zkd (zbeq b)] at hka
  obtain ⟨hin, hcl⟩ := zin_of O.2.2.2.2.2.2.1 hka hj
  obtain ⟨hx, hlt⟩ := O.2.2.2.2.2.1.2.2.2.2.2.2.2 a _ hka
  have hlo := O.2.2.2.2.2.2.2
  refine va_sld O.1 O.2.1 hx (by omega) (Nat.not_le.mpr hlt) (zS_lo O.2.2.2.2.2.2.1 hlo hS) hin d ?_
  rw [hcl]
  exact hk _ _ _ t H locs lsA hR hL (zqc trivial (zq2 hv)) hS
def zi_alen9 (k : zT) : zT := fun ls st h => match st with
  | .inr (.inr (kd, a)) :: st' => cond (Nat.beq kd.1 9) (k ls (.inl (nI kd.2) :: st') h) False
  | _ => False
theorem zr_alen9 (O : zOK X Y cc own) (d : decode cc pc = .ok (.arraylength, 1)) (hk : zSd X Y u v (pc + 1) k) : zSd X Y u v pc (zi_alen9 k) := by
  intro ls st h t H locs lsA hR hL hv hS
  rcases st with _ | ⟨_ | _ | ⟨kd, a⟩, st⟩ <;> first | exact False.elim t | skip
  obtain ⟨b, t⟩ := zcond t
  have hka : yK Y a = kd := (zq1 hv).1
  rw [zkd (zbeq b)] at hka
  obtain ⟨hx, hlt⟩ := O.2.2.2.2.2.1.2.2.2.2.2.2.2 a _ hka
  have hlo := O.2.2.2.2.2.2.2
  exact va_slen O.1 O.2.1 hx (by omega) (Nat.not_le.mpr hlt) (zS_lo O.2.2.2.2.2.2.1 hlo hS) d (hk _ _ _ t H locs lsA hR hL (zqc trivial (zq1 hv).2) hS)
/-! the JDK's: max, min, arraycopy -/
def zw : List zV → Nat
  | [] => 0
  | .inl _ :: l => 1 + zw l
  | .inr (.inl _) :: l => 2 + zw l
  | .inr (.inr _) :: l => 1 + zw l
theorem zw_sum : ∀ l : List zV, ((l.map zv).map fun v => v.category).sum = zw l
  | [] => rfl
  | .inl _ :: l => by rw [zw, ← zw_sum l]; rfl
  | .inr (.inl _) :: l => by rw [zw, ← zw_sum l]; rfl
  | .inr (.inr _) :: l => by rw [zw, ← zw_sum l]; rfl
def zi_max (k : zT) : zT := fun ls st h => match st with
  | .inl y :: .inl x :: st' => cond (Nat.ble (zw st') 8) (k ls (.inl (if x < y then y else x) :: st') h) False
  | _ => False
def zi_min (k : zT) : zT := fun ls st h => match st with
  | .inl y :: .inl x :: st' => cond (Nat.ble (zw st') 8) (k ls (.inl (if y < x then y else x) :: st') h) False
  | _ => False
theorem zlsz {nL : Nat} {ls : zL} {lsA : Array Slot} (h : zLk Y nL ls lsA) : nL = lsA.size := h.1.1.symm
def zwM : Prop := Cond.initialized "java/lang/Math" ∈ zTW ∧ Cond.static Lib.Math.max.name ∈ zTW ∧ Cond.code Lib.Math.max.name Lib.Math.max.code 2 (some .int) ∈ zTW ∧ Cond.static Lib.Math.min.name ∈ zTW ∧ Cond.code Lib.Math.min.name Lib.Math.min.code 2 (some .int) ∈ zTW
theorem zr_max {idx : Nat} (O : zOK X Y cc own) (hm : zwM) (hl : Cond.methodLink own idx Lib.Math.max.name ∈ zTW) (hr : 1 ≤ (xR X).frames ∧ 21 ≤ (xR X).locals ∧ u ≤ (xR X).cells ∧ v ≤ (xR X).slots) (d : decode cc pc = .ok (.invokestatic idx, 3)) (hk : zSd X Y u v (pc + 3) k) : zSd X Y u v pc (zi_max k) := by
  intro ls st h t H locs lsA hR hL hv hS
  rcases st with _ | ⟨y | _, _ | ⟨x | _, st⟩⟩ <;> first | exact False.elim t | skip
  obtain ⟨b, t⟩ := zcond t
  have hb := Nat.le_of_ble_eq_true b
  have hts := O.2.2.2.1
  exact va_mmax O.1 O.2.1 (zlsz hL) O.2.2.1 (hts _ hl) (hts _ hm.2.1) (hts _ hm.1) (hts _ hm.2.2.1) hr.1 (by rw [zw_sum]; omega) hr.2.2.1 hr.2.2.2 d (hk _ _ _ t H locs lsA hR hL (zqc trivial (zq2 hv)) hS)
theorem zr_min {idx : Nat} (O : zOK X Y cc own) (hm : zwM) (hl : Cond.methodLink own idx Lib.Math.min.name ∈ zTW) (hr : 1 ≤ (xR X).frames ∧ 21 ≤ (xR X).locals ∧ u ≤ (xR X).cells ∧ v ≤ (xR X).slots) (d : decode cc pc = .ok (.invokestatic idx, 3)) (hk : zSd X Y u v (pc + 3) k) : zSd X Y u v pc (zi_min k) := by
  intro ls st h t H locs lsA hR hL hv hS
  rcases st with _ | ⟨y | _, _ | ⟨x | _, st⟩⟩ <;> first | exact False.elim t | skip
  obtain ⟨b, t⟩ := zcond t
  have hb := Nat.le_of_ble_eq_true b
  have hts := O.2.2.2.1
  exact va_mmin O.1 O.2.1 (zlsz hL) O.2.2.1 (hts _ hl) (hts _ hm.2.2.2.1) (hts _ hm.1) (hts _ hm.2.2.2.2) hr.1 (by rw [zw_sum]; omega) hr.2.2.1 hr.2.2.2 d (hk _ _ _ t H locs lsA hR hL (zqc trivial (zq2 hv)) hS)
/-- arraycopy of ints, from 0 to 0 -/
def zi_cpy (k : zT) : zT := fun ls st h => match st with
  | .inl n :: .inl dp :: .inr (.inr (kd, a)) :: .inl sp :: .inr (.inr (ks, q)) :: st' => cond (Nat.beq kd.1 1 && (Nat.beq ks.1 1 && Nat.ble (zw st') 8)) (dp = 0 ∧ sp = 0 ∧ ∃ j : Nat, n = nI j ∧ j ≤ kd.2 ∧ j ≤ ks.2 ∧ k ls st' (zsW h a (fun i => if i < j then h.1 q i else h.1 a i))) False
  | _ => False
theorem zr_cpy {idx : Nat} (O : zOK X Y cc own) (hl : Cond.methodLink own idx arraycopyName ∈ zTW) (hw : Cond.native arraycopyName ∈ zTW ∧ Cond.static arraycopyName ∈ zTW ∧ Cond.initialized "java/lang/System" ∈ zTW) (hr : 1 ≤ (xR X).frames ∧ 8 + (nativeFrameWords "java/lang/System" "arraycopy" 5 + 11) ≤ (xR X).locals) (d : decode cc pc = .ok (.invokestatic idx, 3)) (hk : zSd X Y u v (pc + 3) k) : zSd X Y u v pc (zi_cpy k) := by
  intro ls st h t H locs lsA hR hL hv hS
  rcases st with _ | ⟨n | _, _ | ⟨dp | _, _ | ⟨_ | _ | ⟨kd, a⟩, _ | ⟨sp | _, _ | ⟨_ | _ | ⟨ks, q⟩, st⟩⟩⟩⟩⟩ <;> first | exact False.elim t | skip
  obtain ⟨b, rfl, rfl, j, hj, h1, h2, t⟩ := zcond t
  simp only [Bool.and_eq_true] at b
  obtain ⟨b, b2, b3⟩ := b
  have hb := Nat.le_of_ble_eq_true b3
  have hts := O.2.2.2.1
  have hka : yK Y a = kd := (zq1 (zq2 hv)).1
  have hkq : yK Y q = ks := (zq1 (zq2 (zq1 (zq1 hv).2).2)).1
  rw [zkd (zbeq b)] at hka
  rw [zkd (zbeq b2)] at hkq
  have hlen : kd.2 < 2 ^ 31 := by have := O.2.2.2.2.2.2.1.2.2 a; rw [hka] at this; exact this
  refine zq_copy O.1 O.2.1 (zlsz hL) O.2.2.1 (hts _ hl) (hts _ hw.1) (hts _ hw.2.1) (hts _ hw.2.2) hS (zA_of hka (zwr_of (by omega))) ((hR q).1 _ hkq) ((hR a).1 _ hka) (O.2.2.2.2.1.2 0 _ rfl).1 (O.2.2.2.2.1.2 0 _ rfl).1 hj (by omega) h2 h1 hr.1 (by rw [zw_sum]; omega) d (fun H1 locs1 e1 e3 g3 => ?_)
  refine hk _ _ _ t H1 locs1 lsA ?_ hL (zq2 (zq1 (zq2 hv)).2) g3
  refine zR_upd a hR e3 (fun q hq => zup_n _ _ hq) (fun q _ => rfl) (fun q _ => rfl) ?_
  refine ⟨fun n hn => ?_, fun n hn => ?_, fun n hn => ?_, fun n hn => ?_, fun n hn => ?_, fun ci n hn => ?_⟩
  · cases (ztag hka hn).2
    rw [e1, show (zsW h a (fun i => if i < j then h.1 q i else h.1 a i)).1 a = _ from zup_s _ _ _]
  · have := (ztag hka hn).1; omega
  · have := (ztag hka hn).1; omega
  · have := (ztag hka hn).1; omega
  · have := (ztag hka hn).1; omega
  · have := (ztag hka hn).1; omega
/-- a String constant -/
def zi_str (n : Nat) (k : zT) : zT := fun ls st h => ∀ a : Nat, k ls (.inr (.inr ((7, n), a)) :: st) h
theorem zr_str {n idx : Nat} {tx : String} (O : zOK X Y cc own) (hs : (own, idx, tx, n) ∈ zStr) (d : decode cc pc = .ok (.ldc idx, 2)) (hk : zSd X Y u v (pc + 2) k) : zSd X Y u v pc (zi_str n k) := by
  intro ls st h t H locs lsA hR hL hv hS
  obtain ⟨adK, adV, g1, g2, g3⟩ := O.2.2.2.2.2.1.2.2.2.1
  obtain ⟨q1, q2⟩ := g2 _ hs
  exact va_ldcS O.1 O.2.1 O.2.2.1 q1 d (hk _ _ _ (t _) H locs lsA hR hL (zqc q2 hv) hS)
end ZC
end
section
/-! contracts: logical variables of a type, arguments, what is asked, what comes -/
abbrev zC (α : Type) : Type := (α → List zV) × ((α → zH → Prop) × (α → zH → Option zV → zH → Prop))
def zPc (Y : zY) (sz : Nat) (av : List zV) (h : zH) : Array Value → State → Prop := fun a U => a = (av.map zv).toArray ∧ U.heap.size = sz ∧ zR Y h U.heap ∧ zK Y U ∧ zS Y U U.heap ∧ yO Y ≤ U.heap.size
def zQc (Y : zY) (sz : Nat) (F : Option zV → zH → Prop) : Array Value → State → Outcome → State → Prop := fun _ st o t => (∃ (r : Option zV) (h' : zH), o = .returned (r.map zv) ∧ F r h' ∧ (∀ q : zV, r = some q → zok Y q) ∧ zR Y h' t.heap) ∧ va_F (zA Y sz) st t
def zM {α : Type} (y : MethodName) (b : ByteArray) (nL : Nat) (rt : Option FieldType) (rm : Room) (c : zC α) : Prop := ∀ (l : Launch) (Y : zY) (sz : Nat) (x : α) (h : zH), zWF Y → (∀ q ∈ c.1 x, zok Y q) → c.2.1 x h → Met l y (.code y b nL rt :: zTW) rm (zPc Y sz (c.1 x) h) (zQc Y sz (c.2.2 x h)) 0 0 (zA Y sz)
theorem zPc_blind {Y : zY} {sz : Nat} {av : List zV} {h : zH} : FrameBlind (zPc Y sz av h) := by
  intro a U g mk hp
  obtain ⟨h1, h2, h3, h4, h5, h6⟩ := hp
  exact ⟨h1, h2, h3, va_K.moved (u := U) (U := U.calling g mk a) (Vm.Alike.refl U.vm) h4, zS_moved (s := U) (U := U.calling g mk a) (State.WarmedH.refl U) h6 (fun _ _ => rfl) h5, h6⟩
def zpush : Option zV → List zV → List zV
  | some q, st => q :: st
  | none, st => st
theorem zpush_map (r : Option zV) (st : List zV) : (r.map zv).toList ++ st.map zv = (zpush r st).map zv := by
  cases r <;> rfl
def zpop : Nat → List zV → List zV → (List zV → List zV → Prop) → Prop
  | 0, acc, st, k => k acc st
  | n + 1, acc, v :: st, k => zpop n (v :: acc) st k
  | _ + 1, _, [], _ => False
theorem zpop_spec : ∀ (n : Nat) (acc st : List zV) (k : List zV → List zV → Prop), zpop n acc st k → ∃ bs st' : List zV, st = bs ++ st' ∧ bs.length = n ∧ k (bs.reverse ++ acc) st'
  | 0, acc, st, k, h => ⟨[], st, rfl, rfl, h⟩
  | n + 1, acc, v :: st, k, h => by
    obtain ⟨bs, st', h1, h2, h3⟩ := zpop_spec n (v :: acc) st k h
    exact ⟨v :: bs, st', by rw [h1]; rfl, by simp [h2], by simpa using h3⟩
  | n + 1, acc, [], k, h => False.elim h
/-- a call -/
def zi_c' {α : Type} (n : Nat) (c : zC α) (k : zT) : zT := fun ls st h => zpop n [] st (fun av st' => cond (Nat.ble (zw st') 8) (∃ x : α, av = c.1 x ∧ c.2.1 x h ∧ ∀ (r : Option zV) (h' : zH), c.2.2 x h r h' → k ls (zpush r st') h') False)
/-- a method's words: its code, its class, how many parameters; it makes no cells -/
def zBn (y : MethodName) (b : ByteArray) (nL : Nat) (rt : Option FieldType) (rm : Room) (n : Nat) : Prop := Cond.code y b nL rt ∈ zTW ∧ Cond.initialized y.cls ∈ zTW ∧ (y.cls ≠ "java/lang/invoke/MethodHandle" ∧ y.cls ≠ "java/lang/invoke/VarHandle" ∧ (parseMethodDescriptor y.desc).map (fun d => d.parameters.length) = some n) ∧ rm.cells = 0 ∧ rm.slots = 0
def zVw (ci : Nat) (y : MethodName) : Prop := Cond.instanceMethod y ∈ zTW ∧ Cond.selects y.cls y y ∈ zTW ∧ ∃ (T : u_T) (N : Nat), vwCl[ci]? = some (y.cls, T, N)
theorem zGood {w : Cond} (h : w ∈ zTW) : GoodIn zTW (w :: zTW) := by
  intro z hz
  have h1 : z ∈ zTW := (List.mem_cons.mp hz).elim (fun e => e ▸ h) id
  exact ⟨h1, good_of_word (List.mem_filter.mp h1).2⟩
section ZD
variable {p : Program} {l : Launch} {e : Env} {R : Room} {s : State} {m : MethodId} {args : Array Value} {below : List Frame} {meth : Method} {c : Code} {H : Heap} {locs : List Loc} {cells slots : Nat} {Q : State → Prop}
variable {pc : Nat} {ls : Array Slot} {rest st0 : List Value} {a : Array Value} {Y : zY}
theorem zA_mono {sz sz' q : Nat} (h : sz ≤ sz') (hq : zA Y sz' q) : zA Y sz q := hq.elim Or.inl (fun z => Or.inr (Nat.le_trans h z))
theorem zq_call {F : Option zV → zH → Prop} (hr : va_Run p l e R s m args below meth c H locs cells slots 0 0 (F0 m pc ls st0) rest (zQc Y H.size F a) (zA Y H.size)) (hS : va_S (zA Y s.heap.size) s.heap H locs)
    (kk : ∀ (r : Option zV) (h' : zH) (H1 : Heap) (locs1 : List Loc), F r h' → (∀ q : zV, r = some q → zok Y q) → zR Y h' H1 → H.size ≤ H1.size → (∀ q : Nat, q < H.size → ¬ zA Y H.size q → H1[q]? = H[q]?) → va_S (zA Y s.heap.size) s.heap H1 locs1 → W p l e R s m args below meth c H1 locs1 cells slots Q (F0 m (pc + 3) ls ((r.map zv).toList ++ rest))) : W p l e R s m args below meth c H locs cells slots Q (F0 m pc ls st0) := by
  intro T hT X
  obtain ⟨v, st₀, t, T', L, h0, X', hL, e1, e2, ⟨⟨r, h', hv, hF, hok, hR⟩, hFr⟩, st⟩ := hr T hT X
  cases hv
  obtain ⟨k1, k2, k3⟩ := vx_keep h0 e1 hS (fun q _ h => zA_mono hS.1 h) (fun q h => zA_mono hS.1 h) hL hFr
  obtain ⟨t2, a1, b1⟩ := kk r h' T'.heap (locs ++ L) hF hok (by rw [e1]; exact hR) k1 k2 k3 T' rfl X'
  exact ⟨t2, st t2 a1, b1⟩
end ZD
section ZE
variable {X : zX} {Y : zY} {u v pc : Nat} {cc : ByteArray} {own : String} {k : zT}
theorem zpre {h : zH} {H : Heap} {locs : List Loc} {av : List zV} (O : zOK X Y cc own) (hR : zR Y h H) (hS : va_S (zA Y (xS X).heap.size) (xS X).heap H locs) : ∀ U : State, U.heap = H → (xS X).WarmedH U.vm → zPc Y H.size av h (av.map zv).toArray U := by
  intro U hU hW
  have hlo := zS_lo O.2.2.2.2.2.2.1 O.2.2.2.2.2.2.2 hS
  refine ⟨rfl, by rw [hU], by rw [hU]; exact hR, va_K.moved hW.alike O.2.2.2.2.1, ?_, by rw [hU]; exact Nat.le_trans O.2.2.2.2.2.2.2 hlo.1⟩
  rw [hU]
  exact zS_moved hW O.2.2.2.2.2.2.2 (fun a ha => hlo.2.1 a (Nat.lt_of_lt_of_le ha O.2.2.2.2.2.2.2) (Nat.not_le.mpr ha)) O.2.2.2.2.2.1
theorem zr_cV {α : Type} {c : zC α} {y : MethodName} {b : ByteArray} {nLy idx n ci : Nat} {rty : Option FieldType} {rm : Room} (O : zOK X Y cc own) (hM : zM y b nLy rty rm c) (hB : zBn y b nLy rty rm n) (hV : zVw ci y) (hl : Cond.methodLink own idx y ∈ zTW) (hrc : ∀ x : α, ∃ (j a : Nat) (As : List zV), c.1 x = vR (10 + ci) j a :: As)
    (hr : rm.frames + 1 ≤ (xR X).frames ∧ 8 + (nLy + 11) + rm.locals ≤ (xR X).locals ∧ u ≤ (xR X).cells ∧ v ≤ (xR X).slots) (d : decode cc pc = .ok (.invokevirtual idx, 3)) (hk : zSd X Y u v (pc + 3) k) : zSd X Y u v pc (zi_c' (n + 1) c k) := by
  intro ls st h t H locs lsA hR hL hv hS
  obtain ⟨bs, st', rfl, hbs, t⟩ := zpop_spec _ _ _ _ t
  obtain ⟨b8, x, hx, hP, t⟩ := zcond t
  have hb8 := Nat.le_of_ble_eq_true b8
  rw [List.append_nil] at hx
  obtain ⟨j, a, As, hA⟩ := hrc x
  have hbs2 : bs = As.reverse ++ [vR (10 + ci) j a] := by
    have := congrArg List.reverse (hx.trans hA)
    rw [List.reverse_reverse, List.reverse_cons] at this
    exact this
  have hAn : As.length = n := by rw [hbs2] at hbs; simp at hbs; exact hbs
  have hok : ∀ q ∈ c.1 x, zok Y q := fun q hq => hv q (List.mem_append_left _ (by rw [← hx] at hq; exact List.mem_reverse.mp hq))
  have hka : yK Y a = (10 + ci, j) := hok (vR (10 + ci) j a) (by rw [hA]; exact List.mem_cons_self)
  obtain ⟨r, h1, ⟨cell, g1, g2, g3, -⟩, -⟩ := (hR a).2.2.2.2.2 ci _ hka
  obtain ⟨hVi, hVs, T, N, hVc⟩ := hV
  have hcls := (O.2.2.2.2.1.1 ci _ hVc).2
  have hts := O.2.2.2.1
  have hmap : (c.1 x).map zv = .ref a :: As.map zv := by rw [hA]; rfl
  refine zq_call (F := c.2.2 x h) (a := (.ref a :: As.map zv : List Value).toArray) (rest := st'.map zv) (va_runV (Ts := zTW) (C := y.cls) (b := a) (As := As.map zv) ⟨O.1, O.2.1, rfl, O.2.2.1, hts⟩ (hM X.2.1 Y H.size x h O.2.2.2.2.2.2.1 hok hP) ⟨callB_of n hts (zGood hB.1) rfl hB.2.2.2.1 hB.2.2.2.2 (hts _ hB.2.1) (hts _ hl) hB.2.2.1 ⟨hr.1, hr.2.1⟩, hts _ hVi, hts _ hVs⟩ ⟨zPc_blind, ⟨cell, g1, by rw [g3]; rfl, by rw [g2]; exact hcls.1⟩, fun U hU hW => by rw [← hmap]; exact zpre O hR hS U hU hW⟩ rfl (by simp [hAn]) hL.1.1 (by rw [hbs2]; simp [zv]) (lv_room (by rw [zw_sum]; exact hb8)) d ⟨hr.2.2.1, hr.2.2.2⟩) hS (fun r h' H1 locs1 hF hrok hR1 _ _ hS1 => ?_)
  rw [zpush_map]
  refine hk _ _ _ (t r h' hF) H1 locs1 lsA hR1 hL (fun q hq => ?_) hS1
  cases r with
  | none => exact hv q (List.mem_append_right _ hq)
  | some w => exact (List.mem_cons.mp hq).elim (fun e => e ▸ hrok w rfl) (fun z => hv q (List.mem_append_right _ z))
theorem zr_cS {α : Type} {c : zC α} {y : MethodName} {b : ByteArray} {nLy idx n : Nat} {rty : Option FieldType} {rm : Room} (O : zOK X Y cc own) (hM : zM y b nLy rty rm c) (hB : zBn y b nLy rty rm n) (hst : Cond.static y ∈ zTW) (hl : Cond.methodLink own idx y ∈ zTW)
    (hr : rm.frames + 1 ≤ (xR X).frames ∧ 8 + (nLy + 11) + rm.locals ≤ (xR X).locals ∧ u ≤ (xR X).cells ∧ v ≤ (xR X).slots) (d : decode cc pc = .ok (.invokestatic idx, 3)) (hk : zSd X Y u v (pc + 3) k) : zSd X Y u v pc (zi_c' n c k) := by
  intro ls st h t H locs lsA hR hL hv hS
  obtain ⟨bs, st', rfl, hbs, t⟩ := zpop_spec _ _ _ _ t
  obtain ⟨b8, x, hx, hP, t⟩ := zcond t
  have hb8 := Nat.le_of_ble_eq_true b8
  rw [List.append_nil] at hx
  have hbs2 : bs = (c.1 x).reverse := by rw [← hx, List.reverse_reverse]
  have hAn : (c.1 x).length = n := by rw [← hx, List.length_reverse]; exact hbs
  have hok : ∀ q ∈ c.1 x, zok Y q := fun q hq => hv q (List.mem_append_left _ (by rw [← hx] at hq; exact List.mem_reverse.mp hq))
  have hts := O.2.2.2.1
  refine zq_call (F := c.2.2 x h) (a := ((c.1 x).map zv).toArray) (rest := st'.map zv) (va_runS (Ts := zTW) (As := (c.1 x).map zv) ⟨O.1, O.2.1, rfl, O.2.2.1, hts⟩ (hM X.2.1 Y H.size x h O.2.2.2.2.2.2.1 hok hP) ⟨callB_of n hts (zGood hB.1) rfl hB.2.2.2.1 hB.2.2.2.2 (hts _ hB.2.1) (hts _ hl) hB.2.2.1 ⟨hr.1, hr.2.1⟩, hts _ hst⟩ ⟨zPc_blind, fun U hU hW => zpre O hR hS U hU hW⟩ rfl (by simp [hAn]) hL.1.1 (by rw [hbs2]; simp [zv]) (lv_room (by rw [zw_sum]; exact hb8)) d ⟨hr.2.2.1, hr.2.2.2⟩) hS (fun r h' H1 locs1 hF hrok hR1 _ _ hS1 => ?_)
  rw [zpush_map]
  refine hk _ _ _ (t r h' hF) H1 locs1 lsA hR1 hL (fun q hq => ?_) hS1
  cases r with
  | none => exact hv q (List.mem_append_right _ hq)
  | some w => exact (List.mem_cons.mp hq).elim (fun e => e ▸ hrok w rfl) (fun z => hv q (List.mem_append_right _ z))
theorem zr_cSN {α : Type} {c : zC α} {y : MethodName} {b : ByteArray} {nLy idx n : Nat} {rty : Option FieldType} {rm : Room} {host : String} (O : zOK X Y cc own) (hM : zM y b nLy rty rm c) (hB : zBn y b nLy rty rm n) (hst : Cond.static y ∈ zTW) (hl : (own, idx, y, host) ∈ zNest)
    (hr : rm.frames + 1 ≤ (xR X).frames ∧ 8 + (nLy + 11) + rm.locals ≤ (xR X).locals ∧ u ≤ (xR X).cells ∧ v ≤ (xR X).slots) (d : decode cc pc = .ok (.invokestatic idx, 3)) (hk : zSd X Y u v (pc + 3) k) : zSd X Y u v pc (zi_c' n c k) := by
  intro ls st h t H locs lsA hR hL hv hS
  obtain ⟨bs, st', rfl, hbs, t⟩ := zpop_spec _ _ _ _ t
  obtain ⟨b8, x, hx, hP, t⟩ := zcond t
  have hb8 := Nat.le_of_ble_eq_true b8
  rw [List.append_nil] at hx
  have hbs2 : bs = (c.1 x).reverse := by rw [← hx, List.reverse_reverse]
  have hAn : (c.1 x).length = n := by rw [← hx, List.length_reverse]; exact hbs
  have hok : ∀ q ∈ c.1 x, zok Y q := fun q hq => hv q (List.mem_append_left _ (by rw [← hx] at hq; exact List.mem_reverse.mp hq))
  have hts := O.2.2.2.1
  refine zq_call (F := c.2.2 x h) (a := ((c.1 x).map zv).toArray) (rest := st'.map zv) (va_runSN (Ts := zTW) (As := (c.1 x).map zv) ⟨O.1, O.2.1, rfl, O.2.2.1, hts⟩ (hM X.2.1 Y H.size x h O.2.2.2.2.2.2.1 hok hP) ⟨va_cnB n hts (zGood hB.1) rfl hB.2.2.2.1 hB.2.2.2.2 (O.2.2.2.2.2.1.1 _ hl) (hts _ hB.2.1) hB.2.2.1 ⟨hr.1, hr.2.1⟩, hts _ hst, trivial⟩ ⟨zPc_blind, fun U hU hW => zpre O hR hS U hU hW⟩ rfl (by simp [hAn]) hL.1.1 (by rw [hbs2]; simp [zv]) (lv_room (by rw [zw_sum]; exact hb8)) d ⟨hr.2.2.1, hr.2.2.2⟩) hS (fun r h' H1 locs1 hF hrok hR1 _ _ hS1 => ?_)
  rw [zpush_map]
  refine hk _ _ _ (t r h' hF) H1 locs1 lsA hR1 hL (fun q hq => ?_) hS1
  cases r with
  | none => exact hv q (List.mem_append_right _ hq)
  | some w => exact (List.mem_cons.mp hq).elim (fun e => e ▸ hrok w rfl) (fun z => hv q (List.mem_append_right _ z))
/-! contracts of a simple form, and what a call of them asks -/
/-- an int, nothing changed -/
def zcI {α : Type} (A : α → List zV) (P : α → zH → Prop) (f : α → zH → Int32) : zC α := (A, P, fun x h r h' => r = some (.inl (f x h)) ∧ h' = h)
def zi_cI {α : Type} (n : Nat) (A : α → List zV) (P : α → zH → Prop) (f : α → zH → Int32) (k : zT) : zT := fun ls st h => zpop n [] st (fun av st' => cond (Nat.ble (zw st') 8) (∃ x : α, av = A x ∧ P x h ∧ k ls (.inl (f x h) :: st') h) False)
theorem zpop_mono : ∀ (n : Nat) (acc st : List zV) (k k' : List zV → List zV → Prop), (∀ a b, k a b → k' a b) → zpop n acc st k → zpop n acc st k'
  | 0, _, _, _, _, hk, h => hk _ _ h
  | n + 1, acc, v :: st, k, k', hk, h => zpop_mono n (v :: acc) st k k' hk h
  | _ + 1, _, [], _, _, _, h => h
theorem zcond_mono {b : Bool} {A B : Prop} (h : A → B) (hc : cond b A False) : cond b B False := by
  cases b with
  | true => exact h hc
  | false => exact hc
theorem zr_cI {α : Type} {n : Nat} {A : α → List zV} {P : α → zH → Prop} {f : α → zH → Int32} (hk : zSd X Y u v pc (zi_c' n (zcI A P f) k)) : zSd X Y u v pc (zi_cI n A P f k) := by
  refine zSd_weak hk (fun ls st h t => zpop_mono _ _ _ _ _ (fun av st' hc => zcond_mono ?_ hc) t)
  rintro ⟨x, h1, h2, h3⟩
  exact ⟨x, h1, h2, fun r h' ⟨e1, e2⟩ => by subst e1; subst e2; exact h3⟩
/-- a long, nothing changed -/
def zcL {α : Type} (A : α → List zV) (P : α → zH → Prop) (f : α → zH → Int64) : zC α := (A, P, fun x h r h' => r = some (.inr (.inl (f x h))) ∧ h' = h)
def zi_cL {α : Type} (n : Nat) (A : α → List zV) (P : α → zH → Prop) (f : α → zH → Int64) (k : zT) : zT := fun ls st h => zpop n [] st (fun av st' => cond (Nat.ble (zw st') 8) (∃ x : α, av = A x ∧ P x h ∧ k ls (.inr (.inl (f x h)) :: st') h) False)
theorem zr_cL {α : Type} {n : Nat} {A : α → List zV} {P : α → zH → Prop} {f : α → zH → Int64} (hk : zSd X Y u v pc (zi_c' n (zcL A P f) k)) : zSd X Y u v pc (zi_cL n A P f k) := by
  refine zSd_weak hk (fun ls st h t => zpop_mono _ _ _ _ _ (fun av st' hc => zcond_mono ?_ hc) t)
  rintro ⟨x, h1, h2, h3⟩
  exact ⟨x, h1, h2, fun r h' ⟨e1, e2⟩ => by subst e1; subst e2; exact h3⟩
/-- nothing answered, the heap becomes g -/
def zcV {α : Type} (A : α → List zV) (P : α → zH → Prop) (g : α → zH → zH) : zC α := (A, P, fun x h r h' => r = none ∧ h' = g x h)
def zi_cV {α : Type} (n : Nat) (A : α → List zV) (P : α → zH → Prop) (g : α → zH → zH) (k : zT) : zT := fun ls st h => zpop n [] st (fun av st' => cond (Nat.ble (zw st') 8) (∃ x : α, av = A x ∧ P x h ∧ k ls st' (g x h)) False)
theorem zr_cVv {α : Type} {n : Nat} {A : α → List zV} {P : α → zH → Prop} {g : α → zH → zH} (hk : zSd X Y u v pc (zi_c' n (zcV A P g) k)) : zSd X Y u v pc (zi_cV n A P g k) := by
  refine zSd_weak hk (fun ls st h t => zpop_mono _ _ _ _ _ (fun av st' hc => zcond_mono ?_ hc) t)
  rintro ⟨x, h1, h2, h3⟩
  exact ⟨x, h1, h2, fun r h' ⟨e1, e2⟩ => by subst e1; subst e2; exact h3⟩
/-- an int, and the heap becomes g -/
def zcH {α : Type} (A : α → List zV) (P : α → zH → Prop) (f : α → zH → Int32) (g : α → zH → zH) : zC α := (A, P, fun x h r h' => r = some (.inl (f x h)) ∧ h' = g x h)
def zi_cH {α : Type} (n : Nat) (A : α → List zV) (P : α → zH → Prop) (f : α → zH → Int32) (g : α → zH → zH) (k : zT) : zT := fun ls st h => zpop n [] st (fun av st' => cond (Nat.ble (zw st') 8) (∃ x : α, av = A x ∧ P x h ∧ k ls (.inl (f x h) :: st') (g x h)) False)
theorem zr_cH {α : Type} {n : Nat} {A : α → List zV} {P : α → zH → Prop} {f : α → zH → Int32} {g : α → zH → zH} (hk : zSd X Y u v pc (zi_c' n (zcH A P f g) k)) : zSd X Y u v pc (zi_cH n A P f g k) := by
  refine zSd_weak hk (fun ls st h t => zpop_mono _ _ _ _ _ (fun av st' hc => zcond_mono ?_ hc) t)
  rintro ⟨x, h1, h2, h3⟩
  exact ⟨x, h1, h2, fun r h' ⟨e1, e2⟩ => by subst e1; subst e2; exact h3⟩
/-! ends -/
def zEnd (X : zX) (Y : zY) (rt : Option FieldType) (mc ms : Nat) (F : Option zV → zH → Prop) : Prop := (xH X).sig.returnType = rt ∧ (xH X).locks = false ∧ ∀ (H : Heap) (locs : List Loc) (g : JFrame), W X.1 X.2.1 X.2.2.1 (xR X) (xS X) (xM X) (xA X) (xB X) (xH X) (xC X) H locs mc ms (MQ (xB X) (zQc Y (xS X).heap.size F) (xA X) (xS X) mc ms (zA Y (xS X).heap.size)) g → zW X H locs mc ms g
def zi_iret (F : Option zV → zH → Prop) : zT := fun _ st h => match st with
  | [.inl x] => F (some (.inl x)) h
  | _ => False
def zi_zret (F : Option zV → zH → Prop) : zT := fun _ st h => match st with
  | [.inl x] => (x = 0 ∨ x = 1) ∧ F (some (.inl x)) h
  | _ => False
def zi_lret (F : Option zV → zH → Prop) : zT := fun _ st h => match st with
  | [.inr (.inl x)] => F (some (.inr (.inl x))) h
  | _ => False
def zi_aret (F : Option zV → zH → Prop) : zT := fun _ st h => match st with
  | [.inr (.inr x)] => F (some (.inr (.inr x))) h
  | _ => False
def zi_vret (F : Option zV → zH → Prop) : zT := fun _ st h => match st with
  | [] => F none h
  | _ => False
variable {mc ms : Nat} {F : Option zV → zH → Prop}
theorem zr_ireturn (O : zOK X Y cc own) (E : zEnd X Y (some .int) mc ms F) (hu : u ≤ mc) (hw : v ≤ ms) (d : decode cc pc = .ok (.ireturn, 1)) : zSd X Y u v pc (zi_iret F) := by
  intro ls st h t H locs lsA hR hL hv hS
  rcases st with _ | ⟨x | _, _ | ⟨_, _⟩⟩ <;> first | exact False.elim t | skip
  exact W.widen hu hw (E.2.2 _ _ _ (W.iret O.1 O.2.1 E.1 (fun T hT hW => ⟨⟨some (.inl x), h, rfl, t, fun q hq => by cases hq; trivial, by rw [hT]; exact hR⟩, hS.F hT⟩) hS.2.2 d (hlocks := E.2.1)))
theorem zr_zreturn (O : zOK X Y cc own) (E : zEnd X Y (some .boolean) mc ms F) (hu : u ≤ mc) (hw : v ≤ ms) (d : decode cc pc = .ok (.ireturn, 1)) : zSd X Y u v pc (zi_zret F) := by
  intro ls st h t H locs lsA hR hL hv hS
  rcases st with _ | ⟨x | _, _ | ⟨_, _⟩⟩ <;> first | exact False.elim t | skip
  exact W.widen hu hw (E.2.2 _ _ _ (W.zret O.1 O.2.1 E.1 (by rcases t.1 with e | e <;> rw [e] <;> rfl) (fun T hT hW => ⟨⟨some (.inl x), h, rfl, t.2, fun q hq => by cases hq; trivial, by rw [hT]; exact hR⟩, hS.F hT⟩) hS.2.2 d (hlocks := E.2.1)))
theorem zr_lreturn (O : zOK X Y cc own) (E : zEnd X Y (some .long) mc ms F) (hu : u ≤ mc) (hw : v ≤ ms) (d : decode cc pc = .ok (.lreturn, 1)) : zSd X Y u v pc (zi_lret F) := by
  intro ls st h t H locs lsA hR hL hv hS
  rcases st with _ | ⟨_ | x | _, _ | ⟨_, _⟩⟩ <;> first | exact False.elim t | skip
  exact W.widen hu hw (E.2.2 _ _ _ (W.lret O.1 O.2.1 E.1 (fun T hT hW => ⟨⟨some (.inr (.inl x)), h, rfl, t, fun q hq => by cases hq; trivial, by rw [hT]; exact hR⟩, hS.F hT⟩) hS.2.2 d (hlocks := E.2.1)))
theorem zr_areturn {rt : FieldType} (O : zOK X Y cc own) (E : zEnd X Y (some rt) mc ms F) (hrt : (∃ n, rt = .object n) ∨ ∃ t, rt = .array t) (hu : u ≤ mc) (hw : v ≤ ms) (d : decode cc pc = .ok (.areturn, 1)) : zSd X Y u v pc (zi_aret F) := by
  intro ls st h t H locs lsA hR hL hv hS
  rcases st with _ | ⟨_ | _ | x, _ | ⟨_, _⟩⟩ <;> first | exact False.elim t | skip
  exact W.widen hu hw (E.2.2 _ _ _ (W.aret O.1 O.2.1 E.1 hrt (Or.inr ⟨x.2, rfl⟩) (fun T hT hW => ⟨⟨some (.inr (.inr x)), h, rfl, t, fun q hq => by cases hq; exact (zq1 hv).1, by rw [hT]; exact hR⟩, hS.F hT⟩) hS.2.2 d (hlocks := E.2.1)))
theorem zr_return (O : zOK X Y cc own) (E : zEnd X Y none mc ms F) (hu : u ≤ mc) (hw : v ≤ ms) (d : decode cc pc = .ok (.return_, 1)) : zSd X Y u v pc (zi_vret F) := by
  intro ls st h t H locs lsA hR hL hv hS
  rcases st with _ | ⟨_, _⟩ <;> first | exact False.elim t | skip
  exact W.widen hu hw (E.2.2 _ _ _ (W.vret O.1 O.2.1 E.1 (fun T hT hW => ⟨⟨none, h, rfl, t, (fun q hq => by cases hq), by rw [hT]; exact hR⟩, hS.F hT⟩) hS.2.2 d (hlocks := E.2.1)))
end ZE
/-! a method: its contract out of its walk -/
def znl : List zV → Bool
  | [] => true
  | .inr (.inl _) :: _ => false
  | _ :: l => znl l
def zarg (av : List zV) (nL : Nat) : zL := av.map some ++ List.replicate (nL - av.length) none
theorem zarg_lv : ∀ (av : List zV) (i n : Nat), znl av = true → zlv i (av.map some ++ List.replicate n none) = lv_args i (av.map zv)
  | [], i, n, _ => by
    show zlv i (List.replicate n none) = []
    induction n generalizing i with
    | zero => rfl
    | succ n ih => exact ih (i + 1)
  | .inl x :: l, i, n, h => by
    show (i, zv (.inl x)) :: zlv (i + 1) (l.map some ++ List.replicate n none) = (i, zv (.inl x)) :: lv_args (i + 1) (l.map zv)
    rw [zarg_lv l (i + 1) n h]
  | .inr (.inr x) :: l, i, n, h => by
    show (i, zv (.inr (.inr x))) :: zlv (i + 1) (l.map some ++ List.replicate n none) = (i, zv (.inr (.inr x))) :: lv_args (i + 1) (l.map zv)
    rw [zarg_lv l (i + 1) n h]
  | .inr (.inl x) :: l, i, n, h => by cases h
theorem zarg_sl : ∀ (av : List zV), znl av = true → (lg_sl (av.map zv)).length = av.length
  | [], _ => rfl
  | .inl x :: l, h => by
    have := zarg_sl l h
    simp [lg_sl, zv, Value.category] at this ⊢
    omega
  | .inr (.inr x) :: l, h => by
    have := zarg_sl l h
    simp [lg_sl, zv, Value.category] at this ⊢
    omega
  | .inr (.inl x) :: l, h => by cases h
theorem zentry {X : zX} {Y : zY} {T : zT} {av : List zV} {nL : Nat} {h : zH} {Q : Nat} (hs : zSd X Y 0 0 0 T) (t : T (zarg av nL) [] h) (hnl : znl av = true) (hlen : av.length ≤ nL) (hml : (xC X).maxLocals = nL) (hok : ∀ q ∈ av, zok Y q) (hR : zR Y h (xS X).heap) : zW X (xS X).heap [] 0 0 (entryFrame (xM X) (av.map zv).toArray nL) := by
  rw [lg_entry_eq]
  have hl := lv_entry (av.map zv) (n := nL) (by rw [zarg_sl av hnl]; exact hlen)
  refine hs _ _ _ t _ _ _ hR ⟨?_, ?_, fun j v hj => ?_⟩ (fun q hq => by cases hq) va_S.rf
  · rw [zarg, zarg_lv av 0 _ hnl, hml]
    exact hl
  · rw [zarg, hml]
    simp
    omega
  · have hm : (some v : Option zV) ∈ zarg av nL := List.mem_of_getElem? hj
    rw [zarg] at hm
    rcases List.mem_append.mp hm with h1 | h1
    · obtain ⟨q, hq, e⟩ := List.mem_map.mp h1
      cases e
      exact hok _ hq
    · have := (List.mem_replicate.mp h1).2
      cases this
theorem zM_of {α : Type} {y : MethodName} {b : ByteArray} {nL : Nat} {rt : Option FieldType} {rm : Room} {c : zC α} (hy : plainName y.cls = true)
    (hb : ∀ (X : zX) (Y : zY) (x : α) (h : zH), c.2.1 x h → zOK X Y b y.cls → zEnd X Y rt 0 0 (c.2.2 x h) → xR X = rm → znl (c.1 x) = true ∧ (c.1 x).length ≤ nL ∧ ∃ T : zT, zSd X Y 0 0 0 T ∧ T (zarg (c.1 x) nL) [] h) : zM y b nL rt rm c := by
  intro l Y sz x h hF hok hP
  refine Met.ofW (cc := b) (maxL := nL) (ret := rt) hy rfl ?_
  intro p e s m args below meth cd s₁ B hml hv
  obtain ⟨rfl, rfl, hR, hK, hS, hlo⟩ := hv
  have hts := atoms_spec (ws := .code y b nL rt :: zTW) B.pre
  obtain ⟨hnl, hlen, T, hs, t⟩ := hb (p, l, e, rm, s, m, ((c.1 x).map zv).toArray, below, meth, cd, MQ below (zQc Y s.heap.size (c.2.2 x h)) ((c.1 x).map zv).toArray s 0 0 (zA Y s.heap.size)) Y x h hP ⟨B.exec, B.bytes, findClass_of_methodNamed B.named, fun w hw => hts w (List.mem_cons_of_mem _ hw), hK, hS, hF, hlo⟩ ⟨B.returns, B.notSynchronized, fun H locs g w => w⟩ rfl
  exact zentry (Q := 0) hs t hnl hlen hml hok hR
end
section
/-! plain facts on numbers and arrays, to paste: each family by itself; over the kit's rows on nI and upd -/
/-! ===== order of ints, in all its forms, and through longs ===== -/
theorem fa_lt (a b : Int32) : a < b ↔ a.toInt < b.toInt := Int32.lt_iff_toInt_lt
theorem fa_le (a b : Int32) : a ≤ b ↔ a.toInt ≤ b.toInt := Int32.le_iff_toInt_le
theorem fa_eq (a b : Int32) : a = b ↔ a.toInt = b.toInt := Int32.toInt_inj.symm
theorem fa_lt64 (a b : Int64) : a < b ↔ a.toInt < b.toInt := Int64.lt_iff_toInt_lt
theorem fa_le64 (a b : Int64) : a ≤ b ↔ a.toInt ≤ b.toInt := Int64.le_iff_toInt_le
theorem fa_eq64 (a b : Int64) : a = b ↔ a.toInt = b.toInt := Int64.toInt_inj.symm
/-- a comparison of two ints taken as longs -/
theorem fa_wide_lt (a b : Int32) : a.toInt64 < b.toInt64 ↔ a < b := by rw [fa_lt64, fa_lt, Int32.toInt_toInt64, Int32.toInt_toInt64]
theorem fa_wide_le (a b : Int32) : a.toInt64 ≤ b.toInt64 ↔ a ≤ b := by rw [fa_le64, fa_le, Int32.toInt_toInt64, Int32.toInt_toInt64]
theorem fa_wide_eq (a b : Int32) : a.toInt64 = b.toInt64 ↔ a = b := by rw [fa_eq64, fa_eq, Int32.toInt_toInt64, Int32.toInt_toInt64]
/-- one strict comparison gives all the others -/
theorem fa_of_lt {a b : Int32} (h : a < b) : a ≤ b ∧ ¬ b ≤ a ∧ ¬ b < a ∧ a ≠ b ∧ b ≠ a := by
  rw [fa_lt] at h
  refine ⟨?_, ?_, ?_, ?_, ?_⟩
  · rw [fa_le]; omega
  · rw [fa_le]; omega
  · rw [fa_lt]; omega
  · intro e; rw [fa_eq] at e; omega
  · intro e; rw [fa_eq] at e; omega
theorem fa_of_nlt {a b : Int32} (h : ¬ a < b) : b ≤ a := by
  rw [fa_lt] at h
  rw [fa_le]
  omega
theorem fa_of_nle {a b : Int32} (h : ¬ a ≤ b) : b < a := by
  rw [fa_le] at h
  rw [fa_lt]
  omega
theorem fa_le_ne {a b : Int32} (h : a ≤ b) (h2 : a ≠ b) : a < b := by
  rw [fa_le] at h
  rw [fa_lt]
  have h3 : a.toInt ≠ b.toInt := fun e => h2 ((fa_eq a b).mpr e)
  omega
theorem fa_three (a b : Int32) : a < b ∨ a = b ∨ b < a := by
  rw [fa_lt, fa_lt, fa_eq]
  omega
theorem fa_trans {a b c : Int32} (h : a < b) (h2 : b ≤ c) : a < c := by
  rw [fa_lt] at *
  rw [fa_le] at h2
  omega
/-! ===== small literals as numbers ===== -/
theorem fa_lit (n : Nat) : (OfNat.ofNat n : Int32) = nI n := rfl
theorem fa_litL (n : Nat) : (OfNat.ofNat n : Int64) = lN n := rfl
/-! ===== bits of a number: 'or', masks, one bit ===== -/
theorem fa_and (a b : Nat) : nI a &&& nI b = nI (a &&& b) := by
  apply Int32.toBitVec_inj.1
  show BitVec.ofNat 32 a &&& BitVec.ofNat 32 b = BitVec.ofNat 32 (a &&& b)
  apply BitVec.eq_of_getLsbD_eq
  intro i hi
  simp [hi]
theorem fa_or (a b : Nat) : nI a ||| nI b = nI (a ||| b) := by
  apply Int32.toBitVec_inj.1
  show BitVec.ofNat 32 a ||| BitVec.ofNat 32 b = BitVec.ofNat 32 (a ||| b)
  apply BitVec.eq_of_getLsbD_eq
  intro i hi
  simp [hi]
/-- a remainder by a power of two, as a mask -/
theorem fa_mask (n k : Nat) : nI n &&& nI (2 ^ k - 1) = nI (n % 2 ^ k) := by rw [fa_and, Nat.and_two_pow_sub_one_eq_mod]
/-- 'or' of a high part and a low one that don't meet is their sum -/
theorem fa_or_sum {a k : Nat} (b : Nat) (h : a < 2 ^ k) : nI (2 ^ k * b) ||| nI a = nI (2 ^ k * b + a) := by rw [fa_or, Nat.two_pow_add_eq_or_of_lt h]
/-- one bit, by 'and' with a power of two -/
theorem fa_bit {n j : Nat} (hj : j < 31) : nI n &&& nI (2 ^ j) = 0 ↔ n.testBit j = false := by
  have h2 : (2 : Nat) ^ j < 2 ^ 31 := Nat.pow_lt_pow_right (by decide) hj
  have hle : n &&& 2 ^ j ≤ 2 ^ j := Nat.and_le_right
  have e : n &&& 2 ^ j = 0 ↔ n.testBit j = false := by
    constructor
    · intro h
      have h1 : (n &&& 2 ^ j).testBit j = false := by rw [h]; simp
      rw [Nat.testBit_and] at h1
      first | simpa using h1 | simpa [Nat.testBit_two_pow_self] using h1 | simpa [Nat.testBit_two_pow] using h1
    · intro h
      apply Nat.eq_of_testBit_eq
      intro i
      rw [Nat.testBit_and]
      by_cases hi : j = i
      · subst hi; simp [h]
      · first | (simp [Nat.testBit_two_pow, hi]; done) | (simp [Nat.testBit_two_pow_of_ne hi]; done)
  rw [fa_and]
  constructor
  · intro h
    apply e.mp
    rcases Nat.eq_zero_or_pos (n &&& 2 ^ j) with z | z
    · exact z
    · exact absurd h (nI_ne0 z (Nat.lt_of_le_of_lt hle h2))
  · intro h
    rw [e.mpr h]; exact nI_0
/-- a remainder by a power of two of a number that isn't negative, as Java divides -/
theorem fa_rem {a k : Nat} (ha : a < 2 ^ 31) (hk : k < 31) : nI a - nI a / nI (2 ^ k) * nI (2 ^ k) = nI (a % 2 ^ k) := pk_rem ha (Nat.two_pow_pos k) (Nat.pow_lt_pow_right (by decide) hk)
/-! ===== cuts to a byte, a short ===== -/
theorem fa_byte_xor (x y : Int32) : (x ^^^ y).toInt8 = x.toInt8 ^^^ y.toInt8 := by
  apply Int8.toBitVec_inj.1
  apply BitVec.eq_of_getLsbD_eq
  intro i hi
  first | (simp [hi]; done) | (simp [hi, BitVec.getLsbD_setWidth, BitVec.getLsbD_signExtend]; done)
theorem fa_short_xor (x y : Int32) : (x ^^^ y).toInt16 = x.toInt16 ^^^ y.toInt16 := by
  apply Int16.toBitVec_inj.1
  apply BitVec.eq_of_getLsbD_eq
  intro i hi
  first | (simp [hi]; done) | (simp [hi, BitVec.getLsbD_setWidth, BitVec.getLsbD_signExtend]; done)
/-- the cut to a byte sees the low byte alone -/
theorem fa_byte_low (x : Int32) : (x &&& 255).toInt8 = x.toInt8 := by
  apply Int8.toBitVec_inj.1
  apply BitVec.eq_of_getLsbD_eq
  intro i hi
  have h2 : (255 : Int32).toBitVec.getLsbD i = true := by
    have : ∀ j : Fin 8, (255 : Int32).toBitVec.getLsbD j.val = true := by decide +kernel
    exact this ⟨i, hi⟩
  have h4 : (x &&& 255).toBitVec.getLsbD i = x.toBitVec.getLsbD i := by
    show (x.toBitVec &&& (255 : Int32).toBitVec).getLsbD i = _
    rw [BitVec.getLsbD_and, h2, Bool.and_true]
  have h3 : i < 32 := by omega
  first
    | (show (((x &&& 255).toBitVec).signExtend 8).getLsbD i = (x.toBitVec.signExtend 8).getLsbD i; rw [BitVec.getLsbD_signExtend, BitVec.getLsbD_signExtend, if_pos h3, if_pos h3, h4])
    | (show (((x &&& 255).toBitVec).setWidth 8).getLsbD i = (x.toBitVec.setWidth 8).getLsbD i; rw [BitVec.getLsbD_setWidth, BitVec.getLsbD_setWidth, h4])
    | (simp [hi, h3, h4]; done)
theorem fa_short_low (x : Int32) : (x &&& 65535).toInt16 = x.toInt16 := by
  apply Int16.toBitVec_inj.1
  apply BitVec.eq_of_getLsbD_eq
  intro i hi
  have h2 : (65535 : Int32).toBitVec.getLsbD i = true := by
    have : ∀ j : Fin 16, (65535 : Int32).toBitVec.getLsbD j.val = true := by decide +kernel
    exact this ⟨i, hi⟩
  have h4 : (x &&& 65535).toBitVec.getLsbD i = x.toBitVec.getLsbD i := by
    show (x.toBitVec &&& (65535 : Int32).toBitVec).getLsbD i = _
    rw [BitVec.getLsbD_and, h2, Bool.and_true]
  have h3 : i < 32 := by omega
  first
    | (show (((x &&& 65535).toBitVec).signExtend 16).getLsbD i = (x.toBitVec.signExtend 16).getLsbD i; rw [BitVec.getLsbD_signExtend, BitVec.getLsbD_signExtend, if_pos h3, if_pos h3, h4])
    | (show (((x &&& 65535).toBitVec).setWidth 16).getLsbD i = (x.toBitVec.setWidth 16).getLsbD i; rw [BitVec.getLsbD_setWidth, BitVec.getLsbD_setWidth, h4])
    | (simp [hi, h3, h4]; done)
/-- a small number is its own byte, its own short -/
theorem fa_byte_small {n : Nat} (h : n < 128) : (nI n).toInt8.toInt32 = nI n := by
  have : ∀ j : Fin 128, (nI j.val).toInt8.toInt32 = nI j.val := by decide +kernel
  exact this ⟨n, h⟩
/-! ===== absolute difference ===== -/
theorem fa_absdiff {a b : Nat} (ha : a < 2 ^ 31) (hb : b < 2 ^ 31) : (if nI a < nI b then nI b - nI a else nI a - nI b) = nI (if a < b then b - a else a - b) := by
  by_cases h : a < b
  · rw [if_pos (nI_lt h hb), if_pos h]
    exact pk_sub (Nat.le_of_lt h)
  · rw [if_neg (nI_nlt (Nat.le_of_not_lt h) ha), if_neg h]
    exact pk_sub (Nat.le_of_not_lt h)
/-! ===== an array behind i stores, a conditional store, a row copied ===== -/
/-- f where k < i, what stood there else -/
def fa_fill {α : Type} (f g : Nat → α) (i : Nat) : Nat → α := fun k => if k < i then f k else g k
theorem fa_fill_0 {α : Type} (f g : Nat → α) : fa_fill f g 0 = g := funext fun k => if_neg (Nat.not_lt_zero k)
theorem fa_fill_in {α : Type} {f g : Nat → α} {i k : Nat} (h : k < i) : fa_fill f g i k = f k := if_pos h
theorem fa_fill_out {α : Type} {f g : Nat → α} {i k : Nat} (h : i ≤ k) : fa_fill f g i k = g k := if_neg (Nat.not_lt.mpr h)
theorem fa_fill_succ (f g : Nat → Int32) (i : Nat) : upd (fa_fill f g i) i (f i) = fa_fill f g (i + 1) := by
  funext k
  by_cases e : k = i
  · subst e
    rw [pk_us]
    exact (if_pos (Nat.lt_succ_self k)).symm
  · rw [pk_un e]
    by_cases h : k < i
    · rw [fa_fill_in h, fa_fill_in (Nat.lt_succ_of_lt h)]
    · rw [fa_fill_out (Nat.le_of_not_lt h), fa_fill_out (by omega)]
/-- a store that changes nothing -/
theorem fa_upd_same {f : Nat → Int32} {i : Nat} {x : Int32} (h : f i = x) : upd f i x = f := by
  funext k
  by_cases e : k = i
  · subst e
    rw [pk_us, h]
  · rw [pk_un e]
/-- a store under a condition, told as one -/
theorem fa_upd_if (c : Prop) [Decidable c] (f : Nat → Int32) (i : Nat) (x : Int32) : (if c then upd f i x else f) = upd f i (if c then x else f i) := by
  by_cases h : c
  · rw [if_pos h, if_pos h]
  · rw [if_neg h, if_neg h, fa_upd_same rfl]
/-- two stores at one place, at two -/
theorem fa_upd_twice (f : Nat → Int32) (i : Nat) (x y : Int32) : upd (upd f i x) i y = upd f i y := by
  funext k
  by_cases e : k = i
  · subst e
    rw [pk_us, pk_us]
  · rw [pk_un e, pk_un e, pk_un e]
theorem fa_upd_swap (f : Nat → Int32) {i j : Nat} (h : i ≠ j) (x y : Int32) : upd (upd f i x) j y = upd (upd f j y) i x := by
  funext k
  by_cases e : k = i
  · subst e
    rw [pk_un h, pk_us, pk_us]
  · by_cases e2 : k = j
    · subst e2
      rw [pk_us, pk_un e, pk_us]
    · rw [pk_un e2, pk_un e, pk_un e, pk_un e2]
/-! ===== the first index with a property; a count ===== -/
/-- the first k < n with p k, n if there is none -/
def fa_first (p : Nat → Bool) : Nat → Nat
  | 0 => 0
  | n + 1 => if fa_first p n < n then fa_first p n else if p n then n else n + 1
theorem fa_first_le (p : Nat → Bool) : ∀ n, fa_first p n ≤ n
  | 0 => Nat.le_refl 0
  | n + 1 => by
    have ih := fa_first_le p n
    unfold fa_first
    split
    · omega
    · split
      · omega
      · omega
theorem fa_first_no (p : Nat → Bool) : ∀ n k, k < fa_first p n → p k = false
  | 0, k, h => absurd h (Nat.not_lt_zero k)
  | n + 1, k, h => by
    have ih := fa_first_no p n
    have hl := fa_first_le p n
    unfold fa_first at h
    split at h
    · exact ih k h
    · rename_i h1
      split at h
      · exact ih k (by omega)
      · rename_i h2
        by_cases e : k = n
        · subst e
          exact Bool.eq_false_iff.mpr h2
        · exact ih k (by omega)
theorem fa_first_yes (p : Nat → Bool) : ∀ n, fa_first p n < n → p (fa_first p n) = true
  | 0, h => absurd h (Nat.not_lt_zero _)
  | n + 1, h => by
    have ih := fa_first_yes p n
    have hl := fa_first_le p n
    unfold fa_first at h ⊢
    split at h
    · rename_i h1
      rw [if_pos h1]
      exact ih h1
    · rename_i h1
      rw [if_neg h1]
      split at h
      · rename_i h2
        rw [if_pos h2]
        exact h2
      · omega
/-- how many k < n have p k -/
def fa_cnt (p : Nat → Bool) : Nat → Nat
  | 0 => 0
  | n + 1 => fa_cnt p n + if p n then 1 else 0
theorem fa_cnt_le (p : Nat → Bool) : ∀ n, fa_cnt p n ≤ n
  | 0 => Nat.le_refl 0
  | n + 1 => by
    have ih := fa_cnt_le p n
    unfold fa_cnt
    split
    · omega
    · omega
theorem fa_cnt_yes {p : Nat → Bool} {n : Nat} (h : p n = true) : fa_cnt p (n + 1) = fa_cnt p n + 1 := by rw [fa_cnt, if_pos h]
theorem fa_cnt_no {p : Nat → Bool} {n : Nat} (h : p n = false) : fa_cnt p (n + 1) = fa_cnt p n := by rw [fa_cnt, if_neg (by rw [h]; decide)]; rfl
theorem fa_cnt_cong {p q : Nat → Bool} : ∀ {n : Nat}, (∀ k, k < n → p k = q k) → fa_cnt p n = fa_cnt q n
  | 0, _ => rfl
  | n + 1, h => by rw [fa_cnt, fa_cnt, fa_cnt_cong (fun k hk => h k (Nat.lt_succ_of_lt hk)), h n (Nat.lt_succ_self n)]
/-! ===== an answer carried into a post; a branch on a boolean answer ===== -/
theorem fa_post {α : Type} {P : α → Prop} {x y : α} (h : x = y) (hp : P y) : P x := h ▸ hp
theorem fa_post2 {α β : Type} {P : α → β → Prop} {x y : α} {u v : β} (h : x = y) (h2 : u = v) (hp : P y v) : P x u := h ▸ h2 ▸ hp
theorem fa_bool {r : Int32} {b : Bool} (h : r = if b then 1 else 0) : (r = 0 ↔ b = false) ∧ (¬ r = 0 ↔ b = true) := by
  subst h
  cases b
  · exact ⟨⟨fun _ => rfl, fun _ => rfl⟩, ⟨fun h => absurd rfl h, fun h => absurd h (by decide)⟩⟩
  · exact ⟨⟨fun h => absurd h (by decide), fun h => absurd h (by decide)⟩, ⟨fun _ => rfl, fun _ => by decide⟩⟩
/-- a boolean's narrowing changes nothing -/
theorem fa_bool_and {r : Int32} (h : r = 0 ∨ r = 1) : r &&& 1 = r := by
  rcases h with rfl | rfl
  · decide
  · decide
theorem fa_bool_prop {c : Prop} [Decidable c] {r : Int32} (h : r = if c then 1 else 0) : (r = 0 ↔ ¬ c) ∧ (¬ r = 0 ↔ c) := by
  subst h
  by_cases hc : c
  · rw [if_pos hc]
    exact ⟨⟨fun h => absurd h (by decide), fun h => absurd hc h⟩, ⟨fun _ => hc, fun _ => by decide⟩⟩
  · rw [if_neg hc]
    exact ⟨⟨fun _ => hc, fun _ => rfl⟩, ⟨fun h => absurd rfl h, fun h => absurd h hc⟩⟩
end
section
/-! plain facts to paste, each family by itself; over the kit's nI, lN and upd -/
/-! ===== drawers: more things than places ===== -/
theorem fb_holes : ∀ (m n : Nat) (f : Nat → Nat), (∀ i, i < n → f i < m) → (∀ i j, i < j → j < n → f i ≠ f j) → n ≤ m := by
  intro m
  induction m with
  | zero =>
    intro n f h1 _
    rcases Nat.eq_zero_or_pos n with h | h
    · omega
    · exact absurd (h1 0 h) (Nat.not_lt_zero _)
  | succ m ih =>
    intro n f h1 h2
    by_cases hx : ∃ i, i < n ∧ f i = m
    · obtain ⟨a, ha, hfa⟩ := hx
      have hg := ih (n - 1) (fun i => if i < a then f i else f (i + 1)) (by
        intro i hi
        by_cases q : i < a
        · simp only [if_pos q]
          have b1 := h1 i (by omega)
          have b2 := h2 i a q ha
          omega
        · simp only [if_neg q]
          have b1 := h1 (i + 1) (by omega)
          have b2 := h2 a (i + 1) (by omega) (by omega)
          omega) (by
        intro i j hij hj
        by_cases q : i < a
        · by_cases r : j < a
          · simp only [if_pos q, if_pos r]
            exact h2 i j hij (by omega)
          · simp only [if_pos q, if_neg r]
            exact h2 i (j + 1) (by omega) (by omega)
        · have r : ¬ j < a := by omega
          simp only [if_neg q, if_neg r]
          exact h2 (i + 1) (j + 1) (by omega) (by omega))
      omega
    · have hg := ih n f (fun i hi => by
        have b1 := h1 i hi
        have b2 : f i ≠ m := fun e => hx ⟨i, hi, e⟩
        omega) h2
      omega
/-- two of them in one place -/
theorem fb_twice {m n : Nat} {f : Nat → Nat} (h : ∀ i, i < n → f i < m) (hm : m < n) : ∃ i j, i < j ∧ j < n ∧ f i = f j := by
  refine Classical.byContradiction fun hx => ?_
  have := fb_holes m n f h (fun i j hij hj e => hx ⟨i, j, hij, hj, e⟩)
  omega
/-- as many as places, none twice: each place is taken -/
theorem fb_onto {n : Nat} {f : Nat → Nat} (h : ∀ i, i < n → f i < n) (h2 : ∀ i j, i < j → j < n → f i ≠ f j) {y : Nat} (hy : y < n) : ∃ i, i < n ∧ f i = y := by
  refine Classical.byContradiction fun hx => ?_
  have hne : ∀ i, i < n → f i ≠ y := fun i hi e => hx ⟨i, hi, e⟩
  have := fb_holes (n - 1) n (fun i => if f i < y then f i else f i - 1) (by
    intro i hi
    have b1 := h i hi
    have b2 := hne i hi
    by_cases q : f i < y
    · simp only [if_pos q]; omega
    · simp only [if_neg q]; omega) (by
    intro i j hij hj
    have b1 := hne i (by omega)
    have b2 := hne j hj
    have b3 := h2 i j hij hj
    by_cases q : f i < y
    · by_cases r : f j < y
      · simp only [if_pos q, if_pos r]; exact b3
      · simp only [if_pos q, if_neg r]; omega
    · by_cases r : f j < y
      · simp only [if_neg q, if_pos r]; omega
      · simp only [if_neg q, if_neg r]; omega)
  omega
/-! ===== how many places have a property ===== -/
def fb_ct (p : Nat → Bool) : Nat → Nat
  | 0 => 0
  | n + 1 => fb_ct p n + (if p n then 1 else 0)
theorem fb_ct_succ (p : Nat → Bool) (n : Nat) : fb_ct p (n + 1) = fb_ct p n + (if p n then 1 else 0) := rfl
theorem fb_ct_le (p : Nat → Bool) : ∀ n, fb_ct p n ≤ n
  | 0 => Nat.le_refl _
  | n + 1 => by
    have h := fb_ct_le p n
    rw [fb_ct_succ]
    split <;> omega
theorem fb_ct_step (p : Nat → Bool) (m : Nat) : ∀ n, fb_ct p m ≤ fb_ct p (m + n)
  | 0 => Nat.le_refl _
  | n + 1 => by
    have h := fb_ct_step p m n
    show fb_ct p m ≤ fb_ct p (m + n + 1)
    rw [fb_ct_succ]
    omega
theorem fb_ct_mono (p : Nat → Bool) {m n : Nat} (h : m ≤ n) : fb_ct p m ≤ fb_ct p n := by
  have := fb_ct_step p m (n - m)
  rwa [Nat.add_sub_cancel' h] at this
theorem fb_ct_cong {p q : Nat → Bool} : ∀ {n : Nat}, (∀ k, k < n → p k = q k) → fb_ct p n = fb_ct q n
  | 0, _ => rfl
  | n + 1, h => by
    rw [fb_ct_succ, fb_ct_succ, fb_ct_cong (fun k hk => h k (by omega)), h n (by omega)]
/-- one place changed -/
theorem fb_ct_out (p : Nat → Bool) (b : Bool) {i n : Nat} (h : n ≤ i) : fb_ct (fun k => if k = i then b else p k) n = fb_ct p n :=
  fb_ct_cong fun k hk => if_neg (by omega)
theorem fb_ct_upd (p : Nat → Bool) (b : Bool) {i : Nat} : ∀ {n : Nat}, i < n → fb_ct (fun k => if k = i then b else p k) n + (if p i then 1 else 0) = fb_ct p n + (if b then 1 else 0)
  | 0, h => absurd h (Nat.not_lt_zero i)
  | n + 1, h => by
    rw [fb_ct_succ, fb_ct_succ]
    rcases Nat.lt_or_ge i n with q | q
    · have := fb_ct_upd p b q
      have e : (if n = i then b else p n) = p n := if_neg (by omega)
      rw [e]
      omega
    · have e : i = n := by omega
      subst e
      rw [fb_ct_out p b (Nat.le_refl _)]
      simp only [if_true]
      omega
theorem fb_ct_sub {p q : Nat → Bool} : ∀ {n : Nat}, (∀ k, k < n → p k = true → q k = true) → fb_ct p n ≤ fb_ct q n
  | 0, _ => Nat.le_refl _
  | n + 1, h => by
    have h1 := fb_ct_sub (n := n) (p := p) (q := q) (fun k hk => h k (by omega))
    have h2 := h n (by omega)
    rw [fb_ct_succ, fb_ct_succ]
    cases hp : p n <;> cases hq : q n <;> simp_all <;> omega
theorem fb_ct_or {p q : Nat → Bool} : ∀ {n : Nat}, (∀ k, k < n → ¬ (p k = true ∧ q k = true)) → fb_ct (fun k => p k || q k) n = fb_ct p n + fb_ct q n
  | 0, _ => rfl
  | n + 1, h => by
    have h1 := fb_ct_or (n := n) (p := p) (q := q) (fun k hk => h k (by omega))
    have h2 := h n (by omega)
    rw [fb_ct_succ, fb_ct_succ, fb_ct_succ, h1]
    cases hp : p n <;> cases hq : q n <;> simp_all <;> omega
theorem fb_ct_not (p : Nat → Bool) : ∀ n, fb_ct p n + fb_ct (fun k => !p k) n = n
  | 0 => rfl
  | n + 1 => by
    have h := fb_ct_not p n
    rw [fb_ct_succ, fb_ct_succ]
    cases p n <;> simp <;> omega
theorem fb_ct_split (p : Nat → Bool) (m : Nat) : ∀ n, fb_ct p (m + n) = fb_ct p m + fb_ct (fun k => p (m + k)) n
  | 0 => rfl
  | n + 1 => by
    have h := fb_ct_split p m n
    show fb_ct p (m + n + 1) = _
    rw [fb_ct_succ, fb_ct_succ, h, Nat.add_assoc]
theorem fb_ct_zero {p : Nat → Bool} : ∀ {n : Nat}, fb_ct p n = 0 ↔ ∀ k, k < n → p k = false
  | 0 => ⟨fun _ k hk => absurd hk (Nat.not_lt_zero k), fun _ => rfl⟩
  | n + 1 => by
    have h := fb_ct_zero (p := p) (n := n)
    rw [fb_ct_succ]
    constructor
    · intro e k hk
      have e1 : fb_ct p n = 0 := by omega
      rcases Nat.lt_or_ge k n with q | q
      · exact h.mp e1 k q
      · have ek : k = n := by omega
        subst ek
        cases hp : p k
        · rfl
        · simp [hp] at e
    · intro a
      rw [h.mpr (fun k hk => a k (by omega)), a n (by omega)]
      rfl
theorem fb_ct_pos {p : Nat → Bool} {n : Nat} : 0 < fb_ct p n ↔ ∃ k, k < n ∧ p k = true := by
  constructor
  · intro h
    refine Classical.byContradiction fun hx => ?_
    have := fb_ct_zero.mpr (fun k hk => by
      cases hp : p k
      · rfl
      · exact absurd ⟨k, hk, hp⟩ hx : ∀ k, k < n → p k = false)
    omega
  · rintro ⟨k, hk, hp⟩
    rcases Nat.eq_zero_or_pos (fb_ct p n) with e | e
    · have := fb_ct_zero.mp e k hk
      rw [this] at hp
      cases hp
    · exact e
theorem fb_ct_all {p : Nat → Bool} {n : Nat} : fb_ct p n = n ↔ ∀ k, k < n → p k = true := by
  have h := fb_ct_not p n
  constructor
  · intro e k hk
    have z : fb_ct (fun k => !p k) n = 0 := by omega
    have := fb_ct_zero.mp z k hk
    cases hp : p k
    · simp [hp] at this
    · rfl
  · intro a
    have z : fb_ct (fun k => !p k) n = 0 := fb_ct_zero.mpr (fun k hk => by simp [a k hk])
    omega
/-- the k-th place with the property -/
theorem fb_ct_kth {p : Nat → Bool} {k : Nat} : ∀ {n : Nat}, k < fb_ct p n → ∃ i, i < n ∧ p i = true ∧ fb_ct p i = k
  | 0, h => absurd h (Nat.not_lt_zero k)
  | n + 1, h => by
    rcases Nat.lt_or_ge k (fb_ct p n) with q | q
    · obtain ⟨i, h1, h2⟩ := fb_ct_kth q
      exact ⟨i, by omega, h2⟩
    · rw [fb_ct_succ] at h
      cases hp : p n
      · simp [hp] at h; omega
      · simp [hp] at h
        exact ⟨n, by omega, hp, by omega⟩
theorem fb_ct_kth_one {p : Nat → Bool} {i j : Nat} (hi : p i = true) (hj : p j = true) (e : fb_ct p i = fb_ct p j) : i = j := by
  have key : ∀ a b : Nat, a < b → p a = true → fb_ct p a < fb_ct p b := by
    intro a b hab ha
    have h := fb_ct_mono p (show a + 1 ≤ b from hab)
    rw [fb_ct_succ, ha] at h
    simp at h
    omega
  rcases Nat.lt_trichotomy i j with q | q | q
  · have := key i j q hi; omega
  · exact q
  · have := key j i q hj; omega
/-! ===== sums over a range: one place changed, parts, bounds ===== -/
def fb_sm (f : Nat → Nat) : Nat → Nat
  | 0 => 0
  | n + 1 => fb_sm f n + f n
theorem fb_sm_succ (f : Nat → Nat) (n : Nat) : fb_sm f (n + 1) = fb_sm f n + f n := rfl
theorem fb_sm_cong {f g : Nat → Nat} : ∀ {n : Nat}, (∀ k, k < n → f k = g k) → fb_sm f n = fb_sm g n
  | 0, _ => rfl
  | n + 1, h => by rw [fb_sm_succ, fb_sm_succ, fb_sm_cong (fun k hk => h k (by omega)), h n (by omega)]
theorem fb_sm_out (f : Nat → Nat) (v : Nat) {i n : Nat} (h : n ≤ i) : fb_sm (fun k => if k = i then v else f k) n = fb_sm f n :=
  fb_sm_cong fun k hk => if_neg (by omega)
theorem fb_sm_upd (f : Nat → Nat) (v : Nat) {i : Nat} : ∀ {n : Nat}, i < n → fb_sm (fun k => if k = i then v else f k) n + f i = fb_sm f n + v
  | 0, h => absurd h (Nat.not_lt_zero i)
  | n + 1, h => by
    rw [fb_sm_succ, fb_sm_succ]
    rcases Nat.lt_or_ge i n with q | q
    · have := fb_sm_upd f v q
      have e : (if n = i then v else f n) = f n := if_neg (by omega)
      rw [e]
      omega
    · have e : i = n := by omega
      subst e
      rw [fb_sm_out f v (Nat.le_refl _)]
      simp only [if_true]
      omega
theorem fb_sm_add (f g : Nat → Nat) : ∀ n, fb_sm (fun k => f k + g k) n = fb_sm f n + fb_sm g n
  | 0 => rfl
  | n + 1 => by
    have h := fb_sm_add f g n
    rw [fb_sm_succ, fb_sm_succ, fb_sm_succ, h]
    omega
theorem fb_sm_le {f g : Nat → Nat} : ∀ {n : Nat}, (∀ k, k < n → f k ≤ g k) → fb_sm f n ≤ fb_sm g n
  | 0, _ => Nat.le_refl _
  | n + 1, h => by
    have h1 := fb_sm_le (n := n) (f := f) (g := g) (fun k hk => h k (by omega))
    have h2 := h n (by omega)
    rw [fb_sm_succ, fb_sm_succ]
    omega
theorem fb_sm_const (c : Nat) : ∀ n, fb_sm (fun _ => c) n = n * c
  | 0 => by rw [Nat.zero_mul]; rfl
  | n + 1 => by rw [fb_sm_succ, fb_sm_const c n, Nat.succ_mul]
theorem fb_sm_bound {f : Nat → Nat} {c n : Nat} (h : ∀ k, k < n → f k ≤ c) : fb_sm f n ≤ n * c := by
  rw [← fb_sm_const c n]
  exact fb_sm_le h
theorem fb_sm_mono (f : Nat → Nat) (m : Nat) : ∀ n, fb_sm f m ≤ fb_sm f (m + n)
  | 0 => Nat.le_refl _
  | n + 1 => by
    have h := fb_sm_mono f m n
    show fb_sm f m ≤ fb_sm f (m + n + 1)
    rw [fb_sm_succ]
    omega
theorem fb_sm_part (f : Nat → Nat) {i n : Nat} (h : i < n) : fb_sm f i + f i ≤ fb_sm f n := by
  have := fb_sm_mono f (i + 1) (n - (i + 1))
  rw [fb_sm_succ, show i + 1 + (n - (i + 1)) = n by omega] at this
  exact this
theorem fb_sm_split (f : Nat → Nat) (m : Nat) : ∀ n, fb_sm f (m + n) = fb_sm f m + fb_sm (fun k => f (m + k)) n
  | 0 => rfl
  | n + 1 => by
    have h := fb_sm_split f m n
    show fb_sm f (m + n + 1) = _
    rw [fb_sm_succ, fb_sm_succ, h, Nat.add_assoc]
theorem fb_sm_zero {f : Nat → Nat} {n : Nat} (h : fb_sm f n = 0) : ∀ k, k < n → f k = 0 := fun k hk => by
  have := fb_sm_part f hk
  omega
/-- the same over whole numbers -/
def fb_si (f : Nat → Int) : Nat → Int
  | 0 => 0
  | n + 1 => fb_si f n + f n
theorem fb_si_succ (f : Nat → Int) (n : Nat) : fb_si f (n + 1) = fb_si f n + f n := rfl
theorem fb_si_cong {f g : Nat → Int} : ∀ {n : Nat}, (∀ k, k < n → f k = g k) → fb_si f n = fb_si g n
  | 0, _ => rfl
  | n + 1, h => by rw [fb_si_succ, fb_si_succ, fb_si_cong (fun k hk => h k (by omega)), h n (by omega)]
theorem fb_si_out (f : Nat → Int) (v : Int) {i n : Nat} (h : n ≤ i) : fb_si (fun k => if k = i then v else f k) n = fb_si f n :=
  fb_si_cong fun k hk => if_neg (by omega)
theorem fb_si_upd (f : Nat → Int) (v : Int) {i : Nat} : ∀ {n : Nat}, i < n → fb_si (fun k => if k = i then v else f k) n = fb_si f n - f i + v
  | 0, h => absurd h (Nat.not_lt_zero i)
  | n + 1, h => by
    rw [fb_si_succ, fb_si_succ]
    rcases Nat.lt_or_ge i n with q | q
    · have := fb_si_upd f v q
      have e : (if n = i then v else f n) = f n := if_neg (by omega)
      rw [e]
      omega
    · have e : i = n := by omega
      subst e
      rw [fb_si_out f v (Nat.le_refl _)]
      simp only [if_true]
      omega
theorem fb_si_add (f g : Nat → Int) : ∀ n, fb_si (fun k => f k + g k) n = fb_si f n + fb_si g n
  | 0 => rfl
  | n + 1 => by
    have h := fb_si_add f g n
    rw [fb_si_succ, fb_si_succ, fb_si_succ, h]
    omega
theorem fb_si_sub (f g : Nat → Int) : ∀ n, fb_si (fun k => f k - g k) n = fb_si f n - fb_si g n
  | 0 => rfl
  | n + 1 => by
    have h := fb_si_sub f g n
    rw [fb_si_succ, fb_si_succ, fb_si_succ, h]
    omega
theorem fb_si_mul (c : Int) (f : Nat → Int) : ∀ n, fb_si (fun k => c * f k) n = c * fb_si f n
  | 0 => (Int.mul_zero c).symm
  | n + 1 => by
    have h := fb_si_mul c f n
    rw [fb_si_succ, fb_si_succ, h, Int.mul_add]
theorem fb_si_split (f : Nat → Int) (m : Nat) : ∀ n, fb_si f (m + n) = fb_si f m + fb_si (fun k => f (m + k)) n
  | 0 => (Int.add_zero _).symm
  | n + 1 => by
    have h := fb_si_split f m n
    show fb_si f (m + n + 1) = _
    rw [fb_si_succ, fb_si_succ, h, Int.add_assoc]
theorem fb_si_nat (f : Nat → Nat) : ∀ n, fb_si (fun k => (f k : Int)) n = (fb_sm f n : Int)
  | 0 => rfl
  | n + 1 => by
    have h := fb_si_nat f n
    rw [fb_si_succ, fb_sm_succ, h]
    omega
theorem fb_si_bound {f : Nat → Int} {c : Int} (hc : 0 ≤ c) : ∀ {n : Nat}, (∀ k, k < n → -c ≤ f k ∧ f k ≤ c) → -(n * c) ≤ fb_si f n ∧ fb_si f n ≤ n * c
  | 0, _ => by simp [fb_si]
  | n + 1, h => by
    have h1 := fb_si_bound (n := n) (f := f) hc (fun k hk => h k (by omega))
    have h2 := h n (by omega)
    have e : ((n + 1 : Nat) : Int) * c = n * c + c := by rw [Int.natCast_add, Int.add_mul]; simp
    rw [fb_si_succ, e]
    omega
/-! ===== bits of a long that isn't negative ===== -/
theorem fb_andL (a b : Nat) : lN a &&& lN b = lN (a &&& b) := by
  apply Int64.toBitVec_inj.1
  show BitVec.ofNat 64 a &&& BitVec.ofNat 64 b = BitVec.ofNat 64 (a &&& b)
  apply BitVec.eq_of_getLsbD_eq
  intro i hi
  simp [hi]
theorem fb_orL (a b : Nat) : lN a ||| lN b = lN (a ||| b) := by
  apply Int64.toBitVec_inj.1
  show BitVec.ofNat 64 a ||| BitVec.ofNat 64 b = BitVec.ofNat 64 (a ||| b)
  apply BitVec.eq_of_getLsbD_eq
  intro i hi
  simp [hi]
theorem fb_xorL (a b : Nat) : lN a ^^^ lN b = lN (a ^^^ b) := by
  apply Int64.toBitVec_inj.1
  show BitVec.ofNat 64 a ^^^ BitVec.ofNat 64 b = BitVec.ofNat 64 (a ^^^ b)
  apply BitVec.eq_of_getLsbD_eq
  intro i hi
  simp [hi]
theorem fb_xorI (a b : Nat) : nI a ^^^ nI b = nI (a ^^^ b) := by
  apply Int32.toBitVec_inj.1
  show BitVec.ofNat 32 a ^^^ BitVec.ofNat 32 b = BitVec.ofNat 32 (a ^^^ b)
  apply BitVec.eq_of_getLsbD_eq
  intro i hi
  simp [hi]
theorem fb_maskL (n k : Nat) : lN n &&& lN (2 ^ k - 1) = lN (n % 2 ^ k) := by rw [fb_andL, Nat.and_two_pow_sub_one_eq_mod]
theorem fb_or_sumL {a k : Nat} (b : Nat) (h : a < 2 ^ k) : lN (2 ^ k * b) ||| lN a = lN (2 ^ k * b + a) := by rw [fb_orL, Nat.two_pow_add_eq_or_of_lt h]
theorem fb_lN_inj {a b : Nat} (ha : a < 2 ^ 63) (hb : b < 2 ^ 63) : lN a = lN b ↔ a = b := by
  constructor
  · intro h
    have h1 : (BitVec.ofNat 64 a).toNat = (BitVec.ofNat 64 b).toNat := congrArg (fun x : Int64 => x.toBitVec.toNat) h
    rw [BitVec.toNat_ofNat, BitVec.toNat_ofNat, Nat.mod_eq_of_lt (by omega), Nat.mod_eq_of_lt (by omega)] at h1
    exact h1
  · rintro rfl; rfl
theorem fb_bit_nat (n j : Nat) : n &&& 2 ^ j = 0 ↔ n.testBit j = false := by
  constructor
  · intro h
    have h1 : (n &&& 2 ^ j).testBit j = false := by rw [h]; simp
    rw [Nat.testBit_and] at h1
    simpa using h1
  · intro h
    apply Nat.eq_of_testBit_eq
    intro i
    rw [Nat.testBit_and]
    by_cases hi : j = i
    · subst hi; simp [h]
    · first | (simp [Nat.testBit_two_pow, hi]; done) | (simp [Nat.testBit_two_pow_of_ne hi]; done)
/-- one bit of a long -/
theorem fb_bitL {n j : Nat} (hj : j < 63) : lN n &&& lN (2 ^ j) = 0 ↔ n.testBit j = false := by
  have h2 : (2 : Nat) ^ j < 2 ^ 63 := Nat.pow_lt_pow_right (by decide) hj
  have hle : n &&& 2 ^ j ≤ 2 ^ j := Nat.and_le_right
  rw [fb_andL, ← fb_bit_nat, show (0 : Int64) = lN 0 from rfl]
  exact fb_lN_inj (by omega) (by decide)
/-- a bit set, a bit taken off -/
theorem fb_bit_set (n j i : Nat) : (n ||| 2 ^ j).testBit i = (n.testBit i || decide (i = j)) := by
  rw [Nat.testBit_or]
  by_cases h : j = i
  · subst h; simp
  · have h2 : ¬ i = j := fun e => h e.symm
    first | (simp [Nat.testBit_two_pow, h, h2]; done) | (simp [Nat.testBit_two_pow_of_ne h, h2]; done)
theorem fb_bit_flip (n j i : Nat) : (n ^^^ 2 ^ j).testBit i = (n.testBit i ^^ decide (i = j)) := by
  rw [Nat.testBit_xor]
  by_cases h : j = i
  · subst h; simp
  · have h2 : ¬ i = j := fun e => h e.symm
    first | (simp [Nat.testBit_two_pow, h, h2]; done) | (simp [Nat.testBit_two_pow_of_ne h, h2]; done)
/-! ===== a stretch of an array written over by a function ===== -/
def fb_put {α : Type} (f g : Nat → α) (a n : Nat) : Nat → α := fun k => if a ≤ k ∧ k < a + n then g (k - a) else f k
theorem fb_put_0 {α : Type} (f g : Nat → α) (a : Nat) : fb_put f g a 0 = f := funext fun k => if_neg (by omega)
theorem fb_put_in {α : Type} {f g : Nat → α} {a n k : Nat} (h1 : a ≤ k) (h2 : k < a + n) : fb_put f g a n k = g (k - a) := if_pos ⟨h1, h2⟩
theorem fb_put_out {α : Type} {f g : Nat → α} {a n k : Nat} (h : k < a ∨ a + n ≤ k) : fb_put f g a n k = f k := if_neg (by omega)
theorem fb_put_succ (f g : Nat → Int32) (a n : Nat) : upd (fb_put f g a n) (a + n) (g n) = fb_put f g a (n + 1) := by
  funext k
  by_cases h : k = a + n
  · subst h
    simp [upd, fb_put]
  · by_cases h1 : a ≤ k ∧ k < a + n
    · have h2 : a ≤ k ∧ k < a + (n + 1) := by omega
      simp only [upd, fb_put, if_neg h, if_pos h1, if_pos h2]
    · have h2 : ¬ (a ≤ k ∧ k < a + (n + 1)) := by omega
      simp only [upd, fb_put, if_neg h, if_neg h1, if_neg h2]
/-- .. from the far end down -/
theorem fb_put_down (f g : Nat → Int32) {a n m : Nat} (h : m < n) : upd (fb_put f (fun k => g (k + (m + 1))) (a + (m + 1)) (n - (m + 1))) (a + m) (g m) = fb_put f (fun k => g (k + m)) (a + m) (n - m) := by
  funext k
  by_cases h0 : k = a + m
  · subst h0
    simp only [upd, if_true]
    rw [fb_put_in (by omega) (by omega)]
    exact congrArg g (by omega)
  · simp only [upd, if_neg h0]
    by_cases h1 : a + (m + 1) ≤ k ∧ k < a + (m + 1) + (n - (m + 1))
    · rw [fb_put_in h1.1 h1.2, fb_put_in (by omega) (by omega)]
      exact congrArg g (by omega)
    · rw [fb_put_out (by omega), fb_put_out (by omega)]
theorem fb_put_cong {α : Type} {f f2 g g2 : Nat → α} {a n : Nat} (hf : ∀ k, (k < a ∨ a + n ≤ k) → f k = f2 k) (hg : ∀ k, k < n → g k = g2 k) : fb_put f g a n = fb_put f2 g2 a n := by
  funext k
  by_cases h : a ≤ k ∧ k < a + n
  · rw [fb_put_in h.1 h.2, fb_put_in h.1 h.2, hg _ (by omega)]
  · rw [fb_put_out (by omega), fb_put_out (by omega), hf _ (by omega)]
/-! ===== the least, the first, the best so far; that there is one alone ===== -/
theorem fb_first {p : Nat → Prop} [DecidablePred p] : ∀ {n : Nat}, (∃ i, i < n ∧ p i) → ∃ i, i < n ∧ p i ∧ ∀ j, j < i → ¬ p j
  | 0, h => by obtain ⟨i, hi, -⟩ := h; exact absurd hi (Nat.not_lt_zero i)
  | n + 1, h => by
    by_cases q : ∃ i, i < n ∧ p i
    · obtain ⟨i, h1, h2⟩ := fb_first q
      exact ⟨i, by omega, h2⟩
    · obtain ⟨i, h1, h2⟩ := h
      have e : i = n := by
        rcases Nat.lt_or_ge i n with r | r
        · exact absurd ⟨i, r, h2⟩ q
        · omega
      subst e
      exact ⟨i, by omega, h2, fun j hj hp => q ⟨j, hj, hp⟩⟩
theorem fb_first_one {p : Nat → Prop} {i j : Nat} (hi : p i) (hi2 : ∀ k, k < i → ¬ p k) (hj : p j) (hj2 : ∀ k, k < j → ¬ p k) : i = j := by
  rcases Nat.lt_trichotomy i j with q | q | q
  · exact absurd hi (hj2 i q)
  · exact q
  · exact absurd hj (hi2 j q)
theorem fb_last {p : Nat → Prop} [DecidablePred p] : ∀ {n : Nat}, (∃ i, i < n ∧ p i) → ∃ i, i < n ∧ p i ∧ ∀ j, i < j → j < n → ¬ p j
  | 0, h => by obtain ⟨i, hi, -⟩ := h; exact absurd hi (Nat.not_lt_zero i)
  | n + 1, h => by
    by_cases q : p n
    · exact ⟨n, by omega, q, fun j h1 h2 => by omega⟩
    · obtain ⟨i, h1, h2⟩ := h
      have hi : i < n := by
        rcases Nat.lt_or_ge i n with r | r
        · exact r
        · have e : i = n := by omega
          subst e
          exact absurd h2 q
      obtain ⟨i2, a1, a2, a3⟩ := fb_last (n := n) ⟨i, hi, h2⟩
      refine ⟨i2, by omega, a2, fun j b1 b2 => ?_⟩
      rcases Nat.lt_or_ge j n with r | r
      · exact a3 j b1 r
      · have e : j = n := by omega
        subst e
        exact q
/-- the first greatest -/
theorem fb_best (f : Nat → Int) : ∀ {n : Nat}, 0 < n → ∃ i, i < n ∧ (∀ j, j < n → f j ≤ f i) ∧ ∀ j, j < i → f j < f i
  | 0, h => absurd h (Nat.lt_irrefl 0)
  | 1, _ => ⟨0, by omega, fun j hj => by have e : j = 0 := by omega
                                         subst e; exact Int.le_refl _, fun j hj => absurd hj (Nat.not_lt_zero j)⟩
  | n + 2, _ => by
    obtain ⟨i, h1, h2, h3⟩ := fb_best f (n := n + 1) (by omega)
    by_cases q : f i < f (n + 1)
    · refine ⟨n + 1, by omega, fun j hj => ?_, fun j hj => ?_⟩
      · rcases Nat.lt_or_ge j (n + 1) with r | r
        · have := h2 j r; omega
        · have e : j = n + 1 := by omega
          subst e; exact Int.le_refl _
      · have := h2 j hj; omega
    · refine ⟨i, by omega, fun j hj => ?_, h3⟩
      rcases Nat.lt_or_ge j (n + 1) with r | r
      · exact h2 j r
      · have e : j = n + 1 := by omega
        subst e; omega
theorem fb_best_one {f : Nat → Int} {n i j : Nat} (hi : i < n) (hi2 : ∀ k, k < n → f k ≤ f i) (hi3 : ∀ k, k < i → f k < f i) (hj : j < n) (hj2 : ∀ k, k < n → f k ≤ f j) (hj3 : ∀ k, k < j → f k < f j) : i = j := by
  rcases Nat.lt_trichotomy i j with q | q | q
  · have a := hj3 i q
    have b := hi2 j hj
    omega
  · exact q
  · have a := hi3 j q
    have b := hj2 i hi
    omega
/-- the first least -/
theorem fb_low (f : Nat → Int) {n : Nat} (h : 0 < n) : ∃ i, i < n ∧ (∀ j, j < n → f i ≤ f j) ∧ ∀ j, j < i → f i < f j := by
  obtain ⟨i, h1, h2, h3⟩ := fb_best (fun k => -f k) h
  exact ⟨i, h1, fun j hj => by have := h2 j hj; omega, fun j hj => by have := h3 j hj; omega⟩
/-! ===== signed ints as whole numbers, within bounds ===== -/
theorem fb_rng (x : Int32) : -2147483648 ≤ x.toInt ∧ x.toInt < 2147483648 := by
  have h1 := Int32.le_toInt x
  have h2 := Int32.toInt_lt x
  omega
theorem fb_bmod {z : Int} (h1 : -2147483648 ≤ z) (h2 : z < 2147483648) : z.bmod (2 ^ 32) = z := by
  rw [Int.bmod_eq_of_le (by omega) (by omega)]
theorem fb_addI {x y : Int32} (h1 : -2147483648 ≤ x.toInt + y.toInt) (h2 : x.toInt + y.toInt < 2147483648) : (x + y).toInt = x.toInt + y.toInt := by
  rw [Int32.toInt_add, fb_bmod h1 h2]
theorem fb_subI {x y : Int32} (h1 : -2147483648 ≤ x.toInt - y.toInt) (h2 : x.toInt - y.toInt < 2147483648) : (x - y).toInt = x.toInt - y.toInt := by
  rw [Int32.toInt_sub, fb_bmod h1 h2]
theorem fb_mulI {x y : Int32} (h1 : -2147483648 ≤ x.toInt * y.toInt) (h2 : x.toInt * y.toInt < 2147483648) : (x * y).toInt = x.toInt * y.toInt := by
  rw [Int32.toInt_mul, fb_bmod h1 h2]
theorem fb_negI {x : Int32} (h : x.toInt ≠ -2147483648) : (-x).toInt = -x.toInt := by
  have := fb_rng x
  rw [Int32.toInt_neg, fb_bmod (by omega) (by omega)]
theorem fb_ofI {z : Int} (h1 : -2147483648 ≤ z) (h2 : z < 2147483648) : (Int32.ofInt z).toInt = z := by
  rw [Int32.toInt_ofInt, fb_bmod h1 h2]
theorem fb_asI (x : Int32) : Int32.ofInt x.toInt = x := Int32.ofInt_toInt x
theorem fb_rngL (x : Int64) : -9223372036854775808 ≤ x.toInt ∧ x.toInt < 9223372036854775808 := by
  have h1 := Int64.le_toInt x
  have h2 := Int64.toInt_lt x
  omega
theorem fb_bmodL {z : Int} (h1 : -9223372036854775808 ≤ z) (h2 : z < 9223372036854775808) : z.bmod (2 ^ 64) = z := by
  rw [Int.bmod_eq_of_le (by omega) (by omega)]
theorem fb_addL {x y : Int64} (h1 : -9223372036854775808 ≤ x.toInt + y.toInt) (h2 : x.toInt + y.toInt < 9223372036854775808) : (x + y).toInt = x.toInt + y.toInt := by
  rw [Int64.toInt_add, fb_bmodL h1 h2]
theorem fb_subL {x y : Int64} (h1 : -9223372036854775808 ≤ x.toInt - y.toInt) (h2 : x.toInt - y.toInt < 9223372036854775808) : (x - y).toInt = x.toInt - y.toInt := by
  rw [Int64.toInt_sub, fb_bmodL h1 h2]
theorem fb_mulL {x y : Int64} (h1 : -9223372036854775808 ≤ x.toInt * y.toInt) (h2 : x.toInt * y.toInt < 9223372036854775808) : (x * y).toInt = x.toInt * y.toInt := by
  rw [Int64.toInt_mul, fb_bmodL h1 h2]
/-! ===== cuts of what is narrow already ===== -/
theorem fb_byte {x : Int32} (h1 : -128 ≤ x.toInt) (h2 : x.toInt < 128) : x.toInt8.toInt32 = x := by
  apply Int32.toInt_inj.1
  rw [Int8.toInt_toInt32, Int32.toInt_toInt8, Int.bmod_eq_of_le (by omega) (by omega)]
theorem fb_short {x : Int32} (h1 : -32768 ≤ x.toInt) (h2 : x.toInt < 32768) : x.toInt16.toInt32 = x := by
  apply Int32.toInt_inj.1
  rw [Int16.toInt_toInt32, Int32.toInt_toInt16, Int.bmod_eq_of_le (by omega) (by omega)]
theorem fb_byte_rng (x : Int32) : -128 ≤ x.toInt8.toInt32.toInt ∧ x.toInt8.toInt32.toInt < 128 := by
  rw [Int8.toInt_toInt32]
  have h1 := Int8.le_toInt x.toInt8
  have h2 := Int8.toInt_lt x.toInt8
  omega
theorem fb_short_rng (x : Int32) : -32768 ≤ x.toInt16.toInt32.toInt ∧ x.toInt16.toInt32.toInt < 32768 := by
  rw [Int16.toInt_toInt32]
  have h1 := Int16.le_toInt x.toInt16
  have h2 := Int16.toInt_lt x.toInt16
  omega
theorem fb_byte_twice (x : Int32) : x.toInt8.toInt32.toInt8.toInt32 = x.toInt8.toInt32 := fb_byte (fb_byte_rng x).1 (fb_byte_rng x).2
theorem fb_short_twice (x : Int32) : x.toInt16.toInt32.toInt16.toInt32 = x.toInt16.toInt32 := fb_short (fb_short_rng x).1 (fb_short_rng x).2
theorem fb_char {n : Nat} (h : n < 65536) : (nI n).toUInt32.toUInt16.toUInt32.toInt32 = nI n := by
  apply Int32.toBitVec_inj.1
  apply BitVec.eq_of_toNat_eq
  have e1 : (nI n).toBitVec.toNat = n := by
    show (BitVec.ofNat 32 n).toNat = n
    rw [BitVec.toNat_ofNat, Nat.mod_eq_of_lt (by omega)]
  have e2 : ((nI n).toUInt32.toUInt16.toUInt32).toNat = n := by
    rw [UInt16.toNat_toUInt32, UInt32.toNat_toUInt16]
    show (nI n).toBitVec.toNat % 2 ^ 16 = n
    rw [e1, Nat.mod_eq_of_lt (by omega)]
  rw [e1]
  exact e2
end
section
/-! rows on bits, shifts and unsigned numbers, to paste: each family out of a closed proof of our own, whole with what it rests on; each by itself clean at Lean in its own claim (generation 39, form 5). Take a family whole -/
/-! ===== Int32 by its bits: bt x i ===== -/
def bt (x : Int32) (i : Nat) : Bool := x.toBitVec.getLsbD i
theorem b_ext {x y : Int32} (h : ∀ i, i < 32 → bt x i = bt y i) : x = y := Int32.toBitVec_inj.mp (BitVec.eq_of_getLsbD_eq (fun i hi => h i hi))
theorem b_or (x y : Int32) (i : Nat) : bt (x ||| y) i = (bt x i || bt y i) := by unfold bt; rw [Int32.toBitVec_or, BitVec.getLsbD_or]
theorem b_and (x y : Int32) (i : Nat) : bt (x &&& y) i = (bt x i && bt y i) := by unfold bt; rw [Int32.toBitVec_and, BitVec.getLsbD_and]
theorem b_xor (x y : Int32) (i : Nat) : bt (x ^^^ y) i = (bt x i ^^ bt y i) := by unfold bt; rw [Int32.toBitVec_xor, BitVec.getLsbD_xor]
theorem b_big {x : Int32} {i : Nat} (h : 32 ≤ i) : bt x i = false := BitVec.getLsbD_of_ge _ _ h
theorem b_255 (i : Nat) : bt 255 i = decide (i < 8) := by
  rcases Nat.lt_or_ge i 32 with h | h
  · exact (by decide +kernel : ∀ i, i < 32 → bt 255 i = decide (i < 8)) i h
  · rw [b_big h, decide_eq_false (by omega)]
theorem b_65535 (i : Nat) : bt 65535 i = decide (i < 16) := by
  rcases Nat.lt_or_ge i 32 with h | h
  · exact (by decide +kernel : ∀ i, i < 32 → bt 65535 i = decide (i < 16)) i h
  · rw [b_big h, decide_eq_false (by omega)]
theorem b_m1 : ∀ i, i < 32 → bt (-1) i = true := by decide +kernel
theorem b_0 (i : Nat) : bt 0 i = false := BitVec.getLsbD_zero
theorem s_l : ∀ n, n < 32 → ((nI n &&& 31).toBitVec.smod 32).toNat = n := by decide +kernel
theorem s_u : ∀ n, n < 32 → (((nI n).toUInt32 &&& Int32.toUInt32 31).toBitVec % 32).toNat = n := by decide +kernel
theorem b_shl (n : Nat) (hn : n < 32) (x : Int32) {i : Nat} (hi : i < 32) : bt (x <<< (nI n &&& 31)) i = (decide (n ≤ i) && bt x (i - n)) := by
  unfold bt
  rw [Int32.toBitVec_shiftLeft]
  show (x.toBitVec <<< ((nI n &&& 31).toBitVec.smod 32).toNat).getLsbD i = _
  rw [s_l n hn, BitVec.getLsbD_shiftLeft]
  rcases Nat.lt_or_ge i n with h | h
  · simp [h, Nat.not_le.mpr h]
  · simp [hi, h, Nat.not_lt.mpr h]
theorem b_ushr (n : Nat) (hn : n < 32) (x : Int32) (i : Nat) : bt ((x.toUInt32 >>> ((nI n).toUInt32 &&& Int32.toUInt32 31)).toInt32) i = bt x (n + i) := by
  show (x.toUInt32 >>> ((nI n).toUInt32 &&& Int32.toUInt32 31)).toBitVec.getLsbD i = x.toUInt32.toBitVec.getLsbD (n + i)
  rw [UInt32.toBitVec_shiftRight]
  show (x.toUInt32.toBitVec >>> (((nI n).toUInt32 &&& Int32.toUInt32 31).toBitVec % 32).toNat).getLsbD i = _
  rw [s_u n hn, BitVec.getLsbD_ushiftRight]
theorem b_sshr (n : Nat) (hn : n < 32) (x : Int32) {i : Nat} (hi : i < 32) : bt (x >>> (nI n &&& 31)) i = if n + i < 32 then bt x (n + i) else bt x 31 := by
  unfold bt
  rw [Int32.toBitVec_shiftRight]
  show (x.toBitVec.sshiftRight ((nI n &&& 31).toBitVec.smod 32).toNat).getLsbD i = _
  rw [s_l n hn, BitVec.getLsbD_sshiftRight, BitVec.msb_eq_getLsbD_last]
  simp [hi]
theorem b_shl8 (x : Int32) {i : Nat} (hi : i < 32) : bt (x <<< ((8 : Int32) &&& 31)) i = (decide (8 ≤ i) && bt x (i - 8)) := b_shl 8 (by omega) x hi
theorem b_shl16 (x : Int32) {i : Nat} (hi : i < 32) : bt (x <<< ((16 : Int32) &&& 31)) i = (decide (16 ≤ i) && bt x (i - 16)) := b_shl 16 (by omega) x hi
theorem b_shl24 (x : Int32) {i : Nat} (hi : i < 32) : bt (x <<< ((24 : Int32) &&& 31)) i = (decide (24 ≤ i) && bt x (i - 24)) := b_shl 24 (by omega) x hi
theorem b_sshr8 (x : Int32) {i : Nat} (hi : i < 32) : bt (x >>> ((8 : Int32) &&& 31)) i = if 8 + i < 32 then bt x (8 + i) else bt x 31 := b_sshr 8 (by omega) x hi
end
section
section ZM
variable {X : zX} {Y : zY} {u v pc : Nat} {cc : ByteArray} {own : String} {k : zT}
def zi_iushr (k : zT) : zT := fun ls st h => match st with
  | .inl y :: .inl x :: st' => k ls (.inl (x.toUInt32 >>> (y.toUInt32 &&& Int32.toUInt32 31)).toInt32 :: st') h
  | _ => False
theorem zr_iushr (O : zOK X Y cc own) (d : decode cc pc = .ok (.iushr, 1)) (hk : zSd X Y u v (pc + 1) k) : zSd X Y u v pc (zi_iushr k) := by
  intro ls st h t H locs lsA hR hL hv hS
  rcases st with _ | ⟨y | _, _ | ⟨x | _, st⟩⟩ <;> first | exact False.elim t | skip
  exact lv_iushr O.1 O.2.1 d rfl (hk _ _ _ t H locs lsA hR hL (zqc trivial (zq2 hv)) hS)
/-! two roads that meet again with one int each on the stack -/
theorem zmg {c : Prop} [Decidable c] {ls : zL} {st : List zV} {h : zH} {x y : Int32} (hk : k ls (.inl (if c then x else y) :: st) h) : (c → k ls (.inl x :: st) h) ∧ (¬ c → k ls (.inl y :: st) h) :=
  ⟨fun q => by rwa [if_pos q] at hk, fun q => by rwa [if_neg q] at hk⟩
theorem zmn {c : Prop} [Decidable c] {ls : zL} {st : List zV} {h : zH} {x y : Int32} (hk : k ls (.inl (if c then x else y) :: st) h) : (¬ c → k ls (.inl y :: st) h) ∧ (c → k ls (.inl x :: st) h) :=
  ⟨fun q => by rwa [if_neg q] at hk, fun q => by rwa [if_pos q] at hk⟩
/-- the last condition of the two turned: x unless c -/
theorem zmt {c : Prop} [Decidable c] {ls : zL} {st : List zV} {h : zH} {x y : Int32} (hk : k ls (.inl (if c then y else x) :: st) h) : (c → k ls (.inl y :: st) h) ∧ (¬ c → k ls (.inl x :: st) h) := zmg hk
/-- c or d: x, else y -/
theorem zmo {c d : Prop} [Decidable c] [Decidable d] {ls : zL} {st : List zV} {h : zH} {x y : Int32} (hk : k ls (.inl (if c ∨ d then x else y) :: st) h) : (c → k ls (.inl x :: st) h) ∧ (¬ c → ((¬ d → k ls (.inl y :: st) h) ∧ (d → k ls (.inl x :: st) h))) := by
  refine ⟨fun q => by rwa [if_pos (Or.inl q)] at hk, fun q => ⟨fun q2 => ?_, fun q2 => ?_⟩⟩
  · rwa [if_neg (fun z => z.elim q q2)] at hk
  · rwa [if_pos (Or.inr q2)] at hk
theorem zex {c : Prop} {A B : Prop} (h : c → A) (h2 : ¬ c → B) : (c → A) ∧ (¬ c → B) := ⟨h, h2⟩
end ZM
def mn2 (x y : Int32) : Int32 := if y < x then y else x
def mx2 (x y : Int32) : Int32 := if x < y then y else x
/-- a bit mask out of a test -/
def mk (f : Nat → Bool) : Nat → Nat
  | 0 => 0
  | n + 1 => mk f n ||| (if f n then 2 ^ n else 0)
theorem mk_bit (f : Nat → Bool) : ∀ n i : Nat, (mk f n).testBit i = (decide (i < n) && f i)
  | 0, i => by simp [mk]
  | n + 1, i => by
    rw [mk, Nat.testBit_or, mk_bit f n i]
    by_cases hf : f n = true
    · rw [if_pos hf, Nat.testBit_two_pow]
      by_cases hi : n = i
      · subst hi; simp [hf]
      · have : (decide (i < n + 1)) = decide (i < n) := by
          apply decide_eq_decide.mpr; omega
        rw [this]; simp [hi]
    · rw [if_neg hf]
      have hf' : f n = false := by simpa using hf
      by_cases hi : n = i
      · subst hi; simp [hf']
      · have : (decide (i < n + 1)) = decide (i < n) := by
          apply decide_eq_decide.mpr; omega
        rw [this]; simp
theorem mk_lt (f : Nat → Bool) (n : Nat) : mk f n < 2 ^ n := by
  apply Nat.lt_pow_two_of_testBit
  intro i hi
  rw [mk_bit]
  simp; omega
theorem mk_cong {f g : Nat → Bool} {n : Nat} (h : ∀ i, i < n → f i = g i) : mk f n = mk g n := by
  apply Nat.eq_of_testBit_eq
  intro i
  rw [mk_bit, mk_bit]
  by_cases hi : i < n
  · simp [hi, h i hi]
  · simp [hi]
/-- (x >> i) & 1 of a small mask -/
def bI (b : Bool) : Int32 := if b then 1 else 0
theorem bI_in {m i : Nat} (hm : m < 2 ^ 31) (hi : i < 32) : (nI m >>> (nI i &&& 31)) &&& 1 = bI (m.testBit i) := by
  rw [pk_shrN hm (nI i &&& 31) i (s_l i hi)]
  have h1 := pk_andN (n := m / 2 ^ i) (Nat.lt_of_le_of_lt (Nat.div_le_self _ _) (by omega)) (m := 1) 1 (by decide)
  rw [h1, Nat.testBit_eq_decide_div_mod_eq]
  unfold bI
  by_cases hb : m / 2 ^ i % 2 = 1
  · simp [hb]; rfl
  · have : m / 2 ^ i % 2 = 0 := by omega
    simp [this]; rfl
theorem nI_pow {i : Nat} (hi : i < 31) : (1 : Int32) <<< (nI i &&& 31) = nI (2 ^ i) := by
  have h := pk_shlN (n := 1) (nI i &&& 31) i (s_l i (by omega)) (by rw [Nat.one_mul]; exact Nat.pow_lt_pow_right (by omega) (by omega))
  rw [Nat.one_mul] at h
  exact h
theorem bI_1 (b : Bool) : bI b = 1 ↔ b = true := by cases b <;> simp [bI]
theorem bI_0 (b : Bool) : bI b = 0 ↔ b = false := by cases b <;> simp [bI]
end
section
/-! words of the tables, by their places -/
theorem zmem {w : Cond} (i : Nat) (h : tables_1[i]? = some w) (hg : goodWord w = true) : w ∈ zTW := List.mem_filter.mpr ⟨List.mem_append_right _ (List.mem_of_getElem? h), hg⟩
theorem zmem1 {w : Cond} (i : Nat) (h : tables_1_1[i]? = some w) (hg : goodWord w = true) : w ∈ zTW := List.mem_filter.mpr ⟨List.mem_append_right _ (show w ∈ tables_1 from List.mem_append_left _ (List.mem_of_getElem? h)), hg⟩
theorem zmem2 {w : Cond} (i : Nat) (h : tables_1_2[i]? = some w) (hg : goodWord w = true) : w ∈ zTW := List.mem_filter.mpr ⟨List.mem_append_right _ (show w ∈ tables_1 from List.mem_append_right _ (List.mem_append_left _ (List.mem_of_getElem? h))), hg⟩
theorem zmem3 {w : Cond} (i : Nat) (h : tables_1_3[i]? = some w) (hg : goodWord w = true) : w ∈ zTW := List.mem_filter.mpr ⟨List.mem_append_right _ (show w ∈ tables_1 from List.mem_append_right _ (List.mem_append_right _ (List.mem_append_left _ (List.mem_of_getElem? h)))), hg⟩
theorem zmem4 {w : Cond} (i : Nat) (h : tables_1_4[i]? = some w) (hg : goodWord w = true) : w ∈ zTW := List.mem_filter.mpr ⟨List.mem_append_right _ (show w ∈ tables_1 from List.mem_append_right _ (List.mem_append_right _ (List.mem_append_right _ (List.mem_append_left _ (List.mem_of_getElem? h))))), hg⟩
theorem zmem5 {w : Cond} (i : Nat) (h : tables_1_5[i]? = some w) (hg : goodWord w = true) : w ∈ zTW := List.mem_filter.mpr ⟨List.mem_append_right _ (show w ∈ tables_1 from List.mem_append_right _ (List.mem_append_right _ (List.mem_append_right _ (List.mem_append_right _ (List.mem_append_left _ (List.mem_of_getElem? h)))))), hg⟩
theorem zmem6 {w : Cond} (i : Nat) (h : tables_1_6[i]? = some w) (hg : goodWord w = true) : w ∈ zTW := List.mem_filter.mpr ⟨List.mem_append_right _ (show w ∈ tables_1 from List.mem_append_right _ (List.mem_append_right _ (List.mem_append_right _ (List.mem_append_right _ (List.mem_append_right _ (List.mem_append_left _ (List.mem_of_getElem? h))))))), hg⟩
theorem zmem7 {w : Cond} (i : Nat) (h : tables_1_7[i]? = some w) (hg : goodWord w = true) : w ∈ zTW := List.mem_filter.mpr ⟨List.mem_append_right _ (show w ∈ tables_1 from List.mem_append_right _ (List.mem_append_right _ (List.mem_append_right _ (List.mem_append_right _ (List.mem_append_right _ (List.mem_append_right _ (List.mem_append_left _ (List.mem_of_getElem? h)))))))), hg⟩
theorem zmem8 {w : Cond} (i : Nat) (h : tables_1_8[i]? = some w) (hg : goodWord w = true) : w ∈ zTW := List.mem_filter.mpr ⟨List.mem_append_right _ (show w ∈ tables_1 from List.mem_append_right _ (List.mem_append_right _ (List.mem_append_right _ (List.mem_append_right _ (List.mem_append_right _ (List.mem_append_right _ (List.mem_append_right _ (List.mem_of_getElem? h)))))))), hg⟩
theorem zmemP {w : Cond} (i : Nat) (h : (k2_sels lw_privs)[i]? = some w) (hg : goodWord w = true) : w ∈ zTW := List.mem_filter.mpr ⟨List.mem_append_left _ (List.mem_of_getElem? h), hg⟩
theorem zmemL {ws : List Cond} (ps : List Nat) (hp : ws = ps.filterMap (fun i => tables_1[i]?)) (h : ws.all goodWord = true) : ∀ w ∈ ws, w ∈ zTW := by
  intro w hw
  have h1 := List.all_eq_true.mp h w hw
  rw [hp] at hw
  obtain ⟨i, -, hi⟩ := List.mem_filterMap.mp hw
  exact zmem i hi h1
theorem zks0 {α : Type} {P : Nat → α → Prop} {l : List α} (h : ∀ (j : Nat) (b : α), l[j]? = some b → P (0 + j) b) : ∀ (j : Nat) (b : α), l[j]? = some b → P j b := fun j b hb => by have := h j b hb; rwa [Nat.zero_add] at this
theorem zSd_any {X : zX} {Y : zY} {u v pc : Nat} {I : Nat → zT} (h : ∀ n : Nat, zSd X Y u v pc (I n)) : zSd X Y u v pc (fun ls st h0 => ∃ n : Nat, I n ls st h0) := fun ls st h0 ⟨n, t⟩ => h n ls st h0 t
theorem zrm {X : zX} {rm : Room} {a b : Nat} (hR : xR X = rm) (h1 : Nat.ble a rm.frames = true) (h2 : Nat.ble b rm.locals = true) : a ≤ (xR X).frames ∧ b ≤ (xR X).locals ∧ 0 ≤ (xR X).cells ∧ 0 ≤ (xR X).slots := by
  rw [hR]
  exact ⟨Nat.le_of_ble_eq_true h1, Nat.le_of_ble_eq_true h2, Nat.zero_le _, Nat.zero_le _⟩
theorem zc_0 : zCl 0 RX1 TX1 9 tyX1 := ⟨rfl, zmemL [127, 129, 131, 133, 135, 137, 139, 141, 143] (by decide +kernel) (by decide +kernel), tyX1_ok, nmX1⟩
theorem zc_1 : zCl 1 RX2 TX2 1 tyX2 := ⟨rfl, zmemL [284] (by decide +kernel) (by decide +kernel), tyX2_ok, nmX2⟩
theorem zc_2 : zCl 2 RX3 TX3 5 tyX3 := ⟨rfl, zmemL [159, 161, 163, 165, 167] (by decide +kernel) (by decide +kernel), tyX3_ok, nmX3⟩
theorem zc_3 : zCl 3 RX4 TX4 1 tyX4 := ⟨rfl, zmemL [252] (by decide +kernel) (by decide +kernel), tyX4_ok, nmX4⟩
theorem zc_4 : zCl 4 RX5 TX5 4 tyX5 := ⟨rfl, zmemL [236, 238, 240, 242] (by decide +kernel) (by decide +kernel), tyX5_ok, nmX5⟩
theorem zc_5 : zCl 5 RX6 TX6 8 tyX6 := ⟨rfl, zmemL [77, 79, 81, 83, 85, 87, 89, 91] (by decide +kernel) (by decide +kernel), tyX6_ok, nmX6⟩
theorem zc_6 : zCl 6 RX7 TX7 3 tyX7 := ⟨rfl, zmemL [178, 180, 182] (by decide +kernel) (by decide +kernel), tyX7_ok, nmX7⟩
theorem zc_7 : zCl 7 RX8 TX8 8 tyX8 := ⟨rfl, zmemL [205, 207, 209, 211, 213, 215, 217, 219] (by decide +kernel) (by decide +kernel), tyX8_ok, nmX8⟩
theorem zc_8 : zCl 8 RX9 TX9 3 tyX9 := ⟨rfl, zmemL [266, 268, 270] (by decide +kernel) (by decide +kernel), tyX9_ok, nmX9⟩
theorem zc_9 : zCl 9 RX10 TX10 15 tyX10 := ⟨rfl, zmemL [302, 304, 306, 308, 310, 312, 314, 316, 318, 320, 322, 324, 326, 328, 330] (by decide +kernel) (by decide +kernel), tyX10_ok, nmX10⟩
theorem zc_10 : zCl 10 RX11 TX11 35 tyX11 := ⟨rfl, zmemL [1222, 1224, 1226, 1228, 1230, 1232, 1234, 1236, 1238, 1240, 1242, 1244, 1246, 1248, 1250, 1252, 1254, 1256, 1258, 1260, 1262, 1264, 1266, 1268, 1270, 1272, 1274, 1276, 1278, 1280, 1282, 1284, 1286, 1288, 1290] (by decide +kernel) (by decide +kernel), tyX11_ok, nmX11⟩
theorem twp_101 : Cond.selects RX11 yX11_followMany yX11_followMany ∈ zTW := zmemP 101 rfl rfl
theorem twp_100 : Cond.selects RX11 yX11_wouldFollow yX11_wouldFollow ∈ zTW := zmemP 100 rfl rfl
theorem twp_99 : Cond.selects RX11 yX11_nextNow yX11_nextNow ∈ zTW := zmemP 99 rfl rfl
theorem twp_98 : Cond.selects RX11 yX11_isRound yX11_isRound ∈ zTW := zmemP 98 rfl rfl
theorem twp_97 : Cond.selects RX11 yX11_canBe yX11_canBe ∈ zTW := zmemP 97 rfl rfl
theorem twp_96 : Cond.selects RX11 yX11_left yX11_left ∈ zTW := zmemP 96 rfl rfl
theorem twp_95 : Cond.selects RX11 yX11_leaks yX11_leaks ∈ zTW := zmemP 95 rfl rfl
theorem twp_94 : Cond.selects RX11 yX11_sure yX11_sure ∈ zTW := zmemP 94 rfl rfl
theorem twp_93 : Cond.selects RX11 yX11_isApart yX11_isApart ∈ zTW := zmemP 93 rfl rfl
theorem twp_92 : Cond.selects RX11 yX11_waysOf yX11_waysOf ∈ zTW := zmemP 92 rfl rfl
theorem twp_91 : Cond.selects RX11 yX11_compares yX11_compares ∈ zTW := zmemP 91 rfl rfl
theorem twp_90 : Cond.selects RX11 yX11_waysBy yX11_waysBy ∈ zTW := zmemP 90 rfl rfl
theorem twp_89 : Cond.selects RX11 yX11_isShaky yX11_isShaky ∈ zTW := zmemP 89 rfl rfl
theorem twp_88 : Cond.selects RX11 yX11_isSafe yX11_isSafe ∈ zTW := zmemP 88 rfl rfl
theorem twp_87 : Cond.selects RX11 yX11_keptBlocks yX11_keptBlocks ∈ zTW := zmemP 87 rfl rfl
theorem twp_86 : Cond.selects RX11 yX11_firstUnsafe yX11_firstUnsafe ∈ zTW := zmemP 86 rfl rfl
theorem twp_85 : Cond.selects RX11 yX11_isRefused yX11_isRefused ∈ zTW := zmemP 85 rfl rfl
theorem twp_84 : Cond.selects RX11 yX11_decoded yX11_decoded ∈ zTW := zmemP 84 rfl rfl
theorem twp_83 : Cond.selects RX11 yX11_drawn yX11_drawn ∈ zTW := zmemP 83 rfl rfl
theorem twp_82 : Cond.selects RX11 yX11_readsAll yX11_readsAll ∈ zTW := zmemP 82 rfl rfl
theorem twp_81 : Cond.selects RX11 yX11_follows yX11_follows ∈ zTW := zmemP 81 rfl rfl
theorem twp_80 : Cond.selects RX11 yX11_closes yX11_closes ∈ zTW := zmemP 80 rfl rfl
theorem twp_79 : Cond.selects RX11 yX11_puts_ yX11_puts_ ∈ zTW := zmemP 79 rfl rfl
theorem twp_78 : Cond.selects RX11 yX11_putsHeard yX11_putsHeard ∈ zTW := zmemP 78 rfl rfl
theorem twp_77 : Cond.selects RX11 yX11_noOrder yX11_noOrder ∈ zTW := zmemP 77 rfl rfl
theorem twp_76 : Cond.selects RX11 yX11_laysHeard yX11_laysHeard ∈ zTW := zmemP 76 rfl rfl
theorem twp_75 : Cond.selects RX11 yX11_followsNow yX11_followsNow ∈ zTW := zmemP 75 rfl rfl
theorem twp_74 : Cond.selects RX11 yX11_blockOf yX11_blockOf ∈ zTW := zmemP 74 rfl rfl
theorem twp_73 : Cond.selects RX11 yX11_keptAt yX11_keptAt ∈ zTW := zmemP 73 rfl rfl
theorem twp_72 : Cond.selects RX11 yX11_isHeat yX11_isHeat ∈ zTW := zmemP 72 rfl rfl
theorem twp_71 : Cond.selects RX11 yX11_pairsWith yX11_pairsWith ∈ zTW := zmemP 71 rfl rfl
theorem twp_70 : Cond.selects RX11 yX11_keptBits yX11_keptBits ∈ zTW := zmemP 70 rfl rfl
theorem twp_69 : Cond.selects RX11 yX11_steadyMany yX11_steadyMany ∈ zTW := zmemP 69 rfl rfl
theorem twp_68 : Cond.selects RX11 yX11_isKept yX11_isKept ∈ zTW := zmemP 68 rfl rfl
theorem twp_67 : Cond.selects RX11 yX11_guessOf yX11_guessOf ∈ zTW := zmemP 67 rfl rfl
theorem twp_66 : Cond.selects RX11 yX11_epoch yX11_epoch ∈ zTW := zmemP 66 rfl rfl
theorem twp_65 : Cond.selects RX11 yX11_heardAt yX11_heardAt ∈ zTW := zmemP 65 rfl rfl
theorem twp_64 : Cond.selects RX11 yX11_isPair yX11_isPair ∈ zTW := zmemP 64 rfl rfl
theorem twp_63 : Cond.selects RX11 yX11_words yX11_words ∈ zTW := zmemP 63 rfl rfl
theorem twp_62 : Cond.selects RX11 yX11_secretBits yX11_secretBits ∈ zTW := zmemP 62 rfl rfl
theorem twp_61 : Cond.selects RX11 yX11_blocksOf yX11_blocksOf ∈ zTW := zmemP 61 rfl rfl
theorem twp_60 : Cond.selects RX11 yX11_noiseOf yX11_noiseOf ∈ zTW := zmemP 60 rfl rfl
theorem twp_59 : Cond.selects RX11 yX11_bitAt yX11_bitAt ∈ zTW := zmemP 59 rfl rfl
theorem twp_58 : Cond.selects RX11 yX11_bitOf yX11_bitOf ∈ zTW := zmemP 58 rfl rfl
theorem twp_57 : Cond.selects RX11 yX11_speedOf yX11_speedOf ∈ zTW := zmemP 57 rfl rfl
theorem twp_56 : Cond.selects RX11 yX11_apart yX11_apart ∈ zTW := zmemP 56 rfl rfl
theorem twp_55 : Cond.selects RX11 yX11_marginOf yX11_marginOf ∈ zTW := zmemP 55 rfl rfl
theorem twp_54 : Cond.selects RX11 yX11_isSteady yX11_isSteady ∈ zTW := zmemP 54 rfl rfl
theorem twp_53 : Cond.selects RX11 yX11_usedBy yX11_usedBy ∈ zTW := zmemP 53 rfl rfl
theorem twp_52 : Cond.selects RX11 yX11_usedNow yX11_usedNow ∈ zTW := zmemP 52 rfl rfl
theorem twp_51 : Cond.selects RX11 yX11_blocks yX11_blocks ∈ zTW := zmemP 51 rfl rfl
theorem twp_50 : Cond.selects RX11 yX11_isRing yX11_isRing ∈ zTW := zmemP 50 rfl rfl
theorem twp_49 : Cond.selects RX11 yX11_keeps yX11_keeps ∈ zTW := zmemP 49 rfl rfl
theorem twp_48 : Cond.selects RX11 yX11_maySet yX11_maySet ∈ zTW := zmemP 48 rfl rfl
theorem twp_47 : Cond.selects RX11 yX11_repeatTold yX11_repeatTold ∈ zTW := zmemP 47 rfl rfl
theorem twp_46 : Cond.selects RX11 yX11_heatsTold yX11_heatsTold ∈ zTW := zmemP 46 rfl rfl
theorem twp_45 : Cond.selects RX11 yX11_pairTold yX11_pairTold ∈ zTW := zmemP 45 rfl rfl
theorem twp_44 : Cond.selects RX11 yX11_number yX11_number ∈ zTW := zmemP 44 rfl rfl
theorem twp_43 : Cond.selects RX11 yX11_wrong yX11_wrong ∈ zTW := zmemP 43 rfl rfl
theorem twp_42 : Cond.selects RX11 yX11_ringTold yX11_ringTold ∈ zTW := zmemP 42 rfl rfl
theorem twp_41 : Cond.selects RX11 yX11_isSmall yX11_isSmall ∈ zTW := zmemP 41 rfl rfl
theorem twp_40 : Cond.selects RX11 yX11_passes yX11_passes ∈ zTW := zmemP 40 rfl rfl
theorem twp_39 : Cond.selects RX11 yX11_oneLine yX11_oneLine ∈ zTW := zmemP 39 rfl rfl
theorem twp_38 : Cond.selects RX11 yX11_sign yX11_sign ∈ zTW := zmemP 38 rfl rfl
theorem twp_37 : Cond.selects RX11 yX11_isFine yX11_isFine ∈ zTW := zmemP 37 rfl rfl
theorem twp_36 : Cond.selects RX11 yX11_puts yX11_puts ∈ zTW := zmemP 36 rfl rfl
theorem twp_35 : Cond.selects RX10 yX10_guessedRight yX10_guessedRight ∈ zTW := zmemP 35 rfl rfl
theorem twp_34 : Cond.selects RX10 yX10_epochsToLearn yX10_epochsToLearn ∈ zTW := zmemP 34 rfl rfl
theorem twp_33 : Cond.selects RX2 yX2_putBlock yX2_putBlock ∈ zTW := zmemP 33 rfl rfl
theorem twp_32 : Cond.selects RX2 yX2_countFrom yX2_countFrom ∈ zTW := zmemP 32 rfl rfl
theorem twp_31 : Cond.selects RX10 yX10_sureOfEnrolled yX10_sureOfEnrolled ∈ zTW := zmemP 31 rfl rfl
theorem twp_30 : Cond.selects RX9 yX9_countOf yX9_countOf ∈ zTW := zmemP 30 rfl rfl
theorem twp_29 : Cond.selects RX9 yX9_link yX9_link ∈ zTW := zmemP 29 rfl rfl
theorem twp_28 : Cond.selects RX10 yX10_marginsFrom yX10_marginsFrom ∈ zTW := zmemP 28 rfl rfl
theorem twp_27 : Cond.selects RX10 yX10_isSafeAt yX10_isSafeAt ∈ zTW := zmemP 27 rfl rfl
theorem twp_26 : Cond.selects RX5 yX5_noisySpeed yX5_noisySpeed ∈ zTW := zmemP 26 rfl rfl
theorem twp_25 : Cond.selects RX10 yX10_needHeat yX10_needHeat ∈ zTW := zmemP 25 rfl rfl
theorem twp_24 : Cond.selects RX10 yX10_toldOfEnrolled yX10_toldOfEnrolled ∈ zTW := zmemP 24 rfl rfl
theorem twp_23 : Cond.selects RX10 yX10_needEnrolled yX10_needEnrolled ∈ zTW := zmemP 23 rfl rfl
theorem twp_22 : Cond.selects RX10 yX10_refuseState yX10_refuseState ∈ zTW := zmemP 22 rfl rfl
theorem twp_21 : Cond.selects RX10 yX10_needTrait yX10_needTrait ∈ zTW := zmemP 21 rfl rfl
theorem twp_20 : Cond.selects RX10 yX10_refuseMissing yX10_refuseMissing ∈ zTW := zmemP 20 rfl rfl
theorem twp_19 : Cond.selects RX10 yX10_needCounted yX10_needCounted ∈ zTW := zmemP 19 rfl rfl
theorem twp_18 : Cond.selects RX10 yX10_remember yX10_remember ∈ zTW := zmemP 18 rfl rfl
theorem twp_17 : Cond.selects RX10 yX10_needSetting yX10_needSetting ∈ zTW := zmemP 17 rfl rfl
theorem twp_16 : Cond.selects RX8 yX8_readEndOfLine yX8_readEndOfLine ∈ zTW := zmemP 16 rfl rfl
theorem twp_15 : Cond.selects RX8 yX8_readRepeat yX8_readRepeat ∈ zTW := zmemP 15 rfl rfl
theorem twp_14 : Cond.selects RX8 yX8_readPair yX8_readPair ∈ zTW := zmemP 14 rfl rfl
theorem twp_13 : Cond.selects RX8 yX8_readSigned yX8_readSigned ∈ zTW := zmemP 13 rfl rfl
theorem twp_12 : Cond.selects RX8 yX8_needNumber yX8_needNumber ∈ zTW := zmemP 12 rfl rfl
theorem twp_11 : Cond.selects RX8 yX8_readDigits yX8_readDigits ∈ zTW := zmemP 11 rfl rfl
theorem twp_10 : Cond.selects RX8 yX8_readNumber yX8_readNumber ∈ zTW := zmemP 10 rfl rfl
theorem twp_9 : Cond.selects RX8 yX8_fail yX8_fail ∈ zTW := zmemP 9 rfl rfl
theorem twp_8 : Cond.selects RX8 yX8_readRing yX8_readRing ∈ zTW := zmemP 8 rfl rfl
theorem twp_7 : Cond.selects RX8 yX8_isWord yX8_isWord ∈ zTW := zmemP 7 rfl rfl
theorem twp_6 : Cond.selects RX8 yX8_readLine yX8_readLine ∈ zTW := zmemP 6 rfl rfl
theorem twp_5 : Cond.selects RX8 yX8_skipBlanks yX8_skipBlanks ∈ zTW := zmemP 5 rfl rfl
theorem twp_3 : Cond.selects RX10 yX10_refuseArgument yX10_refuseArgument ∈ zTW := zmemP 3 rfl rfl
theorem twp_2 : Cond.selects RX10 yX10_needBetween yX10_needBetween ∈ zTW := zmemP 2 rfl rfl
theorem twp_1 : Cond.selects RX10 yX10_followersIf yX10_followersIf ∈ zTW := zmemP 1 rfl rfl
theorem twp_0 : Cond.selects RX10 yX10_nextFor yX10_nextFor ∈ zTW := zmemP 0 rfl rfl
theorem tw_0 : Cond.initialized RL ∈ zTW := zmem1 0 rfl rfl
theorem tw_1 : Cond.initialized RX10 ∈ zTW := zmem1 1 rfl rfl
theorem tw_2 : Cond.initialized RX7 ∈ zTW := zmem1 2 rfl rfl
theorem tw_3 : Cond.initialized RX6 ∈ zTW := zmem1 3 rfl rfl
theorem tw_4 : Cond.initialized RX1 ∈ zTW := zmem1 4 rfl rfl
theorem tw_5 : Cond.initialized RX3 ∈ zTW := zmem1 5 rfl rfl
theorem tw_6 : Cond.initialized RX8 ∈ zTW := zmem1 6 rfl rfl
theorem tw_7 : Cond.initialized RX5 ∈ zTW := zmem1 7 rfl rfl
theorem tw_8 : Cond.initialized RX4 ∈ zTW := zmem1 8 rfl rfl
theorem tw_9 : Cond.initialized RX9 ∈ zTW := zmem1 9 rfl rfl
theorem tw_10 : Cond.initialized RX2 ∈ zTW := zmem1 10 rfl rfl
theorem tw_11 : Cond.initialized RX11 ∈ zTW := zmem1 11 rfl rfl
theorem tw_12 : Cond.initialized "java/lang/Throwable" ∈ zTW := zmem1 12 rfl rfl
theorem tw_13 : Cond.initialized "java/lang/Exception" ∈ zTW := zmem1 13 rfl rfl
theorem tw_14 : Cond.initialized "java/lang/RuntimeException" ∈ zTW := zmem1 14 rfl rfl
theorem tw_15 : Cond.initialized "java/lang/IllegalArgumentException" ∈ zTW := zmem1 15 rfl rfl
theorem tw_16 : Cond.initialized RJ9 ∈ zTW := zmem1 16 rfl rfl
theorem tw_17 : Cond.initialized RJ0 ∈ zTW := zmem1 17 rfl rfl
theorem tw_18 : Cond.initialized RJ1 ∈ zTW := zmem1 18 rfl rfl
theorem tw_19 : Cond.initialized RJ3 ∈ zTW := zmem1 19 rfl rfl
theorem tw_20 : Cond.initialized RJ2 ∈ zTW := zmem1 20 rfl rfl
theorem tw_21 : Cond.initialized RX0 ∈ zTW := zmem1 21 rfl rfl
theorem tw_22 : Cond.initialized RJ10 ∈ zTW := zmem1 22 rfl rfl
theorem tw_23 : Cond.initialized "java/util/NoSuchElementException" ∈ zTW := zmem1 23 rfl rfl
theorem tw_24 : Cond.initialized RJ6 ∈ zTW := zmem1 24 rfl rfl
theorem tw_25 : Cond.initialized "java/lang/IllegalStateException" ∈ zTW := zmem1 25 rfl rfl
theorem tw_28 : Cond.methodLink RL 96 yX10_init ∈ zTW := zmem1 28 rfl rfl
theorem tw_30 : Cond.code yX10_init cX10_init 2 none ∈ zTW := zmem1 30 rfl rfl
theorem tw_31 : Cond.methodLink RX10 1 ⟨"java/lang/Object", "<init>", "()V"⟩ ∈ zTW := zmem1 31 rfl rfl
theorem tw_38 : Cond.code yX7_init cX7_init 1 none ∈ zTW := zmem1 38 rfl rfl
theorem tw_39 : Cond.methodLink RX7 1 ⟨"java/lang/Object", "<init>", "()V"⟩ ∈ zTW := zmem1 39 rfl rfl
theorem tw_42 : Cond.methodLink RX7 9 yX6_init ∈ zTW := zmem1 42 rfl rfl
theorem tw_44 : Cond.code yX6_init cX6_init 1 none ∈ zTW := zmem1 44 rfl rfl
theorem tw_45 : Cond.methodLink RX6 3 ⟨"java/lang/Object", "<init>", "()V"⟩ ∈ zTW := zmem1 45 rfl rfl
theorem tw_46 : Cond.fieldLink RX6 30 (TX6 0).1 (TX6 0).2.1 (TX6 0).2.2.1 ∈ zTW := zmem1 46 rfl rfl
theorem tw_47 : Cond.fieldLink RX9 26 (TX6 0).1 (TX6 0).2.1 (TX6 0).2.2.1 ∈ zTW := zmem1 47 rfl rfl
theorem tw_48 : Cond.fieldLink RX10 130 (TX6 0).1 (TX6 0).2.1 (TX6 0).2.2.1 ∈ zTW := zmem1 48 rfl rfl
theorem tw_49 : Cond.fieldLink RX8 106 (TX6 0).1 (TX6 0).2.1 (TX6 0).2.2.1 ∈ zTW := zmem1 49 rfl rfl
theorem tw_50 : Cond.fieldLink RX6 9 (TX6 1).1 (TX6 1).2.1 (TX6 1).2.2.1 ∈ zTW := zmem1 50 rfl rfl
theorem tw_51 : Cond.fieldLink RX6 15 (TX6 2).1 (TX6 2).2.1 (TX6 2).2.2.1 ∈ zTW := zmem1 51 rfl rfl
theorem tw_52 : Cond.fieldLink RX6 18 (TX6 3).1 (TX6 3).2.1 (TX6 3).2.2.1 ∈ zTW := zmem1 52 rfl rfl
theorem tw_53 : Cond.fieldLink RX5 94 (TX6 3).1 (TX6 3).2.1 (TX6 3).2.2.1 ∈ zTW := zmem1 53 rfl rfl
theorem tw_54 : Cond.fieldLink RX6 34 (TX6 4).1 (TX6 4).2.1 (TX6 4).2.2.1 ∈ zTW := zmem1 54 rfl rfl
theorem tw_55 : Cond.fieldLink RX10 114 (TX6 4).1 (TX6 4).2.1 (TX6 4).2.2.1 ∈ zTW := zmem1 55 rfl rfl
theorem tw_56 : Cond.fieldLink RX9 36 (TX6 4).1 (TX6 4).2.1 (TX6 4).2.2.1 ∈ zTW := zmem1 56 rfl rfl
theorem tw_57 : Cond.fieldLink RX1 65 (TX6 4).1 (TX6 4).2.1 (TX6 4).2.2.1 ∈ zTW := zmem1 57 rfl rfl
theorem tw_58 : Cond.fieldLink RX8 113 (TX6 4).1 (TX6 4).2.1 (TX6 4).2.2.1 ∈ zTW := zmem1 58 rfl rfl
theorem tw_59 : Cond.fieldLink RX6 21 (TX6 5).1 (TX6 5).2.1 (TX6 5).2.2.1 ∈ zTW := zmem1 59 rfl rfl
theorem tw_60 : Cond.fieldLink RX5 27 (TX6 5).1 (TX6 5).2.1 (TX6 5).2.2.1 ∈ zTW := zmem1 60 rfl rfl
theorem tw_61 : Cond.fieldLink RX9 43 (TX6 5).1 (TX6 5).2.1 (TX6 5).2.2.1 ∈ zTW := zmem1 61 rfl rfl
theorem tw_62 : Cond.fieldLink RX2 81 (TX6 5).1 (TX6 5).2.1 (TX6 5).2.2.1 ∈ zTW := zmem1 62 rfl rfl
theorem tw_63 : Cond.fieldLink RX4 25 (TX6 5).1 (TX6 5).2.1 (TX6 5).2.2.1 ∈ zTW := zmem1 63 rfl rfl
theorem tw_64 : Cond.fieldLink RX3 42 (TX6 5).1 (TX6 5).2.1 (TX6 5).2.2.1 ∈ zTW := zmem1 64 rfl rfl
theorem tw_65 : Cond.fieldLink RX10 217 (TX6 5).1 (TX6 5).2.1 (TX6 5).2.2.1 ∈ zTW := zmem1 65 rfl rfl
theorem tw_66 : Cond.fieldLink RX6 24 (TX6 6).1 (TX6 6).2.1 (TX6 6).2.2.1 ∈ zTW := zmem1 66 rfl rfl
theorem tw_67 : Cond.fieldLink RX5 38 (TX6 6).1 (TX6 6).2.1 (TX6 6).2.2.1 ∈ zTW := zmem1 67 rfl rfl
theorem tw_68 : Cond.fieldLink RX9 46 (TX6 6).1 (TX6 6).2.1 (TX6 6).2.2.1 ∈ zTW := zmem1 68 rfl rfl
theorem tw_69 : Cond.fieldLink RX2 86 (TX6 6).1 (TX6 6).2.1 (TX6 6).2.2.1 ∈ zTW := zmem1 69 rfl rfl
theorem tw_70 : Cond.fieldLink RX4 30 (TX6 6).1 (TX6 6).2.1 (TX6 6).2.2.1 ∈ zTW := zmem1 70 rfl rfl
theorem tw_71 : Cond.fieldLink RX3 47 (TX6 6).1 (TX6 6).2.1 (TX6 6).2.2.1 ∈ zTW := zmem1 71 rfl rfl
theorem tw_72 : Cond.fieldLink RX10 220 (TX6 6).1 (TX6 6).2.1 (TX6 6).2.2.1 ∈ zTW := zmem1 72 rfl rfl
theorem tw_73 : Cond.fieldLink RX6 27 (TX6 7).1 (TX6 7).2.1 (TX6 7).2.2.1 ∈ zTW := zmem1 73 rfl rfl
theorem tw_74 : Cond.fieldLink RX1 46 (TX6 7).1 (TX6 7).2.1 (TX6 7).2.2.1 ∈ zTW := zmem1 74 rfl rfl
theorem tw_75 : Cond.fieldLink RX10 127 (TX6 7).1 (TX6 7).2.1 (TX6 7).2.2.1 ∈ zTW := zmem1 75 rfl rfl
theorem tw_76 : Cond.fieldLink RX8 73 (TX6 7).1 (TX6 7).2.1 (TX6 7).2.2.1 ∈ zTW := zmem1 76 rfl rfl
theorem tw_99 : Cond.code yX1_init cX1_init 1 none ∈ zTW := zmem1 99 rfl rfl
theorem tw_100 : Cond.methodLink RX1 3 ⟨"java/lang/Object", "<init>", "()V"⟩ ∈ zTW := zmem1 100 rfl rfl
theorem tw_101 : Cond.fieldLink RX1 15 (TX1 0).1 (TX1 0).2.1 (TX1 0).2.2.1 ∈ zTW := zmem1 101 rfl rfl
theorem tw_102 : Cond.fieldLink RX5 13 (TX1 0).1 (TX1 0).2.1 (TX1 0).2.2.1 ∈ zTW := zmem1 102 rfl rfl
theorem tw_103 : Cond.fieldLink RX10 174 (TX1 0).1 (TX1 0).2.1 (TX1 0).2.2.1 ∈ zTW := zmem1 103 rfl rfl
theorem tw_104 : Cond.fieldLink RX1 9 (TX1 1).1 (TX1 1).2.1 (TX1 1).2.2.1 ∈ zTW := zmem1 104 rfl rfl
theorem tw_105 : Cond.fieldLink RX5 19 (TX1 1).1 (TX1 1).2.1 (TX1 1).2.2.1 ∈ zTW := zmem1 105 rfl rfl
theorem tw_106 : Cond.fieldLink RX2 74 (TX1 1).1 (TX1 1).2.1 (TX1 1).2.2.1 ∈ zTW := zmem1 106 rfl rfl
theorem tw_107 : Cond.fieldLink RX5 60 (TX1 2).1 (TX1 2).2.1 (TX1 2).2.2.1 ∈ zTW := zmem1 107 rfl rfl
theorem tw_108 : Cond.fieldLink RX1 28 (TX1 2).1 (TX1 2).2.1 (TX1 2).2.2.1 ∈ zTW := zmem1 108 rfl rfl
theorem tw_109 : Cond.fieldLink RX2 39 (TX1 2).1 (TX1 2).2.1 (TX1 2).2.2.1 ∈ zTW := zmem1 109 rfl rfl
theorem tw_110 : Cond.fieldLink RX1 19 (TX1 3).1 (TX1 3).2.1 (TX1 3).2.2.1 ∈ zTW := zmem1 110 rfl rfl
theorem tw_111 : Cond.fieldLink RX5 63 (TX1 3).1 (TX1 3).2.1 (TX1 3).2.2.1 ∈ zTW := zmem1 111 rfl rfl
theorem tw_112 : Cond.fieldLink RX2 30 (TX1 3).1 (TX1 3).2.1 (TX1 3).2.2.1 ∈ zTW := zmem1 112 rfl rfl
theorem tw_113 : Cond.fieldLink RX5 45 (TX1 4).1 (TX1 4).2.1 (TX1 4).2.2.1 ∈ zTW := zmem1 113 rfl rfl
theorem tw_114 : Cond.fieldLink RX1 31 (TX1 4).1 (TX1 4).2.1 (TX1 4).2.2.1 ∈ zTW := zmem1 114 rfl rfl
theorem tw_115 : Cond.fieldLink RX10 243 (TX1 4).1 (TX1 4).2.1 (TX1 4).2.2.1 ∈ zTW := zmem1 115 rfl rfl
theorem tw_116 : Cond.fieldLink RX5 57 (TX1 5).1 (TX1 5).2.1 (TX1 5).2.2.1 ∈ zTW := zmem1 116 rfl rfl
theorem tw_117 : Cond.fieldLink RX1 34 (TX1 5).1 (TX1 5).2.1 (TX1 5).2.2.1 ∈ zTW := zmem1 117 rfl rfl
theorem tw_118 : Cond.fieldLink RX2 71 (TX1 5).1 (TX1 5).2.1 (TX1 5).2.2.1 ∈ zTW := zmem1 118 rfl rfl
theorem tw_119 : Cond.fieldLink RX10 177 (TX1 5).1 (TX1 5).2.1 (TX1 5).2.2.1 ∈ zTW := zmem1 119 rfl rfl
theorem tw_120 : Cond.fieldLink RX1 37 (TX1 6).1 (TX1 6).2.1 (TX1 6).2.2.1 ∈ zTW := zmem1 120 rfl rfl
theorem tw_121 : Cond.fieldLink RX1 40 (TX1 7).1 (TX1 7).2.1 (TX1 7).2.2.1 ∈ zTW := zmem1 121 rfl rfl
theorem tw_122 : Cond.fieldLink RX10 290 (TX1 7).1 (TX1 7).2.1 (TX1 7).2.2.1 ∈ zTW := zmem1 122 rfl rfl
theorem tw_123 : Cond.fieldLink RX5 87 (TX1 8).1 (TX1 8).2.1 (TX1 8).2.2.1 ∈ zTW := zmem1 123 rfl rfl
theorem tw_124 : Cond.fieldLink RX2 36 (TX1 8).1 (TX1 8).2.1 (TX1 8).2.2.1 ∈ zTW := zmem1 124 rfl rfl
theorem tw_125 : Cond.fieldLink RX1 43 (TX1 8).1 (TX1 8).2.1 (TX1 8).2.2.1 ∈ zTW := zmem1 125 rfl rfl
theorem tw_126 : Cond.fieldLink RX10 392 (TX1 8).1 (TX1 8).2.1 (TX1 8).2.2.1 ∈ zTW := zmem1 126 rfl rfl
theorem tw_150 : Cond.code yX3_init cX3_init 1 none ∈ zTW := zmem1 150 rfl rfl
theorem tw_151 : Cond.methodLink RX3 3 ⟨"java/lang/Object", "<init>", "()V"⟩ ∈ zTW := zmem1 151 rfl rfl
theorem tw_152 : Cond.fieldLink RX3 18 (TX3 0).1 (TX3 0).2.1 (TX3 0).2.2.1 ∈ zTW := zmem1 152 rfl rfl
theorem tw_153 : Cond.fieldLink RX10 195 (TX3 0).1 (TX3 0).2.1 (TX3 0).2.2.1 ∈ zTW := zmem1 153 rfl rfl
theorem tw_154 : Cond.fieldLink RX3 9 (TX3 1).1 (TX3 1).2.1 (TX3 1).2.2.1 ∈ zTW := zmem1 154 rfl rfl
theorem tw_155 : Cond.fieldLink RX3 22 (TX3 2).1 (TX3 2).2.1 (TX3 2).2.2.1 ∈ zTW := zmem1 155 rfl rfl
theorem tw_156 : Cond.fieldLink RX3 25 (TX3 3).1 (TX3 3).2.1 (TX3 3).2.2.1 ∈ zTW := zmem1 156 rfl rfl
theorem tw_157 : Cond.fieldLink RX3 15 (TX3 4).1 (TX3 4).2.1 (TX3 4).2.2.1 ∈ zTW := zmem1 157 rfl rfl
theorem tw_158 : Cond.fieldLink RX10 199 (TX3 4).1 (TX3 4).2.1 (TX3 4).2.2.1 ∈ zTW := zmem1 158 rfl rfl
theorem tw_170 : Cond.fieldLink RX7 10 (TX7 0).1 (TX7 0).2.1 (TX7 0).2.2.1 ∈ zTW := zmem1 170 rfl rfl
theorem tw_171 : Cond.fieldLink RX5 23 (TX7 0).1 (TX7 0).2.1 (TX7 0).2.2.1 ∈ zTW := zmem1 171 rfl rfl
theorem tw_172 : Cond.fieldLink RX10 85 (TX7 0).1 (TX7 0).2.1 (TX7 0).2.2.1 ∈ zTW := zmem1 172 rfl rfl
theorem tw_173 : Cond.fieldLink RX7 19 (TX7 1).1 (TX7 1).2.1 (TX7 1).2.2.1 ∈ zTW := zmem1 173 rfl rfl
theorem tw_174 : Cond.fieldLink RX5 7 (TX7 1).1 (TX7 1).2.1 (TX7 1).2.2.1 ∈ zTW := zmem1 174 rfl rfl
theorem tw_175 : Cond.fieldLink RX10 98 (TX7 1).1 (TX7 1).2.1 (TX7 1).2.2.1 ∈ zTW := zmem1 175 rfl rfl
theorem tw_176 : Cond.fieldLink RX7 26 (TX7 2).1 (TX7 2).2.1 (TX7 2).2.2.1 ∈ zTW := zmem1 176 rfl rfl
theorem tw_177 : Cond.fieldLink RX10 107 (TX7 2).1 (TX7 2).2.1 (TX7 2).2.2.1 ∈ zTW := zmem1 177 rfl rfl
theorem tw_190 : Cond.code yX8_init cX8_init 1 none ∈ zTW := zmem1 190 rfl rfl
theorem tw_191 : Cond.methodLink RX8 3 ⟨"java/lang/Object", "<init>", "()V"⟩ ∈ zTW := zmem1 191 rfl rfl
theorem tw_193 : Cond.methodLink RX8 11 yX6_init ∈ zTW := zmem1 193 rfl rfl
theorem tw_194 : Cond.fieldLink RX8 12 (TX8 0).1 (TX8 0).2.1 (TX8 0).2.2.1 ∈ zTW := zmem1 194 rfl rfl
theorem tw_195 : Cond.fieldLink RX10 89 (TX8 0).1 (TX8 0).2.1 (TX8 0).2.2.1 ∈ zTW := zmem1 195 rfl rfl
theorem tw_196 : Cond.fieldLink RX8 18 (TX8 1).1 (TX8 1).2.1 (TX8 1).2.2.1 ∈ zTW := zmem1 196 rfl rfl
theorem tw_197 : Cond.fieldLink RX10 117 (TX8 1).1 (TX8 1).2.1 (TX8 1).2.2.1 ∈ zTW := zmem1 197 rfl rfl
theorem tw_198 : Cond.fieldLink RX8 41 (TX8 2).1 (TX8 2).2.1 (TX8 2).2.2.1 ∈ zTW := zmem1 198 rfl rfl
theorem tw_199 : Cond.fieldLink RX8 22 (TX8 3).1 (TX8 3).2.1 (TX8 3).2.2.1 ∈ zTW := zmem1 199 rfl rfl
theorem tw_200 : Cond.fieldLink RX10 69 (TX8 4).1 (TX8 4).2.1 (TX8 4).2.2.1 ∈ zTW := zmem1 200 rfl rfl
theorem tw_201 : Cond.fieldLink RX8 26 (TX8 4).1 (TX8 4).2.1 (TX8 4).2.2.1 ∈ zTW := zmem1 201 rfl rfl
theorem tw_202 : Cond.fieldLink RX8 35 (TX8 5).1 (TX8 5).2.1 (TX8 5).2.2.1 ∈ zTW := zmem1 202 rfl rfl
theorem tw_203 : Cond.fieldLink RX8 38 (TX8 6).1 (TX8 6).2.1 (TX8 6).2.2.1 ∈ zTW := zmem1 203 rfl rfl
theorem tw_204 : Cond.fieldLink RX8 116 (TX8 7).1 (TX8 7).2.1 (TX8 7).2.2.1 ∈ zTW := zmem1 204 rfl rfl
theorem tw_226 : Cond.code yX5_init cX5_init 1 none ∈ zTW := zmem1 226 rfl rfl
theorem tw_227 : Cond.methodLink RX5 1 ⟨"java/lang/Object", "<init>", "()V"⟩ ∈ zTW := zmem1 227 rfl rfl
theorem tw_228 : Cond.fieldLink RX5 97 (TX5 0).1 (TX5 0).2.1 (TX5 0).2.2.1 ∈ zTW := zmem1 228 rfl rfl
theorem tw_229 : Cond.fieldLink RX10 270 (TX5 0).1 (TX5 0).2.1 (TX5 0).2.2.1 ∈ zTW := zmem1 229 rfl rfl
theorem tw_230 : Cond.fieldLink RX5 54 (TX5 1).1 (TX5 1).2.1 (TX5 1).2.2.1 ∈ zTW := zmem1 230 rfl rfl
theorem tw_231 : Cond.fieldLink RX10 280 (TX5 1).1 (TX5 1).2.1 (TX5 1).2.2.1 ∈ zTW := zmem1 231 rfl rfl
theorem tw_232 : Cond.fieldLink RX5 71 (TX5 2).1 (TX5 2).2.1 (TX5 2).2.2.1 ∈ zTW := zmem1 232 rfl rfl
theorem tw_233 : Cond.fieldLink RX10 277 (TX5 2).1 (TX5 2).2.1 (TX5 2).2.2.1 ∈ zTW := zmem1 233 rfl rfl
theorem tw_234 : Cond.fieldLink RX5 77 (TX5 3).1 (TX5 3).2.1 (TX5 3).2.2.1 ∈ zTW := zmem1 234 rfl rfl
theorem tw_235 : Cond.fieldLink RX10 283 (TX5 3).1 (TX5 3).2.1 (TX5 3).2.2.1 ∈ zTW := zmem1 235 rfl rfl
theorem tw_249 : Cond.code yX4_init cX4_init 1 none ∈ zTW := zmem2 9 rfl rfl
theorem tw_250 : Cond.methodLink RX4 3 ⟨"java/lang/Object", "<init>", "()V"⟩ ∈ zTW := zmem2 10 rfl rfl
theorem tw_251 : Cond.fieldLink RX4 9 (TX4 0).1 (TX4 0).2.1 (TX4 0).2.2.1 ∈ zTW := zmem2 11 rfl rfl
theorem tw_261 : Cond.code yX9_init cX9_init 1 none ∈ zTW := zmem2 21 rfl rfl
theorem tw_262 : Cond.methodLink RX9 3 ⟨"java/lang/Object", "<init>", "()V"⟩ ∈ zTW := zmem2 22 rfl rfl
theorem tw_263 : Cond.fieldLink RX9 9 (TX9 0).1 (TX9 0).2.1 (TX9 0).2.2.1 ∈ zTW := zmem2 23 rfl rfl
theorem tw_264 : Cond.fieldLink RX9 15 (TX9 1).1 (TX9 1).2.1 (TX9 1).2.2.1 ∈ zTW := zmem2 24 rfl rfl
theorem tw_265 : Cond.fieldLink RX9 18 (TX9 2).1 (TX9 2).2.1 (TX9 2).2.2.1 ∈ zTW := zmem2 25 rfl rfl
theorem tw_276 : Cond.methodLink RX10 60 yX2_init ∈ zTW := zmem2 36 rfl rfl
theorem tw_278 : Cond.code yX2_init cX2_init 2 none ∈ zTW := zmem2 38 rfl rfl
theorem tw_279 : Cond.methodLink RX2 3 ⟨"java/lang/Object", "<init>", "()V"⟩ ∈ zTW := zmem2 39 rfl rfl
theorem tw_283 : Cond.fieldLink RX2 11 (TX2 0).1 (TX2 0).2.1 (TX2 0).2.2.1 ∈ zTW := zmem2 43 rfl rfl
theorem tw_287 : Cond.fieldLink RX10 10 (TX10 0).1 (TX10 0).2.1 (TX10 0).2.2.1 ∈ zTW := zmem2 47 rfl rfl
theorem tw_288 : Cond.fieldLink RX10 16 (TX10 1).1 (TX10 1).2.1 (TX10 1).2.2.1 ∈ zTW := zmem2 48 rfl rfl
theorem tw_289 : Cond.fieldLink RX10 111 (TX10 2).1 (TX10 2).2.1 (TX10 2).2.2.1 ∈ zTW := zmem2 49 rfl rfl
theorem tw_290 : Cond.fieldLink RX10 184 (TX10 3).1 (TX10 3).2.1 (TX10 3).2.2.1 ∈ zTW := zmem2 50 rfl rfl
theorem tw_291 : Cond.fieldLink RX10 23 (TX10 4).1 (TX10 4).2.1 (TX10 4).2.2.1 ∈ zTW := zmem2 51 rfl rfl
theorem tw_292 : Cond.fieldLink RX10 351 (TX10 5).1 (TX10 5).2.1 (TX10 5).2.2.1 ∈ zTW := zmem2 52 rfl rfl
theorem tw_293 : Cond.fieldLink RX10 354 (TX10 6).1 (TX10 6).2.1 (TX10 6).2.2.1 ∈ zTW := zmem2 53 rfl rfl
theorem tw_294 : Cond.fieldLink RX10 357 (TX10 7).1 (TX10 7).2.1 (TX10 7).2.2.1 ∈ zTW := zmem2 54 rfl rfl
theorem tw_295 : Cond.fieldLink RX10 30 (TX10 8).1 (TX10 8).2.1 (TX10 8).2.2.1 ∈ zTW := zmem2 55 rfl rfl
theorem tw_296 : Cond.fieldLink RX10 37 (TX10 9).1 (TX10 9).2.1 (TX10 9).2.2.1 ∈ zTW := zmem2 56 rfl rfl
theorem tw_297 : Cond.fieldLink RX10 41 (TX10 10).1 (TX10 10).2.1 (TX10 10).2.2.1 ∈ zTW := zmem2 57 rfl rfl
theorem tw_298 : Cond.fieldLink RX10 47 (TX10 11).1 (TX10 11).2.1 (TX10 11).2.2.1 ∈ zTW := zmem2 58 rfl rfl
theorem tw_299 : Cond.fieldLink RX10 54 (TX10 12).1 (TX10 12).2.1 (TX10 12).2.2.1 ∈ zTW := zmem2 59 rfl rfl
theorem tw_300 : Cond.fieldLink RX10 61 (TX10 13).1 (TX10 13).2.1 (TX10 13).2.2.1 ∈ zTW := zmem2 60 rfl rfl
theorem tw_301 : Cond.fieldLink RX10 65 (TX10 14).1 (TX10 14).2.1 (TX10 14).2.2.1 ∈ zTW := zmem2 61 rfl rfl
theorem tw_333 : Cond.methodLink RL 100 yX10_feed ∈ zTW := zmem2 93 rfl rfl
theorem tw_334 : Cond.instanceMethod yX10_feed ∈ zTW := zmem2 94 rfl rfl
theorem tw_335 : Cond.selects RX10 yX10_feed yX10_feed ∈ zTW := zmem2 95 rfl rfl
theorem tw_336 : Cond.code yX10_feed cX10_feed 6 (some .int) ∈ zTW := zmem2 96 rfl rfl
theorem tw_337 : Cond.methodLink RX10 73 yX8_putOnTape ∈ zTW := zmem2 97 rfl rfl
theorem tw_338 : Cond.instanceMethod yX8_putOnTape ∈ zTW := zmem2 98 rfl rfl
theorem tw_339 : Cond.selects RX8 yX8_putOnTape yX8_putOnTape ∈ zTW := zmem2 99 rfl rfl
theorem tw_340 : Cond.code yX8_putOnTape cX8_putOnTape 3 none ∈ zTW := zmem2 100 rfl rfl
theorem tw_341 : Cond.methodLink RL 115 yX10_fault ∈ zTW := zmem2 101 rfl rfl
theorem tw_342 : Cond.instanceMethod yX10_fault ∈ zTW := zmem2 102 rfl rfl
theorem tw_343 : Cond.selects RX10 yX10_fault yX10_fault ∈ zTW := zmem2 103 rfl rfl
theorem tw_344 : Cond.code yX10_fault cX10_fault 1 (some .int) ∈ zTW := zmem2 104 rfl rfl
theorem tw_345 : Cond.methodLink RL 139 yX10_undo ∈ zTW := zmem2 105 rfl rfl
theorem tw_346 : Cond.instanceMethod yX10_undo ∈ zTW := zmem2 106 rfl rfl
theorem tw_347 : Cond.selects RX10 yX10_undo yX10_undo ∈ zTW := zmem2 107 rfl rfl
theorem tw_348 : Cond.code yX10_undo cX10_undo 2 (some .int) ∈ zTW := zmem2 108 rfl rfl
theorem tw_349 : Cond.methodLink RL 199 yX10_nextPair ∈ zTW := zmem2 109 rfl rfl
theorem tw_350 : Cond.instanceMethod yX10_nextPair ∈ zTW := zmem2 110 rfl rfl
theorem tw_351 : Cond.selects RX10 yX10_nextPair yX10_nextPair ∈ zTW := zmem2 111 rfl rfl
theorem tw_352 : Cond.code yX10_nextPair cX10_nextPair 1 (some .int) ∈ zTW := zmem2 112 rfl rfl
theorem tw_353 : Cond.methodLink RX10 343 yX10_nextFor ∈ zTW := zmem2 113 rfl rfl
theorem tw_355 : Cond.instanceMethod yX10_nextFor ∈ zTW := zmem2 115 rfl rfl
theorem tw_356 : Cond.code yX10_nextFor cX10_nextFor 9 (some .int) ∈ zTW := zmem2 116 rfl rfl
theorem tw_357 : Cond.methodLink RX10 232 yX3_putInto ∈ zTW := zmem2 117 rfl rfl
theorem tw_358 : Cond.instanceMethod yX3_putInto ∈ zTW := zmem2 118 rfl rfl
theorem tw_359 : Cond.selects RX3 yX3_putInto yX3_putInto ∈ zTW := zmem2 119 rfl rfl
theorem tw_360 : Cond.code yX3_putInto cX3_putInto 4 none ∈ zTW := zmem2 120 rfl rfl
theorem tw_361 : Cond.methodLink RX3 62 yX4_clear ∈ zTW := zmem2 121 rfl rfl
theorem tw_362 : Cond.instanceMethod yX4_clear ∈ zTW := zmem2 122 rfl rfl
theorem tw_363 : Cond.selects RX4 yX4_clear yX4_clear ∈ zTW := zmem2 123 rfl rfl
theorem tw_364 : Cond.code yX4_clear cX4_clear 2 none ∈ zTW := zmem2 124 rfl rfl
theorem tw_365 : Cond.methodLink RX3 54 yX3_heardBitOf ∈ zTW := zmem2 125 rfl rfl
theorem tw_366 : Cond.instanceMethod yX3_heardBitOf ∈ zTW := zmem2 126 rfl rfl
theorem tw_367 : Cond.selects RX3 yX3_heardBitOf yX3_heardBitOf ∈ zTW := zmem2 127 rfl rfl
theorem tw_368 : Cond.code yX3_heardBitOf cX3_heardBitOf 2 (some .int) ∈ zTW := zmem2 128 rfl rfl
theorem tw_369 : Cond.methodLink RX3 38 yX3_hasHeard ∈ zTW := zmem2 129 rfl rfl
theorem tw_370 : Cond.instanceMethod yX3_hasHeard ∈ zTW := zmem2 130 rfl rfl
theorem tw_371 : Cond.selects RX3 yX3_hasHeard yX3_hasHeard ∈ zTW := zmem2 131 rfl rfl
theorem tw_372 : Cond.code yX3_hasHeard cX3_hasHeard 2 (some .boolean) ∈ zTW := zmem2 132 rfl rfl
theorem tw_374 : Cond.static yX10_bitIn ∈ zTW := zmem2 134 rfl rfl
theorem tw_375 : Cond.code yX10_bitIn cX10_bitIn 2 (some .int) ∈ zTW := zmem2 135 rfl rfl
theorem tw_376 : Cond.methodLink RX3 67 yX4_putPair ∈ zTW := zmem2 136 rfl rfl
theorem tw_377 : Cond.instanceMethod yX4_putPair ∈ zTW := zmem2 137 rfl rfl
theorem tw_378 : Cond.selects RX4 yX4_putPair yX4_putPair ∈ zTW := zmem2 138 rfl rfl
theorem tw_379 : Cond.code yX4_putPair cX4_putPair 6 none ∈ zTW := zmem2 139 rfl rfl
theorem tw_380 : Cond.methodLink RX4 33 yX4_put ∈ zTW := zmem2 140 rfl rfl
theorem tw_381 : Cond.instanceMethod yX4_put ∈ zTW := zmem2 141 rfl rfl
theorem tw_382 : Cond.selects RX4 yX4_put yX4_put ∈ zTW := zmem2 142 rfl rfl
theorem tw_383 : Cond.code yX4_put cX4_put 5 none ∈ zTW := zmem2 143 rfl rfl
theorem tw_385 : Cond.methodLink RX10 333 yX3_hasHeard ∈ zTW := zmem2 145 rfl rfl
theorem tw_386 : Cond.methodLink RX10 236 yX4_bitTold ∈ zTW := zmem2 146 rfl rfl
theorem tw_387 : Cond.instanceMethod yX4_bitTold ∈ zTW := zmem2 147 rfl rfl
theorem tw_388 : Cond.selects RX4 yX4_bitTold yX4_bitTold ∈ zTW := zmem2 148 rfl rfl
theorem tw_389 : Cond.code yX4_bitTold cX4_bitTold 3 (some .int) ∈ zTW := zmem2 149 rfl rfl
theorem tw_390 : Cond.methodLink RX4 37 yX4_isAhead ∈ zTW := zmem2 150 rfl rfl
theorem tw_391 : Cond.instanceMethod yX4_isAhead ∈ zTW := zmem2 151 rfl rfl
theorem tw_392 : Cond.selects RX4 yX4_isAhead yX4_isAhead ∈ zTW := zmem2 152 rfl rfl
theorem tw_393 : Cond.code yX4_isAhead cX4_isAhead 3 (some .boolean) ∈ zTW := zmem2 153 rfl rfl
theorem tw_394 : Cond.methodLink RX10 397 yX10_followersIf ∈ zTW := zmem2 154 rfl rfl
theorem tw_396 : Cond.instanceMethod yX10_followersIf ∈ zTW := zmem2 156 rfl rfl
theorem tw_397 : Cond.code yX10_followersIf cX10_followersIf 5 (some .int) ∈ zTW := zmem2 157 rfl rfl
theorem tw_398 : Cond.methodLink RX10 400 yX4_copyFrom ∈ zTW := zmem2 158 rfl rfl
theorem tw_399 : Cond.instanceMethod yX4_copyFrom ∈ zTW := zmem2 159 rfl rfl
theorem tw_400 : Cond.selects RX4 yX4_copyFrom yX4_copyFrom ∈ zTW := zmem2 160 rfl rfl
theorem tw_401 : Cond.code yX4_copyFrom cX4_copyFrom 2 none ∈ zTW := zmem2 161 rfl rfl
theorem tw_402 : Cond.methodLink RX4 15 ⟨"java/lang/System", "arraycopy", "(Ljava/lang/Object;ILjava/lang/Object;II)V"⟩ ∈ zTW := zmem2 162 rfl rfl
theorem tw_403 : Cond.static ⟨"java/lang/System", "arraycopy", "(Ljava/lang/Object;ILjava/lang/Object;II)V"⟩ ∈ zTW := zmem2 163 rfl rfl
theorem tw_405 : Cond.methodLink RX10 403 yX4_put ∈ zTW := zmem2 165 rfl rfl
theorem tw_406 : Cond.methodLink RX10 249 yJ9_min_7cf53 ∈ zTW := zmem2 166 rfl rfl
theorem tw_407 : Cond.static yJ9_min_7cf53 ∈ zTW := zmem2 167 rfl rfl
theorem tw_409 : Cond.methodLink RL 203 yX10_needs ∈ zTW := zmem2 169 rfl rfl
theorem tw_410 : Cond.instanceMethod yX10_needs ∈ zTW := zmem2 170 rfl rfl
theorem tw_411 : Cond.selects RX10 yX10_needs yX10_needs ∈ zTW := zmem2 171 rfl rfl
theorem tw_412 : Cond.code yX10_needs cX10_needs 3 (some .int) ∈ zTW := zmem2 172 rfl rfl
theorem tw_413 : Cond.methodLink RX10 346 yX3_copyFrom ∈ zTW := zmem2 173 rfl rfl
theorem tw_414 : Cond.instanceMethod yX3_copyFrom ∈ zTW := zmem2 174 rfl rfl
theorem tw_415 : Cond.selects RX3 yX3_copyFrom yX3_copyFrom ∈ zTW := zmem2 175 rfl rfl
theorem tw_416 : Cond.code yX3_copyFrom cX3_copyFrom 2 none ∈ zTW := zmem2 176 rfl rfl
theorem tw_417 : Cond.methodLink RX3 28 ⟨"java/lang/System", "arraycopy", "(Ljava/lang/Object;ILjava/lang/Object;II)V"⟩ ∈ zTW := zmem2 177 rfl rfl
theorem tw_418 : Cond.methodLink RX10 162 yX6_bitOf ∈ zTW := zmem2 178 rfl rfl
theorem tw_419 : Cond.instanceMethod yX6_bitOf ∈ zTW := zmem2 179 rfl rfl
theorem tw_420 : Cond.selects RX6 yX6_bitOf yX6_bitOf ∈ zTW := zmem2 180 rfl rfl
theorem tw_421 : Cond.code yX6_bitOf cX6_bitOf 2 (some .int) ∈ zTW := zmem2 181 rfl rfl
theorem tw_422 : Cond.methodLink RX6 47 yX6_bitFrom ∈ zTW := zmem2 182 rfl rfl
theorem tw_423 : Cond.instanceMethod yX6_bitFrom ∈ zTW := zmem2 183 rfl rfl
theorem tw_424 : Cond.selects RX6 yX6_bitFrom yX6_bitFrom ∈ zTW := zmem2 184 rfl rfl
theorem tw_425 : Cond.code yX6_bitFrom cX6_bitFrom 4 (some .int) ∈ zTW := zmem2 185 rfl rfl
theorem tw_426 : Cond.methodLink RX10 165 yX3_keep ∈ zTW := zmem2 186 rfl rfl
theorem tw_427 : Cond.instanceMethod yX3_keep ∈ zTW := zmem2 187 rfl rfl
theorem tw_428 : Cond.selects RX3 yX3_keep yX3_keep ∈ zTW := zmem2 188 rfl rfl
theorem tw_429 : Cond.code yX3_keep cX3_keep 3 none ∈ zTW := zmem2 189 rfl rfl
theorem tw_430 : Cond.methodLink RL 207 yX10_print ∈ zTW := zmem2 190 rfl rfl
theorem tw_431 : Cond.instanceMethod yX10_print ∈ zTW := zmem2 191 rfl rfl
theorem tw_432 : Cond.selects RX10 yX10_print yX10_print ∈ zTW := zmem2 192 rfl rfl
theorem tw_433 : Cond.code yX10_print cX10_print 4 (some .long) ∈ zTW := zmem2 193 rfl rfl
theorem tw_434 : Cond.constantLong RX10 349 (31) ∈ zTW := zmem2 194 rfl rfl
theorem tw_435 : Cond.methodLink RX10 223 yX6_marginOf ∈ zTW := zmem2 195 rfl rfl
theorem tw_436 : Cond.instanceMethod yX6_marginOf ∈ zTW := zmem2 196 rfl rfl
theorem tw_437 : Cond.selects RX6 yX6_marginOf yX6_marginOf ∈ zTW := zmem2 197 rfl rfl
theorem tw_438 : Cond.code yX6_marginOf cX6_marginOf 7 (some .int) ∈ zTW := zmem2 198 rfl rfl
theorem tw_439 : Cond.methodLink RX6 51 yX6_bitOf ∈ zTW := zmem2 199 rfl rfl
theorem tw_440 : Cond.methodLink RX6 43 yX6_speedOf ∈ zTW := zmem2 200 rfl rfl
theorem tw_441 : Cond.instanceMethod yX6_speedOf ∈ zTW := zmem2 201 rfl rfl
theorem tw_442 : Cond.selects RX6 yX6_speedOf yX6_speedOf ∈ zTW := zmem2 202 rfl rfl
theorem tw_443 : Cond.code yX6_speedOf cX6_speedOf 3 (some .int) ∈ zTW := zmem2 203 rfl rfl
theorem tw_444 : Cond.methodLink RX6 55 yJ9_min_7cf53 ∈ zTW := zmem2 204 rfl rfl
theorem tw_445 : Cond.methodLink RL 212 yX10_status ∈ zTW := zmem2 205 rfl rfl
theorem tw_446 : Cond.instanceMethod yX10_status ∈ zTW := zmem2 206 rfl rfl
theorem tw_447 : Cond.selects RX10 yX10_status yX10_status ∈ zTW := zmem2 207 rfl rfl
theorem tw_448 : Cond.code yX10_status cX10_status 2 (some .int) ∈ zTW := zmem2 208 rfl rfl
theorem tw_449 : Cond.methodLink RL 105 yL_text ∈ zTW := zmem2 209 rfl rfl
theorem tw_450 : Cond.static yL_text ∈ zTW := zmem2 210 rfl rfl
theorem tw_453 : Cond.methodLink RL 7 yX10_text ∈ zTW := zmem2 213 rfl rfl
theorem tw_454 : Cond.instanceMethod yX10_text ∈ zTW := zmem2 214 rfl rfl
theorem tw_455 : Cond.selects RX10 yX10_text yX10_text ∈ zTW := zmem2 215 rfl rfl
theorem tw_456 : Cond.code yX10_text cX10_text 3 (some .int) ∈ zTW := zmem2 216 rfl rfl
theorem tw_457 : Cond.methodLink RX10 77 yX10_needBetween ∈ zTW := zmem2 217 rfl rfl
theorem tw_459 : Cond.instanceMethod yX10_needBetween ∈ zTW := zmem2 219 rfl rfl
theorem tw_460 : Cond.code yX10_needBetween cX10_needBetween 4 none ∈ zTW := zmem2 220 rfl rfl
theorem tw_461 : Cond.methodLink RX10 380 yX10_refuseArgument ∈ zTW := zmem2 221 rfl rfl
theorem tw_463 : Cond.instanceMethod yX10_refuseArgument ∈ zTW := zmem2 223 rfl rfl
theorem tw_464 : Cond.code yX10_refuseArgument cX10_refuseArgument 1 none ∈ zTW := zmem2 224 rfl rfl
theorem tw_507 : Cond.methodLink RX10 364 ⟨"java/lang/IllegalArgumentException", "<init>", "(Ljava/lang/String;)V"⟩ ∈ zTW := zmem3 27 rfl rfl
theorem tw_533 : Cond.methodLink RX10 81 yX8_read ∈ zTW := zmem3 53 rfl rfl
theorem tw_534 : Cond.instanceMethod yX8_read ∈ zTW := zmem3 54 rfl rfl
theorem tw_535 : Cond.selects RX8 yX8_read yX8_read ∈ zTW := zmem3 55 rfl rfl
theorem tw_536 : Cond.code yX8_read cX8_read 3 (some .int) ∈ zTW := zmem3 56 rfl rfl
theorem tw_537 : Cond.methodLink RX8 29 yJ9_min_7cf53 ∈ zTW := zmem3 57 rfl rfl
theorem tw_538 : Cond.methodLink RX8 44 yX6_clear ∈ zTW := zmem3 58 rfl rfl
theorem tw_539 : Cond.instanceMethod yX6_clear ∈ zTW := zmem3 59 rfl rfl
theorem tw_540 : Cond.selects RX6 yX6_clear yX6_clear ∈ zTW := zmem3 60 rfl rfl
theorem tw_541 : Cond.code yX6_clear cX6_clear 1 none ∈ zTW := zmem3 61 rfl rfl
theorem tw_542 : Cond.methodLink RX8 47 yX8_skipBlanks ∈ zTW := zmem3 62 rfl rfl
theorem tw_544 : Cond.instanceMethod yX8_skipBlanks ∈ zTW := zmem3 64 rfl rfl
theorem tw_545 : Cond.code yX8_skipBlanks cX8_skipBlanks 1 none ∈ zTW := zmem3 65 rfl rfl
theorem tw_546 : Cond.methodLink RX8 50 yX8_readLine ∈ zTW := zmem3 66 rfl rfl
theorem tw_548 : Cond.instanceMethod yX8_readLine ∈ zTW := zmem3 68 rfl rfl
theorem tw_549 : Cond.code yX8_readLine cX8_readLine 2 none ∈ zTW := zmem3 69 rfl rfl
theorem tw_551 : Cond.methodLink RX8 58 yX8_isWord ∈ zTW := zmem3 71 rfl rfl
theorem tw_553 : Cond.instanceMethod yX8_isWord ∈ zTW := zmem3 73 rfl rfl
theorem tw_554 : Cond.code yX8_isWord cX8_isWord 4 (some .boolean) ∈ zTW := zmem3 74 rfl rfl
theorem tw_555 : Cond.methodLink RX8 97 yJ0_length_8abf5 ∈ zTW := zmem3 75 rfl rfl
theorem tw_565 : Cond.methodLink RX8 102 yJ0_charAt_5068e ∈ zTW := zmem3 85 rfl rfl
theorem tw_574 : Cond.static yJ1_charAt_3b067 ∈ zTW := zmem3 94 rfl rfl
theorem tw_577 : Cond.static yJ0_checkIndex_df160 ∈ zTW := zmem3 97 rfl rfl
theorem tw_582 : Cond.static yJ3_checkIndex_8e157 ∈ zTW := zmem3 102 rfl rfl
theorem tw_585 : Cond.static yJ2_charAt_3b067 ∈ zTW := zmem3 105 rfl rfl
theorem tw_588 : Cond.static yJ2_checkIndex_2214a ∈ zTW := zmem3 108 rfl rfl
theorem tw_591 : Cond.static yJ2_length_9d52b ∈ zTW := zmem3 111 rfl rfl
theorem tw_595 : Cond.static yJ2_getChar_3b067 ∈ zTW := zmem3 115 rfl rfl
theorem tw_603 : Cond.methodLink RX8 62 yX8_readRing ∈ zTW := zmem3 123 rfl rfl
theorem tw_605 : Cond.instanceMethod yX8_readRing ∈ zTW := zmem3 125 rfl rfl
theorem tw_606 : Cond.code yX8_readRing cX8_readRing 5 none ∈ zTW := zmem3 126 rfl rfl
theorem tw_607 : Cond.methodLink RX8 93 yX8_fail ∈ zTW := zmem3 127 rfl rfl
theorem tw_609 : Cond.instanceMethod yX8_fail ∈ zTW := zmem3 129 rfl rfl
theorem tw_610 : Cond.code yX8_fail cX8_fail 3 none ∈ zTW := zmem3 130 rfl rfl
theorem tw_611 : Cond.methodLink RX8 76 yX8_readNumber ∈ zTW := zmem3 131 rfl rfl
theorem tw_613 : Cond.instanceMethod yX8_readNumber ∈ zTW := zmem3 133 rfl rfl
theorem tw_614 : Cond.code yX8_readNumber cX8_readNumber 4 (some .int) ∈ zTW := zmem3 134 rfl rfl
theorem tw_615 : Cond.methodLink RX8 132 yX8_readDigits ∈ zTW := zmem3 135 rfl rfl
theorem tw_617 : Cond.instanceMethod yX8_readDigits ∈ zTW := zmem3 137 rfl rfl
theorem tw_618 : Cond.code yX8_readDigits cX8_readDigits 3 (some .int) ∈ zTW := zmem3 138 rfl rfl
theorem tw_619 : Cond.constant RX8 138 (100000) ∈ zTW := zmem3 139 rfl rfl
theorem tw_620 : Cond.methodLink RX8 135 yX8_needNumber ∈ zTW := zmem3 140 rfl rfl
theorem tw_622 : Cond.instanceMethod yX8_needNumber ∈ zTW := zmem3 142 rfl rfl
theorem tw_623 : Cond.code yX8_needNumber cX8_needNumber 4 none ∈ zTW := zmem3 143 rfl rfl
theorem tw_624 : Cond.methodLink RX8 81 yX8_readSigned ∈ zTW := zmem3 144 rfl rfl
theorem tw_626 : Cond.instanceMethod yX8_readSigned ∈ zTW := zmem3 146 rfl rfl
theorem tw_627 : Cond.code yX8_readSigned cX8_readSigned 7 (some .int) ∈ zTW := zmem3 147 rfl rfl
theorem tw_628 : Cond.methodLink RX8 109 yX6_addRing ∈ zTW := zmem3 148 rfl rfl
theorem tw_629 : Cond.instanceMethod yX6_addRing ∈ zTW := zmem3 149 rfl rfl
theorem tw_630 : Cond.selects RX6 yX6_addRing yX6_addRing ∈ zTW := zmem3 150 rfl rfl
theorem tw_631 : Cond.code yX6_addRing cX6_addRing 4 none ∈ zTW := zmem3 151 rfl rfl
theorem tw_633 : Cond.methodLink RX8 68 yX8_readPair ∈ zTW := zmem3 153 rfl rfl
theorem tw_635 : Cond.instanceMethod yX8_readPair ∈ zTW := zmem3 155 rfl rfl
theorem tw_636 : Cond.code yX8_readPair cX8_readPair 5 none ∈ zTW := zmem3 156 rfl rfl
theorem tw_637 : Cond.methodLink RX8 119 yX6_hasPair ∈ zTW := zmem3 157 rfl rfl
theorem tw_638 : Cond.instanceMethod yX6_hasPair ∈ zTW := zmem3 158 rfl rfl
theorem tw_639 : Cond.selects RX6 yX6_hasPair yX6_hasPair ∈ zTW := zmem3 159 rfl rfl
theorem tw_640 : Cond.code yX6_hasPair cX6_hasPair 4 (some .boolean) ∈ zTW := zmem3 160 rfl rfl
theorem tw_641 : Cond.methodLink RX8 123 yX6_addPair ∈ zTW := zmem3 161 rfl rfl
theorem tw_642 : Cond.instanceMethod yX6_addPair ∈ zTW := zmem3 162 rfl rfl
theorem tw_643 : Cond.selects RX6 yX6_addPair yX6_addPair ∈ zTW := zmem3 163 rfl rfl
theorem tw_644 : Cond.code yX6_addPair cX6_addPair 3 none ∈ zTW := zmem3 164 rfl rfl
theorem tw_649 : Cond.methodLink RX8 88 yX8_readRepeat ∈ zTW := zmem3 169 rfl rfl
theorem tw_651 : Cond.instanceMethod yX8_readRepeat ∈ zTW := zmem3 171 rfl rfl
theorem tw_652 : Cond.code yX8_readRepeat cX8_readRepeat 2 none ∈ zTW := zmem3 172 rfl rfl
theorem tw_653 : Cond.methodLink RX8 126 yX0_isRepeat ∈ zTW := zmem3 173 rfl rfl
theorem tw_654 : Cond.static yX0_isRepeat ∈ zTW := zmem3 174 rfl rfl
theorem tw_655 : Cond.code yX0_isRepeat cX0_isRepeat 1 (some .boolean) ∈ zTW := zmem3 175 rfl rfl
theorem tw_657 : Cond.methodLink RX8 53 yX8_readEndOfLine ∈ zTW := zmem3 177 rfl rfl
theorem tw_659 : Cond.instanceMethod yX8_readEndOfLine ∈ zTW := zmem3 179 rfl rfl
theorem tw_660 : Cond.code yX8_readEndOfLine cX8_readEndOfLine 1 none ∈ zTW := zmem3 180 rfl rfl
theorem tw_661 : Cond.methodLink RX10 92 yX6_copyFrom ∈ zTW := zmem3 181 rfl rfl
theorem tw_662 : Cond.instanceMethod yX6_copyFrom ∈ zTW := zmem3 182 rfl rfl
theorem tw_663 : Cond.selects RX6 yX6_copyFrom yX6_copyFrom ∈ zTW := zmem3 183 rfl rfl
theorem tw_664 : Cond.code yX6_copyFrom cX6_copyFrom 2 none ∈ zTW := zmem3 184 rfl rfl
theorem tw_665 : Cond.methodLink RX6 37 ⟨"java/lang/System", "arraycopy", "(Ljava/lang/Object;ILjava/lang/Object;II)V"⟩ ∈ zTW := zmem3 185 rfl rfl
theorem tw_666 : Cond.methodLink RX10 102 yX1_clear ∈ zTW := zmem3 186 rfl rfl
theorem tw_667 : Cond.instanceMethod yX1_clear ∈ zTW := zmem3 187 rfl rfl
theorem tw_668 : Cond.selects RX1 yX1_clear yX1_clear ∈ zTW := zmem3 188 rfl rfl
theorem tw_669 : Cond.code yX1_clear cX1_clear 1 none ∈ zTW := zmem3 189 rfl rfl
theorem tw_670 : Cond.methodLink RX10 110 yX3_clear ∈ zTW := zmem3 190 rfl rfl
theorem tw_671 : Cond.instanceMethod yX3_clear ∈ zTW := zmem3 191 rfl rfl
theorem tw_672 : Cond.selects RX3 yX3_clear yX3_clear ∈ zTW := zmem3 192 rfl rfl
theorem tw_673 : Cond.code yX3_clear cX3_clear 2 none ∈ zTW := zmem3 193 rfl rfl
theorem tw_674 : Cond.methodLink RL 119 yL_set ∈ zTW := zmem3 194 rfl rfl
theorem tw_675 : Cond.static yL_set ∈ zTW := zmem3 195 rfl rfl
theorem tw_677 : Cond.methodLink RL 15 yX10_set ∈ zTW := zmem3 197 rfl rfl
theorem tw_678 : Cond.instanceMethod yX10_set ∈ zTW := zmem3 198 rfl rfl
theorem tw_679 : Cond.selects RX10 yX10_set yX10_set ∈ zTW := zmem3 199 rfl rfl
theorem tw_680 : Cond.code yX10_set cX10_set 4 (some .int) ∈ zTW := zmem3 200 rfl rfl
theorem tw_681 : Cond.methodLink RX10 120 yX10_needSetting ∈ zTW := zmem3 201 rfl rfl
theorem tw_683 : Cond.instanceMethod yX10_needSetting ∈ zTW := zmem3 203 rfl rfl
theorem tw_684 : Cond.code yX10_needSetting cX10_needSetting 3 none ∈ zTW := zmem3 204 rfl rfl
theorem tw_685 : Cond.methodLink RX10 383 yX0_isRepeat ∈ zTW := zmem3 205 rfl rfl
theorem tw_686 : Cond.methodLink RX10 124 yX10_remember ∈ zTW := zmem3 206 rfl rfl
theorem tw_688 : Cond.instanceMethod yX10_remember ∈ zTW := zmem3 208 rfl rfl
theorem tw_689 : Cond.code yX10_remember cX10_remember 1 none ∈ zTW := zmem3 209 rfl rfl
theorem tw_690 : Cond.methodLink RX10 386 yX7_copyFrom ∈ zTW := zmem3 210 rfl rfl
theorem tw_691 : Cond.instanceMethod yX7_copyFrom ∈ zTW := zmem3 211 rfl rfl
theorem tw_692 : Cond.selects RX7 yX7_copyFrom yX7_copyFrom ∈ zTW := zmem3 212 rfl rfl
theorem tw_693 : Cond.code yX7_copyFrom cX7_copyFrom 2 none ∈ zTW := zmem3 213 rfl rfl
theorem tw_694 : Cond.methodLink RX7 30 yX6_copyFrom ∈ zTW := zmem3 214 rfl rfl
theorem tw_695 : Cond.methodLink RX7 34 yX1_copyFrom ∈ zTW := zmem3 215 rfl rfl
theorem tw_696 : Cond.instanceMethod yX1_copyFrom ∈ zTW := zmem3 216 rfl rfl
theorem tw_697 : Cond.selects RX1 yX1_copyFrom yX1_copyFrom ∈ zTW := zmem3 217 rfl rfl
theorem tw_698 : Cond.code yX1_copyFrom cX1_copyFrom 2 none ∈ zTW := zmem3 218 rfl rfl
theorem tw_699 : Cond.methodLink RX1 22 ⟨"java/lang/System", "arraycopy", "(Ljava/lang/Object;ILjava/lang/Object;II)V"⟩ ∈ zTW := zmem3 219 rfl rfl
theorem tw_700 : Cond.methodLink RX7 37 yX3_copyFrom ∈ zTW := zmem3 220 rfl rfl
theorem tw_701 : Cond.methodLink RL 123 yL_wear ∈ zTW := zmem3 221 rfl rfl
theorem tw_702 : Cond.static yL_wear ∈ zTW := zmem3 222 rfl rfl
theorem tw_705 : Cond.methodLink RL 19 yX10_wear ∈ zTW := zmem3 225 rfl rfl
theorem tw_706 : Cond.instanceMethod yX10_wear ∈ zTW := zmem3 226 rfl rfl
theorem tw_707 : Cond.selects RX10 yX10_wear yX10_wear ∈ zTW := zmem3 227 rfl rfl
theorem tw_708 : Cond.code yX10_wear cX10_wear 6 (some .int) ∈ zTW := zmem3 228 rfl rfl
theorem tw_709 : Cond.methodLink RX10 133 yX10_needCounted ∈ zTW := zmem3 229 rfl rfl
theorem tw_711 : Cond.instanceMethod yX10_needCounted ∈ zTW := zmem3 231 rfl rfl
theorem tw_712 : Cond.code yX10_needCounted cX10_needCounted 3 none ∈ zTW := zmem3 232 rfl rfl
theorem tw_713 : Cond.methodLink RX10 377 yX10_refuseMissing ∈ zTW := zmem3 233 rfl rfl
theorem tw_715 : Cond.instanceMethod yX10_refuseMissing ∈ zTW := zmem3 235 rfl rfl
theorem tw_716 : Cond.code yX10_refuseMissing cX10_refuseMissing 1 none ∈ zTW := zmem3 236 rfl rfl
theorem tw_727 : Cond.methodLink RX10 376 ⟨"java/util/NoSuchElementException", "<init>", "(Ljava/lang/String;)V"⟩ ∈ zTW := zmem4 7 rfl rfl
theorem tw_733 : Cond.methodLink RX10 136 yX10_needTrait ∈ zTW := zmem4 13 rfl rfl
theorem tw_735 : Cond.instanceMethod yX10_needTrait ∈ zTW := zmem4 15 rfl rfl
theorem tw_736 : Cond.code yX10_needTrait cX10_needTrait 3 none ∈ zTW := zmem4 16 rfl rfl
theorem tw_737 : Cond.methodLink RX10 139 yX6_traitRow ∈ zTW := zmem4 17 rfl rfl
theorem tw_738 : Cond.instanceMethod yX6_traitRow ∈ zTW := zmem4 18 rfl rfl
theorem tw_739 : Cond.selects RX6 yX6_traitRow yX6_traitRow ∈ zTW := zmem4 19 rfl rfl
theorem tw_740 : Cond.code yX6_traitRow cX6_traitRow 2 (some (.array .int)) ∈ zTW := zmem4 20 rfl rfl
theorem tw_741 : Cond.methodLink RL 127 yL_enrol ∈ zTW := zmem4 21 rfl rfl
theorem tw_742 : Cond.static yL_enrol ∈ zTW := zmem4 22 rfl rfl
theorem tw_745 : Cond.methodLink RL 25 yX10_enrol ∈ zTW := zmem4 25 rfl rfl
theorem tw_746 : Cond.instanceMethod yX10_enrol ∈ zTW := zmem4 26 rfl rfl
theorem tw_747 : Cond.selects RX10 yX10_enrol yX10_enrol ∈ zTW := zmem4 27 rfl rfl
theorem tw_748 : Cond.code yX10_enrol cX10_enrol 5 (some .int) ∈ zTW := zmem4 28 rfl rfl
theorem tw_749 : Cond.methodLink RX10 143 yX6_usedPairs ∈ zTW := zmem4 29 rfl rfl
theorem tw_750 : Cond.instanceMethod yX6_usedPairs ∈ zTW := zmem4 30 rfl rfl
theorem tw_751 : Cond.selects RX6 yX6_usedPairs yX6_usedPairs ∈ zTW := zmem4 31 rfl rfl
theorem tw_752 : Cond.code yX6_usedPairs cX6_usedPairs 1 (some .int) ∈ zTW := zmem4 32 rfl rfl
theorem tw_753 : Cond.methodLink RX6 63 yX6_allPairs ∈ zTW := zmem4 33 rfl rfl
theorem tw_754 : Cond.instanceMethod yX6_allPairs ∈ zTW := zmem4 34 rfl rfl
theorem tw_755 : Cond.selects RX6 yX6_allPairs yX6_allPairs ∈ zTW := zmem4 35 rfl rfl
theorem tw_756 : Cond.code yX6_allPairs cX6_allPairs 1 (some .int) ∈ zTW := zmem4 36 rfl rfl
theorem tw_757 : Cond.methodLink RX6 67 yX6_steadyPairs ∈ zTW := zmem4 37 rfl rfl
theorem tw_758 : Cond.instanceMethod yX6_steadyPairs ∈ zTW := zmem4 38 rfl rfl
theorem tw_759 : Cond.selects RX6 yX6_steadyPairs yX6_steadyPairs ∈ zTW := zmem4 39 rfl rfl
theorem tw_760 : Cond.code yX6_steadyPairs cX6_steadyPairs 3 (some .int) ∈ zTW := zmem4 40 rfl rfl
theorem tw_761 : Cond.methodLink RX6 60 yX6_marginOf ∈ zTW := zmem4 41 rfl rfl
theorem tw_762 : Cond.methodLink RX10 147 yX6_blockCount ∈ zTW := zmem4 42 rfl rfl
theorem tw_763 : Cond.instanceMethod yX6_blockCount ∈ zTW := zmem4 43 rfl rfl
theorem tw_764 : Cond.selects RX6 yX6_blockCount yX6_blockCount ∈ zTW := zmem4 44 rfl rfl
theorem tw_765 : Cond.code yX6_blockCount cX6_blockCount 3 (some .int) ∈ zTW := zmem4 45 rfl rfl
theorem tw_766 : Cond.methodLink RX6 70 yJ6_bitCount_0f7a4 ∈ zTW := zmem4 46 rfl rfl
theorem tw_767 : Cond.static yJ6_bitCount_0f7a4 ∈ zTW := zmem4 47 rfl rfl
theorem tw_768 : Cond.code yJ6_bitCount_0f7a4 cJ6_bitCount_0f7a4 1 (some .int) ∈ zTW := zmem4 48 rfl rfl
theorem tw_769 : Cond.constant RJ6 265 (1431655765) ∈ zTW := zmem4 49 rfl rfl
theorem tw_770 : Cond.constant RJ6 266 (858993459) ∈ zTW := zmem4 50 rfl rfl
theorem tw_771 : Cond.constant RJ6 267 (252645135) ∈ zTW := zmem4 51 rfl rfl
theorem tw_772 : Cond.methodLink RX6 75 yX0_lengthOf ∈ zTW := zmem4 52 rfl rfl
theorem tw_773 : Cond.static yX0_lengthOf ∈ zTW := zmem4 53 rfl rfl
theorem tw_774 : Cond.code yX0_lengthOf cX0_lengthOf 1 (some .int) ∈ zTW := zmem4 54 rfl rfl
theorem tw_775 : Cond.methodLink RX0 11 yJ9_max_7cf53 ∈ zTW := zmem4 55 rfl rfl
theorem tw_776 : Cond.static yJ9_max_7cf53 ∈ zTW := zmem4 56 rfl rfl
theorem tw_778 : Cond.methodLink RX6 80 yX0_bitsOf ∈ zTW := zmem4 58 rfl rfl
theorem tw_779 : Cond.static yX0_bitsOf ∈ zTW := zmem4 59 rfl rfl
theorem tw_780 : Cond.code yX0_bitsOf cX0_bitsOf 1 (some .int) ∈ zTW := zmem4 60 rfl rfl
theorem tw_781 : Cond.methodLink RX10 150 yX10_refuseState ∈ zTW := zmem4 61 rfl rfl
theorem tw_783 : Cond.instanceMethod yX10_refuseState ∈ zTW := zmem4 63 rfl rfl
theorem tw_784 : Cond.code yX10_refuseState cX10_refuseState 1 none ∈ zTW := zmem4 64 rfl rfl
theorem tw_795 : Cond.methodLink RX10 371 ⟨"java/lang/IllegalStateException", "<init>", "(Ljava/lang/String;)V"⟩ ∈ zTW := zmem4 75 rfl rfl
theorem tw_801 : Cond.methodLink RX10 153 yX0_bitsOf ∈ zTW := zmem4 81 rfl rfl
theorem tw_802 : Cond.methodLink RX10 158 yX1_keep ∈ zTW := zmem4 82 rfl rfl
theorem tw_803 : Cond.instanceMethod yX1_keep ∈ zTW := zmem4 83 rfl rfl
theorem tw_804 : Cond.selects RX1 yX1_keep yX1_keep ∈ zTW := zmem4 84 rfl rfl
theorem tw_805 : Cond.code yX1_keep cX1_keep 7 none ∈ zTW := zmem4 85 rfl rfl
theorem tw_806 : Cond.methodLink RX1 51 yX1_secretBits ∈ zTW := zmem4 86 rfl rfl
theorem tw_807 : Cond.instanceMethod yX1_secretBits ∈ zTW := zmem4 87 rfl rfl
theorem tw_808 : Cond.selects RX1 yX1_secretBits yX1_secretBits ∈ zTW := zmem4 88 rfl rfl
theorem tw_809 : Cond.code yX1_secretBits cX1_secretBits 1 (some .int) ∈ zTW := zmem4 89 rfl rfl
theorem tw_810 : Cond.methodLink RX1 77 yX0_bitsOf ∈ zTW := zmem4 90 rfl rfl
theorem tw_811 : Cond.methodLink RX1 55 yX0_checkWith ∈ zTW := zmem4 91 rfl rfl
theorem tw_812 : Cond.static yX0_checkWith ∈ zTW := zmem4 92 rfl rfl
theorem tw_813 : Cond.code yX0_checkWith cX0_checkWith 5 (some .int) ∈ zTW := zmem4 93 rfl rfl
theorem tw_815 : Cond.methodLink RX1 61 yX0_lengthOf ∈ zTW := zmem4 95 rfl rfl
theorem tw_817 : Cond.methodLink RX1 71 yX6_bitOf ∈ zTW := zmem4 97 rfl rfl
theorem tw_818 : Cond.methodLink RX1 74 yX0_wordsOf ∈ zTW := zmem4 98 rfl rfl
theorem tw_819 : Cond.static yX0_wordsOf ∈ zTW := zmem4 99 rfl rfl
theorem tw_820 : Cond.code yX0_wordsOf cX0_wordsOf 7 (some .int) ∈ zTW := zmem4 100 rfl rfl
theorem tw_821 : Cond.methodLink RX0 33 yX0_bitsOf ∈ zTW := zmem4 101 rfl rfl
theorem tw_822 : Cond.methodLink RX0 36 yX0_wordOf ∈ zTW := zmem4 102 rfl rfl
theorem tw_823 : Cond.static yX0_wordOf ∈ zTW := zmem4 103 rfl rfl
theorem tw_824 : Cond.code yX0_wordOf cX0_wordOf 4 (some .int) ∈ zTW := zmem4 104 rfl rfl
theorem tw_825 : Cond.fieldLink RX0 17 "SlipSecret$Code" "HAMMING_PARTS" "[I" ∈ zTW := zmem4 105 rfl rfl
theorem tw_827 : Cond.methodLink RX0 21 yJ6_bitCount_0f7a4 ∈ zTW := zmem4 107 rfl rfl
theorem tw_828 : Cond.methodLink RX0 39 yX0_lengthOf ∈ zTW := zmem4 108 rfl rfl
theorem tw_829 : Cond.methodLink RL 130 yL_hear ∈ zTW := zmem4 109 rfl rfl
theorem tw_830 : Cond.static yL_hear ∈ zTW := zmem4 110 rfl rfl
theorem tw_832 : Cond.methodLink RL 30 yX10_hear ∈ zTW := zmem4 112 rfl rfl
theorem tw_833 : Cond.instanceMethod yX10_hear ∈ zTW := zmem4 113 rfl rfl
theorem tw_834 : Cond.selects RX10 yX10_hear yX10_hear ∈ zTW := zmem4 114 rfl rfl
theorem tw_835 : Cond.code yX10_hear cX10_hear 3 (some .int) ∈ zTW := zmem4 115 rfl rfl
theorem tw_836 : Cond.methodLink RL 133 yL_train ∈ zTW := zmem4 116 rfl rfl
theorem tw_837 : Cond.static yL_train ∈ zTW := zmem4 117 rfl rfl
theorem tw_839 : Cond.methodLink RL 33 yX10_train ∈ zTW := zmem4 119 rfl rfl
theorem tw_840 : Cond.instanceMethod yX10_train ∈ zTW := zmem4 120 rfl rfl
theorem tw_841 : Cond.selects RX10 yX10_train yX10_train ∈ zTW := zmem4 121 rfl rfl
theorem tw_842 : Cond.code yX10_train cX10_train 4 (some .int) ∈ zTW := zmem4 122 rfl rfl
theorem tw_843 : Cond.methodLink RX10 167 yX3_learn ∈ zTW := zmem4 123 rfl rfl
theorem tw_844 : Cond.instanceMethod yX3_learn ∈ zTW := zmem4 124 rfl rfl
theorem tw_845 : Cond.selects RX3 yX3_learn yX3_learn ∈ zTW := zmem4 125 rfl rfl
theorem tw_846 : Cond.code yX3_learn cX3_learn 7 (some .int) ∈ zTW := zmem4 126 rfl rfl
theorem tw_847 : Cond.methodLink RX3 58 yX3_guessOf ∈ zTW := zmem4 127 rfl rfl
theorem tw_848 : Cond.instanceMethod yX3_guessOf ∈ zTW := zmem4 128 rfl rfl
theorem tw_849 : Cond.selects RX3 yX3_guessOf yX3_guessOf ∈ zTW := zmem4 129 rfl rfl
theorem tw_850 : Cond.code yX3_guessOf cX3_guessOf 3 (some .int) ∈ zTW := zmem4 130 rfl rfl
theorem tw_851 : Cond.methodLink RX3 50 yX6_bitFrom ∈ zTW := zmem4 131 rfl rfl
theorem tw_852 : Cond.methodLink RL 136 yL_turn ∈ zTW := zmem4 132 rfl rfl
theorem tw_853 : Cond.static yL_turn ∈ zTW := zmem4 133 rfl rfl
theorem tw_855 : Cond.methodLink RL 36 yX10_turn ∈ zTW := zmem4 135 rfl rfl
theorem tw_856 : Cond.instanceMethod yX10_turn ∈ zTW := zmem4 136 rfl rfl
theorem tw_857 : Cond.selects RX10 yX10_turn yX10_turn ∈ zTW := zmem4 137 rfl rfl
theorem tw_858 : Cond.code yX10_turn cX10_turn 2 (some .int) ∈ zTW := zmem4 138 rfl rfl
theorem tw_859 : Cond.methodLink RX10 171 yX10_needEnrolled ∈ zTW := zmem4 139 rfl rfl
theorem tw_861 : Cond.instanceMethod yX10_needEnrolled ∈ zTW := zmem4 141 rfl rfl
theorem tw_862 : Cond.code yX10_needEnrolled cX10_needEnrolled 1 none ∈ zTW := zmem4 142 rfl rfl
theorem tw_863 : Cond.methodLink RX10 310 yX1_isEmpty ∈ zTW := zmem4 143 rfl rfl
theorem tw_864 : Cond.instanceMethod yX1_isEmpty ∈ zTW := zmem4 144 rfl rfl
theorem tw_865 : Cond.selects RX1 yX1_isEmpty yX1_isEmpty ∈ zTW := zmem4 145 rfl rfl
theorem tw_866 : Cond.code yX1_isEmpty cX1_isEmpty 1 (some .boolean) ∈ zTW := zmem4 146 rfl rfl
theorem tw_867 : Cond.methodLink RX10 180 yX10_bitIn ∈ zTW := zmem4 147 rfl rfl
theorem tw_868 : Cond.methodLink RL 143 yL_told ∈ zTW := zmem4 148 rfl rfl
theorem tw_869 : Cond.static yL_told ∈ zTW := zmem4 149 rfl rfl
theorem tw_871 : Cond.methodLink RL 39 yX10_told ∈ zTW := zmem4 151 rfl rfl
theorem tw_872 : Cond.instanceMethod yX10_told ∈ zTW := zmem4 152 rfl rfl
theorem tw_873 : Cond.selects RX10 yX10_told yX10_told ∈ zTW := zmem4 153 rfl rfl
theorem tw_874 : Cond.code yX10_told cX10_told 3 (some .int) ∈ zTW := zmem4 154 rfl rfl
theorem tw_875 : Cond.methodLink RX10 187 yX6_steadyPairs ∈ zTW := zmem4 155 rfl rfl
theorem tw_876 : Cond.methodLink RX10 190 yJ6_bitCount_0f7a4 ∈ zTW := zmem4 156 rfl rfl
theorem tw_877 : Cond.methodLink RX10 196 yX10_toldOfEnrolled ∈ zTW := zmem4 157 rfl rfl
theorem tw_879 : Cond.instanceMethod yX10_toldOfEnrolled ∈ zTW := zmem4 159 rfl rfl
theorem tw_880 : Cond.code yX10_toldOfEnrolled cX10_toldOfEnrolled 3 (some .int) ∈ zTW := zmem4 160 rfl rfl
theorem tw_881 : Cond.methodLink RX10 389 yX1_secretBits ∈ zTW := zmem4 161 rfl rfl
theorem tw_882 : Cond.methodLink RL 146 yL_ring ∈ zTW := zmem4 162 rfl rfl
theorem tw_883 : Cond.static yL_ring ∈ zTW := zmem4 163 rfl rfl
theorem tw_885 : Cond.methodLink RL 42 yX10_ring ∈ zTW := zmem4 165 rfl rfl
theorem tw_886 : Cond.instanceMethod yX10_ring ∈ zTW := zmem4 166 rfl rfl
theorem tw_887 : Cond.selects RX10 yX10_ring yX10_ring ∈ zTW := zmem4 167 rfl rfl
theorem tw_888 : Cond.code yX10_ring cX10_ring 3 (some .int) ∈ zTW := zmem4 168 rfl rfl
theorem tw_889 : Cond.methodLink RX10 202 yX6_pairsWith ∈ zTW := zmem4 169 rfl rfl
theorem tw_890 : Cond.instanceMethod yX6_pairsWith ∈ zTW := zmem4 170 rfl rfl
theorem tw_891 : Cond.selects RX6 yX6_pairsWith yX6_pairsWith ∈ zTW := zmem4 171 rfl rfl
theorem tw_892 : Cond.code yX6_pairsWith cX6_pairsWith 4 (some .int) ∈ zTW := zmem4 172 rfl rfl
theorem tw_893 : Cond.methodLink RL 149 yL_speed ∈ zTW := zmem4 173 rfl rfl
theorem tw_894 : Cond.static yL_speed ∈ zTW := zmem4 174 rfl rfl
theorem tw_896 : Cond.methodLink RL 45 yX10_speed ∈ zTW := zmem4 176 rfl rfl
theorem tw_897 : Cond.instanceMethod yX10_speed ∈ zTW := zmem4 177 rfl rfl
theorem tw_898 : Cond.selects RX10 yX10_speed yX10_speed ∈ zTW := zmem4 178 rfl rfl
theorem tw_899 : Cond.code yX10_speed cX10_speed 3 (some .int) ∈ zTW := zmem4 179 rfl rfl
theorem tw_900 : Cond.methodLink RX10 205 yX10_needHeat ∈ zTW := zmem4 180 rfl rfl
theorem tw_902 : Cond.instanceMethod yX10_needHeat ∈ zTW := zmem4 182 rfl rfl
theorem tw_903 : Cond.code yX10_needHeat cX10_needHeat 2 none ∈ zTW := zmem4 183 rfl rfl
theorem tw_904 : Cond.methodLink RX10 208 yX6_speedOf ∈ zTW := zmem4 184 rfl rfl
theorem tw_905 : Cond.methodLink RL 152 yL_rank ∈ zTW := zmem4 185 rfl rfl
theorem tw_906 : Cond.static yL_rank ∈ zTW := zmem4 186 rfl rfl
theorem tw_908 : Cond.methodLink RL 48 yX10_rank ∈ zTW := zmem4 188 rfl rfl
theorem tw_909 : Cond.instanceMethod yX10_rank ∈ zTW := zmem4 189 rfl rfl
theorem tw_910 : Cond.selects RX10 yX10_rank yX10_rank ∈ zTW := zmem4 190 rfl rfl
theorem tw_911 : Cond.code yX10_rank cX10_rank 4 (some .int) ∈ zTW := zmem4 191 rfl rfl
theorem tw_912 : Cond.methodLink RX10 211 yX6_ringsAheadOf ∈ zTW := zmem4 192 rfl rfl
theorem tw_913 : Cond.instanceMethod yX6_ringsAheadOf ∈ zTW := zmem4 193 rfl rfl
theorem tw_914 : Cond.selects RX6 yX6_ringsAheadOf yX6_ringsAheadOf ∈ zTW := zmem4 194 rfl rfl
theorem tw_915 : Cond.code yX6_ringsAheadOf cX6_ringsAheadOf 7 (some .int) ∈ zTW := zmem4 195 rfl rfl
theorem tw_916 : Cond.methodLink RL 155 yL_pair ∈ zTW := zmem4 196 rfl rfl
theorem tw_917 : Cond.static yL_pair ∈ zTW := zmem4 197 rfl rfl
theorem tw_919 : Cond.methodLink RL 51 yX10_pair ∈ zTW := zmem4 199 rfl rfl
theorem tw_920 : Cond.instanceMethod yX10_pair ∈ zTW := zmem4 200 rfl rfl
theorem tw_921 : Cond.selects RX10 yX10_pair yX10_pair ∈ zTW := zmem4 201 rfl rfl
theorem tw_922 : Cond.code yX10_pair cX10_pair 5 (some .int) ∈ zTW := zmem4 202 rfl rfl
theorem tw_923 : Cond.methodLink RX10 214 yX1_placeOf ∈ zTW := zmem4 203 rfl rfl
theorem tw_924 : Cond.instanceMethod yX1_placeOf ∈ zTW := zmem4 204 rfl rfl
theorem tw_925 : Cond.selects RX1 yX1_placeOf yX1_placeOf ∈ zTW := zmem4 205 rfl rfl
theorem tw_926 : Cond.code yX1_placeOf cX1_placeOf 3 (some .int) ∈ zTW := zmem4 206 rfl rfl
theorem tw_927 : Cond.methodLink RX10 226 yX6_blockOf ∈ zTW := zmem4 207 rfl rfl
theorem tw_928 : Cond.instanceMethod yX6_blockOf ∈ zTW := zmem4 208 rfl rfl
theorem tw_929 : Cond.selects RX6 yX6_blockOf yX6_blockOf ∈ zTW := zmem4 209 rfl rfl
theorem tw_930 : Cond.code yX6_blockOf cX6_blockOf 5 (some .int) ∈ zTW := zmem4 210 rfl rfl
theorem tw_931 : Cond.methodLink RX6 83 yX6_usedPairs ∈ zTW := zmem4 211 rfl rfl
theorem tw_933 : Cond.methodLink RX6 89 yX6_blockCount ∈ zTW := zmem4 213 rfl rfl
theorem tw_934 : Cond.methodLink RX10 229 yX3_heardBitOf ∈ zTW := zmem4 214 rfl rfl
theorem tw_935 : Cond.methodLink RX10 239 yX3_guessOf ∈ zTW := zmem4 215 rfl rfl
theorem tw_936 : Cond.methodLink RL 158 yL_bit ∈ zTW := zmem4 216 rfl rfl
theorem tw_937 : Cond.static yL_bit ∈ zTW := zmem4 217 rfl rfl
theorem tw_939 : Cond.methodLink RL 54 yX10_bit ∈ zTW := zmem4 219 rfl rfl
theorem tw_940 : Cond.instanceMethod yX10_bit ∈ zTW := zmem4 220 rfl rfl
theorem tw_941 : Cond.selects RX10 yX10_bit yX10_bit ∈ zTW := zmem4 221 rfl rfl
theorem tw_942 : Cond.code yX10_bit cX10_bit 3 (some .int) ∈ zTW := zmem4 222 rfl rfl
theorem tw_943 : Cond.methodLink RX10 246 yX6_bitAt ∈ zTW := zmem4 223 rfl rfl
theorem tw_944 : Cond.instanceMethod yX6_bitAt ∈ zTW := zmem4 224 rfl rfl
theorem tw_945 : Cond.selects RX6 yX6_bitAt yX6_bitAt ∈ zTW := zmem4 225 rfl rfl
theorem tw_946 : Cond.code yX6_bitAt cX6_bitAt 3 (some .int) ∈ zTW := zmem4 226 rfl rfl
theorem tw_947 : Cond.methodLink RL 161 yL_flips ∈ zTW := zmem4 227 rfl rfl
theorem tw_948 : Cond.static yL_flips ∈ zTW := zmem4 228 rfl rfl
theorem tw_950 : Cond.methodLink RL 57 yX10_flips ∈ zTW := zmem4 230 rfl rfl
theorem tw_951 : Cond.instanceMethod yX10_flips ∈ zTW := zmem4 231 rfl rfl
theorem tw_952 : Cond.selects RX10 yX10_flips yX10_flips ∈ zTW := zmem4 232 rfl rfl
theorem tw_953 : Cond.code yX10_flips cX10_flips 7 (some .int) ∈ zTW := zmem4 233 rfl rfl
theorem tw_954 : Cond.methodLink RL 164 yL_odds ∈ zTW := zmem4 234 rfl rfl
theorem tw_955 : Cond.static yL_odds ∈ zTW := zmem4 235 rfl rfl
theorem tw_957 : Cond.methodLink RL 60 yX10_odds ∈ zTW := zmem4 237 rfl rfl
theorem tw_958 : Cond.instanceMethod yX10_odds ∈ zTW := zmem4 238 rfl rfl
theorem tw_959 : Cond.selects RX10 yX10_odds yX10_odds ∈ zTW := zmem4 239 rfl rfl
theorem tw_960 : Cond.code yX10_odds cX10_odds 8 (some .int) ∈ zTW := zmem5 0 rfl rfl
theorem tw_961 : Cond.methodLink RX10 254 yX6_drawsOf ∈ zTW := zmem5 1 rfl rfl
theorem tw_962 : Cond.instanceMethod yX6_drawsOf ∈ zTW := zmem5 2 rfl rfl
theorem tw_963 : Cond.selects RX6 yX6_drawsOf yX6_drawsOf ∈ zTW := zmem5 3 rfl rfl
theorem tw_964 : Cond.code yX6_drawsOf cX6_drawsOf 2 (some .int) ∈ zTW := zmem5 4 rfl rfl
theorem tw_965 : Cond.methodLink RX10 257 yX6_drawsWithOne ∈ zTW := zmem5 5 rfl rfl
theorem tw_966 : Cond.instanceMethod yX6_drawsWithOne ∈ zTW := zmem5 6 rfl rfl
theorem tw_967 : Cond.selects RX6 yX6_drawsWithOne yX6_drawsWithOne ∈ zTW := zmem5 7 rfl rfl
theorem tw_968 : Cond.code yX6_drawsWithOne cX6_drawsWithOne 12 (some .int) ∈ zTW := zmem5 8 rfl rfl
theorem tw_969 : Cond.methodLink RX6 92 yJ9_max_7cf53 ∈ zTW := zmem5 9 rfl rfl
theorem tw_970 : Cond.methodLink RX10 260 yX10_commonDivisor ∈ zTW := zmem5 10 rfl rfl
theorem tw_971 : Cond.static yX10_commonDivisor ∈ zTW := zmem5 11 rfl rfl
theorem tw_972 : Cond.code yX10_commonDivisor cX10_commonDivisor 6 (some .int) ∈ zTW := zmem5 12 rfl rfl
theorem tw_973 : Cond.methodLink RX10 291 yJ9_max_7cf53 ∈ zTW := zmem5 13 rfl rfl
theorem tw_974 : Cond.methodLink RL 168 yL_block ∈ zTW := zmem5 14 rfl rfl
theorem tw_975 : Cond.static yL_block ∈ zTW := zmem5 15 rfl rfl
theorem tw_977 : Cond.methodLink RL 64 yX10_block ∈ zTW := zmem5 17 rfl rfl
theorem tw_978 : Cond.instanceMethod yX10_block ∈ zTW := zmem5 18 rfl rfl
theorem tw_979 : Cond.selects RX10 yX10_block yX10_block ∈ zTW := zmem5 19 rfl rfl
theorem tw_980 : Cond.code yX10_block cX10_block 5 (some .int) ∈ zTW := zmem5 20 rfl rfl
theorem tw_981 : Cond.methodLink RX10 263 yX0_lengthOf ∈ zTW := zmem5 21 rfl rfl
theorem tw_982 : Cond.methodLink RX10 266 yX6_pairAt ∈ zTW := zmem5 22 rfl rfl
theorem tw_983 : Cond.instanceMethod yX6_pairAt ∈ zTW := zmem5 23 rfl rfl
theorem tw_984 : Cond.selects RX6 yX6_pairAt yX6_pairAt ∈ zTW := zmem5 24 rfl rfl
theorem tw_985 : Cond.code yX6_pairAt cX6_pairAt 5 (some .int) ∈ zTW := zmem5 25 rfl rfl
theorem tw_986 : Cond.methodLink RL 171 yL_recover ∈ zTW := zmem5 26 rfl rfl
theorem tw_987 : Cond.static yL_recover ∈ zTW := zmem5 27 rfl rfl
theorem tw_989 : Cond.methodLink RL 67 yX10_recover ∈ zTW := zmem5 29 rfl rfl
theorem tw_990 : Cond.instanceMethod yX10_recover ∈ zTW := zmem5 30 rfl rfl
theorem tw_991 : Cond.selects RX10 yX10_recover yX10_recover ∈ zTW := zmem5 31 rfl rfl
theorem tw_992 : Cond.code yX10_recover cX10_recover 4 (some .int) ∈ zTW := zmem5 32 rfl rfl
theorem tw_993 : Cond.constant RX10 269 (65536) ∈ zTW := zmem5 33 rfl rfl
theorem tw_994 : Cond.methodLink RX10 273 yX5_take ∈ zTW := zmem5 34 rfl rfl
theorem tw_995 : Cond.instanceMethod yX5_take ∈ zTW := zmem5 35 rfl rfl
theorem tw_996 : Cond.selects RX5 yX5_take yX5_take ∈ zTW := zmem5 36 rfl rfl
theorem tw_997 : Cond.code yX5_take cX5_take 9 none ∈ zTW := zmem5 37 rfl rfl
theorem tw_998 : Cond.methodLink RX5 32 yX5_noisySpeed ∈ zTW := zmem5 38 rfl rfl
theorem tw_1000 : Cond.instanceMethod yX5_noisySpeed ∈ zTW := zmem5 40 rfl rfl
theorem tw_1001 : Cond.code yX5_noisySpeed cX5_noisySpeed 6 (some .int) ∈ zTW := zmem5 41 rfl rfl
theorem tw_1002 : Cond.methodLink RX5 90 yX6_speedOf ∈ zTW := zmem5 42 rfl rfl
theorem tw_1003 : Cond.constant RX5 100 (65537) ∈ zTW := zmem5 43 rfl rfl
theorem tw_1004 : Cond.methodLink RX5 41 yX6_bitFrom ∈ zTW := zmem5 44 rfl rfl
theorem tw_1005 : Cond.methodLink RX5 48 yJ6_bitCount_0f7a4 ∈ zTW := zmem5 45 rfl rfl
theorem tw_1006 : Cond.methodLink RX5 66 yX0_secretFrom ∈ zTW := zmem5 46 rfl rfl
theorem tw_1007 : Cond.static yX0_secretFrom ∈ zTW := zmem5 47 rfl rfl
theorem tw_1008 : Cond.code yX0_secretFrom cX0_secretFrom 7 (some .int) ∈ zTW := zmem5 48 rfl rfl
theorem tw_1009 : Cond.methodLink RX0 42 yX0_decodedFrom ∈ zTW := zmem5 49 rfl rfl
theorem tw_1010 : Cond.static yX0_decodedFrom ∈ zTW := zmem5 50 rfl rfl
theorem tw_1011 : Cond.code yX0_decodedFrom cX0_decodedFrom 4 (some .int) ∈ zTW := zmem5 51 rfl rfl
theorem tw_1012 : Cond.fieldLink RX0 27 "SlipSecret$Code" "HAMMING_SUMS" "[I" ∈ zTW := zmem5 52 rfl rfl
theorem tw_1014 : Cond.methodLink RX5 74 yX0_wordsOf ∈ zTW := zmem5 54 rfl rfl
theorem tw_1015 : Cond.methodLink RX10 286 yX5_isRefused ∈ zTW := zmem5 55 rfl rfl
theorem tw_1016 : Cond.instanceMethod yX5_isRefused ∈ zTW := zmem5 56 rfl rfl
theorem tw_1017 : Cond.selects RX5 yX5_isRefused yX5_isRefused ∈ zTW := zmem5 57 rfl rfl
theorem tw_1018 : Cond.code yX5_isRefused cX5_isRefused 2 (some .boolean) ∈ zTW := zmem5 58 rfl rfl
theorem tw_1019 : Cond.methodLink RX5 80 yX1_secretBits ∈ zTW := zmem5 59 rfl rfl
theorem tw_1020 : Cond.methodLink RX5 84 yX0_checkWith ∈ zTW := zmem5 60 rfl rfl
theorem tw_1021 : Cond.methodLink RL 174 yL_fails ∈ zTW := zmem5 61 rfl rfl
theorem tw_1022 : Cond.static yL_fails ∈ zTW := zmem5 62 rfl rfl
theorem tw_1024 : Cond.methodLink RL 70 yX10_fails ∈ zTW := zmem5 64 rfl rfl
theorem tw_1025 : Cond.instanceMethod yX10_fails ∈ zTW := zmem5 65 rfl rfl
theorem tw_1026 : Cond.selects RX10 yX10_fails yX10_fails ∈ zTW := zmem5 66 rfl rfl
theorem tw_1027 : Cond.code yX10_fails cX10_fails 9 (some .int) ∈ zTW := zmem5 67 rfl rfl
theorem tw_1028 : Cond.methodLink RL 178 yL_safe ∈ zTW := zmem5 68 rfl rfl
theorem tw_1029 : Cond.static yL_safe ∈ zTW := zmem5 69 rfl rfl
theorem tw_1031 : Cond.methodLink RL 74 yX10_safe ∈ zTW := zmem5 71 rfl rfl
theorem tw_1032 : Cond.instanceMethod yX10_safe ∈ zTW := zmem5 72 rfl rfl
theorem tw_1033 : Cond.selects RX10 yX10_safe yX10_safe ∈ zTW := zmem5 73 rfl rfl
theorem tw_1034 : Cond.code yX10_safe cX10_safe 4 (some .int) ∈ zTW := zmem5 74 rfl rfl
theorem tw_1035 : Cond.methodLink RX10 294 yX1_shakyAt ∈ zTW := zmem5 75 rfl rfl
theorem tw_1036 : Cond.instanceMethod yX1_shakyAt ∈ zTW := zmem5 76 rfl rfl
theorem tw_1037 : Cond.selects RX1 yX1_shakyAt yX1_shakyAt ∈ zTW := zmem5 77 rfl rfl
theorem tw_1038 : Cond.code yX1_shakyAt cX1_shakyAt 6 (some .int) ∈ zTW := zmem5 78 rfl rfl
theorem tw_1039 : Cond.methodLink RX1 80 yX6_canRead ∈ zTW := zmem5 79 rfl rfl
theorem tw_1040 : Cond.instanceMethod yX6_canRead ∈ zTW := zmem5 80 rfl rfl
theorem tw_1041 : Cond.selects RX6 yX6_canRead yX6_canRead ∈ zTW := zmem5 81 rfl rfl
theorem tw_1042 : Cond.code yX6_canRead cX6_canRead 8 (some .boolean) ∈ zTW := zmem5 82 rfl rfl
theorem tw_1043 : Cond.methodLink RX10 297 yX1_safeBlocks ∈ zTW := zmem5 83 rfl rfl
theorem tw_1044 : Cond.instanceMethod yX1_safeBlocks ∈ zTW := zmem5 84 rfl rfl
theorem tw_1045 : Cond.selects RX1 yX1_safeBlocks yX1_safeBlocks ∈ zTW := zmem5 85 rfl rfl
theorem tw_1046 : Cond.code yX1_safeBlocks cX1_safeBlocks 4 (some .int) ∈ zTW := zmem5 86 rfl rfl
theorem tw_1047 : Cond.methodLink RX1 92 yX1_isSafeBlock ∈ zTW := zmem5 87 rfl rfl
theorem tw_1048 : Cond.instanceMethod yX1_isSafeBlock ∈ zTW := zmem5 88 rfl rfl
theorem tw_1049 : Cond.selects RX1 yX1_isSafeBlock yX1_isSafeBlock ∈ zTW := zmem5 89 rfl rfl
theorem tw_1050 : Cond.code yX1_isSafeBlock cX1_isSafeBlock 6 (some .boolean) ∈ zTW := zmem5 90 rfl rfl
theorem tw_1051 : Cond.methodLink RX1 84 yJ6_bitCount_0f7a4 ∈ zTW := zmem5 91 rfl rfl
theorem tw_1052 : Cond.methodLink RX1 89 yX0_mendedBy ∈ zTW := zmem5 92 rfl rfl
theorem tw_1053 : Cond.static yX0_mendedBy ∈ zTW := zmem5 93 rfl rfl
theorem tw_1054 : Cond.code yX0_mendedBy cX0_mendedBy 1 (some .int) ∈ zTW := zmem5 94 rfl rfl
theorem tw_1055 : Cond.methodLink RX10 300 yX1_firstUnsafe ∈ zTW := zmem5 95 rfl rfl
theorem tw_1056 : Cond.instanceMethod yX1_firstUnsafe ∈ zTW := zmem5 96 rfl rfl
theorem tw_1057 : Cond.selects RX1 yX1_firstUnsafe yX1_firstUnsafe ∈ zTW := zmem5 97 rfl rfl
theorem tw_1058 : Cond.code yX1_firstUnsafe cX1_firstUnsafe 3 (some .int) ∈ zTW := zmem5 98 rfl rfl
theorem tw_1059 : Cond.methodLink RL 181 yL_range ∈ zTW := zmem5 99 rfl rfl
theorem tw_1060 : Cond.static yL_range ∈ zTW := zmem5 100 rfl rfl
theorem tw_1062 : Cond.methodLink RL 77 yX10_range ∈ zTW := zmem5 102 rfl rfl
theorem tw_1063 : Cond.instanceMethod yX10_range ∈ zTW := zmem5 103 rfl rfl
theorem tw_1064 : Cond.selects RX10 yX10_range yX10_range ∈ zTW := zmem5 104 rfl rfl
theorem tw_1065 : Cond.code yX10_range cX10_range 5 (some .int) ∈ zTW := zmem5 105 rfl rfl
theorem tw_1066 : Cond.methodLink RX10 303 yX10_isSafeAt ∈ zTW := zmem5 106 rfl rfl
theorem tw_1068 : Cond.instanceMethod yX10_isSafeAt ∈ zTW := zmem5 108 rfl rfl
theorem tw_1069 : Cond.code yX10_isSafeAt cX10_isSafeAt 2 (some .boolean) ∈ zTW := zmem5 109 rfl rfl
theorem tw_1070 : Cond.methodLink RL 184 yL_guardFor ∈ zTW := zmem5 110 rfl rfl
theorem tw_1071 : Cond.static yL_guardFor ∈ zTW := zmem5 111 rfl rfl
theorem tw_1073 : Cond.methodLink RL 80 yX10_guardFor ∈ zTW := zmem5 113 rfl rfl
theorem tw_1074 : Cond.instanceMethod yX10_guardFor ∈ zTW := zmem5 114 rfl rfl
theorem tw_1075 : Cond.selects RX10 yX10_guardFor yX10_guardFor ∈ zTW := zmem5 115 rfl rfl
theorem tw_1076 : Cond.code yX10_guardFor cX10_guardFor 7 (some .int) ∈ zTW := zmem5 116 rfl rfl
theorem tw_1077 : Cond.methodLink RX10 307 yX10_marginsFrom ∈ zTW := zmem5 117 rfl rfl
theorem tw_1079 : Cond.instanceMethod yX10_marginsFrom ∈ zTW := zmem5 119 rfl rfl
theorem tw_1080 : Cond.code yX10_marginsFrom cX10_marginsFrom 4 (some .int) ∈ zTW := zmem5 120 rfl rfl
theorem tw_1081 : Cond.methodLink RL 187 yL_ways ∈ zTW := zmem5 121 rfl rfl
theorem tw_1082 : Cond.static yL_ways ∈ zTW := zmem5 122 rfl rfl
theorem tw_1084 : Cond.methodLink RL 83 yX10_ways ∈ zTW := zmem5 124 rfl rfl
theorem tw_1085 : Cond.instanceMethod yX10_ways ∈ zTW := zmem5 125 rfl rfl
theorem tw_1086 : Cond.selects RX10 yX10_ways yX10_ways ∈ zTW := zmem5 126 rfl rfl
theorem tw_1087 : Cond.code yX10_ways cX10_ways 3 (some .long) ∈ zTW := zmem5 127 rfl rfl
theorem tw_1088 : Cond.methodLink RX10 314 yX1_pairsAsSet ∈ zTW := zmem5 128 rfl rfl
theorem tw_1089 : Cond.instanceMethod yX1_pairsAsSet ∈ zTW := zmem5 129 rfl rfl
theorem tw_1090 : Cond.selects RX1 yX1_pairsAsSet yX1_pairsAsSet ∈ zTW := zmem5 130 rfl rfl
theorem tw_1091 : Cond.code yX1_pairsAsSet cX1_pairsAsSet 3 (some .int) ∈ zTW := zmem5 131 rfl rfl
theorem tw_1092 : Cond.methodLink RX10 317 yX9_count ∈ zTW := zmem5 132 rfl rfl
theorem tw_1093 : Cond.instanceMethod yX9_count ∈ zTW := zmem5 133 rfl rfl
theorem tw_1094 : Cond.selects RX9 yX9_count yX9_count ∈ zTW := zmem5 134 rfl rfl
theorem tw_1095 : Cond.code yX9_count cX9_count 6 (some .long) ∈ zTW := zmem5 135 rfl rfl
theorem tw_1096 : Cond.methodLink RX9 22 yX9_link ∈ zTW := zmem5 136 rfl rfl
theorem tw_1098 : Cond.instanceMethod yX9_link ∈ zTW := zmem5 138 rfl rfl
theorem tw_1099 : Cond.code yX9_link cX9_link 4 none ∈ zTW := zmem5 139 rfl rfl
theorem tw_1101 : Cond.methodLink RX9 32 yX9_countOf ∈ zTW := zmem5 141 rfl rfl
theorem tw_1103 : Cond.instanceMethod yX9_countOf ∈ zTW := zmem5 143 rfl rfl
theorem tw_1104 : Cond.code yX9_countOf cX9_countOf 5 (some .long) ∈ zTW := zmem5 144 rfl rfl
theorem tw_1105 : Cond.methodLink RX10 320 yX6_allPairs ∈ zTW := zmem5 145 rfl rfl
theorem tw_1106 : Cond.methodLink RL 190 yL_leak ∈ zTW := zmem5 146 rfl rfl
theorem tw_1107 : Cond.static yL_leak ∈ zTW := zmem5 147 rfl rfl
theorem tw_1109 : Cond.methodLink RL 87 yX10_leak ∈ zTW := zmem5 149 rfl rfl
theorem tw_1110 : Cond.instanceMethod yX10_leak ∈ zTW := zmem5 150 rfl rfl
theorem tw_1111 : Cond.selects RX10 yX10_leak yX10_leak ∈ zTW := zmem5 151 rfl rfl
theorem tw_1112 : Cond.code yX10_leak cX10_leak 2 (some .int) ∈ zTW := zmem5 152 rfl rfl
theorem tw_1113 : Cond.methodLink RX10 323 yX10_sureOfEnrolled ∈ zTW := zmem5 153 rfl rfl
theorem tw_1115 : Cond.instanceMethod yX10_sureOfEnrolled ∈ zTW := zmem5 155 rfl rfl
theorem tw_1116 : Cond.code yX10_sureOfEnrolled cX10_sureOfEnrolled 4 (some .int) ∈ zTW := zmem5 156 rfl rfl
theorem tw_1117 : Cond.constantLong RX10 395 (2) ∈ zTW := zmem5 157 rfl rfl
theorem tw_1118 : Cond.methodLink RX10 326 yX1_leaked ∈ zTW := zmem5 158 rfl rfl
theorem tw_1119 : Cond.instanceMethod yX1_leaked ∈ zTW := zmem5 159 rfl rfl
theorem tw_1120 : Cond.selects RX1 yX1_leaked yX1_leaked ∈ zTW := zmem5 160 rfl rfl
theorem tw_1121 : Cond.code yX1_leaked cX1_leaked 1 (some .int) ∈ zTW := zmem5 161 rfl rfl
theorem tw_1122 : Cond.methodLink RX10 329 yX4_clear ∈ zTW := zmem5 162 rfl rfl
theorem tw_1123 : Cond.methodLink RX10 330 yX2_count ∈ zTW := zmem5 163 rfl rfl
theorem tw_1124 : Cond.instanceMethod yX2_count ∈ zTW := zmem5 164 rfl rfl
theorem tw_1125 : Cond.selects RX2 yX2_count yX2_count ∈ zTW := zmem5 165 rfl rfl
theorem tw_1126 : Cond.code yX2_count cX2_count 4 (some .int) ∈ zTW := zmem5 166 rfl rfl
theorem tw_1127 : Cond.methodLink RX2 18 yX4_isBroken ∈ zTW := zmem5 167 rfl rfl
theorem tw_1128 : Cond.instanceMethod yX4_isBroken ∈ zTW := zmem5 168 rfl rfl
theorem tw_1129 : Cond.selects RX4 yX4_isBroken yX4_isBroken ∈ zTW := zmem5 169 rfl rfl
theorem tw_1130 : Cond.code yX4_isBroken cX4_isBroken 2 (some .boolean) ∈ zTW := zmem5 170 rfl rfl
theorem tw_1131 : Cond.methodLink RX2 22 yX4_copyFrom ∈ zTW := zmem5 171 rfl rfl
theorem tw_1132 : Cond.methodLink RX2 26 yX2_countFrom ∈ zTW := zmem5 172 rfl rfl
theorem tw_1134 : Cond.instanceMethod yX2_countFrom ∈ zTW := zmem5 174 rfl rfl
theorem tw_1135 : Cond.code yX2_countFrom cX2_countFrom 10 (some .int) ∈ zTW := zmem5 175 rfl rfl
theorem tw_1136 : Cond.methodLink RX2 42 yX0_bitsOf ∈ zTW := zmem5 176 rfl rfl
theorem tw_1137 : Cond.methodLink RX2 48 yX1_secretBits ∈ zTW := zmem5 177 rfl rfl
theorem tw_1138 : Cond.methodLink RX2 52 yX0_checkWith ∈ zTW := zmem5 178 rfl rfl
theorem tw_1139 : Cond.methodLink RX2 56 yX0_canBecome ∈ zTW := zmem5 179 rfl rfl
theorem tw_1140 : Cond.static yX0_canBecome ∈ zTW := zmem5 180 rfl rfl
theorem tw_1141 : Cond.code yX0_canBecome cX0_canBecome 3 (some .boolean) ∈ zTW := zmem5 181 rfl rfl
theorem tw_1142 : Cond.methodLink RX0 45 yX0_checkWith ∈ zTW := zmem5 182 rfl rfl
theorem tw_1143 : Cond.methodLink RX2 60 yX2_putBlock ∈ zTW := zmem5 183 rfl rfl
theorem tw_1145 : Cond.instanceMethod yX2_putBlock ∈ zTW := zmem5 185 rfl rfl
theorem tw_1146 : Cond.code yX2_putBlock cX2_putBlock 11 (some .boolean) ∈ zTW := zmem5 186 rfl rfl
theorem tw_1147 : Cond.methodLink RX2 64 yX0_lengthOf ∈ zTW := zmem5 187 rfl rfl
theorem tw_1148 : Cond.methodLink RX2 67 yX0_wordOf ∈ zTW := zmem5 188 rfl rfl
theorem tw_1150 : Cond.methodLink RX2 89 yX4_bitTold ∈ zTW := zmem5 190 rfl rfl
theorem tw_1151 : Cond.methodLink RX2 92 yX4_putPair ∈ zTW := zmem5 191 rfl rfl
theorem tw_1152 : Cond.methodLink RL 193 yL_success ∈ zTW := zmem5 192 rfl rfl
theorem tw_1153 : Cond.static yL_success ∈ zTW := zmem5 193 rfl rfl
theorem tw_1155 : Cond.methodLink RL 90 yX10_success ∈ zTW := zmem5 195 rfl rfl
theorem tw_1156 : Cond.instanceMethod yX10_success ∈ zTW := zmem5 196 rfl rfl
theorem tw_1157 : Cond.selects RX10 yX10_success yX10_success ∈ zTW := zmem5 197 rfl rfl
theorem tw_1158 : Cond.code yX10_success cX10_success 9 (some .int) ∈ zTW := zmem5 198 rfl rfl
theorem tw_1159 : Cond.methodLink RL 196 yL_curve ∈ zTW := zmem5 199 rfl rfl
theorem tw_1160 : Cond.static yL_curve ∈ zTW := zmem5 200 rfl rfl
theorem tw_1162 : Cond.methodLink RL 93 yX10_curve ∈ zTW := zmem5 202 rfl rfl
theorem tw_1163 : Cond.instanceMethod yX10_curve ∈ zTW := zmem5 203 rfl rfl
theorem tw_1164 : Cond.selects RX10 yX10_curve yX10_curve ∈ zTW := zmem5 204 rfl rfl
theorem tw_1165 : Cond.code yX10_curve cX10_curve 4 (some .int) ∈ zTW := zmem5 205 rfl rfl
theorem tw_1166 : Cond.methodLink RX10 336 yX10_epochsToLearn ∈ zTW := zmem5 206 rfl rfl
theorem tw_1168 : Cond.instanceMethod yX10_epochsToLearn ∈ zTW := zmem5 208 rfl rfl
theorem tw_1169 : Cond.code yX10_epochsToLearn cX10_epochsToLearn 3 (some .int) ∈ zTW := zmem5 209 rfl rfl
theorem tw_1170 : Cond.methodLink RX10 340 yX10_guessedRight ∈ zTW := zmem5 210 rfl rfl
theorem tw_1172 : Cond.instanceMethod yX10_guessedRight ∈ zTW := zmem5 212 rfl rfl
theorem tw_1173 : Cond.code yX10_guessedRight cX10_guessedRight 5 (some .int) ∈ zTW := zmem5 213 rfl rfl
theorem tw_1174 : Cond.methodLink RL 111 yX11_thrown ∈ zTW := zmem5 214 rfl rfl
theorem tw_1175 : Cond.instanceMethod yX11_thrown ∈ zTW := zmem5 215 rfl rfl
theorem tw_1176 : Cond.selects RX11 yX11_thrown yX11_thrown ∈ zTW := zmem5 216 rfl rfl
theorem tw_1177 : Cond.code yX11_thrown cX11_thrown 1 (some .int) ∈ zTW := zmem5 217 rfl rfl
theorem tw_1180 : Cond.methodLink RL 99 yX11_init ∈ zTW := zmem5 220 rfl rfl
theorem tw_1182 : Cond.code yX11_init cX11_init 1 none ∈ zTW := zmem5 222 rfl rfl
theorem tw_1183 : Cond.methodLink RX11 11 ⟨"java/lang/Object", "<init>", "()V"⟩ ∈ zTW := zmem5 223 rfl rfl
theorem tw_1184 : Cond.methodLink RX11 70 yX11_clears ∈ zTW := zmem5 224 rfl rfl
theorem tw_1185 : Cond.static yX11_clears ∈ zTW := zmem5 225 rfl rfl
theorem tw_1186 : Cond.code yX11_clears cX11_clears 2 none ∈ zTW := zmem5 226 rfl rfl
theorem tw_1187 : Cond.fieldLink RX11 1 (TX11 0).1 (TX11 0).2.1 (TX11 0).2.2.1 ∈ zTW := zmem5 227 rfl rfl
theorem tw_1188 : Cond.fieldLink RX11 7 (TX11 1).1 (TX11 1).2.1 (TX11 1).2.2.1 ∈ zTW := zmem5 228 rfl rfl
theorem tw_1189 : Cond.fieldLink RX11 17 (TX11 2).1 (TX11 2).2.1 (TX11 2).2.2.1 ∈ zTW := zmem5 229 rfl rfl
theorem tw_1190 : Cond.fieldLink RX11 20 (TX11 3).1 (TX11 3).2.1 (TX11 3).2.2.1 ∈ zTW := zmem5 230 rfl rfl
theorem tw_1191 : Cond.fieldLink RX11 23 (TX11 4).1 (TX11 4).2.1 (TX11 4).2.2.1 ∈ zTW := zmem5 231 rfl rfl
theorem tw_1192 : Cond.fieldLink RX11 26 (TX11 5).1 (TX11 5).2.1 (TX11 5).2.2.1 ∈ zTW := zmem5 232 rfl rfl
theorem tw_1193 : Cond.fieldLink RX11 29 (TX11 6).1 (TX11 6).2.1 (TX11 6).2.2.1 ∈ zTW := zmem5 233 rfl rfl
theorem tw_1194 : Cond.fieldLink RX11 32 (TX11 7).1 (TX11 7).2.1 (TX11 7).2.2.1 ∈ zTW := zmem5 234 rfl rfl
theorem tw_1195 : Cond.fieldLink RX11 35 (TX11 8).1 (TX11 8).2.1 (TX11 8).2.2.1 ∈ zTW := zmem5 235 rfl rfl
theorem tw_1196 : Cond.fieldLink RX11 227 (TX11 9).1 (TX11 9).2.1 (TX11 9).2.2.1 ∈ zTW := zmem5 236 rfl rfl
theorem tw_1197 : Cond.fieldLink RX11 224 (TX11 10).1 (TX11 10).2.1 (TX11 10).2.2.1 ∈ zTW := zmem5 237 rfl rfl
theorem tw_1198 : Cond.fieldLink RX11 103 (TX11 11).1 (TX11 11).2.1 (TX11 11).2.2.1 ∈ zTW := zmem5 238 rfl rfl
theorem tw_1199 : Cond.fieldLink RX11 38 (TX11 12).1 (TX11 12).2.1 (TX11 12).2.2.1 ∈ zTW := zmem5 239 rfl rfl
theorem tw_1200 : Cond.fieldLink RX11 41 (TX11 13).1 (TX11 13).2.1 (TX11 13).2.2.1 ∈ zTW := zmem6 0 rfl rfl
theorem tw_1201 : Cond.fieldLink RX11 44 (TX11 14).1 (TX11 14).2.1 (TX11 14).2.2.1 ∈ zTW := zmem6 1 rfl rfl
theorem tw_1202 : Cond.fieldLink RX11 47 (TX11 15).1 (TX11 15).2.1 (TX11 15).2.2.1 ∈ zTW := zmem6 2 rfl rfl
theorem tw_1203 : Cond.fieldLink RX11 51 (TX11 16).1 (TX11 16).2.1 (TX11 16).2.2.1 ∈ zTW := zmem6 3 rfl rfl
theorem tw_1204 : Cond.fieldLink RX11 127 (TX11 17).1 (TX11 17).2.1 (TX11 17).2.2.1 ∈ zTW := zmem6 4 rfl rfl
theorem tw_1205 : Cond.fieldLink RX11 143 (TX11 18).1 (TX11 18).2.1 (TX11 18).2.2.1 ∈ zTW := zmem6 5 rfl rfl
theorem tw_1206 : Cond.fieldLink RX11 140 (TX11 19).1 (TX11 19).2.1 (TX11 19).2.2.1 ∈ zTW := zmem6 6 rfl rfl
theorem tw_1207 : Cond.fieldLink RX11 162 (TX11 20).1 (TX11 20).2.1 (TX11 20).2.2.1 ∈ zTW := zmem6 7 rfl rfl
theorem tw_1208 : Cond.fieldLink RX11 134 (TX11 21).1 (TX11 21).2.1 (TX11 21).2.2.1 ∈ zTW := zmem6 8 rfl rfl
theorem tw_1209 : Cond.fieldLink RX11 137 (TX11 22).1 (TX11 22).2.1 (TX11 22).2.2.1 ∈ zTW := zmem6 9 rfl rfl
theorem tw_1210 : Cond.fieldLink RX11 54 (TX11 23).1 (TX11 23).2.1 (TX11 23).2.2.1 ∈ zTW := zmem6 10 rfl rfl
theorem tw_1211 : Cond.fieldLink RX11 177 (TX11 24).1 (TX11 24).2.1 (TX11 24).2.2.1 ∈ zTW := zmem6 11 rfl rfl
theorem tw_1212 : Cond.fieldLink RX11 184 (TX11 25).1 (TX11 25).2.1 (TX11 25).2.2.1 ∈ zTW := zmem6 12 rfl rfl
theorem tw_1213 : Cond.fieldLink RX11 165 (TX11 26).1 (TX11 26).2.1 (TX11 26).2.2.1 ∈ zTW := zmem6 13 rfl rfl
theorem tw_1214 : Cond.fieldLink RX11 291 (TX11 27).1 (TX11 27).2.1 (TX11 27).2.2.1 ∈ zTW := zmem6 14 rfl rfl
theorem tw_1215 : Cond.fieldLink RX11 295 (TX11 28).1 (TX11 28).2.1 (TX11 28).2.2.1 ∈ zTW := zmem6 15 rfl rfl
theorem tw_1216 : Cond.fieldLink RX11 298 (TX11 29).1 (TX11 29).2.1 (TX11 29).2.2.1 ∈ zTW := zmem6 16 rfl rfl
theorem tw_1217 : Cond.fieldLink RX11 301 (TX11 30).1 (TX11 30).2.1 (TX11 30).2.2.1 ∈ zTW := zmem6 17 rfl rfl
theorem tw_1218 : Cond.fieldLink RX11 57 (TX11 31).1 (TX11 31).2.1 (TX11 31).2.2.1 ∈ zTW := zmem6 18 rfl rfl
theorem tw_1219 : Cond.fieldLink RX11 60 (TX11 32).1 (TX11 32).2.1 (TX11 32).2.2.1 ∈ zTW := zmem6 19 rfl rfl
theorem tw_1220 : Cond.fieldLink RX11 63 (TX11 33).1 (TX11 33).2.1 (TX11 33).2.2.1 ∈ zTW := zmem6 20 rfl rfl
theorem tw_1221 : Cond.fieldLink RX11 67 (TX11 34).1 (TX11 34).2.1 (TX11 34).2.2.1 ∈ zTW := zmem6 21 rfl rfl
theorem tw_1293 : Cond.methodLink RL 104 yX11_feed ∈ zTW := zmem6 93 rfl rfl
theorem tw_1294 : Cond.instanceMethod yX11_feed ∈ zTW := zmem6 94 rfl rfl
theorem tw_1295 : Cond.selects RX11 yX11_feed yX11_feed ∈ zTW := zmem6 95 rfl rfl
theorem tw_1296 : Cond.code yX11_feed cX11_feed 6 (some .int) ∈ zTW := zmem6 96 rfl rfl
theorem tw_1297 : Cond.methodLink RX11 130 yX11_puts ∈ zTW := zmem6 97 rfl rfl
theorem tw_1299 : Cond.instanceMethod yX11_puts ∈ zTW := zmem6 99 rfl rfl
theorem tw_1300 : Cond.code yX11_puts cX11_puts 3 none ∈ zTW := zmem6 100 rfl rfl
theorem tw_1301 : Cond.methodLink RL 110 yX11_text ∈ zTW := zmem6 101 rfl rfl
theorem tw_1302 : Cond.instanceMethod yX11_text ∈ zTW := zmem6 102 rfl rfl
theorem tw_1303 : Cond.selects RX11 yX11_text yX11_text ∈ zTW := zmem6 103 rfl rfl
theorem tw_1304 : Cond.code yX11_text cX11_text 3 (some .int) ∈ zTW := zmem6 104 rfl rfl
theorem tw_1305 : Cond.methodLink RX11 173 yX11_within ∈ zTW := zmem6 105 rfl rfl
theorem tw_1306 : Cond.static yX11_within ∈ zTW := zmem6 106 rfl rfl
theorem tw_1307 : Cond.code yX11_within cX11_within 3 (some .boolean) ∈ zTW := zmem6 107 rfl rfl
theorem tw_1308 : Cond.methodLink RX11 217 yX11_isFine ∈ zTW := zmem6 108 rfl rfl
theorem tw_1310 : Cond.instanceMethod yX11_isFine ∈ zTW := zmem6 110 rfl rfl
theorem tw_1311 : Cond.code yX11_isFine cX11_isFine 4 (some .boolean) ∈ zTW := zmem6 111 rfl rfl
theorem tw_1312 : Cond.methodLink RX11 146 yX11_sign ∈ zTW := zmem6 112 rfl rfl
theorem tw_1314 : Cond.instanceMethod yX11_sign ∈ zTW := zmem6 114 rfl rfl
theorem tw_1315 : Cond.code yX11_sign cX11_sign 1 (some .int) ∈ zTW := zmem6 115 rfl rfl
theorem tw_1316 : Cond.methodLink RX11 221 yX11_oneLine ∈ zTW := zmem6 116 rfl rfl
theorem tw_1318 : Cond.instanceMethod yX11_oneLine ∈ zTW := zmem6 118 rfl rfl
theorem tw_1319 : Cond.code yX11_oneLine cX11_oneLine 1 none ∈ zTW := zmem6 119 rfl rfl
theorem tw_1321 : Cond.methodLink RX11 189 yX11_passes ∈ zTW := zmem6 121 rfl rfl
theorem tw_1323 : Cond.instanceMethod yX11_passes ∈ zTW := zmem6 123 rfl rfl
theorem tw_1324 : Cond.code yX11_passes cX11_passes 3 (some .boolean) ∈ zTW := zmem6 124 rfl rfl
theorem tw_1325 : Cond.methodLink RX11 149 yJ0_length_8abf5 ∈ zTW := zmem6 125 rfl rfl
theorem tw_1326 : Cond.methodLink RX11 154 yX11_isSmall ∈ zTW := zmem6 126 rfl rfl
theorem tw_1328 : Cond.instanceMethod yX11_isSmall ∈ zTW := zmem6 128 rfl rfl
theorem tw_1329 : Cond.code yX11_isSmall cX11_isSmall 2 (some .boolean) ∈ zTW := zmem6 129 rfl rfl
theorem tw_1330 : Cond.methodLink RX11 158 yJ0_charAt_5068e ∈ zTW := zmem6 130 rfl rfl
theorem tw_1331 : Cond.methodLink RX11 193 yX11_ringTold ∈ zTW := zmem6 131 rfl rfl
theorem tw_1333 : Cond.instanceMethod yX11_ringTold ∈ zTW := zmem6 133 rfl rfl
theorem tw_1334 : Cond.code yX11_ringTold cX11_ringTold 5 none ∈ zTW := zmem6 134 rfl rfl
theorem tw_1335 : Cond.methodLink RX11 168 yX11_wrong ∈ zTW := zmem6 135 rfl rfl
theorem tw_1337 : Cond.instanceMethod yX11_wrong ∈ zTW := zmem6 137 rfl rfl
theorem tw_1338 : Cond.code yX11_wrong cX11_wrong 3 none ∈ zTW := zmem6 138 rfl rfl
theorem tw_1339 : Cond.methodLink RX11 95 yJ9_min_7cf53 ∈ zTW := zmem6 139 rfl rfl
theorem tw_1340 : Cond.methodLink RX11 180 yX11_number ∈ zTW := zmem6 140 rfl rfl
theorem tw_1342 : Cond.instanceMethod yX11_number ∈ zTW := zmem6 142 rfl rfl
theorem tw_1343 : Cond.code yX11_number cX11_number 8 (some .int) ∈ zTW := zmem6 143 rfl rfl
theorem tw_1344 : Cond.constant RX11 172 (1000000) ∈ zTW := zmem6 144 rfl rfl
theorem tw_1346 : Cond.methodLink RX11 198 yX11_pairTold ∈ zTW := zmem6 146 rfl rfl
theorem tw_1348 : Cond.instanceMethod yX11_pairTold ∈ zTW := zmem6 148 rfl rfl
theorem tw_1349 : Cond.code yX11_pairTold cX11_pairTold 5 none ∈ zTW := zmem6 149 rfl rfl
theorem tw_1352 : Cond.methodLink RX11 205 yX11_heatsTold ∈ zTW := zmem6 152 rfl rfl
theorem tw_1354 : Cond.instanceMethod yX11_heatsTold ∈ zTW := zmem6 154 rfl rfl
theorem tw_1355 : Cond.code yX11_heatsTold cX11_heatsTold 1 none ∈ zTW := zmem6 155 rfl rfl
theorem tw_1358 : Cond.methodLink RX11 212 yX11_repeatTold ∈ zTW := zmem6 158 rfl rfl
theorem tw_1360 : Cond.instanceMethod yX11_repeatTold ∈ zTW := zmem6 160 rfl rfl
theorem tw_1361 : Cond.code yX11_repeatTold cX11_repeatTold 2 none ∈ zTW := zmem6 161 rfl rfl
theorem tw_1363 : Cond.methodLink RL 118 yX11_fault ∈ zTW := zmem6 163 rfl rfl
theorem tw_1364 : Cond.instanceMethod yX11_fault ∈ zTW := zmem6 164 rfl rfl
theorem tw_1365 : Cond.selects RX11 yX11_fault yX11_fault ∈ zTW := zmem6 165 rfl rfl
theorem tw_1366 : Cond.code yX11_fault cX11_fault 1 (some .int) ∈ zTW := zmem6 166 rfl rfl
theorem tw_1367 : Cond.methodLink RL 122 yX11_set ∈ zTW := zmem6 167 rfl rfl
theorem tw_1368 : Cond.instanceMethod yX11_set ∈ zTW := zmem6 168 rfl rfl
theorem tw_1369 : Cond.selects RX11 yX11_set yX11_set ∈ zTW := zmem6 169 rfl rfl
theorem tw_1370 : Cond.code yX11_set cX11_set 4 (some .int) ∈ zTW := zmem6 170 rfl rfl
theorem tw_1371 : Cond.methodLink RX11 230 yX11_maySet ∈ zTW := zmem6 171 rfl rfl
theorem tw_1373 : Cond.instanceMethod yX11_maySet ∈ zTW := zmem6 173 rfl rfl
theorem tw_1374 : Cond.code yX11_maySet cX11_maySet 3 (some .boolean) ∈ zTW := zmem6 174 rfl rfl
theorem tw_1375 : Cond.methodLink RX11 233 yX11_keeps ∈ zTW := zmem6 175 rfl rfl
theorem tw_1377 : Cond.instanceMethod yX11_keeps ∈ zTW := zmem6 177 rfl rfl
theorem tw_1378 : Cond.code yX11_keeps cX11_keeps 2 none ∈ zTW := zmem6 178 rfl rfl
theorem tw_1379 : Cond.methodLink RL 126 yX11_wear ∈ zTW := zmem6 179 rfl rfl
theorem tw_1380 : Cond.instanceMethod yX11_wear ∈ zTW := zmem6 180 rfl rfl
theorem tw_1381 : Cond.selects RX11 yX11_wear yX11_wear ∈ zTW := zmem6 181 rfl rfl
theorem tw_1382 : Cond.code yX11_wear cX11_wear 5 (some .int) ∈ zTW := zmem6 182 rfl rfl
theorem tw_1383 : Cond.methodLink RX11 236 yX11_isRing ∈ zTW := zmem6 183 rfl rfl
theorem tw_1385 : Cond.instanceMethod yX11_isRing ∈ zTW := zmem6 185 rfl rfl
theorem tw_1386 : Cond.code yX11_isRing cX11_isRing 2 (some .boolean) ∈ zTW := zmem6 186 rfl rfl
theorem tw_1387 : Cond.methodLink RL 129 yX11_enrol ∈ zTW := zmem6 187 rfl rfl
theorem tw_1388 : Cond.instanceMethod yX11_enrol ∈ zTW := zmem6 188 rfl rfl
theorem tw_1389 : Cond.selects RX11 yX11_enrol yX11_enrol ∈ zTW := zmem6 189 rfl rfl
theorem tw_1390 : Cond.code yX11_enrol cX11_enrol 9 (some .int) ∈ zTW := zmem6 190 rfl rfl
theorem tw_1391 : Cond.methodLink RX11 239 yX11_blocks ∈ zTW := zmem6 191 rfl rfl
theorem tw_1393 : Cond.instanceMethod yX11_blocks ∈ zTW := zmem6 193 rfl rfl
theorem tw_1394 : Cond.code yX11_blocks cX11_blocks 1 (some .int) ∈ zTW := zmem6 194 rfl rfl
theorem tw_1395 : Cond.methodLink RX11 120 yX11_usedNow ∈ zTW := zmem6 195 rfl rfl
theorem tw_1397 : Cond.instanceMethod yX11_usedNow ∈ zTW := zmem6 197 rfl rfl
theorem tw_1398 : Cond.code yX11_usedNow cX11_usedNow 1 (some .int) ∈ zTW := zmem6 198 rfl rfl
theorem tw_1399 : Cond.methodLink RX11 110 yX11_usedBy ∈ zTW := zmem6 199 rfl rfl
theorem tw_1401 : Cond.instanceMethod yX11_usedBy ∈ zTW := zmem6 201 rfl rfl
theorem tw_1402 : Cond.code yX11_usedBy cX11_usedBy 5 (some .int) ∈ zTW := zmem6 202 rfl rfl
theorem tw_1403 : Cond.methodLink RX11 106 yX11_isSteady ∈ zTW := zmem6 203 rfl rfl
theorem tw_1405 : Cond.instanceMethod yX11_isSteady ∈ zTW := zmem6 205 rfl rfl
theorem tw_1406 : Cond.code yX11_isSteady cX11_isSteady 3 (some .boolean) ∈ zTW := zmem6 206 rfl rfl
theorem tw_1407 : Cond.methodLink RX11 100 yX11_marginOf ∈ zTW := zmem6 207 rfl rfl
theorem tw_1409 : Cond.instanceMethod yX11_marginOf ∈ zTW := zmem6 209 rfl rfl
theorem tw_1410 : Cond.code yX11_marginOf cX11_marginOf 4 (some .int) ∈ zTW := zmem6 210 rfl rfl
theorem tw_1411 : Cond.methodLink RX11 92 yX11_apart ∈ zTW := zmem6 211 rfl rfl
theorem tw_1413 : Cond.instanceMethod yX11_apart ∈ zTW := zmem6 213 rfl rfl
theorem tw_1414 : Cond.code yX11_apart cX11_apart 4 (some .int) ∈ zTW := zmem6 214 rfl rfl
theorem tw_1415 : Cond.methodLink RX11 74 yX11_speedOf ∈ zTW := zmem6 215 rfl rfl
theorem tw_1417 : Cond.instanceMethod yX11_speedOf ∈ zTW := zmem6 217 rfl rfl
theorem tw_1418 : Cond.code yX11_speedOf cX11_speedOf 3 (some .int) ∈ zTW := zmem6 218 rfl rfl
theorem tw_1419 : Cond.methodLink RX11 85 yX11_bitOf ∈ zTW := zmem6 219 rfl rfl
theorem tw_1421 : Cond.instanceMethod yX11_bitOf ∈ zTW := zmem6 221 rfl rfl
theorem tw_1422 : Cond.code yX11_bitOf cX11_bitOf 2 (some .int) ∈ zTW := zmem6 222 rfl rfl
theorem tw_1423 : Cond.methodLink RX11 82 yX11_bitAt ∈ zTW := zmem6 223 rfl rfl
theorem tw_1425 : Cond.instanceMethod yX11_bitAt ∈ zTW := zmem6 225 rfl rfl
theorem tw_1426 : Cond.code yX11_bitAt cX11_bitAt 3 (some .int) ∈ zTW := zmem6 226 rfl rfl
theorem tw_1427 : Cond.methodLink RX11 78 yX11_bitBy ∈ zTW := zmem6 227 rfl rfl
theorem tw_1428 : Cond.static yX11_bitBy ∈ zTW := zmem6 228 rfl rfl
theorem tw_1429 : Cond.code yX11_bitBy cX11_bitBy 4 (some .int) ∈ zTW := zmem6 229 rfl rfl
theorem tw_1430 : Cond.methodLink RX11 89 yX11_noiseOf ∈ zTW := zmem6 230 rfl rfl
theorem tw_1432 : Cond.instanceMethod yX11_noiseOf ∈ zTW := zmem6 232 rfl rfl
theorem tw_1433 : Cond.code yX11_noiseOf cX11_noiseOf 2 (some .int) ∈ zTW := zmem6 233 rfl rfl
theorem tw_1434 : Cond.methodLink RX11 124 yX11_blocksOf ∈ zTW := zmem6 234 rfl rfl
theorem tw_1436 : Cond.instanceMethod yX11_blocksOf ∈ zTW := zmem6 236 rfl rfl
theorem tw_1437 : Cond.code yX11_blocksOf cX11_blocksOf 3 (some .int) ∈ zTW := zmem6 237 rfl rfl
theorem tw_1438 : Cond.methodLink RX11 114 yX11_wideBy ∈ zTW := zmem6 238 rfl rfl
theorem tw_1439 : Cond.static yX11_wideBy ∈ zTW := zmem6 239 rfl rfl
theorem tw_1440 : Cond.code yX11_wideBy cX11_wideBy 1 (some .int) ∈ zTW := zmem7 0 rfl rfl
theorem tw_1441 : Cond.methodLink RX11 117 yX11_givesBy ∈ zTW := zmem7 1 rfl rfl
theorem tw_1442 : Cond.static yX11_givesBy ∈ zTW := zmem7 2 rfl rfl
theorem tw_1443 : Cond.code yX11_givesBy cX11_givesBy 1 (some .int) ∈ zTW := zmem7 3 rfl rfl
theorem tw_1444 : Cond.methodLink RX11 242 yX11_secretBits ∈ zTW := zmem7 4 rfl rfl
theorem tw_1446 : Cond.instanceMethod yX11_secretBits ∈ zTW := zmem7 6 rfl rfl
theorem tw_1447 : Cond.code yX11_secretBits cX11_secretBits 1 (some .int) ∈ zTW := zmem7 7 rfl rfl
theorem tw_1448 : Cond.methodLink RX11 245 yX11_words ∈ zTW := zmem7 8 rfl rfl
theorem tw_1450 : Cond.instanceMethod yX11_words ∈ zTW := zmem7 10 rfl rfl
theorem tw_1451 : Cond.code yX11_words cX11_words 7 none ∈ zTW := zmem7 11 rfl rfl
theorem tw_1452 : Cond.methodLink RX11 248 yX11_checkOf ∈ zTW := zmem7 12 rfl rfl
theorem tw_1453 : Cond.static yX11_checkOf ∈ zTW := zmem7 13 rfl rfl
theorem tw_1454 : Cond.code yX11_checkOf cX11_checkOf 4 (some .int) ∈ zTW := zmem7 14 rfl rfl
theorem tw_1455 : Cond.methodLink RL 132 yX11_hear ∈ zTW := zmem7 15 rfl rfl
theorem tw_1456 : Cond.instanceMethod yX11_hear ∈ zTW := zmem7 16 rfl rfl
theorem tw_1457 : Cond.selects RX11 yX11_hear yX11_hear ∈ zTW := zmem7 17 rfl rfl
theorem tw_1458 : Cond.code yX11_hear cX11_hear 3 (some .int) ∈ zTW := zmem7 18 rfl rfl
theorem tw_1459 : Cond.methodLink RX11 251 yX11_isPair ∈ zTW := zmem7 19 rfl rfl
theorem tw_1461 : Cond.instanceMethod yX11_isPair ∈ zTW := zmem7 21 rfl rfl
theorem tw_1462 : Cond.code yX11_isPair cX11_isPair 2 (some .boolean) ∈ zTW := zmem7 22 rfl rfl
theorem tw_1463 : Cond.methodLink RX11 254 yX11_heardAt ∈ zTW := zmem7 23 rfl rfl
theorem tw_1465 : Cond.instanceMethod yX11_heardAt ∈ zTW := zmem7 25 rfl rfl
theorem tw_1466 : Cond.code yX11_heardAt cX11_heardAt 3 (some .int) ∈ zTW := zmem7 26 rfl rfl
theorem tw_1467 : Cond.methodLink RL 135 yX11_train ∈ zTW := zmem7 27 rfl rfl
theorem tw_1468 : Cond.instanceMethod yX11_train ∈ zTW := zmem7 28 rfl rfl
theorem tw_1469 : Cond.selects RX11 yX11_train yX11_train ∈ zTW := zmem7 29 rfl rfl
theorem tw_1470 : Cond.code yX11_train cX11_train 4 (some .int) ∈ zTW := zmem7 30 rfl rfl
theorem tw_1471 : Cond.methodLink RX11 260 yX11_epoch ∈ zTW := zmem7 31 rfl rfl
theorem tw_1473 : Cond.instanceMethod yX11_epoch ∈ zTW := zmem7 33 rfl rfl
theorem tw_1474 : Cond.code yX11_epoch cX11_epoch 5 (some .int) ∈ zTW := zmem7 34 rfl rfl
theorem tw_1475 : Cond.methodLink RX11 257 yX11_guessOf ∈ zTW := zmem7 35 rfl rfl
theorem tw_1477 : Cond.instanceMethod yX11_guessOf ∈ zTW := zmem7 37 rfl rfl
theorem tw_1478 : Cond.code yX11_guessOf cX11_guessOf 2 (some .int) ∈ zTW := zmem7 38 rfl rfl
theorem tw_1479 : Cond.methodLink RL 138 yX11_turn ∈ zTW := zmem7 39 rfl rfl
theorem tw_1480 : Cond.instanceMethod yX11_turn ∈ zTW := zmem7 40 rfl rfl
theorem tw_1481 : Cond.selects RX11 yX11_turn yX11_turn ∈ zTW := zmem7 41 rfl rfl
theorem tw_1482 : Cond.code yX11_turn cX11_turn 2 (some .int) ∈ zTW := zmem7 42 rfl rfl
theorem tw_1483 : Cond.methodLink RX11 263 yX11_isKept ∈ zTW := zmem7 43 rfl rfl
theorem tw_1485 : Cond.instanceMethod yX11_isKept ∈ zTW := zmem7 45 rfl rfl
theorem tw_1486 : Cond.code yX11_isKept cX11_isKept 1 (some .boolean) ∈ zTW := zmem7 46 rfl rfl
theorem tw_1487 : Cond.methodLink RL 142 yX11_undo ∈ zTW := zmem7 47 rfl rfl
theorem tw_1488 : Cond.instanceMethod yX11_undo ∈ zTW := zmem7 48 rfl rfl
theorem tw_1489 : Cond.selects RX11 yX11_undo yX11_undo ∈ zTW := zmem7 49 rfl rfl
theorem tw_1490 : Cond.code yX11_undo cX11_undo 2 (some .int) ∈ zTW := zmem7 50 rfl rfl
theorem tw_1491 : Cond.methodLink RL 145 yX11_told ∈ zTW := zmem7 51 rfl rfl
theorem tw_1492 : Cond.instanceMethod yX11_told ∈ zTW := zmem7 52 rfl rfl
theorem tw_1493 : Cond.selects RX11 yX11_told yX11_told ∈ zTW := zmem7 53 rfl rfl
theorem tw_1494 : Cond.code yX11_told cX11_told 3 (some .int) ∈ zTW := zmem7 54 rfl rfl
theorem tw_1495 : Cond.methodLink RX11 267 yX11_steadyMany ∈ zTW := zmem7 55 rfl rfl
theorem tw_1497 : Cond.instanceMethod yX11_steadyMany ∈ zTW := zmem7 57 rfl rfl
theorem tw_1498 : Cond.code yX11_steadyMany cX11_steadyMany 3 (some .int) ∈ zTW := zmem7 58 rfl rfl
theorem tw_1499 : Cond.methodLink RX11 270 yX11_keptBits ∈ zTW := zmem7 59 rfl rfl
theorem tw_1501 : Cond.instanceMethod yX11_keptBits ∈ zTW := zmem7 61 rfl rfl
theorem tw_1502 : Cond.code yX11_keptBits cX11_keptBits 1 (some .int) ∈ zTW := zmem7 62 rfl rfl
theorem tw_1503 : Cond.methodLink RL 148 yX11_ring ∈ zTW := zmem7 63 rfl rfl
theorem tw_1504 : Cond.instanceMethod yX11_ring ∈ zTW := zmem7 64 rfl rfl
theorem tw_1505 : Cond.selects RX11 yX11_ring yX11_ring ∈ zTW := zmem7 65 rfl rfl
theorem tw_1506 : Cond.code yX11_ring cX11_ring 3 (some .int) ∈ zTW := zmem7 66 rfl rfl
theorem tw_1507 : Cond.methodLink RX11 273 yX11_pairsWith ∈ zTW := zmem7 67 rfl rfl
theorem tw_1509 : Cond.instanceMethod yX11_pairsWith ∈ zTW := zmem7 69 rfl rfl
theorem tw_1510 : Cond.code yX11_pairsWith cX11_pairsWith 4 (some .int) ∈ zTW := zmem7 70 rfl rfl
theorem tw_1511 : Cond.methodLink RL 151 yX11_speed ∈ zTW := zmem7 71 rfl rfl
theorem tw_1512 : Cond.instanceMethod yX11_speed ∈ zTW := zmem7 72 rfl rfl
theorem tw_1513 : Cond.selects RX11 yX11_speed yX11_speed ∈ zTW := zmem7 73 rfl rfl
theorem tw_1514 : Cond.code yX11_speed cX11_speed 3 (some .int) ∈ zTW := zmem7 74 rfl rfl
theorem tw_1515 : Cond.methodLink RX11 276 yX11_isHeat ∈ zTW := zmem7 75 rfl rfl
theorem tw_1517 : Cond.instanceMethod yX11_isHeat ∈ zTW := zmem7 77 rfl rfl
theorem tw_1518 : Cond.code yX11_isHeat cX11_isHeat 2 (some .boolean) ∈ zTW := zmem7 78 rfl rfl
theorem tw_1519 : Cond.methodLink RL 154 yX11_rank ∈ zTW := zmem7 79 rfl rfl
theorem tw_1520 : Cond.instanceMethod yX11_rank ∈ zTW := zmem7 80 rfl rfl
theorem tw_1521 : Cond.selects RX11 yX11_rank yX11_rank ∈ zTW := zmem7 81 rfl rfl
theorem tw_1522 : Cond.code yX11_rank cX11_rank 6 (some .int) ∈ zTW := zmem7 82 rfl rfl
theorem tw_1523 : Cond.methodLink RL 157 yX11_pair ∈ zTW := zmem7 83 rfl rfl
theorem tw_1524 : Cond.instanceMethod yX11_pair ∈ zTW := zmem7 84 rfl rfl
theorem tw_1525 : Cond.selects RX11 yX11_pair yX11_pair ∈ zTW := zmem7 85 rfl rfl
theorem tw_1526 : Cond.code yX11_pair cX11_pair 5 (some .int) ∈ zTW := zmem7 86 rfl rfl
theorem tw_1527 : Cond.methodLink RX11 279 yX11_keptAt ∈ zTW := zmem7 87 rfl rfl
theorem tw_1529 : Cond.instanceMethod yX11_keptAt ∈ zTW := zmem7 89 rfl rfl
theorem tw_1530 : Cond.code yX11_keptAt cX11_keptAt 3 (some .int) ∈ zTW := zmem7 90 rfl rfl
theorem tw_1531 : Cond.methodLink RX11 282 yX11_blockOf ∈ zTW := zmem7 91 rfl rfl
theorem tw_1533 : Cond.instanceMethod yX11_blockOf ∈ zTW := zmem7 93 rfl rfl
theorem tw_1534 : Cond.code yX11_blockOf cX11_blockOf 4 (some .int) ∈ zTW := zmem7 94 rfl rfl
theorem tw_1535 : Cond.methodLink RX11 285 yX11_followsNow ∈ zTW := zmem7 95 rfl rfl
theorem tw_1537 : Cond.instanceMethod yX11_followsNow ∈ zTW := zmem7 97 rfl rfl
theorem tw_1538 : Cond.code yX11_followsNow cX11_followsNow 2 (some .int) ∈ zTW := zmem7 98 rfl rfl
theorem tw_1539 : Cond.methodLink RX11 343 yX11_laysHeard ∈ zTW := zmem7 99 rfl rfl
theorem tw_1541 : Cond.instanceMethod yX11_laysHeard ∈ zTW := zmem7 101 rfl rfl
theorem tw_1542 : Cond.code yX11_laysHeard cX11_laysHeard 1 none ∈ zTW := zmem7 102 rfl rfl
theorem tw_1543 : Cond.methodLink RX11 334 yX11_noOrder ∈ zTW := zmem7 103 rfl rfl
theorem tw_1545 : Cond.instanceMethod yX11_noOrder ∈ zTW := zmem7 105 rfl rfl
theorem tw_1546 : Cond.code yX11_noOrder cX11_noOrder 2 none ∈ zTW := zmem7 106 rfl rfl
theorem tw_1547 : Cond.methodLink RX11 337 yX11_putsHeard ∈ zTW := zmem7 107 rfl rfl
theorem tw_1549 : Cond.instanceMethod yX11_putsHeard ∈ zTW := zmem7 109 rfl rfl
theorem tw_1550 : Cond.code yX11_putsHeard cX11_putsHeard 2 none ∈ zTW := zmem7 110 rfl rfl
theorem tw_1551 : Cond.methodLink RX11 332 yX11_puts_ ∈ zTW := zmem7 111 rfl rfl
theorem tw_1553 : Cond.instanceMethod yX11_puts_ ∈ zTW := zmem7 113 rfl rfl
theorem tw_1554 : Cond.code yX11_puts_ cX11_puts_ 5 none ∈ zTW := zmem7 114 rfl rfl
theorem tw_1555 : Cond.methodLink RX11 340 yX11_closes ∈ zTW := zmem7 115 rfl rfl
theorem tw_1557 : Cond.instanceMethod yX11_closes ∈ zTW := zmem7 117 rfl rfl
theorem tw_1558 : Cond.code yX11_closes cX11_closes 3 none ∈ zTW := zmem7 118 rfl rfl
theorem tw_1559 : Cond.methodLink RX11 346 yX11_follows ∈ zTW := zmem7 119 rfl rfl
theorem tw_1561 : Cond.instanceMethod yX11_follows ∈ zTW := zmem7 121 rfl rfl
theorem tw_1562 : Cond.code yX11_follows cX11_follows 4 (some .int) ∈ zTW := zmem7 122 rfl rfl
theorem tw_1563 : Cond.methodLink RL 160 yX11_bit ∈ zTW := zmem7 123 rfl rfl
theorem tw_1564 : Cond.instanceMethod yX11_bit ∈ zTW := zmem7 124 rfl rfl
theorem tw_1565 : Cond.selects RX11 yX11_bit yX11_bit ∈ zTW := zmem7 125 rfl rfl
theorem tw_1566 : Cond.code yX11_bit cX11_bit 3 (some .int) ∈ zTW := zmem7 126 rfl rfl
theorem tw_1567 : Cond.methodLink RL 163 yX11_flips ∈ zTW := zmem7 127 rfl rfl
theorem tw_1568 : Cond.instanceMethod yX11_flips ∈ zTW := zmem7 128 rfl rfl
theorem tw_1569 : Cond.selects RX11 yX11_flips yX11_flips ∈ zTW := zmem7 129 rfl rfl
theorem tw_1570 : Cond.code yX11_flips cX11_flips 6 (some .int) ∈ zTW := zmem7 130 rfl rfl
theorem tw_1571 : Cond.methodLink RL 167 yX11_odds ∈ zTW := zmem7 131 rfl rfl
theorem tw_1572 : Cond.instanceMethod yX11_odds ∈ zTW := zmem7 132 rfl rfl
theorem tw_1573 : Cond.selects RX11 yX11_odds yX11_odds ∈ zTW := zmem7 133 rfl rfl
theorem tw_1574 : Cond.code yX11_odds cX11_odds 9 (some .int) ∈ zTW := zmem7 134 rfl rfl
theorem tw_1575 : Cond.methodLink RX11 288 yX11_common ∈ zTW := zmem7 135 rfl rfl
theorem tw_1576 : Cond.static yX11_common ∈ zTW := zmem7 136 rfl rfl
theorem tw_1577 : Cond.code yX11_common cX11_common 2 (some .int) ∈ zTW := zmem7 137 rfl rfl
theorem tw_1578 : Cond.methodLink RL 170 yX11_block ∈ zTW := zmem7 138 rfl rfl
theorem tw_1579 : Cond.instanceMethod yX11_block ∈ zTW := zmem7 139 rfl rfl
theorem tw_1580 : Cond.selects RX11 yX11_block yX11_block ∈ zTW := zmem7 140 rfl rfl
theorem tw_1581 : Cond.code yX11_block cX11_block 4 (some .int) ∈ zTW := zmem7 141 rfl rfl
theorem tw_1582 : Cond.methodLink RL 173 yX11_recover ∈ zTW := zmem7 142 rfl rfl
theorem tw_1583 : Cond.instanceMethod yX11_recover ∈ zTW := zmem7 143 rfl rfl
theorem tw_1584 : Cond.selects RX11 yX11_recover yX11_recover ∈ zTW := zmem7 144 rfl rfl
theorem tw_1585 : Cond.code yX11_recover cX11_recover 4 (some .int) ∈ zTW := zmem7 145 rfl rfl
theorem tw_1586 : Cond.constant RX11 310 (65536) ∈ zTW := zmem7 146 rfl rfl
theorem tw_1587 : Cond.methodLink RX11 311 yX11_readsAll ∈ zTW := zmem7 147 rfl rfl
theorem tw_1589 : Cond.instanceMethod yX11_readsAll ∈ zTW := zmem7 149 rfl rfl
theorem tw_1590 : Cond.code yX11_readsAll cX11_readsAll 10 none ∈ zTW := zmem7 150 rfl rfl
theorem tw_1591 : Cond.methodLink RX11 304 yX11_drawn ∈ zTW := zmem7 151 rfl rfl
theorem tw_1593 : Cond.instanceMethod yX11_drawn ∈ zTW := zmem7 153 rfl rfl
theorem tw_1594 : Cond.code yX11_drawn cX11_drawn 5 (some .int) ∈ zTW := zmem7 154 rfl rfl
theorem tw_1595 : Cond.constant RX11 294 (65537) ∈ zTW := zmem7 155 rfl rfl
theorem tw_1596 : Cond.methodLink RX11 307 yX11_decoded ∈ zTW := zmem7 156 rfl rfl
theorem tw_1598 : Cond.instanceMethod yX11_decoded ∈ zTW := zmem7 158 rfl rfl
theorem tw_1599 : Cond.code yX11_decoded cX11_decoded 7 (some .int) ∈ zTW := zmem7 159 rfl rfl
theorem tw_1600 : Cond.methodLink RX11 314 yX11_isRefused ∈ zTW := zmem7 160 rfl rfl
theorem tw_1602 : Cond.instanceMethod yX11_isRefused ∈ zTW := zmem7 162 rfl rfl
theorem tw_1603 : Cond.code yX11_isRefused cX11_isRefused 1 (some .boolean) ∈ zTW := zmem7 163 rfl rfl
theorem tw_1604 : Cond.methodLink RL 177 yX11_fails ∈ zTW := zmem7 164 rfl rfl
theorem tw_1605 : Cond.instanceMethod yX11_fails ∈ zTW := zmem7 165 rfl rfl
theorem tw_1606 : Cond.selects RX11 yX11_fails yX11_fails ∈ zTW := zmem7 166 rfl rfl
theorem tw_1607 : Cond.code yX11_fails cX11_fails 9 (some .int) ∈ zTW := zmem7 167 rfl rfl
theorem tw_1608 : Cond.methodLink RX11 317 yJ9_max_7cf53 ∈ zTW := zmem7 168 rfl rfl
theorem tw_1609 : Cond.methodLink RL 180 yX11_safe ∈ zTW := zmem7 169 rfl rfl
theorem tw_1610 : Cond.instanceMethod yX11_safe ∈ zTW := zmem7 170 rfl rfl
theorem tw_1611 : Cond.selects RX11 yX11_safe yX11_safe ∈ zTW := zmem7 171 rfl rfl
theorem tw_1612 : Cond.code yX11_safe cX11_safe 5 (some .int) ∈ zTW := zmem7 172 rfl rfl
theorem tw_1613 : Cond.methodLink RX11 329 yX11_firstUnsafe ∈ zTW := zmem7 173 rfl rfl
theorem tw_1615 : Cond.instanceMethod yX11_firstUnsafe ∈ zTW := zmem7 175 rfl rfl
theorem tw_1616 : Cond.code yX11_firstUnsafe cX11_firstUnsafe 3 (some .int) ∈ zTW := zmem7 176 rfl rfl
theorem tw_1617 : Cond.methodLink RX11 323 yX11_keptBlocks ∈ zTW := zmem7 177 rfl rfl
theorem tw_1619 : Cond.instanceMethod yX11_keptBlocks ∈ zTW := zmem7 179 rfl rfl
theorem tw_1620 : Cond.code yX11_keptBlocks cX11_keptBlocks 1 (some .int) ∈ zTW := zmem7 180 rfl rfl
theorem tw_1621 : Cond.methodLink RX11 326 yX11_isSafe ∈ zTW := zmem7 181 rfl rfl
theorem tw_1623 : Cond.instanceMethod yX11_isSafe ∈ zTW := zmem7 183 rfl rfl
theorem tw_1624 : Cond.code yX11_isSafe cX11_isSafe 6 (some .boolean) ∈ zTW := zmem7 184 rfl rfl
theorem tw_1625 : Cond.methodLink RX11 320 yX11_isShaky ∈ zTW := zmem7 185 rfl rfl
theorem tw_1627 : Cond.instanceMethod yX11_isShaky ∈ zTW := zmem7 187 rfl rfl
theorem tw_1628 : Cond.code yX11_isShaky cX11_isShaky 7 (some .boolean) ∈ zTW := zmem7 188 rfl rfl
theorem tw_1629 : Cond.methodLink RL 183 yX11_range ∈ zTW := zmem7 189 rfl rfl
theorem tw_1630 : Cond.instanceMethod yX11_range ∈ zTW := zmem7 190 rfl rfl
theorem tw_1631 : Cond.selects RX11 yX11_range yX11_range ∈ zTW := zmem7 191 rfl rfl
theorem tw_1632 : Cond.code yX11_range cX11_range 4 (some .int) ∈ zTW := zmem7 192 rfl rfl
theorem tw_1633 : Cond.methodLink RL 186 yX11_guardFor ∈ zTW := zmem7 193 rfl rfl
theorem tw_1634 : Cond.instanceMethod yX11_guardFor ∈ zTW := zmem7 194 rfl rfl
theorem tw_1635 : Cond.selects RX11 yX11_guardFor yX11_guardFor ∈ zTW := zmem7 195 rfl rfl
theorem tw_1636 : Cond.code yX11_guardFor cX11_guardFor 3 (some .int) ∈ zTW := zmem7 196 rfl rfl
theorem tw_1637 : Cond.methodLink RL 189 yX11_ways ∈ zTW := zmem7 197 rfl rfl
theorem tw_1638 : Cond.instanceMethod yX11_ways ∈ zTW := zmem7 198 rfl rfl
theorem tw_1639 : Cond.selects RX11 yX11_ways yX11_ways ∈ zTW := zmem7 199 rfl rfl
theorem tw_1640 : Cond.code yX11_ways cX11_ways 2 (some .long) ∈ zTW := zmem7 200 rfl rfl
theorem tw_1641 : Cond.methodLink RX11 362 yX11_waysBy ∈ zTW := zmem7 201 rfl rfl
theorem tw_1643 : Cond.instanceMethod yX11_waysBy ∈ zTW := zmem7 203 rfl rfl
theorem tw_1644 : Cond.code yX11_waysBy cX11_waysBy 4 (some .long) ∈ zTW := zmem7 204 rfl rfl
theorem tw_1645 : Cond.methodLink RX11 355 yX11_compares ∈ zTW := zmem7 205 rfl rfl
theorem tw_1647 : Cond.instanceMethod yX11_compares ∈ zTW := zmem7 207 rfl rfl
theorem tw_1648 : Cond.code yX11_compares cX11_compares 2 none ∈ zTW := zmem7 208 rfl rfl
theorem tw_1649 : Cond.methodLink RX11 358 yX11_waysOf ∈ zTW := zmem7 209 rfl rfl
theorem tw_1651 : Cond.instanceMethod yX11_waysOf ∈ zTW := zmem7 211 rfl rfl
theorem tw_1652 : Cond.code yX11_waysOf cX11_waysOf 5 (some .long) ∈ zTW := zmem7 212 rfl rfl
theorem tw_1653 : Cond.methodLink RX11 349 yX11_isApart ∈ zTW := zmem7 213 rfl rfl
theorem tw_1655 : Cond.instanceMethod yX11_isApart ∈ zTW := zmem7 215 rfl rfl
theorem tw_1656 : Cond.code yX11_isApart cX11_isApart 3 (some .boolean) ∈ zTW := zmem7 216 rfl rfl
theorem tw_1657 : Cond.methodLink RX11 352 yX11_many ∈ zTW := zmem7 217 rfl rfl
theorem tw_1658 : Cond.static yX11_many ∈ zTW := zmem7 218 rfl rfl
theorem tw_1659 : Cond.code yX11_many cX11_many 3 (some .int) ∈ zTW := zmem7 219 rfl rfl
theorem tw_1660 : Cond.methodLink RL 192 yX11_leak ∈ zTW := zmem7 220 rfl rfl
theorem tw_1661 : Cond.instanceMethod yX11_leak ∈ zTW := zmem7 221 rfl rfl
theorem tw_1662 : Cond.selects RX11 yX11_leak yX11_leak ∈ zTW := zmem7 222 rfl rfl
theorem tw_1663 : Cond.code yX11_leak cX11_leak 2 (some .int) ∈ zTW := zmem7 223 rfl rfl
theorem tw_1664 : Cond.methodLink RX11 373 yX11_sure ∈ zTW := zmem7 224 rfl rfl
theorem tw_1666 : Cond.instanceMethod yX11_sure ∈ zTW := zmem7 226 rfl rfl
theorem tw_1667 : Cond.code yX11_sure cX11_sure 4 (some .int) ∈ zTW := zmem7 227 rfl rfl
theorem tw_1668 : Cond.methodLink RX11 376 yX11_leaks ∈ zTW := zmem7 228 rfl rfl
theorem tw_1670 : Cond.instanceMethod yX11_leaks ∈ zTW := zmem7 230 rfl rfl
theorem tw_1671 : Cond.code yX11_leaks cX11_leaks 1 (some .int) ∈ zTW := zmem7 231 rfl rfl
theorem tw_1672 : Cond.methodLink RX11 379 yX11_left ∈ zTW := zmem7 232 rfl rfl
theorem tw_1674 : Cond.instanceMethod yX11_left ∈ zTW := zmem7 234 rfl rfl
theorem tw_1675 : Cond.code yX11_left cX11_left 5 (some .int) ∈ zTW := zmem7 235 rfl rfl
theorem tw_1676 : Cond.methodLink RX11 369 yX11_canBe ∈ zTW := zmem7 236 rfl rfl
theorem tw_1678 : Cond.instanceMethod yX11_canBe ∈ zTW := zmem7 238 rfl rfl
theorem tw_1679 : Cond.code yX11_canBe cX11_canBe 7 (some .boolean) ∈ zTW := zmem7 239 rfl rfl
theorem tw_1680 : Cond.methodLink RX11 366 yX11_isRound ∈ zTW := zmem8 0 rfl rfl
theorem tw_1682 : Cond.instanceMethod yX11_isRound ∈ zTW := zmem8 2 rfl rfl
theorem tw_1683 : Cond.code yX11_isRound cX11_isRound 2 (some .boolean) ∈ zTW := zmem8 3 rfl rfl
theorem tw_1684 : Cond.methodLink RL 195 yX11_success ∈ zTW := zmem8 4 rfl rfl
theorem tw_1685 : Cond.instanceMethod yX11_success ∈ zTW := zmem8 5 rfl rfl
theorem tw_1686 : Cond.selects RX11 yX11_success yX11_success ∈ zTW := zmem8 6 rfl rfl
theorem tw_1687 : Cond.code yX11_success cX11_success 6 (some .int) ∈ zTW := zmem8 7 rfl rfl
theorem tw_1688 : Cond.methodLink RL 198 yX11_curve ∈ zTW := zmem8 8 rfl rfl
theorem tw_1689 : Cond.instanceMethod yX11_curve ∈ zTW := zmem8 9 rfl rfl
theorem tw_1690 : Cond.selects RX11 yX11_curve yX11_curve ∈ zTW := zmem8 10 rfl rfl
theorem tw_1691 : Cond.code yX11_curve cX11_curve 7 (some .int) ∈ zTW := zmem8 11 rfl rfl
theorem tw_1692 : Cond.methodLink RL 202 yX11_nextPair ∈ zTW := zmem8 12 rfl rfl
theorem tw_1693 : Cond.instanceMethod yX11_nextPair ∈ zTW := zmem8 13 rfl rfl
theorem tw_1694 : Cond.selects RX11 yX11_nextPair yX11_nextPair ∈ zTW := zmem8 14 rfl rfl
theorem tw_1695 : Cond.code yX11_nextPair cX11_nextPair 1 (some .int) ∈ zTW := zmem8 15 rfl rfl
theorem tw_1696 : Cond.methodLink RX11 389 yX11_nextNow ∈ zTW := zmem8 16 rfl rfl
theorem tw_1698 : Cond.instanceMethod yX11_nextNow ∈ zTW := zmem8 18 rfl rfl
theorem tw_1699 : Cond.code yX11_nextNow cX11_nextNow 5 (some .int) ∈ zTW := zmem8 19 rfl rfl
theorem tw_1700 : Cond.methodLink RX11 386 yX11_wouldFollow ∈ zTW := zmem8 20 rfl rfl
theorem tw_1702 : Cond.instanceMethod yX11_wouldFollow ∈ zTW := zmem8 22 rfl rfl
theorem tw_1703 : Cond.code yX11_wouldFollow cX11_wouldFollow 3 (some .int) ∈ zTW := zmem8 23 rfl rfl
theorem tw_1704 : Cond.methodLink RX11 383 yX11_followMany ∈ zTW := zmem8 24 rfl rfl
theorem tw_1706 : Cond.instanceMethod yX11_followMany ∈ zTW := zmem8 26 rfl rfl
theorem tw_1707 : Cond.code yX11_followMany cX11_followMany 3 (some .int) ∈ zTW := zmem8 27 rfl rfl
theorem tw_1708 : Cond.methodLink RL 206 yX11_needs ∈ zTW := zmem8 28 rfl rfl
theorem tw_1709 : Cond.instanceMethod yX11_needs ∈ zTW := zmem8 29 rfl rfl
theorem tw_1710 : Cond.selects RX11 yX11_needs yX11_needs ∈ zTW := zmem8 30 rfl rfl
theorem tw_1711 : Cond.code yX11_needs cX11_needs 4 (some .int) ∈ zTW := zmem8 31 rfl rfl
theorem tw_1712 : Cond.methodLink RL 211 yX11_print ∈ zTW := zmem8 32 rfl rfl
theorem tw_1713 : Cond.instanceMethod yX11_print ∈ zTW := zmem8 33 rfl rfl
theorem tw_1714 : Cond.selects RX11 yX11_print yX11_print ∈ zTW := zmem8 34 rfl rfl
theorem tw_1715 : Cond.code yX11_print cX11_print 4 (some .long) ∈ zTW := zmem8 35 rfl rfl
theorem tw_1716 : Cond.constantLong RX11 392 (31) ∈ zTW := zmem8 36 rfl rfl
theorem tw_1717 : Cond.methodLink RL 215 yX11_status ∈ zTW := zmem8 37 rfl rfl
theorem tw_1718 : Cond.instanceMethod yX11_status ∈ zTW := zmem8 38 rfl rfl
theorem tw_1719 : Cond.selects RX11 yX11_status yX11_status ∈ zTW := zmem8 39 rfl rfl
theorem tw_1720 : Cond.code yX11_status cX11_status 2 (some .int) ∈ zTW := zmem8 40 rfl rfl
theorem bn_X0_isRepeat (rm : Room) (h : rm.cells = 0 ∧ rm.slots = 0) : zBn yX0_isRepeat cX0_isRepeat 1 (some .boolean) rm 1 := ⟨tw_655, tw_21, ⟨by decide +kernel, by decide +kernel, by decide +kernel⟩, h.1, h.2⟩
theorem bn_X0_lengthOf (rm : Room) (h : rm.cells = 0 ∧ rm.slots = 0) : zBn yX0_lengthOf cX0_lengthOf 1 (some .int) rm 1 := ⟨tw_774, tw_21, ⟨by decide +kernel, by decide +kernel, by decide +kernel⟩, h.1, h.2⟩
theorem bn_X0_bitsOf (rm : Room) (h : rm.cells = 0 ∧ rm.slots = 0) : zBn yX0_bitsOf cX0_bitsOf 1 (some .int) rm 1 := ⟨tw_780, tw_21, ⟨by decide +kernel, by decide +kernel, by decide +kernel⟩, h.1, h.2⟩
theorem bn_X0_mendedBy (rm : Room) (h : rm.cells = 0 ∧ rm.slots = 0) : zBn yX0_mendedBy cX0_mendedBy 1 (some .int) rm 1 := ⟨tw_1054, tw_21, ⟨by decide +kernel, by decide +kernel, by decide +kernel⟩, h.1, h.2⟩
theorem bn_X0_wordOf (rm : Room) (h : rm.cells = 0 ∧ rm.slots = 0) : zBn yX0_wordOf cX0_wordOf 4 (some .int) rm 2 := ⟨tw_824, tw_21, ⟨by decide +kernel, by decide +kernel, by decide +kernel⟩, h.1, h.2⟩
theorem bn_X0_decodedFrom (rm : Room) (h : rm.cells = 0 ∧ rm.slots = 0) : zBn yX0_decodedFrom cX0_decodedFrom 4 (some .int) rm 2 := ⟨tw_1011, tw_21, ⟨by decide +kernel, by decide +kernel, by decide +kernel⟩, h.1, h.2⟩
theorem bn_X0_wordsOf (rm : Room) (h : rm.cells = 0 ∧ rm.slots = 0) : zBn yX0_wordsOf cX0_wordsOf 7 (some .int) rm 3 := ⟨tw_820, tw_21, ⟨by decide +kernel, by decide +kernel, by decide +kernel⟩, h.1, h.2⟩
theorem bn_X0_secretFrom (rm : Room) (h : rm.cells = 0 ∧ rm.slots = 0) : zBn yX0_secretFrom cX0_secretFrom 7 (some .int) rm 3 := ⟨tw_1008, tw_21, ⟨by decide +kernel, by decide +kernel, by decide +kernel⟩, h.1, h.2⟩
theorem bn_X0_checkWith (rm : Room) (h : rm.cells = 0 ∧ rm.slots = 0) : zBn yX0_checkWith cX0_checkWith 5 (some .int) rm 3 := ⟨tw_813, tw_21, ⟨by decide +kernel, by decide +kernel, by decide +kernel⟩, h.1, h.2⟩
theorem bn_X0_canBecome (rm : Room) (h : rm.cells = 0 ∧ rm.slots = 0) : zBn yX0_canBecome cX0_canBecome 3 (some .boolean) rm 3 := ⟨tw_1141, tw_21, ⟨by decide +kernel, by decide +kernel, by decide +kernel⟩, h.1, h.2⟩
theorem bn_X1_clear (rm : Room) (h : rm.cells = 0 ∧ rm.slots = 0) : zBn yX1_clear cX1_clear 1 none rm 0 := ⟨tw_669, tw_4, ⟨by decide +kernel, by decide +kernel, by decide +kernel⟩, h.1, h.2⟩
theorem vw_X1_clear : zVw 0 yX1_clear := ⟨tw_667, tw_668, _, _, rfl⟩
theorem bn_X1_copyFrom (rm : Room) (h : rm.cells = 0 ∧ rm.slots = 0) : zBn yX1_copyFrom cX1_copyFrom 2 none rm 1 := ⟨tw_698, tw_4, ⟨by decide +kernel, by decide +kernel, by decide +kernel⟩, h.1, h.2⟩
theorem vw_X1_copyFrom : zVw 0 yX1_copyFrom := ⟨tw_696, tw_697, _, _, rfl⟩
theorem bn_X1_isEmpty (rm : Room) (h : rm.cells = 0 ∧ rm.slots = 0) : zBn yX1_isEmpty cX1_isEmpty 1 (some .boolean) rm 0 := ⟨tw_866, tw_4, ⟨by decide +kernel, by decide +kernel, by decide +kernel⟩, h.1, h.2⟩
theorem vw_X1_isEmpty : zVw 0 yX1_isEmpty := ⟨tw_864, tw_865, _, _, rfl⟩
theorem bn_X1_keep (rm : Room) (h : rm.cells = 0 ∧ rm.slots = 0) : zBn yX1_keep cX1_keep 7 none rm 4 := ⟨tw_805, tw_4, ⟨by decide +kernel, by decide +kernel, by decide +kernel⟩, h.1, h.2⟩
theorem vw_X1_keep : zVw 0 yX1_keep := ⟨tw_803, tw_804, _, _, rfl⟩
theorem bn_X1_secretBits (rm : Room) (h : rm.cells = 0 ∧ rm.slots = 0) : zBn yX1_secretBits cX1_secretBits 1 (some .int) rm 0 := ⟨tw_809, tw_4, ⟨by decide +kernel, by decide +kernel, by decide +kernel⟩, h.1, h.2⟩
theorem vw_X1_secretBits : zVw 0 yX1_secretBits := ⟨tw_807, tw_808, _, _, rfl⟩
theorem bn_X1_placeOf (rm : Room) (h : rm.cells = 0 ∧ rm.slots = 0) : zBn yX1_placeOf cX1_placeOf 3 (some .int) rm 1 := ⟨tw_926, tw_4, ⟨by decide +kernel, by decide +kernel, by decide +kernel⟩, h.1, h.2⟩
theorem vw_X1_placeOf : zVw 0 yX1_placeOf := ⟨tw_924, tw_925, _, _, rfl⟩
theorem bn_X1_pairsAsSet (rm : Room) (h : rm.cells = 0 ∧ rm.slots = 0) : zBn yX1_pairsAsSet cX1_pairsAsSet 3 (some .int) rm 0 := ⟨tw_1091, tw_4, ⟨by decide +kernel, by decide +kernel, by decide +kernel⟩, h.1, h.2⟩
theorem vw_X1_pairsAsSet : zVw 0 yX1_pairsAsSet := ⟨tw_1089, tw_1090, _, _, rfl⟩
theorem bn_X1_shakyAt (rm : Room) (h : rm.cells = 0 ∧ rm.slots = 0) : zBn yX1_shakyAt cX1_shakyAt 6 (some .int) rm 2 := ⟨tw_1038, tw_4, ⟨by decide +kernel, by decide +kernel, by decide +kernel⟩, h.1, h.2⟩
theorem vw_X1_shakyAt : zVw 0 yX1_shakyAt := ⟨tw_1036, tw_1037, _, _, rfl⟩
theorem bn_X1_isSafeBlock (rm : Room) (h : rm.cells = 0 ∧ rm.slots = 0) : zBn yX1_isSafeBlock cX1_isSafeBlock 6 (some .boolean) rm 2 := ⟨tw_1050, tw_4, ⟨by decide +kernel, by decide +kernel, by decide +kernel⟩, h.1, h.2⟩
theorem vw_X1_isSafeBlock : zVw 0 yX1_isSafeBlock := ⟨tw_1048, tw_1049, _, _, rfl⟩
theorem bn_X1_safeBlocks (rm : Room) (h : rm.cells = 0 ∧ rm.slots = 0) : zBn yX1_safeBlocks cX1_safeBlocks 4 (some .int) rm 1 := ⟨tw_1046, tw_4, ⟨by decide +kernel, by decide +kernel, by decide +kernel⟩, h.1, h.2⟩
theorem vw_X1_safeBlocks : zVw 0 yX1_safeBlocks := ⟨tw_1044, tw_1045, _, _, rfl⟩
theorem bn_X1_firstUnsafe (rm : Room) (h : rm.cells = 0 ∧ rm.slots = 0) : zBn yX1_firstUnsafe cX1_firstUnsafe 3 (some .int) rm 1 := ⟨tw_1058, tw_4, ⟨by decide +kernel, by decide +kernel, by decide +kernel⟩, h.1, h.2⟩
theorem vw_X1_firstUnsafe : zVw 0 yX1_firstUnsafe := ⟨tw_1056, tw_1057, _, _, rfl⟩
theorem bn_X1_leaked (rm : Room) (h : rm.cells = 0 ∧ rm.slots = 0) : zBn yX1_leaked cX1_leaked 1 (some .int) rm 0 := ⟨tw_1121, tw_4, ⟨by decide +kernel, by decide +kernel, by decide +kernel⟩, h.1, h.2⟩
theorem vw_X1_leaked : zVw 0 yX1_leaked := ⟨tw_1119, tw_1120, _, _, rfl⟩
theorem bn_X2_count (rm : Room) (h : rm.cells = 0 ∧ rm.slots = 0) : zBn yX2_count cX2_count 4 (some .int) rm 3 := ⟨tw_1126, tw_10, ⟨by decide +kernel, by decide +kernel, by decide +kernel⟩, h.1, h.2⟩
theorem vw_X2_count : zVw 1 yX2_count := ⟨tw_1124, tw_1125, _, _, rfl⟩
theorem bn_X2_countFrom (rm : Room) (h : rm.cells = 0 ∧ rm.slots = 0) : zBn yX2_countFrom cX2_countFrom 10 (some .int) rm 4 := ⟨tw_1135, tw_10, ⟨by decide +kernel, by decide +kernel, by decide +kernel⟩, h.1, h.2⟩
theorem vw_X2_countFrom : zVw 1 yX2_countFrom := ⟨tw_1134, twp_32, _, _, rfl⟩
theorem bn_X2_putBlock (rm : Room) (h : rm.cells = 0 ∧ rm.slots = 0) : zBn yX2_putBlock cX2_putBlock 11 (some .boolean) rm 4 := ⟨tw_1146, tw_10, ⟨by decide +kernel, by decide +kernel, by decide +kernel⟩, h.1, h.2⟩
theorem vw_X2_putBlock : zVw 1 yX2_putBlock := ⟨tw_1145, twp_33, _, _, rfl⟩
theorem bn_X3_clear (rm : Room) (h : rm.cells = 0 ∧ rm.slots = 0) : zBn yX3_clear cX3_clear 2 none rm 0 := ⟨tw_673, tw_5, ⟨by decide +kernel, by decide +kernel, by decide +kernel⟩, h.1, h.2⟩
theorem vw_X3_clear : zVw 2 yX3_clear := ⟨tw_671, tw_672, _, _, rfl⟩
theorem bn_X3_copyFrom (rm : Room) (h : rm.cells = 0 ∧ rm.slots = 0) : zBn yX3_copyFrom cX3_copyFrom 2 none rm 1 := ⟨tw_416, tw_5, ⟨by decide +kernel, by decide +kernel, by decide +kernel⟩, h.1, h.2⟩
theorem vw_X3_copyFrom : zVw 2 yX3_copyFrom := ⟨tw_414, tw_415, _, _, rfl⟩
theorem bn_X3_hasHeard (rm : Room) (h : rm.cells = 0 ∧ rm.slots = 0) : zBn yX3_hasHeard cX3_hasHeard 2 (some .boolean) rm 1 := ⟨tw_372, tw_5, ⟨by decide +kernel, by decide +kernel, by decide +kernel⟩, h.1, h.2⟩
theorem vw_X3_hasHeard : zVw 2 yX3_hasHeard := ⟨tw_370, tw_371, _, _, rfl⟩
theorem bn_X3_heardBitOf (rm : Room) (h : rm.cells = 0 ∧ rm.slots = 0) : zBn yX3_heardBitOf cX3_heardBitOf 2 (some .int) rm 1 := ⟨tw_368, tw_5, ⟨by decide +kernel, by decide +kernel, by decide +kernel⟩, h.1, h.2⟩
theorem vw_X3_heardBitOf : zVw 2 yX3_heardBitOf := ⟨tw_366, tw_367, _, _, rfl⟩
theorem bn_X3_keep (rm : Room) (h : rm.cells = 0 ∧ rm.slots = 0) : zBn yX3_keep cX3_keep 3 none rm 2 := ⟨tw_429, tw_5, ⟨by decide +kernel, by decide +kernel, by decide +kernel⟩, h.1, h.2⟩
theorem vw_X3_keep : zVw 2 yX3_keep := ⟨tw_427, tw_428, _, _, rfl⟩
theorem bn_X3_guessOf (rm : Room) (h : rm.cells = 0 ∧ rm.slots = 0) : zBn yX3_guessOf cX3_guessOf 3 (some .int) rm 2 := ⟨tw_850, tw_5, ⟨by decide +kernel, by decide +kernel, by decide +kernel⟩, h.1, h.2⟩
theorem vw_X3_guessOf : zVw 2 yX3_guessOf := ⟨tw_848, tw_849, _, _, rfl⟩
theorem bn_X3_learn (rm : Room) (h : rm.cells = 0 ∧ rm.slots = 0) : zBn yX3_learn cX3_learn 7 (some .int) rm 1 := ⟨tw_846, tw_5, ⟨by decide +kernel, by decide +kernel, by decide +kernel⟩, h.1, h.2⟩
theorem vw_X3_learn : zVw 2 yX3_learn := ⟨tw_844, tw_845, _, _, rfl⟩
theorem bn_X3_putInto (rm : Room) (h : rm.cells = 0 ∧ rm.slots = 0) : zBn yX3_putInto cX3_putInto 4 none rm 2 := ⟨tw_360, tw_5, ⟨by decide +kernel, by decide +kernel, by decide +kernel⟩, h.1, h.2⟩
theorem vw_X3_putInto : zVw 2 yX3_putInto := ⟨tw_358, tw_359, _, _, rfl⟩
theorem bn_X4_clear (rm : Room) (h : rm.cells = 0 ∧ rm.slots = 0) : zBn yX4_clear cX4_clear 2 none rm 0 := ⟨tw_364, tw_8, ⟨by decide +kernel, by decide +kernel, by decide +kernel⟩, h.1, h.2⟩
theorem vw_X4_clear : zVw 3 yX4_clear := ⟨tw_362, tw_363, _, _, rfl⟩
theorem bn_X4_copyFrom (rm : Room) (h : rm.cells = 0 ∧ rm.slots = 0) : zBn yX4_copyFrom cX4_copyFrom 2 none rm 1 := ⟨tw_401, tw_8, ⟨by decide +kernel, by decide +kernel, by decide +kernel⟩, h.1, h.2⟩
theorem vw_X4_copyFrom : zVw 3 yX4_copyFrom := ⟨tw_399, tw_400, _, _, rfl⟩
theorem bn_X4_put (rm : Room) (h : rm.cells = 0 ∧ rm.slots = 0) : zBn yX4_put cX4_put 5 none rm 2 := ⟨tw_383, tw_8, ⟨by decide +kernel, by decide +kernel, by decide +kernel⟩, h.1, h.2⟩
theorem vw_X4_put : zVw 3 yX4_put := ⟨tw_381, tw_382, _, _, rfl⟩
theorem bn_X4_putPair (rm : Room) (h : rm.cells = 0 ∧ rm.slots = 0) : zBn yX4_putPair cX4_putPair 6 none rm 3 := ⟨tw_379, tw_8, ⟨by decide +kernel, by decide +kernel, by decide +kernel⟩, h.1, h.2⟩
theorem vw_X4_putPair : zVw 3 yX4_putPair := ⟨tw_377, tw_378, _, _, rfl⟩
theorem bn_X4_isAhead (rm : Room) (h : rm.cells = 0 ∧ rm.slots = 0) : zBn yX4_isAhead cX4_isAhead 3 (some .boolean) rm 2 := ⟨tw_393, tw_8, ⟨by decide +kernel, by decide +kernel, by decide +kernel⟩, h.1, h.2⟩
theorem vw_X4_isAhead : zVw 3 yX4_isAhead := ⟨tw_391, tw_392, _, _, rfl⟩
theorem bn_X4_isBroken (rm : Room) (h : rm.cells = 0 ∧ rm.slots = 0) : zBn yX4_isBroken cX4_isBroken 2 (some .boolean) rm 0 := ⟨tw_1130, tw_8, ⟨by decide +kernel, by decide +kernel, by decide +kernel⟩, h.1, h.2⟩
theorem vw_X4_isBroken : zVw 3 yX4_isBroken := ⟨tw_1128, tw_1129, _, _, rfl⟩
theorem bn_X4_bitTold (rm : Room) (h : rm.cells = 0 ∧ rm.slots = 0) : zBn yX4_bitTold cX4_bitTold 3 (some .int) rm 2 := ⟨tw_389, tw_8, ⟨by decide +kernel, by decide +kernel, by decide +kernel⟩, h.1, h.2⟩
theorem vw_X4_bitTold : zVw 3 yX4_bitTold := ⟨tw_387, tw_388, _, _, rfl⟩
theorem bn_X5_take (rm : Room) (h : rm.cells = 0 ∧ rm.slots = 0) : zBn yX5_take cX5_take 9 none rm 2 := ⟨tw_997, tw_7, ⟨by decide +kernel, by decide +kernel, by decide +kernel⟩, h.1, h.2⟩
theorem vw_X5_take : zVw 4 yX5_take := ⟨tw_995, tw_996, _, _, rfl⟩
theorem bn_X5_isRefused (rm : Room) (h : rm.cells = 0 ∧ rm.slots = 0) : zBn yX5_isRefused cX5_isRefused 2 (some .boolean) rm 1 := ⟨tw_1018, tw_7, ⟨by decide +kernel, by decide +kernel, by decide +kernel⟩, h.1, h.2⟩
theorem vw_X5_isRefused : zVw 4 yX5_isRefused := ⟨tw_1016, tw_1017, _, _, rfl⟩
theorem bn_X5_noisySpeed (rm : Room) (h : rm.cells = 0 ∧ rm.slots = 0) : zBn yX5_noisySpeed cX5_noisySpeed 6 (some .int) rm 3 := ⟨tw_1001, tw_7, ⟨by decide +kernel, by decide +kernel, by decide +kernel⟩, h.1, h.2⟩
theorem vw_X5_noisySpeed : zVw 4 yX5_noisySpeed := ⟨tw_1000, twp_26, _, _, rfl⟩
theorem bn_X6_clear (rm : Room) (h : rm.cells = 0 ∧ rm.slots = 0) : zBn yX6_clear cX6_clear 1 none rm 0 := ⟨tw_541, tw_3, ⟨by decide +kernel, by decide +kernel, by decide +kernel⟩, h.1, h.2⟩
theorem vw_X6_clear : zVw 5 yX6_clear := ⟨tw_539, tw_540, _, _, rfl⟩
theorem bn_X6_copyFrom (rm : Room) (h : rm.cells = 0 ∧ rm.slots = 0) : zBn yX6_copyFrom cX6_copyFrom 2 none rm 1 := ⟨tw_664, tw_3, ⟨by decide +kernel, by decide +kernel, by decide +kernel⟩, h.1, h.2⟩
theorem vw_X6_copyFrom : zVw 5 yX6_copyFrom := ⟨tw_662, tw_663, _, _, rfl⟩
theorem bn_X6_traitRow (rm : Room) (h : rm.cells = 0 ∧ rm.slots = 0) : zBn yX6_traitRow cX6_traitRow 2 (some (.array .int)) rm 1 := ⟨tw_740, tw_3, ⟨by decide +kernel, by decide +kernel, by decide +kernel⟩, h.1, h.2⟩
theorem vw_X6_traitRow : zVw 5 yX6_traitRow := ⟨tw_738, tw_739, _, _, rfl⟩
theorem bn_X6_addRing (rm : Room) (h : rm.cells = 0 ∧ rm.slots = 0) : zBn yX6_addRing cX6_addRing 4 none rm 3 := ⟨tw_631, tw_3, ⟨by decide +kernel, by decide +kernel, by decide +kernel⟩, h.1, h.2⟩
theorem vw_X6_addRing : zVw 5 yX6_addRing := ⟨tw_629, tw_630, _, _, rfl⟩
theorem bn_X6_addPair (rm : Room) (h : rm.cells = 0 ∧ rm.slots = 0) : zBn yX6_addPair cX6_addPair 3 none rm 2 := ⟨tw_644, tw_3, ⟨by decide +kernel, by decide +kernel, by decide +kernel⟩, h.1, h.2⟩
theorem vw_X6_addPair : zVw 5 yX6_addPair := ⟨tw_642, tw_643, _, _, rfl⟩
theorem bn_X6_hasPair (rm : Room) (h : rm.cells = 0 ∧ rm.slots = 0) : zBn yX6_hasPair cX6_hasPair 4 (some .boolean) rm 2 := ⟨tw_640, tw_3, ⟨by decide +kernel, by decide +kernel, by decide +kernel⟩, h.1, h.2⟩
theorem vw_X6_hasPair : zVw 5 yX6_hasPair := ⟨tw_638, tw_639, _, _, rfl⟩
theorem bn_X6_pairsWith (rm : Room) (h : rm.cells = 0 ∧ rm.slots = 0) : zBn yX6_pairsWith cX6_pairsWith 4 (some .int) rm 1 := ⟨tw_892, tw_3, ⟨by decide +kernel, by decide +kernel, by decide +kernel⟩, h.1, h.2⟩
theorem vw_X6_pairsWith : zVw 5 yX6_pairsWith := ⟨tw_890, tw_891, _, _, rfl⟩
theorem bn_X6_speedOf (rm : Room) (h : rm.cells = 0 ∧ rm.slots = 0) : zBn yX6_speedOf cX6_speedOf 3 (some .int) rm 2 := ⟨tw_443, tw_3, ⟨by decide +kernel, by decide +kernel, by decide +kernel⟩, h.1, h.2⟩
theorem vw_X6_speedOf : zVw 5 yX6_speedOf := ⟨tw_441, tw_442, _, _, rfl⟩
theorem bn_X6_ringsAheadOf (rm : Room) (h : rm.cells = 0 ∧ rm.slots = 0) : zBn yX6_ringsAheadOf cX6_ringsAheadOf 7 (some .int) rm 2 := ⟨tw_915, tw_3, ⟨by decide +kernel, by decide +kernel, by decide +kernel⟩, h.1, h.2⟩
theorem vw_X6_ringsAheadOf : zVw 5 yX6_ringsAheadOf := ⟨tw_913, tw_914, _, _, rfl⟩
theorem bn_X6_bitFrom (rm : Room) (h : rm.cells = 0 ∧ rm.slots = 0) : zBn yX6_bitFrom cX6_bitFrom 4 (some .int) rm 3 := ⟨tw_425, tw_3, ⟨by decide +kernel, by decide +kernel, by decide +kernel⟩, h.1, h.2⟩
theorem vw_X6_bitFrom : zVw 5 yX6_bitFrom := ⟨tw_423, tw_424, _, _, rfl⟩
theorem bn_X6_bitAt (rm : Room) (h : rm.cells = 0 ∧ rm.slots = 0) : zBn yX6_bitAt cX6_bitAt 3 (some .int) rm 2 := ⟨tw_946, tw_3, ⟨by decide +kernel, by decide +kernel, by decide +kernel⟩, h.1, h.2⟩
theorem vw_X6_bitAt : zVw 5 yX6_bitAt := ⟨tw_944, tw_945, _, _, rfl⟩
theorem bn_X6_bitOf (rm : Room) (h : rm.cells = 0 ∧ rm.slots = 0) : zBn yX6_bitOf cX6_bitOf 2 (some .int) rm 1 := ⟨tw_421, tw_3, ⟨by decide +kernel, by decide +kernel, by decide +kernel⟩, h.1, h.2⟩
theorem vw_X6_bitOf : zVw 5 yX6_bitOf := ⟨tw_419, tw_420, _, _, rfl⟩
theorem bn_X6_marginOf (rm : Room) (h : rm.cells = 0 ∧ rm.slots = 0) : zBn yX6_marginOf cX6_marginOf 7 (some .int) rm 1 := ⟨tw_438, tw_3, ⟨by decide +kernel, by decide +kernel, by decide +kernel⟩, h.1, h.2⟩
theorem vw_X6_marginOf : zVw 5 yX6_marginOf := ⟨tw_436, tw_437, _, _, rfl⟩
theorem bn_X6_allPairs (rm : Room) (h : rm.cells = 0 ∧ rm.slots = 0) : zBn yX6_allPairs cX6_allPairs 1 (some .int) rm 0 := ⟨tw_756, tw_3, ⟨by decide +kernel, by decide +kernel, by decide +kernel⟩, h.1, h.2⟩
theorem vw_X6_allPairs : zVw 5 yX6_allPairs := ⟨tw_754, tw_755, _, _, rfl⟩
theorem bn_X6_steadyPairs (rm : Room) (h : rm.cells = 0 ∧ rm.slots = 0) : zBn yX6_steadyPairs cX6_steadyPairs 3 (some .int) rm 0 := ⟨tw_760, tw_3, ⟨by decide +kernel, by decide +kernel, by decide +kernel⟩, h.1, h.2⟩
theorem vw_X6_steadyPairs : zVw 5 yX6_steadyPairs := ⟨tw_758, tw_759, _, _, rfl⟩
theorem bn_X6_usedPairs (rm : Room) (h : rm.cells = 0 ∧ rm.slots = 0) : zBn yX6_usedPairs cX6_usedPairs 1 (some .int) rm 0 := ⟨tw_752, tw_3, ⟨by decide +kernel, by decide +kernel, by decide +kernel⟩, h.1, h.2⟩
theorem vw_X6_usedPairs : zVw 5 yX6_usedPairs := ⟨tw_750, tw_751, _, _, rfl⟩
theorem bn_X6_blockCount (rm : Room) (h : rm.cells = 0 ∧ rm.slots = 0) : zBn yX6_blockCount cX6_blockCount 3 (some .int) rm 1 := ⟨tw_765, tw_3, ⟨by decide +kernel, by decide +kernel, by decide +kernel⟩, h.1, h.2⟩
theorem vw_X6_blockCount : zVw 5 yX6_blockCount := ⟨tw_763, tw_764, _, _, rfl⟩
theorem bn_X6_blockOf (rm : Room) (h : rm.cells = 0 ∧ rm.slots = 0) : zBn yX6_blockOf cX6_blockOf 5 (some .int) rm 1 := ⟨tw_930, tw_3, ⟨by decide +kernel, by decide +kernel, by decide +kernel⟩, h.1, h.2⟩
theorem vw_X6_blockOf : zVw 5 yX6_blockOf := ⟨tw_928, tw_929, _, _, rfl⟩
theorem bn_X6_pairAt (rm : Room) (h : rm.cells = 0 ∧ rm.slots = 0) : zBn yX6_pairAt cX6_pairAt 5 (some .int) rm 2 := ⟨tw_985, tw_3, ⟨by decide +kernel, by decide +kernel, by decide +kernel⟩, h.1, h.2⟩
theorem vw_X6_pairAt : zVw 5 yX6_pairAt := ⟨tw_983, tw_984, _, _, rfl⟩
theorem bn_X6_canRead (rm : Room) (h : rm.cells = 0 ∧ rm.slots = 0) : zBn yX6_canRead cX6_canRead 8 (some .boolean) rm 3 := ⟨tw_1042, tw_3, ⟨by decide +kernel, by decide +kernel, by decide +kernel⟩, h.1, h.2⟩
theorem vw_X6_canRead : zVw 5 yX6_canRead := ⟨tw_1040, tw_1041, _, _, rfl⟩
theorem bn_X6_drawsOf (rm : Room) (h : rm.cells = 0 ∧ rm.slots = 0) : zBn yX6_drawsOf cX6_drawsOf 2 (some .int) rm 1 := ⟨tw_964, tw_3, ⟨by decide +kernel, by decide +kernel, by decide +kernel⟩, h.1, h.2⟩
theorem vw_X6_drawsOf : zVw 5 yX6_drawsOf := ⟨tw_962, tw_963, _, _, rfl⟩
theorem bn_X6_drawsWithOne (rm : Room) (h : rm.cells = 0 ∧ rm.slots = 0) : zBn yX6_drawsWithOne cX6_drawsWithOne 12 (some .int) rm 2 := ⟨tw_968, tw_3, ⟨by decide +kernel, by decide +kernel, by decide +kernel⟩, h.1, h.2⟩
theorem vw_X6_drawsWithOne : zVw 5 yX6_drawsWithOne := ⟨tw_966, tw_967, _, _, rfl⟩
theorem bn_X7_copyFrom (rm : Room) (h : rm.cells = 0 ∧ rm.slots = 0) : zBn yX7_copyFrom cX7_copyFrom 2 none rm 1 := ⟨tw_693, tw_2, ⟨by decide +kernel, by decide +kernel, by decide +kernel⟩, h.1, h.2⟩
theorem vw_X7_copyFrom : zVw 6 yX7_copyFrom := ⟨tw_691, tw_692, _, _, rfl⟩
theorem bn_X8_putOnTape (rm : Room) (h : rm.cells = 0 ∧ rm.slots = 0) : zBn yX8_putOnTape cX8_putOnTape 3 none rm 1 := ⟨tw_340, tw_6, ⟨by decide +kernel, by decide +kernel, by decide +kernel⟩, h.1, h.2⟩
theorem vw_X8_putOnTape : zVw 7 yX8_putOnTape := ⟨tw_338, tw_339, _, _, rfl⟩
theorem bn_X8_read (rm : Room) (h : rm.cells = 0 ∧ rm.slots = 0) : zBn yX8_read cX8_read 3 (some .int) rm 1 := ⟨tw_536, tw_6, ⟨by decide +kernel, by decide +kernel, by decide +kernel⟩, h.1, h.2⟩
theorem vw_X8_read : zVw 7 yX8_read := ⟨tw_534, tw_535, _, _, rfl⟩
theorem bn_X8_fail (rm : Room) (h : rm.cells = 0 ∧ rm.slots = 0) : zBn yX8_fail cX8_fail 3 none rm 2 := ⟨tw_610, tw_6, ⟨by decide +kernel, by decide +kernel, by decide +kernel⟩, h.1, h.2⟩
theorem vw_X8_fail : zVw 7 yX8_fail := ⟨tw_609, twp_9, _, _, rfl⟩
theorem bn_X8_skipBlanks (rm : Room) (h : rm.cells = 0 ∧ rm.slots = 0) : zBn yX8_skipBlanks cX8_skipBlanks 1 none rm 0 := ⟨tw_545, tw_6, ⟨by decide +kernel, by decide +kernel, by decide +kernel⟩, h.1, h.2⟩
theorem vw_X8_skipBlanks : zVw 7 yX8_skipBlanks := ⟨tw_544, twp_5, _, _, rfl⟩
theorem bn_X8_readLine (rm : Room) (h : rm.cells = 0 ∧ rm.slots = 0) : zBn yX8_readLine cX8_readLine 2 none rm 0 := ⟨tw_549, tw_6, ⟨by decide +kernel, by decide +kernel, by decide +kernel⟩, h.1, h.2⟩
theorem vw_X8_readLine : zVw 7 yX8_readLine := ⟨tw_548, twp_6, _, _, rfl⟩
theorem bn_X8_readEndOfLine (rm : Room) (h : rm.cells = 0 ∧ rm.slots = 0) : zBn yX8_readEndOfLine cX8_readEndOfLine 1 none rm 0 := ⟨tw_660, tw_6, ⟨by decide +kernel, by decide +kernel, by decide +kernel⟩, h.1, h.2⟩
theorem vw_X8_readEndOfLine : zVw 7 yX8_readEndOfLine := ⟨tw_659, twp_16, _, _, rfl⟩
theorem bn_X8_isWord (rm : Room) (h : rm.cells = 0 ∧ rm.slots = 0) : zBn yX8_isWord cX8_isWord 4 (some .boolean) rm 2 := ⟨tw_554, tw_6, ⟨by decide +kernel, by decide +kernel, by decide +kernel⟩, h.1, h.2⟩
theorem vw_X8_isWord : zVw 7 yX8_isWord := ⟨tw_553, twp_7, _, _, rfl⟩
theorem bn_X8_readRing (rm : Room) (h : rm.cells = 0 ∧ rm.slots = 0) : zBn yX8_readRing cX8_readRing 5 none rm 1 := ⟨tw_606, tw_6, ⟨by decide +kernel, by decide +kernel, by decide +kernel⟩, h.1, h.2⟩
theorem vw_X8_readRing : zVw 7 yX8_readRing := ⟨tw_605, twp_8, _, _, rfl⟩
theorem bn_X8_readPair (rm : Room) (h : rm.cells = 0 ∧ rm.slots = 0) : zBn yX8_readPair cX8_readPair 5 none rm 1 := ⟨tw_636, tw_6, ⟨by decide +kernel, by decide +kernel, by decide +kernel⟩, h.1, h.2⟩
theorem vw_X8_readPair : zVw 7 yX8_readPair := ⟨tw_635, twp_14, _, _, rfl⟩
theorem bn_X8_readRepeat (rm : Room) (h : rm.cells = 0 ∧ rm.slots = 0) : zBn yX8_readRepeat cX8_readRepeat 2 none rm 0 := ⟨tw_652, tw_6, ⟨by decide +kernel, by decide +kernel, by decide +kernel⟩, h.1, h.2⟩
theorem vw_X8_readRepeat : zVw 7 yX8_readRepeat := ⟨tw_651, twp_15, _, _, rfl⟩
theorem bn_X8_readNumber (rm : Room) (h : rm.cells = 0 ∧ rm.slots = 0) : zBn yX8_readNumber cX8_readNumber 4 (some .int) rm 2 := ⟨tw_614, tw_6, ⟨by decide +kernel, by decide +kernel, by decide +kernel⟩, h.1, h.2⟩
theorem vw_X8_readNumber : zVw 7 yX8_readNumber := ⟨tw_613, twp_10, _, _, rfl⟩
theorem bn_X8_readSigned (rm : Room) (h : rm.cells = 0 ∧ rm.slots = 0) : zBn yX8_readSigned cX8_readSigned 7 (some .int) rm 2 := ⟨tw_627, tw_6, ⟨by decide +kernel, by decide +kernel, by decide +kernel⟩, h.1, h.2⟩
theorem vw_X8_readSigned : zVw 7 yX8_readSigned := ⟨tw_626, twp_13, _, _, rfl⟩
theorem bn_X8_needNumber (rm : Room) (h : rm.cells = 0 ∧ rm.slots = 0) : zBn yX8_needNumber cX8_needNumber 4 none rm 3 := ⟨tw_623, tw_6, ⟨by decide +kernel, by decide +kernel, by decide +kernel⟩, h.1, h.2⟩
theorem vw_X8_needNumber : zVw 7 yX8_needNumber := ⟨tw_622, twp_12, _, _, rfl⟩
theorem bn_X8_readDigits (rm : Room) (h : rm.cells = 0 ∧ rm.slots = 0) : zBn yX8_readDigits cX8_readDigits 3 (some .int) rm 0 := ⟨tw_618, tw_6, ⟨by decide +kernel, by decide +kernel, by decide +kernel⟩, h.1, h.2⟩
theorem vw_X8_readDigits : zVw 7 yX8_readDigits := ⟨tw_617, twp_11, _, _, rfl⟩
theorem bn_X9_count (rm : Room) (h : rm.cells = 0 ∧ rm.slots = 0) : zBn yX9_count cX9_count 6 (some .long) rm 2 := ⟨tw_1095, tw_9, ⟨by decide +kernel, by decide +kernel, by decide +kernel⟩, h.1, h.2⟩
theorem vw_X9_count : zVw 8 yX9_count := ⟨tw_1093, tw_1094, _, _, rfl⟩
theorem bn_X9_countOf (rm : Room) (h : rm.cells = 0 ∧ rm.slots = 0) : zBn yX9_countOf cX9_countOf 5 (some .long) rm 1 := ⟨tw_1104, tw_9, ⟨by decide +kernel, by decide +kernel, by decide +kernel⟩, h.1, h.2⟩
theorem vw_X9_countOf : zVw 8 yX9_countOf := ⟨tw_1103, twp_30, _, _, rfl⟩
theorem bn_X9_link (rm : Room) (h : rm.cells = 0 ∧ rm.slots = 0) : zBn yX9_link cX9_link 4 none rm 2 := ⟨tw_1099, tw_9, ⟨by decide +kernel, by decide +kernel, by decide +kernel⟩, h.1, h.2⟩
theorem vw_X9_link : zVw 8 yX9_link := ⟨tw_1098, twp_29, _, _, rfl⟩
theorem bn_X10_feed (rm : Room) (h : rm.cells = 0 ∧ rm.slots = 0) : zBn yX10_feed cX10_feed 6 (some .int) rm 5 := ⟨tw_336, tw_1, ⟨by decide +kernel, by decide +kernel, by decide +kernel⟩, h.1, h.2⟩
theorem vw_X10_feed : zVw 9 yX10_feed := ⟨tw_334, tw_335, _, _, rfl⟩
theorem bn_X10_text (rm : Room) (h : rm.cells = 0 ∧ rm.slots = 0) : zBn yX10_text cX10_text 3 (some .int) rm 1 := ⟨tw_456, tw_1, ⟨by decide +kernel, by decide +kernel, by decide +kernel⟩, h.1, h.2⟩
theorem vw_X10_text : zVw 9 yX10_text := ⟨tw_454, tw_455, _, _, rfl⟩
theorem bn_X10_fault (rm : Room) (h : rm.cells = 0 ∧ rm.slots = 0) : zBn yX10_fault cX10_fault 1 (some .int) rm 0 := ⟨tw_344, tw_1, ⟨by decide +kernel, by decide +kernel, by decide +kernel⟩, h.1, h.2⟩
theorem vw_X10_fault : zVw 9 yX10_fault := ⟨tw_342, tw_343, _, _, rfl⟩
theorem bn_X10_set (rm : Room) (h : rm.cells = 0 ∧ rm.slots = 0) : zBn yX10_set cX10_set 4 (some .int) rm 2 := ⟨tw_680, tw_1, ⟨by decide +kernel, by decide +kernel, by decide +kernel⟩, h.1, h.2⟩
theorem vw_X10_set : zVw 9 yX10_set := ⟨tw_678, tw_679, _, _, rfl⟩
theorem bn_X10_wear (rm : Room) (h : rm.cells = 0 ∧ rm.slots = 0) : zBn yX10_wear cX10_wear 6 (some .int) rm 3 := ⟨tw_708, tw_1, ⟨by decide +kernel, by decide +kernel, by decide +kernel⟩, h.1, h.2⟩
theorem vw_X10_wear : zVw 9 yX10_wear := ⟨tw_706, tw_707, _, _, rfl⟩
theorem bn_X10_enrol (rm : Room) (h : rm.cells = 0 ∧ rm.slots = 0) : zBn yX10_enrol cX10_enrol 5 (some .int) rm 1 := ⟨tw_748, tw_1, ⟨by decide +kernel, by decide +kernel, by decide +kernel⟩, h.1, h.2⟩
theorem vw_X10_enrol : zVw 9 yX10_enrol := ⟨tw_746, tw_747, _, _, rfl⟩
theorem bn_X10_hear (rm : Room) (h : rm.cells = 0 ∧ rm.slots = 0) : zBn yX10_hear cX10_hear 3 (some .int) rm 1 := ⟨tw_835, tw_1, ⟨by decide +kernel, by decide +kernel, by decide +kernel⟩, h.1, h.2⟩
theorem vw_X10_hear : zVw 9 yX10_hear := ⟨tw_833, tw_834, _, _, rfl⟩
theorem bn_X10_train (rm : Room) (h : rm.cells = 0 ∧ rm.slots = 0) : zBn yX10_train cX10_train 4 (some .int) rm 1 := ⟨tw_842, tw_1, ⟨by decide +kernel, by decide +kernel, by decide +kernel⟩, h.1, h.2⟩
theorem vw_X10_train : zVw 9 yX10_train := ⟨tw_840, tw_841, _, _, rfl⟩
theorem bn_X10_turn (rm : Room) (h : rm.cells = 0 ∧ rm.slots = 0) : zBn yX10_turn cX10_turn 2 (some .int) rm 1 := ⟨tw_858, tw_1, ⟨by decide +kernel, by decide +kernel, by decide +kernel⟩, h.1, h.2⟩
theorem vw_X10_turn : zVw 9 yX10_turn := ⟨tw_856, tw_857, _, _, rfl⟩
theorem bn_X10_undo (rm : Room) (h : rm.cells = 0 ∧ rm.slots = 0) : zBn yX10_undo cX10_undo 2 (some .int) rm 0 := ⟨tw_348, tw_1, ⟨by decide +kernel, by decide +kernel, by decide +kernel⟩, h.1, h.2⟩
theorem vw_X10_undo : zVw 9 yX10_undo := ⟨tw_346, tw_347, _, _, rfl⟩
theorem bn_X10_told (rm : Room) (h : rm.cells = 0 ∧ rm.slots = 0) : zBn yX10_told cX10_told 3 (some .int) rm 1 := ⟨tw_874, tw_1, ⟨by decide +kernel, by decide +kernel, by decide +kernel⟩, h.1, h.2⟩
theorem vw_X10_told : zVw 9 yX10_told := ⟨tw_872, tw_873, _, _, rfl⟩
theorem bn_X10_ring (rm : Room) (h : rm.cells = 0 ∧ rm.slots = 0) : zBn yX10_ring cX10_ring 3 (some .int) rm 2 := ⟨tw_888, tw_1, ⟨by decide +kernel, by decide +kernel, by decide +kernel⟩, h.1, h.2⟩
theorem vw_X10_ring : zVw 9 yX10_ring := ⟨tw_886, tw_887, _, _, rfl⟩
theorem bn_X10_speed (rm : Room) (h : rm.cells = 0 ∧ rm.slots = 0) : zBn yX10_speed cX10_speed 3 (some .int) rm 2 := ⟨tw_899, tw_1, ⟨by decide +kernel, by decide +kernel, by decide +kernel⟩, h.1, h.2⟩
theorem vw_X10_speed : zVw 9 yX10_speed := ⟨tw_897, tw_898, _, _, rfl⟩
theorem bn_X10_rank (rm : Room) (h : rm.cells = 0 ∧ rm.slots = 0) : zBn yX10_rank cX10_rank 4 (some .int) rm 2 := ⟨tw_911, tw_1, ⟨by decide +kernel, by decide +kernel, by decide +kernel⟩, h.1, h.2⟩
theorem vw_X10_rank : zVw 9 yX10_rank := ⟨tw_909, tw_910, _, _, rfl⟩
theorem bn_X10_pair (rm : Room) (h : rm.cells = 0 ∧ rm.slots = 0) : zBn yX10_pair cX10_pair 5 (some .int) rm 2 := ⟨tw_922, tw_1, ⟨by decide +kernel, by decide +kernel, by decide +kernel⟩, h.1, h.2⟩
theorem vw_X10_pair : zVw 9 yX10_pair := ⟨tw_920, tw_921, _, _, rfl⟩
theorem bn_X10_bit (rm : Room) (h : rm.cells = 0 ∧ rm.slots = 0) : zBn yX10_bit cX10_bit 3 (some .int) rm 2 := ⟨tw_942, tw_1, ⟨by decide +kernel, by decide +kernel, by decide +kernel⟩, h.1, h.2⟩
theorem vw_X10_bit : zVw 9 yX10_bit := ⟨tw_940, tw_941, _, _, rfl⟩
theorem bn_X10_flips (rm : Room) (h : rm.cells = 0 ∧ rm.slots = 0) : zBn yX10_flips cX10_flips 7 (some .int) rm 2 := ⟨tw_953, tw_1, ⟨by decide +kernel, by decide +kernel, by decide +kernel⟩, h.1, h.2⟩
theorem vw_X10_flips : zVw 9 yX10_flips := ⟨tw_951, tw_952, _, _, rfl⟩
theorem bn_X10_odds (rm : Room) (h : rm.cells = 0 ∧ rm.slots = 0) : zBn yX10_odds cX10_odds 8 (some .int) rm 3 := ⟨tw_960, tw_1, ⟨by decide +kernel, by decide +kernel, by decide +kernel⟩, h.1, h.2⟩
theorem vw_X10_odds : zVw 9 yX10_odds := ⟨tw_958, tw_959, _, _, rfl⟩
theorem bn_X10_block (rm : Room) (h : rm.cells = 0 ∧ rm.slots = 0) : zBn yX10_block cX10_block 5 (some .int) rm 2 := ⟨tw_980, tw_1, ⟨by decide +kernel, by decide +kernel, by decide +kernel⟩, h.1, h.2⟩
theorem vw_X10_block : zVw 9 yX10_block := ⟨tw_978, tw_979, _, _, rfl⟩
theorem bn_X10_recover (rm : Room) (h : rm.cells = 0 ∧ rm.slots = 0) : zBn yX10_recover cX10_recover 4 (some .int) rm 3 := ⟨tw_992, tw_1, ⟨by decide +kernel, by decide +kernel, by decide +kernel⟩, h.1, h.2⟩
theorem vw_X10_recover : zVw 9 yX10_recover := ⟨tw_990, tw_991, _, _, rfl⟩
theorem bn_X10_fails (rm : Room) (h : rm.cells = 0 ∧ rm.slots = 0) : zBn yX10_fails cX10_fails 9 (some .int) rm 4 := ⟨tw_1027, tw_1, ⟨by decide +kernel, by decide +kernel, by decide +kernel⟩, h.1, h.2⟩
theorem vw_X10_fails : zVw 9 yX10_fails := ⟨tw_1025, tw_1026, _, _, rfl⟩
theorem bn_X10_safe (rm : Room) (h : rm.cells = 0 ∧ rm.slots = 0) : zBn yX10_safe cX10_safe 4 (some .int) rm 2 := ⟨tw_1034, tw_1, ⟨by decide +kernel, by decide +kernel, by decide +kernel⟩, h.1, h.2⟩
theorem vw_X10_safe : zVw 9 yX10_safe := ⟨tw_1032, tw_1033, _, _, rfl⟩
theorem bn_X10_range (rm : Room) (h : rm.cells = 0 ∧ rm.slots = 0) : zBn yX10_range cX10_range 5 (some .int) rm 1 := ⟨tw_1065, tw_1, ⟨by decide +kernel, by decide +kernel, by decide +kernel⟩, h.1, h.2⟩
theorem vw_X10_range : zVw 9 yX10_range := ⟨tw_1063, tw_1064, _, _, rfl⟩
theorem bn_X10_guardFor (rm : Room) (h : rm.cells = 0 ∧ rm.slots = 0) : zBn yX10_guardFor cX10_guardFor 7 (some .int) rm 1 := ⟨tw_1076, tw_1, ⟨by decide +kernel, by decide +kernel, by decide +kernel⟩, h.1, h.2⟩
theorem vw_X10_guardFor : zVw 9 yX10_guardFor := ⟨tw_1074, tw_1075, _, _, rfl⟩
theorem bn_X10_ways (rm : Room) (h : rm.cells = 0 ∧ rm.slots = 0) : zBn yX10_ways cX10_ways 3 (some .long) rm 1 := ⟨tw_1087, tw_1, ⟨by decide +kernel, by decide +kernel, by decide +kernel⟩, h.1, h.2⟩
theorem vw_X10_ways : zVw 9 yX10_ways := ⟨tw_1085, tw_1086, _, _, rfl⟩
theorem bn_X10_leak (rm : Room) (h : rm.cells = 0 ∧ rm.slots = 0) : zBn yX10_leak cX10_leak 2 (some .int) rm 1 := ⟨tw_1112, tw_1, ⟨by decide +kernel, by decide +kernel, by decide +kernel⟩, h.1, h.2⟩
theorem vw_X10_leak : zVw 9 yX10_leak := ⟨tw_1110, tw_1111, _, _, rfl⟩
theorem bn_X10_success (rm : Room) (h : rm.cells = 0 ∧ rm.slots = 0) : zBn yX10_success cX10_success 9 (some .int) rm 1 := ⟨tw_1158, tw_1, ⟨by decide +kernel, by decide +kernel, by decide +kernel⟩, h.1, h.2⟩
theorem vw_X10_success : zVw 9 yX10_success := ⟨tw_1156, tw_1157, _, _, rfl⟩
theorem bn_X10_curve (rm : Room) (h : rm.cells = 0 ∧ rm.slots = 0) : zBn yX10_curve cX10_curve 4 (some .int) rm 2 := ⟨tw_1165, tw_1, ⟨by decide +kernel, by decide +kernel, by decide +kernel⟩, h.1, h.2⟩
theorem vw_X10_curve : zVw 9 yX10_curve := ⟨tw_1163, tw_1164, _, _, rfl⟩
theorem bn_X10_nextPair (rm : Room) (h : rm.cells = 0 ∧ rm.slots = 0) : zBn yX10_nextPair cX10_nextPair 1 (some .int) rm 0 := ⟨tw_352, tw_1, ⟨by decide +kernel, by decide +kernel, by decide +kernel⟩, h.1, h.2⟩
theorem vw_X10_nextPair : zVw 9 yX10_nextPair := ⟨tw_350, tw_351, _, _, rfl⟩
theorem bn_X10_needs (rm : Room) (h : rm.cells = 0 ∧ rm.slots = 0) : zBn yX10_needs cX10_needs 3 (some .int) rm 0 := ⟨tw_412, tw_1, ⟨by decide +kernel, by decide +kernel, by decide +kernel⟩, h.1, h.2⟩
theorem vw_X10_needs : zVw 9 yX10_needs := ⟨tw_410, tw_411, _, _, rfl⟩
theorem bn_X10_print (rm : Room) (h : rm.cells = 0 ∧ rm.slots = 0) : zBn yX10_print cX10_print 4 (some .long) rm 0 := ⟨tw_433, tw_1, ⟨by decide +kernel, by decide +kernel, by decide +kernel⟩, h.1, h.2⟩
theorem vw_X10_print : zVw 9 yX10_print := ⟨tw_431, tw_432, _, _, rfl⟩
theorem bn_X10_status (rm : Room) (h : rm.cells = 0 ∧ rm.slots = 0) : zBn yX10_status cX10_status 2 (some .int) rm 1 := ⟨tw_448, tw_1, ⟨by decide +kernel, by decide +kernel, by decide +kernel⟩, h.1, h.2⟩
theorem vw_X10_status : zVw 9 yX10_status := ⟨tw_446, tw_447, _, _, rfl⟩
theorem bn_X10_refuseArgument (rm : Room) (h : rm.cells = 0 ∧ rm.slots = 0) : zBn yX10_refuseArgument cX10_refuseArgument 1 none rm 0 := ⟨tw_464, tw_1, ⟨by decide +kernel, by decide +kernel, by decide +kernel⟩, h.1, h.2⟩
theorem vw_X10_refuseArgument : zVw 9 yX10_refuseArgument := ⟨tw_463, twp_3, _, _, rfl⟩
theorem bn_X10_refuseState (rm : Room) (h : rm.cells = 0 ∧ rm.slots = 0) : zBn yX10_refuseState cX10_refuseState 1 none rm 0 := ⟨tw_784, tw_1, ⟨by decide +kernel, by decide +kernel, by decide +kernel⟩, h.1, h.2⟩
theorem vw_X10_refuseState : zVw 9 yX10_refuseState := ⟨tw_783, twp_22, _, _, rfl⟩
theorem bn_X10_refuseMissing (rm : Room) (h : rm.cells = 0 ∧ rm.slots = 0) : zBn yX10_refuseMissing cX10_refuseMissing 1 none rm 0 := ⟨tw_716, tw_1, ⟨by decide +kernel, by decide +kernel, by decide +kernel⟩, h.1, h.2⟩
theorem vw_X10_refuseMissing : zVw 9 yX10_refuseMissing := ⟨tw_715, twp_20, _, _, rfl⟩
theorem bn_X10_needCounted (rm : Room) (h : rm.cells = 0 ∧ rm.slots = 0) : zBn yX10_needCounted cX10_needCounted 3 none rm 2 := ⟨tw_712, tw_1, ⟨by decide +kernel, by decide +kernel, by decide +kernel⟩, h.1, h.2⟩
theorem vw_X10_needCounted : zVw 9 yX10_needCounted := ⟨tw_711, twp_19, _, _, rfl⟩
theorem bn_X10_needBetween (rm : Room) (h : rm.cells = 0 ∧ rm.slots = 0) : zBn yX10_needBetween cX10_needBetween 4 none rm 3 := ⟨tw_460, tw_1, ⟨by decide +kernel, by decide +kernel, by decide +kernel⟩, h.1, h.2⟩
theorem vw_X10_needBetween : zVw 9 yX10_needBetween := ⟨tw_459, twp_2, _, _, rfl⟩
theorem bn_X10_needHeat (rm : Room) (h : rm.cells = 0 ∧ rm.slots = 0) : zBn yX10_needHeat cX10_needHeat 2 none rm 1 := ⟨tw_903, tw_1, ⟨by decide +kernel, by decide +kernel, by decide +kernel⟩, h.1, h.2⟩
theorem vw_X10_needHeat : zVw 9 yX10_needHeat := ⟨tw_902, twp_25, _, _, rfl⟩
theorem bn_X10_needEnrolled (rm : Room) (h : rm.cells = 0 ∧ rm.slots = 0) : zBn yX10_needEnrolled cX10_needEnrolled 1 none rm 0 := ⟨tw_862, tw_1, ⟨by decide +kernel, by decide +kernel, by decide +kernel⟩, h.1, h.2⟩
theorem vw_X10_needEnrolled : zVw 9 yX10_needEnrolled := ⟨tw_861, twp_23, _, _, rfl⟩
theorem bn_X10_needSetting (rm : Room) (h : rm.cells = 0 ∧ rm.slots = 0) : zBn yX10_needSetting cX10_needSetting 3 none rm 2 := ⟨tw_684, tw_1, ⟨by decide +kernel, by decide +kernel, by decide +kernel⟩, h.1, h.2⟩
theorem vw_X10_needSetting : zVw 9 yX10_needSetting := ⟨tw_683, twp_17, _, _, rfl⟩
theorem bn_X10_needTrait (rm : Room) (h : rm.cells = 0 ∧ rm.slots = 0) : zBn yX10_needTrait cX10_needTrait 3 none rm 2 := ⟨tw_736, tw_1, ⟨by decide +kernel, by decide +kernel, by decide +kernel⟩, h.1, h.2⟩
theorem vw_X10_needTrait : zVw 9 yX10_needTrait := ⟨tw_735, twp_21, _, _, rfl⟩
theorem bn_X10_remember (rm : Room) (h : rm.cells = 0 ∧ rm.slots = 0) : zBn yX10_remember cX10_remember 1 none rm 0 := ⟨tw_689, tw_1, ⟨by decide +kernel, by decide +kernel, by decide +kernel⟩, h.1, h.2⟩
theorem vw_X10_remember : zVw 9 yX10_remember := ⟨tw_688, twp_18, _, _, rfl⟩
theorem bn_X10_toldOfEnrolled (rm : Room) (h : rm.cells = 0 ∧ rm.slots = 0) : zBn yX10_toldOfEnrolled cX10_toldOfEnrolled 3 (some .int) rm 1 := ⟨tw_880, tw_1, ⟨by decide +kernel, by decide +kernel, by decide +kernel⟩, h.1, h.2⟩
theorem vw_X10_toldOfEnrolled : zVw 9 yX10_toldOfEnrolled := ⟨tw_879, twp_24, _, _, rfl⟩
theorem bn_X10_isSafeAt (rm : Room) (h : rm.cells = 0 ∧ rm.slots = 0) : zBn yX10_isSafeAt cX10_isSafeAt 2 (some .boolean) rm 1 := ⟨tw_1069, tw_1, ⟨by decide +kernel, by decide +kernel, by decide +kernel⟩, h.1, h.2⟩
theorem vw_X10_isSafeAt : zVw 9 yX10_isSafeAt := ⟨tw_1068, twp_27, _, _, rfl⟩
theorem bn_X10_marginsFrom (rm : Room) (h : rm.cells = 0 ∧ rm.slots = 0) : zBn yX10_marginsFrom cX10_marginsFrom 4 (some .int) rm 1 := ⟨tw_1080, tw_1, ⟨by decide +kernel, by decide +kernel, by decide +kernel⟩, h.1, h.2⟩
theorem vw_X10_marginsFrom : zVw 9 yX10_marginsFrom := ⟨tw_1079, twp_28, _, _, rfl⟩
theorem bn_X10_sureOfEnrolled (rm : Room) (h : rm.cells = 0 ∧ rm.slots = 0) : zBn yX10_sureOfEnrolled cX10_sureOfEnrolled 4 (some .int) rm 0 := ⟨tw_1116, tw_1, ⟨by decide +kernel, by decide +kernel, by decide +kernel⟩, h.1, h.2⟩
theorem vw_X10_sureOfEnrolled : zVw 9 yX10_sureOfEnrolled := ⟨tw_1115, twp_31, _, _, rfl⟩
theorem bn_X10_epochsToLearn (rm : Room) (h : rm.cells = 0 ∧ rm.slots = 0) : zBn yX10_epochsToLearn cX10_epochsToLearn 3 (some .int) rm 1 := ⟨tw_1169, tw_1, ⟨by decide +kernel, by decide +kernel, by decide +kernel⟩, h.1, h.2⟩
theorem vw_X10_epochsToLearn : zVw 9 yX10_epochsToLearn := ⟨tw_1168, twp_34, _, _, rfl⟩
theorem bn_X10_guessedRight (rm : Room) (h : rm.cells = 0 ∧ rm.slots = 0) : zBn yX10_guessedRight cX10_guessedRight 5 (some .int) rm 2 := ⟨tw_1173, tw_1, ⟨by decide +kernel, by decide +kernel, by decide +kernel⟩, h.1, h.2⟩
theorem vw_X10_guessedRight : zVw 9 yX10_guessedRight := ⟨tw_1172, twp_35, _, _, rfl⟩
theorem bn_X10_nextFor (rm : Room) (h : rm.cells = 0 ∧ rm.slots = 0) : zBn yX10_nextFor cX10_nextFor 9 (some .int) rm 1 := ⟨tw_356, tw_1, ⟨by decide +kernel, by decide +kernel, by decide +kernel⟩, h.1, h.2⟩
theorem vw_X10_nextFor : zVw 9 yX10_nextFor := ⟨tw_355, twp_0, _, _, rfl⟩
theorem bn_X10_followersIf (rm : Room) (h : rm.cells = 0 ∧ rm.slots = 0) : zBn yX10_followersIf cX10_followersIf 5 (some .int) rm 2 := ⟨tw_397, tw_1, ⟨by decide +kernel, by decide +kernel, by decide +kernel⟩, h.1, h.2⟩
theorem vw_X10_followersIf : zVw 9 yX10_followersIf := ⟨tw_396, twp_1, _, _, rfl⟩
theorem bn_X10_bitIn (rm : Room) (h : rm.cells = 0 ∧ rm.slots = 0) : zBn yX10_bitIn cX10_bitIn 2 (some .int) rm 2 := ⟨tw_375, tw_1, ⟨by decide +kernel, by decide +kernel, by decide +kernel⟩, h.1, h.2⟩
theorem bn_X10_commonDivisor (rm : Room) (h : rm.cells = 0 ∧ rm.slots = 0) : zBn yX10_commonDivisor cX10_commonDivisor 6 (some .int) rm 2 := ⟨tw_972, tw_1, ⟨by decide +kernel, by decide +kernel, by decide +kernel⟩, h.1, h.2⟩
theorem bn_X11_thrown (rm : Room) (h : rm.cells = 0 ∧ rm.slots = 0) : zBn yX11_thrown cX11_thrown 1 (some .int) rm 0 := ⟨tw_1177, tw_11, ⟨by decide +kernel, by decide +kernel, by decide +kernel⟩, h.1, h.2⟩
theorem vw_X11_thrown : zVw 10 yX11_thrown := ⟨tw_1175, tw_1176, _, _, rfl⟩
theorem bn_X11_isFine (rm : Room) (h : rm.cells = 0 ∧ rm.slots = 0) : zBn yX11_isFine cX11_isFine 4 (some .boolean) rm 3 := ⟨tw_1311, tw_11, ⟨by decide +kernel, by decide +kernel, by decide +kernel⟩, h.1, h.2⟩
theorem vw_X11_isFine : zVw 10 yX11_isFine := ⟨tw_1310, twp_37, _, _, rfl⟩
theorem bn_X11_within (rm : Room) (h : rm.cells = 0 ∧ rm.slots = 0) : zBn yX11_within cX11_within 3 (some .boolean) rm 3 := ⟨tw_1307, tw_11, ⟨by decide +kernel, by decide +kernel, by decide +kernel⟩, h.1, h.2⟩
theorem bn_X11_clears (rm : Room) (h : rm.cells = 0 ∧ rm.slots = 0) : zBn yX11_clears cX11_clears 2 none rm 1 := ⟨tw_1186, tw_11, ⟨by decide +kernel, by decide +kernel, by decide +kernel⟩, h.1, h.2⟩
theorem bn_X11_speedOf (rm : Room) (h : rm.cells = 0 ∧ rm.slots = 0) : zBn yX11_speedOf cX11_speedOf 3 (some .int) rm 2 := ⟨tw_1418, tw_11, ⟨by decide +kernel, by decide +kernel, by decide +kernel⟩, h.1, h.2⟩
theorem vw_X11_speedOf : zVw 10 yX11_speedOf := ⟨tw_1417, twp_57, _, _, rfl⟩
theorem bn_X11_noiseOf (rm : Room) (h : rm.cells = 0 ∧ rm.slots = 0) : zBn yX11_noiseOf cX11_noiseOf 2 (some .int) rm 1 := ⟨tw_1433, tw_11, ⟨by decide +kernel, by decide +kernel, by decide +kernel⟩, h.1, h.2⟩
theorem vw_X11_noiseOf : zVw 10 yX11_noiseOf := ⟨tw_1432, twp_60, _, _, rfl⟩
theorem bn_X11_bitBy (rm : Room) (h : rm.cells = 0 ∧ rm.slots = 0) : zBn yX11_bitBy cX11_bitBy 4 (some .int) rm 4 := ⟨tw_1429, tw_11, ⟨by decide +kernel, by decide +kernel, by decide +kernel⟩, h.1, h.2⟩
theorem bn_X11_bitAt (rm : Room) (h : rm.cells = 0 ∧ rm.slots = 0) : zBn yX11_bitAt cX11_bitAt 3 (some .int) rm 2 := ⟨tw_1426, tw_11, ⟨by decide +kernel, by decide +kernel, by decide +kernel⟩, h.1, h.2⟩
theorem vw_X11_bitAt : zVw 10 yX11_bitAt := ⟨tw_1425, twp_59, _, _, rfl⟩
theorem bn_X11_bitOf (rm : Room) (h : rm.cells = 0 ∧ rm.slots = 0) : zBn yX11_bitOf cX11_bitOf 2 (some .int) rm 1 := ⟨tw_1422, tw_11, ⟨by decide +kernel, by decide +kernel, by decide +kernel⟩, h.1, h.2⟩
theorem vw_X11_bitOf : zVw 10 yX11_bitOf := ⟨tw_1421, twp_58, _, _, rfl⟩
theorem bn_X11_apart (rm : Room) (h : rm.cells = 0 ∧ rm.slots = 0) : zBn yX11_apart cX11_apart 4 (some .int) rm 2 := ⟨tw_1414, tw_11, ⟨by decide +kernel, by decide +kernel, by decide +kernel⟩, h.1, h.2⟩
theorem vw_X11_apart : zVw 10 yX11_apart := ⟨tw_1413, twp_56, _, _, rfl⟩
theorem bn_X11_marginOf (rm : Room) (h : rm.cells = 0 ∧ rm.slots = 0) : zBn yX11_marginOf cX11_marginOf 4 (some .int) rm 1 := ⟨tw_1410, tw_11, ⟨by decide +kernel, by decide +kernel, by decide +kernel⟩, h.1, h.2⟩
theorem vw_X11_marginOf : zVw 10 yX11_marginOf := ⟨tw_1409, twp_55, _, _, rfl⟩
theorem bn_X11_isSteady (rm : Room) (h : rm.cells = 0 ∧ rm.slots = 0) : zBn yX11_isSteady cX11_isSteady 3 (some .boolean) rm 2 := ⟨tw_1406, tw_11, ⟨by decide +kernel, by decide +kernel, by decide +kernel⟩, h.1, h.2⟩
theorem vw_X11_isSteady : zVw 10 yX11_isSteady := ⟨tw_1405, twp_54, _, _, rfl⟩
theorem bn_X11_usedBy (rm : Room) (h : rm.cells = 0 ∧ rm.slots = 0) : zBn yX11_usedBy cX11_usedBy 5 (some .int) rm 2 := ⟨tw_1402, tw_11, ⟨by decide +kernel, by decide +kernel, by decide +kernel⟩, h.1, h.2⟩
theorem vw_X11_usedBy : zVw 10 yX11_usedBy := ⟨tw_1401, twp_53, _, _, rfl⟩
theorem bn_X11_usedNow (rm : Room) (h : rm.cells = 0 ∧ rm.slots = 0) : zBn yX11_usedNow cX11_usedNow 1 (some .int) rm 0 := ⟨tw_1398, tw_11, ⟨by decide +kernel, by decide +kernel, by decide +kernel⟩, h.1, h.2⟩
theorem vw_X11_usedNow : zVw 10 yX11_usedNow := ⟨tw_1397, twp_52, _, _, rfl⟩
theorem bn_X11_wideBy (rm : Room) (h : rm.cells = 0 ∧ rm.slots = 0) : zBn yX11_wideBy cX11_wideBy 1 (some .int) rm 1 := ⟨tw_1440, tw_11, ⟨by decide +kernel, by decide +kernel, by decide +kernel⟩, h.1, h.2⟩
theorem bn_X11_givesBy (rm : Room) (h : rm.cells = 0 ∧ rm.slots = 0) : zBn yX11_givesBy cX11_givesBy 1 (some .int) rm 1 := ⟨tw_1443, tw_11, ⟨by decide +kernel, by decide +kernel, by decide +kernel⟩, h.1, h.2⟩
theorem bn_X11_blocksOf (rm : Room) (h : rm.cells = 0 ∧ rm.slots = 0) : zBn yX11_blocksOf cX11_blocksOf 3 (some .int) rm 2 := ⟨tw_1437, tw_11, ⟨by decide +kernel, by decide +kernel, by decide +kernel⟩, h.1, h.2⟩
theorem vw_X11_blocksOf : zVw 10 yX11_blocksOf := ⟨tw_1436, twp_61, _, _, rfl⟩
theorem bn_X11_blocks (rm : Room) (h : rm.cells = 0 ∧ rm.slots = 0) : zBn yX11_blocks cX11_blocks 1 (some .int) rm 0 := ⟨tw_1394, tw_11, ⟨by decide +kernel, by decide +kernel, by decide +kernel⟩, h.1, h.2⟩
theorem vw_X11_blocks : zVw 10 yX11_blocks := ⟨tw_1393, twp_51, _, _, rfl⟩
theorem bn_X11_words (rm : Room) (h : rm.cells = 0 ∧ rm.slots = 0) : zBn yX11_words cX11_words 7 none rm 2 := ⟨tw_1451, tw_11, ⟨by decide +kernel, by decide +kernel, by decide +kernel⟩, h.1, h.2⟩
theorem vw_X11_words : zVw 10 yX11_words := ⟨tw_1450, twp_63, _, _, rfl⟩
theorem bn_X11_decoded (rm : Room) (h : rm.cells = 0 ∧ rm.slots = 0) : zBn yX11_decoded cX11_decoded 7 (some .int) rm 1 := ⟨tw_1599, tw_11, ⟨by decide +kernel, by decide +kernel, by decide +kernel⟩, h.1, h.2⟩
theorem vw_X11_decoded : zVw 10 yX11_decoded := ⟨tw_1598, twp_84, _, _, rfl⟩
theorem bn_X11_checkOf (rm : Room) (h : rm.cells = 0 ∧ rm.slots = 0) : zBn yX11_checkOf cX11_checkOf 4 (some .int) rm 2 := ⟨tw_1454, tw_11, ⟨by decide +kernel, by decide +kernel, by decide +kernel⟩, h.1, h.2⟩
theorem bn_X11_feed (rm : Room) (h : rm.cells = 0 ∧ rm.slots = 0) : zBn yX11_feed cX11_feed 6 (some .int) rm 5 := ⟨tw_1296, tw_11, ⟨by decide +kernel, by decide +kernel, by decide +kernel⟩, h.1, h.2⟩
theorem vw_X11_feed : zVw 10 yX11_feed := ⟨tw_1294, tw_1295, _, _, rfl⟩
theorem bn_X11_puts (rm : Room) (h : rm.cells = 0 ∧ rm.slots = 0) : zBn yX11_puts cX11_puts 3 none rm 1 := ⟨tw_1300, tw_11, ⟨by decide +kernel, by decide +kernel, by decide +kernel⟩, h.1, h.2⟩
theorem vw_X11_puts : zVw 10 yX11_puts := ⟨tw_1299, twp_36, _, _, rfl⟩
theorem bn_X11_wrong (rm : Room) (h : rm.cells = 0 ∧ rm.slots = 0) : zBn yX11_wrong cX11_wrong 3 none rm 2 := ⟨tw_1338, tw_11, ⟨by decide +kernel, by decide +kernel, by decide +kernel⟩, h.1, h.2⟩
theorem vw_X11_wrong : zVw 10 yX11_wrong := ⟨tw_1337, twp_43, _, _, rfl⟩
theorem bn_X11_sign (rm : Room) (h : rm.cells = 0 ∧ rm.slots = 0) : zBn yX11_sign cX11_sign 1 (some .int) rm 0 := ⟨tw_1315, tw_11, ⟨by decide +kernel, by decide +kernel, by decide +kernel⟩, h.1, h.2⟩
theorem vw_X11_sign : zVw 10 yX11_sign := ⟨tw_1314, twp_38, _, _, rfl⟩
theorem bn_X11_isSmall (rm : Room) (h : rm.cells = 0 ∧ rm.slots = 0) : zBn yX11_isSmall cX11_isSmall 2 (some .boolean) rm 1 := ⟨tw_1329, tw_11, ⟨by decide +kernel, by decide +kernel, by decide +kernel⟩, h.1, h.2⟩
theorem vw_X11_isSmall : zVw 10 yX11_isSmall := ⟨tw_1328, twp_41, _, _, rfl⟩
theorem bn_X11_passes (rm : Room) (h : rm.cells = 0 ∧ rm.slots = 0) : zBn yX11_passes cX11_passes 3 (some .boolean) rm 1 := ⟨tw_1324, tw_11, ⟨by decide +kernel, by decide +kernel, by decide +kernel⟩, h.1, h.2⟩
theorem vw_X11_passes : zVw 10 yX11_passes := ⟨tw_1323, twp_40, _, _, rfl⟩
theorem bn_X11_number (rm : Room) (h : rm.cells = 0 ∧ rm.slots = 0) : zBn yX11_number cX11_number 8 (some .int) rm 3 := ⟨tw_1343, tw_11, ⟨by decide +kernel, by decide +kernel, by decide +kernel⟩, h.1, h.2⟩
theorem vw_X11_number : zVw 10 yX11_number := ⟨tw_1342, twp_44, _, _, rfl⟩
theorem bn_X11_ringTold (rm : Room) (h : rm.cells = 0 ∧ rm.slots = 0) : zBn yX11_ringTold cX11_ringTold 5 none rm 0 := ⟨tw_1334, tw_11, ⟨by decide +kernel, by decide +kernel, by decide +kernel⟩, h.1, h.2⟩
theorem vw_X11_ringTold : zVw 10 yX11_ringTold := ⟨tw_1333, twp_42, _, _, rfl⟩
theorem bn_X11_pairTold (rm : Room) (h : rm.cells = 0 ∧ rm.slots = 0) : zBn yX11_pairTold cX11_pairTold 5 none rm 0 := ⟨tw_1349, tw_11, ⟨by decide +kernel, by decide +kernel, by decide +kernel⟩, h.1, h.2⟩
theorem vw_X11_pairTold : zVw 10 yX11_pairTold := ⟨tw_1348, twp_45, _, _, rfl⟩
theorem bn_X11_heatsTold (rm : Room) (h : rm.cells = 0 ∧ rm.slots = 0) : zBn yX11_heatsTold cX11_heatsTold 1 none rm 0 := ⟨tw_1355, tw_11, ⟨by decide +kernel, by decide +kernel, by decide +kernel⟩, h.1, h.2⟩
theorem vw_X11_heatsTold : zVw 10 yX11_heatsTold := ⟨tw_1354, twp_46, _, _, rfl⟩
theorem bn_X11_repeatTold (rm : Room) (h : rm.cells = 0 ∧ rm.slots = 0) : zBn yX11_repeatTold cX11_repeatTold 2 none rm 0 := ⟨tw_1361, tw_11, ⟨by decide +kernel, by decide +kernel, by decide +kernel⟩, h.1, h.2⟩
theorem vw_X11_repeatTold : zVw 10 yX11_repeatTold := ⟨tw_1360, twp_47, _, _, rfl⟩
theorem bn_X11_oneLine (rm : Room) (h : rm.cells = 0 ∧ rm.slots = 0) : zBn yX11_oneLine cX11_oneLine 1 none rm 0 := ⟨tw_1319, tw_11, ⟨by decide +kernel, by decide +kernel, by decide +kernel⟩, h.1, h.2⟩
theorem vw_X11_oneLine : zVw 10 yX11_oneLine := ⟨tw_1318, twp_39, _, _, rfl⟩
theorem bn_X11_text (rm : Room) (h : rm.cells = 0 ∧ rm.slots = 0) : zBn yX11_text cX11_text 3 (some .int) rm 1 := ⟨tw_1304, tw_11, ⟨by decide +kernel, by decide +kernel, by decide +kernel⟩, h.1, h.2⟩
theorem vw_X11_text : zVw 10 yX11_text := ⟨tw_1302, tw_1303, _, _, rfl⟩
theorem bn_X11_fault (rm : Room) (h : rm.cells = 0 ∧ rm.slots = 0) : zBn yX11_fault cX11_fault 1 (some .int) rm 0 := ⟨tw_1366, tw_11, ⟨by decide +kernel, by decide +kernel, by decide +kernel⟩, h.1, h.2⟩
theorem vw_X11_fault : zVw 10 yX11_fault := ⟨tw_1364, tw_1365, _, _, rfl⟩
theorem bn_X11_keeps (rm : Room) (h : rm.cells = 0 ∧ rm.slots = 0) : zBn yX11_keeps cX11_keeps 2 none rm 0 := ⟨tw_1378, tw_11, ⟨by decide +kernel, by decide +kernel, by decide +kernel⟩, h.1, h.2⟩
theorem vw_X11_keeps : zVw 10 yX11_keeps := ⟨tw_1377, twp_49, _, _, rfl⟩
theorem bn_X11_isRing (rm : Room) (h : rm.cells = 0 ∧ rm.slots = 0) : zBn yX11_isRing cX11_isRing 2 (some .boolean) rm 1 := ⟨tw_1386, tw_11, ⟨by decide +kernel, by decide +kernel, by decide +kernel⟩, h.1, h.2⟩
theorem vw_X11_isRing : zVw 10 yX11_isRing := ⟨tw_1385, twp_50, _, _, rfl⟩
theorem bn_X11_isPair (rm : Room) (h : rm.cells = 0 ∧ rm.slots = 0) : zBn yX11_isPair cX11_isPair 2 (some .boolean) rm 1 := ⟨tw_1462, tw_11, ⟨by decide +kernel, by decide +kernel, by decide +kernel⟩, h.1, h.2⟩
theorem vw_X11_isPair : zVw 10 yX11_isPair := ⟨tw_1461, twp_64, _, _, rfl⟩
theorem bn_X11_maySet (rm : Room) (h : rm.cells = 0 ∧ rm.slots = 0) : zBn yX11_maySet cX11_maySet 3 (some .boolean) rm 2 := ⟨tw_1374, tw_11, ⟨by decide +kernel, by decide +kernel, by decide +kernel⟩, h.1, h.2⟩
theorem vw_X11_maySet : zVw 10 yX11_maySet := ⟨tw_1373, twp_48, _, _, rfl⟩
theorem bn_X11_set (rm : Room) (h : rm.cells = 0 ∧ rm.slots = 0) : zBn yX11_set cX11_set 4 (some .int) rm 2 := ⟨tw_1370, tw_11, ⟨by decide +kernel, by decide +kernel, by decide +kernel⟩, h.1, h.2⟩
theorem vw_X11_set : zVw 10 yX11_set := ⟨tw_1368, tw_1369, _, _, rfl⟩
theorem bn_X11_wear (rm : Room) (h : rm.cells = 0 ∧ rm.slots = 0) : zBn yX11_wear cX11_wear 5 (some .int) rm 3 := ⟨tw_1382, tw_11, ⟨by decide +kernel, by decide +kernel, by decide +kernel⟩, h.1, h.2⟩
theorem vw_X11_wear : zVw 10 yX11_wear := ⟨tw_1380, tw_1381, _, _, rfl⟩
theorem bn_X11_secretBits (rm : Room) (h : rm.cells = 0 ∧ rm.slots = 0) : zBn yX11_secretBits cX11_secretBits 1 (some .int) rm 0 := ⟨tw_1447, tw_11, ⟨by decide +kernel, by decide +kernel, by decide +kernel⟩, h.1, h.2⟩
theorem vw_X11_secretBits : zVw 10 yX11_secretBits := ⟨tw_1446, twp_62, _, _, rfl⟩
theorem bn_X11_enrol (rm : Room) (h : rm.cells = 0 ∧ rm.slots = 0) : zBn yX11_enrol cX11_enrol 9 (some .int) rm 1 := ⟨tw_1390, tw_11, ⟨by decide +kernel, by decide +kernel, by decide +kernel⟩, h.1, h.2⟩
theorem vw_X11_enrol : zVw 10 yX11_enrol := ⟨tw_1388, tw_1389, _, _, rfl⟩
theorem bn_X11_heardAt (rm : Room) (h : rm.cells = 0 ∧ rm.slots = 0) : zBn yX11_heardAt cX11_heardAt 3 (some .int) rm 1 := ⟨tw_1466, tw_11, ⟨by decide +kernel, by decide +kernel, by decide +kernel⟩, h.1, h.2⟩
theorem vw_X11_heardAt : zVw 10 yX11_heardAt := ⟨tw_1465, twp_65, _, _, rfl⟩
theorem bn_X11_hear (rm : Room) (h : rm.cells = 0 ∧ rm.slots = 0) : zBn yX11_hear cX11_hear 3 (some .int) rm 1 := ⟨tw_1458, tw_11, ⟨by decide +kernel, by decide +kernel, by decide +kernel⟩, h.1, h.2⟩
theorem vw_X11_hear : zVw 10 yX11_hear := ⟨tw_1456, tw_1457, _, _, rfl⟩
theorem bn_X11_guessOf (rm : Room) (h : rm.cells = 0 ∧ rm.slots = 0) : zBn yX11_guessOf cX11_guessOf 2 (some .int) rm 1 := ⟨tw_1478, tw_11, ⟨by decide +kernel, by decide +kernel, by decide +kernel⟩, h.1, h.2⟩
theorem vw_X11_guessOf : zVw 10 yX11_guessOf := ⟨tw_1477, twp_67, _, _, rfl⟩
theorem bn_X11_epoch (rm : Room) (h : rm.cells = 0 ∧ rm.slots = 0) : zBn yX11_epoch cX11_epoch 5 (some .int) rm 0 := ⟨tw_1474, tw_11, ⟨by decide +kernel, by decide +kernel, by decide +kernel⟩, h.1, h.2⟩
theorem vw_X11_epoch : zVw 10 yX11_epoch := ⟨tw_1473, twp_66, _, _, rfl⟩
theorem bn_X11_train (rm : Room) (h : rm.cells = 0 ∧ rm.slots = 0) : zBn yX11_train cX11_train 4 (some .int) rm 1 := ⟨tw_1470, tw_11, ⟨by decide +kernel, by decide +kernel, by decide +kernel⟩, h.1, h.2⟩
theorem vw_X11_train : zVw 10 yX11_train := ⟨tw_1468, tw_1469, _, _, rfl⟩
theorem bn_X11_isKept (rm : Room) (h : rm.cells = 0 ∧ rm.slots = 0) : zBn yX11_isKept cX11_isKept 1 (some .boolean) rm 0 := ⟨tw_1486, tw_11, ⟨by decide +kernel, by decide +kernel, by decide +kernel⟩, h.1, h.2⟩
theorem vw_X11_isKept : zVw 10 yX11_isKept := ⟨tw_1485, twp_68, _, _, rfl⟩
theorem bn_X11_turn (rm : Room) (h : rm.cells = 0 ∧ rm.slots = 0) : zBn yX11_turn cX11_turn 2 (some .int) rm 1 := ⟨tw_1482, tw_11, ⟨by decide +kernel, by decide +kernel, by decide +kernel⟩, h.1, h.2⟩
theorem vw_X11_turn : zVw 10 yX11_turn := ⟨tw_1480, tw_1481, _, _, rfl⟩
theorem bn_X11_undo (rm : Room) (h : rm.cells = 0 ∧ rm.slots = 0) : zBn yX11_undo cX11_undo 2 (some .int) rm 0 := ⟨tw_1490, tw_11, ⟨by decide +kernel, by decide +kernel, by decide +kernel⟩, h.1, h.2⟩
theorem vw_X11_undo : zVw 10 yX11_undo := ⟨tw_1488, tw_1489, _, _, rfl⟩
theorem bn_X11_steadyMany (rm : Room) (h : rm.cells = 0 ∧ rm.slots = 0) : zBn yX11_steadyMany cX11_steadyMany 3 (some .int) rm 0 := ⟨tw_1498, tw_11, ⟨by decide +kernel, by decide +kernel, by decide +kernel⟩, h.1, h.2⟩
theorem vw_X11_steadyMany : zVw 10 yX11_steadyMany := ⟨tw_1497, twp_69, _, _, rfl⟩
theorem bn_X11_keptBits (rm : Room) (h : rm.cells = 0 ∧ rm.slots = 0) : zBn yX11_keptBits cX11_keptBits 1 (some .int) rm 0 := ⟨tw_1502, tw_11, ⟨by decide +kernel, by decide +kernel, by decide +kernel⟩, h.1, h.2⟩
theorem vw_X11_keptBits : zVw 10 yX11_keptBits := ⟨tw_1501, twp_70, _, _, rfl⟩
theorem bn_X11_told (rm : Room) (h : rm.cells = 0 ∧ rm.slots = 0) : zBn yX11_told cX11_told 3 (some .int) rm 1 := ⟨tw_1494, tw_11, ⟨by decide +kernel, by decide +kernel, by decide +kernel⟩, h.1, h.2⟩
theorem vw_X11_told : zVw 10 yX11_told := ⟨tw_1492, tw_1493, _, _, rfl⟩
theorem bn_X11_pairsWith (rm : Room) (h : rm.cells = 0 ∧ rm.slots = 0) : zBn yX11_pairsWith cX11_pairsWith 4 (some .int) rm 1 := ⟨tw_1510, tw_11, ⟨by decide +kernel, by decide +kernel, by decide +kernel⟩, h.1, h.2⟩
theorem vw_X11_pairsWith : zVw 10 yX11_pairsWith := ⟨tw_1509, twp_71, _, _, rfl⟩
theorem bn_X11_ring (rm : Room) (h : rm.cells = 0 ∧ rm.slots = 0) : zBn yX11_ring cX11_ring 3 (some .int) rm 2 := ⟨tw_1506, tw_11, ⟨by decide +kernel, by decide +kernel, by decide +kernel⟩, h.1, h.2⟩
theorem vw_X11_ring : zVw 10 yX11_ring := ⟨tw_1504, tw_1505, _, _, rfl⟩
theorem bn_X11_isHeat (rm : Room) (h : rm.cells = 0 ∧ rm.slots = 0) : zBn yX11_isHeat cX11_isHeat 2 (some .boolean) rm 1 := ⟨tw_1518, tw_11, ⟨by decide +kernel, by decide +kernel, by decide +kernel⟩, h.1, h.2⟩
theorem vw_X11_isHeat : zVw 10 yX11_isHeat := ⟨tw_1517, twp_72, _, _, rfl⟩
theorem bn_X11_speed (rm : Room) (h : rm.cells = 0 ∧ rm.slots = 0) : zBn yX11_speed cX11_speed 3 (some .int) rm 2 := ⟨tw_1514, tw_11, ⟨by decide +kernel, by decide +kernel, by decide +kernel⟩, h.1, h.2⟩
theorem vw_X11_speed : zVw 10 yX11_speed := ⟨tw_1512, tw_1513, _, _, rfl⟩
theorem bn_X11_rank (rm : Room) (h : rm.cells = 0 ∧ rm.slots = 0) : zBn yX11_rank cX11_rank 6 (some .int) rm 2 := ⟨tw_1522, tw_11, ⟨by decide +kernel, by decide +kernel, by decide +kernel⟩, h.1, h.2⟩
theorem vw_X11_rank : zVw 10 yX11_rank := ⟨tw_1520, tw_1521, _, _, rfl⟩
theorem bn_X11_blockOf (rm : Room) (h : rm.cells = 0 ∧ rm.slots = 0) : zBn yX11_blockOf cX11_blockOf 4 (some .int) rm 1 := ⟨tw_1534, tw_11, ⟨by decide +kernel, by decide +kernel, by decide +kernel⟩, h.1, h.2⟩
theorem vw_X11_blockOf : zVw 10 yX11_blockOf := ⟨tw_1533, twp_74, _, _, rfl⟩
theorem bn_X11_keptAt (rm : Room) (h : rm.cells = 0 ∧ rm.slots = 0) : zBn yX11_keptAt cX11_keptAt 3 (some .int) rm 1 := ⟨tw_1530, tw_11, ⟨by decide +kernel, by decide +kernel, by decide +kernel⟩, h.1, h.2⟩
theorem vw_X11_keptAt : zVw 10 yX11_keptAt := ⟨tw_1529, twp_73, _, _, rfl⟩
theorem bn_X11_pair (rm : Room) (h : rm.cells = 0 ∧ rm.slots = 0) : zBn yX11_pair cX11_pair 5 (some .int) rm 2 := ⟨tw_1526, tw_11, ⟨by decide +kernel, by decide +kernel, by decide +kernel⟩, h.1, h.2⟩
theorem vw_X11_pair : zVw 10 yX11_pair := ⟨tw_1524, tw_1525, _, _, rfl⟩
theorem bn_X11_bit (rm : Room) (h : rm.cells = 0 ∧ rm.slots = 0) : zBn yX11_bit cX11_bit 3 (some .int) rm 2 := ⟨tw_1566, tw_11, ⟨by decide +kernel, by decide +kernel, by decide +kernel⟩, h.1, h.2⟩
theorem vw_X11_bit : zVw 10 yX11_bit := ⟨tw_1564, tw_1565, _, _, rfl⟩
theorem bn_X11_flips (rm : Room) (h : rm.cells = 0 ∧ rm.slots = 0) : zBn yX11_flips cX11_flips 6 (some .int) rm 2 := ⟨tw_1570, tw_11, ⟨by decide +kernel, by decide +kernel, by decide +kernel⟩, h.1, h.2⟩
theorem vw_X11_flips : zVw 10 yX11_flips := ⟨tw_1568, tw_1569, _, _, rfl⟩
theorem bn_X11_common (rm : Room) (h : rm.cells = 0 ∧ rm.slots = 0) : zBn yX11_common cX11_common 2 (some .int) rm 2 := ⟨tw_1577, tw_11, ⟨by decide +kernel, by decide +kernel, by decide +kernel⟩, h.1, h.2⟩
theorem bn_X11_odds (rm : Room) (h : rm.cells = 0 ∧ rm.slots = 0) : zBn yX11_odds cX11_odds 9 (some .int) rm 3 := ⟨tw_1574, tw_11, ⟨by decide +kernel, by decide +kernel, by decide +kernel⟩, h.1, h.2⟩
theorem vw_X11_odds : zVw 10 yX11_odds := ⟨tw_1572, tw_1573, _, _, rfl⟩
theorem bn_X11_block (rm : Room) (h : rm.cells = 0 ∧ rm.slots = 0) : zBn yX11_block cX11_block 4 (some .int) rm 2 := ⟨tw_1581, tw_11, ⟨by decide +kernel, by decide +kernel, by decide +kernel⟩, h.1, h.2⟩
theorem vw_X11_block : zVw 10 yX11_block := ⟨tw_1579, tw_1580, _, _, rfl⟩
theorem bn_X11_drawn (rm : Room) (h : rm.cells = 0 ∧ rm.slots = 0) : zBn yX11_drawn cX11_drawn 5 (some .int) rm 2 := ⟨tw_1594, tw_11, ⟨by decide +kernel, by decide +kernel, by decide +kernel⟩, h.1, h.2⟩
theorem vw_X11_drawn : zVw 10 yX11_drawn := ⟨tw_1593, twp_83, _, _, rfl⟩
theorem bn_X11_readsAll (rm : Room) (h : rm.cells = 0 ∧ rm.slots = 0) : zBn yX11_readsAll cX11_readsAll 10 none rm 1 := ⟨tw_1590, tw_11, ⟨by decide +kernel, by decide +kernel, by decide +kernel⟩, h.1, h.2⟩
theorem vw_X11_readsAll : zVw 10 yX11_readsAll := ⟨tw_1589, twp_82, _, _, rfl⟩
theorem bn_X11_isRefused (rm : Room) (h : rm.cells = 0 ∧ rm.slots = 0) : zBn yX11_isRefused cX11_isRefused 1 (some .boolean) rm 0 := ⟨tw_1603, tw_11, ⟨by decide +kernel, by decide +kernel, by decide +kernel⟩, h.1, h.2⟩
theorem vw_X11_isRefused : zVw 10 yX11_isRefused := ⟨tw_1602, twp_85, _, _, rfl⟩
theorem bn_X11_recover (rm : Room) (h : rm.cells = 0 ∧ rm.slots = 0) : zBn yX11_recover cX11_recover 4 (some .int) rm 3 := ⟨tw_1585, tw_11, ⟨by decide +kernel, by decide +kernel, by decide +kernel⟩, h.1, h.2⟩
theorem vw_X11_recover : zVw 10 yX11_recover := ⟨tw_1583, tw_1584, _, _, rfl⟩
theorem bn_X11_fails (rm : Room) (h : rm.cells = 0 ∧ rm.slots = 0) : zBn yX11_fails cX11_fails 9 (some .int) rm 4 := ⟨tw_1607, tw_11, ⟨by decide +kernel, by decide +kernel, by decide +kernel⟩, h.1, h.2⟩
theorem vw_X11_fails : zVw 10 yX11_fails := ⟨tw_1605, tw_1606, _, _, rfl⟩
theorem bn_X11_isShaky (rm : Room) (h : rm.cells = 0 ∧ rm.slots = 0) : zBn yX11_isShaky cX11_isShaky 7 (some .boolean) rm 2 := ⟨tw_1628, tw_11, ⟨by decide +kernel, by decide +kernel, by decide +kernel⟩, h.1, h.2⟩
theorem vw_X11_isShaky : zVw 10 yX11_isShaky := ⟨tw_1627, twp_89, _, _, rfl⟩
theorem bn_X11_isSafe (rm : Room) (h : rm.cells = 0 ∧ rm.slots = 0) : zBn yX11_isSafe cX11_isSafe 6 (some .boolean) rm 2 := ⟨tw_1624, tw_11, ⟨by decide +kernel, by decide +kernel, by decide +kernel⟩, h.1, h.2⟩
theorem vw_X11_isSafe : zVw 10 yX11_isSafe := ⟨tw_1623, twp_88, _, _, rfl⟩
theorem bn_X11_keptBlocks (rm : Room) (h : rm.cells = 0 ∧ rm.slots = 0) : zBn yX11_keptBlocks cX11_keptBlocks 1 (some .int) rm 0 := ⟨tw_1620, tw_11, ⟨by decide +kernel, by decide +kernel, by decide +kernel⟩, h.1, h.2⟩
theorem vw_X11_keptBlocks : zVw 10 yX11_keptBlocks := ⟨tw_1619, twp_87, _, _, rfl⟩
theorem bn_X11_firstUnsafe (rm : Room) (h : rm.cells = 0 ∧ rm.slots = 0) : zBn yX11_firstUnsafe cX11_firstUnsafe 3 (some .int) rm 1 := ⟨tw_1616, tw_11, ⟨by decide +kernel, by decide +kernel, by decide +kernel⟩, h.1, h.2⟩
theorem vw_X11_firstUnsafe : zVw 10 yX11_firstUnsafe := ⟨tw_1615, twp_86, _, _, rfl⟩
theorem bn_X11_safe (rm : Room) (h : rm.cells = 0 ∧ rm.slots = 0) : zBn yX11_safe cX11_safe 5 (some .int) rm 2 := ⟨tw_1612, tw_11, ⟨by decide +kernel, by decide +kernel, by decide +kernel⟩, h.1, h.2⟩
theorem vw_X11_safe : zVw 10 yX11_safe := ⟨tw_1610, tw_1611, _, _, rfl⟩
theorem bn_X11_range (rm : Room) (h : rm.cells = 0 ∧ rm.slots = 0) : zBn yX11_range cX11_range 4 (some .int) rm 1 := ⟨tw_1632, tw_11, ⟨by decide +kernel, by decide +kernel, by decide +kernel⟩, h.1, h.2⟩
theorem vw_X11_range : zVw 10 yX11_range := ⟨tw_1630, tw_1631, _, _, rfl⟩
theorem bn_X11_guardFor (rm : Room) (h : rm.cells = 0 ∧ rm.slots = 0) : zBn yX11_guardFor cX11_guardFor 3 (some .int) rm 1 := ⟨tw_1636, tw_11, ⟨by decide +kernel, by decide +kernel, by decide +kernel⟩, h.1, h.2⟩
theorem vw_X11_guardFor : zVw 10 yX11_guardFor := ⟨tw_1634, tw_1635, _, _, rfl⟩
theorem bn_X11_noOrder (rm : Room) (h : rm.cells = 0 ∧ rm.slots = 0) : zBn yX11_noOrder cX11_noOrder 2 none rm 0 := ⟨tw_1546, tw_11, ⟨by decide +kernel, by decide +kernel, by decide +kernel⟩, h.1, h.2⟩
theorem vw_X11_noOrder : zVw 10 yX11_noOrder := ⟨tw_1545, twp_77, _, _, rfl⟩
theorem bn_X11_puts_ (rm : Room) (h : rm.cells = 0 ∧ rm.slots = 0) : zBn yX11_puts_ cX11_puts_ 5 none rm 2 := ⟨tw_1554, tw_11, ⟨by decide +kernel, by decide +kernel, by decide +kernel⟩, h.1, h.2⟩
theorem vw_X11_puts_ : zVw 10 yX11_puts_ := ⟨tw_1553, twp_79, _, _, rfl⟩
theorem bn_X11_closes (rm : Room) (h : rm.cells = 0 ∧ rm.slots = 0) : zBn yX11_closes cX11_closes 3 none rm 0 := ⟨tw_1558, tw_11, ⟨by decide +kernel, by decide +kernel, by decide +kernel⟩, h.1, h.2⟩
theorem vw_X11_closes : zVw 10 yX11_closes := ⟨tw_1557, twp_80, _, _, rfl⟩
theorem bn_X11_isRound (rm : Room) (h : rm.cells = 0 ∧ rm.slots = 0) : zBn yX11_isRound cX11_isRound 2 (some .boolean) rm 0 := ⟨tw_1683, tw_11, ⟨by decide +kernel, by decide +kernel, by decide +kernel⟩, h.1, h.2⟩
theorem vw_X11_isRound : zVw 10 yX11_isRound := ⟨tw_1682, twp_98, _, _, rfl⟩
theorem bn_X11_putsHeard (rm : Room) (h : rm.cells = 0 ∧ rm.slots = 0) : zBn yX11_putsHeard cX11_putsHeard 2 none rm 0 := ⟨tw_1550, tw_11, ⟨by decide +kernel, by decide +kernel, by decide +kernel⟩, h.1, h.2⟩
theorem vw_X11_putsHeard : zVw 10 yX11_putsHeard := ⟨tw_1549, twp_78, _, _, rfl⟩
theorem bn_X11_follows (rm : Room) (h : rm.cells = 0 ∧ rm.slots = 0) : zBn yX11_follows cX11_follows 4 (some .int) rm 1 := ⟨tw_1562, tw_11, ⟨by decide +kernel, by decide +kernel, by decide +kernel⟩, h.1, h.2⟩
theorem vw_X11_follows : zVw 10 yX11_follows := ⟨tw_1561, twp_81, _, _, rfl⟩
theorem bn_X11_laysHeard (rm : Room) (h : rm.cells = 0 ∧ rm.slots = 0) : zBn yX11_laysHeard cX11_laysHeard 1 none rm 0 := ⟨tw_1542, tw_11, ⟨by decide +kernel, by decide +kernel, by decide +kernel⟩, h.1, h.2⟩
theorem vw_X11_laysHeard : zVw 10 yX11_laysHeard := ⟨tw_1541, twp_76, _, _, rfl⟩
theorem bn_X11_followsNow (rm : Room) (h : rm.cells = 0 ∧ rm.slots = 0) : zBn yX11_followsNow cX11_followsNow 2 (some .int) rm 1 := ⟨tw_1538, tw_11, ⟨by decide +kernel, by decide +kernel, by decide +kernel⟩, h.1, h.2⟩
theorem vw_X11_followsNow : zVw 10 yX11_followsNow := ⟨tw_1537, twp_75, _, _, rfl⟩
theorem bn_X11_followMany (rm : Room) (h : rm.cells = 0 ∧ rm.slots = 0) : zBn yX11_followMany cX11_followMany 3 (some .int) rm 0 := ⟨tw_1707, tw_11, ⟨by decide +kernel, by decide +kernel, by decide +kernel⟩, h.1, h.2⟩
theorem vw_X11_followMany : zVw 10 yX11_followMany := ⟨tw_1706, twp_101, _, _, rfl⟩
theorem bn_X11_waysOf (rm : Room) (h : rm.cells = 0 ∧ rm.slots = 0) : zBn yX11_waysOf cX11_waysOf 5 (some .long) rm 0 := ⟨tw_1652, tw_11, ⟨by decide +kernel, by decide +kernel, by decide +kernel⟩, h.1, h.2⟩
theorem vw_X11_waysOf : zVw 10 yX11_waysOf := ⟨tw_1651, twp_92, _, _, rfl⟩
theorem bn_X11_isApart (rm : Room) (h : rm.cells = 0 ∧ rm.slots = 0) : zBn yX11_isApart cX11_isApart 3 (some .boolean) rm 1 := ⟨tw_1656, tw_11, ⟨by decide +kernel, by decide +kernel, by decide +kernel⟩, h.1, h.2⟩
theorem vw_X11_isApart : zVw 10 yX11_isApart := ⟨tw_1655, twp_93, _, _, rfl⟩
theorem bn_X11_many (rm : Room) (h : rm.cells = 0 ∧ rm.slots = 0) : zBn yX11_many cX11_many 3 (some .int) rm 1 := ⟨tw_1659, tw_11, ⟨by decide +kernel, by decide +kernel, by decide +kernel⟩, h.1, h.2⟩
theorem bn_X11_compares (rm : Room) (h : rm.cells = 0 ∧ rm.slots = 0) : zBn yX11_compares cX11_compares 2 none rm 1 := ⟨tw_1648, tw_11, ⟨by decide +kernel, by decide +kernel, by decide +kernel⟩, h.1, h.2⟩
theorem vw_X11_compares : zVw 10 yX11_compares := ⟨tw_1647, twp_91, _, _, rfl⟩
theorem bn_X11_waysBy (rm : Room) (h : rm.cells = 0 ∧ rm.slots = 0) : zBn yX11_waysBy cX11_waysBy 4 (some .long) rm 1 := ⟨tw_1644, tw_11, ⟨by decide +kernel, by decide +kernel, by decide +kernel⟩, h.1, h.2⟩
theorem vw_X11_waysBy : zVw 10 yX11_waysBy := ⟨tw_1643, twp_90, _, _, rfl⟩
theorem bn_X11_ways (rm : Room) (h : rm.cells = 0 ∧ rm.slots = 0) : zBn yX11_ways cX11_ways 2 (some .long) rm 1 := ⟨tw_1640, tw_11, ⟨by decide +kernel, by decide +kernel, by decide +kernel⟩, h.1, h.2⟩
theorem vw_X11_ways : zVw 10 yX11_ways := ⟨tw_1638, tw_1639, _, _, rfl⟩
theorem bn_X11_sure (rm : Room) (h : rm.cells = 0 ∧ rm.slots = 0) : zBn yX11_sure cX11_sure 4 (some .int) rm 0 := ⟨tw_1667, tw_11, ⟨by decide +kernel, by decide +kernel, by decide +kernel⟩, h.1, h.2⟩
theorem vw_X11_sure : zVw 10 yX11_sure := ⟨tw_1666, twp_94, _, _, rfl⟩
theorem bn_X11_leaks (rm : Room) (h : rm.cells = 0 ∧ rm.slots = 0) : zBn yX11_leaks cX11_leaks 1 (some .int) rm 0 := ⟨tw_1671, tw_11, ⟨by decide +kernel, by decide +kernel, by decide +kernel⟩, h.1, h.2⟩
theorem vw_X11_leaks : zVw 10 yX11_leaks := ⟨tw_1670, twp_95, _, _, rfl⟩
theorem bn_X11_canBe (rm : Room) (h : rm.cells = 0 ∧ rm.slots = 0) : zBn yX11_canBe cX11_canBe 7 (some .boolean) rm 2 := ⟨tw_1679, tw_11, ⟨by decide +kernel, by decide +kernel, by decide +kernel⟩, h.1, h.2⟩
theorem vw_X11_canBe : zVw 10 yX11_canBe := ⟨tw_1678, twp_97, _, _, rfl⟩
theorem bn_X11_left (rm : Room) (h : rm.cells = 0 ∧ rm.slots = 0) : zBn yX11_left cX11_left 5 (some .int) rm 1 := ⟨tw_1675, tw_11, ⟨by decide +kernel, by decide +kernel, by decide +kernel⟩, h.1, h.2⟩
theorem vw_X11_left : zVw 10 yX11_left := ⟨tw_1674, twp_96, _, _, rfl⟩
theorem bn_X11_leak (rm : Room) (h : rm.cells = 0 ∧ rm.slots = 0) : zBn yX11_leak cX11_leak 2 (some .int) rm 1 := ⟨tw_1663, tw_11, ⟨by decide +kernel, by decide +kernel, by decide +kernel⟩, h.1, h.2⟩
theorem vw_X11_leak : zVw 10 yX11_leak := ⟨tw_1661, tw_1662, _, _, rfl⟩
theorem bn_X11_success (rm : Room) (h : rm.cells = 0 ∧ rm.slots = 0) : zBn yX11_success cX11_success 6 (some .int) rm 1 := ⟨tw_1687, tw_11, ⟨by decide +kernel, by decide +kernel, by decide +kernel⟩, h.1, h.2⟩
theorem vw_X11_success : zVw 10 yX11_success := ⟨tw_1685, tw_1686, _, _, rfl⟩
theorem bn_X11_curve (rm : Room) (h : rm.cells = 0 ∧ rm.slots = 0) : zBn yX11_curve cX11_curve 7 (some .int) rm 2 := ⟨tw_1691, tw_11, ⟨by decide +kernel, by decide +kernel, by decide +kernel⟩, h.1, h.2⟩
theorem vw_X11_curve : zVw 10 yX11_curve := ⟨tw_1689, tw_1690, _, _, rfl⟩
theorem bn_X11_wouldFollow (rm : Room) (h : rm.cells = 0 ∧ rm.slots = 0) : zBn yX11_wouldFollow cX11_wouldFollow 3 (some .int) rm 2 := ⟨tw_1703, tw_11, ⟨by decide +kernel, by decide +kernel, by decide +kernel⟩, h.1, h.2⟩
theorem vw_X11_wouldFollow : zVw 10 yX11_wouldFollow := ⟨tw_1702, twp_100, _, _, rfl⟩
theorem bn_X11_nextNow (rm : Room) (h : rm.cells = 0 ∧ rm.slots = 0) : zBn yX11_nextNow cX11_nextNow 5 (some .int) rm 0 := ⟨tw_1699, tw_11, ⟨by decide +kernel, by decide +kernel, by decide +kernel⟩, h.1, h.2⟩
theorem vw_X11_nextNow : zVw 10 yX11_nextNow := ⟨tw_1698, twp_99, _, _, rfl⟩
theorem bn_X11_nextPair (rm : Room) (h : rm.cells = 0 ∧ rm.slots = 0) : zBn yX11_nextPair cX11_nextPair 1 (some .int) rm 0 := ⟨tw_1695, tw_11, ⟨by decide +kernel, by decide +kernel, by decide +kernel⟩, h.1, h.2⟩
theorem vw_X11_nextPair : zVw 10 yX11_nextPair := ⟨tw_1693, tw_1694, _, _, rfl⟩
theorem bn_X11_needs (rm : Room) (h : rm.cells = 0 ∧ rm.slots = 0) : zBn yX11_needs cX11_needs 4 (some .int) rm 0 := ⟨tw_1711, tw_11, ⟨by decide +kernel, by decide +kernel, by decide +kernel⟩, h.1, h.2⟩
theorem vw_X11_needs : zVw 10 yX11_needs := ⟨tw_1709, tw_1710, _, _, rfl⟩
theorem bn_X11_print (rm : Room) (h : rm.cells = 0 ∧ rm.slots = 0) : zBn yX11_print cX11_print 4 (some .long) rm 0 := ⟨tw_1715, tw_11, ⟨by decide +kernel, by decide +kernel, by decide +kernel⟩, h.1, h.2⟩
theorem vw_X11_print : zVw 10 yX11_print := ⟨tw_1713, tw_1714, _, _, rfl⟩
theorem bn_X11_status (rm : Room) (h : rm.cells = 0 ∧ rm.slots = 0) : zBn yX11_status cX11_status 2 (some .int) rm 1 := ⟨tw_1720, tw_11, ⟨by decide +kernel, by decide +kernel, by decide +kernel⟩, h.1, h.2⟩
theorem vw_X11_status : zVw 10 yX11_status := ⟨tw_1718, tw_1719, _, _, rfl⟩
theorem bn_J6_bitCount_0f7a4 (rm : Room) (h : rm.cells = 0 ∧ rm.slots = 0) : zBn yJ6_bitCount_0f7a4 cJ6_bitCount_0f7a4 1 (some .int) rm 1 := ⟨tw_768, tw_24, ⟨by decide +kernel, by decide +kernel, by decide +kernel⟩, h.1, h.2⟩
theorem zwm : zwM := ⟨zmem 16 (by decide +kernel) rfl, zmem 776 (by decide +kernel) rfl, zmem 777 (by decide +kernel) rfl, zmem 407 (by decide +kernel) rfl, zmem 408 (by decide +kernel) rfl⟩
theorem zwc : Cond.native arraycopyName ∈ zTW ∧ Cond.static arraycopyName ∈ zTW ∧ Cond.initialized "java/lang/System" ∈ zTW := ⟨zmem 404 (by decide +kernel) rfl, zmem 403 (by decide +kernel) rfl, zmem 22 (by decide +kernel) rfl⟩
theorem wn_RX3_34 : (RX3, 34, yX10_bitIn, "SlipSecret") ∈ zNest := List.mem_of_getElem? (i := 9) (by decide +kernel)
theorem wn_RX4_21 : (RX4, 21, yX10_bitIn, "SlipSecret") ∈ zNest := List.mem_of_getElem? (i := 10) (by decide +kernel)
theorem wn_RX0_30 : (RX0, 30, yX10_bitIn, "SlipSecret") ∈ zNest := List.mem_of_getElem? (i := 11) (by decide +kernel)
theorem wn_RX1_67 : (RX1, 67, yX10_bitIn, "SlipSecret") ∈ zNest := List.mem_of_getElem? (i := 12) (by decide +kernel)
theorem wn_RX6_86 : (RX6, 86, yX10_bitIn, "SlipSecret") ∈ zNest := List.mem_of_getElem? (i := 13) (by decide +kernel)
theorem wn_RX9_39 : (RX9, 39, yX10_bitIn, "SlipSecret") ∈ zNest := List.mem_of_getElem? (i := 14) (by decide +kernel)
theorem wn_RX2_78 : (RX2, 78, yX10_bitIn, "SlipSecret") ∈ zNest := List.mem_of_getElem? (i := 15) (by decide +kernel)
theorem ws_RX10_362 : (RX10, 362, zStr[0].2.2.1, zStr[0].2.2.2) ∈ zStr := List.mem_of_getElem? (i := 0) (by decide +kernel)
theorem ws_RX8_56 : (RX8, 56, zStr[1].2.2.1, zStr[1].2.2.2) ∈ zStr := List.mem_of_getElem? (i := 1) (by decide +kernel)
theorem ws_RX8_66 : (RX8, 66, zStr[2].2.2.1, zStr[2].2.2.2) ∈ zStr := List.mem_of_getElem? (i := 2) (by decide +kernel)
theorem ws_RX8_71 : (RX8, 71, zStr[3].2.2.1, zStr[3].2.2.2) ∈ zStr := List.mem_of_getElem? (i := 3) (by decide +kernel)
theorem ws_RX8_79 : (RX8, 79, zStr[4].2.2.1, zStr[4].2.2.2) ∈ zStr := List.mem_of_getElem? (i := 4) (by decide +kernel)
theorem ws_RX8_84 : (RX8, 84, zStr[5].2.2.1, zStr[5].2.2.2) ∈ zStr := List.mem_of_getElem? (i := 5) (by decide +kernel)
theorem ws_RX8_86 : (RX8, 86, zStr[6].2.2.1, zStr[6].2.2.2) ∈ zStr := List.mem_of_getElem? (i := 6) (by decide +kernel)
theorem ws_RX8_91 : (RX8, 91, zStr[7].2.2.1, zStr[7].2.2.2) ∈ zStr := List.mem_of_getElem? (i := 7) (by decide +kernel)
theorem ws_RX10_374 : (RX10, 374, zStr[8].2.2.1, zStr[8].2.2.2) ∈ zStr := List.mem_of_getElem? (i := 8) (by decide +kernel)
theorem ws_RX10_369 : (RX10, 369, zStr[9].2.2.1, zStr[9].2.2.2) ∈ zStr := List.mem_of_getElem? (i := 9) (by decide +kernel)
theorem ws_RX11_187 : (RX11, 187, zStr[10].2.2.1, zStr[10].2.2.2) ∈ zStr := List.mem_of_getElem? (i := 10) (by decide +kernel)
theorem ws_RX11_196 : (RX11, 196, zStr[11].2.2.1, zStr[11].2.2.2) ∈ zStr := List.mem_of_getElem? (i := 11) (by decide +kernel)
theorem ws_RX11_201 : (RX11, 201, zStr[12].2.2.1, zStr[12].2.2.2) ∈ zStr := List.mem_of_getElem? (i := 12) (by decide +kernel)
theorem ws_RX11_203 : (RX11, 203, zStr[13].2.2.1, zStr[13].2.2.2) ∈ zStr := List.mem_of_getElem? (i := 13) (by decide +kernel)
theorem ws_RX11_208 : (RX11, 208, zStr[14].2.2.1, zStr[14].2.2.2) ∈ zStr := List.mem_of_getElem? (i := 14) (by decide +kernel)
theorem ws_RX11_210 : (RX11, 210, zStr[15].2.2.1, zStr[15].2.2.2) ∈ zStr := List.mem_of_getElem? (i := 15) (by decide +kernel)
theorem ws_RX11_215 : (RX11, 215, zStr[16].2.2.1, zStr[16].2.2.2) ∈ zStr := List.mem_of_getElem? (i := 16) (by decide +kernel)
end
section
theorem dX6_speedOf_0 : decode cX6_speedOf 0 = .ok (.aload_n 0, 1) := by decide +kernel
theorem dX6_speedOf_1 : decode cX6_speedOf 1 = .ok (.getfield 9, 3) := by decide +kernel
theorem dX6_speedOf_4 : decode cX6_speedOf 4 = .ok (.iload_n 1, 1) := by decide +kernel
theorem dX6_speedOf_5 : decode cX6_speedOf 5 = .ok (.iaload, 1) := by decide +kernel
theorem dX6_speedOf_6 : decode cX6_speedOf 6 = .ok (.aload_n 0, 1) := by decide +kernel
theorem dX6_speedOf_7 : decode cX6_speedOf 7 = .ok (.getfield 15, 3) := by decide +kernel
theorem dX6_speedOf_10 : decode cX6_speedOf 10 = .ok (.iload_n 1, 1) := by decide +kernel
theorem dX6_speedOf_11 : decode cX6_speedOf 11 = .ok (.iaload, 1) := by decide +kernel
theorem dX6_speedOf_12 : decode cX6_speedOf 12 = .ok (.iload_n 2, 1) := by decide +kernel
theorem dX6_speedOf_13 : decode cX6_speedOf 13 = .ok (.bipush 20, 2) := by decide +kernel
theorem dX6_speedOf_15 : decode cX6_speedOf 15 = .ok (.isub, 1) := by decide +kernel
theorem dX6_speedOf_16 : decode cX6_speedOf 16 = .ok (.imul, 1) := by decide +kernel
theorem dX6_speedOf_17 : decode cX6_speedOf 17 = .ok (.bipush 10, 2) := by decide +kernel
theorem dX6_speedOf_19 : decode cX6_speedOf 19 = .ok (.idiv, 1) := by decide +kernel
theorem dX6_speedOf_20 : decode cX6_speedOf 20 = .ok (.iadd, 1) := by decide +kernel
theorem dX6_speedOf_21 : decode cX6_speedOf 21 = .ok (.ireturn, 1) := by decide +kernel
theorem dX6_bitFrom_36 : decode cX6_bitFrom 36 = .ok (.ireturn, 1) := by decide +kernel
theorem dX6_bitFrom_35 : decode cX6_bitFrom 35 = .ok (.iconst 0, 1) := by decide +kernel
theorem dX6_bitFrom_26 : decode cX6_bitFrom 26 = .ok (.iload_n 2, 1) := by decide +kernel
theorem dX6_bitFrom_27 : decode cX6_bitFrom 27 = .ok (.iload_n 3, 1) := by decide +kernel
theorem dX6_bitFrom_28 : decode cX6_bitFrom 28 = .ok (.if_icmp .le 7, 3) := by decide +kernel
theorem dX6_bitFrom_31 : decode cX6_bitFrom 31 = .ok (.iconst 1, 1) := by decide +kernel
theorem dX6_bitFrom_32 : decode cX6_bitFrom 32 = .ok (.goto 4, 3) := by decide +kernel
theorem dX6_bitFrom_25 : decode cX6_bitFrom 25 = .ok (.ireturn, 1) := by decide +kernel
theorem dX6_bitFrom_24 : decode cX6_bitFrom 24 = .ok (.iconst 0, 1) := by decide +kernel
theorem dX6_bitFrom_0 : decode cX6_bitFrom 0 = .ok (.iload_n 2, 1) := by decide +kernel
theorem dX6_bitFrom_1 : decode cX6_bitFrom 1 = .ok (.iload_n 3, 1) := by decide +kernel
theorem dX6_bitFrom_2 : decode cX6_bitFrom 2 = .ok (.if_icmp .ne 24, 3) := by decide +kernel
theorem dX6_bitFrom_5 : decode cX6_bitFrom 5 = .ok (.aload_n 0, 1) := by decide +kernel
theorem dX6_bitFrom_6 : decode cX6_bitFrom 6 = .ok (.getfield 21, 3) := by decide +kernel
theorem dX6_bitFrom_9 : decode cX6_bitFrom 9 = .ok (.iload_n 1, 1) := by decide +kernel
theorem dX6_bitFrom_10 : decode cX6_bitFrom 10 = .ok (.iaload, 1) := by decide +kernel
theorem dX6_bitFrom_11 : decode cX6_bitFrom 11 = .ok (.aload_n 0, 1) := by decide +kernel
theorem dX6_bitFrom_12 : decode cX6_bitFrom 12 = .ok (.getfield 24, 3) := by decide +kernel
theorem dX6_bitFrom_15 : decode cX6_bitFrom 15 = .ok (.iload_n 1, 1) := by decide +kernel
theorem dX6_bitFrom_16 : decode cX6_bitFrom 16 = .ok (.iaload, 1) := by decide +kernel
theorem dX6_bitFrom_17 : decode cX6_bitFrom 17 = .ok (.if_icmp .ge 7, 3) := by decide +kernel
theorem dX6_bitFrom_20 : decode cX6_bitFrom 20 = .ok (.iconst 1, 1) := by decide +kernel
theorem dX6_bitFrom_21 : decode cX6_bitFrom 21 = .ok (.goto 4, 3) := by decide +kernel
theorem dX6_bitAt_0 : decode cX6_bitAt 0 = .ok (.aload_n 0, 1) := by decide +kernel
theorem dX6_bitAt_1 : decode cX6_bitAt 1 = .ok (.iload_n 1, 1) := by decide +kernel
theorem dX6_bitAt_2 : decode cX6_bitAt 2 = .ok (.aload_n 0, 1) := by decide +kernel
theorem dX6_bitAt_3 : decode cX6_bitAt 3 = .ok (.aload_n 0, 1) := by decide +kernel
theorem dX6_bitAt_4 : decode cX6_bitAt 4 = .ok (.getfield 21, 3) := by decide +kernel
theorem dX6_bitAt_7 : decode cX6_bitAt 7 = .ok (.iload_n 1, 1) := by decide +kernel
theorem dX6_bitAt_8 : decode cX6_bitAt 8 = .ok (.iaload, 1) := by decide +kernel
theorem dX6_bitAt_9 : decode cX6_bitAt 9 = .ok (.iload_n 2, 1) := by decide +kernel
theorem dX6_bitAt_10 : decode cX6_bitAt 10 = .ok (.invokevirtual 43, 3) := by decide +kernel
theorem dX6_bitAt_13 : decode cX6_bitAt 13 = .ok (.aload_n 0, 1) := by decide +kernel
theorem dX6_bitAt_14 : decode cX6_bitAt 14 = .ok (.aload_n 0, 1) := by decide +kernel
theorem dX6_bitAt_15 : decode cX6_bitAt 15 = .ok (.getfield 24, 3) := by decide +kernel
theorem dX6_bitAt_18 : decode cX6_bitAt 18 = .ok (.iload_n 1, 1) := by decide +kernel
theorem dX6_bitAt_19 : decode cX6_bitAt 19 = .ok (.iaload, 1) := by decide +kernel
theorem dX6_bitAt_20 : decode cX6_bitAt 20 = .ok (.iload_n 2, 1) := by decide +kernel
theorem dX6_bitAt_21 : decode cX6_bitAt 21 = .ok (.invokevirtual 43, 3) := by decide +kernel
theorem dX6_bitAt_24 : decode cX6_bitAt 24 = .ok (.invokevirtual 47, 3) := by decide +kernel
theorem dX6_bitAt_27 : decode cX6_bitAt 27 = .ok (.ireturn, 1) := by decide +kernel
theorem dX6_bitOf_0 : decode cX6_bitOf 0 = .ok (.aload_n 0, 1) := by decide +kernel
theorem dX6_bitOf_1 : decode cX6_bitOf 1 = .ok (.iload_n 1, 1) := by decide +kernel
theorem dX6_bitOf_2 : decode cX6_bitOf 2 = .ok (.aload_n 0, 1) := by decide +kernel
theorem dX6_bitOf_3 : decode cX6_bitOf 3 = .ok (.getfield 9, 3) := by decide +kernel
theorem dX6_bitOf_6 : decode cX6_bitOf 6 = .ok (.aload_n 0, 1) := by decide +kernel
theorem dX6_bitOf_7 : decode cX6_bitOf 7 = .ok (.getfield 21, 3) := by decide +kernel
theorem dX6_bitOf_10 : decode cX6_bitOf 10 = .ok (.iload_n 1, 1) := by decide +kernel
theorem dX6_bitOf_11 : decode cX6_bitOf 11 = .ok (.iaload, 1) := by decide +kernel
theorem dX6_bitOf_12 : decode cX6_bitOf 12 = .ok (.iaload, 1) := by decide +kernel
theorem dX6_bitOf_13 : decode cX6_bitOf 13 = .ok (.aload_n 0, 1) := by decide +kernel
theorem dX6_bitOf_14 : decode cX6_bitOf 14 = .ok (.getfield 9, 3) := by decide +kernel
theorem dX6_bitOf_17 : decode cX6_bitOf 17 = .ok (.aload_n 0, 1) := by decide +kernel
theorem dX6_bitOf_18 : decode cX6_bitOf 18 = .ok (.getfield 24, 3) := by decide +kernel
theorem dX6_bitOf_21 : decode cX6_bitOf 21 = .ok (.iload_n 1, 1) := by decide +kernel
theorem dX6_bitOf_22 : decode cX6_bitOf 22 = .ok (.iaload, 1) := by decide +kernel
theorem dX6_bitOf_23 : decode cX6_bitOf 23 = .ok (.iaload, 1) := by decide +kernel
theorem dX6_bitOf_24 : decode cX6_bitOf 24 = .ok (.invokevirtual 47, 3) := by decide +kernel
theorem dX6_bitOf_27 : decode cX6_bitOf 27 = .ok (.ireturn, 1) := by decide +kernel
/-! the slip's data, as numbers and functions: rings, pairs, base, drift, noise, first, second, settings -/
abbrev zD : Type := Nat × Nat × (Nat → Int32) × (Nat → Int32) × (Nat → Int32) × (Nat → Nat) × (Nat → Nat) × (Nat → Int32)
abbrev dN (S : zD) : Nat := S.1
abbrev dP (S : zD) : Nat := S.2.1
abbrev dB (S : zD) : Nat → Int32 := S.2.2.1
abbrev dD (S : zD) : Nat → Int32 := S.2.2.2.1
abbrev dZ (S : zD) : Nat → Int32 := S.2.2.2.2.1
abbrev dF (S : zD) : Nat → Nat := S.2.2.2.2.2.1
abbrev dS (S : zD) : Nat → Nat := S.2.2.2.2.2.2.1
abbrev dT (S : zD) : Nat → Int32 := S.2.2.2.2.2.2.2
/-- the slip at a holds S -/
def rpS (S : zD) (h : zH) (a : Nat) : Prop :=
  (h.1 a 0 = nI (dN S) ∧ dN S ≤ 10) ∧ (h.1 a 4 = nI (dP S) ∧ dP S ≤ 28) ∧ (∀ r, r < dN S → h.1 (a + 1) r = dB S r ∧ h.1 (a + 2) r = dD S r ∧ h.1 (a + 3) r = dZ S r) ∧ (∀ p, p < dP S → (h.1 (a + 4) p = nI (dF S p) ∧ dF S p < dN S) ∧ h.1 (a + 5) p = nI (dS S p) ∧ dS S p < dN S) ∧ ∀ k, k < 5 → h.1 (a + 6) k = dT S k
/-- which codes there are -/
def vRp (r : Nat) : Prop := r = 0 ∨ r = 1 ∨ r = 3 ∨ r = 5 ∨ r = 7
def dR (S : zD) : Nat := (dT S 4).toNatClampNeg
/-- what the document allows -/
def vS (S : zD) : Prop :=
  (∀ r, r < dN S → (0 ≤ (dB S r).toInt ∧ (dB S r).toInt ≤ 9999) ∧ (-99 ≤ (dD S r).toInt ∧ (dD S r).toInt ≤ 99) ∧ 0 ≤ (dZ S r).toInt ∧ (dZ S r).toInt ≤ 50) ∧ (∀ p, p < dP S → dF S p ≠ dS S p) ∧ (0 ≤ (dT S 0).toInt ∧ (dT S 0).toInt ≤ 999) ∧ (-40 ≤ (dT S 1).toInt ∧ (dT S 1).toInt ≤ (dT S 2).toInt ∧ (dT S 2).toInt ≤ 125) ∧ (dT S 3 = 0 ∨ dT S 3 = 1) ∧ dT S 4 = nI (dR S) ∧ vRp (dR S)
/-- speed of a ring at a heat -/
def spd (S : zD) (r : Nat) (t : Int32) : Int32 := dB S r + dD S r * (t - 20) / 10
/-- a pair's bit out of two speeds -/
def bby (x y : Int32) (a b : Nat) : Int32 := if y < x ∨ x = y ∧ a < b then 1 else 0
def pba (S : zD) (p : Nat) (t : Int32) : Int32 := bby (spd S (dF S p) t) (spd S (dS S p) t) (dF S p) (dS S p)
def pb (S : zD) (p : Nat) : Int32 := bby (dB S (dF S p)) (dB S (dS S p)) (dF S p) (dS S p)
theorem zri {x y : Int32} (h : x = y) : (some (.inl x) : Option zV) = some (.inl y) := by rw [h]
theorem bby_01 (x y : Int32) (a b : Nat) : bby x y a b = 0 ∨ bby x y a b = 1 := by
  unfold bby; split
  · exact Or.inr rfl
  · exact Or.inl rfl
def ca_X6_speedOf : (zD × Nat × Nat × Int32) → List zV := fun (S, a, r, t) => [vR 15 0 a, vI (nI r), vI t]
def cp_X6_speedOf : (zD × Nat × Nat × Int32) → zH → Prop := fun (S, a, r, t) h => rpS S h a ∧ r < dN S
def cf_X6_speedOf : (zD × Nat × Nat × Int32) → zH → Int32 := fun (S, a, r, t) _ => spd S r t
theorem rc_X6_speedOf : ∀ x : (zD × Nat × Nat × Int32), ∃ (j a : Nat) (As : List zV), ca_X6_speedOf x = vR (10 + 5) j a :: As := by
  rintro ⟨S, a, r, t⟩
  exact ⟨_, _, _, rfl⟩
set_option maxHeartbeats 4000000 in
set_option maxRecDepth 100000 in
theorem m_X6_speedOf : zM yX6_speedOf cX6_speedOf 3 (some .int) ({ frames := 0, cells := 0, slots := 0, locals := 0 } : Room) (zcI ca_X6_speedOf cp_X6_speedOf cf_X6_speedOf) := by
  refine zM_of (by decide) ?_
  rintro X Y ⟨S, a, r, t⟩ h ⟨hS, hr⟩ O E hR
  have B_0 := zr_aload_n (X := X) (Y := Y) (u := 0) (v := 0) O dX6_speedOf_0 rfl (zr_gS (ci := 5) (j := 1) (off := 1) (t := 1) (n := 10) O zc_5 (by decide) rfl tw_50 dX6_speedOf_1 (zr_iload_n O dX6_speedOf_4 rfl (zr_iald O dX6_speedOf_5 (zr_aload_n O dX6_speedOf_6 rfl (zr_gS (ci := 5) (j := 2) (off := 2) (t := 1) (n := 10) O zc_5 (by decide) rfl tw_51 dX6_speedOf_7 (zr_iload_n O dX6_speedOf_10 rfl (zr_iald O dX6_speedOf_11 (zr_iload_n O dX6_speedOf_12 rfl (zr_bipush (x := (20)) O dX6_speedOf_13 (by decide) (zr_isub O dX6_speedOf_15 (zr_imul O dX6_speedOf_16 (zr_bipush (x := (10)) O dX6_speedOf_17 (by decide) (zr_idiv O dX6_speedOf_19 (zr_iadd O dX6_speedOf_20 (zr_ireturn O E (Nat.le_refl _) (Nat.le_refl _) dX6_speedOf_21)))))))))))))))
  refine ⟨rfl, Nat.le_of_ble_eq_true rfl, _, B_0, ?_⟩
  have hN := hS.1.2
  obtain ⟨h1, h2, h3⟩ := hS.2.2.1 r hr
  refine ⟨r, rfl, Nat.lt_of_lt_of_le hr hN, r, rfl, Nat.lt_of_lt_of_le hr hN, by decide, zri ?_, rfl⟩
  rw [h1, h2]
  rfl
def ca_X6_bitFrom : (zD × Nat × Nat × Int32 × Int32) → List zV := fun (S, a, p, x, y) => [vR 15 0 a, vI (nI p), vI x, vI y]
def cp_X6_bitFrom : (zD × Nat × Nat × Int32 × Int32) → zH → Prop := fun (S, a, p, x, y) h => rpS S h a ∧ p < dP S
def cf_X6_bitFrom : (zD × Nat × Nat × Int32 × Int32) → zH → Int32 := fun (S, a, p, x, y) _ => bby x y (dF S p) (dS S p)
theorem rc_X6_bitFrom : ∀ x : (zD × Nat × Nat × Int32 × Int32), ∃ (j a : Nat) (As : List zV), ca_X6_bitFrom x = vR (10 + 5) j a :: As := by
  rintro ⟨S, a, p, x, y⟩
  exact ⟨_, _, _, rfl⟩
set_option maxHeartbeats 4000000 in
set_option maxRecDepth 100000 in
theorem m_X6_bitFrom : zM yX6_bitFrom cX6_bitFrom 4 (some .int) ({ frames := 0, cells := 0, slots := 0, locals := 0 } : Room) (zcI ca_X6_bitFrom cp_X6_bitFrom cf_X6_bitFrom) := by
  refine zM_of (by decide) ?_
  rintro X Y ⟨S, a, p, x, y⟩ h ⟨hS, hp⟩ O E hR
  have B_36 := zr_ireturn (X := X) (Y := Y) (u := 0) (v := 0) O E (Nat.le_refl _) (Nat.le_refl _) dX6_bitFrom_36
  have B_35 := zr_iconst (X := X) (Y := Y) (u := 0) (v := 0) (x := 0) O dX6_bitFrom_35 rfl (B_36)
  have B_26 := zr_iload_n (X := X) (Y := Y) (u := 0) (v := 0) O dX6_bitFrom_26 rfl (zr_iload_n O dX6_bitFrom_27 rfl (zr_icle (tgt := 35) O dX6_bitFrom_28 rfl B_35 (zr_iconst (x := 1) O dX6_bitFrom_31 rfl (zr_goto (tgt := 36) O dX6_bitFrom_32 rfl B_36))))
  have B_25 := zr_ireturn (X := X) (Y := Y) (u := 0) (v := 0) O E (Nat.le_refl _) (Nat.le_refl _) dX6_bitFrom_25
  have B_24 := zr_iconst (X := X) (Y := Y) (u := 0) (v := 0) (x := 0) O dX6_bitFrom_24 rfl (B_25)
  have B_0 := zr_iload_n (X := X) (Y := Y) (u := 0) (v := 0) O dX6_bitFrom_0 rfl (zr_iload_n O dX6_bitFrom_1 rfl (zr_icne (tgt := 26) O dX6_bitFrom_2 rfl B_26 (zr_aload_n O dX6_bitFrom_5 rfl (zr_gS (ci := 5) (j := 5) (off := 4) (t := 1) (n := 28) O zc_5 (by decide) rfl tw_59 dX6_bitFrom_6 (zr_iload_n O dX6_bitFrom_9 rfl (zr_iald O dX6_bitFrom_10 (zr_aload_n O dX6_bitFrom_11 rfl (zr_gS (ci := 5) (j := 6) (off := 5) (t := 1) (n := 28) O zc_5 (by decide) rfl tw_66 dX6_bitFrom_12 (zr_iload_n O dX6_bitFrom_15 rfl (zr_iald O dX6_bitFrom_16 (zr_icge (tgt := 24) O dX6_bitFrom_17 rfl B_24 (zr_iconst (x := 1) O dX6_bitFrom_20 rfl (zr_goto (tgt := 25) O dX6_bitFrom_21 rfl B_25)))))))))))))
  refine ⟨rfl, Nat.le_of_ble_eq_true rfl, _, B_0, ?_⟩
  obtain ⟨⟨f1, f2⟩, s1, s2⟩ := hS.2.2.2.1 p hp
  have hN := hS.1.2
  have hp28 : p < 28 := Nat.lt_of_lt_of_le hp hS.2.1.2
  refine ⟨fun c => ⟨fun d => ⟨zri ?_, rfl⟩, fun d => ⟨zri ?_, rfl⟩⟩, fun c => ⟨p, rfl, hp28, p, rfl, hp28, fun d => ⟨zri ?_, rfl⟩, fun d => ⟨zri ?_, rfl⟩⟩⟩
  · exact (if_neg (fun z => z.elim (fun q => absurd q (Int32.not_lt.mpr d)) (fun q => c q.1))).symm
  · exact (if_pos (Or.inl (Int32.not_le.mp d))).symm
  · rw [f1, s1] at d
    exact (if_neg (fun z => z.elim (fun q => absurd q (by rw [c]; exact Int32.lt_irrefl)) (fun q => absurd ((nI_leI (by omega) (by omega)).mp d) (by omega)))).symm
  · rw [f1, s1] at d
    exact (if_pos (Or.inr ⟨c, Nat.not_le.mp (fun z => d ((nI_leI (by omega) (by omega)).mpr z))⟩)).symm
def ca_X6_bitAt : (zD × Nat × Nat × Int32) → List zV := fun (S, a, p, t) => [vR 15 0 a, vI (nI p), vI t]
def cp_X6_bitAt : (zD × Nat × Nat × Int32) → zH → Prop := fun (S, a, p, t) h => rpS S h a ∧ p < dP S
def cf_X6_bitAt : (zD × Nat × Nat × Int32) → zH → Int32 := fun (S, a, p, t) _ => pba S p t
theorem rc_X6_bitAt : ∀ x : (zD × Nat × Nat × Int32), ∃ (j a : Nat) (As : List zV), ca_X6_bitAt x = vR (10 + 5) j a :: As := by
  rintro ⟨S, a, p, t⟩
  exact ⟨_, _, _, rfl⟩
set_option maxHeartbeats 4000000 in
set_option maxRecDepth 100000 in
theorem m_X6_bitAt : zM yX6_bitAt cX6_bitAt 3 (some .int) ({ frames := 1, cells := 0, slots := 0, locals := 23 } : Room) (zcI ca_X6_bitAt cp_X6_bitAt cf_X6_bitAt) := by
  refine zM_of (by decide) ?_
  rintro X Y ⟨S, a, p, t⟩ h ⟨hS, hp⟩ O E hR
  have B_0 := zr_aload_n (X := X) (Y := Y) (u := 0) (v := 0) O dX6_bitAt_0 rfl (zr_iload_n O dX6_bitAt_1 rfl (zr_aload_n O dX6_bitAt_2 rfl (zr_aload_n O dX6_bitAt_3 rfl (zr_gS (ci := 5) (j := 5) (off := 4) (t := 1) (n := 28) O zc_5 (by decide) rfl tw_59 dX6_bitAt_4 (zr_iload_n O dX6_bitAt_7 rfl (zr_iald O dX6_bitAt_8 (zr_iload_n O dX6_bitAt_9 rfl (zr_cI (zr_cV (ci := 5) (n := 2) O m_X6_speedOf (bn_X6_speedOf _ ⟨rfl, rfl⟩) vw_X6_speedOf tw_440 rc_X6_speedOf (zrm hR rfl rfl) dX6_bitAt_10 (zr_aload_n O dX6_bitAt_13 rfl (zr_aload_n O dX6_bitAt_14 rfl (zr_gS (ci := 5) (j := 6) (off := 5) (t := 1) (n := 28) O zc_5 (by decide) rfl tw_66 dX6_bitAt_15 (zr_iload_n O dX6_bitAt_18 rfl (zr_iald O dX6_bitAt_19 (zr_iload_n O dX6_bitAt_20 rfl (zr_cI (zr_cV (ci := 5) (n := 2) O m_X6_speedOf (bn_X6_speedOf _ ⟨rfl, rfl⟩) vw_X6_speedOf tw_440 rc_X6_speedOf (zrm hR rfl rfl) dX6_bitAt_21 (zr_cI (zr_cV (ci := 5) (n := 3) O m_X6_bitFrom (bn_X6_bitFrom _ ⟨rfl, rfl⟩) vw_X6_bitFrom tw_422 rc_X6_bitFrom (zrm hR rfl rfl) dX6_bitAt_24 (zr_ireturn O E (Nat.le_refl _) (Nat.le_refl _) dX6_bitAt_27))))))))))))))))))))
  refine ⟨rfl, Nat.le_of_ble_eq_true rfl, _, B_0, ?_⟩
  obtain ⟨⟨f1, f2⟩, s1, s2⟩ := hS.2.2.2.1 p hp
  have hp28 : p < 28 := Nat.lt_of_lt_of_le hp hS.2.1.2
  exact ⟨p, rfl, hp28, (S, a, dF S p, t), congrArg (fun z => [vR 15 0 a, vI z, vI t]) f1, ⟨hS, f2⟩, p, rfl, hp28, (S, a, dS S p, t), congrArg (fun z => [vR 15 0 a, vI z, vI t]) s1, ⟨hS, s2⟩, (S, a, p, _, _), rfl, ⟨hS, hp⟩, rfl, rfl⟩
def ca_X6_bitOf : (zD × Nat × Nat) → List zV := fun (S, a, p) => [vR 15 0 a, vI (nI p)]
def cp_X6_bitOf : (zD × Nat × Nat) → zH → Prop := fun (S, a, p) h => rpS S h a ∧ p < dP S
def cf_X6_bitOf : (zD × Nat × Nat) → zH → Int32 := fun (S, a, p) _ => pb S p
theorem rc_X6_bitOf : ∀ x : (zD × Nat × Nat), ∃ (j a : Nat) (As : List zV), ca_X6_bitOf x = vR (10 + 5) j a :: As := by
  rintro ⟨S, a, p⟩
  exact ⟨_, _, _, rfl⟩
set_option maxHeartbeats 4000000 in
set_option maxRecDepth 100000 in
theorem m_X6_bitOf : zM yX6_bitOf cX6_bitOf 2 (some .int) ({ frames := 1, cells := 0, slots := 0, locals := 23 } : Room) (zcI ca_X6_bitOf cp_X6_bitOf cf_X6_bitOf) := by
  refine zM_of (by decide) ?_
  rintro X Y ⟨S, a, p⟩ h ⟨hS, hp⟩ O E hR
  have B_0 := zr_aload_n (X := X) (Y := Y) (u := 0) (v := 0) O dX6_bitOf_0 rfl (zr_iload_n O dX6_bitOf_1 rfl (zr_aload_n O dX6_bitOf_2 rfl (zr_gS (ci := 5) (j := 1) (off := 1) (t := 1) (n := 10) O zc_5 (by decide) rfl tw_50 dX6_bitOf_3 (zr_aload_n O dX6_bitOf_6 rfl (zr_gS (ci := 5) (j := 5) (off := 4) (t := 1) (n := 28) O zc_5 (by decide) rfl tw_59 dX6_bitOf_7 (zr_iload_n O dX6_bitOf_10 rfl (zr_iald O dX6_bitOf_11 (zr_iald O dX6_bitOf_12 (zr_aload_n O dX6_bitOf_13 rfl (zr_gS (ci := 5) (j := 1) (off := 1) (t := 1) (n := 10) O zc_5 (by decide) rfl tw_50 dX6_bitOf_14 (zr_aload_n O dX6_bitOf_17 rfl (zr_gS (ci := 5) (j := 6) (off := 5) (t := 1) (n := 28) O zc_5 (by decide) rfl tw_66 dX6_bitOf_18 (zr_iload_n O dX6_bitOf_21 rfl (zr_iald O dX6_bitOf_22 (zr_iald O dX6_bitOf_23 (zr_cI (zr_cV (ci := 5) (n := 3) O m_X6_bitFrom (bn_X6_bitFrom _ ⟨rfl, rfl⟩) vw_X6_bitFrom tw_422 rc_X6_bitFrom (zrm hR rfl rfl) dX6_bitOf_24 (zr_ireturn O E (Nat.le_refl _) (Nat.le_refl _) dX6_bitOf_27))))))))))))))))))
  refine ⟨rfl, Nat.le_of_ble_eq_true rfl, _, B_0, ?_⟩
  obtain ⟨⟨f1, f2⟩, s1, s2⟩ := hS.2.2.2.1 p hp
  have hN := hS.1.2
  have hp28 : p < 28 := Nat.lt_of_lt_of_le hp hS.2.1.2
  refine ⟨p, rfl, hp28, dF S p, f1, by omega, p, rfl, hp28, dS S p, s1, by omega, (S, a, p, _, _), rfl, ⟨hS, hp⟩, zri ?_, rfl⟩
  show bby (h.1 (a + 1) _) (h.1 (a + 1) _) _ _ = pb S p
  rw [(hS.2.2.1 _ f2).1, (hS.2.2.1 _ s2).1]
  rfl
end
section
theorem dJ6_bitCount_0f7a4_0 : decode cJ6_bitCount_0f7a4 0 = .ok (.iload_n 0, 1) := by decide +kernel
theorem dJ6_bitCount_0f7a4_1 : decode cJ6_bitCount_0f7a4 1 = .ok (.iload_n 0, 1) := by decide +kernel
theorem dJ6_bitCount_0f7a4_2 : decode cJ6_bitCount_0f7a4 2 = .ok (.iconst 1, 1) := by decide +kernel
theorem dJ6_bitCount_0f7a4_3 : decode cJ6_bitCount_0f7a4 3 = .ok (.iushr, 1) := by decide +kernel
theorem dJ6_bitCount_0f7a4_4 : decode cJ6_bitCount_0f7a4 4 = .ok (.ldc_w 265, 3) := by decide +kernel
theorem dJ6_bitCount_0f7a4_7 : decode cJ6_bitCount_0f7a4 7 = .ok (.iand, 1) := by decide +kernel
theorem dJ6_bitCount_0f7a4_8 : decode cJ6_bitCount_0f7a4 8 = .ok (.isub, 1) := by decide +kernel
theorem dJ6_bitCount_0f7a4_9 : decode cJ6_bitCount_0f7a4 9 = .ok (.istore_n 0, 1) := by decide +kernel
theorem dJ6_bitCount_0f7a4_10 : decode cJ6_bitCount_0f7a4 10 = .ok (.iload_n 0, 1) := by decide +kernel
theorem dJ6_bitCount_0f7a4_11 : decode cJ6_bitCount_0f7a4 11 = .ok (.ldc_w 266, 3) := by decide +kernel
theorem dJ6_bitCount_0f7a4_14 : decode cJ6_bitCount_0f7a4 14 = .ok (.iand, 1) := by decide +kernel
theorem dJ6_bitCount_0f7a4_15 : decode cJ6_bitCount_0f7a4 15 = .ok (.iload_n 0, 1) := by decide +kernel
theorem dJ6_bitCount_0f7a4_16 : decode cJ6_bitCount_0f7a4 16 = .ok (.iconst 2, 1) := by decide +kernel
theorem dJ6_bitCount_0f7a4_17 : decode cJ6_bitCount_0f7a4 17 = .ok (.iushr, 1) := by decide +kernel
theorem dJ6_bitCount_0f7a4_18 : decode cJ6_bitCount_0f7a4 18 = .ok (.ldc_w 266, 3) := by decide +kernel
theorem dJ6_bitCount_0f7a4_21 : decode cJ6_bitCount_0f7a4 21 = .ok (.iand, 1) := by decide +kernel
theorem dJ6_bitCount_0f7a4_22 : decode cJ6_bitCount_0f7a4 22 = .ok (.iadd, 1) := by decide +kernel
theorem dJ6_bitCount_0f7a4_23 : decode cJ6_bitCount_0f7a4 23 = .ok (.istore_n 0, 1) := by decide +kernel
theorem dJ6_bitCount_0f7a4_24 : decode cJ6_bitCount_0f7a4 24 = .ok (.iload_n 0, 1) := by decide +kernel
theorem dJ6_bitCount_0f7a4_25 : decode cJ6_bitCount_0f7a4 25 = .ok (.iload_n 0, 1) := by decide +kernel
theorem dJ6_bitCount_0f7a4_26 : decode cJ6_bitCount_0f7a4 26 = .ok (.iconst 4, 1) := by decide +kernel
theorem dJ6_bitCount_0f7a4_27 : decode cJ6_bitCount_0f7a4 27 = .ok (.iushr, 1) := by decide +kernel
theorem dJ6_bitCount_0f7a4_28 : decode cJ6_bitCount_0f7a4 28 = .ok (.iadd, 1) := by decide +kernel
theorem dJ6_bitCount_0f7a4_29 : decode cJ6_bitCount_0f7a4 29 = .ok (.ldc_w 267, 3) := by decide +kernel
theorem dJ6_bitCount_0f7a4_32 : decode cJ6_bitCount_0f7a4 32 = .ok (.iand, 1) := by decide +kernel
theorem dJ6_bitCount_0f7a4_33 : decode cJ6_bitCount_0f7a4 33 = .ok (.istore_n 0, 1) := by decide +kernel
theorem dJ6_bitCount_0f7a4_34 : decode cJ6_bitCount_0f7a4 34 = .ok (.iload_n 0, 1) := by decide +kernel
theorem dJ6_bitCount_0f7a4_35 : decode cJ6_bitCount_0f7a4 35 = .ok (.iload_n 0, 1) := by decide +kernel
theorem dJ6_bitCount_0f7a4_36 : decode cJ6_bitCount_0f7a4 36 = .ok (.bipush 8, 2) := by decide +kernel
theorem dJ6_bitCount_0f7a4_38 : decode cJ6_bitCount_0f7a4 38 = .ok (.iushr, 1) := by decide +kernel
theorem dJ6_bitCount_0f7a4_39 : decode cJ6_bitCount_0f7a4 39 = .ok (.iadd, 1) := by decide +kernel
theorem dJ6_bitCount_0f7a4_40 : decode cJ6_bitCount_0f7a4 40 = .ok (.istore_n 0, 1) := by decide +kernel
theorem dJ6_bitCount_0f7a4_41 : decode cJ6_bitCount_0f7a4 41 = .ok (.iload_n 0, 1) := by decide +kernel
theorem dJ6_bitCount_0f7a4_42 : decode cJ6_bitCount_0f7a4 42 = .ok (.iload_n 0, 1) := by decide +kernel
theorem dJ6_bitCount_0f7a4_43 : decode cJ6_bitCount_0f7a4 43 = .ok (.bipush 16, 2) := by decide +kernel
theorem dJ6_bitCount_0f7a4_45 : decode cJ6_bitCount_0f7a4 45 = .ok (.iushr, 1) := by decide +kernel
theorem dJ6_bitCount_0f7a4_46 : decode cJ6_bitCount_0f7a4 46 = .ok (.iadd, 1) := by decide +kernel
theorem dJ6_bitCount_0f7a4_47 : decode cJ6_bitCount_0f7a4 47 = .ok (.istore_n 0, 1) := by decide +kernel
theorem dJ6_bitCount_0f7a4_48 : decode cJ6_bitCount_0f7a4 48 = .ok (.iload_n 0, 1) := by decide +kernel
theorem dJ6_bitCount_0f7a4_49 : decode cJ6_bitCount_0f7a4 49 = .ok (.bipush 63, 2) := by decide +kernel
theorem dJ6_bitCount_0f7a4_51 : decode cJ6_bitCount_0f7a4 51 = .ok (.iand, 1) := by decide +kernel
theorem dJ6_bitCount_0f7a4_52 : decode cJ6_bitCount_0f7a4 52 = .ok (.ireturn, 1) := by decide +kernel
theorem dX10_bitIn_0 : decode cX10_bitIn 0 = .ok (.iload_n 0, 1) := by decide +kernel
theorem dX10_bitIn_1 : decode cX10_bitIn 1 = .ok (.iload_n 1, 1) := by decide +kernel
theorem dX10_bitIn_2 : decode cX10_bitIn 2 = .ok (.ishr, 1) := by decide +kernel
theorem dX10_bitIn_3 : decode cX10_bitIn 3 = .ok (.iconst 1, 1) := by decide +kernel
theorem dX10_bitIn_4 : decode cX10_bitIn 4 = .ok (.iand, 1) := by decide +kernel
theorem dX10_bitIn_5 : decode cX10_bitIn 5 = .ok (.ireturn, 1) := by decide +kernel
theorem dX0_isRepeat_26 : decode cX0_isRepeat 26 = .ok (.ireturn, 1) := by decide +kernel
theorem dX0_isRepeat_25 : decode cX0_isRepeat 25 = .ok (.iconst 0, 1) := by decide +kernel
theorem dX0_isRepeat_21 : decode cX0_isRepeat 21 = .ok (.iconst 1, 1) := by decide +kernel
theorem dX0_isRepeat_22 : decode cX0_isRepeat 22 = .ok (.goto 4, 3) := by decide +kernel
theorem dX0_isRepeat_0 : decode cX0_isRepeat 0 = .ok (.iload_n 0, 1) := by decide +kernel
theorem dX0_isRepeat_1 : decode cX0_isRepeat 1 = .ok (.iconst 1, 1) := by decide +kernel
theorem dX0_isRepeat_2 : decode cX0_isRepeat 2 = .ok (.if_icmp .eq 19, 3) := by decide +kernel
theorem dX0_isRepeat_5 : decode cX0_isRepeat 5 = .ok (.iload_n 0, 1) := by decide +kernel
theorem dX0_isRepeat_6 : decode cX0_isRepeat 6 = .ok (.iconst 3, 1) := by decide +kernel
theorem dX0_isRepeat_7 : decode cX0_isRepeat 7 = .ok (.if_icmp .eq 14, 3) := by decide +kernel
theorem dX0_isRepeat_10 : decode cX0_isRepeat 10 = .ok (.iload_n 0, 1) := by decide +kernel
theorem dX0_isRepeat_11 : decode cX0_isRepeat 11 = .ok (.iconst 5, 1) := by decide +kernel
theorem dX0_isRepeat_12 : decode cX0_isRepeat 12 = .ok (.if_icmp .eq 9, 3) := by decide +kernel
theorem dX0_isRepeat_15 : decode cX0_isRepeat 15 = .ok (.iload_n 0, 1) := by decide +kernel
theorem dX0_isRepeat_16 : decode cX0_isRepeat 16 = .ok (.bipush 7, 2) := by decide +kernel
theorem dX0_isRepeat_18 : decode cX0_isRepeat 18 = .ok (.if_icmp .ne 7, 3) := by decide +kernel
theorem dX0_lengthOf_14 : decode cX0_lengthOf 14 = .ok (.ireturn, 1) := by decide +kernel
theorem dX0_lengthOf_9 : decode cX0_lengthOf 9 = .ok (.iload_n 0, 1) := by decide +kernel
theorem dX0_lengthOf_10 : decode cX0_lengthOf 10 = .ok (.iconst 1, 1) := by decide +kernel
theorem dX0_lengthOf_11 : decode cX0_lengthOf 11 = .ok (.invokestatic 11, 3) := by decide +kernel
theorem dX0_lengthOf_0 : decode cX0_lengthOf 0 = .ok (.iload_n 0, 1) := by decide +kernel
theorem dX0_lengthOf_1 : decode cX0_lengthOf 1 = .ok (.ifCond .ne 8, 3) := by decide +kernel
theorem dX0_lengthOf_4 : decode cX0_lengthOf 4 = .ok (.bipush 7, 2) := by decide +kernel
theorem dX0_lengthOf_6 : decode cX0_lengthOf 6 = .ok (.goto 8, 3) := by decide +kernel
theorem dX0_bitsOf_9 : decode cX0_bitsOf 9 = .ok (.ireturn, 1) := by decide +kernel
theorem dX0_bitsOf_8 : decode cX0_bitsOf 8 = .ok (.iconst 1, 1) := by decide +kernel
theorem dX0_bitsOf_0 : decode cX0_bitsOf 0 = .ok (.iload_n 0, 1) := by decide +kernel
theorem dX0_bitsOf_1 : decode cX0_bitsOf 1 = .ok (.ifCond .ne 7, 3) := by decide +kernel
theorem dX0_bitsOf_4 : decode cX0_bitsOf 4 = .ok (.iconst 4, 1) := by decide +kernel
theorem dX0_bitsOf_5 : decode cX0_bitsOf 5 = .ok (.goto 4, 3) := by decide +kernel
theorem dX0_mendedBy_13 : decode cX0_mendedBy 13 = .ok (.ireturn, 1) := by decide +kernel
theorem dX0_mendedBy_8 : decode cX0_mendedBy 8 = .ok (.iload_n 0, 1) := by decide +kernel
theorem dX0_mendedBy_9 : decode cX0_mendedBy 9 = .ok (.iconst 1, 1) := by decide +kernel
theorem dX0_mendedBy_10 : decode cX0_mendedBy 10 = .ok (.isub, 1) := by decide +kernel
theorem dX0_mendedBy_11 : decode cX0_mendedBy 11 = .ok (.iconst 2, 1) := by decide +kernel
theorem dX0_mendedBy_12 : decode cX0_mendedBy 12 = .ok (.idiv, 1) := by decide +kernel
theorem dX0_mendedBy_0 : decode cX0_mendedBy 0 = .ok (.iload_n 0, 1) := by decide +kernel
theorem dX0_mendedBy_1 : decode cX0_mendedBy 1 = .ok (.ifCond .ne 7, 3) := by decide +kernel
theorem dX0_mendedBy_4 : decode cX0_mendedBy 4 = .ok (.iconst 1, 1) := by decide +kernel
theorem dX0_mendedBy_5 : decode cX0_mendedBy 5 = .ok (.goto 8, 3) := by decide +kernel
theorem dX0_checkWith_41 : decode cX0_checkWith 41 = .ok (.iload_n 3, 1) := by decide +kernel
theorem dX0_checkWith_42 : decode cX0_checkWith 42 = .ok (.ireturn, 1) := by decide +kernel
theorem dX0_checkWith_35 : decode cX0_checkWith 35 = .ok (.iinc 4 1, 3) := by decide +kernel
theorem dX0_checkWith_38 : decode cX0_checkWith 38 = .ok (.goto (-33), 3) := by decide +kernel
theorem dX0_checkWith_5 : decode cX0_checkWith 5 = .ok (.iload 4, 2) := by decide +kernel
theorem dX0_checkWith_7 : decode cX0_checkWith 7 = .ok (.iload_n 2, 1) := by decide +kernel
theorem dX0_checkWith_8 : decode cX0_checkWith 8 = .ok (.if_icmp .ge 33, 3) := by decide +kernel
theorem dX0_checkWith_11 : decode cX0_checkWith 11 = .ok (.iconst 2, 1) := by decide +kernel
theorem dX0_checkWith_12 : decode cX0_checkWith 12 = .ok (.iload_n 3, 1) := by decide +kernel
theorem dX0_checkWith_13 : decode cX0_checkWith 13 = .ok (.imul, 1) := by decide +kernel
theorem dX0_checkWith_14 : decode cX0_checkWith 14 = .ok (.iload_n 1, 1) := by decide +kernel
theorem dX0_checkWith_15 : decode cX0_checkWith 15 = .ok (.iload 4, 2) := by decide +kernel
theorem dX0_checkWith_17 : decode cX0_checkWith 17 = .ok (.invokestatic 30, 3) := by decide +kernel
theorem dX0_checkWith_20 : decode cX0_checkWith 20 = .ok (.iadd, 1) := by decide +kernel
theorem dX0_checkWith_21 : decode cX0_checkWith 21 = .ok (.istore_n 3, 1) := by decide +kernel
theorem dX0_checkWith_22 : decode cX0_checkWith 22 = .ok (.iload_n 3, 1) := by decide +kernel
theorem dX0_checkWith_23 : decode cX0_checkWith 23 = .ok (.bipush 15, 2) := by decide +kernel
theorem dX0_checkWith_25 : decode cX0_checkWith 25 = .ok (.if_icmp .le 10, 3) := by decide +kernel
theorem dX0_checkWith_28 : decode cX0_checkWith 28 = .ok (.iload_n 3, 1) := by decide +kernel
theorem dX0_checkWith_29 : decode cX0_checkWith 29 = .ok (.bipush 16, 2) := by decide +kernel
theorem dX0_checkWith_31 : decode cX0_checkWith 31 = .ok (.isub, 1) := by decide +kernel
theorem dX0_checkWith_32 : decode cX0_checkWith 32 = .ok (.iconst 3, 1) := by decide +kernel
theorem dX0_checkWith_33 : decode cX0_checkWith 33 = .ok (.ixor, 1) := by decide +kernel
theorem dX0_checkWith_34 : decode cX0_checkWith 34 = .ok (.istore_n 3, 1) := by decide +kernel
theorem dX0_checkWith_0 : decode cX0_checkWith 0 = .ok (.iload_n 0, 1) := by decide +kernel
theorem dX0_checkWith_1 : decode cX0_checkWith 1 = .ok (.istore_n 3, 1) := by decide +kernel
theorem dX0_checkWith_2 : decode cX0_checkWith 2 = .ok (.iconst 0, 1) := by decide +kernel
theorem dX0_checkWith_3 : decode cX0_checkWith 3 = .ok (.istore 4, 2) := by decide +kernel
/-! bits: counting -/
def ush (x s : Int32) : Int32 := (x.toUInt32 >>> (s.toUInt32 &&& Int32.toUInt32 31)).toInt32
def pc1 (x : Int32) : Int32 := x - (ush x 1 &&& 1431655765)
def pc2 (x : Int32) : Int32 := (x &&& 858993459) + (ush x 2 &&& 858993459)
def pc3 (x : Int32) : Int32 := (x + ush x 4) &&& 252645135
def pc4 (x : Int32) : Int32 := x + ush x 8
def pc5 (x : Int32) : Int32 := x + ush x 16
def pcI (x : Int32) : Int32 := pc5 (pc4 (pc3 (pc2 (pc1 x)))) &&& 63
/-- how many bits of a number are set -/
def pop (m : Nat) : Nat := fb_ct (fun i => m.testBit i) 32
theorem land_add {k a b : Nat} (x y : Nat) (ha : a < 2 ^ k) (hb : b < 2 ^ k) : (2 ^ k * x + a) &&& (2 ^ k * y + b) = 2 ^ k * (x &&& y) + (a &&& b) := by
  have hab : a &&& b < 2 ^ k := Nat.lt_of_le_of_lt Nat.and_le_left ha
  apply Nat.eq_of_testBit_eq
  intro i
  rw [Nat.testBit_and, Nat.testBit_two_pow_mul_add _ ha, Nat.testBit_two_pow_mul_add _ hb, Nat.testBit_two_pow_mul_add _ hab]
  split
  · rw [Nat.testBit_and]
  · rw [Nat.testBit_and]
theorem land8 {a b : Nat} (x y : Nat) (ha : a < 256) (hb : b < 256) : (256 * x + a) &&& (256 * y + b) = 256 * (x &&& y) + (a &&& b) := land_add (k := 8) x y ha hb
theorem ush_n {n k : Nat} (hn : n < 2 ^ 32) (s : Int32) (hs : ((s.toUInt32 &&& Int32.toUInt32 31).toBitVec % 32).toNat = k) : ush (nI n) s = nI (n / 2 ^ k) := pk_ushrN hn s k hs
def py1 (b : Nat) : Nat := b - ((b / 2) &&& 85)
def py2 (c : Nat) : Nat := (c &&& 51) + ((c / 4) &&& 51)
def pyc (b : Nat) : Nat := fb_ct (fun i => b.testBit i) 8
theorem py1_a : ∀ b, b < 256 → ∀ c, c < 2 → (b / 2 + 128 * c) &&& 85 = (b / 2) &&& 85 ∧ (b / 2) &&& 85 ≤ b := by decide +kernel
theorem py2_a : ∀ b, b < 256 → py1 b < 256 ∧ ∀ c, c < 4 → (py1 b / 4 + 64 * c) &&& 51 = (py1 b / 4) &&& 51 := by decide +kernel
theorem py3_a : ∀ b, b < 256 → py2 (py1 b) < 256 ∧ py2 (py1 b) % 16 ≤ 4 ∧ pyc b ≤ 8 ∧ ∀ c, c < 5 → py2 (py1 b) + py2 (py1 b) / 16 + 16 * c < 256 ∧ (py2 (py1 b) + py2 (py1 b) / 16 + 16 * c) &&& 15 = pyc b := by decide +kernel
theorem st1 {b x Y : Nat} (hb : b < 256) (hY : ((x / 2) &&& Y) ≤ x) : (256 * x + b) - (((256 * x + b) / 2) &&& (256 * Y + 85)) = 256 * (x - ((x / 2) &&& Y)) + py1 b := by
  have e : (256 * x + b) / 2 = 256 * (x / 2) + (b / 2 + 128 * (x % 2)) := by omega
  obtain ⟨h1, h2⟩ := py1_a b hb (x % 2) (by omega)
  rw [e, land8 _ _ (by omega) (by omega), h1, py1]
  omega
theorem st1_le {b x Y : Nat} (hb : b < 256) (hY : ((x / 2) &&& Y) ≤ x) : (((256 * x + b) / 2) &&& (256 * Y + 85)) ≤ 256 * x + b := by
  have e : (256 * x + b) / 2 = 256 * (x / 2) + (b / 2 + 128 * (x % 2)) := by omega
  obtain ⟨h1, h2⟩ := py1_a b hb (x % 2) (by omega)
  rw [e, land8 _ _ (by omega) (by omega), h1]
  omega
theorem st2 {b x Y : Nat} (hb : b < 256) : ((256 * x + py1 b) &&& (256 * Y + 51)) + (((256 * x + py1 b) / 4) &&& (256 * Y + 51)) = 256 * ((x &&& Y) + ((x / 4) &&& Y)) + py2 (py1 b) := by
  obtain ⟨h0, h1⟩ := py2_a b hb
  have e : (256 * x + py1 b) / 4 = 256 * (x / 4) + (py1 b / 4 + 64 * (x % 4)) := by omega
  have h2 := h1 (x % 4) (by omega)
  rw [e, land8 _ _ h0 (by omega), land8 _ _ (by omega) (by omega), h2, py2]
  omega
theorem st3 {b x Y : Nat} (hb : b < 256) (hx : x % 16 ≤ 4) : ((256 * x + py2 (py1 b)) + (256 * x + py2 (py1 b)) / 16) &&& (256 * Y + 15) = 256 * ((x + x / 16) &&& Y) + pyc b := by
  obtain ⟨h0, -, -, h1⟩ := py3_a b hb
  obtain ⟨h2, h3⟩ := h1 (x % 16) (by omega)
  have e : (256 * x + py2 (py1 b)) + (256 * x + py2 (py1 b)) / 16 = 256 * (x + x / 16) + (py2 (py1 b) + py2 (py1 b) / 16 + 16 * (x % 16)) := by omega
  rw [e, land8 _ _ h2 (by omega), h3]
theorem fb_ct_z (n : Nat) : fb_ct (fun _ => false) n = 0 := fb_ct_zero.mpr (fun _ _ => rfl)
theorem pop_bytes {b0 b1 b2 b3 : Nat} (h0 : b0 < 256) (h1 : b1 < 256) (h2 : b2 < 256) (h3 : b3 < 256) : pop (256 * (256 * (256 * b3 + b2) + b1) + b0) = pyc b0 + pyc b1 + pyc b2 + pyc b3 := by
  have key : ∀ (b x n : Nat), b < 256 → fb_ct (fun i => (256 * x + b).testBit i) (8 + n) = pyc b + fb_ct (fun i => x.testBit i) n := by
    intro b x n hb
    rw [fb_ct_split]
    congr 1
    · apply fb_ct_cong
      intro i hi
      have := Nat.testBit_two_pow_mul_add (i := 8) x (b := b) hb i
      rw [if_pos hi] at this
      exact this
    · apply fb_ct_cong
      intro i _
      have := Nat.testBit_two_pow_mul_add (i := 8) x (b := b) hb (8 + i)
      rw [if_neg (by omega), Nat.add_sub_cancel_left] at this
      exact this
  unfold pop
  rw [key b0 _ 24 h0, key b1 _ 16 h1, key b2 _ 8 h2]
  show _ + (_ + (_ + pyc b3)) = _
  omega
theorem pcI_pop {m : Nat} (hm : m < 2 ^ 31) : pcI (nI m) = nI (pop m) := by
  obtain ⟨b0, b1, b2, b3, h0, h1, h2, h3, rfl⟩ : ∃ b0 b1 b2 b3 : Nat, b0 < 256 ∧ b1 < 256 ∧ b2 < 256 ∧ b3 < 256 ∧ m = 256 * (256 * (256 * b3 + b2) + b1) + b0 :=
    ⟨m % 256, m / 256 % 256, m / 65536 % 256, m / 16777216, by omega, by omega, by omega, by omega, by omega⟩
  rw [pop_bytes h0 h1 h2 h3]
  have l3 : ((b3 / 2) &&& 85) ≤ b3 := (py1_a b3 h3 0 (by omega)).2
  have l2 := st1_le (x := b3) (Y := 85) h2 l3
  have l1 := st1_le (x := 256 * b3 + b2) (Y := 256 * 85 + 85) h1 l2
  have l0 := st1_le (x := 256 * (256 * b3 + b2) + b1) (Y := 256 * (256 * 85 + 85) + 85) h0 l1
  have e1 : pc1 (nI (256 * (256 * (256 * b3 + b2) + b1) + b0)) = nI (256 * (256 * (256 * py1 b3 + py1 b2) + py1 b1) + py1 b0) := by
    unfold pc1
    rw [ush_n (k := 1) (by omega) 1 (by decide), show (1431655765 : Int32) = nI (256 * (256 * (256 * 85 + 85) + 85) + 85) from rfl, fa_and, Nat.pow_one, pk_sub l0, st1 h0 l1, st1 h1 l2, st1 h2 l3]
    rfl
  obtain ⟨p0, -⟩ := py2_a b0 h0
  obtain ⟨p1, -⟩ := py2_a b1 h1
  obtain ⟨p2, -⟩ := py2_a b2 h2
  obtain ⟨p3, -⟩ := py2_a b3 h3
  have e2 : pc2 (nI (256 * (256 * (256 * py1 b3 + py1 b2) + py1 b1) + py1 b0)) = nI (256 * (256 * (256 * py2 (py1 b3) + py2 (py1 b2)) + py2 (py1 b1)) + py2 (py1 b0)) := by
    unfold pc2
    rw [ush_n (k := 2) (by omega) 2 (by decide), show (858993459 : Int32) = nI (256 * (256 * (256 * 51 + 51) + 51) + 51) from rfl, fa_and, fa_and, nI_add, show (2 : Nat) ^ 2 = 4 from rfl, st2 h0, st2 h1, st2 h2]
    rfl
  obtain ⟨q0, r0, t0, -⟩ := py3_a b0 h0
  obtain ⟨q1, r1, t1, -⟩ := py3_a b1 h1
  obtain ⟨q2, r2, t2, -⟩ := py3_a b2 h2
  obtain ⟨q3, r3, t3, s3⟩ := py3_a b3 h3
  have e3 : pc3 (nI (256 * (256 * (256 * py2 (py1 b3) + py2 (py1 b2)) + py2 (py1 b1)) + py2 (py1 b0))) = nI (256 * (256 * (256 * pyc b3 + pyc b2) + pyc b1) + pyc b0) := by
    unfold pc3
    rw [ush_n (k := 4) (by omega) 4 (by decide), show (252645135 : Int32) = nI (256 * (256 * (256 * 15 + 15) + 15) + 15) from rfl, nI_add, fa_and, show (2 : Nat) ^ 4 = 16 from rfl, st3 h0 (by omega), st3 h1 (by omega), st3 h2 (by omega)]
    have := (s3 0 (by omega)).2
    rw [Nat.mul_zero, Nat.add_zero] at this
    rw [this]
  unfold pcI
  rw [e1, e2, e3]
  unfold pc4 pc5
  generalize pyc b0 = a0 at t0 ⊢
  generalize pyc b1 = a1 at t1 ⊢
  generalize pyc b2 = a2 at t2 ⊢
  generalize pyc b3 = a3 at t3 ⊢
  have f1 : (256 * (256 * (256 * a3 + a2) + a1) + a0) / 2 ^ 8 = 256 * (256 * a3 + a2) + a1 := by omega
  have f2 : (256 * (256 * (256 * a3 + a2) + a1) + a0 + (256 * (256 * a3 + a2) + a1)) / 2 ^ 16 = 256 * a3 + (a2 + a3) := by omega
  rw [ush_n (k := 8) (by omega) 8 (by decide), nI_add, f1, ush_n (k := 16) (by omega) 16 (by decide), nI_add, f2, show (63 : Int32) = nI (2 ^ 6 - 1) from rfl, fa_mask]
  congr 1
  omega
def ca_J6_bitCount_0f7a4 : (Int32) → List zV := fun x => [vI x]
def cp_J6_bitCount_0f7a4 : (Int32) → zH → Prop := fun _ _ => True
def cf_J6_bitCount_0f7a4 : (Int32) → zH → Int32 := fun x _ => pcI x
set_option maxHeartbeats 4000000 in
set_option maxRecDepth 100000 in
theorem m_J6_bitCount_0f7a4 : zM yJ6_bitCount_0f7a4 cJ6_bitCount_0f7a4 1 (some .int) ({ frames := 0, cells := 0, slots := 0, locals := 0 } : Room) (zcI ca_J6_bitCount_0f7a4 cp_J6_bitCount_0f7a4 cf_J6_bitCount_0f7a4) := by
  refine zM_of (by decide) ?_
  rintro X Y x h _ O E hR
  have B_0 := zr_iload_n (X := X) (Y := Y) (u := 0) (v := 0) O dJ6_bitCount_0f7a4_0 rfl (zr_iload_n O dJ6_bitCount_0f7a4_1 rfl (zr_iconst (x := 1) O dJ6_bitCount_0f7a4_2 rfl (zr_iushr O dJ6_bitCount_0f7a4_3 (zr_ldcw (x := (1431655765)) O dJ6_bitCount_0f7a4_4 tw_769 (zr_iand O dJ6_bitCount_0f7a4_7 (zr_isub O dJ6_bitCount_0f7a4_8 (zr_istore_n O dJ6_bitCount_0f7a4_9 rfl (zr_iload_n O dJ6_bitCount_0f7a4_10 rfl (zr_ldcw (x := (858993459)) O dJ6_bitCount_0f7a4_11 tw_770 (zr_iand O dJ6_bitCount_0f7a4_14 (zr_iload_n O dJ6_bitCount_0f7a4_15 rfl (zr_iconst (x := 2) O dJ6_bitCount_0f7a4_16 rfl (zr_iushr O dJ6_bitCount_0f7a4_17 (zr_ldcw (x := (858993459)) O dJ6_bitCount_0f7a4_18 tw_770 (zr_iand O dJ6_bitCount_0f7a4_21 (zr_iadd O dJ6_bitCount_0f7a4_22 (zr_istore_n O dJ6_bitCount_0f7a4_23 rfl (zr_iload_n O dJ6_bitCount_0f7a4_24 rfl (zr_iload_n O dJ6_bitCount_0f7a4_25 rfl (zr_iconst (x := 4) O dJ6_bitCount_0f7a4_26 rfl (zr_iushr O dJ6_bitCount_0f7a4_27 (zr_iadd O dJ6_bitCount_0f7a4_28 (zr_ldcw (x := (252645135)) O dJ6_bitCount_0f7a4_29 tw_771 (zr_iand O dJ6_bitCount_0f7a4_32 (zr_istore_n O dJ6_bitCount_0f7a4_33 rfl (zr_iload_n O dJ6_bitCount_0f7a4_34 rfl (zr_iload_n O dJ6_bitCount_0f7a4_35 rfl (zr_bipush (x := (8)) O dJ6_bitCount_0f7a4_36 (by decide) (zr_iushr O dJ6_bitCount_0f7a4_38 (zr_iadd O dJ6_bitCount_0f7a4_39 (zr_istore_n O dJ6_bitCount_0f7a4_40 rfl (zr_iload_n O dJ6_bitCount_0f7a4_41 rfl (zr_iload_n O dJ6_bitCount_0f7a4_42 rfl (zr_bipush (x := (16)) O dJ6_bitCount_0f7a4_43 (by decide) (zr_iushr O dJ6_bitCount_0f7a4_45 (zr_iadd O dJ6_bitCount_0f7a4_46 (zr_istore_n O dJ6_bitCount_0f7a4_47 rfl (zr_iload_n O dJ6_bitCount_0f7a4_48 rfl (zr_bipush (x := (63)) O dJ6_bitCount_0f7a4_49 (by decide) (zr_iand O dJ6_bitCount_0f7a4_51 (zr_ireturn O E (Nat.le_refl _) (Nat.le_refl _) dJ6_bitCount_0f7a4_52)))))))))))))))))))))))))))))))))))))))))
  refine ⟨rfl, Nat.le_of_ble_eq_true rfl, _, B_0, ?_⟩
  exact ⟨rfl, rfl⟩
def ca_X10_bitIn : (Int32 × Int32) → List zV := fun (x, i) => [vI x, vI i]
def cp_X10_bitIn : (Int32 × Int32) → zH → Prop := fun _ _ => True
def cf_X10_bitIn : (Int32 × Int32) → zH → Int32 := fun (x, i) _ => (x >>> (i &&& 31)) &&& 1
set_option maxHeartbeats 4000000 in
set_option maxRecDepth 100000 in
theorem m_X10_bitIn : zM yX10_bitIn cX10_bitIn 2 (some .int) ({ frames := 0, cells := 0, slots := 0, locals := 0 } : Room) (zcI ca_X10_bitIn cp_X10_bitIn cf_X10_bitIn) := by
  refine zM_of (by decide) ?_
  rintro X Y ⟨x, i⟩ h _ O E hR
  have B_0 := zr_iload_n (X := X) (Y := Y) (u := 0) (v := 0) O dX10_bitIn_0 rfl (zr_iload_n O dX10_bitIn_1 rfl (zr_ishr O dX10_bitIn_2 (zr_iconst (x := 1) O dX10_bitIn_3 rfl (zr_iand O dX10_bitIn_4 (zr_ireturn O E (Nat.le_refl _) (Nat.le_refl _) dX10_bitIn_5)))))
  refine ⟨rfl, Nat.le_of_ble_eq_true rfl, _, B_0, ?_⟩
  exact ⟨rfl, rfl⟩
/-! the codes -/
def lnR (r : Nat) : Nat := if r = 0 then 7 else r
def btR (r : Nat) : Nat := if r = 0 then 4 else 1
def mdR (r : Nat) : Nat := if r = 0 then 1 else (r - 1) / 2
def ca_X0_isRepeat : (Int32) → List zV := fun x => [vI x]
def cp_X0_isRepeat : (Int32) → zH → Prop := fun _ _ => True
def cf_X0_isRepeat : (Int32) → zH → Int32 := fun x _ => if x = 1 ∨ x = 3 ∨ x = 5 ∨ x = 7 then 1 else 0
set_option maxHeartbeats 4000000 in
set_option maxRecDepth 100000 in
theorem m_X0_isRepeat : zM yX0_isRepeat cX0_isRepeat 1 (some .boolean) ({ frames := 0, cells := 0, slots := 0, locals := 0 } : Room) (zcI ca_X0_isRepeat cp_X0_isRepeat cf_X0_isRepeat) := by
  refine zM_of (by decide) ?_
  rintro X Y x h _ O E hR
  have B_26 := zr_zreturn (X := X) (Y := Y) (u := 0) (v := 0) O E (Nat.le_refl _) (Nat.le_refl _) dX0_isRepeat_26
  have B_25 := zr_iconst (X := X) (Y := Y) (u := 0) (v := 0) (x := 0) O dX0_isRepeat_25 rfl (B_26)
  have B_21 := zr_iconst (X := X) (Y := Y) (u := 0) (v := 0) (x := 1) O dX0_isRepeat_21 rfl (zr_goto (tgt := 26) O dX0_isRepeat_22 rfl B_26)
  have B_0 := zr_iload_n (X := X) (Y := Y) (u := 0) (v := 0) O dX0_isRepeat_0 rfl (zr_iconst (x := 1) O dX0_isRepeat_1 rfl (zr_iceq (tgt := 21) O dX0_isRepeat_2 rfl B_21 (zr_iload_n O dX0_isRepeat_5 rfl (zr_iconst (x := 3) O dX0_isRepeat_6 rfl (zr_iceq (tgt := 21) O dX0_isRepeat_7 rfl B_21 (zr_iload_n O dX0_isRepeat_10 rfl (zr_iconst (x := 5) O dX0_isRepeat_11 rfl (zr_iceq (tgt := 21) O dX0_isRepeat_12 rfl B_21 (zr_iload_n O dX0_isRepeat_15 rfl (zr_bipush (x := (7)) O dX0_isRepeat_16 (by decide) (zr_icne (tgt := 25) O dX0_isRepeat_18 rfl B_25 (B_21))))))))))))
  refine ⟨rfl, Nat.le_of_ble_eq_true rfl, _, B_0, ?_⟩
  refine ⟨fun c => ⟨Or.inr rfl, zri ?_, rfl⟩, fun c => ⟨fun d => ⟨Or.inr rfl, zri ?_, rfl⟩, fun d => ⟨fun e => ⟨Or.inr rfl, zri ?_, rfl⟩, fun e => ⟨fun f => ⟨Or.inl rfl, zri ?_, rfl⟩, fun f => ⟨Or.inr rfl, zri ?_, rfl⟩⟩⟩⟩⟩
  · exact (if_pos (Or.inl c)).symm
  · exact (if_pos (Or.inr (Or.inl d))).symm
  · exact (if_pos (Or.inr (Or.inr (Or.inl e)))).symm
  · exact (if_neg (fun z => z.elim c (fun z => z.elim d (fun z => z.elim e f)))).symm
  · exact (if_pos (Or.inr (Or.inr (Or.inr f)))).symm
def ca_X0_lengthOf : (Nat) → List zV := fun r => [vI (nI r)]
def cp_X0_lengthOf : (Nat) → zH → Prop := fun r _ => vRp r
def cf_X0_lengthOf : (Nat) → zH → Int32 := fun r _ => nI (lnR r)
set_option maxHeartbeats 4000000 in
set_option maxRecDepth 100000 in
theorem m_X0_lengthOf : zM yX0_lengthOf cX0_lengthOf 1 (some .int) ({ frames := 1, cells := 0, slots := 0, locals := 21 } : Room) (zcI ca_X0_lengthOf cp_X0_lengthOf cf_X0_lengthOf) := by
  refine zM_of (by decide) ?_
  rintro X Y r h hr O E hR
  have B_14 := zr_ireturn (X := X) (Y := Y) (u := 0) (v := 0) O E (Nat.le_refl _) (Nat.le_refl _) dX0_lengthOf_14
  have B_9 := zr_iload_n (X := X) (Y := Y) (u := 0) (v := 0) O dX0_lengthOf_9 rfl (zr_iconst (x := 1) O dX0_lengthOf_10 rfl (zr_max O zwm tw_775 (zrm hR rfl rfl) dX0_lengthOf_11 (B_14)))
  have B_0 := zr_iload_n (X := X) (Y := Y) (u := 0) (v := 0) O dX0_lengthOf_0 rfl (zr_ifne (tgt := 9) O dX0_lengthOf_1 rfl B_9 (zr_bipush (x := (7)) O dX0_lengthOf_4 (by decide) (zr_goto (tgt := 14) O dX0_lengthOf_6 rfl B_14)))
  refine ⟨rfl, Nat.le_of_ble_eq_true rfl, _, B_0, ?_⟩
  rcases hr with rfl | rfl | rfl | rfl | rfl
  · exact ⟨fun c => absurd rfl c, fun c => ⟨rfl, rfl⟩⟩
  · exact ⟨fun c => ⟨rfl, rfl⟩, fun c => absurd c (by decide)⟩
  · exact ⟨fun c => ⟨rfl, rfl⟩, fun c => absurd c (by decide)⟩
  · exact ⟨fun c => ⟨rfl, rfl⟩, fun c => absurd c (by decide)⟩
  · exact ⟨fun c => ⟨rfl, rfl⟩, fun c => absurd c (by decide)⟩
def ca_X0_bitsOf : (Nat) → List zV := fun r => [vI (nI r)]
def cp_X0_bitsOf : (Nat) → zH → Prop := fun r _ => vRp r
def cf_X0_bitsOf : (Nat) → zH → Int32 := fun r _ => nI (btR r)
set_option maxHeartbeats 4000000 in
set_option maxRecDepth 100000 in
theorem m_X0_bitsOf : zM yX0_bitsOf cX0_bitsOf 1 (some .int) ({ frames := 0, cells := 0, slots := 0, locals := 0 } : Room) (zcI ca_X0_bitsOf cp_X0_bitsOf cf_X0_bitsOf) := by
  refine zM_of (by decide) ?_
  rintro X Y r h hr O E hR
  have B_9 := zr_ireturn (X := X) (Y := Y) (u := 0) (v := 0) O E (Nat.le_refl _) (Nat.le_refl _) dX0_bitsOf_9
  have B_8 := zr_iconst (X := X) (Y := Y) (u := 0) (v := 0) (x := 1) O dX0_bitsOf_8 rfl (B_9)
  have B_0 := zr_iload_n (X := X) (Y := Y) (u := 0) (v := 0) O dX0_bitsOf_0 rfl (zr_ifne (tgt := 8) O dX0_bitsOf_1 rfl B_8 (zr_iconst (x := 4) O dX0_bitsOf_4 rfl (zr_goto (tgt := 9) O dX0_bitsOf_5 rfl B_9)))
  refine ⟨rfl, Nat.le_of_ble_eq_true rfl, _, B_0, ?_⟩
  rcases hr with rfl | rfl | rfl | rfl | rfl
  · exact ⟨fun c => absurd rfl c, fun c => ⟨rfl, rfl⟩⟩
  · exact ⟨fun c => ⟨rfl, rfl⟩, fun c => absurd c (by decide)⟩
  · exact ⟨fun c => ⟨rfl, rfl⟩, fun c => absurd c (by decide)⟩
  · exact ⟨fun c => ⟨rfl, rfl⟩, fun c => absurd c (by decide)⟩
  · exact ⟨fun c => ⟨rfl, rfl⟩, fun c => absurd c (by decide)⟩
def ca_X0_mendedBy : (Nat) → List zV := fun r => [vI (nI r)]
def cp_X0_mendedBy : (Nat) → zH → Prop := fun r _ => vRp r
def cf_X0_mendedBy : (Nat) → zH → Int32 := fun r _ => nI (mdR r)
set_option maxHeartbeats 4000000 in
set_option maxRecDepth 100000 in
theorem m_X0_mendedBy : zM yX0_mendedBy cX0_mendedBy 1 (some .int) ({ frames := 0, cells := 0, slots := 0, locals := 0 } : Room) (zcI ca_X0_mendedBy cp_X0_mendedBy cf_X0_mendedBy) := by
  refine zM_of (by decide) ?_
  rintro X Y r h hr O E hR
  have B_13 := zr_ireturn (X := X) (Y := Y) (u := 0) (v := 0) O E (Nat.le_refl _) (Nat.le_refl _) dX0_mendedBy_13
  have B_8 := zr_iload_n (X := X) (Y := Y) (u := 0) (v := 0) O dX0_mendedBy_8 rfl (zr_iconst (x := 1) O dX0_mendedBy_9 rfl (zr_isub O dX0_mendedBy_10 (zr_iconst (x := 2) O dX0_mendedBy_11 rfl (zr_idiv O dX0_mendedBy_12 (B_13)))))
  have B_0 := zr_iload_n (X := X) (Y := Y) (u := 0) (v := 0) O dX0_mendedBy_0 rfl (zr_ifne (tgt := 8) O dX0_mendedBy_1 rfl B_8 (zr_iconst (x := 1) O dX0_mendedBy_4 rfl (zr_goto (tgt := 13) O dX0_mendedBy_5 rfl B_13)))
  refine ⟨rfl, Nat.le_of_ble_eq_true rfl, _, B_0, ?_⟩
  rcases hr with rfl | rfl | rfl | rfl | rfl
  · exact ⟨fun c => absurd rfl c, fun c => ⟨rfl, rfl⟩⟩
  · exact ⟨fun c => ⟨by decide, rfl, rfl⟩, fun c => absurd c (by decide)⟩
  · exact ⟨fun c => ⟨by decide, rfl, rfl⟩, fun c => absurd c (by decide)⟩
  · exact ⟨fun c => ⟨by decide, rfl, rfl⟩, fun c => absurd c (by decide)⟩
  · exact ⟨fun c => ⟨by decide, rfl, rfl⟩, fun c => absurd c (by decide)⟩
/-- the check, bit by bit: the i-th bit of data comes -/
def ckS (v : Nat) (b : Bool) : Nat := if 15 < 2 * v + b.toNat then (2 * v + b.toNat - 16) ^^^ 3 else 2 * v + b.toNat
def ckW (c data : Nat) : Nat → Nat
  | 0 => c
  | n + 1 => ckS (ckW c data n) (data.testBit n)
theorem ckS_lt : ∀ v, v < 16 → ∀ b : Bool, ckS v b < 16 := by decide +kernel
theorem ckW_lt {c : Nat} (hc : c < 16) (data : Nat) : ∀ n, ckW c data n < 16
  | 0 => hc
  | n + 1 => ckS_lt _ (ckW_lt hc data n) _
theorem ckS_i : ∀ v, v < 16 → ∀ b : Bool, (2 : Int32) * nI v + bI b = nI (2 * v + b.toNat) ∧ (15 < 2 * v + b.toNat → ((2 : Int32) * nI v + bI b - 16) ^^^ 3 = nI ((2 * v + b.toNat - 16) ^^^ 3)) := by decide +kernel
def ca_X0_checkWith : (Nat × Nat × Nat) → List zV := fun (c, x, n) => [vI (nI c), vI (nI x), vI (nI n)]
def cp_X0_checkWith : (Nat × Nat × Nat) → zH → Prop := fun (c, x, n) _ => c < 16 ∧ x < 2 ^ 31 ∧ n ≤ 16
def cf_X0_checkWith : (Nat × Nat × Nat) → zH → Int32 := fun (c, x, n) _ => nI (ckW c x n)
set_option maxHeartbeats 4000000 in
set_option maxRecDepth 100000 in
theorem m_X0_checkWith : zM yX0_checkWith cX0_checkWith 5 (some .int) ({ frames := 1, cells := 0, slots := 0, locals := 21 } : Room) (zcI ca_X0_checkWith cp_X0_checkWith cf_X0_checkWith) := by
  refine zM_of (by decide) ?_
  rintro X Y ⟨c, x, n⟩ h ⟨hc, hx, hn⟩ O E hR
  have B_41 := zr_iload_n (X := X) (Y := Y) (u := 0) (v := 0) O dX0_checkWith_41 rfl (zr_ireturn O E (Nat.le_refl _) (Nat.le_refl _) dX0_checkWith_42)
  have L_5 : ∀ nn : Nat, zSd X Y 0 0 5 ((fun k ls st h1 => ∃ (i : Nat) (y z : Int32), k = n - i ∧ i ≤ n ∧ ls = [some (vI (nI c)), some (vI (nI x)), some (vI (nI n)), some (vI y), some (vI z)] ∧ y = nI (ckW c x i) ∧ z = nI i ∧ st = [] ∧ h = h1 : Nat → zT) nn) := by
    refine zSd_loop (fun nn ih => ?_)
    have B_35 := zr_iinc (X := X) (Y := Y) (u := 0) (v := 0) (c := 1) O dX0_checkWith_35 rfl (zr_goto (tgt := 5) O dX0_checkWith_38 rfl ih)
    have B_5 := zr_iload (X := X) (Y := Y) (u := 0) (v := 0) O dX0_checkWith_5 (zr_iload_n O dX0_checkWith_7 rfl (zr_icge (tgt := 41) O dX0_checkWith_8 rfl B_41 (zr_iconst (x := 2) O dX0_checkWith_11 rfl (zr_iload_n O dX0_checkWith_12 rfl (zr_imul O dX0_checkWith_13 (zr_iload_n O dX0_checkWith_14 rfl (zr_iload O dX0_checkWith_15 (zr_cI (zr_cSN (n := 2) O m_X10_bitIn (bn_X10_bitIn _ ⟨rfl, rfl⟩) tw_374 wn_RX0_30 (zrm hR rfl rfl) dX0_checkWith_17 (zr_iadd O dX0_checkWith_20 (zr_istore_n O dX0_checkWith_21 rfl (zr_iload_n O dX0_checkWith_22 rfl (zr_bipush (x := (15)) O dX0_checkWith_23 (by decide) (zr_icle (tgt := 35) O dX0_checkWith_25 rfl B_35 (zr_iload_n O dX0_checkWith_28 rfl (zr_bipush (x := (16)) O dX0_checkWith_29 (by decide) (zr_isub O dX0_checkWith_31 (zr_iconst (x := 3) O dX0_checkWith_32 rfl (zr_ixor O dX0_checkWith_33 (zr_istore_n O dX0_checkWith_34 rfl (B_35)))))))))))))))))))))
    refine zSd_weak B_5 (fun ls st h1 t => ?_)
    obtain ⟨i, y, z, rfl, hi, rfl, rfl, rfl, rfl, rfl⟩ := t
    have hv := ckW_lt hc x i
    refine ⟨fun d => ⟨zri ?_, rfl⟩, fun d => ?_⟩
    · have := (nI_leI (by omega) (by omega)).mp d
      rw [show i = n by omega]; rfl
    · have hin : i < n := Nat.not_le.mp (fun z => d ((nI_leI (by omega) (by omega)).mpr z))
      have hb : (nI x >>> (nI i &&& 31)) &&& 1 = bI (x.testBit i) := bI_in hx (by omega)
      obtain ⟨e1, e2⟩ := ckS_i _ hv (x.testBit i)
      have hw : ckW c x (i + 1) = ckS (ckW c x i) (x.testBit i) := rfl
      refine ⟨(nI x, nI i), rfl, trivial, fun q => ⟨n - (i + 1), by omega, i + 1, _, _, rfl, by omega, rfl, ?_, nI_1 i, rfl, rfl⟩, fun q => ⟨n - (i + 1), by omega, i + 1, _, _, rfl, by omega, rfl, ?_, nI_1 i, rfl, rfl⟩⟩
      · replace q : (2 : Int32) * nI (ckW c x i) + ((nI x >>> (nI i &&& 31)) &&& 1) ≤ 15 := q
        show (2 : Int32) * nI (ckW c x i) + ((nI x >>> (nI i &&& 31)) &&& 1) = _
        rw [hb, e1] at q ⊢
        have := (nI_leI (b := 15) (by cases x.testBit i <;> simp <;> omega) (by omega)).mp q
        rw [hw, ckS, if_neg (by omega)]
      · replace q : ¬ (2 : Int32) * nI (ckW c x i) + ((nI x >>> (nI i &&& 31)) &&& 1) ≤ 15 := q
        show (((2 : Int32) * nI (ckW c x i) + ((nI x >>> (nI i &&& 31)) &&& 1)) - 16) ^^^ 3 = _
        rw [hb] at q ⊢
        rw [e1] at q
        have q2 : 15 < 2 * ckW c x i + (x.testBit i).toNat := Nat.not_le.mp (fun z => q ((nI_leI (b := 15) (by cases x.testBit i <;> simp <;> omega) (by omega)).mpr z))
        rw [e2 q2, hw, ckS, if_pos q2]
  have B_5 := zSd_any L_5
  have B_0 := zr_iload_n (X := X) (Y := Y) (u := 0) (v := 0) O dX0_checkWith_0 rfl (zr_istore_n O dX0_checkWith_1 rfl (zr_iconst (x := 0) O dX0_checkWith_2 rfl (zr_istore O dX0_checkWith_3 (B_5))))
  refine ⟨rfl, Nat.le_of_ble_eq_true rfl, _, B_0, ?_⟩
  exact ⟨n - 0, 0, _, _, rfl, Nat.zero_le _, rfl, rfl, rfl, rfl, rfl⟩
end
section
theorem dX6_marginOf_98 : decode cX6_marginOf 98 = .ok (.iload 5, 2) := by decide +kernel
theorem dX6_marginOf_100 : decode cX6_marginOf 100 = .ok (.aload_n 0, 1) := by decide +kernel
theorem dX6_marginOf_101 : decode cX6_marginOf 101 = .ok (.getfield 18, 3) := by decide +kernel
theorem dX6_marginOf_104 : decode cX6_marginOf 104 = .ok (.iload_n 2, 1) := by decide +kernel
theorem dX6_marginOf_105 : decode cX6_marginOf 105 = .ok (.iaload, 1) := by decide +kernel
theorem dX6_marginOf_106 : decode cX6_marginOf 106 = .ok (.isub, 1) := by decide +kernel
theorem dX6_marginOf_107 : decode cX6_marginOf 107 = .ok (.aload_n 0, 1) := by decide +kernel
theorem dX6_marginOf_108 : decode cX6_marginOf 108 = .ok (.getfield 18, 3) := by decide +kernel
theorem dX6_marginOf_111 : decode cX6_marginOf 111 = .ok (.iload_n 3, 1) := by decide +kernel
theorem dX6_marginOf_112 : decode cX6_marginOf 112 = .ok (.iaload, 1) := by decide +kernel
theorem dX6_marginOf_113 : decode cX6_marginOf 113 = .ok (.isub, 1) := by decide +kernel
theorem dX6_marginOf_114 : decode cX6_marginOf 114 = .ok (.ireturn, 1) := by decide +kernel
theorem dX6_marginOf_56 : decode cX6_marginOf 56 = .ok (.iload 6, 2) := by decide +kernel
theorem dX6_marginOf_58 : decode cX6_marginOf 58 = .ok (.aload_n 0, 1) := by decide +kernel
theorem dX6_marginOf_59 : decode cX6_marginOf 59 = .ok (.getfield 27, 3) := by decide +kernel
theorem dX6_marginOf_62 : decode cX6_marginOf 62 = .ok (.iconst 2, 1) := by decide +kernel
theorem dX6_marginOf_63 : decode cX6_marginOf 63 = .ok (.iaload, 1) := by decide +kernel
theorem dX6_marginOf_64 : decode cX6_marginOf 64 = .ok (.if_icmp .gt 34, 3) := by decide +kernel
theorem dX6_marginOf_67 : decode cX6_marginOf 67 = .ok (.iload 5, 2) := by decide +kernel
theorem dX6_marginOf_69 : decode cX6_marginOf 69 = .ok (.iload 4, 2) := by decide +kernel
theorem dX6_marginOf_71 : decode cX6_marginOf 71 = .ok (.aload_n 0, 1) := by decide +kernel
theorem dX6_marginOf_72 : decode cX6_marginOf 72 = .ok (.iload_n 2, 1) := by decide +kernel
theorem dX6_marginOf_73 : decode cX6_marginOf 73 = .ok (.iload 6, 2) := by decide +kernel
theorem dX6_marginOf_75 : decode cX6_marginOf 75 = .ok (.invokevirtual 43, 3) := by decide +kernel
theorem dX6_marginOf_78 : decode cX6_marginOf 78 = .ok (.aload_n 0, 1) := by decide +kernel
theorem dX6_marginOf_79 : decode cX6_marginOf 79 = .ok (.iload_n 3, 1) := by decide +kernel
theorem dX6_marginOf_80 : decode cX6_marginOf 80 = .ok (.iload 6, 2) := by decide +kernel
theorem dX6_marginOf_82 : decode cX6_marginOf 82 = .ok (.invokevirtual 43, 3) := by decide +kernel
theorem dX6_marginOf_85 : decode cX6_marginOf 85 = .ok (.isub, 1) := by decide +kernel
theorem dX6_marginOf_86 : decode cX6_marginOf 86 = .ok (.imul, 1) := by decide +kernel
theorem dX6_marginOf_87 : decode cX6_marginOf 87 = .ok (.invokestatic 55, 3) := by decide +kernel
theorem dX6_marginOf_90 : decode cX6_marginOf 90 = .ok (.istore 5, 2) := by decide +kernel
theorem dX6_marginOf_92 : decode cX6_marginOf 92 = .ok (.iinc 6 1, 3) := by decide +kernel
theorem dX6_marginOf_95 : decode cX6_marginOf 95 = .ok (.goto (-39), 3) := by decide +kernel
theorem dX6_marginOf_28 : decode cX6_marginOf 28 = .ok (.istore 4, 2) := by decide +kernel
theorem dX6_marginOf_30 : decode cX6_marginOf 30 = .ok (.iload 4, 2) := by decide +kernel
theorem dX6_marginOf_32 : decode cX6_marginOf 32 = .ok (.aload_n 0, 1) := by decide +kernel
theorem dX6_marginOf_33 : decode cX6_marginOf 33 = .ok (.getfield 9, 3) := by decide +kernel
theorem dX6_marginOf_36 : decode cX6_marginOf 36 = .ok (.iload_n 2, 1) := by decide +kernel
theorem dX6_marginOf_37 : decode cX6_marginOf 37 = .ok (.iaload, 1) := by decide +kernel
theorem dX6_marginOf_38 : decode cX6_marginOf 38 = .ok (.aload_n 0, 1) := by decide +kernel
theorem dX6_marginOf_39 : decode cX6_marginOf 39 = .ok (.getfield 9, 3) := by decide +kernel
theorem dX6_marginOf_42 : decode cX6_marginOf 42 = .ok (.iload_n 3, 1) := by decide +kernel
theorem dX6_marginOf_43 : decode cX6_marginOf 43 = .ok (.iaload, 1) := by decide +kernel
theorem dX6_marginOf_44 : decode cX6_marginOf 44 = .ok (.isub, 1) := by decide +kernel
theorem dX6_marginOf_45 : decode cX6_marginOf 45 = .ok (.imul, 1) := by decide +kernel
theorem dX6_marginOf_46 : decode cX6_marginOf 46 = .ok (.istore 5, 2) := by decide +kernel
theorem dX6_marginOf_48 : decode cX6_marginOf 48 = .ok (.aload_n 0, 1) := by decide +kernel
theorem dX6_marginOf_49 : decode cX6_marginOf 49 = .ok (.getfield 27, 3) := by decide +kernel
theorem dX6_marginOf_52 : decode cX6_marginOf 52 = .ok (.iconst 1, 1) := by decide +kernel
theorem dX6_marginOf_53 : decode cX6_marginOf 53 = .ok (.iaload, 1) := by decide +kernel
theorem dX6_marginOf_54 : decode cX6_marginOf 54 = .ok (.istore 6, 2) := by decide +kernel
theorem dX6_marginOf_27 : decode cX6_marginOf 27 = .ok (.iconst (-1), 1) := by decide +kernel
theorem dX6_marginOf_0 : decode cX6_marginOf 0 = .ok (.aload_n 0, 1) := by decide +kernel
theorem dX6_marginOf_1 : decode cX6_marginOf 1 = .ok (.getfield 21, 3) := by decide +kernel
theorem dX6_marginOf_4 : decode cX6_marginOf 4 = .ok (.iload_n 1, 1) := by decide +kernel
theorem dX6_marginOf_5 : decode cX6_marginOf 5 = .ok (.iaload, 1) := by decide +kernel
theorem dX6_marginOf_6 : decode cX6_marginOf 6 = .ok (.istore_n 2, 1) := by decide +kernel
theorem dX6_marginOf_7 : decode cX6_marginOf 7 = .ok (.aload_n 0, 1) := by decide +kernel
theorem dX6_marginOf_8 : decode cX6_marginOf 8 = .ok (.getfield 24, 3) := by decide +kernel
theorem dX6_marginOf_11 : decode cX6_marginOf 11 = .ok (.iload_n 1, 1) := by decide +kernel
theorem dX6_marginOf_12 : decode cX6_marginOf 12 = .ok (.iaload, 1) := by decide +kernel
theorem dX6_marginOf_13 : decode cX6_marginOf 13 = .ok (.istore_n 3, 1) := by decide +kernel
theorem dX6_marginOf_14 : decode cX6_marginOf 14 = .ok (.aload_n 0, 1) := by decide +kernel
theorem dX6_marginOf_15 : decode cX6_marginOf 15 = .ok (.iload_n 1, 1) := by decide +kernel
theorem dX6_marginOf_16 : decode cX6_marginOf 16 = .ok (.invokevirtual 51, 3) := by decide +kernel
theorem dX6_marginOf_19 : decode cX6_marginOf 19 = .ok (.iconst 1, 1) := by decide +kernel
theorem dX6_marginOf_20 : decode cX6_marginOf 20 = .ok (.if_icmp .ne 7, 3) := by decide +kernel
theorem dX6_marginOf_23 : decode cX6_marginOf 23 = .ok (.iconst 1, 1) := by decide +kernel
theorem dX6_marginOf_24 : decode cX6_marginOf 24 = .ok (.goto 4, 3) := by decide +kernel
theorem dX6_pairsWith_46 : decode cX6_pairsWith 46 = .ok (.iload_n 2, 1) := by decide +kernel
theorem dX6_pairsWith_47 : decode cX6_pairsWith 47 = .ok (.ireturn, 1) := by decide +kernel
theorem dX6_pairsWith_38 : decode cX6_pairsWith 38 = .ok (.iadd, 1) := by decide +kernel
theorem dX6_pairsWith_39 : decode cX6_pairsWith 39 = .ok (.istore_n 2, 1) := by decide +kernel
theorem dX6_pairsWith_40 : decode cX6_pairsWith 40 = .ok (.iinc 3 1, 3) := by decide +kernel
theorem dX6_pairsWith_43 : decode cX6_pairsWith 43 = .ok (.goto (-39), 3) := by decide +kernel
theorem dX6_pairsWith_37 : decode cX6_pairsWith 37 = .ok (.iconst 0, 1) := by decide +kernel
theorem dX6_pairsWith_33 : decode cX6_pairsWith 33 = .ok (.iconst 1, 1) := by decide +kernel
theorem dX6_pairsWith_34 : decode cX6_pairsWith 34 = .ok (.goto 4, 3) := by decide +kernel
theorem dX6_pairsWith_4 : decode cX6_pairsWith 4 = .ok (.iload_n 3, 1) := by decide +kernel
theorem dX6_pairsWith_5 : decode cX6_pairsWith 5 = .ok (.aload_n 0, 1) := by decide +kernel
theorem dX6_pairsWith_6 : decode cX6_pairsWith 6 = .ok (.getfield 34, 3) := by decide +kernel
theorem dX6_pairsWith_9 : decode cX6_pairsWith 9 = .ok (.if_icmp .ge 37, 3) := by decide +kernel
theorem dX6_pairsWith_12 : decode cX6_pairsWith 12 = .ok (.iload_n 2, 1) := by decide +kernel
theorem dX6_pairsWith_13 : decode cX6_pairsWith 13 = .ok (.aload_n 0, 1) := by decide +kernel
theorem dX6_pairsWith_14 : decode cX6_pairsWith 14 = .ok (.getfield 21, 3) := by decide +kernel
theorem dX6_pairsWith_17 : decode cX6_pairsWith 17 = .ok (.iload_n 3, 1) := by decide +kernel
theorem dX6_pairsWith_18 : decode cX6_pairsWith 18 = .ok (.iaload, 1) := by decide +kernel
theorem dX6_pairsWith_19 : decode cX6_pairsWith 19 = .ok (.iload_n 1, 1) := by decide +kernel
theorem dX6_pairsWith_20 : decode cX6_pairsWith 20 = .ok (.if_icmp .eq 13, 3) := by decide +kernel
theorem dX6_pairsWith_23 : decode cX6_pairsWith 23 = .ok (.aload_n 0, 1) := by decide +kernel
theorem dX6_pairsWith_24 : decode cX6_pairsWith 24 = .ok (.getfield 24, 3) := by decide +kernel
theorem dX6_pairsWith_27 : decode cX6_pairsWith 27 = .ok (.iload_n 3, 1) := by decide +kernel
theorem dX6_pairsWith_28 : decode cX6_pairsWith 28 = .ok (.iaload, 1) := by decide +kernel
theorem dX6_pairsWith_29 : decode cX6_pairsWith 29 = .ok (.iload_n 1, 1) := by decide +kernel
theorem dX6_pairsWith_30 : decode cX6_pairsWith 30 = .ok (.if_icmp .ne 7, 3) := by decide +kernel
theorem dX6_pairsWith_0 : decode cX6_pairsWith 0 = .ok (.iconst 0, 1) := by decide +kernel
theorem dX6_pairsWith_1 : decode cX6_pairsWith 1 = .ok (.istore_n 2, 1) := by decide +kernel
theorem dX6_pairsWith_2 : decode cX6_pairsWith 2 = .ok (.iconst 0, 1) := by decide +kernel
theorem dX6_pairsWith_3 : decode cX6_pairsWith 3 = .ok (.istore_n 3, 1) := by decide +kernel
theorem dX6_ringsAheadOf_65 : decode cX6_ringsAheadOf 65 = .ok (.iload 4, 2) := by decide +kernel
theorem dX6_ringsAheadOf_67 : decode cX6_ringsAheadOf 67 = .ok (.ireturn, 1) := by decide +kernel
theorem dX6_ringsAheadOf_56 : decode cX6_ringsAheadOf 56 = .ok (.iadd, 1) := by decide +kernel
theorem dX6_ringsAheadOf_57 : decode cX6_ringsAheadOf 57 = .ok (.istore 4, 2) := by decide +kernel
theorem dX6_ringsAheadOf_59 : decode cX6_ringsAheadOf 59 = .ok (.iinc 5 1, 3) := by decide +kernel
theorem dX6_ringsAheadOf_62 : decode cX6_ringsAheadOf 62 = .ok (.goto (-49), 3) := by decide +kernel
theorem dX6_ringsAheadOf_55 : decode cX6_ringsAheadOf 55 = .ok (.iconst 0, 1) := by decide +kernel
theorem dX6_ringsAheadOf_51 : decode cX6_ringsAheadOf 51 = .ok (.iconst 1, 1) := by decide +kernel
theorem dX6_ringsAheadOf_52 : decode cX6_ringsAheadOf 52 = .ok (.goto 4, 3) := by decide +kernel
theorem dX6_ringsAheadOf_13 : decode cX6_ringsAheadOf 13 = .ok (.iload 5, 2) := by decide +kernel
theorem dX6_ringsAheadOf_15 : decode cX6_ringsAheadOf 15 = .ok (.aload_n 0, 1) := by decide +kernel
theorem dX6_ringsAheadOf_16 : decode cX6_ringsAheadOf 16 = .ok (.getfield 30, 3) := by decide +kernel
theorem dX6_ringsAheadOf_19 : decode cX6_ringsAheadOf 19 = .ok (.if_icmp .ge 46, 3) := by decide +kernel
theorem dX6_ringsAheadOf_22 : decode cX6_ringsAheadOf 22 = .ok (.aload_n 0, 1) := by decide +kernel
theorem dX6_ringsAheadOf_23 : decode cX6_ringsAheadOf 23 = .ok (.iload 5, 2) := by decide +kernel
theorem dX6_ringsAheadOf_25 : decode cX6_ringsAheadOf 25 = .ok (.iload_n 2, 1) := by decide +kernel
theorem dX6_ringsAheadOf_26 : decode cX6_ringsAheadOf 26 = .ok (.invokevirtual 43, 3) := by decide +kernel
theorem dX6_ringsAheadOf_29 : decode cX6_ringsAheadOf 29 = .ok (.istore 6, 2) := by decide +kernel
theorem dX6_ringsAheadOf_31 : decode cX6_ringsAheadOf 31 = .ok (.iload 4, 2) := by decide +kernel
theorem dX6_ringsAheadOf_33 : decode cX6_ringsAheadOf 33 = .ok (.iload 6, 2) := by decide +kernel
theorem dX6_ringsAheadOf_35 : decode cX6_ringsAheadOf 35 = .ok (.iload_n 3, 1) := by decide +kernel
theorem dX6_ringsAheadOf_36 : decode cX6_ringsAheadOf 36 = .ok (.if_icmp .gt 15, 3) := by decide +kernel
theorem dX6_ringsAheadOf_39 : decode cX6_ringsAheadOf 39 = .ok (.iload 6, 2) := by decide +kernel
theorem dX6_ringsAheadOf_41 : decode cX6_ringsAheadOf 41 = .ok (.iload_n 3, 1) := by decide +kernel
theorem dX6_ringsAheadOf_42 : decode cX6_ringsAheadOf 42 = .ok (.if_icmp .ne 13, 3) := by decide +kernel
theorem dX6_ringsAheadOf_45 : decode cX6_ringsAheadOf 45 = .ok (.iload 5, 2) := by decide +kernel
theorem dX6_ringsAheadOf_47 : decode cX6_ringsAheadOf 47 = .ok (.iload_n 1, 1) := by decide +kernel
theorem dX6_ringsAheadOf_48 : decode cX6_ringsAheadOf 48 = .ok (.if_icmp .ge 7, 3) := by decide +kernel
theorem dX6_ringsAheadOf_0 : decode cX6_ringsAheadOf 0 = .ok (.aload_n 0, 1) := by decide +kernel
theorem dX6_ringsAheadOf_1 : decode cX6_ringsAheadOf 1 = .ok (.iload_n 1, 1) := by decide +kernel
theorem dX6_ringsAheadOf_2 : decode cX6_ringsAheadOf 2 = .ok (.iload_n 2, 1) := by decide +kernel
theorem dX6_ringsAheadOf_3 : decode cX6_ringsAheadOf 3 = .ok (.invokevirtual 43, 3) := by decide +kernel
theorem dX6_ringsAheadOf_6 : decode cX6_ringsAheadOf 6 = .ok (.istore_n 3, 1) := by decide +kernel
theorem dX6_ringsAheadOf_7 : decode cX6_ringsAheadOf 7 = .ok (.iconst 0, 1) := by decide +kernel
theorem dX6_ringsAheadOf_8 : decode cX6_ringsAheadOf 8 = .ok (.istore 4, 2) := by decide +kernel
theorem dX6_ringsAheadOf_10 : decode cX6_ringsAheadOf 10 = .ok (.iconst 0, 1) := by decide +kernel
theorem dX6_ringsAheadOf_11 : decode cX6_ringsAheadOf 11 = .ok (.istore 5, 2) := by decide +kernel
theorem dX6_allPairs_0 : decode cX6_allPairs 0 = .ok (.iconst 1, 1) := by decide +kernel
theorem dX6_allPairs_1 : decode cX6_allPairs 1 = .ok (.aload_n 0, 1) := by decide +kernel
theorem dX6_allPairs_2 : decode cX6_allPairs 2 = .ok (.getfield 34, 3) := by decide +kernel
theorem dX6_allPairs_5 : decode cX6_allPairs 5 = .ok (.ishl, 1) := by decide +kernel
theorem dX6_allPairs_6 : decode cX6_allPairs 6 = .ok (.iconst 1, 1) := by decide +kernel
theorem dX6_allPairs_7 : decode cX6_allPairs 7 = .ok (.isub, 1) := by decide +kernel
theorem dX6_allPairs_8 : decode cX6_allPairs 8 = .ok (.ireturn, 1) := by decide +kernel
theorem dX6_steadyPairs_42 : decode cX6_steadyPairs 42 = .ok (.iload_n 1, 1) := by decide +kernel
theorem dX6_steadyPairs_43 : decode cX6_steadyPairs 43 = .ok (.ireturn, 1) := by decide +kernel
theorem dX6_steadyPairs_34 : decode cX6_steadyPairs 34 = .ok (.ior, 1) := by decide +kernel
theorem dX6_steadyPairs_35 : decode cX6_steadyPairs 35 = .ok (.istore_n 1, 1) := by decide +kernel
theorem dX6_steadyPairs_36 : decode cX6_steadyPairs 36 = .ok (.iinc 2 1, 3) := by decide +kernel
theorem dX6_steadyPairs_39 : decode cX6_steadyPairs 39 = .ok (.goto (-35), 3) := by decide +kernel
theorem dX6_steadyPairs_33 : decode cX6_steadyPairs 33 = .ok (.iconst 0, 1) := by decide +kernel
theorem dX6_steadyPairs_4 : decode cX6_steadyPairs 4 = .ok (.iload_n 2, 1) := by decide +kernel
theorem dX6_steadyPairs_5 : decode cX6_steadyPairs 5 = .ok (.aload_n 0, 1) := by decide +kernel
theorem dX6_steadyPairs_6 : decode cX6_steadyPairs 6 = .ok (.getfield 34, 3) := by decide +kernel
theorem dX6_steadyPairs_9 : decode cX6_steadyPairs 9 = .ok (.if_icmp .ge 33, 3) := by decide +kernel
theorem dX6_steadyPairs_12 : decode cX6_steadyPairs 12 = .ok (.iload_n 1, 1) := by decide +kernel
theorem dX6_steadyPairs_13 : decode cX6_steadyPairs 13 = .ok (.aload_n 0, 1) := by decide +kernel
theorem dX6_steadyPairs_14 : decode cX6_steadyPairs 14 = .ok (.iload_n 2, 1) := by decide +kernel
theorem dX6_steadyPairs_15 : decode cX6_steadyPairs 15 = .ok (.invokevirtual 60, 3) := by decide +kernel
theorem dX6_steadyPairs_18 : decode cX6_steadyPairs 18 = .ok (.aload_n 0, 1) := by decide +kernel
theorem dX6_steadyPairs_19 : decode cX6_steadyPairs 19 = .ok (.getfield 27, 3) := by decide +kernel
theorem dX6_steadyPairs_22 : decode cX6_steadyPairs 22 = .ok (.iconst 0, 1) := by decide +kernel
theorem dX6_steadyPairs_23 : decode cX6_steadyPairs 23 = .ok (.iaload, 1) := by decide +kernel
theorem dX6_steadyPairs_24 : decode cX6_steadyPairs 24 = .ok (.if_icmp .le 9, 3) := by decide +kernel
theorem dX6_steadyPairs_27 : decode cX6_steadyPairs 27 = .ok (.iconst 1, 1) := by decide +kernel
theorem dX6_steadyPairs_28 : decode cX6_steadyPairs 28 = .ok (.iload_n 2, 1) := by decide +kernel
theorem dX6_steadyPairs_29 : decode cX6_steadyPairs 29 = .ok (.ishl, 1) := by decide +kernel
theorem dX6_steadyPairs_30 : decode cX6_steadyPairs 30 = .ok (.goto 4, 3) := by decide +kernel
theorem dX6_steadyPairs_0 : decode cX6_steadyPairs 0 = .ok (.iconst 0, 1) := by decide +kernel
theorem dX6_steadyPairs_1 : decode cX6_steadyPairs 1 = .ok (.istore_n 1, 1) := by decide +kernel
theorem dX6_steadyPairs_2 : decode cX6_steadyPairs 2 = .ok (.iconst 0, 1) := by decide +kernel
theorem dX6_steadyPairs_3 : decode cX6_steadyPairs 3 = .ok (.istore_n 2, 1) := by decide +kernel
theorem dX6_usedPairs_21 : decode cX6_usedPairs 21 = .ok (.ireturn, 1) := by decide +kernel
theorem dX6_usedPairs_17 : decode cX6_usedPairs 17 = .ok (.aload_n 0, 1) := by decide +kernel
theorem dX6_usedPairs_18 : decode cX6_usedPairs 18 = .ok (.invokevirtual 67, 3) := by decide +kernel
theorem dX6_usedPairs_0 : decode cX6_usedPairs 0 = .ok (.aload_n 0, 1) := by decide +kernel
theorem dX6_usedPairs_1 : decode cX6_usedPairs 1 = .ok (.getfield 27, 3) := by decide +kernel
theorem dX6_usedPairs_4 : decode cX6_usedPairs 4 = .ok (.iconst 3, 1) := by decide +kernel
theorem dX6_usedPairs_5 : decode cX6_usedPairs 5 = .ok (.iaload, 1) := by decide +kernel
theorem dX6_usedPairs_6 : decode cX6_usedPairs 6 = .ok (.iconst 1, 1) := by decide +kernel
theorem dX6_usedPairs_7 : decode cX6_usedPairs 7 = .ok (.if_icmp .ne 10, 3) := by decide +kernel
theorem dX6_usedPairs_10 : decode cX6_usedPairs 10 = .ok (.aload_n 0, 1) := by decide +kernel
theorem dX6_usedPairs_11 : decode cX6_usedPairs 11 = .ok (.invokevirtual 63, 3) := by decide +kernel
theorem dX6_usedPairs_14 : decode cX6_usedPairs 14 = .ok (.goto 7, 3) := by decide +kernel
theorem dX6_blockCount_0 : decode cX6_blockCount 0 = .ok (.iload_n 1, 1) := by decide +kernel
theorem dX6_blockCount_1 : decode cX6_blockCount 1 = .ok (.invokestatic 70, 3) := by decide +kernel
theorem dX6_blockCount_4 : decode cX6_blockCount 4 = .ok (.aload_n 0, 1) := by decide +kernel
theorem dX6_blockCount_5 : decode cX6_blockCount 5 = .ok (.getfield 27, 3) := by decide +kernel
theorem dX6_blockCount_8 : decode cX6_blockCount 8 = .ok (.iconst 4, 1) := by decide +kernel
theorem dX6_blockCount_9 : decode cX6_blockCount 9 = .ok (.iaload, 1) := by decide +kernel
theorem dX6_blockCount_10 : decode cX6_blockCount 10 = .ok (.invokestatic 75, 3) := by decide +kernel
theorem dX6_blockCount_13 : decode cX6_blockCount 13 = .ok (.idiv, 1) := by decide +kernel
theorem dX6_blockCount_14 : decode cX6_blockCount 14 = .ok (.istore_n 2, 1) := by decide +kernel
theorem dX6_blockCount_15 : decode cX6_blockCount 15 = .ok (.iload_n 2, 1) := by decide +kernel
theorem dX6_blockCount_16 : decode cX6_blockCount 16 = .ok (.bipush 16, 2) := by decide +kernel
theorem dX6_blockCount_18 : decode cX6_blockCount 18 = .ok (.aload_n 0, 1) := by decide +kernel
theorem dX6_blockCount_19 : decode cX6_blockCount 19 = .ok (.getfield 27, 3) := by decide +kernel
theorem dX6_blockCount_22 : decode cX6_blockCount 22 = .ok (.iconst 4, 1) := by decide +kernel
theorem dX6_blockCount_23 : decode cX6_blockCount 23 = .ok (.iaload, 1) := by decide +kernel
theorem dX6_blockCount_24 : decode cX6_blockCount 24 = .ok (.invokestatic 80, 3) := by decide +kernel
theorem dX6_blockCount_27 : decode cX6_blockCount 27 = .ok (.idiv, 1) := by decide +kernel
theorem dX6_blockCount_28 : decode cX6_blockCount 28 = .ok (.invokestatic 55, 3) := by decide +kernel
theorem dX6_blockCount_31 : decode cX6_blockCount 31 = .ok (.ireturn, 1) := by decide +kernel
/-! margins, steady pairs, blocks -/
def nH (S : zD) : Nat := ((dT S 2).toInt + 1 - (dT S 1).toInt).toNat
theorem nH_le {S : zD} (hv : vS S) : nH S ≤ 166 ∧ 1 ≤ nH S := by
  obtain ⟨-, -, -, ⟨l1, l2, l3⟩, -⟩ := hv
  unfold nH; omega
theorem ht_i {S : zD} (hv : vS S) {i : Nat} (hi : i ≤ nH S) : (dT S 1 + nI i).toInt = (dT S 1).toInt + i := by
  have h6 := nH_le hv
  obtain ⟨-, -, -, ⟨l1, l2, l3⟩, -⟩ := hv
  rw [fb_addI (by rw [nI_toInt (by omega)]; omega) (by rw [nI_toInt (by omega)]; omega), nI_toInt (by omega)]
theorem ht_gt {S : zD} (hv : vS S) {i : Nat} (hi : i ≤ nH S) : dT S 2 < dT S 1 + nI i ↔ nH S ≤ i := by
  have h6 := nH_le hv
  rw [fa_lt, ht_i hv hi]
  obtain ⟨-, -, -, ⟨l1, l2, l3⟩, -⟩ := hv
  unfold nH at *; omega
def sg (S : zD) (p : Nat) : Int32 := if pb S p = 1 then 1 else -1
def mgl (S : zD) (p : Nat) : Nat → Int32
  | 0 => sg S p * (dB S (dF S p) - dB S (dS S p))
  | n + 1 => mn2 (mgl S p n) (sg S p * (spd S (dF S p) (dT S 1 + nI n) - spd S (dS S p) (dT S 1 + nI n)))
def mrg (S : zD) (p : Nat) : Int32 := mgl S p (nH S) - dZ S (dF S p) - dZ S (dS S p)
def ca_X6_marginOf : (zD × Nat × Nat) → List zV := fun (S, a, p) => [vR 15 0 a, vI (nI p)]
def cp_X6_marginOf : (zD × Nat × Nat) → zH → Prop := fun (S, a, p) h => rpS S h a ∧ p < dP S ∧ vS S
def cf_X6_marginOf : (zD × Nat × Nat) → zH → Int32 := fun (S, a, p) _ => mrg S p
theorem rc_X6_marginOf : ∀ x : (zD × Nat × Nat), ∃ (j a : Nat) (As : List zV), ca_X6_marginOf x = vR (10 + 5) j a :: As := by
  rintro ⟨S, a, p⟩
  exact ⟨_, _, _, rfl⟩
set_option maxHeartbeats 4000000 in
set_option maxRecDepth 100000 in
theorem m_X6_marginOf : zM yX6_marginOf cX6_marginOf 7 (some .int) ({ frames := 2, cells := 0, slots := 0, locals := 44 } : Room) (zcI ca_X6_marginOf cp_X6_marginOf cf_X6_marginOf) := by
  refine zM_of (by decide) ?_
  rintro X Y ⟨S, a, p⟩ h ⟨hS, hp, hv⟩ O E hR
  obtain ⟨⟨f1, f2⟩, s1, s2⟩ := hS.2.2.2.1 p hp
  have hN := hS.1.2
  have hp28 : p < 28 := Nat.lt_of_lt_of_le hp hS.2.1.2
  have B_98 := zr_iload (X := X) (Y := Y) (u := 0) (v := 0) O dX6_marginOf_98 (zr_aload_n O dX6_marginOf_100 rfl (zr_gS (ci := 5) (j := 3) (off := 3) (t := 1) (n := 10) O zc_5 (by decide) rfl tw_52 dX6_marginOf_101 (zr_iload_n O dX6_marginOf_104 rfl (zr_iald O dX6_marginOf_105 (zr_isub O dX6_marginOf_106 (zr_aload_n O dX6_marginOf_107 rfl (zr_gS (ci := 5) (j := 3) (off := 3) (t := 1) (n := 10) O zc_5 (by decide) rfl tw_52 dX6_marginOf_108 (zr_iload_n O dX6_marginOf_111 rfl (zr_iald O dX6_marginOf_112 (zr_isub O dX6_marginOf_113 (zr_ireturn O E (Nat.le_refl _) (Nat.le_refl _) dX6_marginOf_114)))))))))))
  have L_56 : ∀ nn : Nat, zSd X Y 0 0 56 ((fun k ls st h1 => ∃ (i : Nat) (y z : Int32), k = nH S - i ∧ i ≤ nH S ∧ ls = [some (vR 15 0 a), some (vI (nI p)), some (vI (h.1 (a + 4) p)), some (vI (h.1 (a + 5) p)), some (vI (sg S p)), some (vI y), some (vI z)] ∧ y = mgl S p i ∧ z = dT S 1 + nI i ∧ st = [] ∧ h = h1 : Nat → zT) nn) := by
    refine zSd_loop (fun nn ih => ?_)
    have B_56 := zr_iload (X := X) (Y := Y) (u := 0) (v := 0) O dX6_marginOf_56 (zr_aload_n O dX6_marginOf_58 rfl (zr_gS (ci := 5) (j := 7) (off := 6) (t := 1) (n := 5) O zc_5 (by decide) rfl tw_73 dX6_marginOf_59 (zr_iconst (x := 2) O dX6_marginOf_62 rfl (zr_iald O dX6_marginOf_63 (zr_icgt (tgt := 98) O dX6_marginOf_64 rfl B_98 (zr_iload O dX6_marginOf_67 (zr_iload O dX6_marginOf_69 (zr_aload_n O dX6_marginOf_71 rfl (zr_iload_n O dX6_marginOf_72 rfl (zr_iload O dX6_marginOf_73 (zr_cI (zr_cV (ci := 5) (n := 2) O m_X6_speedOf (bn_X6_speedOf _ ⟨rfl, rfl⟩) vw_X6_speedOf tw_440 rc_X6_speedOf (zrm hR rfl rfl) dX6_marginOf_75 (zr_aload_n O dX6_marginOf_78 rfl (zr_iload_n O dX6_marginOf_79 rfl (zr_iload O dX6_marginOf_80 (zr_cI (zr_cV (ci := 5) (n := 2) O m_X6_speedOf (bn_X6_speedOf _ ⟨rfl, rfl⟩) vw_X6_speedOf tw_440 rc_X6_speedOf (zrm hR rfl rfl) dX6_marginOf_82 (zr_isub O dX6_marginOf_85 (zr_imul O dX6_marginOf_86 (zr_min O zwm tw_444 (zrm hR rfl rfl) dX6_marginOf_87 (zr_istore O dX6_marginOf_90 (zr_iinc (c := 1) O dX6_marginOf_92 rfl (zr_goto (tgt := 56) O dX6_marginOf_95 rfl ih)))))))))))))))))))))))
    refine zSd_weak B_56 (fun ls st h1 t => ?_)
    obtain ⟨i, y, z, rfl, hi, rfl, rfl, rfl, rfl, rfl⟩ := t
    refine ⟨2, rfl, by decide, fun c => ?_, fun c => ?_⟩
    · rw [hS.2.2.2.2 2 (by decide)] at c
      have hi2 := (ht_gt hv hi).mp c
      refine ⟨dF S p, f1, by omega, dS S p, s1, by omega, zri ?_, rfl⟩
      rw [(hS.2.2.1 _ f2).2.2, (hS.2.2.1 _ s2).2.2, show i = nH S by omega]
      rfl
    · rw [hS.2.2.2.2 2 (by decide)] at c
      have hi2 : i < nH S := Nat.not_le.mp (fun z => c ((ht_gt hv hi).mpr z))
      exact ⟨(S, a, dF S p, _), congrArg (fun z => [vR 15 0 a, vI z, vI _]) f1, ⟨hS, f2⟩, (S, a, dS S p, _), congrArg (fun z => [vR 15 0 a, vI z, vI _]) s1, ⟨hS, s2⟩, nH S - (i + 1), by omega, i + 1, _, _, rfl, by omega, rfl, rfl, by rw [Int32.add_assoc, nI_1], rfl, rfl⟩
  have B_56 := zSd_any L_56
  have B_28 := zr_istore (X := X) (Y := Y) (u := 0) (v := 0) O dX6_marginOf_28 (zr_iload O dX6_marginOf_30 (zr_aload_n O dX6_marginOf_32 rfl (zr_gS (ci := 5) (j := 1) (off := 1) (t := 1) (n := 10) O zc_5 (by decide) rfl tw_50 dX6_marginOf_33 (zr_iload_n O dX6_marginOf_36 rfl (zr_iald O dX6_marginOf_37 (zr_aload_n O dX6_marginOf_38 rfl (zr_gS (ci := 5) (j := 1) (off := 1) (t := 1) (n := 10) O zc_5 (by decide) rfl tw_50 dX6_marginOf_39 (zr_iload_n O dX6_marginOf_42 rfl (zr_iald O dX6_marginOf_43 (zr_isub O dX6_marginOf_44 (zr_imul O dX6_marginOf_45 (zr_istore O dX6_marginOf_46 (zr_aload_n O dX6_marginOf_48 rfl (zr_gS (ci := 5) (j := 7) (off := 6) (t := 1) (n := 5) O zc_5 (by decide) rfl tw_73 dX6_marginOf_49 (zr_iconst (x := 1) O dX6_marginOf_52 rfl (zr_iald O dX6_marginOf_53 (zr_istore O dX6_marginOf_54 (B_56))))))))))))))))))
  have B_27 := zr_iconst (X := X) (Y := Y) (u := 0) (v := 0) (x := (-1)) O dX6_marginOf_27 rfl (B_28)
  have B_0 := zr_aload_n (X := X) (Y := Y) (u := 0) (v := 0) O dX6_marginOf_0 rfl (zr_gS (ci := 5) (j := 5) (off := 4) (t := 1) (n := 28) O zc_5 (by decide) rfl tw_59 dX6_marginOf_1 (zr_iload_n O dX6_marginOf_4 rfl (zr_iald O dX6_marginOf_5 (zr_istore_n O dX6_marginOf_6 rfl (zr_aload_n O dX6_marginOf_7 rfl (zr_gS (ci := 5) (j := 6) (off := 5) (t := 1) (n := 28) O zc_5 (by decide) rfl tw_66 dX6_marginOf_8 (zr_iload_n O dX6_marginOf_11 rfl (zr_iald O dX6_marginOf_12 (zr_istore_n O dX6_marginOf_13 rfl (zr_aload_n O dX6_marginOf_14 rfl (zr_iload_n O dX6_marginOf_15 rfl (zr_cI (zr_cV (ci := 5) (n := 1) O m_X6_bitOf (bn_X6_bitOf _ ⟨rfl, rfl⟩) vw_X6_bitOf tw_439 rc_X6_bitOf (zrm hR rfl rfl) dX6_marginOf_16 (zr_iconst (x := 1) O dX6_marginOf_19 rfl (zr_icne (tgt := 27) O dX6_marginOf_20 rfl B_27 (zr_iconst (x := 1) O dX6_marginOf_23 rfl (zr_goto (tgt := 28) O dX6_marginOf_24 rfl B_28)))))))))))))))))
  refine ⟨rfl, Nat.le_of_ble_eq_true rfl, _, B_0, ?_⟩
  refine ⟨p, rfl, hp28, p, rfl, hp28, (S, a, p), rfl, ⟨hS, hp⟩, zmn ?_⟩
  refine ⟨dF S p, f1, by omega, dS S p, s1, by omega, 1, rfl, by decide, nH S - 0, 0, _, _, rfl, Nat.zero_le _, rfl, ?_, ?_, rfl, rfl⟩
  · rw [(hS.2.2.1 _ f2).1, (hS.2.2.1 _ s2).1]
    rfl
  · rw [hS.2.2.2.2 1 (by decide), nI_0, Int32.add_zero]
/-- in how many pairs a ring is -/
def pwr (S : zD) (r : Nat) : Nat := fb_ct (fun i => decide (dF S i = r ∨ dS S i = r)) (dP S)
def ca_X6_pairsWith : (zD × Nat × Nat) → List zV := fun (S, a, r) => [vR 15 0 a, vI (nI r)]
def cp_X6_pairsWith : (zD × Nat × Nat) → zH → Prop := fun (S, a, r) h => rpS S h a ∧ r < 10
def cf_X6_pairsWith : (zD × Nat × Nat) → zH → Int32 := fun (S, a, r) _ => nI (pwr S r)
theorem rc_X6_pairsWith : ∀ x : (zD × Nat × Nat), ∃ (j a : Nat) (As : List zV), ca_X6_pairsWith x = vR (10 + 5) j a :: As := by
  rintro ⟨S, a, r⟩
  exact ⟨_, _, _, rfl⟩
set_option maxHeartbeats 4000000 in
set_option maxRecDepth 100000 in
theorem m_X6_pairsWith : zM yX6_pairsWith cX6_pairsWith 4 (some .int) ({ frames := 0, cells := 0, slots := 0, locals := 0 } : Room) (zcI ca_X6_pairsWith cp_X6_pairsWith cf_X6_pairsWith) := by
  refine zM_of (by decide) ?_
  rintro X Y ⟨S, a, r⟩ h ⟨hS, hr⟩ O E hR
  have hP := hS.2.1.2
  have hN := hS.1.2
  have B_46 := zr_iload_n (X := X) (Y := Y) (u := 0) (v := 0) O dX6_pairsWith_46 rfl (zr_ireturn O E (Nat.le_refl _) (Nat.le_refl _) dX6_pairsWith_47)
  have L_4 : ∀ nn : Nat, zSd X Y 0 0 4 ((fun k ls st h1 => ∃ (i : Nat) (y z : Int32), k = dP S - i ∧ i ≤ dP S ∧ ls = [some (vR 15 0 a), some (vI (nI r)), some (vI y), some (vI z)] ∧ y = nI (fb_ct (fun i => decide (dF S i = r ∨ dS S i = r)) i) ∧ z = nI i ∧ st = [] ∧ h = h1 : Nat → zT) nn) := by
    refine zSd_loop (fun nn ih => ?_)
    have B_38 := zr_iadd (X := X) (Y := Y) (u := 0) (v := 0) O dX6_pairsWith_38 (zr_istore_n O dX6_pairsWith_39 rfl (zr_iinc (c := 1) O dX6_pairsWith_40 rfl (zr_goto (tgt := 4) O dX6_pairsWith_43 rfl ih)))
    have B_37 := zr_iconst (X := X) (Y := Y) (u := 0) (v := 0) (x := 0) O dX6_pairsWith_37 rfl (B_38)
    have B_33 := zr_iconst (X := X) (Y := Y) (u := 0) (v := 0) (x := 1) O dX6_pairsWith_33 rfl (zr_goto (tgt := 38) O dX6_pairsWith_34 rfl B_38)
    have B_4 := zr_iload_n (X := X) (Y := Y) (u := 0) (v := 0) O dX6_pairsWith_4 rfl (zr_aload_n O dX6_pairsWith_5 rfl (zr_gI (ci := 5) (j := 4) O zc_5 (by decide) rfl tw_54 dX6_pairsWith_6 (zr_icge (tgt := 46) O dX6_pairsWith_9 rfl B_46 (zr_iload_n O dX6_pairsWith_12 rfl (zr_aload_n O dX6_pairsWith_13 rfl (zr_gS (ci := 5) (j := 5) (off := 4) (t := 1) (n := 28) O zc_5 (by decide) rfl tw_59 dX6_pairsWith_14 (zr_iload_n O dX6_pairsWith_17 rfl (zr_iald O dX6_pairsWith_18 (zr_iload_n O dX6_pairsWith_19 rfl (zr_iceq (tgt := 33) O dX6_pairsWith_20 rfl B_33 (zr_aload_n O dX6_pairsWith_23 rfl (zr_gS (ci := 5) (j := 6) (off := 5) (t := 1) (n := 28) O zc_5 (by decide) rfl tw_66 dX6_pairsWith_24 (zr_iload_n O dX6_pairsWith_27 rfl (zr_iald O dX6_pairsWith_28 (zr_iload_n O dX6_pairsWith_29 rfl (zr_icne (tgt := 37) O dX6_pairsWith_30 rfl B_37 (B_33)))))))))))))))))
    refine zSd_weak B_4 (fun ls st h1 t => ?_)
    obtain ⟨i, y, z, rfl, hi, rfl, rfl, rfl, rfl, rfl⟩ := t
    refine ⟨fun c => ⟨zri ?_, rfl⟩, fun c => ?_⟩
    · rw [hS.2.1.1] at c
      have := (nI_leI (by omega) (by omega)).mp c
      rw [show i = dP S by omega]
      rfl
    · rw [hS.2.1.1] at c
      have hi2 : i < dP S := Nat.not_le.mp (fun z => c ((nI_leI (by omega) (by omega)).mpr z))
      obtain ⟨⟨f1, f2⟩, s1, s2⟩ := hS.2.2.2.1 i hi2
      refine ⟨i, rfl, by omega, fun c => ⟨dP S - (i + 1), by omega, i + 1, _, _, rfl, by omega, rfl, ?_, nI_1 i, rfl, rfl⟩, fun c => ⟨i, rfl, by omega, fun d => ⟨dP S - (i + 1), by omega, i + 1, _, _, rfl, by omega, rfl, ?_, nI_1 i, rfl, rfl⟩, fun d => ⟨dP S - (i + 1), by omega, i + 1, _, _, rfl, by omega, rfl, ?_, nI_1 i, rfl, rfl⟩⟩⟩
      · rw [f1] at c
        have c2 := (nI_eq (by omega) (by omega)).mp c
        rw [nI_1, fb_ct_succ]
        simp [c2]
      · rw [f1] at c
        rw [s1] at d
        have c2 : ¬ dF S i = r := fun z => c (by rw [z])
        have d2 : ¬ dS S i = r := fun z => d (by rw [z])
        rw [fb_ct_succ]
        simp [c2, d2]
      · rw [s1] at d
        have d2 := (nI_eq (by omega) (by omega)).mp d
        rw [nI_1, fb_ct_succ]
        simp [d2]
  have B_4 := zSd_any L_4
  have B_0 := zr_iconst (X := X) (Y := Y) (u := 0) (v := 0) (x := 0) O dX6_pairsWith_0 rfl (zr_istore_n O dX6_pairsWith_1 rfl (zr_iconst (x := 0) O dX6_pairsWith_2 rfl (zr_istore_n O dX6_pairsWith_3 rfl (B_4))))
  refine ⟨rfl, Nat.le_of_ble_eq_true rfl, _, B_0, ?_⟩
  exact ⟨dP S - 0, 0, _, _, rfl, Nat.zero_le _, rfl, rfl, rfl, rfl, rfl⟩
/-- how many of the first n rings are ahead of ring r at a heat -/
def rah (S : zD) (r : Nat) (t : Int32) (n : Nat) : Nat := fb_ct (fun i => decide (spd S r t < spd S i t ∨ spd S i t = spd S r t ∧ i < r)) n
def ca_X6_ringsAheadOf : (zD × Nat × Nat × Int32) → List zV := fun (S, a, r, te) => [vR 15 0 a, vI (nI r), vI te]
def cp_X6_ringsAheadOf : (zD × Nat × Nat × Int32) → zH → Prop := fun (S, a, r, te) h => rpS S h a ∧ r < dN S
def cf_X6_ringsAheadOf : (zD × Nat × Nat × Int32) → zH → Int32 := fun (S, a, r, te) _ => nI (rah S r te (dN S))
theorem rc_X6_ringsAheadOf : ∀ x : (zD × Nat × Nat × Int32), ∃ (j a : Nat) (As : List zV), ca_X6_ringsAheadOf x = vR (10 + 5) j a :: As := by
  rintro ⟨S, a, r, te⟩
  exact ⟨_, _, _, rfl⟩
set_option maxHeartbeats 4000000 in
set_option maxRecDepth 100000 in
theorem m_X6_ringsAheadOf : zM yX6_ringsAheadOf cX6_ringsAheadOf 7 (some .int) ({ frames := 1, cells := 0, slots := 0, locals := 22 } : Room) (zcI ca_X6_ringsAheadOf cp_X6_ringsAheadOf cf_X6_ringsAheadOf) := by
  refine zM_of (by decide) ?_
  rintro X Y ⟨S, a, r, te⟩ h ⟨hS, hr⟩ O E hR
  have hN := hS.1.2
  have B_65 := zr_iload (X := X) (Y := Y) (u := 0) (v := 0) O dX6_ringsAheadOf_65 (zr_ireturn O E (Nat.le_refl _) (Nat.le_refl _) dX6_ringsAheadOf_67)
  have L_13 : ∀ nn : Nat, zSd X Y 0 0 13 ((fun k ls st h1 => ∃ (i : Nat) (y z : Int32) (w : Option zV), k = dN S - i ∧ i ≤ dN S ∧ ls = [some (vR 15 0 a), some (vI (nI r)), some (vI te), some (vI (spd S r te)), some (vI y), some (vI z), w] ∧ y = nI (rah S r te i) ∧ z = nI i ∧ st = [] ∧ h = h1 : Nat → zT) nn) := by
    refine zSd_loop (fun nn ih => ?_)
    have B_56 := zr_iadd (X := X) (Y := Y) (u := 0) (v := 0) O dX6_ringsAheadOf_56 (zr_istore O dX6_ringsAheadOf_57 (zr_iinc (c := 1) O dX6_ringsAheadOf_59 rfl (zr_goto (tgt := 13) O dX6_ringsAheadOf_62 rfl ih)))
    have B_55 := zr_iconst (X := X) (Y := Y) (u := 0) (v := 0) (x := 0) O dX6_ringsAheadOf_55 rfl (B_56)
    have B_51 := zr_iconst (X := X) (Y := Y) (u := 0) (v := 0) (x := 1) O dX6_ringsAheadOf_51 rfl (zr_goto (tgt := 56) O dX6_ringsAheadOf_52 rfl B_56)
    have B_13 := zr_iload (X := X) (Y := Y) (u := 0) (v := 0) O dX6_ringsAheadOf_13 (zr_aload_n O dX6_ringsAheadOf_15 rfl (zr_gI (ci := 5) (j := 0) O zc_5 (by decide) rfl tw_46 dX6_ringsAheadOf_16 (zr_icge (tgt := 65) O dX6_ringsAheadOf_19 rfl B_65 (zr_aload_n O dX6_ringsAheadOf_22 rfl (zr_iload O dX6_ringsAheadOf_23 (zr_iload_n O dX6_ringsAheadOf_25 rfl (zr_cI (zr_cV (ci := 5) (n := 2) O m_X6_speedOf (bn_X6_speedOf _ ⟨rfl, rfl⟩) vw_X6_speedOf tw_440 rc_X6_speedOf (zrm hR rfl rfl) dX6_ringsAheadOf_26 (zr_istore O dX6_ringsAheadOf_29 (zr_iload O dX6_ringsAheadOf_31 (zr_iload O dX6_ringsAheadOf_33 (zr_iload_n O dX6_ringsAheadOf_35 rfl (zr_icgt (tgt := 51) O dX6_ringsAheadOf_36 rfl B_51 (zr_iload O dX6_ringsAheadOf_39 (zr_iload_n O dX6_ringsAheadOf_41 rfl (zr_icne (tgt := 55) O dX6_ringsAheadOf_42 rfl B_55 (zr_iload O dX6_ringsAheadOf_45 (zr_iload_n O dX6_ringsAheadOf_47 rfl (zr_icge (tgt := 55) O dX6_ringsAheadOf_48 rfl B_55 (B_51))))))))))))))))))))
    refine zSd_weak B_13 (fun ls st h1 t => ?_)
    obtain ⟨i, y, z, w, rfl, hi, rfl, rfl, rfl, rfl, rfl⟩ := t
    refine ⟨fun c => ⟨zri ?_, rfl⟩, fun c => ?_⟩
    · rw [hS.1.1] at c
      have := (nI_leI (by omega) (by omega)).mp c
      rw [show i = dN S by omega]
      rfl
    · rw [hS.1.1] at c
      have hi2 : i < dN S := Nat.not_le.mp (fun z => c ((nI_leI (by omega) (by omega)).mpr z))
      have e : rah S r te (i + 1) = rah S r te i + if spd S r te < spd S i te ∨ spd S i te = spd S r te ∧ i < r then 1 else 0 := by
        rw [rah, fb_ct_succ]
        simp [rah]
      refine ⟨(S, a, i, te), rfl, ⟨hS, hi2⟩, fun c => ⟨dN S - (i + 1), by omega, i + 1, _, _, _, rfl, by omega, rfl, ?_, nI_1 i, rfl, rfl⟩, fun c => ⟨fun d => ⟨dN S - (i + 1), by omega, i + 1, _, _, _, rfl, by omega, rfl, ?_, nI_1 i, rfl, rfl⟩, fun d => ⟨fun q => ⟨dN S - (i + 1), by omega, i + 1, _, _, _, rfl, by omega, rfl, ?_, nI_1 i, rfl, rfl⟩, fun q => ⟨dN S - (i + 1), by omega, i + 1, _, _, _, rfl, by omega, rfl, ?_, nI_1 i, rfl, rfl⟩⟩⟩⟩
      · replace c : spd S r te < spd S i te := c
        rw [e, if_pos (Or.inl c), nI_1]
      · rw [e, if_neg (fun z => z.elim c (fun z => d z.1))]
        exact Int32.add_zero _
      · have q2 := (nI_leI (by omega) (by omega)).mp q
        rw [e, if_neg (fun z => z.elim c (fun z => absurd z.2 (by omega)))]
        exact Int32.add_zero _
      · have q2 : i < r := Nat.not_le.mp (fun z => q ((nI_leI (by omega) (by omega)).mpr z))
        rw [e, if_pos (Or.inr ⟨d, q2⟩), nI_1]
  have B_13 := zSd_any L_13
  have B_0 := zr_aload_n (X := X) (Y := Y) (u := 0) (v := 0) O dX6_ringsAheadOf_0 rfl (zr_iload_n O dX6_ringsAheadOf_1 rfl (zr_iload_n O dX6_ringsAheadOf_2 rfl (zr_cI (zr_cV (ci := 5) (n := 2) O m_X6_speedOf (bn_X6_speedOf _ ⟨rfl, rfl⟩) vw_X6_speedOf tw_440 rc_X6_speedOf (zrm hR rfl rfl) dX6_ringsAheadOf_3 (zr_istore_n O dX6_ringsAheadOf_6 rfl (zr_iconst (x := 0) O dX6_ringsAheadOf_7 rfl (zr_istore O dX6_ringsAheadOf_8 (zr_iconst (x := 0) O dX6_ringsAheadOf_10 rfl (zr_istore O dX6_ringsAheadOf_11 (B_13))))))))))
  refine ⟨rfl, Nat.le_of_ble_eq_true rfl, _, B_0, ?_⟩
  exact ⟨(S, a, r, te), rfl, ⟨hS, hr⟩, dN S - 0, 0, _, _, _, rfl, Nat.zero_le _, rfl, rfl, rfl, rfl, rfl⟩
/-- steady; used -/
def std (S : zD) (p : Nat) : Bool := decide (dT S 0 < mrg S p)
def us (S : zD) (p : Nat) : Bool := decide (dT S 3 = 1) || std S p
def usd (S : zD) : Nat := mk (us S) (dP S)
theorem mk_true : ∀ n : Nat, mk (fun _ => true) n = 2 ^ n - 1 := by
  intro n
  apply Nat.eq_of_testBit_eq
  intro i
  rw [mk_bit, Nat.testBit_two_pow_sub_one]
  simp
theorem nI_lo {n : Nat} (h : n < 31) : (1 : Int32) <<< (nI n &&& 31) - 1 = nI (2 ^ n - 1) := by
  rw [nI_pow h, show (1 : Int32) = nI 1 from rfl, pk_sub Nat.one_le_two_pow]
def ca_X6_allPairs : (zD × Nat) → List zV := fun (S, a) => [vR 15 0 a]
def cp_X6_allPairs : (zD × Nat) → zH → Prop := fun (S, a) h => rpS S h a
def cf_X6_allPairs : (zD × Nat) → zH → Int32 := fun (S, a) _ => nI (2 ^ dP S - 1)
theorem rc_X6_allPairs : ∀ x : (zD × Nat), ∃ (j a : Nat) (As : List zV), ca_X6_allPairs x = vR (10 + 5) j a :: As := by
  rintro ⟨S, a⟩
  exact ⟨_, _, _, rfl⟩
set_option maxHeartbeats 4000000 in
set_option maxRecDepth 100000 in
theorem m_X6_allPairs : zM yX6_allPairs cX6_allPairs 1 (some .int) ({ frames := 0, cells := 0, slots := 0, locals := 0 } : Room) (zcI ca_X6_allPairs cp_X6_allPairs cf_X6_allPairs) := by
  refine zM_of (by decide) ?_
  rintro X Y ⟨S, a⟩ h hS O E hR
  have B_0 := zr_iconst (X := X) (Y := Y) (u := 0) (v := 0) (x := 1) O dX6_allPairs_0 rfl (zr_aload_n O dX6_allPairs_1 rfl (zr_gI (ci := 5) (j := 4) O zc_5 (by decide) rfl tw_54 dX6_allPairs_2 (zr_ishl O dX6_allPairs_5 (zr_iconst (x := 1) O dX6_allPairs_6 rfl (zr_isub O dX6_allPairs_7 (zr_ireturn O E (Nat.le_refl _) (Nat.le_refl _) dX6_allPairs_8))))))
  refine ⟨rfl, Nat.le_of_ble_eq_true rfl, _, B_0, ?_⟩
  have hS : rpS S h a := hS
  have hP := hS.2.1.2
  refine ⟨zri ?_, rfl⟩
  rw [hS.2.1.1]
  exact nI_lo (by omega)
def ca_X6_steadyPairs : (zD × Nat) → List zV := fun (S, a) => [vR 15 0 a]
def cp_X6_steadyPairs : (zD × Nat) → zH → Prop := fun (S, a) h => rpS S h a ∧ vS S
def cf_X6_steadyPairs : (zD × Nat) → zH → Int32 := fun (S, a) _ => nI (mk (std S) (dP S))
theorem rc_X6_steadyPairs : ∀ x : (zD × Nat), ∃ (j a : Nat) (As : List zV), ca_X6_steadyPairs x = vR (10 + 5) j a :: As := by
  rintro ⟨S, a⟩
  exact ⟨_, _, _, rfl⟩
set_option maxHeartbeats 4000000 in
set_option maxRecDepth 100000 in
theorem m_X6_steadyPairs : zM yX6_steadyPairs cX6_steadyPairs 3 (some .int) ({ frames := 3, cells := 0, slots := 0, locals := 70 } : Room) (zcI ca_X6_steadyPairs cp_X6_steadyPairs cf_X6_steadyPairs) := by
  refine zM_of (by decide) ?_
  rintro X Y ⟨S, a⟩ h ⟨hS, hv⟩ O E hR
  have hP := hS.2.1.2
  have B_42 := zr_iload_n (X := X) (Y := Y) (u := 0) (v := 0) O dX6_steadyPairs_42 rfl (zr_ireturn O E (Nat.le_refl _) (Nat.le_refl _) dX6_steadyPairs_43)
  have L_4 : ∀ nn : Nat, zSd X Y 0 0 4 ((fun k ls st h1 => ∃ (i : Nat) (y z : Int32), k = dP S - i ∧ i ≤ dP S ∧ ls = [some (vR 15 0 a), some (vI y), some (vI z)] ∧ y = nI (mk (std S) i) ∧ z = nI i ∧ st = [] ∧ h = h1 : Nat → zT) nn) := by
    refine zSd_loop (fun nn ih => ?_)
    have B_34 := zr_ior (X := X) (Y := Y) (u := 0) (v := 0) O dX6_steadyPairs_34 (zr_istore_n O dX6_steadyPairs_35 rfl (zr_iinc (c := 1) O dX6_steadyPairs_36 rfl (zr_goto (tgt := 4) O dX6_steadyPairs_39 rfl ih)))
    have B_33 := zr_iconst (X := X) (Y := Y) (u := 0) (v := 0) (x := 0) O dX6_steadyPairs_33 rfl (B_34)
    have B_4 := zr_iload_n (X := X) (Y := Y) (u := 0) (v := 0) O dX6_steadyPairs_4 rfl (zr_aload_n O dX6_steadyPairs_5 rfl (zr_gI (ci := 5) (j := 4) O zc_5 (by decide) rfl tw_54 dX6_steadyPairs_6 (zr_icge (tgt := 42) O dX6_steadyPairs_9 rfl B_42 (zr_iload_n O dX6_steadyPairs_12 rfl (zr_aload_n O dX6_steadyPairs_13 rfl (zr_iload_n O dX6_steadyPairs_14 rfl (zr_cI (zr_cV (ci := 5) (n := 1) O m_X6_marginOf (bn_X6_marginOf _ ⟨rfl, rfl⟩) vw_X6_marginOf tw_761 rc_X6_marginOf (zrm hR rfl rfl) dX6_steadyPairs_15 (zr_aload_n O dX6_steadyPairs_18 rfl (zr_gS (ci := 5) (j := 7) (off := 6) (t := 1) (n := 5) O zc_5 (by decide) rfl tw_73 dX6_steadyPairs_19 (zr_iconst (x := 0) O dX6_steadyPairs_22 rfl (zr_iald O dX6_steadyPairs_23 (zr_icle (tgt := 33) O dX6_steadyPairs_24 rfl B_33 (zr_iconst (x := 1) O dX6_steadyPairs_27 rfl (zr_iload_n O dX6_steadyPairs_28 rfl (zr_ishl O dX6_steadyPairs_29 (zr_goto (tgt := 34) O dX6_steadyPairs_30 rfl B_34)))))))))))))))))
    refine zSd_weak B_4 (fun ls st h1 t => ?_)
    obtain ⟨i, y, z, rfl, hi, rfl, rfl, rfl, rfl, rfl⟩ := t
    refine ⟨fun c => ⟨zri ?_, rfl⟩, fun c => ?_⟩
    · rw [hS.2.1.1] at c
      have := (nI_leI (by omega) (by omega)).mp c
      rw [show i = dP S by omega]
      rfl
    · rw [hS.2.1.1] at c
      have hi2 : i < dP S := Nat.not_le.mp (fun z => c ((nI_leI (by omega) (by omega)).mpr z))
      refine ⟨(S, a, i), rfl, ⟨hS, hi2, hv⟩, 0, rfl, by decide, zmg (k := _) (c := mrg S i ≤ h.1 (a + 6) 0) (x := 0) (y := 1 <<< (nI i &&& 31)) ?_⟩
      refine ⟨dP S - (i + 1), by omega, i + 1, _, _, rfl, by omega, rfl, ?_, nI_1 i, rfl, rfl⟩
      rw [hS.2.2.2.2 0 (by decide)]
      show nI (mk (std S) i) ||| (if mrg S i ≤ dT S 0 then (0 : Int32) else (1 : Int32) <<< (nI i &&& 31)) = nI (mk (std S) i ||| if std S i then 2 ^ i else 0)
      by_cases hz : mrg S i ≤ dT S 0
      · rw [if_pos hz, if_neg (by simp only [std, decide_eq_true_eq]; exact Int32.not_lt.mpr hz), show (0 : Int32) = nI 0 from rfl, fa_or]
      · rw [if_neg hz, if_pos (by simp only [std, decide_eq_true_eq]; exact Int32.not_le.mp hz), nI_pow (by omega), fa_or]
  have B_4 := zSd_any L_4
  have B_0 := zr_iconst (X := X) (Y := Y) (u := 0) (v := 0) (x := 0) O dX6_steadyPairs_0 rfl (zr_istore_n O dX6_steadyPairs_1 rfl (zr_iconst (x := 0) O dX6_steadyPairs_2 rfl (zr_istore_n O dX6_steadyPairs_3 rfl (B_4))))
  refine ⟨rfl, Nat.le_of_ble_eq_true rfl, _, B_0, ?_⟩
  exact ⟨dP S - 0, 0, _, _, rfl, Nat.zero_le _, rfl, rfl, rfl, rfl, rfl⟩
def ca_X6_usedPairs : (zD × Nat) → List zV := fun (S, a) => [vR 15 0 a]
def cp_X6_usedPairs : (zD × Nat) → zH → Prop := fun (S, a) h => rpS S h a ∧ vS S
def cf_X6_usedPairs : (zD × Nat) → zH → Int32 := fun (S, a) _ => nI (usd S)
theorem rc_X6_usedPairs : ∀ x : (zD × Nat), ∃ (j a : Nat) (As : List zV), ca_X6_usedPairs x = vR (10 + 5) j a :: As := by
  rintro ⟨S, a⟩
  exact ⟨_, _, _, rfl⟩
set_option maxHeartbeats 4000000 in
set_option maxRecDepth 100000 in
theorem m_X6_usedPairs : zM yX6_usedPairs cX6_usedPairs 1 (some .int) ({ frames := 4, cells := 0, slots := 0, locals := 92 } : Room) (zcI ca_X6_usedPairs cp_X6_usedPairs cf_X6_usedPairs) := by
  refine zM_of (by decide) ?_
  rintro X Y ⟨S, a⟩ h ⟨hS, hv⟩ O E hR
  have B_21 := zr_ireturn (X := X) (Y := Y) (u := 0) (v := 0) O E (Nat.le_refl _) (Nat.le_refl _) dX6_usedPairs_21
  have B_17 := zr_aload_n (X := X) (Y := Y) (u := 0) (v := 0) O dX6_usedPairs_17 rfl (zr_cI (zr_cV (ci := 5) (n := 0) O m_X6_steadyPairs (bn_X6_steadyPairs _ ⟨rfl, rfl⟩) vw_X6_steadyPairs tw_757 rc_X6_steadyPairs (zrm hR rfl rfl) dX6_usedPairs_18 (B_21)))
  have B_0 := zr_aload_n (X := X) (Y := Y) (u := 0) (v := 0) O dX6_usedPairs_0 rfl (zr_gS (ci := 5) (j := 7) (off := 6) (t := 1) (n := 5) O zc_5 (by decide) rfl tw_73 dX6_usedPairs_1 (zr_iconst (x := 3) O dX6_usedPairs_4 rfl (zr_iald O dX6_usedPairs_5 (zr_iconst (x := 1) O dX6_usedPairs_6 rfl (zr_icne (tgt := 17) O dX6_usedPairs_7 rfl B_17 (zr_aload_n O dX6_usedPairs_10 rfl (zr_cI (zr_cV (ci := 5) (n := 0) O m_X6_allPairs (bn_X6_allPairs _ ⟨rfl, rfl⟩) vw_X6_allPairs tw_753 rc_X6_allPairs (zrm hR rfl rfl) dX6_usedPairs_11 (zr_goto (tgt := 21) O dX6_usedPairs_14 rfl B_21)))))))))
  refine ⟨rfl, Nat.le_of_ble_eq_true rfl, _, B_0, ?_⟩
  refine ⟨3, rfl, by decide, fun c => ⟨(S, a), rfl, ⟨hS, hv⟩, zri ?_, rfl⟩, fun c => ⟨(S, a), rfl, hS, zri ?_, rfl⟩⟩
  · rw [hS.2.2.2.2 3 (by decide)] at c
    show nI (mk (std S) (dP S)) = nI (mk (us S) (dP S))
    rw [mk_cong (g := us S) (fun i _ => by simp [us, c])]
  · rw [hS.2.2.2.2 3 (by decide)] at c
    show nI (2 ^ dP S - 1) = nI (mk (us S) (dP S))
    rw [← mk_true, mk_cong (g := us S) (fun i _ => by simp [us, c])]
/-- how many blocks so many pairs give -/
def bkc (r c : Nat) : Nat := min (c / lnR r) (16 / btR r)
theorem pop_le (m : Nat) : pop m ≤ 32 := fb_ct_le _ _
theorem lnR_pos {r : Nat} (h : vRp r) : 1 ≤ lnR r ∧ lnR r ≤ 7 ∧ 1 ≤ btR r ∧ btR r ≤ 4 := by
  rcases h with rfl | rfl | rfl | rfl | rfl <;> decide
def ca_X6_blockCount : (zD × Nat × Nat) → List zV := fun (S, a, m) => [vR 15 0 a, vI (nI m)]
def cp_X6_blockCount : (zD × Nat × Nat) → zH → Prop := fun (S, a, m) h => rpS S h a ∧ vS S ∧ m < 2 ^ 31
def cf_X6_blockCount : (zD × Nat × Nat) → zH → Int32 := fun (S, a, m) _ => nI (bkc (dR S) (pop m))
theorem rc_X6_blockCount : ∀ x : (zD × Nat × Nat), ∃ (j a : Nat) (As : List zV), ca_X6_blockCount x = vR (10 + 5) j a :: As := by
  rintro ⟨S, a, m⟩
  exact ⟨_, _, _, rfl⟩
set_option maxHeartbeats 4000000 in
set_option maxRecDepth 100000 in
theorem m_X6_blockCount : zM yX6_blockCount cX6_blockCount 3 (some .int) ({ frames := 2, cells := 0, slots := 0, locals := 41 } : Room) (zcI ca_X6_blockCount cp_X6_blockCount cf_X6_blockCount) := by
  refine zM_of (by decide) ?_
  rintro X Y ⟨S, a, m⟩ h ⟨hS, hv, hm⟩ O E hR
  have B_0 := zr_iload_n (X := X) (Y := Y) (u := 0) (v := 0) O dX6_blockCount_0 rfl (zr_cI (zr_cS (n := 1) O m_J6_bitCount_0f7a4 (bn_J6_bitCount_0f7a4 _ ⟨rfl, rfl⟩) tw_767 tw_766 (zrm hR rfl rfl) dX6_blockCount_1 (zr_aload_n O dX6_blockCount_4 rfl (zr_gS (ci := 5) (j := 7) (off := 6) (t := 1) (n := 5) O zc_5 (by decide) rfl tw_73 dX6_blockCount_5 (zr_iconst (x := 4) O dX6_blockCount_8 rfl (zr_iald O dX6_blockCount_9 (zr_cI (zr_cS (n := 1) O m_X0_lengthOf (bn_X0_lengthOf _ ⟨rfl, rfl⟩) tw_773 tw_772 (zrm hR rfl rfl) dX6_blockCount_10 (zr_idiv O dX6_blockCount_13 (zr_istore_n O dX6_blockCount_14 rfl (zr_iload_n O dX6_blockCount_15 rfl (zr_bipush (x := (16)) O dX6_blockCount_16 (by decide) (zr_aload_n O dX6_blockCount_18 rfl (zr_gS (ci := 5) (j := 7) (off := 6) (t := 1) (n := 5) O zc_5 (by decide) rfl tw_73 dX6_blockCount_19 (zr_iconst (x := 4) O dX6_blockCount_22 rfl (zr_iald O dX6_blockCount_23 (zr_cI (zr_cS (n := 1) O m_X0_bitsOf (bn_X0_bitsOf _ ⟨rfl, rfl⟩) tw_779 tw_778 (zrm hR rfl rfl) dX6_blockCount_24 (zr_idiv O dX6_blockCount_27 (zr_min O zwm tw_444 (zrm hR rfl rfl) dX6_blockCount_28 (zr_ireturn O E (Nat.le_refl _) (Nat.le_refl _) dX6_blockCount_31)))))))))))))))))))))
  refine ⟨rfl, Nat.le_of_ble_eq_true rfl, _, B_0, ?_⟩
  obtain ⟨hr1, hr2⟩ := hv.2.2.2.2.2
  obtain ⟨q1, q2, q3, q4⟩ := lnR_pos hr2
  have hp := pop_le m
  have e4 : h.1 (a + 6) 4 = nI (dR S) := (hS.2.2.2.2 4 (by decide)).trans hr1
  refine ⟨nI m, rfl, trivial, 4, rfl, by decide, dR S, congrArg (fun z => [vI z]) e4, hr2, ?_, 4, rfl, by decide, dR S, congrArg (fun z => [vI z]) e4, hr2, ?_, zri ?_, rfl⟩
  · exact fun z => by have := (nI_eq (b := 0) (by omega) (by omega)).mp z; omega
  · exact fun z => by have := (nI_eq (b := 0) (by omega) (by omega)).mp z; omega
  · show (if (16 : Int32) / nI (btR (dR S)) < pcI (nI m) / nI (lnR (dR S)) then (16 : Int32) / nI (btR (dR S)) else pcI (nI m) / nI (lnR (dR S))) = nI (min _ _)
    rw [pcI_pop hm, show (16 : Int32) = nI 16 from rfl, pk_div (by omega) (by omega) (by omega), pk_div (by omega) (by omega) (by omega)]
    have l1 : 16 / btR (dR S) ≤ 16 := Nat.div_le_self _ _
    have l2 : pop m / lnR (dR S) ≤ pop m := Nat.div_le_self _ _
    by_cases hz : 16 / btR (dR S) < pop m / lnR (dR S)
    · rw [if_pos ((nI_ltI (by omega) (by omega)).mpr hz), Nat.min_eq_right (by omega)]
    · rw [if_neg (fun z => hz ((nI_ltI (by omega) (by omega)).mp z)), Nat.min_eq_left (by omega)]
end
section
theorem dX0_wordOf_52 : decode cX0_wordOf 52 = .ok (.iload_n 2, 1) := by decide +kernel
theorem dX0_wordOf_53 : decode cX0_wordOf 53 = .ok (.ireturn, 1) := by decide +kernel
theorem dX0_wordOf_23 : decode cX0_wordOf 23 = .ok (.iload_n 3, 1) := by decide +kernel
theorem dX0_wordOf_24 : decode cX0_wordOf 24 = .ok (.bipush 7, 2) := by decide +kernel
theorem dX0_wordOf_26 : decode cX0_wordOf 26 = .ok (.if_icmp .ge 26, 3) := by decide +kernel
theorem dX0_wordOf_29 : decode cX0_wordOf 29 = .ok (.iload_n 2, 1) := by decide +kernel
theorem dX0_wordOf_30 : decode cX0_wordOf 30 = .ok (.iload_n 1, 1) := by decide +kernel
theorem dX0_wordOf_31 : decode cX0_wordOf 31 = .ok (.getstatic 17, 3) := by decide +kernel
theorem dX0_wordOf_34 : decode cX0_wordOf 34 = .ok (.iload_n 3, 1) := by decide +kernel
theorem dX0_wordOf_35 : decode cX0_wordOf 35 = .ok (.iaload, 1) := by decide +kernel
theorem dX0_wordOf_36 : decode cX0_wordOf 36 = .ok (.iand, 1) := by decide +kernel
theorem dX0_wordOf_37 : decode cX0_wordOf 37 = .ok (.invokestatic 21, 3) := by decide +kernel
theorem dX0_wordOf_40 : decode cX0_wordOf 40 = .ok (.iconst 1, 1) := by decide +kernel
theorem dX0_wordOf_41 : decode cX0_wordOf 41 = .ok (.iand, 1) := by decide +kernel
theorem dX0_wordOf_42 : decode cX0_wordOf 42 = .ok (.iload_n 3, 1) := by decide +kernel
theorem dX0_wordOf_43 : decode cX0_wordOf 43 = .ok (.ishl, 1) := by decide +kernel
theorem dX0_wordOf_44 : decode cX0_wordOf 44 = .ok (.ior, 1) := by decide +kernel
theorem dX0_wordOf_45 : decode cX0_wordOf 45 = .ok (.istore_n 2, 1) := by decide +kernel
theorem dX0_wordOf_46 : decode cX0_wordOf 46 = .ok (.iinc 3 1, 3) := by decide +kernel
theorem dX0_wordOf_49 : decode cX0_wordOf 49 = .ok (.goto (-26), 3) := by decide +kernel
theorem dX0_wordOf_19 : decode cX0_wordOf 19 = .ok (.iconst 0, 1) := by decide +kernel
theorem dX0_wordOf_20 : decode cX0_wordOf 20 = .ok (.istore_n 2, 1) := by decide +kernel
theorem dX0_wordOf_21 : decode cX0_wordOf 21 = .ok (.iconst 0, 1) := by decide +kernel
theorem dX0_wordOf_22 : decode cX0_wordOf 22 = .ok (.istore_n 3, 1) := by decide +kernel
theorem dX0_wordOf_18 : decode cX0_wordOf 18 = .ok (.ireturn, 1) := by decide +kernel
theorem dX0_wordOf_17 : decode cX0_wordOf 17 = .ok (.iconst 0, 1) := by decide +kernel
theorem dX0_wordOf_0 : decode cX0_wordOf 0 = .ok (.iload_n 0, 1) := by decide +kernel
theorem dX0_wordOf_1 : decode cX0_wordOf 1 = .ok (.ifCond .eq 18, 3) := by decide +kernel
theorem dX0_wordOf_4 : decode cX0_wordOf 4 = .ok (.iload_n 1, 1) := by decide +kernel
theorem dX0_wordOf_5 : decode cX0_wordOf 5 = .ok (.iconst 1, 1) := by decide +kernel
theorem dX0_wordOf_6 : decode cX0_wordOf 6 = .ok (.if_icmp .ne 11, 3) := by decide +kernel
theorem dX0_wordOf_9 : decode cX0_wordOf 9 = .ok (.iconst 1, 1) := by decide +kernel
theorem dX0_wordOf_10 : decode cX0_wordOf 10 = .ok (.iload_n 0, 1) := by decide +kernel
theorem dX0_wordOf_11 : decode cX0_wordOf 11 = .ok (.ishl, 1) := by decide +kernel
theorem dX0_wordOf_12 : decode cX0_wordOf 12 = .ok (.iconst 1, 1) := by decide +kernel
theorem dX0_wordOf_13 : decode cX0_wordOf 13 = .ok (.isub, 1) := by decide +kernel
theorem dX0_wordOf_14 : decode cX0_wordOf 14 = .ok (.goto 4, 3) := by decide +kernel
theorem dX0_decodedFrom_67 : decode cX0_decodedFrom 67 = .ok (.istore_n 3, 1) := by decide +kernel
theorem dX0_decodedFrom_68 : decode cX0_decodedFrom 68 = .ok (.iload_n 3, 1) := by decide +kernel
theorem dX0_decodedFrom_69 : decode cX0_decodedFrom 69 = .ok (.iconst 2, 1) := by decide +kernel
theorem dX0_decodedFrom_70 : decode cX0_decodedFrom 70 = .ok (.invokestatic 30, 3) := by decide +kernel
theorem dX0_decodedFrom_73 : decode cX0_decodedFrom 73 = .ok (.iload_n 3, 1) := by decide +kernel
theorem dX0_decodedFrom_74 : decode cX0_decodedFrom 74 = .ok (.iconst 4, 1) := by decide +kernel
theorem dX0_decodedFrom_75 : decode cX0_decodedFrom 75 = .ok (.invokestatic 30, 3) := by decide +kernel
theorem dX0_decodedFrom_78 : decode cX0_decodedFrom 78 = .ok (.iconst 1, 1) := by decide +kernel
theorem dX0_decodedFrom_79 : decode cX0_decodedFrom 79 = .ok (.ishl, 1) := by decide +kernel
theorem dX0_decodedFrom_80 : decode cX0_decodedFrom 80 = .ok (.ior, 1) := by decide +kernel
theorem dX0_decodedFrom_81 : decode cX0_decodedFrom 81 = .ok (.iload_n 3, 1) := by decide +kernel
theorem dX0_decodedFrom_82 : decode cX0_decodedFrom 82 = .ok (.iconst 5, 1) := by decide +kernel
theorem dX0_decodedFrom_83 : decode cX0_decodedFrom 83 = .ok (.invokestatic 30, 3) := by decide +kernel
theorem dX0_decodedFrom_86 : decode cX0_decodedFrom 86 = .ok (.iconst 2, 1) := by decide +kernel
theorem dX0_decodedFrom_87 : decode cX0_decodedFrom 87 = .ok (.ishl, 1) := by decide +kernel
theorem dX0_decodedFrom_88 : decode cX0_decodedFrom 88 = .ok (.ior, 1) := by decide +kernel
theorem dX0_decodedFrom_89 : decode cX0_decodedFrom 89 = .ok (.iload_n 3, 1) := by decide +kernel
theorem dX0_decodedFrom_90 : decode cX0_decodedFrom 90 = .ok (.bipush 6, 2) := by decide +kernel
theorem dX0_decodedFrom_92 : decode cX0_decodedFrom 92 = .ok (.invokestatic 30, 3) := by decide +kernel
theorem dX0_decodedFrom_95 : decode cX0_decodedFrom 95 = .ok (.iconst 3, 1) := by decide +kernel
theorem dX0_decodedFrom_96 : decode cX0_decodedFrom 96 = .ok (.ishl, 1) := by decide +kernel
theorem dX0_decodedFrom_97 : decode cX0_decodedFrom 97 = .ok (.ior, 1) := by decide +kernel
theorem dX0_decodedFrom_98 : decode cX0_decodedFrom 98 = .ok (.ireturn, 1) := by decide +kernel
theorem dX0_decodedFrom_60 : decode cX0_decodedFrom 60 = .ok (.iload_n 1, 1) := by decide +kernel
theorem dX0_decodedFrom_61 : decode cX0_decodedFrom 61 = .ok (.iconst 1, 1) := by decide +kernel
theorem dX0_decodedFrom_62 : decode cX0_decodedFrom 62 = .ok (.iload_n 2, 1) := by decide +kernel
theorem dX0_decodedFrom_63 : decode cX0_decodedFrom 63 = .ok (.iconst 1, 1) := by decide +kernel
theorem dX0_decodedFrom_64 : decode cX0_decodedFrom 64 = .ok (.isub, 1) := by decide +kernel
theorem dX0_decodedFrom_65 : decode cX0_decodedFrom 65 = .ok (.ishl, 1) := by decide +kernel
theorem dX0_decodedFrom_66 : decode cX0_decodedFrom 66 = .ok (.ixor, 1) := by decide +kernel
theorem dX0_decodedFrom_52 : decode cX0_decodedFrom 52 = .ok (.iload_n 2, 1) := by decide +kernel
theorem dX0_decodedFrom_53 : decode cX0_decodedFrom 53 = .ok (.ifCond .ne 7, 3) := by decide +kernel
theorem dX0_decodedFrom_56 : decode cX0_decodedFrom 56 = .ok (.iload_n 1, 1) := by decide +kernel
theorem dX0_decodedFrom_57 : decode cX0_decodedFrom 57 = .ok (.goto 10, 3) := by decide +kernel
theorem dX0_decodedFrom_24 : decode cX0_decodedFrom 24 = .ok (.iload_n 3, 1) := by decide +kernel
theorem dX0_decodedFrom_25 : decode cX0_decodedFrom 25 = .ok (.iconst 3, 1) := by decide +kernel
theorem dX0_decodedFrom_26 : decode cX0_decodedFrom 26 = .ok (.if_icmp .ge 26, 3) := by decide +kernel
theorem dX0_decodedFrom_29 : decode cX0_decodedFrom 29 = .ok (.iload_n 2, 1) := by decide +kernel
theorem dX0_decodedFrom_30 : decode cX0_decodedFrom 30 = .ok (.iload_n 1, 1) := by decide +kernel
theorem dX0_decodedFrom_31 : decode cX0_decodedFrom 31 = .ok (.getstatic 27, 3) := by decide +kernel
theorem dX0_decodedFrom_34 : decode cX0_decodedFrom 34 = .ok (.iload_n 3, 1) := by decide +kernel
theorem dX0_decodedFrom_35 : decode cX0_decodedFrom 35 = .ok (.iaload, 1) := by decide +kernel
theorem dX0_decodedFrom_36 : decode cX0_decodedFrom 36 = .ok (.iand, 1) := by decide +kernel
theorem dX0_decodedFrom_37 : decode cX0_decodedFrom 37 = .ok (.invokestatic 21, 3) := by decide +kernel
theorem dX0_decodedFrom_40 : decode cX0_decodedFrom 40 = .ok (.iconst 1, 1) := by decide +kernel
theorem dX0_decodedFrom_41 : decode cX0_decodedFrom 41 = .ok (.iand, 1) := by decide +kernel
theorem dX0_decodedFrom_42 : decode cX0_decodedFrom 42 = .ok (.iload_n 3, 1) := by decide +kernel
theorem dX0_decodedFrom_43 : decode cX0_decodedFrom 43 = .ok (.ishl, 1) := by decide +kernel
theorem dX0_decodedFrom_44 : decode cX0_decodedFrom 44 = .ok (.ior, 1) := by decide +kernel
theorem dX0_decodedFrom_45 : decode cX0_decodedFrom 45 = .ok (.istore_n 2, 1) := by decide +kernel
theorem dX0_decodedFrom_46 : decode cX0_decodedFrom 46 = .ok (.iinc 3 1, 3) := by decide +kernel
theorem dX0_decodedFrom_49 : decode cX0_decodedFrom 49 = .ok (.goto (-25), 3) := by decide +kernel
theorem dX0_decodedFrom_20 : decode cX0_decodedFrom 20 = .ok (.iconst 0, 1) := by decide +kernel
theorem dX0_decodedFrom_21 : decode cX0_decodedFrom 21 = .ok (.istore_n 2, 1) := by decide +kernel
theorem dX0_decodedFrom_22 : decode cX0_decodedFrom 22 = .ok (.iconst 0, 1) := by decide +kernel
theorem dX0_decodedFrom_23 : decode cX0_decodedFrom 23 = .ok (.istore_n 3, 1) := by decide +kernel
theorem dX0_decodedFrom_19 : decode cX0_decodedFrom 19 = .ok (.ireturn, 1) := by decide +kernel
theorem dX0_decodedFrom_18 : decode cX0_decodedFrom 18 = .ok (.iconst 0, 1) := by decide +kernel
theorem dX0_decodedFrom_0 : decode cX0_decodedFrom 0 = .ok (.iload_n 0, 1) := by decide +kernel
theorem dX0_decodedFrom_1 : decode cX0_decodedFrom 1 = .ok (.ifCond .eq 19, 3) := by decide +kernel
theorem dX0_decodedFrom_4 : decode cX0_decodedFrom 4 = .ok (.iconst 2, 1) := by decide +kernel
theorem dX0_decodedFrom_5 : decode cX0_decodedFrom 5 = .ok (.iload_n 1, 1) := by decide +kernel
theorem dX0_decodedFrom_6 : decode cX0_decodedFrom 6 = .ok (.invokestatic 21, 3) := by decide +kernel
theorem dX0_decodedFrom_9 : decode cX0_decodedFrom 9 = .ok (.imul, 1) := by decide +kernel
theorem dX0_decodedFrom_10 : decode cX0_decodedFrom 10 = .ok (.iload_n 0, 1) := by decide +kernel
theorem dX0_decodedFrom_11 : decode cX0_decodedFrom 11 = .ok (.if_icmp .le 7, 3) := by decide +kernel
theorem dX0_decodedFrom_14 : decode cX0_decodedFrom 14 = .ok (.iconst 1, 1) := by decide +kernel
theorem dX0_decodedFrom_15 : decode cX0_decodedFrom 15 = .ok (.goto 4, 3) := by decide +kernel
theorem dX0_wordsOf_56 : decode cX0_wordsOf 56 = .ok (.iload 4, 2) := by decide +kernel
theorem dX0_wordsOf_58 : decode cX0_wordsOf 58 = .ok (.ireturn, 1) := by decide +kernel
theorem dX0_wordsOf_11 : decode cX0_wordsOf 11 = .ok (.iload 5, 2) := by decide +kernel
theorem dX0_wordsOf_13 : decode cX0_wordsOf 13 = .ok (.iload_n 1, 1) := by decide +kernel
theorem dX0_wordsOf_14 : decode cX0_wordsOf 14 = .ok (.if_icmp .ge 42, 3) := by decide +kernel
theorem dX0_wordsOf_17 : decode cX0_wordsOf 17 = .ok (.iload_n 2, 1) := by decide +kernel
theorem dX0_wordsOf_18 : decode cX0_wordsOf 18 = .ok (.iload 5, 2) := by decide +kernel
theorem dX0_wordsOf_20 : decode cX0_wordsOf 20 = .ok (.iload_n 3, 1) := by decide +kernel
theorem dX0_wordsOf_21 : decode cX0_wordsOf 21 = .ok (.imul, 1) := by decide +kernel
theorem dX0_wordsOf_22 : decode cX0_wordsOf 22 = .ok (.ishr, 1) := by decide +kernel
theorem dX0_wordsOf_23 : decode cX0_wordsOf 23 = .ok (.iconst 1, 1) := by decide +kernel
theorem dX0_wordsOf_24 : decode cX0_wordsOf 24 = .ok (.iload_n 3, 1) := by decide +kernel
theorem dX0_wordsOf_25 : decode cX0_wordsOf 25 = .ok (.ishl, 1) := by decide +kernel
theorem dX0_wordsOf_26 : decode cX0_wordsOf 26 = .ok (.iconst 1, 1) := by decide +kernel
theorem dX0_wordsOf_27 : decode cX0_wordsOf 27 = .ok (.isub, 1) := by decide +kernel
theorem dX0_wordsOf_28 : decode cX0_wordsOf 28 = .ok (.iand, 1) := by decide +kernel
theorem dX0_wordsOf_29 : decode cX0_wordsOf 29 = .ok (.istore 6, 2) := by decide +kernel
theorem dX0_wordsOf_31 : decode cX0_wordsOf 31 = .ok (.iload 4, 2) := by decide +kernel
theorem dX0_wordsOf_33 : decode cX0_wordsOf 33 = .ok (.iload_n 0, 1) := by decide +kernel
theorem dX0_wordsOf_34 : decode cX0_wordsOf 34 = .ok (.iload 6, 2) := by decide +kernel
theorem dX0_wordsOf_36 : decode cX0_wordsOf 36 = .ok (.invokestatic 36, 3) := by decide +kernel
theorem dX0_wordsOf_39 : decode cX0_wordsOf 39 = .ok (.iload 5, 2) := by decide +kernel
theorem dX0_wordsOf_41 : decode cX0_wordsOf 41 = .ok (.iload_n 0, 1) := by decide +kernel
theorem dX0_wordsOf_42 : decode cX0_wordsOf 42 = .ok (.invokestatic 39, 3) := by decide +kernel
theorem dX0_wordsOf_45 : decode cX0_wordsOf 45 = .ok (.imul, 1) := by decide +kernel
theorem dX0_wordsOf_46 : decode cX0_wordsOf 46 = .ok (.ishl, 1) := by decide +kernel
theorem dX0_wordsOf_47 : decode cX0_wordsOf 47 = .ok (.ior, 1) := by decide +kernel
theorem dX0_wordsOf_48 : decode cX0_wordsOf 48 = .ok (.istore 4, 2) := by decide +kernel
theorem dX0_wordsOf_50 : decode cX0_wordsOf 50 = .ok (.iinc 5 1, 3) := by decide +kernel
theorem dX0_wordsOf_53 : decode cX0_wordsOf 53 = .ok (.goto (-42), 3) := by decide +kernel
theorem dX0_wordsOf_0 : decode cX0_wordsOf 0 = .ok (.iload_n 0, 1) := by decide +kernel
theorem dX0_wordsOf_1 : decode cX0_wordsOf 1 = .ok (.invokestatic 33, 3) := by decide +kernel
theorem dX0_wordsOf_4 : decode cX0_wordsOf 4 = .ok (.istore_n 3, 1) := by decide +kernel
theorem dX0_wordsOf_5 : decode cX0_wordsOf 5 = .ok (.iconst 0, 1) := by decide +kernel
theorem dX0_wordsOf_6 : decode cX0_wordsOf 6 = .ok (.istore 4, 2) := by decide +kernel
theorem dX0_wordsOf_8 : decode cX0_wordsOf 8 = .ok (.iconst 0, 1) := by decide +kernel
theorem dX0_wordsOf_9 : decode cX0_wordsOf 9 = .ok (.istore 5, 2) := by decide +kernel
theorem dX0_secretFrom_56 : decode cX0_secretFrom 56 = .ok (.iload 4, 2) := by decide +kernel
theorem dX0_secretFrom_58 : decode cX0_secretFrom 58 = .ok (.ireturn, 1) := by decide +kernel
theorem dX0_secretFrom_11 : decode cX0_secretFrom 11 = .ok (.iload 5, 2) := by decide +kernel
theorem dX0_secretFrom_13 : decode cX0_secretFrom 13 = .ok (.iload_n 1, 1) := by decide +kernel
theorem dX0_secretFrom_14 : decode cX0_secretFrom 14 = .ok (.if_icmp .ge 42, 3) := by decide +kernel
theorem dX0_secretFrom_17 : decode cX0_secretFrom 17 = .ok (.iload_n 2, 1) := by decide +kernel
theorem dX0_secretFrom_18 : decode cX0_secretFrom 18 = .ok (.iload 5, 2) := by decide +kernel
theorem dX0_secretFrom_20 : decode cX0_secretFrom 20 = .ok (.iload_n 3, 1) := by decide +kernel
theorem dX0_secretFrom_21 : decode cX0_secretFrom 21 = .ok (.imul, 1) := by decide +kernel
theorem dX0_secretFrom_22 : decode cX0_secretFrom 22 = .ok (.ishr, 1) := by decide +kernel
theorem dX0_secretFrom_23 : decode cX0_secretFrom 23 = .ok (.iconst 1, 1) := by decide +kernel
theorem dX0_secretFrom_24 : decode cX0_secretFrom 24 = .ok (.iload_n 3, 1) := by decide +kernel
theorem dX0_secretFrom_25 : decode cX0_secretFrom 25 = .ok (.ishl, 1) := by decide +kernel
theorem dX0_secretFrom_26 : decode cX0_secretFrom 26 = .ok (.iconst 1, 1) := by decide +kernel
theorem dX0_secretFrom_27 : decode cX0_secretFrom 27 = .ok (.isub, 1) := by decide +kernel
theorem dX0_secretFrom_28 : decode cX0_secretFrom 28 = .ok (.iand, 1) := by decide +kernel
theorem dX0_secretFrom_29 : decode cX0_secretFrom 29 = .ok (.istore 6, 2) := by decide +kernel
theorem dX0_secretFrom_31 : decode cX0_secretFrom 31 = .ok (.iload 4, 2) := by decide +kernel
theorem dX0_secretFrom_33 : decode cX0_secretFrom 33 = .ok (.iload_n 0, 1) := by decide +kernel
theorem dX0_secretFrom_34 : decode cX0_secretFrom 34 = .ok (.iload 6, 2) := by decide +kernel
theorem dX0_secretFrom_36 : decode cX0_secretFrom 36 = .ok (.invokestatic 42, 3) := by decide +kernel
theorem dX0_secretFrom_39 : decode cX0_secretFrom 39 = .ok (.iload 5, 2) := by decide +kernel
theorem dX0_secretFrom_41 : decode cX0_secretFrom 41 = .ok (.iload_n 0, 1) := by decide +kernel
theorem dX0_secretFrom_42 : decode cX0_secretFrom 42 = .ok (.invokestatic 33, 3) := by decide +kernel
theorem dX0_secretFrom_45 : decode cX0_secretFrom 45 = .ok (.imul, 1) := by decide +kernel
theorem dX0_secretFrom_46 : decode cX0_secretFrom 46 = .ok (.ishl, 1) := by decide +kernel
theorem dX0_secretFrom_47 : decode cX0_secretFrom 47 = .ok (.ior, 1) := by decide +kernel
theorem dX0_secretFrom_48 : decode cX0_secretFrom 48 = .ok (.istore 4, 2) := by decide +kernel
theorem dX0_secretFrom_50 : decode cX0_secretFrom 50 = .ok (.iinc 5 1, 3) := by decide +kernel
theorem dX0_secretFrom_53 : decode cX0_secretFrom 53 = .ok (.goto (-42), 3) := by decide +kernel
theorem dX0_secretFrom_0 : decode cX0_secretFrom 0 = .ok (.iload_n 0, 1) := by decide +kernel
theorem dX0_secretFrom_1 : decode cX0_secretFrom 1 = .ok (.invokestatic 39, 3) := by decide +kernel
theorem dX0_secretFrom_4 : decode cX0_secretFrom 4 = .ok (.istore_n 3, 1) := by decide +kernel
theorem dX0_secretFrom_5 : decode cX0_secretFrom 5 = .ok (.iconst 0, 1) := by decide +kernel
theorem dX0_secretFrom_6 : decode cX0_secretFrom 6 = .ok (.istore 4, 2) := by decide +kernel
theorem dX0_secretFrom_8 : decode cX0_secretFrom 8 = .ok (.iconst 0, 1) := by decide +kernel
theorem dX0_secretFrom_9 : decode cX0_secretFrom 9 = .ok (.istore 5, 2) := by decide +kernel
theorem dX0_canBecome_23 : decode cX0_canBecome 23 = .ok (.ireturn, 1) := by decide +kernel
theorem dX0_canBecome_22 : decode cX0_canBecome 22 = .ok (.iconst 0, 1) := by decide +kernel
theorem dX0_canBecome_18 : decode cX0_canBecome 18 = .ok (.iconst 1, 1) := by decide +kernel
theorem dX0_canBecome_19 : decode cX0_canBecome 19 = .ok (.goto 4, 3) := by decide +kernel
theorem dX0_canBecome_0 : decode cX0_canBecome 0 = .ok (.iload_n 1, 1) := by decide +kernel
theorem dX0_canBecome_1 : decode cX0_canBecome 1 = .ok (.iconst 4, 1) := by decide +kernel
theorem dX0_canBecome_2 : decode cX0_canBecome 2 = .ok (.if_icmp .ge 16, 3) := by decide +kernel
theorem dX0_canBecome_5 : decode cX0_canBecome 5 = .ok (.iload_n 0, 1) := by decide +kernel
theorem dX0_canBecome_6 : decode cX0_canBecome 6 = .ok (.iconst 0, 1) := by decide +kernel
theorem dX0_canBecome_7 : decode cX0_canBecome 7 = .ok (.iload_n 1, 1) := by decide +kernel
theorem dX0_canBecome_8 : decode cX0_canBecome 8 = .ok (.invokestatic 45, 3) := by decide +kernel
theorem dX0_canBecome_11 : decode cX0_canBecome 11 = .ok (.iload_n 2, 1) := by decide +kernel
theorem dX0_canBecome_12 : decode cX0_canBecome 12 = .ok (.ixor, 1) := by decide +kernel
theorem dX0_canBecome_13 : decode cX0_canBecome 13 = .ok (.iload_n 1, 1) := by decide +kernel
theorem dX0_canBecome_14 : decode cX0_canBecome 14 = .ok (.ishr, 1) := by decide +kernel
theorem dX0_canBecome_15 : decode cX0_canBecome 15 = .ok (.ifCond .ne 7, 3) := by decide +kernel
/-! shifts and masks of small numbers -/
theorem shrI {m i : Nat} (hm : m < 2 ^ 31) (hi : i < 32) : nI m >>> (nI i &&& 31) = nI (m / 2 ^ i) := pk_shrN hm _ i (s_l i hi)
theorem shlI {m i : Nat} (hi : i < 32) (h : m * 2 ^ i < 2 ^ 32) : nI m <<< (nI i &&& 31) = nI (m * 2 ^ i) := pk_shlN _ i (s_l i hi) h
theorem mskI {m k : Nat} (hk : k < 31) : nI m &&& ((1 : Int32) <<< (nI k &&& 31) - 1) = nI (m % 2 ^ k) := by rw [nI_lo hk, fa_mask]
/-- the places of Hamming's words and sums -/
def hpt (i : Nat) : Nat := ([11, 13, 1, 14, 2, 4, 8] : List Nat).getD i 0
def hsm (i : Nat) : Nat := ([85, 102, 120] : List Nat).getD i 0
def hmw (x : Nat) : Nat → Nat := mk (fun i => decide (pop (x &&& hpt i) % 2 = 1))
def hms (x : Nat) : Nat → Nat := mk (fun i => decide (pop (x &&& hsm i) % 2 = 1))
theorem hmw_i : ∀ x, x < 16 → ∀ i, i < 7 → (pcI (nI x &&& zCc 0 i) &&& 1) <<< (nI i &&& 31) = nI (if pop (x &&& hpt i) % 2 = 1 then 2 ^ i else 0) := by decide +kernel
theorem hms_i : ∀ x, x < 128 → ∀ i, i < 3 → (pcI (nI x &&& zCc 1 i) &&& 1) <<< (nI i &&& 31) = nI (if pop (x &&& hsm i) % 2 = 1 then 2 ^ i else 0) := by decide +kernel
/-- the word of a block's data -/
def wdN (r x : Nat) : Nat := if r = 0 then hmw x 7 else if x = 1 then 2 ^ r - 1 else 0
def ca_X0_wordOf : (Nat × Nat) → List zV := fun (r, x) => [vI (nI r), vI (nI x)]
def cp_X0_wordOf : (Nat × Nat) → zH → Prop := fun (r, x) _ => vRp r ∧ x < 2 ^ btR r
def cf_X0_wordOf : (Nat × Nat) → zH → Int32 := fun (r, x) _ => nI (wdN r x)
set_option maxHeartbeats 4000000 in
set_option maxRecDepth 100000 in
theorem m_X0_wordOf : zM yX0_wordOf cX0_wordOf 4 (some .int) ({ frames := 1, cells := 0, slots := 0, locals := 20 } : Room) (zcI ca_X0_wordOf cp_X0_wordOf cf_X0_wordOf) := by
  refine zM_of (by decide) ?_
  rintro X Y ⟨r, x⟩ h ⟨hr, hx⟩ O E hR
  have B_52 := zr_iload_n (X := X) (Y := Y) (u := 0) (v := 0) O dX0_wordOf_52 rfl (zr_ireturn O E (Nat.le_refl _) (Nat.le_refl _) dX0_wordOf_53)
  have L_23 : ∀ nn : Nat, zSd X Y 0 0 23 ((fun k ls st h1 => ∃ (i : Nat) (y z : Int32), r = 0 ∧ k = 7 - i ∧ i ≤ 7 ∧ ls = [some (vI (nI r)), some (vI (nI x)), some (vI y), some (vI z)] ∧ y = nI (hmw x i) ∧ z = nI i ∧ st = [] ∧ h = h1 : Nat → zT) nn) := by
    refine zSd_loop (fun nn ih => ?_)
    have B_23 := zr_iload_n (X := X) (Y := Y) (u := 0) (v := 0) O dX0_wordOf_23 rfl (zr_bipush (x := (7)) O dX0_wordOf_24 (by decide) (zr_icge (tgt := 52) O dX0_wordOf_26 rfl B_52 (zr_iload_n O dX0_wordOf_29 rfl (zr_iload_n O dX0_wordOf_30 rfl (zr_gst (n := 0) O (by decide) tw_825 dX0_wordOf_31 (zr_iload_n O dX0_wordOf_34 rfl (zr_iald8 O dX0_wordOf_35 (zr_iand O dX0_wordOf_36 (zr_cI (zr_cS (n := 1) O m_J6_bitCount_0f7a4 (bn_J6_bitCount_0f7a4 _ ⟨rfl, rfl⟩) tw_767 tw_827 (zrm hR rfl rfl) dX0_wordOf_37 (zr_iconst (x := 1) O dX0_wordOf_40 rfl (zr_iand O dX0_wordOf_41 (zr_iload_n O dX0_wordOf_42 rfl (zr_ishl O dX0_wordOf_43 (zr_ior O dX0_wordOf_44 (zr_istore_n O dX0_wordOf_45 rfl (zr_iinc (c := 1) O dX0_wordOf_46 rfl (zr_goto (tgt := 23) O dX0_wordOf_49 rfl ih))))))))))))))))))
    refine zSd_weak B_23 (fun ls st h1 t => ?_)
    obtain ⟨i, y, z, rfl, rfl, hi, rfl, rfl, rfl, rfl, rfl⟩ := t
    have hx16 : x < 16 := hx
    refine ⟨fun cq => ⟨zri ?_, rfl⟩, fun cq t0 => ?_⟩
    · have := (nI_leI (a := 7) (by omega) (by omega)).mp cq
      rw [show i = 7 by omega]
      rfl
    · have hi2 : i < 7 := Nat.not_le.mp (fun z => cq ((nI_leI (a := 7) (by omega) (by omega)).mpr z))
      refine ⟨i, rfl, hi2, _, rfl, trivial, 7 - (i + 1), by omega, i + 1, _, _, rfl, rfl, by omega, rfl, ?_, nI_1 i, rfl, rfl⟩
      have e := hmw_i x hx16 i hi2
      show nI (hmw x i) ||| ((pcI (nI x &&& zCc 0 i) &&& 1) <<< (nI i &&& 31)) = nI (hmw x i ||| _)
      rw [e, fa_or]
      simp
  have B_23 := zSd_any L_23
  have B_19 := zr_iconst (X := X) (Y := Y) (u := 0) (v := 0) (x := 0) O dX0_wordOf_19 rfl (zr_istore_n O dX0_wordOf_20 rfl (zr_iconst (x := 0) O dX0_wordOf_21 rfl (zr_istore_n O dX0_wordOf_22 rfl (B_23))))
  have B_18 := zr_ireturn (X := X) (Y := Y) (u := 0) (v := 0) O E (Nat.le_refl _) (Nat.le_refl _) dX0_wordOf_18
  have B_17 := zr_iconst (X := X) (Y := Y) (u := 0) (v := 0) (x := 0) O dX0_wordOf_17 rfl (B_18)
  have B_0 := zr_iload_n (X := X) (Y := Y) (u := 0) (v := 0) O dX0_wordOf_0 rfl (zr_ifeq (tgt := 19) O dX0_wordOf_1 rfl B_19 (zr_iload_n O dX0_wordOf_4 rfl (zr_iconst (x := 1) O dX0_wordOf_5 rfl (zr_icne (tgt := 17) O dX0_wordOf_6 rfl B_17 (zr_iconst (x := 1) O dX0_wordOf_9 rfl (zr_iload_n O dX0_wordOf_10 rfl (zr_ishl O dX0_wordOf_11 (zr_iconst (x := 1) O dX0_wordOf_12 rfl (zr_isub O dX0_wordOf_13 (zr_goto (tgt := 18) O dX0_wordOf_14 rfl B_18))))))))))
  refine ⟨rfl, Nat.le_of_ble_eq_true rfl, _, B_0, ?_⟩
  refine ⟨fun cq => ⟨7 - 0, 0, _, _, ?_, rfl, Nat.zero_le _, rfl, rfl, rfl, rfl, rfl⟩, fun cq => ?_⟩
  · rcases hr with rfl | rfl | rfl | rfl | rfl <;> first | rfl | exact absurd cq (by decide)
  · have h0 : r ≠ 0 := fun z => cq (by rw [z]; rfl)
    have hr8 : r < 8 := by rcases hr with rfl | rfl | rfl | rfl | rfl <;> decide
    have hb : btR r = 1 := if_neg h0
    rw [hb] at hx
    refine ⟨fun dq => ⟨zri ?_, rfl⟩, fun dq => ⟨zri ?_, rfl⟩⟩
    · have : x ≠ 1 := fun z => dq (by rw [z]; rfl)
      show (0 : Int32) = nI (wdN r x)
      rw [wdN, if_neg h0, if_neg this]
      rfl
    · have : x = 1 := (nI_eq (b := 1) (by omega) (by omega)).mp dq
      show (1 : Int32) <<< (nI r &&& 31) - 1 = nI (wdN r x)
      rw [nI_lo (by omega), wdN, if_neg h0, if_pos this]
/-- the data that a word decodes to -/
def hmd (w : Nat) : Nat := if hms w 3 = 0 then w else w ^^^ 2 ^ (hms w 3 - 1)
def h4b (w : Nat) : Nat := (w.testBit 2).toNat + 2 * (w.testBit 4).toNat + 4 * (w.testBit 5).toNat + 8 * (w.testBit 6).toNat
def dcN (r w : Nat) : Nat := if r = 0 then h4b (hmd w) else if r < 2 * pop w then 1 else 0
theorem hmd_i : ∀ w, w < 128 → hms w 3 < 8 ∧ (hms w 3 ≠ 0 → nI w ^^^ ((1 : Int32) <<< ((nI (hms w 3) - 1) &&& 31)) = nI (w ^^^ 2 ^ (hms w 3 - 1)) ∧ w ^^^ 2 ^ (hms w 3 - 1) < 128) := by decide +kernel
theorem h4b_i : ∀ w, w < 128 → ((((nI w >>> ((2 : Int32) &&& 31)) &&& 1) ||| (((nI w >>> ((4 : Int32) &&& 31)) &&& 1) <<< ((1 : Int32) &&& 31))) ||| (((nI w >>> ((5 : Int32) &&& 31)) &&& 1) <<< ((2 : Int32) &&& 31))) ||| (((nI w >>> ((6 : Int32) &&& 31)) &&& 1) <<< ((3 : Int32) &&& 31)) = nI (h4b w) := by decide +kernel
theorem pop7 : ∀ w, w < 128 → pcI (nI w) = nI (pop w) := fun w h => pcI_pop (by omega)
def ca_X0_decodedFrom : (Nat × Nat) → List zV := fun (r, w) => [vI (nI r), vI (nI w)]
def cp_X0_decodedFrom : (Nat × Nat) → zH → Prop := fun (r, w) _ => vRp r ∧ w < 128
def cf_X0_decodedFrom : (Nat × Nat) → zH → Int32 := fun (r, w) _ => nI (dcN r w)
set_option maxHeartbeats 4000000 in
set_option maxRecDepth 100000 in
theorem m_X0_decodedFrom : zM yX0_decodedFrom cX0_decodedFrom 4 (some .int) ({ frames := 1, cells := 0, slots := 0, locals := 21 } : Room) (zcI ca_X0_decodedFrom cp_X0_decodedFrom cf_X0_decodedFrom) := by
  refine zM_of (by decide) ?_
  rintro X Y ⟨r, w⟩ h ⟨hr, hw⟩ O E hR
  have B_67 := zr_istore_n (X := X) (Y := Y) (u := 0) (v := 0) O dX0_decodedFrom_67 rfl (zr_iload_n O dX0_decodedFrom_68 rfl (zr_iconst (x := 2) O dX0_decodedFrom_69 rfl (zr_cI (zr_cSN (n := 2) O m_X10_bitIn (bn_X10_bitIn _ ⟨rfl, rfl⟩) tw_374 wn_RX0_30 (zrm hR rfl rfl) dX0_decodedFrom_70 (zr_iload_n O dX0_decodedFrom_73 rfl (zr_iconst (x := 4) O dX0_decodedFrom_74 rfl (zr_cI (zr_cSN (n := 2) O m_X10_bitIn (bn_X10_bitIn _ ⟨rfl, rfl⟩) tw_374 wn_RX0_30 (zrm hR rfl rfl) dX0_decodedFrom_75 (zr_iconst (x := 1) O dX0_decodedFrom_78 rfl (zr_ishl O dX0_decodedFrom_79 (zr_ior O dX0_decodedFrom_80 (zr_iload_n O dX0_decodedFrom_81 rfl (zr_iconst (x := 5) O dX0_decodedFrom_82 rfl (zr_cI (zr_cSN (n := 2) O m_X10_bitIn (bn_X10_bitIn _ ⟨rfl, rfl⟩) tw_374 wn_RX0_30 (zrm hR rfl rfl) dX0_decodedFrom_83 (zr_iconst (x := 2) O dX0_decodedFrom_86 rfl (zr_ishl O dX0_decodedFrom_87 (zr_ior O dX0_decodedFrom_88 (zr_iload_n O dX0_decodedFrom_89 rfl (zr_bipush (x := (6)) O dX0_decodedFrom_90 (by decide) (zr_cI (zr_cSN (n := 2) O m_X10_bitIn (bn_X10_bitIn _ ⟨rfl, rfl⟩) tw_374 wn_RX0_30 (zrm hR rfl rfl) dX0_decodedFrom_92 (zr_iconst (x := 3) O dX0_decodedFrom_95 rfl (zr_ishl O dX0_decodedFrom_96 (zr_ior O dX0_decodedFrom_97 (zr_ireturn O E (Nat.le_refl _) (Nat.le_refl _) dX0_decodedFrom_98))))))))))))))))))))))))))
  have B_60 := zr_iload_n (X := X) (Y := Y) (u := 0) (v := 0) O dX0_decodedFrom_60 rfl (zr_iconst (x := 1) O dX0_decodedFrom_61 rfl (zr_iload_n O dX0_decodedFrom_62 rfl (zr_iconst (x := 1) O dX0_decodedFrom_63 rfl (zr_isub O dX0_decodedFrom_64 (zr_ishl O dX0_decodedFrom_65 (zr_ixor O dX0_decodedFrom_66 (B_67)))))))
  have B_52 := zr_iload_n (X := X) (Y := Y) (u := 0) (v := 0) O dX0_decodedFrom_52 rfl (zr_ifne (tgt := 60) O dX0_decodedFrom_53 rfl B_60 (zr_iload_n O dX0_decodedFrom_56 rfl (zr_goto (tgt := 67) O dX0_decodedFrom_57 rfl B_67)))
  have L_24 : ∀ nn : Nat, zSd X Y 0 0 24 ((fun k ls st h1 => ∃ (i : Nat) (y z : Int32), r = 0 ∧ k = 3 - i ∧ i ≤ 3 ∧ ls = [some (vI (nI r)), some (vI (nI w)), some (vI y), some (vI z)] ∧ y = nI (hms w i) ∧ z = nI i ∧ st = [] ∧ h = h1 : Nat → zT) nn) := by
    refine zSd_loop (fun nn ih => ?_)
    have B_24 := zr_iload_n (X := X) (Y := Y) (u := 0) (v := 0) O dX0_decodedFrom_24 rfl (zr_iconst (x := 3) O dX0_decodedFrom_25 rfl (zr_icge (tgt := 52) O dX0_decodedFrom_26 rfl B_52 (zr_iload_n O dX0_decodedFrom_29 rfl (zr_iload_n O dX0_decodedFrom_30 rfl (zr_gst (n := 1) O (by decide) tw_1012 dX0_decodedFrom_31 (zr_iload_n O dX0_decodedFrom_34 rfl (zr_iald8 O dX0_decodedFrom_35 (zr_iand O dX0_decodedFrom_36 (zr_cI (zr_cS (n := 1) O m_J6_bitCount_0f7a4 (bn_J6_bitCount_0f7a4 _ ⟨rfl, rfl⟩) tw_767 tw_827 (zrm hR rfl rfl) dX0_decodedFrom_37 (zr_iconst (x := 1) O dX0_decodedFrom_40 rfl (zr_iand O dX0_decodedFrom_41 (zr_iload_n O dX0_decodedFrom_42 rfl (zr_ishl O dX0_decodedFrom_43 (zr_ior O dX0_decodedFrom_44 (zr_istore_n O dX0_decodedFrom_45 rfl (zr_iinc (c := 1) O dX0_decodedFrom_46 rfl (zr_goto (tgt := 24) O dX0_decodedFrom_49 rfl ih))))))))))))))))))
    refine zSd_weak B_24 (fun ls st h1 t => ?_)
    obtain ⟨i, y, z, rfl, rfl, hi, rfl, rfl, rfl, rfl, rfl⟩ := t
    refine ⟨fun cq => ?_, fun cq t0 => ?_⟩
    · have := (nI_leI (a := 3) (by omega) (by omega)).mp cq
      obtain rfl : i = 3 := by omega
      obtain ⟨m1, m2⟩ := hmd_i w hw
      refine ⟨fun dq => ?_, fun dq => ?_⟩
      · have hz : hms w 3 ≠ 0 := fun z => dq (by rw [z]; rfl)
        obtain ⟨m3, m4⟩ := m2 hz
        refine ⟨(_, _), rfl, trivial, (_, _), rfl, trivial, (_, _), rfl, trivial, (_, _), rfl, trivial, zri ?_, rfl⟩
        have e := h4b_i _ m4
        rw [← m3] at e
        refine e.trans ?_
        show nI (h4b (w ^^^ 2 ^ (hms w 3 - 1))) = nI (dcN 0 w)
        rw [dcN, if_pos rfl, hmd, if_neg hz]
      · have hz : hms w 3 = 0 := (nI_eq (b := 0) (by omega) (by omega)).mp dq
        refine ⟨(_, _), rfl, trivial, (_, _), rfl, trivial, (_, _), rfl, trivial, (_, _), rfl, trivial, zri ?_, rfl⟩
        refine (h4b_i w hw).trans ?_
        show nI (h4b w) = nI (dcN 0 w)
        rw [dcN, if_pos rfl, hmd, if_pos hz]
    · have hi2 : i < 3 := Nat.not_le.mp (fun z => cq ((nI_leI (a := 3) (by omega) (by omega)).mpr z))
      refine ⟨i, rfl, hi2, _, rfl, trivial, 3 - (i + 1), by omega, i + 1, _, _, rfl, rfl, by omega, rfl, ?_, nI_1 i, rfl, rfl⟩
      have e := hms_i w hw i hi2
      show nI (hms w i) ||| ((pcI (nI w &&& zCc 1 i) &&& 1) <<< (nI i &&& 31)) = nI (hms w i ||| _)
      rw [e, fa_or]
      simp
  have B_24 := zSd_any L_24
  have B_20 := zr_iconst (X := X) (Y := Y) (u := 0) (v := 0) (x := 0) O dX0_decodedFrom_20 rfl (zr_istore_n O dX0_decodedFrom_21 rfl (zr_iconst (x := 0) O dX0_decodedFrom_22 rfl (zr_istore_n O dX0_decodedFrom_23 rfl (B_24))))
  have B_19 := zr_ireturn (X := X) (Y := Y) (u := 0) (v := 0) O E (Nat.le_refl _) (Nat.le_refl _) dX0_decodedFrom_19
  have B_18 := zr_iconst (X := X) (Y := Y) (u := 0) (v := 0) (x := 0) O dX0_decodedFrom_18 rfl (B_19)
  have B_0 := zr_iload_n (X := X) (Y := Y) (u := 0) (v := 0) O dX0_decodedFrom_0 rfl (zr_ifeq (tgt := 20) O dX0_decodedFrom_1 rfl B_20 (zr_iconst (x := 2) O dX0_decodedFrom_4 rfl (zr_iload_n O dX0_decodedFrom_5 rfl (zr_cI (zr_cS (n := 1) O m_J6_bitCount_0f7a4 (bn_J6_bitCount_0f7a4 _ ⟨rfl, rfl⟩) tw_767 tw_827 (zrm hR rfl rfl) dX0_decodedFrom_6 (zr_imul O dX0_decodedFrom_9 (zr_iload_n O dX0_decodedFrom_10 rfl (zr_icle (tgt := 18) O dX0_decodedFrom_11 rfl B_18 (zr_iconst (x := 1) O dX0_decodedFrom_14 rfl (zr_goto (tgt := 19) O dX0_decodedFrom_15 rfl B_19))))))))))
  refine ⟨rfl, Nat.le_of_ble_eq_true rfl, _, B_0, ?_⟩
  refine ⟨fun cq => ⟨3 - 0, 0, _, _, ?_, rfl, Nat.zero_le _, rfl, rfl, rfl, rfl, rfl⟩, fun cq => ?_⟩
  · rcases hr with rfl | rfl | rfl | rfl | rfl <;> first | rfl | exact absurd cq (by decide)
  · have h0 : r ≠ 0 := fun z => cq (by rw [z]; rfl)
    have hr8 : r < 8 := by rcases hr with rfl | rfl | rfl | rfl | rfl <;> decide
    have hp := pop_le w
    have e : (2 : Int32) * pcI (nI w) = nI (2 * pop w) := by rw [pop7 w hw, show (2 : Int32) = nI 2 from rfl, pk_mul]
    refine ⟨nI w, rfl, trivial, fun dq => ⟨zri ?_, rfl⟩, fun dq => ⟨zri ?_, rfl⟩⟩
    · replace dq : (2 : Int32) * pcI (nI w) ≤ nI r := dq
      rw [e] at dq
      have := (nI_leI (by omega) (by omega)).mp dq
      show (0 : Int32) = nI (dcN r w)
      rw [dcN, if_neg h0, if_neg (by omega)]
      rfl
    · replace dq : ¬ (2 : Int32) * pcI (nI w) ≤ nI r := dq
      rw [e] at dq
      have : r < 2 * pop w := Nat.not_le.mp (fun z => dq ((nI_leI (by omega) (by omega)).mpr z))
      show (1 : Int32) = nI (dcN r w)
      rw [dcN, if_neg h0, if_pos this]
      rfl
theorem wdN_lt {r x : Nat} (hr : vRp r) : wdN r x < 2 ^ lnR r := by
  unfold wdN lnR
  split
  · exact mk_lt _ _
  · split
    · have := Nat.one_le_two_pow (n := r); omega
    · exact Nat.two_pow_pos _
theorem dcN_lt {r w : Nat} : dcN r w < 2 ^ btR r := by
  unfold dcN btR
  split
  · unfold h4b
    generalize (hmd w).testBit 2 = a
    generalize (hmd w).testBit 4 = b
    generalize (hmd w).testBit 5 = c
    generalize (hmd w).testBit 6 = d
    revert a b c d
    decide
  · split <;> decide
/-- the data of block i in a secret -/
def sbk (r s i : Nat) : Nat := s / 2 ^ (i * btR r) % 2 ^ btR r
/-- the word of block i in all words -/
def wbk (r w i : Nat) : Nat := w / 2 ^ (i * lnR r) % 2 ^ lnR r
/-- all words of a secret; all data of words -/
def wsN (r s : Nat) : Nat → Nat
  | 0 => 0
  | n + 1 => wsN r s n ||| wdN r (sbk r s n) * 2 ^ (n * lnR r)
def scN (r w : Nat) : Nat → Nat
  | 0 => 0
  | n + 1 => scN r w n ||| dcN r (wbk r w n) * 2 ^ (n * btR r)
theorem or_lt {a b n : Nat} (ha : a < 2 ^ n) (hb : b < 2 ^ n) : a ||| b < 2 ^ n := Nat.or_lt_two_pow ha hb
theorem shl_lt {x k n l : Nat} (hx : x < 2 ^ l) (h : n * l + l ≤ k) : x * 2 ^ (n * l) < 2 ^ k := by
  have h1 : x * 2 ^ (n * l) < 2 ^ l * 2 ^ (n * l) := Nat.mul_lt_mul_of_pos_right hx (Nat.two_pow_pos _)
  rw [← Nat.pow_add] at h1
  exact Nat.lt_of_lt_of_le h1 (Nat.pow_le_pow_right (by omega) (by omega))
theorem wsN_lt {r s : Nat} (hr : vRp r) : ∀ n, wsN r s n < 2 ^ (n * lnR r)
  | 0 => by show 0 < _; exact Nat.two_pow_pos _
  | n + 1 => by
    have h1 := wsN_lt (s := s) hr n
    have e : (n + 1) * lnR r = n * lnR r + lnR r := Nat.succ_mul _ _
    rw [wsN]
    refine or_lt (Nat.lt_of_lt_of_le h1 (Nat.pow_le_pow_right (by omega) (by omega))) (shl_lt (wdN_lt hr) (by omega))
theorem scN_lt {r w : Nat} : ∀ n, scN r w n < 2 ^ (n * btR r)
  | 0 => by show 0 < _; exact Nat.two_pow_pos _
  | n + 1 => by
    have h1 := scN_lt (r := r) (w := w) n
    have e : (n + 1) * btR r = n * btR r + btR r := Nat.succ_mul _ _
    rw [scN]
    refine or_lt (Nat.lt_of_lt_of_le h1 (Nat.pow_le_pow_right (by omega) (by omega))) (shl_lt dcN_lt (by omega))
def ca_X0_wordsOf : (Nat × Nat × Nat) → List zV := fun (r, n, s) => [vI (nI r), vI (nI n), vI (nI s)]
def cp_X0_wordsOf : (Nat × Nat × Nat) → zH → Prop := fun (r, n, s) _ => vRp r ∧ n * lnR r ≤ 28 ∧ n * btR r ≤ 16 ∧ s < 2 ^ 16
def cf_X0_wordsOf : (Nat × Nat × Nat) → zH → Int32 := fun (r, n, s) _ => nI (wsN r s n)
set_option maxHeartbeats 4000000 in
set_option maxRecDepth 100000 in
theorem m_X0_wordsOf : zM yX0_wordsOf cX0_wordsOf 7 (some .int) ({ frames := 2, cells := 0, slots := 0, locals := 43 } : Room) (zcI ca_X0_wordsOf cp_X0_wordsOf cf_X0_wordsOf) := by
  refine zM_of (by decide) ?_
  rintro X Y ⟨r, n, s⟩ h ⟨hr, hn, hn2, hs⟩ O E hR
  obtain ⟨q1, q2, q3, q4⟩ := lnR_pos hr
  have hnb : n ≤ 28 := Nat.le_trans (Nat.le_mul_of_pos_right _ (by omega)) hn
  have B_56 := zr_iload (X := X) (Y := Y) (u := 0) (v := 0) O dX0_wordsOf_56 (zr_ireturn O E (Nat.le_refl _) (Nat.le_refl _) dX0_wordsOf_58)
  have L_11 : ∀ nn : Nat, zSd X Y 0 0 11 ((fun k ls st h1 => ∃ (i : Nat) (y z : Int32) (w : Option zV), k = n - i ∧ i ≤ n ∧ ls = [some (vI (nI r)), some (vI (nI n)), some (vI (nI s)), some (vI (nI (btR r))), some (vI y), some (vI z), w] ∧ y = nI (wsN r s i) ∧ z = nI i ∧ st = [] ∧ h = h1 : Nat → zT) nn) := by
    refine zSd_loop (fun nn ih => ?_)
    have B_11 := zr_iload (X := X) (Y := Y) (u := 0) (v := 0) O dX0_wordsOf_11 (zr_iload_n O dX0_wordsOf_13 rfl (zr_icge (tgt := 56) O dX0_wordsOf_14 rfl B_56 (zr_iload_n O dX0_wordsOf_17 rfl (zr_iload O dX0_wordsOf_18 (zr_iload_n O dX0_wordsOf_20 rfl (zr_imul O dX0_wordsOf_21 (zr_ishr O dX0_wordsOf_22 (zr_iconst (x := 1) O dX0_wordsOf_23 rfl (zr_iload_n O dX0_wordsOf_24 rfl (zr_ishl O dX0_wordsOf_25 (zr_iconst (x := 1) O dX0_wordsOf_26 rfl (zr_isub O dX0_wordsOf_27 (zr_iand O dX0_wordsOf_28 (zr_istore O dX0_wordsOf_29 (zr_iload O dX0_wordsOf_31 (zr_iload_n O dX0_wordsOf_33 rfl (zr_iload O dX0_wordsOf_34 (zr_cI (zr_cS (n := 2) O m_X0_wordOf (bn_X0_wordOf _ ⟨rfl, rfl⟩) tw_823 tw_822 (zrm hR rfl rfl) dX0_wordsOf_36 (zr_iload O dX0_wordsOf_39 (zr_iload_n O dX0_wordsOf_41 rfl (zr_cI (zr_cS (n := 1) O m_X0_lengthOf (bn_X0_lengthOf _ ⟨rfl, rfl⟩) tw_773 tw_828 (zrm hR rfl rfl) dX0_wordsOf_42 (zr_imul O dX0_wordsOf_45 (zr_ishl O dX0_wordsOf_46 (zr_ior O dX0_wordsOf_47 (zr_istore O dX0_wordsOf_48 (zr_iinc (c := 1) O dX0_wordsOf_50 rfl (zr_goto (tgt := 11) O dX0_wordsOf_53 rfl ih)))))))))))))))))))))))))))))
    refine zSd_weak B_11 (fun ls st h1 t => ?_)
    obtain ⟨i, y, z, w, rfl, hi, rfl, rfl, rfl, rfl, rfl⟩ := t
    refine ⟨fun cq => ⟨zri ?_, rfl⟩, fun cq => ?_⟩
    · have := (nI_leI (by omega) (by omega)).mp cq
      rw [show i = n by omega]
      rfl
    · have hi2 : i < n := Nat.not_le.mp (fun z => cq ((nI_leI (by omega) (by omega)).mpr z))
      have hib : i * btR r + btR r ≤ n * btR r := by rw [← Nat.succ_mul]; exact Nat.mul_le_mul_right _ hi2
      have hil : i * lnR r + lnR r ≤ n * lnR r := by rw [← Nat.succ_mul]; exact Nat.mul_le_mul_right _ hi2
      have e1 : (nI s >>> ((nI i * nI (btR r)) &&& 31)) &&& ((1 : Int32) <<< (nI (btR r) &&& 31) - 1) = nI (sbk r s i) := by
        rw [pk_mul, shrI (by omega) (by omega), mskI (by omega)]
        rfl
      have hlt : sbk r s i < 2 ^ btR r := Nat.mod_lt _ (Nat.two_pow_pos _)
      refine ⟨(r, sbk r s i), congrArg (fun z => [vI (nI r), vI z]) e1, ⟨hr, hlt⟩, r, rfl, hr, n - (i + 1), by omega, i + 1, _, _, _, rfl, by omega, rfl, ?_, nI_1 i, rfl, rfl⟩
      show nI (wsN r s i) ||| (nI (wdN r (sbk r s i)) <<< ((nI i * nI (lnR r)) &&& 31)) = nI (wsN r s i ||| _)
      have hw := shl_lt (x := wdN r (sbk r s i)) (n := i) (k := 28) (wdN_lt hr) (by omega)
      rw [pk_mul, shlI (by omega) (by omega), fa_or]
  have B_11 := zSd_any L_11
  have B_0 := zr_iload_n (X := X) (Y := Y) (u := 0) (v := 0) O dX0_wordsOf_0 rfl (zr_cI (zr_cS (n := 1) O m_X0_bitsOf (bn_X0_bitsOf _ ⟨rfl, rfl⟩) tw_779 tw_821 (zrm hR rfl rfl) dX0_wordsOf_1 (zr_istore_n O dX0_wordsOf_4 rfl (zr_iconst (x := 0) O dX0_wordsOf_5 rfl (zr_istore O dX0_wordsOf_6 (zr_iconst (x := 0) O dX0_wordsOf_8 rfl (zr_istore O dX0_wordsOf_9 (B_11))))))))
  refine ⟨rfl, Nat.le_of_ble_eq_true rfl, _, B_0, ?_⟩
  exact ⟨r, rfl, hr, n - 0, 0, _, _, _, rfl, Nat.zero_le _, rfl, rfl, rfl, rfl, rfl⟩
def ca_X0_secretFrom : (Nat × Nat × Nat) → List zV := fun (r, n, w) => [vI (nI r), vI (nI n), vI (nI w)]
def cp_X0_secretFrom : (Nat × Nat × Nat) → zH → Prop := fun (r, n, w) _ => vRp r ∧ n * lnR r ≤ 28 ∧ n * btR r ≤ 16 ∧ w < 2 ^ 28
def cf_X0_secretFrom : (Nat × Nat × Nat) → zH → Int32 := fun (r, n, w) _ => nI (scN r w n)
set_option maxHeartbeats 4000000 in
set_option maxRecDepth 100000 in
theorem m_X0_secretFrom : zM yX0_secretFrom cX0_secretFrom 7 (some .int) ({ frames := 2, cells := 0, slots := 0, locals := 44 } : Room) (zcI ca_X0_secretFrom cp_X0_secretFrom cf_X0_secretFrom) := by
  refine zM_of (by decide) ?_
  rintro X Y ⟨r, n, w⟩ h ⟨hr, hn, hn2, hw⟩ O E hR
  obtain ⟨q1, q2, q3, q4⟩ := lnR_pos hr
  have hnb : n ≤ 28 := Nat.le_trans (Nat.le_mul_of_pos_right _ (by omega)) hn
  have B_56 := zr_iload (X := X) (Y := Y) (u := 0) (v := 0) O dX0_secretFrom_56 (zr_ireturn O E (Nat.le_refl _) (Nat.le_refl _) dX0_secretFrom_58)
  have L_11 : ∀ nn : Nat, zSd X Y 0 0 11 ((fun k ls st h1 => ∃ (i : Nat) (y z : Int32) (w' : Option zV), k = n - i ∧ i ≤ n ∧ ls = [some (vI (nI r)), some (vI (nI n)), some (vI (nI w)), some (vI (nI (lnR r))), some (vI y), some (vI z), w'] ∧ y = nI (scN r w i) ∧ z = nI i ∧ st = [] ∧ h = h1 : Nat → zT) nn) := by
    refine zSd_loop (fun nn ih => ?_)
    have B_11 := zr_iload (X := X) (Y := Y) (u := 0) (v := 0) O dX0_secretFrom_11 (zr_iload_n O dX0_secretFrom_13 rfl (zr_icge (tgt := 56) O dX0_secretFrom_14 rfl B_56 (zr_iload_n O dX0_secretFrom_17 rfl (zr_iload O dX0_secretFrom_18 (zr_iload_n O dX0_secretFrom_20 rfl (zr_imul O dX0_secretFrom_21 (zr_ishr O dX0_secretFrom_22 (zr_iconst (x := 1) O dX0_secretFrom_23 rfl (zr_iload_n O dX0_secretFrom_24 rfl (zr_ishl O dX0_secretFrom_25 (zr_iconst (x := 1) O dX0_secretFrom_26 rfl (zr_isub O dX0_secretFrom_27 (zr_iand O dX0_secretFrom_28 (zr_istore O dX0_secretFrom_29 (zr_iload O dX0_secretFrom_31 (zr_iload_n O dX0_secretFrom_33 rfl (zr_iload O dX0_secretFrom_34 (zr_cI (zr_cS (n := 2) O m_X0_decodedFrom (bn_X0_decodedFrom _ ⟨rfl, rfl⟩) tw_1010 tw_1009 (zrm hR rfl rfl) dX0_secretFrom_36 (zr_iload O dX0_secretFrom_39 (zr_iload_n O dX0_secretFrom_41 rfl (zr_cI (zr_cS (n := 1) O m_X0_bitsOf (bn_X0_bitsOf _ ⟨rfl, rfl⟩) tw_779 tw_821 (zrm hR rfl rfl) dX0_secretFrom_42 (zr_imul O dX0_secretFrom_45 (zr_ishl O dX0_secretFrom_46 (zr_ior O dX0_secretFrom_47 (zr_istore O dX0_secretFrom_48 (zr_iinc (c := 1) O dX0_secretFrom_50 rfl (zr_goto (tgt := 11) O dX0_secretFrom_53 rfl ih)))))))))))))))))))))))))))))
    refine zSd_weak B_11 (fun ls st h1 t => ?_)
    obtain ⟨i, y, z, w', rfl, hi, rfl, rfl, rfl, rfl, rfl⟩ := t
    refine ⟨fun cq => ⟨zri ?_, rfl⟩, fun cq => ?_⟩
    · have := (nI_leI (by omega) (by omega)).mp cq
      rw [show i = n by omega]
      rfl
    · have hi2 : i < n := Nat.not_le.mp (fun z => cq ((nI_leI (by omega) (by omega)).mpr z))
      have hib : i * btR r + btR r ≤ n * btR r := by rw [← Nat.succ_mul]; exact Nat.mul_le_mul_right _ hi2
      have hil : i * lnR r + lnR r ≤ n * lnR r := by rw [← Nat.succ_mul]; exact Nat.mul_le_mul_right _ hi2
      have e1 : (nI w >>> ((nI i * nI (lnR r)) &&& 31)) &&& ((1 : Int32) <<< (nI (lnR r) &&& 31) - 1) = nI (wbk r w i) := by
        rw [pk_mul, shrI (by omega) (by omega), mskI (by omega)]
        rfl
      have hlt : wbk r w i < 128 := Nat.lt_of_lt_of_le (Nat.mod_lt _ (Nat.two_pow_pos _)) (Nat.pow_le_pow_right (n := 2) (by omega) (by omega : lnR r ≤ 7))
      refine ⟨(r, wbk r w i), congrArg (fun z => [vI (nI r), vI z]) e1, ⟨hr, hlt⟩, r, rfl, hr, n - (i + 1), by omega, i + 1, _, _, _, rfl, by omega, rfl, ?_, nI_1 i, rfl, rfl⟩
      show nI (scN r w i) ||| (nI (dcN r (wbk r w i)) <<< ((nI i * nI (btR r)) &&& 31)) = nI (scN r w i ||| _)
      have hw2 := shl_lt (x := dcN r (wbk r w i)) (n := i) (k := 16) dcN_lt (by omega)
      rw [pk_mul, shlI (by omega) (by omega), fa_or]
  have B_11 := zSd_any L_11
  have B_0 := zr_iload_n (X := X) (Y := Y) (u := 0) (v := 0) O dX0_secretFrom_0 rfl (zr_cI (zr_cS (n := 1) O m_X0_lengthOf (bn_X0_lengthOf _ ⟨rfl, rfl⟩) tw_773 tw_828 (zrm hR rfl rfl) dX0_secretFrom_1 (zr_istore_n O dX0_secretFrom_4 rfl (zr_iconst (x := 0) O dX0_secretFrom_5 rfl (zr_istore O dX0_secretFrom_6 (zr_iconst (x := 0) O dX0_secretFrom_8 rfl (zr_istore O dX0_secretFrom_9 (B_11))))))))
  refine ⟨rfl, Nat.le_of_ble_eq_true rfl, _, B_0, ?_⟩
  exact ⟨r, rfl, hr, n - 0, 0, _, _, _, rfl, Nat.zero_le _, rfl, rfl, rfl, rfl, rfl⟩
/-- can a check become another by so many bits -/
def cbN (c n w : Nat) : Bool := decide (4 ≤ n) || decide ((ckW c 0 n ^^^ w) / 2 ^ n = 0)
def ca_X0_canBecome : (Nat × Nat × Nat) → List zV := fun (c, n, w) => [vI (nI c), vI (nI n), vI (nI w)]
def cp_X0_canBecome : (Nat × Nat × Nat) → zH → Prop := fun (c, n, w) _ => c < 16 ∧ n ≤ 16 ∧ w < 16
def cf_X0_canBecome : (Nat × Nat × Nat) → zH → Int32 := fun (c, n, w) _ => bI (cbN c n w)
set_option maxHeartbeats 4000000 in
set_option maxRecDepth 100000 in
theorem m_X0_canBecome : zM yX0_canBecome cX0_canBecome 3 (some .boolean) ({ frames := 2, cells := 0, slots := 0, locals := 45 } : Room) (zcI ca_X0_canBecome cp_X0_canBecome cf_X0_canBecome) := by
  refine zM_of (by decide) ?_
  rintro X Y ⟨c, n, w⟩ h ⟨hc, hn, hw⟩ O E hR
  have B_23 := zr_zreturn (X := X) (Y := Y) (u := 0) (v := 0) O E (Nat.le_refl _) (Nat.le_refl _) dX0_canBecome_23
  have B_22 := zr_iconst (X := X) (Y := Y) (u := 0) (v := 0) (x := 0) O dX0_canBecome_22 rfl (B_23)
  have B_18 := zr_iconst (X := X) (Y := Y) (u := 0) (v := 0) (x := 1) O dX0_canBecome_18 rfl (zr_goto (tgt := 23) O dX0_canBecome_19 rfl B_23)
  have B_0 := zr_iload_n (X := X) (Y := Y) (u := 0) (v := 0) O dX0_canBecome_0 rfl (zr_iconst (x := 4) O dX0_canBecome_1 rfl (zr_icge (tgt := 18) O dX0_canBecome_2 rfl B_18 (zr_iload_n O dX0_canBecome_5 rfl (zr_iconst (x := 0) O dX0_canBecome_6 rfl (zr_iload_n O dX0_canBecome_7 rfl (zr_cI (zr_cS (n := 3) O m_X0_checkWith (bn_X0_checkWith _ ⟨rfl, rfl⟩) tw_812 tw_1142 (zrm hR rfl rfl) dX0_canBecome_8 (zr_iload_n O dX0_canBecome_11 rfl (zr_ixor O dX0_canBecome_12 (zr_iload_n O dX0_canBecome_13 rfl (zr_ishr O dX0_canBecome_14 (zr_ifne (tgt := 22) O dX0_canBecome_15 rfl B_22 (B_18)))))))))))))
  refine ⟨rfl, Nat.le_of_ble_eq_true rfl, _, B_0, ?_⟩
  refine ⟨fun cq => ⟨Or.inr rfl, zri ?_, rfl⟩, fun cq => ⟨(c, 0, n), rfl, ⟨hc, by decide, hn⟩, fun dq => ⟨Or.inl rfl, zri ?_, rfl⟩, fun dq => ⟨Or.inr rfl, zri ?_, rfl⟩⟩⟩
  · have := (nI_leI (a := 4) (by omega) (by omega)).mp cq
    show (1 : Int32) = bI (cbN c n w)
    simp [cbN, this, bI]
  · have hn4 : ¬ 4 ≤ n := fun z => cq ((nI_leI (a := 4) (by omega) (by omega)).mpr z)
    replace dq : ¬ (nI (ckW c 0 n) ^^^ nI w) >>> (nI n &&& 31) = 0 := dq
    have hlt := ckW_lt hc 0 n
    have hx : ckW c 0 n ^^^ w < 2 ^ 4 := Nat.xor_lt_two_pow (n := 4) hlt hw
    rw [fb_xorI, shrI (by omega) (by omega)] at dq
    have h0 : ¬ (ckW c 0 n ^^^ w) / 2 ^ n = 0 := fun z => dq (by rw [z]; rfl)
    show (0 : Int32) = bI (cbN c n w)
    simp [cbN, hn4, bI, h0]
  · have hn4 : ¬ 4 ≤ n := fun z => cq ((nI_leI (a := 4) (by omega) (by omega)).mpr z)
    replace dq : (nI (ckW c 0 n) ^^^ nI w) >>> (nI n &&& 31) = 0 := dq
    have hlt := ckW_lt hc 0 n
    have hx : ckW c 0 n ^^^ w < 2 ^ 4 := Nat.xor_lt_two_pow (n := 4) hlt hw
    rw [fb_xorI, shrI (by omega) (by omega)] at dq
    have hdl : (ckW c 0 n ^^^ w) / 2 ^ n ≤ ckW c 0 n ^^^ w := Nat.div_le_self _ _
    have h0 : (ckW c 0 n ^^^ w) / 2 ^ n = 0 := (nI_eq (b := 0) (by omega) (by omega)).mp dq
    show (1 : Int32) = bI (cbN c n w)
    simp [cbN, hn4, bI, h0]
end
section
theorem dX6_blockOf_55 : decode cX6_blockOf 55 = .ok (.ireturn, 1) := by decide +kernel
theorem dX6_blockOf_54 : decode cX6_blockOf 54 = .ok (.iconst (-1), 1) := by decide +kernel
theorem dX6_blockOf_15 : decode cX6_blockOf 15 = .ok (.iload_n 2, 1) := by decide +kernel
theorem dX6_blockOf_16 : decode cX6_blockOf 16 = .ok (.iconst 1, 1) := by decide +kernel
theorem dX6_blockOf_17 : decode cX6_blockOf 17 = .ok (.iload_n 1, 1) := by decide +kernel
theorem dX6_blockOf_18 : decode cX6_blockOf 18 = .ok (.ishl, 1) := by decide +kernel
theorem dX6_blockOf_19 : decode cX6_blockOf 19 = .ok (.iconst 1, 1) := by decide +kernel
theorem dX6_blockOf_20 : decode cX6_blockOf 20 = .ok (.isub, 1) := by decide +kernel
theorem dX6_blockOf_21 : decode cX6_blockOf 21 = .ok (.iand, 1) := by decide +kernel
theorem dX6_blockOf_22 : decode cX6_blockOf 22 = .ok (.invokestatic 70, 3) := by decide +kernel
theorem dX6_blockOf_25 : decode cX6_blockOf 25 = .ok (.istore_n 3, 1) := by decide +kernel
theorem dX6_blockOf_26 : decode cX6_blockOf 26 = .ok (.iload_n 3, 1) := by decide +kernel
theorem dX6_blockOf_27 : decode cX6_blockOf 27 = .ok (.aload_n 0, 1) := by decide +kernel
theorem dX6_blockOf_28 : decode cX6_blockOf 28 = .ok (.getfield 27, 3) := by decide +kernel
theorem dX6_blockOf_31 : decode cX6_blockOf 31 = .ok (.iconst 4, 1) := by decide +kernel
theorem dX6_blockOf_32 : decode cX6_blockOf 32 = .ok (.iaload, 1) := by decide +kernel
theorem dX6_blockOf_33 : decode cX6_blockOf 33 = .ok (.invokestatic 75, 3) := by decide +kernel
theorem dX6_blockOf_36 : decode cX6_blockOf 36 = .ok (.idiv, 1) := by decide +kernel
theorem dX6_blockOf_37 : decode cX6_blockOf 37 = .ok (.istore 4, 2) := by decide +kernel
theorem dX6_blockOf_39 : decode cX6_blockOf 39 = .ok (.iload 4, 2) := by decide +kernel
theorem dX6_blockOf_41 : decode cX6_blockOf 41 = .ok (.aload_n 0, 1) := by decide +kernel
theorem dX6_blockOf_42 : decode cX6_blockOf 42 = .ok (.iload_n 2, 1) := by decide +kernel
theorem dX6_blockOf_43 : decode cX6_blockOf 43 = .ok (.invokevirtual 89, 3) := by decide +kernel
theorem dX6_blockOf_46 : decode cX6_blockOf 46 = .ok (.if_icmp .ge 8, 3) := by decide +kernel
theorem dX6_blockOf_49 : decode cX6_blockOf 49 = .ok (.iload 4, 2) := by decide +kernel
theorem dX6_blockOf_51 : decode cX6_blockOf 51 = .ok (.goto 4, 3) := by decide +kernel
theorem dX6_blockOf_0 : decode cX6_blockOf 0 = .ok (.aload_n 0, 1) := by decide +kernel
theorem dX6_blockOf_1 : decode cX6_blockOf 1 = .ok (.invokevirtual 83, 3) := by decide +kernel
theorem dX6_blockOf_4 : decode cX6_blockOf 4 = .ok (.istore_n 2, 1) := by decide +kernel
theorem dX6_blockOf_5 : decode cX6_blockOf 5 = .ok (.iload_n 2, 1) := by decide +kernel
theorem dX6_blockOf_6 : decode cX6_blockOf 6 = .ok (.iload_n 1, 1) := by decide +kernel
theorem dX6_blockOf_7 : decode cX6_blockOf 7 = .ok (.invokestatic 86, 3) := by decide +kernel
theorem dX6_blockOf_10 : decode cX6_blockOf 10 = .ok (.ifCond .ne 5, 3) := by decide +kernel
theorem dX6_blockOf_13 : decode cX6_blockOf 13 = .ok (.iconst (-1), 1) := by decide +kernel
theorem dX6_blockOf_14 : decode cX6_blockOf 14 = .ok (.ireturn, 1) := by decide +kernel
theorem dX6_pairAt_41 : decode cX6_pairAt 41 = .ok (.iconst (-1), 1) := by decide +kernel
theorem dX6_pairAt_42 : decode cX6_pairAt 42 = .ok (.ireturn, 1) := by decide +kernel
theorem dX6_pairAt_35 : decode cX6_pairAt 35 = .ok (.iinc 4 1, 3) := by decide +kernel
theorem dX6_pairAt_38 : decode cX6_pairAt 38 = .ok (.goto (-33), 3) := by decide +kernel
theorem dX6_pairAt_32 : decode cX6_pairAt 32 = .ok (.iinc 3 1, 3) := by decide +kernel
theorem dX6_pairAt_5 : decode cX6_pairAt 5 = .ok (.iload 4, 2) := by decide +kernel
theorem dX6_pairAt_7 : decode cX6_pairAt 7 = .ok (.aload_n 0, 1) := by decide +kernel
theorem dX6_pairAt_8 : decode cX6_pairAt 8 = .ok (.getfield 34, 3) := by decide +kernel
theorem dX6_pairAt_11 : decode cX6_pairAt 11 = .ok (.if_icmp .ge 30, 3) := by decide +kernel
theorem dX6_pairAt_14 : decode cX6_pairAt 14 = .ok (.iload_n 1, 1) := by decide +kernel
theorem dX6_pairAt_15 : decode cX6_pairAt 15 = .ok (.iload 4, 2) := by decide +kernel
theorem dX6_pairAt_17 : decode cX6_pairAt 17 = .ok (.invokestatic 86, 3) := by decide +kernel
theorem dX6_pairAt_20 : decode cX6_pairAt 20 = .ok (.iconst 1, 1) := by decide +kernel
theorem dX6_pairAt_21 : decode cX6_pairAt 21 = .ok (.if_icmp .ne 14, 3) := by decide +kernel
theorem dX6_pairAt_24 : decode cX6_pairAt 24 = .ok (.iload_n 3, 1) := by decide +kernel
theorem dX6_pairAt_25 : decode cX6_pairAt 25 = .ok (.iload_n 2, 1) := by decide +kernel
theorem dX6_pairAt_26 : decode cX6_pairAt 26 = .ok (.if_icmp .ne 6, 3) := by decide +kernel
theorem dX6_pairAt_29 : decode cX6_pairAt 29 = .ok (.iload 4, 2) := by decide +kernel
theorem dX6_pairAt_31 : decode cX6_pairAt 31 = .ok (.ireturn, 1) := by decide +kernel
theorem dX6_pairAt_0 : decode cX6_pairAt 0 = .ok (.iconst 0, 1) := by decide +kernel
theorem dX6_pairAt_1 : decode cX6_pairAt 1 = .ok (.istore_n 3, 1) := by decide +kernel
theorem dX6_pairAt_2 : decode cX6_pairAt 2 = .ok (.iconst 0, 1) := by decide +kernel
theorem dX6_pairAt_3 : decode cX6_pairAt 3 = .ok (.istore 4, 2) := by decide +kernel
theorem dX6_canRead_79 : decode cX6_canRead 79 = .ok (.ireturn, 1) := by decide +kernel
theorem dX6_canRead_78 : decode cX6_canRead 78 = .ok (.iconst 0, 1) := by decide +kernel
theorem dX6_canRead_53 : decode cX6_canRead 53 = .ok (.iadd, 1) := by decide +kernel
theorem dX6_canRead_54 : decode cX6_canRead 54 = .ok (.istore 7, 2) := by decide +kernel
theorem dX6_canRead_56 : decode cX6_canRead 56 = .ok (.aload_n 0, 1) := by decide +kernel
theorem dX6_canRead_57 : decode cX6_canRead 57 = .ok (.iload_n 1, 1) := by decide +kernel
theorem dX6_canRead_58 : decode cX6_canRead 58 = .ok (.iload 7, 2) := by decide +kernel
theorem dX6_canRead_60 : decode cX6_canRead 60 = .ok (.aload_n 0, 1) := by decide +kernel
theorem dX6_canRead_61 : decode cX6_canRead 61 = .ok (.iload 5, 2) := by decide +kernel
theorem dX6_canRead_63 : decode cX6_canRead 63 = .ok (.iload_n 2, 1) := by decide +kernel
theorem dX6_canRead_64 : decode cX6_canRead 64 = .ok (.invokevirtual 43, 3) := by decide +kernel
theorem dX6_canRead_67 : decode cX6_canRead 67 = .ok (.invokevirtual 47, 3) := by decide +kernel
theorem dX6_canRead_70 : decode cX6_canRead 70 = .ok (.iload_n 3, 1) := by decide +kernel
theorem dX6_canRead_71 : decode cX6_canRead 71 = .ok (.if_icmp .ne 7, 3) := by decide +kernel
theorem dX6_canRead_74 : decode cX6_canRead 74 = .ok (.iconst 1, 1) := by decide +kernel
theorem dX6_canRead_75 : decode cX6_canRead 75 = .ok (.goto 4, 3) := by decide +kernel
theorem dX6_canRead_50 : decode cX6_canRead 50 = .ok (.iload 6, 2) := by decide +kernel
theorem dX6_canRead_52 : decode cX6_canRead 52 = .ok (.ineg, 1) := by decide +kernel
theorem dX6_canRead_0 : decode cX6_canRead 0 = .ok (.aload_n 0, 1) := by decide +kernel
theorem dX6_canRead_1 : decode cX6_canRead 1 = .ok (.getfield 21, 3) := by decide +kernel
theorem dX6_canRead_4 : decode cX6_canRead 4 = .ok (.iload_n 1, 1) := by decide +kernel
theorem dX6_canRead_5 : decode cX6_canRead 5 = .ok (.iaload, 1) := by decide +kernel
theorem dX6_canRead_6 : decode cX6_canRead 6 = .ok (.istore 4, 2) := by decide +kernel
theorem dX6_canRead_8 : decode cX6_canRead 8 = .ok (.aload_n 0, 1) := by decide +kernel
theorem dX6_canRead_9 : decode cX6_canRead 9 = .ok (.getfield 24, 3) := by decide +kernel
theorem dX6_canRead_12 : decode cX6_canRead 12 = .ok (.iload_n 1, 1) := by decide +kernel
theorem dX6_canRead_13 : decode cX6_canRead 13 = .ok (.iaload, 1) := by decide +kernel
theorem dX6_canRead_14 : decode cX6_canRead 14 = .ok (.istore 5, 2) := by decide +kernel
theorem dX6_canRead_16 : decode cX6_canRead 16 = .ok (.aload_n 0, 1) := by decide +kernel
theorem dX6_canRead_17 : decode cX6_canRead 17 = .ok (.getfield 18, 3) := by decide +kernel
theorem dX6_canRead_20 : decode cX6_canRead 20 = .ok (.iload 4, 2) := by decide +kernel
theorem dX6_canRead_22 : decode cX6_canRead 22 = .ok (.iaload, 1) := by decide +kernel
theorem dX6_canRead_23 : decode cX6_canRead 23 = .ok (.aload_n 0, 1) := by decide +kernel
theorem dX6_canRead_24 : decode cX6_canRead 24 = .ok (.getfield 18, 3) := by decide +kernel
theorem dX6_canRead_27 : decode cX6_canRead 27 = .ok (.iload 5, 2) := by decide +kernel
theorem dX6_canRead_29 : decode cX6_canRead 29 = .ok (.iaload, 1) := by decide +kernel
theorem dX6_canRead_30 : decode cX6_canRead 30 = .ok (.iadd, 1) := by decide +kernel
theorem dX6_canRead_31 : decode cX6_canRead 31 = .ok (.istore 6, 2) := by decide +kernel
theorem dX6_canRead_33 : decode cX6_canRead 33 = .ok (.aload_n 0, 1) := by decide +kernel
theorem dX6_canRead_34 : decode cX6_canRead 34 = .ok (.iload 4, 2) := by decide +kernel
theorem dX6_canRead_36 : decode cX6_canRead 36 = .ok (.iload_n 2, 1) := by decide +kernel
theorem dX6_canRead_37 : decode cX6_canRead 37 = .ok (.invokevirtual 43, 3) := by decide +kernel
theorem dX6_canRead_40 : decode cX6_canRead 40 = .ok (.iload_n 3, 1) := by decide +kernel
theorem dX6_canRead_41 : decode cX6_canRead 41 = .ok (.iconst 1, 1) := by decide +kernel
theorem dX6_canRead_42 : decode cX6_canRead 42 = .ok (.if_icmp .ne 8, 3) := by decide +kernel
theorem dX6_canRead_45 : decode cX6_canRead 45 = .ok (.iload 6, 2) := by decide +kernel
theorem dX6_canRead_47 : decode cX6_canRead 47 = .ok (.goto 6, 3) := by decide +kernel
theorem dX6_drawsOf_0 : decode cX6_drawsOf 0 = .ok (.iconst 2, 1) := by decide +kernel
theorem dX6_drawsOf_1 : decode cX6_drawsOf 1 = .ok (.aload_n 0, 1) := by decide +kernel
theorem dX6_drawsOf_2 : decode cX6_drawsOf 2 = .ok (.getfield 18, 3) := by decide +kernel
theorem dX6_drawsOf_5 : decode cX6_drawsOf 5 = .ok (.aload_n 0, 1) := by decide +kernel
theorem dX6_drawsOf_6 : decode cX6_drawsOf 6 = .ok (.getfield 21, 3) := by decide +kernel
theorem dX6_drawsOf_9 : decode cX6_drawsOf 9 = .ok (.iload_n 1, 1) := by decide +kernel
theorem dX6_drawsOf_10 : decode cX6_drawsOf 10 = .ok (.iaload, 1) := by decide +kernel
theorem dX6_drawsOf_11 : decode cX6_drawsOf 11 = .ok (.iaload, 1) := by decide +kernel
theorem dX6_drawsOf_12 : decode cX6_drawsOf 12 = .ok (.imul, 1) := by decide +kernel
theorem dX6_drawsOf_13 : decode cX6_drawsOf 13 = .ok (.iconst 1, 1) := by decide +kernel
theorem dX6_drawsOf_14 : decode cX6_drawsOf 14 = .ok (.iadd, 1) := by decide +kernel
theorem dX6_drawsOf_15 : decode cX6_drawsOf 15 = .ok (.iconst 2, 1) := by decide +kernel
theorem dX6_drawsOf_16 : decode cX6_drawsOf 16 = .ok (.aload_n 0, 1) := by decide +kernel
theorem dX6_drawsOf_17 : decode cX6_drawsOf 17 = .ok (.getfield 18, 3) := by decide +kernel
theorem dX6_drawsOf_20 : decode cX6_drawsOf 20 = .ok (.aload_n 0, 1) := by decide +kernel
theorem dX6_drawsOf_21 : decode cX6_drawsOf 21 = .ok (.getfield 24, 3) := by decide +kernel
theorem dX6_drawsOf_24 : decode cX6_drawsOf 24 = .ok (.iload_n 1, 1) := by decide +kernel
theorem dX6_drawsOf_25 : decode cX6_drawsOf 25 = .ok (.iaload, 1) := by decide +kernel
theorem dX6_drawsOf_26 : decode cX6_drawsOf 26 = .ok (.iaload, 1) := by decide +kernel
theorem dX6_drawsOf_27 : decode cX6_drawsOf 27 = .ok (.imul, 1) := by decide +kernel
theorem dX6_drawsOf_28 : decode cX6_drawsOf 28 = .ok (.iconst 1, 1) := by decide +kernel
theorem dX6_drawsOf_29 : decode cX6_drawsOf 29 = .ok (.iadd, 1) := by decide +kernel
theorem dX6_drawsOf_30 : decode cX6_drawsOf 30 = .ok (.imul, 1) := by decide +kernel
theorem dX6_drawsOf_31 : decode cX6_drawsOf 31 = .ok (.ireturn, 1) := by decide +kernel
theorem dX6_drawsWithOne_126 : decode cX6_drawsWithOne 126 = .ok (.iload 9, 2) := by decide +kernel
theorem dX6_drawsWithOne_128 : decode cX6_drawsWithOne 128 = .ok (.ireturn, 1) := by decide +kernel
theorem dX6_drawsWithOne_80 : decode cX6_drawsWithOne 80 = .ok (.iload 10, 2) := by decide +kernel
theorem dX6_drawsWithOne_82 : decode cX6_drawsWithOne 82 = .ok (.iload 5, 2) := by decide +kernel
theorem dX6_drawsWithOne_84 : decode cX6_drawsWithOne 84 = .ok (.aload_n 0, 1) := by decide +kernel
theorem dX6_drawsWithOne_85 : decode cX6_drawsWithOne 85 = .ok (.getfield 18, 3) := by decide +kernel
theorem dX6_drawsWithOne_88 : decode cX6_drawsWithOne 88 = .ok (.iload_n 3, 1) := by decide +kernel
theorem dX6_drawsWithOne_89 : decode cX6_drawsWithOne 89 = .ok (.iaload, 1) := by decide +kernel
theorem dX6_drawsWithOne_90 : decode cX6_drawsWithOne 90 = .ok (.iadd, 1) := by decide +kernel
theorem dX6_drawsWithOne_91 : decode cX6_drawsWithOne 91 = .ok (.if_icmp .gt 35, 3) := by decide +kernel
theorem dX6_drawsWithOne_94 : decode cX6_drawsWithOne 94 = .ok (.iload 10, 2) := by decide +kernel
theorem dX6_drawsWithOne_96 : decode cX6_drawsWithOne 96 = .ok (.iload 6, 2) := by decide +kernel
theorem dX6_drawsWithOne_98 : decode cX6_drawsWithOne 98 = .ok (.isub, 1) := by decide +kernel
theorem dX6_drawsWithOne_99 : decode cX6_drawsWithOne 99 = .ok (.iload 8, 2) := by decide +kernel
theorem dX6_drawsWithOne_101 : decode cX6_drawsWithOne 101 = .ok (.iadd, 1) := by decide +kernel
theorem dX6_drawsWithOne_102 : decode cX6_drawsWithOne 102 = .ok (.istore 11, 2) := by decide +kernel
theorem dX6_drawsWithOne_104 : decode cX6_drawsWithOne 104 = .ok (.iload 9, 2) := by decide +kernel
theorem dX6_drawsWithOne_106 : decode cX6_drawsWithOne 106 = .ok (.iconst 0, 1) := by decide +kernel
theorem dX6_drawsWithOne_107 : decode cX6_drawsWithOne 107 = .ok (.iload 11, 2) := by decide +kernel
theorem dX6_drawsWithOne_109 : decode cX6_drawsWithOne 109 = .ok (.iload 7, 2) := by decide +kernel
theorem dX6_drawsWithOne_111 : decode cX6_drawsWithOne 111 = .ok (.invokestatic 55, 3) := by decide +kernel
theorem dX6_drawsWithOne_114 : decode cX6_drawsWithOne 114 = .ok (.invokestatic 92, 3) := by decide +kernel
theorem dX6_drawsWithOne_117 : decode cX6_drawsWithOne 117 = .ok (.iadd, 1) := by decide +kernel
theorem dX6_drawsWithOne_118 : decode cX6_drawsWithOne 118 = .ok (.istore 9, 2) := by decide +kernel
theorem dX6_drawsWithOne_120 : decode cX6_drawsWithOne 120 = .ok (.iinc 10 1, 3) := by decide +kernel
theorem dX6_drawsWithOne_123 : decode cX6_drawsWithOne 123 = .ok (.goto (-43), 3) := by decide +kernel
theorem dX6_drawsWithOne_64 : decode cX6_drawsWithOne 64 = .ok (.istore 8, 2) := by decide +kernel
theorem dX6_drawsWithOne_66 : decode cX6_drawsWithOne 66 = .ok (.iconst 0, 1) := by decide +kernel
theorem dX6_drawsWithOne_67 : decode cX6_drawsWithOne 67 = .ok (.istore 9, 2) := by decide +kernel
theorem dX6_drawsWithOne_69 : decode cX6_drawsWithOne 69 = .ok (.iload 5, 2) := by decide +kernel
theorem dX6_drawsWithOne_71 : decode cX6_drawsWithOne 71 = .ok (.aload_n 0, 1) := by decide +kernel
theorem dX6_drawsWithOne_72 : decode cX6_drawsWithOne 72 = .ok (.getfield 18, 3) := by decide +kernel
theorem dX6_drawsWithOne_75 : decode cX6_drawsWithOne 75 = .ok (.iload_n 3, 1) := by decide +kernel
theorem dX6_drawsWithOne_76 : decode cX6_drawsWithOne 76 = .ok (.iaload, 1) := by decide +kernel
theorem dX6_drawsWithOne_77 : decode cX6_drawsWithOne 77 = .ok (.isub, 1) := by decide +kernel
theorem dX6_drawsWithOne_78 : decode cX6_drawsWithOne 78 = .ok (.istore 10, 2) := by decide +kernel
theorem dX6_drawsWithOne_63 : decode cX6_drawsWithOne 63 = .ok (.iconst 0, 1) := by decide +kernel
theorem dX6_drawsWithOne_0 : decode cX6_drawsWithOne 0 = .ok (.aload_n 0, 1) := by decide +kernel
theorem dX6_drawsWithOne_1 : decode cX6_drawsWithOne 1 = .ok (.getfield 21, 3) := by decide +kernel
theorem dX6_drawsWithOne_4 : decode cX6_drawsWithOne 4 = .ok (.iload_n 1, 1) := by decide +kernel
theorem dX6_drawsWithOne_5 : decode cX6_drawsWithOne 5 = .ok (.iaload, 1) := by decide +kernel
theorem dX6_drawsWithOne_6 : decode cX6_drawsWithOne 6 = .ok (.istore_n 3, 1) := by decide +kernel
theorem dX6_drawsWithOne_7 : decode cX6_drawsWithOne 7 = .ok (.aload_n 0, 1) := by decide +kernel
theorem dX6_drawsWithOne_8 : decode cX6_drawsWithOne 8 = .ok (.getfield 24, 3) := by decide +kernel
theorem dX6_drawsWithOne_11 : decode cX6_drawsWithOne 11 = .ok (.iload_n 1, 1) := by decide +kernel
theorem dX6_drawsWithOne_12 : decode cX6_drawsWithOne 12 = .ok (.iaload, 1) := by decide +kernel
theorem dX6_drawsWithOne_13 : decode cX6_drawsWithOne 13 = .ok (.istore 4, 2) := by decide +kernel
theorem dX6_drawsWithOne_15 : decode cX6_drawsWithOne 15 = .ok (.aload_n 0, 1) := by decide +kernel
theorem dX6_drawsWithOne_16 : decode cX6_drawsWithOne 16 = .ok (.iload_n 3, 1) := by decide +kernel
theorem dX6_drawsWithOne_17 : decode cX6_drawsWithOne 17 = .ok (.iload_n 2, 1) := by decide +kernel
theorem dX6_drawsWithOne_18 : decode cX6_drawsWithOne 18 = .ok (.invokevirtual 43, 3) := by decide +kernel
theorem dX6_drawsWithOne_21 : decode cX6_drawsWithOne 21 = .ok (.istore 5, 2) := by decide +kernel
theorem dX6_drawsWithOne_23 : decode cX6_drawsWithOne 23 = .ok (.aload_n 0, 1) := by decide +kernel
theorem dX6_drawsWithOne_24 : decode cX6_drawsWithOne 24 = .ok (.iload 4, 2) := by decide +kernel
theorem dX6_drawsWithOne_26 : decode cX6_drawsWithOne 26 = .ok (.iload_n 2, 1) := by decide +kernel
theorem dX6_drawsWithOne_27 : decode cX6_drawsWithOne 27 = .ok (.invokevirtual 43, 3) := by decide +kernel
theorem dX6_drawsWithOne_30 : decode cX6_drawsWithOne 30 = .ok (.aload_n 0, 1) := by decide +kernel
theorem dX6_drawsWithOne_31 : decode cX6_drawsWithOne 31 = .ok (.getfield 18, 3) := by decide +kernel
theorem dX6_drawsWithOne_34 : decode cX6_drawsWithOne 34 = .ok (.iload 4, 2) := by decide +kernel
theorem dX6_drawsWithOne_36 : decode cX6_drawsWithOne 36 = .ok (.iaload, 1) := by decide +kernel
theorem dX6_drawsWithOne_37 : decode cX6_drawsWithOne 37 = .ok (.isub, 1) := by decide +kernel
theorem dX6_drawsWithOne_38 : decode cX6_drawsWithOne 38 = .ok (.istore 6, 2) := by decide +kernel
theorem dX6_drawsWithOne_40 : decode cX6_drawsWithOne 40 = .ok (.iconst 2, 1) := by decide +kernel
theorem dX6_drawsWithOne_41 : decode cX6_drawsWithOne 41 = .ok (.aload_n 0, 1) := by decide +kernel
theorem dX6_drawsWithOne_42 : decode cX6_drawsWithOne 42 = .ok (.getfield 18, 3) := by decide +kernel
theorem dX6_drawsWithOne_45 : decode cX6_drawsWithOne 45 = .ok (.iload 4, 2) := by decide +kernel
theorem dX6_drawsWithOne_47 : decode cX6_drawsWithOne 47 = .ok (.iaload, 1) := by decide +kernel
theorem dX6_drawsWithOne_48 : decode cX6_drawsWithOne 48 = .ok (.imul, 1) := by decide +kernel
theorem dX6_drawsWithOne_49 : decode cX6_drawsWithOne 49 = .ok (.iconst 1, 1) := by decide +kernel
theorem dX6_drawsWithOne_50 : decode cX6_drawsWithOne 50 = .ok (.iadd, 1) := by decide +kernel
theorem dX6_drawsWithOne_51 : decode cX6_drawsWithOne 51 = .ok (.istore 7, 2) := by decide +kernel
theorem dX6_drawsWithOne_53 : decode cX6_drawsWithOne 53 = .ok (.iload_n 3, 1) := by decide +kernel
theorem dX6_drawsWithOne_54 : decode cX6_drawsWithOne 54 = .ok (.iload 4, 2) := by decide +kernel
theorem dX6_drawsWithOne_56 : decode cX6_drawsWithOne 56 = .ok (.if_icmp .ge 7, 3) := by decide +kernel
theorem dX6_drawsWithOne_59 : decode cX6_drawsWithOne 59 = .ok (.iconst 1, 1) := by decide +kernel
theorem dX6_drawsWithOne_60 : decode cX6_drawsWithOne 60 = .ok (.goto 4, 3) := by decide +kernel
theorem pop_mk (f : Nat → Bool) {n : Nat} (hn : n ≤ 32) : pop (mk f n) = fb_ct f n := by
  rw [pop, show (32 : Nat) = n + (32 - n) by omega, fb_ct_split]
  rw [fb_ct_cong (q := f) (fun i hi => by rw [mk_bit]; simp [hi]), fb_ct_cong (n := 32 - n) (q := fun _ => false) (fun i _ => by rw [mk_bit]; simp; omega), fb_ct_z]
  rfl
theorem mk_land (f : Nat → Bool) {n p : Nat} (h : p ≤ n) : mk f n &&& (2 ^ p - 1) = mk f p := by
  apply Nat.eq_of_testBit_eq
  intro i
  rw [Nat.testBit_and, mk_bit, mk_bit, Nat.testBit_two_pow_sub_one]
  by_cases hi : i < p
  · have : i < n := by omega
    simp [hi, this]
  · simp [hi]
theorem usd_lt {S : zD} (h : dP S ≤ 28) : usd S < 2 ^ 28 := Nat.lt_of_lt_of_le (mk_lt _ _) (Nat.pow_le_pow_right (by omega) h)
/-- how many blocks; a pair's block -/
def nbk (S : zD) : Nat := bkc (dR S) (fb_ct (us S) (dP S))
def blk (S : zD) (p : Nat) : Int32 := if us S p = true ∧ fb_ct (us S) p / lnR (dR S) < nbk S then nI (fb_ct (us S) p / lnR (dR S)) else -1
theorem nbk_le {S : zD} (hv : vS S) : nbk S ≤ 16 ∧ nbk S * btR (dR S) ≤ 16 ∧ nbk S * lnR (dR S) ≤ fb_ct (us S) (dP S) := by
  obtain ⟨hr1, hr2⟩ := hv.2.2.2.2.2
  obtain ⟨q1, q2, q3, q4⟩ := lnR_pos hr2
  unfold nbk bkc
  refine ⟨?_, ?_, ?_⟩
  · exact Nat.le_trans (Nat.min_le_right _ _) (Nat.div_le_self _ _)
  · exact Nat.le_trans (Nat.mul_le_mul_right _ (Nat.min_le_right _ _)) (Nat.div_mul_le_self _ _)
  · exact Nat.le_trans (Nat.mul_le_mul_right _ (Nat.min_le_left _ _)) (Nat.div_mul_le_self _ _)
def ca_X6_blockOf : (zD × Nat × Nat) → List zV := fun (S, a, p) => [vR 15 0 a, vI (nI p)]
def cp_X6_blockOf : (zD × Nat × Nat) → zH → Prop := fun (S, a, p) h => rpS S h a ∧ p < dP S ∧ vS S
def cf_X6_blockOf : (zD × Nat × Nat) → zH → Int32 := fun (S, a, p) _ => blk S p
theorem rc_X6_blockOf : ∀ x : (zD × Nat × Nat), ∃ (j a : Nat) (As : List zV), ca_X6_blockOf x = vR (10 + 5) j a :: As := by
  rintro ⟨S, a, p⟩
  exact ⟨_, _, _, rfl⟩
set_option maxHeartbeats 4000000 in
set_option maxRecDepth 100000 in
theorem m_X6_blockOf : zM yX6_blockOf cX6_blockOf 5 (some .int) ({ frames := 5, cells := 0, slots := 0, locals := 112 } : Room) (zcI ca_X6_blockOf cp_X6_blockOf cf_X6_blockOf) := by
  refine zM_of (by decide) ?_
  rintro X Y ⟨S, a, p⟩ h ⟨hS, hp, hv⟩ O E hR
  have B_55 := zr_ireturn (X := X) (Y := Y) (u := 0) (v := 0) O E (Nat.le_refl _) (Nat.le_refl _) dX6_blockOf_55
  have B_54 := zr_iconst (X := X) (Y := Y) (u := 0) (v := 0) (x := (-1)) O dX6_blockOf_54 rfl (B_55)
  have B_15 := zr_iload_n (X := X) (Y := Y) (u := 0) (v := 0) O dX6_blockOf_15 rfl (zr_iconst (x := 1) O dX6_blockOf_16 rfl (zr_iload_n O dX6_blockOf_17 rfl (zr_ishl O dX6_blockOf_18 (zr_iconst (x := 1) O dX6_blockOf_19 rfl (zr_isub O dX6_blockOf_20 (zr_iand O dX6_blockOf_21 (zr_cI (zr_cS (n := 1) O m_J6_bitCount_0f7a4 (bn_J6_bitCount_0f7a4 _ ⟨rfl, rfl⟩) tw_767 tw_766 (zrm hR rfl rfl) dX6_blockOf_22 (zr_istore_n O dX6_blockOf_25 rfl (zr_iload_n O dX6_blockOf_26 rfl (zr_aload_n O dX6_blockOf_27 rfl (zr_gS (ci := 5) (j := 7) (off := 6) (t := 1) (n := 5) O zc_5 (by decide) rfl tw_73 dX6_blockOf_28 (zr_iconst (x := 4) O dX6_blockOf_31 rfl (zr_iald O dX6_blockOf_32 (zr_cI (zr_cS (n := 1) O m_X0_lengthOf (bn_X0_lengthOf _ ⟨rfl, rfl⟩) tw_773 tw_772 (zrm hR rfl rfl) dX6_blockOf_33 (zr_idiv O dX6_blockOf_36 (zr_istore O dX6_blockOf_37 (zr_iload O dX6_blockOf_39 (zr_aload_n O dX6_blockOf_41 rfl (zr_iload_n O dX6_blockOf_42 rfl (zr_cI (zr_cV (ci := 5) (n := 1) O m_X6_blockCount (bn_X6_blockCount _ ⟨rfl, rfl⟩) vw_X6_blockCount tw_933 rc_X6_blockCount (zrm hR rfl rfl) dX6_blockOf_43 (zr_icge (tgt := 54) O dX6_blockOf_46 rfl B_54 (zr_iload O dX6_blockOf_49 (zr_goto (tgt := 55) O dX6_blockOf_51 rfl B_55))))))))))))))))))))))))))
  have B_0 := zr_aload_n (X := X) (Y := Y) (u := 0) (v := 0) O dX6_blockOf_0 rfl (zr_cI (zr_cV (ci := 5) (n := 0) O m_X6_usedPairs (bn_X6_usedPairs _ ⟨rfl, rfl⟩) vw_X6_usedPairs tw_931 rc_X6_usedPairs (zrm hR rfl rfl) dX6_blockOf_1 (zr_istore_n O dX6_blockOf_4 rfl (zr_iload_n O dX6_blockOf_5 rfl (zr_iload_n O dX6_blockOf_6 rfl (zr_cI (zr_cSN (n := 2) O m_X10_bitIn (bn_X10_bitIn _ ⟨rfl, rfl⟩) tw_374 wn_RX6_86 (zrm hR rfl rfl) dX6_blockOf_7 (zr_ifne (tgt := 15) O dX6_blockOf_10 rfl B_15 (zr_iconst (x := (-1)) O dX6_blockOf_13 rfl (zr_ireturn O E (Nat.le_refl _) (Nat.le_refl _) dX6_blockOf_14))))))))))
  refine ⟨rfl, Nat.le_of_ble_eq_true rfl, _, B_0, ?_⟩
  have hP := hS.2.1.2
  obtain ⟨hr1, hr2⟩ := hv.2.2.2.2.2
  obtain ⟨q1, q2, q3, q4⟩ := lnR_pos hr2
  have e4 : h.1 (a + 6) 4 = nI (dR S) := (hS.2.2.2.2 4 (by decide)).trans hr1
  have hu := usd_lt hP
  have eb : (nI (usd S) >>> (nI p &&& 31)) &&& 1 = bI (us S p) := by
    rw [bI_in (by omega) (by omega), usd, mk_bit]
    simp [hp]
  have hcp : fb_ct (us S) p ≤ p := fb_ct_le _ _
  have e5 : pcI (nI (usd S) &&& ((1 : Int32) <<< (nI p &&& 31) - 1)) = nI (fb_ct (us S) p) := by
    rw [nI_lo (by omega), fa_and, usd, mk_land _ (by omega), pcI_pop (Nat.lt_of_lt_of_le (mk_lt _ _) (Nat.pow_le_pow_right (by omega) (by omega))), pop_mk _ (by omega)]
  have hd : fb_ct (us S) p / lnR (dR S) ≤ fb_ct (us S) p := Nat.div_le_self _ _
  have hb16 := (nbk_le hv).1
  have e6 : nI (bkc (dR S) (pop (usd S))) = nI (nbk S) := by rw [usd, pop_mk _ (by omega)]; rfl
  refine ⟨(S, a), rfl, ⟨hS, hv⟩, (nI (usd S), nI p), rfl, trivial, fun cq => ?_, fun cq => ⟨zri ?_, rfl⟩⟩
  · replace cq : ¬ (nI (usd S) >>> (nI p &&& 31)) &&& 1 = 0 := cq
    rw [eb] at cq
    have hus : us S p = true := by cases hz : us S p with
      | true => rfl
      | false => exact absurd (by rw [hz]; rfl) cq
    have e7 : pcI (nI (usd S) &&& ((1 : Int32) <<< (nI p &&& 31) - 1)) / nI (lnR (dR S)) = nI (fb_ct (us S) p / lnR (dR S)) := by
      rw [e5, pk_div (by omega) (by omega) (by omega)]
    refine ⟨_, rfl, trivial, 4, rfl, by decide, dR S, congrArg (fun z => [vI z]) e4, hr2, ?_, (S, a, usd S), rfl, ⟨hS, hv, by omega⟩, fun dq => ⟨zri ?_, rfl⟩, fun dq => ⟨zri ?_, rfl⟩⟩
    · exact fun z => by have := (nI_eq (b := 0) (by omega) (by omega)).mp z; omega
    · replace dq : nI (bkc (dR S) (pop (usd S))) ≤ pcI (nI (usd S) &&& ((1 : Int32) <<< (nI p &&& 31) - 1)) / nI (lnR (dR S)) := dq
      rw [e6, e7] at dq
      have := (nI_leI (by omega) (by omega)).mp dq
      show (-1 : Int32) = blk S p
      rw [blk, if_neg (by omega)]
    · replace dq : ¬ nI (bkc (dR S) (pop (usd S))) ≤ pcI (nI (usd S) &&& ((1 : Int32) <<< (nI p &&& 31) - 1)) / nI (lnR (dR S)) := dq
      rw [e6, e7] at dq
      have : fb_ct (us S) p / lnR (dR S) < nbk S := Nat.not_le.mp (fun z => dq ((nI_leI (by omega) (by omega)).mpr z))
      show pcI (nI (usd S) &&& ((1 : Int32) <<< (nI p &&& 31) - 1)) / nI (lnR (dR S)) = blk S p
      rw [blk, if_pos ⟨hus, this⟩, e7]
  · replace cq : (nI (usd S) >>> (nI p &&& 31)) &&& 1 = 0 := cq
    rw [eb] at cq
    have hus : us S p = false := (bI_0 _).mp cq
    show (-1 : Int32) = blk S p
    rw [blk, if_neg (by simp [hus])]
/-- the k-th of the marked ones among the first n -/
def sel (f : Nat → Bool) (k : Nat) : Nat → Nat
  | 0 => 0
  | n + 1 => if k < fb_ct f n then sel f k n else n
theorem sel_at {f : Nat → Bool} {k i : Nat} (hf : f i = true) (hk : fb_ct f i = k) : ∀ n, i < n → k < fb_ct f n ∧ sel f k n = i
  | 0, h => absurd h (by omega)
  | n + 1, h => by
    by_cases hi : i < n
    · obtain ⟨h1, h2⟩ := sel_at hf hk n hi
      have := fb_ct_mono f (m := n) (n := n + 1) (by omega)
      exact ⟨by omega, by rw [sel, if_pos h1]; exact h2⟩
    · have : i = n := by omega
      subst this
      exact ⟨by rw [fb_ct_succ, hf]; simp; omega, by rw [sel, if_neg (by omega)]⟩
theorem sel_spec {f : Nat → Bool} {k : Nat} : ∀ n, k < fb_ct f n → sel f k n < n ∧ f (sel f k n) = true ∧ fb_ct f (sel f k n) = k := by
  intro n h
  obtain ⟨i, h1, h2, h3⟩ := fb_ct_kth h
  obtain ⟨-, h4⟩ := sel_at h2 h3 n h1
  rw [h4]
  exact ⟨h1, h2, h3⟩
def kAt (f : Nat → Bool) (k n : Nat) : Int32 := if k < fb_ct f n then nI (sel f k n) else -1
def ca_X6_pairAt : (zD × Nat × Nat × Nat) → List zV := fun (S, a, m, k) => [vR 15 0 a, vI (nI m), vI (nI k)]
def cp_X6_pairAt : (zD × Nat × Nat × Nat) → zH → Prop := fun (S, a, m, k) h => rpS S h a ∧ m < 2 ^ 31 ∧ k < 2 ^ 31
def cf_X6_pairAt : (zD × Nat × Nat × Nat) → zH → Int32 := fun (S, a, m, k) _ => kAt (fun i => m.testBit i) k (dP S)
theorem rc_X6_pairAt : ∀ x : (zD × Nat × Nat × Nat), ∃ (j a : Nat) (As : List zV), ca_X6_pairAt x = vR (10 + 5) j a :: As := by
  rintro ⟨S, a, m, k⟩
  exact ⟨_, _, _, rfl⟩
set_option maxHeartbeats 4000000 in
set_option maxRecDepth 100000 in
theorem m_X6_pairAt : zM yX6_pairAt cX6_pairAt 5 (some .int) ({ frames := 1, cells := 0, slots := 0, locals := 21 } : Room) (zcI ca_X6_pairAt cp_X6_pairAt cf_X6_pairAt) := by
  refine zM_of (by decide) ?_
  rintro X Y ⟨S, a, m, k⟩ h ⟨hS, hm, hk⟩ O E hR
  have hP := hS.2.1.2
  have B_41 := zr_iconst (X := X) (Y := Y) (u := 0) (v := 0) (x := (-1)) O dX6_pairAt_41 rfl (zr_ireturn O E (Nat.le_refl _) (Nat.le_refl _) dX6_pairAt_42)
  have L_5 : ∀ nn : Nat, zSd X Y 0 0 5 ((fun c ls st h1 => ∃ (i : Nat) (y z : Int32), c = dP S - i ∧ i ≤ dP S ∧ fb_ct (fun i => m.testBit i) i ≤ k ∧ ls = [some (vR 15 0 a), some (vI (nI m)), some (vI (nI k)), some (vI y), some (vI z)] ∧ y = nI (fb_ct (fun i => m.testBit i) i) ∧ z = nI i ∧ st = [] ∧ h = h1 : Nat → zT) nn) := by
    refine zSd_loop (fun nn ih => ?_)
    have B_35 := zr_iinc (X := X) (Y := Y) (u := 0) (v := 0) (c := 1) O dX6_pairAt_35 rfl (zr_goto (tgt := 5) O dX6_pairAt_38 rfl ih)
    have B_32 := zr_iinc (X := X) (Y := Y) (u := 0) (v := 0) (c := 1) O dX6_pairAt_32 rfl (B_35)
    have B_5 := zr_iload (X := X) (Y := Y) (u := 0) (v := 0) O dX6_pairAt_5 (zr_aload_n O dX6_pairAt_7 rfl (zr_gI (ci := 5) (j := 4) O zc_5 (by decide) rfl tw_54 dX6_pairAt_8 (zr_icge (tgt := 41) O dX6_pairAt_11 rfl B_41 (zr_iload_n O dX6_pairAt_14 rfl (zr_iload O dX6_pairAt_15 (zr_cI (zr_cSN (n := 2) O m_X10_bitIn (bn_X10_bitIn _ ⟨rfl, rfl⟩) tw_374 wn_RX6_86 (zrm hR rfl rfl) dX6_pairAt_17 (zr_iconst (x := 1) O dX6_pairAt_20 rfl (zr_icne (tgt := 35) O dX6_pairAt_21 rfl B_35 (zr_iload_n O dX6_pairAt_24 rfl (zr_iload_n O dX6_pairAt_25 rfl (zr_icne (tgt := 32) O dX6_pairAt_26 rfl B_32 (zr_iload O dX6_pairAt_29 (zr_ireturn O E (Nat.le_refl _) (Nat.le_refl _) dX6_pairAt_31))))))))))))))
    refine zSd_weak B_5 (fun ls st h1 t => ?_)
    obtain ⟨i, y, z, rfl, hi, hle, rfl, rfl, rfl, rfl, rfl⟩ := t
    have hci := fb_ct_le (fun i => m.testBit i) i
    refine ⟨fun cq => ⟨zri ?_, rfl⟩, fun cq => ?_⟩
    · rw [hS.2.1.1] at cq
      have := (nI_leI (by omega) (by omega)).mp cq
      have e : i = dP S := by omega
      show (-1 : Int32) = kAt (fun i => m.testBit i) k (dP S)
      rw [kAt, if_neg (by rw [← e]; omega)]
    · rw [hS.2.1.1] at cq
      have hi2 : i < dP S := Nat.not_le.mp (fun z => cq ((nI_leI (by omega) (by omega)).mpr z))
      have eb : (nI m >>> (nI i &&& 31)) &&& 1 = bI (m.testBit i) := bI_in hm (by omega)
      refine ⟨(nI m, nI i), rfl, trivial, fun dq => ?_, fun dq => ⟨fun eq => ?_, fun eq => ⟨zri ?_, rfl⟩⟩⟩
      · replace dq : ¬ (nI m >>> (nI i &&& 31)) &&& 1 = 1 := dq
        rw [eb, bI_1] at dq
        have hb : m.testBit i = false := by simpa using dq
        have ec : fb_ct (fun i => m.testBit i) (i + 1) = fb_ct (fun i => m.testBit i) i := by rw [fb_ct_succ, hb]; rfl
        exact ⟨dP S - (i + 1), by omega, i + 1, _, _, rfl, by omega, by omega, rfl, by rw [ec], nI_1 i, rfl, rfl⟩
      · replace dq : (nI m >>> (nI i &&& 31)) &&& 1 = 1 := dq
        rw [eb, bI_1] at dq
        have hne : fb_ct (fun i => m.testBit i) i ≠ k := fun z => eq (by rw [z])
        have ec : fb_ct (fun i => m.testBit i) (i + 1) = fb_ct (fun i => m.testBit i) i + 1 := by rw [fb_ct_succ, dq]; rfl
        exact ⟨dP S - (i + 1), by omega, i + 1, _, _, rfl, by omega, by omega, rfl, by rw [ec, nI_1], nI_1 i, rfl, rfl⟩
      · replace dq : (nI m >>> (nI i &&& 31)) &&& 1 = 1 := dq
        rw [eb, bI_1] at dq
        have he : fb_ct (fun i => m.testBit i) i = k := (nI_eq (by omega) (by omega)).mp eq
        obtain ⟨s1, s2⟩ := sel_at (f := fun i => m.testBit i) dq he (dP S) hi2
        show nI i = kAt (fun i => m.testBit i) k (dP S)
        rw [kAt, if_pos s1, s2]
  have B_5 := zSd_any L_5
  have B_0 := zr_iconst (X := X) (Y := Y) (u := 0) (v := 0) (x := 0) O dX6_pairAt_0 rfl (zr_istore_n O dX6_pairAt_1 rfl (zr_iconst (x := 0) O dX6_pairAt_2 rfl (zr_istore O dX6_pairAt_3 (B_5))))
  refine ⟨rfl, Nat.le_of_ble_eq_true rfl, _, B_0, ?_⟩
  exact ⟨dP S - 0, 0, _, _, rfl, Nat.zero_le _, Nat.zero_le _, rfl, rfl, rfl, rfl, rfl⟩
/-- whether some draws give a bit -/
def crd (S : zD) (p : Nat) (te w : Int32) : Bool := decide (bby (spd S (dF S p) te + (if w = 1 then dZ S (dF S p) + dZ S (dS S p) else -(dZ S (dF S p) + dZ S (dS S p)))) (spd S (dS S p) te) (dF S p) (dS S p) = w)
def ca_X6_canRead : (zD × Nat × Nat × Int32 × Int32) → List zV := fun (S, a, p, te, w) => [vR 15 0 a, vI (nI p), vI te, vI w]
def cp_X6_canRead : (zD × Nat × Nat × Int32 × Int32) → zH → Prop := fun (S, a, p, te, w) h => rpS S h a ∧ p < dP S
def cf_X6_canRead : (zD × Nat × Nat × Int32 × Int32) → zH → Int32 := fun (S, a, p, te, w) _ => bI (crd S p te w)
theorem rc_X6_canRead : ∀ x : (zD × Nat × Nat × Int32 × Int32), ∃ (j a : Nat) (As : List zV), ca_X6_canRead x = vR (10 + 5) j a :: As := by
  rintro ⟨S, a, p, te, w⟩
  exact ⟨_, _, _, rfl⟩
set_option maxHeartbeats 4000000 in
set_option maxRecDepth 100000 in
theorem m_X6_canRead : zM yX6_canRead cX6_canRead 8 (some .boolean) ({ frames := 1, cells := 0, slots := 0, locals := 23 } : Room) (zcI ca_X6_canRead cp_X6_canRead cf_X6_canRead) := by
  refine zM_of (by decide) ?_
  rintro X Y ⟨S, a, p, te, w⟩ h ⟨hS, hp⟩ O E hR
  have B_79 := zr_zreturn (X := X) (Y := Y) (u := 0) (v := 0) O E (Nat.le_refl _) (Nat.le_refl _) dX6_canRead_79
  have B_78 := zr_iconst (X := X) (Y := Y) (u := 0) (v := 0) (x := 0) O dX6_canRead_78 rfl (B_79)
  have B_53 := zr_iadd (X := X) (Y := Y) (u := 0) (v := 0) O dX6_canRead_53 (zr_istore O dX6_canRead_54 (zr_aload_n O dX6_canRead_56 rfl (zr_iload_n O dX6_canRead_57 rfl (zr_iload O dX6_canRead_58 (zr_aload_n O dX6_canRead_60 rfl (zr_iload O dX6_canRead_61 (zr_iload_n O dX6_canRead_63 rfl (zr_cI (zr_cV (ci := 5) (n := 2) O m_X6_speedOf (bn_X6_speedOf _ ⟨rfl, rfl⟩) vw_X6_speedOf tw_440 rc_X6_speedOf (zrm hR rfl rfl) dX6_canRead_64 (zr_cI (zr_cV (ci := 5) (n := 3) O m_X6_bitFrom (bn_X6_bitFrom _ ⟨rfl, rfl⟩) vw_X6_bitFrom tw_422 rc_X6_bitFrom (zrm hR rfl rfl) dX6_canRead_67 (zr_iload_n O dX6_canRead_70 rfl (zr_icne (tgt := 78) O dX6_canRead_71 rfl B_78 (zr_iconst (x := 1) O dX6_canRead_74 rfl (zr_goto (tgt := 79) O dX6_canRead_75 rfl B_79)))))))))))))))
  have B_50 := zr_iload (X := X) (Y := Y) (u := 0) (v := 0) O dX6_canRead_50 (zr_ineg O dX6_canRead_52 (B_53))
  have B_0 := zr_aload_n (X := X) (Y := Y) (u := 0) (v := 0) O dX6_canRead_0 rfl (zr_gS (ci := 5) (j := 5) (off := 4) (t := 1) (n := 28) O zc_5 (by decide) rfl tw_59 dX6_canRead_1 (zr_iload_n O dX6_canRead_4 rfl (zr_iald O dX6_canRead_5 (zr_istore O dX6_canRead_6 (zr_aload_n O dX6_canRead_8 rfl (zr_gS (ci := 5) (j := 6) (off := 5) (t := 1) (n := 28) O zc_5 (by decide) rfl tw_66 dX6_canRead_9 (zr_iload_n O dX6_canRead_12 rfl (zr_iald O dX6_canRead_13 (zr_istore O dX6_canRead_14 (zr_aload_n O dX6_canRead_16 rfl (zr_gS (ci := 5) (j := 3) (off := 3) (t := 1) (n := 10) O zc_5 (by decide) rfl tw_52 dX6_canRead_17 (zr_iload O dX6_canRead_20 (zr_iald O dX6_canRead_22 (zr_aload_n O dX6_canRead_23 rfl (zr_gS (ci := 5) (j := 3) (off := 3) (t := 1) (n := 10) O zc_5 (by decide) rfl tw_52 dX6_canRead_24 (zr_iload O dX6_canRead_27 (zr_iald O dX6_canRead_29 (zr_iadd O dX6_canRead_30 (zr_istore O dX6_canRead_31 (zr_aload_n O dX6_canRead_33 rfl (zr_iload O dX6_canRead_34 (zr_iload_n O dX6_canRead_36 rfl (zr_cI (zr_cV (ci := 5) (n := 2) O m_X6_speedOf (bn_X6_speedOf _ ⟨rfl, rfl⟩) vw_X6_speedOf tw_440 rc_X6_speedOf (zrm hR rfl rfl) dX6_canRead_37 (zr_iload_n O dX6_canRead_40 rfl (zr_iconst (x := 1) O dX6_canRead_41 rfl (zr_icne (tgt := 50) O dX6_canRead_42 rfl B_50 (zr_iload O dX6_canRead_45 (zr_goto (tgt := 53) O dX6_canRead_47 rfl B_53)))))))))))))))))))))))))))))
  refine ⟨rfl, Nat.le_of_ble_eq_true rfl, _, B_0, ?_⟩
  obtain ⟨⟨f1, f2⟩, s1, s2⟩ := hS.2.2.2.1 p hp
  have hN := hS.1.2
  have hp28 : p < 28 := Nat.lt_of_lt_of_le hp hS.2.1.2
  have n1 := (hS.2.2.1 _ f2).2.2
  have n2 := (hS.2.2.1 _ s2).2.2
  have key : ∀ x : Int32, x = (if w = 1 then dZ S (dF S p) + dZ S (dS S p) else -(dZ S (dF S p) + dZ S (dS S p))) → (bby (spd S (dF S p) te + x) (spd S (dS S p) te) (dF S p) (dS S p) = w ↔ crd S p te w = true) := by
    intro x hx
    rw [hx, crd, decide_eq_true_iff]
  refine ⟨p, rfl, hp28, p, rfl, hp28, dF S p, f1, by omega, dS S p, s1, by omega, (S, a, dF S p, te), congrArg (fun z => [vR 15 0 a, vI z, vI te]) f1, ⟨hS, f2⟩, fun cq => ?_, fun cq => ?_⟩
  · have k2 := key (-(h.1 (a + 3) (dF S p) + h.1 (a + 3) (dS S p))) (by rw [if_neg cq, n1, n2])
    refine ⟨(S, a, dS S p, te), congrArg (fun z => [vR 15 0 a, vI z, vI te]) s1, ⟨hS, s2⟩, (S, a, p, _, _), rfl, ⟨hS, hp⟩, fun dq => ⟨Or.inl rfl, zri ?_, rfl⟩, fun dq => ⟨Or.inr rfl, zri ?_, rfl⟩⟩
    · exact ((bI_0 _).mpr (by cases hz : crd S p te w with
        | false => rfl
        | true => exact absurd (k2.mpr hz) dq)).symm
    · exact ((bI_1 _).mpr (k2.mp dq)).symm
  · have k2 := key (h.1 (a + 3) (dF S p) + h.1 (a + 3) (dS S p)) (by rw [if_pos cq, n1, n2])
    refine ⟨(S, a, dS S p, te), congrArg (fun z => [vR 15 0 a, vI z, vI te]) s1, ⟨hS, s2⟩, (S, a, p, _, _), rfl, ⟨hS, hp⟩, fun dq => ⟨Or.inl rfl, zri ?_, rfl⟩, fun dq => ⟨Or.inr rfl, zri ?_, rfl⟩⟩
    · exact ((bI_0 _).mpr (by cases hz : crd S p te w with
        | false => rfl
        | true => exact absurd (k2.mpr hz) dq)).symm
    · exact ((bI_1 _).mpr (k2.mp dq)).symm
def ca_X6_drawsOf : (zD × Nat × Nat) → List zV := fun (S, a, p) => [vR 15 0 a, vI (nI p)]
def cp_X6_drawsOf : (zD × Nat × Nat) → zH → Prop := fun (S, a, p) h => rpS S h a ∧ p < dP S
def cf_X6_drawsOf : (zD × Nat × Nat) → zH → Int32 := fun (S, a, p) _ => (2 * dZ S (dF S p) + 1) * (2 * dZ S (dS S p) + 1)
theorem rc_X6_drawsOf : ∀ x : (zD × Nat × Nat), ∃ (j a : Nat) (As : List zV), ca_X6_drawsOf x = vR (10 + 5) j a :: As := by
  rintro ⟨S, a, p⟩
  exact ⟨_, _, _, rfl⟩
set_option maxHeartbeats 4000000 in
set_option maxRecDepth 100000 in
theorem m_X6_drawsOf : zM yX6_drawsOf cX6_drawsOf 2 (some .int) ({ frames := 0, cells := 0, slots := 0, locals := 0 } : Room) (zcI ca_X6_drawsOf cp_X6_drawsOf cf_X6_drawsOf) := by
  refine zM_of (by decide) ?_
  rintro X Y ⟨S, a, p⟩ h ⟨hS, hp⟩ O E hR
  have B_0 := zr_iconst (X := X) (Y := Y) (u := 0) (v := 0) (x := 2) O dX6_drawsOf_0 rfl (zr_aload_n O dX6_drawsOf_1 rfl (zr_gS (ci := 5) (j := 3) (off := 3) (t := 1) (n := 10) O zc_5 (by decide) rfl tw_52 dX6_drawsOf_2 (zr_aload_n O dX6_drawsOf_5 rfl (zr_gS (ci := 5) (j := 5) (off := 4) (t := 1) (n := 28) O zc_5 (by decide) rfl tw_59 dX6_drawsOf_6 (zr_iload_n O dX6_drawsOf_9 rfl (zr_iald O dX6_drawsOf_10 (zr_iald O dX6_drawsOf_11 (zr_imul O dX6_drawsOf_12 (zr_iconst (x := 1) O dX6_drawsOf_13 rfl (zr_iadd O dX6_drawsOf_14 (zr_iconst (x := 2) O dX6_drawsOf_15 rfl (zr_aload_n O dX6_drawsOf_16 rfl (zr_gS (ci := 5) (j := 3) (off := 3) (t := 1) (n := 10) O zc_5 (by decide) rfl tw_52 dX6_drawsOf_17 (zr_aload_n O dX6_drawsOf_20 rfl (zr_gS (ci := 5) (j := 6) (off := 5) (t := 1) (n := 28) O zc_5 (by decide) rfl tw_66 dX6_drawsOf_21 (zr_iload_n O dX6_drawsOf_24 rfl (zr_iald O dX6_drawsOf_25 (zr_iald O dX6_drawsOf_26 (zr_imul O dX6_drawsOf_27 (zr_iconst (x := 1) O dX6_drawsOf_28 rfl (zr_iadd O dX6_drawsOf_29 (zr_imul O dX6_drawsOf_30 (zr_ireturn O E (Nat.le_refl _) (Nat.le_refl _) dX6_drawsOf_31)))))))))))))))))))))))
  refine ⟨rfl, Nat.le_of_ble_eq_true rfl, _, B_0, ?_⟩
  obtain ⟨⟨f1, f2⟩, s1, s2⟩ := hS.2.2.2.1 p hp
  have hN := hS.1.2
  have hp28 : p < 28 := Nat.lt_of_lt_of_le hp hS.2.1.2
  refine ⟨p, rfl, hp28, dF S p, f1, by omega, p, rfl, hp28, dS S p, s1, by omega, zri ?_, rfl⟩
  rw [(hS.2.2.1 _ f2).2.2, (hS.2.2.1 _ s2).2.2]
  rfl
/-! bounds of speeds -/
theorem tdiv_b {a d : Int} {n : Nat} (hd : 0 < d) (h1 : -(n * d) ≤ a) (h2 : a ≤ n * d) : -(n : Int) ≤ a.tdiv d ∧ a.tdiv d ≤ n := by
  rcases Int.le_total 0 a with h | h
  · rw [Int.tdiv_eq_ediv_of_nonneg h]
    have h3 := Int.ediv_nonneg h (Int.le_of_lt hd)
    have h4 : a / d ≤ n := Int.ediv_le_of_le_mul hd h2
    omega
  · have e : a.tdiv d = -((-a).tdiv d) := by rw [Int.neg_tdiv, Int.neg_neg]
    rw [e, Int.tdiv_eq_ediv_of_nonneg (by omega)]
    have h3 := Int.ediv_nonneg (show 0 ≤ -a by omega) (Int.le_of_lt hd)
    have h4 : -a / d ≤ n := Int.ediv_le_of_le_mul hd (by omega)
    omega
def okH (te : Int32) : Prop := -40 ≤ te.toInt ∧ te.toInt ≤ 125
theorem mul_b {a b : Int} {m n : Nat} (h1 : -(m : Int) ≤ a) (h2 : a ≤ m) (h3 : -(n : Int) ≤ b) (h4 : b ≤ n) : -((m * n : Nat) : Int) ≤ a * b ∧ a * b ≤ ((m * n : Nat) : Int) := by
  have h : (a * b).natAbs ≤ m * n := by
    rw [Int.natAbs_mul]
    exact Nat.mul_le_mul (by omega) (by omega)
  omega
theorem spd_i {S : zD} (hv : vS S) {r : Nat} (hr : r < dN S) {te : Int32} (ht : okH te) : (spd S r te).toInt = (dB S r).toInt + ((dD S r).toInt * (te.toInt - 20)).tdiv 10 ∧ -1040 ≤ (spd S r te).toInt ∧ (spd S r te).toInt ≤ 11039 := by
  obtain ⟨⟨b1, b2⟩, ⟨d1, d2⟩, -⟩ := hv.1 r hr
  obtain ⟨t1, t2⟩ := ht
  have e1 : (te - 20).toInt = te.toInt - 20 := fb_subI (by show _ ≤ te.toInt - 20; omega) (by show te.toInt - 20 < _; omega)
  have m1 := mul_b (a := (dD S r).toInt) (b := te.toInt - 20) (m := 99) (n := 105) (by omega) (by omega) (by omega) (by omega)
  have e2 : (dD S r * (te - 20)).toInt = (dD S r).toInt * (te.toInt - 20) := by
    have := fb_mulI (x := dD S r) (y := te - 20) (by rw [e1]; omega) (by rw [e1]; omega)
    rw [this, e1]
  have e3 : (dD S r * (te - 20) / 10).toInt = ((dD S r).toInt * (te.toInt - 20)).tdiv 10 := by
    rw [Int32.toInt_div_of_ne_right _ _ (by decide), e2]
    rfl
  have q := tdiv_b (a := (dD S r).toInt * (te.toInt - 20)) (d := 10) (n := 1040) (by omega) (by omega) (by omega)
  have e4 : (spd S r te).toInt = (dB S r).toInt + ((dD S r).toInt * (te.toInt - 20)).tdiv 10 := by
    rw [spd, fb_addI (by rw [e3]; omega) (by rw [e3]; omega), e3]
  refine ⟨e4, by omega, by omega⟩
theorem spd_20 (S : zD) (r : Nat) : spd S r 20 = dB S r := by
  rw [spd, Int32.sub_self, Int32.mul_zero]
  show dB S r + 0 = _
  exact Int32.add_zero _
/-- how many draws of both give the bit 1: by the draws of the first -/
def zN (S : zD) (r : Nat) : Nat := (dZ S r).toInt.toNat
def dw1 (S : zD) (p : Nat) (te : Int32) : Nat → Int32
  | 0 => 0
  | n + 1 => dw1 S p te n + mx2 0 (mn2 ((spd S (dF S p) te - dZ S (dF S p) + nI n) - (spd S (dS S p) te - dZ S (dS S p)) + (if dF S p < dS S p then 1 else 0)) (2 * dZ S (dS S p) + 1))
def ca_X6_drawsWithOne : (zD × Nat × Nat × Int32) → List zV := fun (S, a, p, te) => [vR 15 0 a, vI (nI p), vI te]
def cp_X6_drawsWithOne : (zD × Nat × Nat × Int32) → zH → Prop := fun (S, a, p, te) h => rpS S h a ∧ p < dP S ∧ vS S ∧ okH te
def cf_X6_drawsWithOne : (zD × Nat × Nat × Int32) → zH → Int32 := fun (S, a, p, te) _ => dw1 S p te (2 * zN S (dF S p) + 1)
theorem rc_X6_drawsWithOne : ∀ x : (zD × Nat × Nat × Int32), ∃ (j a : Nat) (As : List zV), ca_X6_drawsWithOne x = vR (10 + 5) j a :: As := by
  rintro ⟨S, a, p, te⟩
  exact ⟨_, _, _, rfl⟩
set_option maxHeartbeats 4000000 in
set_option maxRecDepth 100000 in
theorem m_X6_drawsWithOne : zM yX6_drawsWithOne cX6_drawsWithOne 12 (some .int) ({ frames := 1, cells := 0, slots := 0, locals := 22 } : Room) (zcI ca_X6_drawsWithOne cp_X6_drawsWithOne cf_X6_drawsWithOne) := by
  refine zM_of (by decide) ?_
  rintro X Y ⟨S, a, p, te⟩ h ⟨hS, hp, hv, hte⟩ O E hR
  obtain ⟨⟨f1, f2⟩, s1, s2⟩ := hS.2.2.2.1 p hp
  have hN := hS.1.2
  have hp28 : p < 28 := Nat.lt_of_lt_of_le hp hS.2.1.2
  have n1 := (hS.2.2.1 _ f2).2.2
  have n2 := (hS.2.2.1 _ s2).2.2
  obtain ⟨-, c1, c2⟩ := spd_i hv f2 hte
  obtain ⟨-, -, z1, z2⟩ := hv.1 _ f2
  have hz : ((zN S (dF S p) : Nat) : Int) = (dZ S (dF S p)).toInt := by unfold zN; omega
  have ei : ∀ i : Nat, i ≤ 2 * zN S (dF S p) + 1 → (spd S (dF S p) te - dZ S (dF S p) + nI i).toInt = (spd S (dF S p) te).toInt - (dZ S (dF S p)).toInt + i := by
    intro i hi
    have q1 : (spd S (dF S p) te - dZ S (dF S p)).toInt = (spd S (dF S p) te).toInt - (dZ S (dF S p)).toInt := fb_subI (by omega) (by omega)
    rw [fb_addI (by rw [q1, nI_toInt (by omega)]; omega) (by rw [q1, nI_toInt (by omega)]; omega), q1, nI_toInt (by omega)]
  have ee : (spd S (dF S p) te + dZ S (dF S p)).toInt = (spd S (dF S p) te).toInt + (dZ S (dF S p)).toInt := fb_addI (by omega) (by omega)
  have B_126 := zr_iload (X := X) (Y := Y) (u := 0) (v := 0) O dX6_drawsWithOne_126 (zr_ireturn O E (Nat.le_refl _) (Nat.le_refl _) dX6_drawsWithOne_128)
  have L_80 : ∀ nn : Nat, zSd X Y 0 0 80 ((fun c ls st h1 => ∃ (i : Nat) (y z : Int32) (w : Option zV), c = (2 * zN S (dF S p) + 1) - i ∧ i ≤ 2 * zN S (dF S p) + 1 ∧ ls = [some (vR 15 0 a), some (vI (nI p)), some (vI te), some (vI (h.1 (a + 4) p)), some (vI (h.1 (a + 5) p)), some (vI (spd S (dF S p) te)), some (vI (spd S (dS S p) te - h.1 (a + 3) (dS S p))), some (vI (2 * h.1 (a + 3) (dS S p) + 1)), some (vI (if dF S p < dS S p then 1 else 0)), some (vI y), some (vI z), w] ∧ y = dw1 S p te i ∧ z = spd S (dF S p) te - dZ S (dF S p) + nI i ∧ st = [] ∧ h = h1 : Nat → zT) nn) := by
    refine zSd_loop (fun nn ih => ?_)
    have B_80 := zr_iload (X := X) (Y := Y) (u := 0) (v := 0) O dX6_drawsWithOne_80 (zr_iload O dX6_drawsWithOne_82 (zr_aload_n O dX6_drawsWithOne_84 rfl (zr_gS (ci := 5) (j := 3) (off := 3) (t := 1) (n := 10) O zc_5 (by decide) rfl tw_52 dX6_drawsWithOne_85 (zr_iload_n O dX6_drawsWithOne_88 rfl (zr_iald O dX6_drawsWithOne_89 (zr_iadd O dX6_drawsWithOne_90 (zr_icgt (tgt := 126) O dX6_drawsWithOne_91 rfl B_126 (zr_iload O dX6_drawsWithOne_94 (zr_iload O dX6_drawsWithOne_96 (zr_isub O dX6_drawsWithOne_98 (zr_iload O dX6_drawsWithOne_99 (zr_iadd O dX6_drawsWithOne_101 (zr_istore O dX6_drawsWithOne_102 (zr_iload O dX6_drawsWithOne_104 (zr_iconst (x := 0) O dX6_drawsWithOne_106 rfl (zr_iload O dX6_drawsWithOne_107 (zr_iload O dX6_drawsWithOne_109 (zr_min O zwm tw_444 (zrm hR rfl rfl) dX6_drawsWithOne_111 (zr_max O zwm tw_969 (zrm hR rfl rfl) dX6_drawsWithOne_114 (zr_iadd O dX6_drawsWithOne_117 (zr_istore O dX6_drawsWithOne_118 (zr_iinc (c := 1) O dX6_drawsWithOne_120 rfl (zr_goto (tgt := 80) O dX6_drawsWithOne_123 rfl ih)))))))))))))))))))))))
    refine zSd_weak B_80 (fun ls st h1 t => ?_)
    obtain ⟨i, y, z, w, rfl, hi, rfl, rfl, rfl, rfl, rfl⟩ := t
    refine ⟨dF S p, f1, by omega, fun cq => ⟨zri ?_, rfl⟩, fun cq => ?_⟩
    · rw [n1, fa_lt, ei i hi, ee] at cq
      rw [show i = 2 * zN S (dF S p) + 1 by omega]
      rfl
    · rw [n1, fa_lt, ei i hi, ee] at cq
      refine ⟨2 * zN S (dF S p) + 1 - (i + 1), by omega, i + 1, _, _, _, rfl, by omega, rfl, ?_, by rw [Int32.add_assoc, nI_1], rfl, rfl⟩
      rw [n2]
      rfl
  have B_80 := zSd_any L_80
  have B_64 := zr_istore (X := X) (Y := Y) (u := 0) (v := 0) O dX6_drawsWithOne_64 (zr_iconst (x := 0) O dX6_drawsWithOne_66 rfl (zr_istore O dX6_drawsWithOne_67 (zr_iload O dX6_drawsWithOne_69 (zr_aload_n O dX6_drawsWithOne_71 rfl (zr_gS (ci := 5) (j := 3) (off := 3) (t := 1) (n := 10) O zc_5 (by decide) rfl tw_52 dX6_drawsWithOne_72 (zr_iload_n O dX6_drawsWithOne_75 rfl (zr_iald O dX6_drawsWithOne_76 (zr_isub O dX6_drawsWithOne_77 (zr_istore O dX6_drawsWithOne_78 (B_80))))))))))
  have B_63 := zr_iconst (X := X) (Y := Y) (u := 0) (v := 0) (x := 0) O dX6_drawsWithOne_63 rfl (B_64)
  have B_0 := zr_aload_n (X := X) (Y := Y) (u := 0) (v := 0) O dX6_drawsWithOne_0 rfl (zr_gS (ci := 5) (j := 5) (off := 4) (t := 1) (n := 28) O zc_5 (by decide) rfl tw_59 dX6_drawsWithOne_1 (zr_iload_n O dX6_drawsWithOne_4 rfl (zr_iald O dX6_drawsWithOne_5 (zr_istore_n O dX6_drawsWithOne_6 rfl (zr_aload_n O dX6_drawsWithOne_7 rfl (zr_gS (ci := 5) (j := 6) (off := 5) (t := 1) (n := 28) O zc_5 (by decide) rfl tw_66 dX6_drawsWithOne_8 (zr_iload_n O dX6_drawsWithOne_11 rfl (zr_iald O dX6_drawsWithOne_12 (zr_istore O dX6_drawsWithOne_13 (zr_aload_n O dX6_drawsWithOne_15 rfl (zr_iload_n O dX6_drawsWithOne_16 rfl (zr_iload_n O dX6_drawsWithOne_17 rfl (zr_cI (zr_cV (ci := 5) (n := 2) O m_X6_speedOf (bn_X6_speedOf _ ⟨rfl, rfl⟩) vw_X6_speedOf tw_440 rc_X6_speedOf (zrm hR rfl rfl) dX6_drawsWithOne_18 (zr_istore O dX6_drawsWithOne_21 (zr_aload_n O dX6_drawsWithOne_23 rfl (zr_iload O dX6_drawsWithOne_24 (zr_iload_n O dX6_drawsWithOne_26 rfl (zr_cI (zr_cV (ci := 5) (n := 2) O m_X6_speedOf (bn_X6_speedOf _ ⟨rfl, rfl⟩) vw_X6_speedOf tw_440 rc_X6_speedOf (zrm hR rfl rfl) dX6_drawsWithOne_27 (zr_aload_n O dX6_drawsWithOne_30 rfl (zr_gS (ci := 5) (j := 3) (off := 3) (t := 1) (n := 10) O zc_5 (by decide) rfl tw_52 dX6_drawsWithOne_31 (zr_iload O dX6_drawsWithOne_34 (zr_iald O dX6_drawsWithOne_36 (zr_isub O dX6_drawsWithOne_37 (zr_istore O dX6_drawsWithOne_38 (zr_iconst (x := 2) O dX6_drawsWithOne_40 rfl (zr_aload_n O dX6_drawsWithOne_41 rfl (zr_gS (ci := 5) (j := 3) (off := 3) (t := 1) (n := 10) O zc_5 (by decide) rfl tw_52 dX6_drawsWithOne_42 (zr_iload O dX6_drawsWithOne_45 (zr_iald O dX6_drawsWithOne_47 (zr_imul O dX6_drawsWithOne_48 (zr_iconst (x := 1) O dX6_drawsWithOne_49 rfl (zr_iadd O dX6_drawsWithOne_50 (zr_istore O dX6_drawsWithOne_51 (zr_iload_n O dX6_drawsWithOne_53 rfl (zr_iload O dX6_drawsWithOne_54 (zr_icge (tgt := 63) O dX6_drawsWithOne_56 rfl B_63 (zr_iconst (x := 1) O dX6_drawsWithOne_59 rfl (zr_goto (tgt := 64) O dX6_drawsWithOne_60 rfl B_64))))))))))))))))))))))))))))))))))))))))
  refine ⟨rfl, Nat.le_of_ble_eq_true rfl, _, B_0, ?_⟩
  refine ⟨p, rfl, hp28, p, rfl, hp28, (S, a, dF S p, te), congrArg (fun z => [vR 15 0 a, vI z, vI te]) f1, ⟨hS, f2⟩, (S, a, dS S p, te), congrArg (fun z => [vR 15 0 a, vI z, vI te]) s1, ⟨hS, s2⟩, dS S p, s1, by omega, dS S p, s1, by omega, fun cq => ?_, fun cq => ?_⟩
  · rw [f1, s1] at cq
    have hlt : ¬ dF S p < dS S p := by have := (nI_leI (by omega) (by omega)).mp cq; omega
    refine ⟨dF S p, f1, by omega, 2 * zN S (dF S p) + 1 - 0, 0, _, _, _, rfl, Nat.zero_le _, by rw [if_neg hlt]; rfl, rfl, ?_, rfl, rfl⟩
    rw [n1, nI_0, Int32.add_zero]
    rfl
  · rw [f1, s1] at cq
    have hlt : dF S p < dS S p := Nat.not_le.mp (fun z => cq ((nI_leI (by omega) (by omega)).mpr z))
    refine ⟨dF S p, f1, by omega, 2 * zN S (dF S p) + 1 - 0, 0, _, _, _, rfl, Nat.zero_le _, by rw [if_pos hlt]; rfl, rfl, ?_, rfl, rfl⟩
    rw [n1, nI_0, Int32.add_zero]
    rfl
end
section
theorem dX4_clear_21 : decode cX4_clear 21 = .ok (.return_, 1) := by decide +kernel
theorem dX4_clear_2 : decode cX4_clear 2 = .ok (.iload_n 1, 1) := by decide +kernel
theorem dX4_clear_3 : decode cX4_clear 3 = .ok (.bipush 10, 2) := by decide +kernel
theorem dX4_clear_5 : decode cX4_clear 5 = .ok (.if_icmp .ge 16, 3) := by decide +kernel
theorem dX4_clear_8 : decode cX4_clear 8 = .ok (.aload_n 0, 1) := by decide +kernel
theorem dX4_clear_9 : decode cX4_clear 9 = .ok (.getfield 9, 3) := by decide +kernel
theorem dX4_clear_12 : decode cX4_clear 12 = .ok (.iload_n 1, 1) := by decide +kernel
theorem dX4_clear_13 : decode cX4_clear 13 = .ok (.iconst 0, 1) := by decide +kernel
theorem dX4_clear_14 : decode cX4_clear 14 = .ok (.iastore, 1) := by decide +kernel
theorem dX4_clear_15 : decode cX4_clear 15 = .ok (.iinc 1 1, 3) := by decide +kernel
theorem dX4_clear_18 : decode cX4_clear 18 = .ok (.goto (-16), 3) := by decide +kernel
theorem dX4_clear_0 : decode cX4_clear 0 = .ok (.iconst 0, 1) := by decide +kernel
theorem dX4_clear_1 : decode cX4_clear 1 = .ok (.istore_n 1, 1) := by decide +kernel
theorem dX4_isAhead_19 : decode cX4_isAhead 19 = .ok (.ireturn, 1) := by decide +kernel
theorem dX4_isAhead_18 : decode cX4_isAhead 18 = .ok (.iconst 0, 1) := by decide +kernel
theorem dX4_isAhead_0 : decode cX4_isAhead 0 = .ok (.aload_n 0, 1) := by decide +kernel
theorem dX4_isAhead_1 : decode cX4_isAhead 1 = .ok (.getfield 9, 3) := by decide +kernel
theorem dX4_isAhead_4 : decode cX4_isAhead 4 = .ok (.iload_n 1, 1) := by decide +kernel
theorem dX4_isAhead_5 : decode cX4_isAhead 5 = .ok (.iaload, 1) := by decide +kernel
theorem dX4_isAhead_6 : decode cX4_isAhead 6 = .ok (.iload_n 2, 1) := by decide +kernel
theorem dX4_isAhead_7 : decode cX4_isAhead 7 = .ok (.invokestatic 21, 3) := by decide +kernel
theorem dX4_isAhead_10 : decode cX4_isAhead 10 = .ok (.iconst 1, 1) := by decide +kernel
theorem dX4_isAhead_11 : decode cX4_isAhead 11 = .ok (.if_icmp .ne 7, 3) := by decide +kernel
theorem dX4_isAhead_14 : decode cX4_isAhead 14 = .ok (.iconst 1, 1) := by decide +kernel
theorem dX4_isAhead_15 : decode cX4_isAhead 15 = .ok (.goto 4, 3) := by decide +kernel
theorem dX4_isBroken_25 : decode cX4_isBroken 25 = .ok (.iconst 0, 1) := by decide +kernel
theorem dX4_isBroken_26 : decode cX4_isBroken 26 = .ok (.ireturn, 1) := by decide +kernel
theorem dX4_isBroken_19 : decode cX4_isBroken 19 = .ok (.iinc 1 1, 3) := by decide +kernel
theorem dX4_isBroken_22 : decode cX4_isBroken 22 = .ok (.goto (-20), 3) := by decide +kernel
theorem dX4_isBroken_2 : decode cX4_isBroken 2 = .ok (.iload_n 1, 1) := by decide +kernel
theorem dX4_isBroken_3 : decode cX4_isBroken 3 = .ok (.bipush 10, 2) := by decide +kernel
theorem dX4_isBroken_5 : decode cX4_isBroken 5 = .ok (.if_icmp .ge 20, 3) := by decide +kernel
theorem dX4_isBroken_8 : decode cX4_isBroken 8 = .ok (.aload_n 0, 1) := by decide +kernel
theorem dX4_isBroken_9 : decode cX4_isBroken 9 = .ok (.iload_n 1, 1) := by decide +kernel
theorem dX4_isBroken_10 : decode cX4_isBroken 10 = .ok (.iload_n 1, 1) := by decide +kernel
theorem dX4_isBroken_11 : decode cX4_isBroken 11 = .ok (.invokevirtual 37, 3) := by decide +kernel
theorem dX4_isBroken_14 : decode cX4_isBroken 14 = .ok (.ifCond .eq 5, 3) := by decide +kernel
theorem dX4_isBroken_17 : decode cX4_isBroken 17 = .ok (.iconst 1, 1) := by decide +kernel
theorem dX4_isBroken_18 : decode cX4_isBroken 18 = .ok (.ireturn, 1) := by decide +kernel
theorem dX4_isBroken_0 : decode cX4_isBroken 0 = .ok (.iconst 0, 1) := by decide +kernel
theorem dX4_isBroken_1 : decode cX4_isBroken 1 = .ok (.istore_n 1, 1) := by decide +kernel
theorem dX4_bitTold_31 : decode cX4_bitTold 31 = .ok (.ireturn, 1) := by decide +kernel
theorem dX4_bitTold_30 : decode cX4_bitTold 30 = .ok (.iconst 0, 1) := by decide +kernel
theorem dX4_bitTold_17 : decode cX4_bitTold 17 = .ok (.aload_n 0, 1) := by decide +kernel
theorem dX4_bitTold_18 : decode cX4_bitTold 18 = .ok (.iload_n 1, 1) := by decide +kernel
theorem dX4_bitTold_19 : decode cX4_bitTold 19 = .ok (.iload_n 2, 1) := by decide +kernel
theorem dX4_bitTold_20 : decode cX4_bitTold 20 = .ok (.invokevirtual 37, 3) := by decide +kernel
theorem dX4_bitTold_23 : decode cX4_bitTold 23 = .ok (.ifCond .eq 7, 3) := by decide +kernel
theorem dX4_bitTold_26 : decode cX4_bitTold 26 = .ok (.iconst 1, 1) := by decide +kernel
theorem dX4_bitTold_27 : decode cX4_bitTold 27 = .ok (.goto 4, 3) := by decide +kernel
theorem dX4_bitTold_0 : decode cX4_bitTold 0 = .ok (.aload_n 0, 1) := by decide +kernel
theorem dX4_bitTold_1 : decode cX4_bitTold 1 = .ok (.iload_n 1, 1) := by decide +kernel
theorem dX4_bitTold_2 : decode cX4_bitTold 2 = .ok (.iload_n 2, 1) := by decide +kernel
theorem dX4_bitTold_3 : decode cX4_bitTold 3 = .ok (.invokevirtual 37, 3) := by decide +kernel
theorem dX4_bitTold_6 : decode cX4_bitTold 6 = .ok (.aload_n 0, 1) := by decide +kernel
theorem dX4_bitTold_7 : decode cX4_bitTold 7 = .ok (.iload_n 2, 1) := by decide +kernel
theorem dX4_bitTold_8 : decode cX4_bitTold 8 = .ok (.iload_n 1, 1) := by decide +kernel
theorem dX4_bitTold_9 : decode cX4_bitTold 9 = .ok (.invokevirtual 37, 3) := by decide +kernel
theorem dX4_bitTold_12 : decode cX4_bitTold 12 = .ok (.if_icmp .ne 5, 3) := by decide +kernel
theorem dX4_bitTold_15 : decode cX4_bitTold 15 = .ok (.iconst (-1), 1) := by decide +kernel
theorem dX4_bitTold_16 : decode cX4_bitTold 16 = .ok (.ireturn, 1) := by decide +kernel
theorem dX4_copyFrom_0 : decode cX4_copyFrom 0 = .ok (.aload_n 1, 1) := by decide +kernel
theorem dX4_copyFrom_1 : decode cX4_copyFrom 1 = .ok (.getfield 9, 3) := by decide +kernel
theorem dX4_copyFrom_4 : decode cX4_copyFrom 4 = .ok (.iconst 0, 1) := by decide +kernel
theorem dX4_copyFrom_5 : decode cX4_copyFrom 5 = .ok (.aload_n 0, 1) := by decide +kernel
theorem dX4_copyFrom_6 : decode cX4_copyFrom 6 = .ok (.getfield 9, 3) := by decide +kernel
theorem dX4_copyFrom_9 : decode cX4_copyFrom 9 = .ok (.iconst 0, 1) := by decide +kernel
theorem dX4_copyFrom_10 : decode cX4_copyFrom 10 = .ok (.bipush 10, 2) := by decide +kernel
theorem dX4_copyFrom_12 : decode cX4_copyFrom 12 = .ok (.invokestatic 15, 3) := by decide +kernel
theorem dX4_copyFrom_15 : decode cX4_copyFrom 15 = .ok (.return_, 1) := by decide +kernel
theorem dX4_put_74 : decode cX4_put 74 = .ok (.return_, 1) := by decide +kernel
theorem dX4_put_68 : decode cX4_put 68 = .ok (.iinc 4 1, 3) := by decide +kernel
theorem dX4_put_71 : decode cX4_put 71 = .ok (.goto (-42), 3) := by decide +kernel
theorem dX4_put_57 : decode cX4_put 57 = .ok (.aload_n 0, 1) := by decide +kernel
theorem dX4_put_58 : decode cX4_put 58 = .ok (.getfield 9, 3) := by decide +kernel
theorem dX4_put_61 : decode cX4_put 61 = .ok (.iload 4, 2) := by decide +kernel
theorem dX4_put_63 : decode cX4_put 63 = .ok (.dup2, 1) := by decide +kernel
theorem dX4_put_64 : decode cX4_put 64 = .ok (.iaload, 1) := by decide +kernel
theorem dX4_put_65 : decode cX4_put 65 = .ok (.iload_n 3, 1) := by decide +kernel
theorem dX4_put_66 : decode cX4_put 66 = .ok (.ior, 1) := by decide +kernel
theorem dX4_put_67 : decode cX4_put 67 = .ok (.iastore, 1) := by decide +kernel
theorem dX4_put_29 : decode cX4_put 29 = .ok (.iload 4, 2) := by decide +kernel
theorem dX4_put_31 : decode cX4_put 31 = .ok (.bipush 10, 2) := by decide +kernel
theorem dX4_put_33 : decode cX4_put 33 = .ok (.if_icmp .ge 41, 3) := by decide +kernel
theorem dX4_put_36 : decode cX4_put 36 = .ok (.iload 4, 2) := by decide +kernel
theorem dX4_put_38 : decode cX4_put 38 = .ok (.iload_n 1, 1) := by decide +kernel
theorem dX4_put_39 : decode cX4_put 39 = .ok (.if_icmp .eq 18, 3) := by decide +kernel
theorem dX4_put_42 : decode cX4_put 42 = .ok (.aload_n 0, 1) := by decide +kernel
theorem dX4_put_43 : decode cX4_put 43 = .ok (.getfield 9, 3) := by decide +kernel
theorem dX4_put_46 : decode cX4_put 46 = .ok (.iload 4, 2) := by decide +kernel
theorem dX4_put_48 : decode cX4_put 48 = .ok (.iaload, 1) := by decide +kernel
theorem dX4_put_49 : decode cX4_put 49 = .ok (.iload_n 1, 1) := by decide +kernel
theorem dX4_put_50 : decode cX4_put 50 = .ok (.invokestatic 21, 3) := by decide +kernel
theorem dX4_put_53 : decode cX4_put 53 = .ok (.iconst 1, 1) := by decide +kernel
theorem dX4_put_54 : decode cX4_put 54 = .ok (.if_icmp .ne 14, 3) := by decide +kernel
theorem dX4_put_15 : decode cX4_put 15 = .ok (.aload_n 0, 1) := by decide +kernel
theorem dX4_put_16 : decode cX4_put 16 = .ok (.getfield 9, 3) := by decide +kernel
theorem dX4_put_19 : decode cX4_put 19 = .ok (.iload_n 2, 1) := by decide +kernel
theorem dX4_put_20 : decode cX4_put 20 = .ok (.iaload, 1) := by decide +kernel
theorem dX4_put_21 : decode cX4_put 21 = .ok (.iconst 1, 1) := by decide +kernel
theorem dX4_put_22 : decode cX4_put 22 = .ok (.iload_n 2, 1) := by decide +kernel
theorem dX4_put_23 : decode cX4_put 23 = .ok (.ishl, 1) := by decide +kernel
theorem dX4_put_24 : decode cX4_put 24 = .ok (.ior, 1) := by decide +kernel
theorem dX4_put_25 : decode cX4_put 25 = .ok (.istore_n 3, 1) := by decide +kernel
theorem dX4_put_26 : decode cX4_put 26 = .ok (.iconst 0, 1) := by decide +kernel
theorem dX4_put_27 : decode cX4_put 27 = .ok (.istore 4, 2) := by decide +kernel
theorem dX4_put_0 : decode cX4_put 0 = .ok (.aload_n 0, 1) := by decide +kernel
theorem dX4_put_1 : decode cX4_put 1 = .ok (.getfield 9, 3) := by decide +kernel
theorem dX4_put_4 : decode cX4_put 4 = .ok (.iload_n 1, 1) := by decide +kernel
theorem dX4_put_5 : decode cX4_put 5 = .ok (.iaload, 1) := by decide +kernel
theorem dX4_put_6 : decode cX4_put 6 = .ok (.iload_n 2, 1) := by decide +kernel
theorem dX4_put_7 : decode cX4_put 7 = .ok (.invokestatic 21, 3) := by decide +kernel
theorem dX4_put_10 : decode cX4_put 10 = .ok (.iconst 1, 1) := by decide +kernel
theorem dX4_put_11 : decode cX4_put 11 = .ok (.if_icmp .ne 4, 3) := by decide +kernel
theorem dX4_put_14 : decode cX4_put 14 = .ok (.return_, 1) := by decide +kernel
theorem dX4_putPair_41 : decode cX4_putPair 41 = .ok (.invokevirtual 33, 3) := by decide +kernel
theorem dX4_putPair_44 : decode cX4_putPair 44 = .ok (.return_, 1) := by decide +kernel
theorem dX4_putPair_39 : decode cX4_putPair 39 = .ok (.iload 4, 2) := by decide +kernel
theorem dX4_putPair_29 : decode cX4_putPair 29 = .ok (.iload_n 3, 1) := by decide +kernel
theorem dX4_putPair_30 : decode cX4_putPair 30 = .ok (.iconst 1, 1) := by decide +kernel
theorem dX4_putPair_31 : decode cX4_putPair 31 = .ok (.if_icmp .ne 8, 3) := by decide +kernel
theorem dX4_putPair_34 : decode cX4_putPair 34 = .ok (.iload 5, 2) := by decide +kernel
theorem dX4_putPair_36 : decode cX4_putPair 36 = .ok (.goto 5, 3) := by decide +kernel
theorem dX4_putPair_27 : decode cX4_putPair 27 = .ok (.iload 5, 2) := by decide +kernel
theorem dX4_putPair_0 : decode cX4_putPair 0 = .ok (.aload_n 1, 1) := by decide +kernel
theorem dX4_putPair_1 : decode cX4_putPair 1 = .ok (.getfield 25, 3) := by decide +kernel
theorem dX4_putPair_4 : decode cX4_putPair 4 = .ok (.iload_n 2, 1) := by decide +kernel
theorem dX4_putPair_5 : decode cX4_putPair 5 = .ok (.iaload, 1) := by decide +kernel
theorem dX4_putPair_6 : decode cX4_putPair 6 = .ok (.istore 4, 2) := by decide +kernel
theorem dX4_putPair_8 : decode cX4_putPair 8 = .ok (.aload_n 1, 1) := by decide +kernel
theorem dX4_putPair_9 : decode cX4_putPair 9 = .ok (.getfield 30, 3) := by decide +kernel
theorem dX4_putPair_12 : decode cX4_putPair 12 = .ok (.iload_n 2, 1) := by decide +kernel
theorem dX4_putPair_13 : decode cX4_putPair 13 = .ok (.iaload, 1) := by decide +kernel
theorem dX4_putPair_14 : decode cX4_putPair 14 = .ok (.istore 5, 2) := by decide +kernel
theorem dX4_putPair_16 : decode cX4_putPair 16 = .ok (.aload_n 0, 1) := by decide +kernel
theorem dX4_putPair_17 : decode cX4_putPair 17 = .ok (.iload_n 3, 1) := by decide +kernel
theorem dX4_putPair_18 : decode cX4_putPair 18 = .ok (.iconst 1, 1) := by decide +kernel
theorem dX4_putPair_19 : decode cX4_putPair 19 = .ok (.if_icmp .ne 8, 3) := by decide +kernel
theorem dX4_putPair_22 : decode cX4_putPair 22 = .ok (.iload 4, 2) := by decide +kernel
theorem dX4_putPair_24 : decode cX4_putPair 24 = .ok (.goto 5, 3) := by decide +kernel
theorem zwn : 8 + (nativeFrameWords "java/lang/System" "arraycopy" 5 + 11) ≤ 60 := by decide +kernel
/-! rows of the heap -/
theorem zsW_s (h : zH) (a : Nat) (f : Nat → Int32) : (zsW h a f).1 a = f := zup_s _ _ _
theorem zsW_n (h : zH) {a q : Nat} (f : Nat → Int32) (hq : q ≠ a) : (zsW h a f).1 q = h.1 q := zup_n _ _ hq
theorem zsW_2 (h : zH) (a : Nat) (f : Nat → Int32) : (zsW h a f).2 = h.2 := rfl
theorem zsI_W (h : zH) (a j : Nat) (x : Int32) : zsI h a j x = zsW h a (va_up (h.1 a) j x) := rfl
theorem zsW_self (h : zH) (a : Nat) : zsW h a (h.1 a) = h := by
  refine Prod.ext ?_ rfl
  funext q
  by_cases hq : q = a
  · rw [hq, zsW_s]
  · rw [zsW_n _ _ hq]
theorem zsW_W (h : zH) (a : Nat) (f g : Nat → Int32) : zsW (zsW h a f) a g = zsW h a g := by
  refine Prod.ext ?_ rfl
  funext q
  by_cases hq : q = a
  · rw [hq, zsW_s, zsW_s]
  · rw [zsW_n _ _ hq, zsW_n _ _ hq, zsW_n _ _ hq]
theorem rpS_cg {S : zD} {h h' : zH} {a : Nat} (hr : ∀ k, k < 7 → h'.1 (a + k) = h.1 (a + k)) (hS : rpS S h a) : rpS S h' a := by
  unfold rpS at hS ⊢
  rw [hr 1 (by decide), hr 2 (by decide), hr 3 (by decide), hr 4 (by decide), hr 5 (by decide), hr 6 (by decide)]
  have h0 := hr 0 (by decide)
  rw [Nat.add_zero] at h0
  rw [h0]
  exact hS
theorem rpS_fr {S : zD} {h : zH} {a q : Nat} {f : Nat → Int32} (hq : q < a ∨ a + 7 ≤ q) (hS : rpS S h a) : rpS S (zsW h q f) a := rpS_cg (fun k hk => zsW_n _ _ (by omega)) hS
/-! an order of rings: of each those behind it, as a mask -/
def rpO (B : Nat → Nat) (h : zH) (o : Nat) : Prop := ∀ i, i < 10 → h.1 (o + 1) i = nI (B i) ∧ B i < 1024
/-- the order's row has become B -/
def oW (B : Nat → Nat) (h : zH) (o : Nat) (h' : zH) : Prop := ∃ f : Nat → Int32, h' = zsW h (o + 1) f ∧ ∀ i, i < 10 → f i = nI (B i)
def oput (B : Nat → Nat) (f b : Nat) : Nat → Nat := if (B f).testBit b then B else fun i => if i = f ∨ (B i).testBit f then B i ||| (B b ||| 2 ^ b) else B i
def otl (B : Nat → Nat) (a b : Nat) : Int32 := if (B a).testBit b = (B b).testBit a then -1 else bI ((B a).testBit b)
def obk (B : Nat → Nat) : Bool := decide (0 < fb_ct (fun i => (B i).testBit i) 10)
theorem oput_lt {B : Nat → Nat} {f b : Nat} (hB : ∀ i, i < 10 → B i < 1024) (hb : b < 10) : ∀ i, i < 10 → oput B f b i < 1024 := by
  intro i hi
  unfold oput
  split
  · exact hB i hi
  · show (if i = f ∨ (B i).testBit f then B i ||| (B b ||| 2 ^ b) else B i) < 2 ^ 10
    split
    · exact or_lt (hB i hi) (or_lt (hB b hb) (Nat.pow_lt_pow_right (by omega) hb))
    · exact hB i hi
theorem oW_rp {B : Nat → Nat} {h h' : zH} {o : Nat} (hw : oW B h o h') (hB : ∀ i, i < 10 → B i < 1024) : rpO B h' o := by
  obtain ⟨f, rfl, hf⟩ := hw
  intro i hi
  rw [zsW_s]
  exact ⟨hf i hi, hB i hi⟩
theorem oW_tr {B C : Nat → Nat} {h h1 h2 : zH} {o : Nat} (h12 : oW B h o h1) (h23 : oW C h1 o h2) : oW C h o h2 := by
  obtain ⟨f, rfl, hf⟩ := h12
  obtain ⟨g, rfl, hg⟩ := h23
  exact ⟨g, zsW_W _ _ _ _, hg⟩
def ca_X4_clear : (Nat) → List zV := fun o => [vR 13 0 o]
def cp_X4_clear : (Nat) → zH → Prop := fun _ _ => True
def cq_X4_clear : (Nat) → zH → Option zV → zH → Prop := fun o h r h' => r = none ∧ oW (fun _ => 0) h o h'
theorem rc_X4_clear : ∀ x : (Nat), ∃ (j a : Nat) (As : List zV), ca_X4_clear x = vR (10 + 3) j a :: As := by
  rintro o
  exact ⟨_, _, _, rfl⟩
set_option maxHeartbeats 4000000 in
set_option maxRecDepth 100000 in
theorem m_X4_clear : zM yX4_clear cX4_clear 2 none ({ frames := 0, cells := 0, slots := 0, locals := 0 } : Room) ((ca_X4_clear, cp_X4_clear, cq_X4_clear) : zC (Nat)) := by
  refine zM_of (by decide) ?_
  rintro X Y o h _ O E hR
  have B_21 := zr_return (X := X) (Y := Y) (u := 0) (v := 0) O E (Nat.le_refl _) (Nat.le_refl _) dX4_clear_21
  have L_2 : ∀ nn : Nat, zSd X Y 0 0 2 ((fun k ls st h1 => ∃ (i : Nat) (z : Int32) (f : Nat → Int32), k = 10 - i ∧ i ≤ 10 ∧ ls = [some (vR 13 0 o), some (vI z)] ∧ z = nI i ∧ st = [] ∧ h1 = zsW h (o + 1) f ∧ ∀ j, j < i → f j = 0 : Nat → zT) nn) := by
    refine zSd_loop (fun nn ih => ?_)
    have B_2 := zr_iload_n (X := X) (Y := Y) (u := 0) (v := 0) O dX4_clear_2 rfl (zr_bipush (x := (10)) O dX4_clear_3 (by decide) (zr_icge (tgt := 21) O dX4_clear_5 rfl B_21 (zr_aload_n O dX4_clear_8 rfl (zr_gS (ci := 3) (j := 0) (off := 1) (t := 1) (n := 10) O zc_3 (by decide) rfl tw_251 dX4_clear_9 (zr_iload_n O dX4_clear_12 rfl (zr_iconst (x := 0) O dX4_clear_13 rfl (zr_iast O dX4_clear_14 (zr_iinc (c := 1) O dX4_clear_15 rfl (zr_goto (tgt := 2) O dX4_clear_18 rfl ih)))))))))
    refine zSd_weak B_2 (fun ls st h1 t => ?_)
    obtain ⟨i, z, f, rfl, hi, rfl, rfl, rfl, rfl, hf⟩ := t
    refine ⟨fun cq => ⟨rfl, f, rfl, fun j hj => ?_⟩, fun cq => ?_⟩
    · have := (nI_leI (a := 10) (by omega) (by omega)).mp cq
      rw [hf j (by omega)]
      rfl
    · have hi2 : i < 10 := Nat.not_le.mp (fun z => cq ((nI_leI (a := 10) (by omega) (by omega)).mpr z))
      refine ⟨i, rfl, hi2, 10 - (i + 1), by omega, i + 1, _, va_up f i 0, rfl, by omega, rfl, nI_1 i, rfl, ?_, ?_⟩
      · rw [zsI_W, zsW_s, zsW_W]
      · intro j hj
        by_cases hji : j = i
        · rw [hji, zup_s]
        · rw [zup_n _ _ hji]
          exact hf j (by omega)
  have B_2 := zSd_any L_2
  have B_0 := zr_iconst (X := X) (Y := Y) (u := 0) (v := 0) (x := 0) O dX4_clear_0 rfl (zr_istore_n O dX4_clear_1 rfl (B_2))
  refine ⟨rfl, Nat.le_of_ble_eq_true rfl, _, B_0, ?_⟩
  exact ⟨10 - 0, 0, _, h.1 (o + 1), rfl, Nat.zero_le _, rfl, rfl, rfl, (zsW_self h (o + 1)).symm, fun j hj => absurd hj (by omega)⟩
def ca_X4_isAhead : ((Nat → Nat) × Nat × Nat × Nat) → List zV := fun (B, o, f, b) => [vR 13 0 o, vI (nI f), vI (nI b)]
def cp_X4_isAhead : ((Nat → Nat) × Nat × Nat × Nat) → zH → Prop := fun (B, o, f, b) h => rpO B h o ∧ f < 10 ∧ b < 10
def cf_X4_isAhead : ((Nat → Nat) × Nat × Nat × Nat) → zH → Int32 := fun (B, o, f, b) _ => bI ((B f).testBit b)
theorem rc_X4_isAhead : ∀ x : ((Nat → Nat) × Nat × Nat × Nat), ∃ (j a : Nat) (As : List zV), ca_X4_isAhead x = vR (10 + 3) j a :: As := by
  rintro ⟨B, o, f, b⟩
  exact ⟨_, _, _, rfl⟩
set_option maxHeartbeats 4000000 in
set_option maxRecDepth 100000 in
theorem m_X4_isAhead : zM yX4_isAhead cX4_isAhead 3 (some .boolean) ({ frames := 1, cells := 0, slots := 0, locals := 21 } : Room) (zcI ca_X4_isAhead cp_X4_isAhead cf_X4_isAhead) := by
  refine zM_of (by decide) ?_
  rintro X Y ⟨B, o, f, b⟩ h ⟨hB, hf, hb⟩ O E hR
  have B_19 := zr_zreturn (X := X) (Y := Y) (u := 0) (v := 0) O E (Nat.le_refl _) (Nat.le_refl _) dX4_isAhead_19
  have B_18 := zr_iconst (X := X) (Y := Y) (u := 0) (v := 0) (x := 0) O dX4_isAhead_18 rfl (B_19)
  have B_0 := zr_aload_n (X := X) (Y := Y) (u := 0) (v := 0) O dX4_isAhead_0 rfl (zr_gS (ci := 3) (j := 0) (off := 1) (t := 1) (n := 10) O zc_3 (by decide) rfl tw_251 dX4_isAhead_1 (zr_iload_n O dX4_isAhead_4 rfl (zr_iald O dX4_isAhead_5 (zr_iload_n O dX4_isAhead_6 rfl (zr_cI (zr_cSN (n := 2) O m_X10_bitIn (bn_X10_bitIn _ ⟨rfl, rfl⟩) tw_374 wn_RX4_21 (zrm hR rfl rfl) dX4_isAhead_7 (zr_iconst (x := 1) O dX4_isAhead_10 rfl (zr_icne (tgt := 18) O dX4_isAhead_11 rfl B_18 (zr_iconst (x := 1) O dX4_isAhead_14 rfl (zr_goto (tgt := 19) O dX4_isAhead_15 rfl B_19))))))))))
  refine ⟨rfl, Nat.le_of_ble_eq_true rfl, _, B_0, ?_⟩
  obtain ⟨e1, l1⟩ := hB f hf
  have e2 : (h.1 (o + 1) f >>> (nI b &&& 31)) &&& 1 = bI ((B f).testBit b) := by rw [e1]; exact bI_in (by omega) (by omega)
  refine ⟨f, rfl, hf, (_, _), rfl, trivial, fun cq => ⟨Or.inl rfl, zri ?_, rfl⟩, fun cq => ⟨Or.inr rfl, zri ?_, rfl⟩⟩
  · replace cq : ¬ (h.1 (o + 1) f >>> (nI b &&& 31)) &&& 1 = 1 := cq
    rw [e2, bI_1] at cq
    exact ((bI_0 _).mpr (by simpa using cq)).symm
  · replace cq : (h.1 (o + 1) f >>> (nI b &&& 31)) &&& 1 = 1 := cq
    rw [e2] at cq
    exact cq.symm
def ca_X4_isBroken : ((Nat → Nat) × Nat) → List zV := fun (B, o) => [vR 13 0 o]
def cp_X4_isBroken : ((Nat → Nat) × Nat) → zH → Prop := fun (B, o) h => rpO B h o
def cf_X4_isBroken : ((Nat → Nat) × Nat) → zH → Int32 := fun (B, o) _ => bI (obk B)
theorem rc_X4_isBroken : ∀ x : ((Nat → Nat) × Nat), ∃ (j a : Nat) (As : List zV), ca_X4_isBroken x = vR (10 + 3) j a :: As := by
  rintro ⟨B, o⟩
  exact ⟨_, _, _, rfl⟩
set_option maxHeartbeats 4000000 in
set_option maxRecDepth 100000 in
theorem m_X4_isBroken : zM yX4_isBroken cX4_isBroken 2 (some .boolean) ({ frames := 2, cells := 0, slots := 0, locals := 43 } : Room) (zcI ca_X4_isBroken cp_X4_isBroken cf_X4_isBroken) := by
  refine zM_of (by decide) ?_
  rintro X Y ⟨B, o⟩ h hB O E hR
  have B_25 := zr_iconst (X := X) (Y := Y) (u := 0) (v := 0) (x := 0) O dX4_isBroken_25 rfl (zr_zreturn O E (Nat.le_refl _) (Nat.le_refl _) dX4_isBroken_26)
  have L_2 : ∀ nn : Nat, zSd X Y 0 0 2 ((fun k ls st h1 => ∃ (i : Nat) (z : Int32), k = 10 - i ∧ i ≤ 10 ∧ ls = [some (vR 13 0 o), some (vI z)] ∧ z = nI i ∧ st = [] ∧ h = h1 ∧ fb_ct (fun i => (B i).testBit i) i = 0 : Nat → zT) nn) := by
    refine zSd_loop (fun nn ih => ?_)
    have B_19 := zr_iinc (X := X) (Y := Y) (u := 0) (v := 0) (c := 1) O dX4_isBroken_19 rfl (zr_goto (tgt := 2) O dX4_isBroken_22 rfl ih)
    have B_2 := zr_iload_n (X := X) (Y := Y) (u := 0) (v := 0) O dX4_isBroken_2 rfl (zr_bipush (x := (10)) O dX4_isBroken_3 (by decide) (zr_icge (tgt := 25) O dX4_isBroken_5 rfl B_25 (zr_aload_n O dX4_isBroken_8 rfl (zr_iload_n O dX4_isBroken_9 rfl (zr_iload_n O dX4_isBroken_10 rfl (zr_cI (zr_cV (ci := 3) (n := 2) O m_X4_isAhead (bn_X4_isAhead _ ⟨rfl, rfl⟩) vw_X4_isAhead tw_390 rc_X4_isAhead (zrm hR rfl rfl) dX4_isBroken_11 (zr_ifeq (tgt := 19) O dX4_isBroken_14 rfl B_19 (zr_iconst (x := 1) O dX4_isBroken_17 rfl (zr_zreturn O E (Nat.le_refl _) (Nat.le_refl _) dX4_isBroken_18))))))))))
    refine zSd_weak B_2 (fun ls st h1 t => ?_)
    have hB : rpO B h o := hB
    obtain ⟨i, z, rfl, hi, rfl, rfl, rfl, rfl, hc⟩ := t
    refine ⟨fun cq => ⟨Or.inl rfl, zri ?_, rfl⟩, fun cq => ?_⟩
    · have := (nI_leI (a := 10) (by omega) (by omega)).mp cq
      rw [show i = 10 by omega] at hc
      show (0 : Int32) = bI (obk B)
      simp [obk, hc, bI]
    · have hi2 : i < 10 := Nat.not_le.mp (fun z => cq ((nI_leI (a := 10) (by omega) (by omega)).mpr z))
      refine ⟨(B, o, i, i), rfl, ⟨hB, hi2, hi2⟩, fun dq => ?_, fun dq => ⟨Or.inr rfl, zri ?_, rfl⟩⟩
      · have hb : (B i).testBit i = false := (bI_0 _).mp dq
        exact ⟨10 - (i + 1), by omega, i + 1, _, rfl, by omega, rfl, nI_1 i, rfl, rfl, by rw [fb_ct_succ, hb, hc]; rfl⟩
      · have hb : (B i).testBit i = true := by
          cases hz : (B i).testBit i with
          | true => rfl
          | false => exact absurd ((bI_0 _).mpr hz) dq
        have h1 : 0 < fb_ct (fun i => (B i).testBit i) 10 := fb_ct_pos.mpr ⟨i, hi2, hb⟩
        show (1 : Int32) = bI (obk B)
        simp [obk, h1, bI]
  have B_2 := zSd_any L_2
  have B_0 := zr_iconst (X := X) (Y := Y) (u := 0) (v := 0) (x := 0) O dX4_isBroken_0 rfl (zr_istore_n O dX4_isBroken_1 rfl (B_2))
  refine ⟨rfl, Nat.le_of_ble_eq_true rfl, _, B_0, ?_⟩
  exact ⟨10 - 0, 0, _, rfl, Nat.zero_le _, rfl, rfl, rfl, rfl, rfl⟩
def ca_X4_bitTold : ((Nat → Nat) × Nat × Nat × Nat) → List zV := fun (B, o, a, b) => [vR 13 0 o, vI (nI a), vI (nI b)]
def cp_X4_bitTold : ((Nat → Nat) × Nat × Nat × Nat) → zH → Prop := fun (B, o, a, b) h => rpO B h o ∧ a < 10 ∧ b < 10
def cf_X4_bitTold : ((Nat → Nat) × Nat × Nat × Nat) → zH → Int32 := fun (B, o, a, b) _ => otl B a b
theorem rc_X4_bitTold : ∀ x : ((Nat → Nat) × Nat × Nat × Nat), ∃ (j a : Nat) (As : List zV), ca_X4_bitTold x = vR (10 + 3) j a :: As := by
  rintro ⟨B, o, a, b⟩
  exact ⟨_, _, _, rfl⟩
set_option maxHeartbeats 4000000 in
set_option maxRecDepth 100000 in
theorem m_X4_bitTold : zM yX4_bitTold cX4_bitTold 3 (some .int) ({ frames := 2, cells := 0, slots := 0, locals := 43 } : Room) (zcI ca_X4_bitTold cp_X4_bitTold cf_X4_bitTold) := by
  refine zM_of (by decide) ?_
  rintro X Y ⟨B, o, a, b⟩ h ⟨hB, ha, hb⟩ O E hR
  have B_31 := zr_ireturn (X := X) (Y := Y) (u := 0) (v := 0) O E (Nat.le_refl _) (Nat.le_refl _) dX4_bitTold_31
  have B_30 := zr_iconst (X := X) (Y := Y) (u := 0) (v := 0) (x := 0) O dX4_bitTold_30 rfl (B_31)
  have B_17 := zr_aload_n (X := X) (Y := Y) (u := 0) (v := 0) O dX4_bitTold_17 rfl (zr_iload_n O dX4_bitTold_18 rfl (zr_iload_n O dX4_bitTold_19 rfl (zr_cI (zr_cV (ci := 3) (n := 2) O m_X4_isAhead (bn_X4_isAhead _ ⟨rfl, rfl⟩) vw_X4_isAhead tw_390 rc_X4_isAhead (zrm hR rfl rfl) dX4_bitTold_20 (zr_ifeq (tgt := 30) O dX4_bitTold_23 rfl B_30 (zr_iconst (x := 1) O dX4_bitTold_26 rfl (zr_goto (tgt := 31) O dX4_bitTold_27 rfl B_31)))))))
  have B_0 := zr_aload_n (X := X) (Y := Y) (u := 0) (v := 0) O dX4_bitTold_0 rfl (zr_iload_n O dX4_bitTold_1 rfl (zr_iload_n O dX4_bitTold_2 rfl (zr_cI (zr_cV (ci := 3) (n := 2) O m_X4_isAhead (bn_X4_isAhead _ ⟨rfl, rfl⟩) vw_X4_isAhead tw_390 rc_X4_isAhead (zrm hR rfl rfl) dX4_bitTold_3 (zr_aload_n O dX4_bitTold_6 rfl (zr_iload_n O dX4_bitTold_7 rfl (zr_iload_n O dX4_bitTold_8 rfl (zr_cI (zr_cV (ci := 3) (n := 2) O m_X4_isAhead (bn_X4_isAhead _ ⟨rfl, rfl⟩) vw_X4_isAhead tw_390 rc_X4_isAhead (zrm hR rfl rfl) dX4_bitTold_9 (zr_icne (tgt := 17) O dX4_bitTold_12 rfl B_17 (zr_iconst (x := (-1)) O dX4_bitTold_15 rfl (zr_ireturn O E (Nat.le_refl _) (Nat.le_refl _) dX4_bitTold_16))))))))))))
  refine ⟨rfl, Nat.le_of_ble_eq_true rfl, _, B_0, ?_⟩
  refine ⟨(B, o, a, b), rfl, ⟨hB, ha, hb⟩, (B, o, b, a), rfl, ⟨hB, hb, ha⟩, fun cq => ⟨(B, o, a, b), rfl, ⟨hB, ha, hb⟩, fun dq => ⟨zri ?_, rfl⟩, fun dq => ⟨zri ?_, rfl⟩⟩, fun cq => ⟨zri ?_, rfl⟩⟩
  · have hne : ¬ (B a).testBit b = (B b).testBit a := fun z => cq (congrArg bI z)
    show (0 : Int32) = otl B a b
    rw [otl, if_neg hne]
    exact dq.symm
  · have hne : ¬ (B a).testBit b = (B b).testBit a := fun z => cq (congrArg bI z)
    show (1 : Int32) = otl B a b
    rw [otl, if_neg hne]
    cases hz : (B a).testBit b with
    | true => rfl
    | false => exact absurd ((bI_0 _).mpr hz) dq
  · have hne : (B a).testBit b = (B b).testBit a := by
      replace cq : bI ((B a).testBit b) = bI ((B b).testBit a) := cq
      revert cq
      cases (B a).testBit b <;> cases (B b).testBit a <;> simp [bI]
    show (-1 : Int32) = otl B a b
    rw [otl, if_pos hne]
def ca_X4_copyFrom : ((Nat → Nat) × Nat × Nat) → List zV := fun (B, o, q) => [vR 13 0 o, vR 13 0 q]
def cp_X4_copyFrom : ((Nat → Nat) × Nat × Nat) → zH → Prop := fun (B, o, q) h => rpO B h q
def cq_X4_copyFrom : ((Nat → Nat) × Nat × Nat) → zH → Option zV → zH → Prop := fun (B, o, q) h r h' => r = none ∧ oW B h o h'
theorem rc_X4_copyFrom : ∀ x : ((Nat → Nat) × Nat × Nat), ∃ (j a : Nat) (As : List zV), ca_X4_copyFrom x = vR (10 + 3) j a :: As := by
  rintro ⟨B, o, q⟩
  exact ⟨_, _, _, rfl⟩
set_option maxHeartbeats 4000000 in
set_option maxRecDepth 100000 in
theorem m_X4_copyFrom : zM yX4_copyFrom cX4_copyFrom 2 none ({ frames := 1, cells := 0, slots := 0, locals := 60 } : Room) ((ca_X4_copyFrom, cp_X4_copyFrom, cq_X4_copyFrom) : zC ((Nat → Nat) × Nat × Nat)) := by
  refine zM_of (by decide) ?_
  rintro X Y ⟨B, o, q⟩ h hB O E hR
  have B_0 := zr_aload_n (X := X) (Y := Y) (u := 0) (v := 0) O dX4_copyFrom_0 rfl (zr_gS (ci := 3) (j := 0) (off := 1) (t := 1) (n := 10) O zc_3 (by decide) rfl tw_251 dX4_copyFrom_1 (zr_iconst (x := 0) O dX4_copyFrom_4 rfl (zr_aload_n O dX4_copyFrom_5 rfl (zr_gS (ci := 3) (j := 0) (off := 1) (t := 1) (n := 10) O zc_3 (by decide) rfl tw_251 dX4_copyFrom_6 (zr_iconst (x := 0) O dX4_copyFrom_9 rfl (zr_bipush (x := (10)) O dX4_copyFrom_10 (by decide) (zr_cpy O tw_402 zwc ⟨(zrm (a := 1) (b := 60) hR rfl rfl).1, Nat.le_trans zwn (zrm (a := 1) (b := 60) hR rfl rfl).2.1⟩ dX4_copyFrom_12 (zr_return O E (Nat.le_refl _) (Nat.le_refl _) dX4_copyFrom_15))))))))
  refine ⟨rfl, Nat.le_of_ble_eq_true rfl, _, B_0, ?_⟩
  have hB : rpO B h q := hB
  refine ⟨rfl, rfl, 10, rfl, by decide, by decide, rfl, _, rfl, fun i hi => ?_⟩
  show (if i < 10 then h.1 (q + 1) i else h.1 (o + 1) i) = _
  rw [if_pos hi]
  exact (hB i hi).1
def ca_X4_put : ((Nat → Nat) × Nat × Nat × Nat) → List zV := fun (B, o, f, b) => [vR 13 0 o, vI (nI f), vI (nI b)]
def cp_X4_put : ((Nat → Nat) × Nat × Nat × Nat) → zH → Prop := fun (B, o, f, b) h => rpO B h o ∧ f < 10 ∧ b < 10
def cq_X4_put : ((Nat → Nat) × Nat × Nat × Nat) → zH → Option zV → zH → Prop := fun (B, o, f, b) h r h' => r = none ∧ oW (oput B f b) h o h'
theorem rc_X4_put : ∀ x : ((Nat → Nat) × Nat × Nat × Nat), ∃ (j a : Nat) (As : List zV), ca_X4_put x = vR (10 + 3) j a :: As := by
  rintro ⟨B, o, f, b⟩
  exact ⟨_, _, _, rfl⟩
set_option maxHeartbeats 4000000 in
set_option maxRecDepth 100000 in
theorem m_X4_put : zM yX4_put cX4_put 5 none ({ frames := 1, cells := 0, slots := 0, locals := 21 } : Room) ((ca_X4_put, cp_X4_put, cq_X4_put) : zC ((Nat → Nat) × Nat × Nat × Nat)) := by
  refine zM_of (by decide) ?_
  rintro X Y ⟨B, o, f, b⟩ h ⟨hB, hf, hb⟩ O E hR
  obtain ⟨e1, l1⟩ := hB f hf
  obtain ⟨e3, l3⟩ := hB b hb
  have eG : h.1 (o + 1) b ||| ((1 : Int32) <<< (nI b &&& 31)) = nI (B b ||| 2 ^ b) := by rw [e3, nI_pow (by omega), fa_or]
  have B_74 := zr_return (X := X) (Y := Y) (u := 0) (v := 0) O E (Nat.le_refl _) (Nat.le_refl _) dX4_put_74
  have L_29 : ∀ nn : Nat, zSd X Y 0 0 29 ((fun k ls st h1 => ∃ (i : Nat) (z : Int32) (g : Nat → Int32), (B f).testBit b = false ∧ k = 10 - i ∧ i ≤ 10 ∧ ls = [some (vR 13 0 o), some (vI (nI f)), some (vI (nI b)), some (vI (nI (B b ||| 2 ^ b))), some (vI z)] ∧ z = nI i ∧ st = [] ∧ h1 = zsW h (o + 1) g ∧ (∀ j, j < i → g j = nI (oput B f b j)) ∧ ∀ j, i ≤ j → j < 10 → g j = nI (B j) : Nat → zT) nn) := by
    refine zSd_loop (fun nn ih => ?_)
    have B_68 := zr_iinc (X := X) (Y := Y) (u := 0) (v := 0) (c := 1) O dX4_put_68 rfl (zr_goto (tgt := 29) O dX4_put_71 rfl ih)
    have B_57 := zr_aload_n (X := X) (Y := Y) (u := 0) (v := 0) O dX4_put_57 rfl (zr_gS (ci := 3) (j := 0) (off := 1) (t := 1) (n := 10) O zc_3 (by decide) rfl tw_251 dX4_put_58 (zr_iload O dX4_put_61 (zr_dup2 O dX4_put_63 (zr_iald O dX4_put_64 (zr_iload_n O dX4_put_65 rfl (zr_ior O dX4_put_66 (zr_iast O dX4_put_67 (B_68))))))))
    have B_29 := zr_iload (X := X) (Y := Y) (u := 0) (v := 0) O dX4_put_29 (zr_bipush (x := (10)) O dX4_put_31 (by decide) (zr_icge (tgt := 74) O dX4_put_33 rfl B_74 (zr_iload O dX4_put_36 (zr_iload_n O dX4_put_38 rfl (zr_iceq (tgt := 57) O dX4_put_39 rfl B_57 (zr_aload_n O dX4_put_42 rfl (zr_gS (ci := 3) (j := 0) (off := 1) (t := 1) (n := 10) O zc_3 (by decide) rfl tw_251 dX4_put_43 (zr_iload O dX4_put_46 (zr_iald O dX4_put_48 (zr_iload_n O dX4_put_49 rfl (zr_cI (zr_cSN (n := 2) O m_X10_bitIn (bn_X10_bitIn _ ⟨rfl, rfl⟩) tw_374 wn_RX4_21 (zrm hR rfl rfl) dX4_put_50 (zr_iconst (x := 1) O dX4_put_53 rfl (zr_icne (tgt := 68) O dX4_put_54 rfl B_68 (B_57)))))))))))))))
    refine zSd_weak B_29 (fun ls st h1 t => ?_)
    obtain ⟨i, z, g, hn, rfl, hi, rfl, rfl, rfl, rfl, g1, g2⟩ := t
    refine ⟨fun cq => ⟨rfl, g, rfl, fun j hj => g1 j ?_⟩, fun cq => ?_⟩
    · have := (nI_leI (a := 10) (by omega) (by omega)).mp cq
      omega
    · have hi2 : i < 10 := Nat.not_le.mp (fun z => cq ((nI_leI (a := 10) (by omega) (by omega)).mpr z))
      have gi := g2 i (Nat.le_refl _) hi2
      obtain ⟨e5, l5⟩ := hB i hi2
      have hput : (i = f ∨ (B i).testBit f = true) → nI (B i) ||| nI (B b ||| 2 ^ b) = nI (oput B f b i) := by
        intro hc
        rw [fa_or, oput, if_neg (by simp [hn])]
        show _ = nI (if i = f ∨ (B i).testBit f then _ else _)
        rw [if_pos hc]
      have hno : ¬ (i = f ∨ (B i).testBit f = true) → nI (B i) = nI (oput B f b i) := by
        intro hc
        rw [oput, if_neg (by simp [hn])]
        show _ = nI (if i = f ∨ (B i).testBit f then _ else _)
        rw [if_neg hc]
      refine ⟨fun dq => ?_, fun dq => ?_⟩
      · have hif : i = f := (nI_eq (by omega) (by omega)).mp dq
        refine ⟨i, rfl, hi2, i, rfl, hi2, 10 - (i + 1), by omega, i + 1, _, va_up g i (nI (oput B f b i)), hn, rfl, by omega, rfl, nI_1 i, rfl, ?_, fun j hj => ?_, fun j hj hj2 => ?_⟩
        · rw [zsI_W, zsW_s, zsW_W, gi, hput (Or.inl hif)]
        · by_cases hji : j = i
          · rw [hji, zup_s]
          · rw [zup_n _ _ hji]; exact g1 j (by omega)
        · rw [zup_n _ _ (by omega)]; exact g2 j (by omega) hj2
      · have hif : i ≠ f := fun z => dq (by rw [z])
        have eb : ((zsW h (o + 1) g).1 (o + 1) i >>> (nI f &&& 31)) &&& 1 = bI ((B i).testBit f) := by
          rw [zsW_s, gi]; exact bI_in (by omega) (by omega)
        refine ⟨i, rfl, hi2, (_, _), rfl, trivial, fun eq => ?_, fun eq => ?_⟩
        · replace eq : ¬ ((zsW h (o + 1) g).1 (o + 1) i >>> (nI f &&& 31)) &&& 1 = 1 := eq
          rw [eb, bI_1] at eq
          refine ⟨10 - (i + 1), by omega, i + 1, _, g, hn, rfl, by omega, rfl, nI_1 i, rfl, rfl, fun j hj => ?_, fun j hj hj2 => g2 j (by omega) hj2⟩
          by_cases hji : j = i
          · rw [hji, gi, hno (fun z => z.elim hif eq)]
          · exact g1 j (by omega)
        · replace eq : ((zsW h (o + 1) g).1 (o + 1) i >>> (nI f &&& 31)) &&& 1 = 1 := eq
          rw [eb, bI_1] at eq
          refine ⟨i, rfl, hi2, i, rfl, hi2, 10 - (i + 1), by omega, i + 1, _, va_up g i (nI (oput B f b i)), hn, rfl, by omega, rfl, nI_1 i, rfl, ?_, fun j hj => ?_, fun j hj hj2 => ?_⟩
          · rw [zsI_W, zsW_s, zsW_W, gi, hput (Or.inr eq)]
          · by_cases hji : j = i
            · rw [hji, zup_s]
            · rw [zup_n _ _ hji]; exact g1 j (by omega)
          · rw [zup_n _ _ (by omega)]; exact g2 j (by omega) hj2
  have B_29 := zSd_any L_29
  have B_15 := zr_aload_n (X := X) (Y := Y) (u := 0) (v := 0) O dX4_put_15 rfl (zr_gS (ci := 3) (j := 0) (off := 1) (t := 1) (n := 10) O zc_3 (by decide) rfl tw_251 dX4_put_16 (zr_iload_n O dX4_put_19 rfl (zr_iald O dX4_put_20 (zr_iconst (x := 1) O dX4_put_21 rfl (zr_iload_n O dX4_put_22 rfl (zr_ishl O dX4_put_23 (zr_ior O dX4_put_24 (zr_istore_n O dX4_put_25 rfl (zr_iconst (x := 0) O dX4_put_26 rfl (zr_istore O dX4_put_27 (B_29)))))))))))
  have B_0 := zr_aload_n (X := X) (Y := Y) (u := 0) (v := 0) O dX4_put_0 rfl (zr_gS (ci := 3) (j := 0) (off := 1) (t := 1) (n := 10) O zc_3 (by decide) rfl tw_251 dX4_put_1 (zr_iload_n O dX4_put_4 rfl (zr_iald O dX4_put_5 (zr_iload_n O dX4_put_6 rfl (zr_cI (zr_cSN (n := 2) O m_X10_bitIn (bn_X10_bitIn _ ⟨rfl, rfl⟩) tw_374 wn_RX4_21 (zrm hR rfl rfl) dX4_put_7 (zr_iconst (x := 1) O dX4_put_10 rfl (zr_icne (tgt := 15) O dX4_put_11 rfl B_15 (zr_return O E (Nat.le_refl _) (Nat.le_refl _) dX4_put_14)))))))))
  refine ⟨rfl, Nat.le_of_ble_eq_true rfl, _, B_0, ?_⟩
  have e2 : (h.1 (o + 1) f >>> (nI b &&& 31)) &&& 1 = bI ((B f).testBit b) := by rw [e1]; exact bI_in (by omega) (by omega)
  refine ⟨f, rfl, hf, (_, _), rfl, trivial, fun cq => ?_, fun cq => ?_⟩
  · replace cq : ¬ (h.1 (o + 1) f >>> (nI b &&& 31)) &&& 1 = 1 := cq
    rw [e2, bI_1] at cq
    refine ⟨b, rfl, hb, 10 - 0, 0, _, h.1 (o + 1), by simpa using cq, rfl, Nat.zero_le _, by rw [eG]; rfl, rfl, rfl, (zsW_self h (o + 1)).symm, fun j hj => absurd hj (by omega), fun j _ hj => (hB j hj).1⟩
  · replace cq : (h.1 (o + 1) f >>> (nI b &&& 31)) &&& 1 = 1 := cq
    rw [e2, bI_1] at cq
    refine ⟨rfl, h.1 (o + 1), (zsW_self h (o + 1)).symm, fun j hj => ?_⟩
    rw [oput, if_pos cq]
    exact (hB j hj).1
/-- a pair's bit put in -/
def oputP (S : zD) (B : Nat → Nat) (p : Nat) (w : Bool) : Nat → Nat := if w then oput B (dF S p) (dS S p) else oput B (dS S p) (dF S p)
def ca_X4_putPair : (zD × (Nat → Nat) × Nat × Nat × Nat × Bool) → List zV := fun (S, B, o, a, p, w) => [vR 13 0 o, vR 15 0 a, vI (nI p), vI (bI w)]
def cp_X4_putPair : (zD × (Nat → Nat) × Nat × Nat × Nat × Bool) → zH → Prop := fun (S, B, o, a, p, w) h => rpO B h o ∧ rpS S h a ∧ p < dP S
def cq_X4_putPair : (zD × (Nat → Nat) × Nat × Nat × Nat × Bool) → zH → Option zV → zH → Prop := fun (S, B, o, a, p, w) h r h' => r = none ∧ oW (oputP S B p w) h o h'
theorem rc_X4_putPair : ∀ x : (zD × (Nat → Nat) × Nat × Nat × Nat × Bool), ∃ (j a : Nat) (As : List zV), ca_X4_putPair x = vR (10 + 3) j a :: As := by
  rintro ⟨S, B, o, a, p, w⟩
  exact ⟨_, _, _, rfl⟩
set_option maxHeartbeats 4000000 in
set_option maxRecDepth 100000 in
theorem m_X4_putPair : zM yX4_putPair cX4_putPair 6 none ({ frames := 2, cells := 0, slots := 0, locals := 45 } : Room) ((ca_X4_putPair, cp_X4_putPair, cq_X4_putPair) : zC (zD × (Nat → Nat) × Nat × Nat × Nat × Bool)) := by
  refine zM_of (by decide) ?_
  rintro X Y ⟨S, B, o, a, p, w⟩ h ⟨hB, hS, hp⟩ O E hR
  have B_41 := zr_cV (X := X) (Y := Y) (u := 0) (v := 0) (ci := 3) (n := 2) O m_X4_put (bn_X4_put _ ⟨rfl, rfl⟩) vw_X4_put tw_380 rc_X4_put (zrm hR rfl rfl) dX4_putPair_41 (zr_return O E (Nat.le_refl _) (Nat.le_refl _) dX4_putPair_44)
  have B_39 := zr_iload (X := X) (Y := Y) (u := 0) (v := 0) O dX4_putPair_39 (B_41)
  have B_29 := zr_iload_n (X := X) (Y := Y) (u := 0) (v := 0) O dX4_putPair_29 rfl (zr_iconst (x := 1) O dX4_putPair_30 rfl (zr_icne (tgt := 39) O dX4_putPair_31 rfl B_39 (zr_iload O dX4_putPair_34 (zr_goto (tgt := 41) O dX4_putPair_36 rfl B_41))))
  have B_27 := zr_iload (X := X) (Y := Y) (u := 0) (v := 0) O dX4_putPair_27 (B_29)
  have B_0 := zr_aload_n (X := X) (Y := Y) (u := 0) (v := 0) O dX4_putPair_0 rfl (zr_gS (ci := 5) (j := 5) (off := 4) (t := 1) (n := 28) O zc_5 (by decide) rfl tw_63 dX4_putPair_1 (zr_iload_n O dX4_putPair_4 rfl (zr_iald O dX4_putPair_5 (zr_istore O dX4_putPair_6 (zr_aload_n O dX4_putPair_8 rfl (zr_gS (ci := 5) (j := 6) (off := 5) (t := 1) (n := 28) O zc_5 (by decide) rfl tw_70 dX4_putPair_9 (zr_iload_n O dX4_putPair_12 rfl (zr_iald O dX4_putPair_13 (zr_istore O dX4_putPair_14 (zr_aload_n O dX4_putPair_16 rfl (zr_iload_n O dX4_putPair_17 rfl (zr_iconst (x := 1) O dX4_putPair_18 rfl (zr_icne (tgt := 27) O dX4_putPair_19 rfl B_27 (zr_iload O dX4_putPair_22 (zr_goto (tgt := 29) O dX4_putPair_24 rfl B_29)))))))))))))))
  refine ⟨rfl, Nat.le_of_ble_eq_true rfl, _, B_0, ?_⟩
  obtain ⟨⟨f1, f2⟩, s1, s2⟩ := hS.2.2.2.1 p hp
  have hN := hS.1.2
  have hp28 : p < 28 := Nat.lt_of_lt_of_le hp hS.2.1.2
  refine ⟨p, rfl, hp28, p, rfl, hp28, fun cq => ⟨fun dq => ?_, fun dq => absurd dq cq⟩, fun cq => ⟨fun dq => absurd cq dq, fun dq => ?_⟩⟩
  · refine ⟨(B, o, dS S p, dF S p), by rw [f1, s1]; rfl, ⟨hB, by omega, by omega⟩, fun r h' hq => ?_⟩
    obtain ⟨rfl, hq⟩ := hq
    refine ⟨rfl, ?_⟩
    have hw : w = false := by
      cases w with
      | true => exact absurd rfl cq
      | false => rfl
    show oW (oputP S B p w) h o h'
    rw [oputP, hw]
    exact hq
  · refine ⟨(B, o, dF S p, dS S p), by rw [f1, s1]; rfl, ⟨hB, by omega, by omega⟩, fun r h' hq => ?_⟩
    obtain ⟨rfl, hq⟩ := hq
    refine ⟨rfl, ?_⟩
    have hw : w = true := (bI_1 w).mp cq
    show oW (oputP S B p w) h o h'
    rw [oputP, hw]
    exact hq
end
section
theorem dX3_hasHeard_17 : decode cX3_hasHeard 17 = .ok (.ireturn, 1) := by decide +kernel
theorem dX3_hasHeard_16 : decode cX3_hasHeard 16 = .ok (.iconst 0, 1) := by decide +kernel
theorem dX3_hasHeard_0 : decode cX3_hasHeard 0 = .ok (.aload_n 0, 1) := by decide +kernel
theorem dX3_hasHeard_1 : decode cX3_hasHeard 1 = .ok (.getfield 22, 3) := by decide +kernel
theorem dX3_hasHeard_4 : decode cX3_hasHeard 4 = .ok (.iload_n 1, 1) := by decide +kernel
theorem dX3_hasHeard_5 : decode cX3_hasHeard 5 = .ok (.invokestatic 34, 3) := by decide +kernel
theorem dX3_hasHeard_8 : decode cX3_hasHeard 8 = .ok (.iconst 1, 1) := by decide +kernel
theorem dX3_hasHeard_9 : decode cX3_hasHeard 9 = .ok (.if_icmp .ne 7, 3) := by decide +kernel
theorem dX3_hasHeard_12 : decode cX3_hasHeard 12 = .ok (.iconst 1, 1) := by decide +kernel
theorem dX3_hasHeard_13 : decode cX3_hasHeard 13 = .ok (.goto 4, 3) := by decide +kernel
theorem dX3_heardBitOf_20 : decode cX3_heardBitOf 20 = .ok (.ireturn, 1) := by decide +kernel
theorem dX3_heardBitOf_19 : decode cX3_heardBitOf 19 = .ok (.iconst (-1), 1) := by decide +kernel
theorem dX3_heardBitOf_0 : decode cX3_heardBitOf 0 = .ok (.aload_n 0, 1) := by decide +kernel
theorem dX3_heardBitOf_1 : decode cX3_heardBitOf 1 = .ok (.iload_n 1, 1) := by decide +kernel
theorem dX3_heardBitOf_2 : decode cX3_heardBitOf 2 = .ok (.invokevirtual 38, 3) := by decide +kernel
theorem dX3_heardBitOf_5 : decode cX3_heardBitOf 5 = .ok (.ifCond .eq 14, 3) := by decide +kernel
theorem dX3_heardBitOf_8 : decode cX3_heardBitOf 8 = .ok (.aload_n 0, 1) := by decide +kernel
theorem dX3_heardBitOf_9 : decode cX3_heardBitOf 9 = .ok (.getfield 25, 3) := by decide +kernel
theorem dX3_heardBitOf_12 : decode cX3_heardBitOf 12 = .ok (.iload_n 1, 1) := by decide +kernel
theorem dX3_heardBitOf_13 : decode cX3_heardBitOf 13 = .ok (.invokestatic 34, 3) := by decide +kernel
theorem dX3_heardBitOf_16 : decode cX3_heardBitOf 16 = .ok (.goto 4, 3) := by decide +kernel
theorem dX3_guessOf_0 : decode cX3_guessOf 0 = .ok (.aload_n 1, 1) := by decide +kernel
theorem dX3_guessOf_1 : decode cX3_guessOf 1 = .ok (.iload_n 2, 1) := by decide +kernel
theorem dX3_guessOf_2 : decode cX3_guessOf 2 = .ok (.aload_n 0, 1) := by decide +kernel
theorem dX3_guessOf_3 : decode cX3_guessOf 3 = .ok (.getfield 15, 3) := by decide +kernel
theorem dX3_guessOf_6 : decode cX3_guessOf 6 = .ok (.aload_n 1, 1) := by decide +kernel
theorem dX3_guessOf_7 : decode cX3_guessOf 7 = .ok (.getfield 42, 3) := by decide +kernel
theorem dX3_guessOf_10 : decode cX3_guessOf 10 = .ok (.iload_n 2, 1) := by decide +kernel
theorem dX3_guessOf_11 : decode cX3_guessOf 11 = .ok (.iaload, 1) := by decide +kernel
theorem dX3_guessOf_12 : decode cX3_guessOf 12 = .ok (.iaload, 1) := by decide +kernel
theorem dX3_guessOf_13 : decode cX3_guessOf 13 = .ok (.aload_n 0, 1) := by decide +kernel
theorem dX3_guessOf_14 : decode cX3_guessOf 14 = .ok (.getfield 15, 3) := by decide +kernel
theorem dX3_guessOf_17 : decode cX3_guessOf 17 = .ok (.aload_n 1, 1) := by decide +kernel
theorem dX3_guessOf_18 : decode cX3_guessOf 18 = .ok (.getfield 47, 3) := by decide +kernel
theorem dX3_guessOf_21 : decode cX3_guessOf 21 = .ok (.iload_n 2, 1) := by decide +kernel
theorem dX3_guessOf_22 : decode cX3_guessOf 22 = .ok (.iaload, 1) := by decide +kernel
theorem dX3_guessOf_23 : decode cX3_guessOf 23 = .ok (.iaload, 1) := by decide +kernel
theorem dX3_guessOf_24 : decode cX3_guessOf 24 = .ok (.invokevirtual 50, 3) := by decide +kernel
theorem dX3_guessOf_27 : decode cX3_guessOf 27 = .ok (.ireturn, 1) := by decide +kernel
theorem dX3_keep_37 : decode cX3_keep 37 = .ok (.aload_n 0, 1) := by decide +kernel
theorem dX3_keep_38 : decode cX3_keep 38 = .ok (.dup, 1) := by decide +kernel
theorem dX3_keep_39 : decode cX3_keep 39 = .ok (.getfield 22, 3) := by decide +kernel
theorem dX3_keep_42 : decode cX3_keep 42 = .ok (.iconst 1, 1) := by decide +kernel
theorem dX3_keep_43 : decode cX3_keep 43 = .ok (.iload_n 1, 1) := by decide +kernel
theorem dX3_keep_44 : decode cX3_keep 44 = .ok (.ishl, 1) := by decide +kernel
theorem dX3_keep_45 : decode cX3_keep 45 = .ok (.ior, 1) := by decide +kernel
theorem dX3_keep_46 : decode cX3_keep 46 = .ok (.putfield 22, 3) := by decide +kernel
theorem dX3_keep_49 : decode cX3_keep 49 = .ok (.aload_n 0, 1) := by decide +kernel
theorem dX3_keep_50 : decode cX3_keep 50 = .ok (.aload_n 0, 1) := by decide +kernel
theorem dX3_keep_51 : decode cX3_keep 51 = .ok (.getfield 25, 3) := by decide +kernel
theorem dX3_keep_54 : decode cX3_keep 54 = .ok (.iconst 1, 1) := by decide +kernel
theorem dX3_keep_55 : decode cX3_keep 55 = .ok (.iload_n 1, 1) := by decide +kernel
theorem dX3_keep_56 : decode cX3_keep 56 = .ok (.ishl, 1) := by decide +kernel
theorem dX3_keep_57 : decode cX3_keep 57 = .ok (.iconst (-1), 1) := by decide +kernel
theorem dX3_keep_58 : decode cX3_keep 58 = .ok (.ixor, 1) := by decide +kernel
theorem dX3_keep_59 : decode cX3_keep 59 = .ok (.iand, 1) := by decide +kernel
theorem dX3_keep_60 : decode cX3_keep 60 = .ok (.iload_n 2, 1) := by decide +kernel
theorem dX3_keep_61 : decode cX3_keep 61 = .ok (.iload_n 1, 1) := by decide +kernel
theorem dX3_keep_62 : decode cX3_keep 62 = .ok (.ishl, 1) := by decide +kernel
theorem dX3_keep_63 : decode cX3_keep 63 = .ok (.ior, 1) := by decide +kernel
theorem dX3_keep_64 : decode cX3_keep 64 = .ok (.putfield 25, 3) := by decide +kernel
theorem dX3_keep_67 : decode cX3_keep 67 = .ok (.return_, 1) := by decide +kernel
theorem dX3_keep_0 : decode cX3_keep 0 = .ok (.aload_n 0, 1) := by decide +kernel
theorem dX3_keep_1 : decode cX3_keep 1 = .ok (.iload_n 1, 1) := by decide +kernel
theorem dX3_keep_2 : decode cX3_keep 2 = .ok (.invokevirtual 38, 3) := by decide +kernel
theorem dX3_keep_5 : decode cX3_keep 5 = .ok (.ifCond .ne 32, 3) := by decide +kernel
theorem dX3_keep_8 : decode cX3_keep 8 = .ok (.aload_n 0, 1) := by decide +kernel
theorem dX3_keep_9 : decode cX3_keep 9 = .ok (.getfield 18, 3) := by decide +kernel
theorem dX3_keep_12 : decode cX3_keep 12 = .ok (.bipush 28, 2) := by decide +kernel
theorem dX3_keep_14 : decode cX3_keep 14 = .ok (.if_icmp .ge 23, 3) := by decide +kernel
theorem dX3_keep_17 : decode cX3_keep 17 = .ok (.aload_n 0, 1) := by decide +kernel
theorem dX3_keep_18 : decode cX3_keep 18 = .ok (.getfield 9, 3) := by decide +kernel
theorem dX3_keep_21 : decode cX3_keep 21 = .ok (.aload_n 0, 1) := by decide +kernel
theorem dX3_keep_22 : decode cX3_keep 22 = .ok (.getfield 18, 3) := by decide +kernel
theorem dX3_keep_25 : decode cX3_keep 25 = .ok (.iload_n 1, 1) := by decide +kernel
theorem dX3_keep_26 : decode cX3_keep 26 = .ok (.iastore, 1) := by decide +kernel
theorem dX3_keep_27 : decode cX3_keep 27 = .ok (.aload_n 0, 1) := by decide +kernel
theorem dX3_keep_28 : decode cX3_keep 28 = .ok (.dup, 1) := by decide +kernel
theorem dX3_keep_29 : decode cX3_keep 29 = .ok (.getfield 18, 3) := by decide +kernel
theorem dX3_keep_32 : decode cX3_keep 32 = .ok (.iconst 1, 1) := by decide +kernel
theorem dX3_keep_33 : decode cX3_keep 33 = .ok (.iadd, 1) := by decide +kernel
theorem dX3_keep_34 : decode cX3_keep 34 = .ok (.putfield 18, 3) := by decide +kernel
/-! who listens: how many were heard, which, their bits, weights -/
abbrev zG : Type := Nat × (Nat → Nat) × (Nat → Bool) × (Nat → Int32)
abbrev gN (L : zG) : Nat := L.1
abbrev gP (L : zG) : Nat → Nat := L.2.1
abbrev gB (L : zG) : Nat → Bool := L.2.2.1
abbrev gW (L : zG) : Nat → Int32 := L.2.2.2
def gIx (L : zG) (p : Nat) : Nat := fa_first (fun i => decide (gP L i = p)) (gN L)
def gH (L : zG) (p : Nat) : Bool := decide (gIx L p < gN L)
def gV (L : zG) (p : Nat) : Bool := gB L (gIx L p)
theorem gIx_le (L : zG) (p : Nat) : gIx L p ≤ gN L := fa_first_le _ _
theorem gIx_yes {L : zG} {p : Nat} (h : gH L p = true) : gIx L p < gN L ∧ gP L (gIx L p) = p := by
  have h1 : gIx L p < gN L := of_decide_eq_true h
  exact ⟨h1, of_decide_eq_true (fa_first_yes _ _ h1)⟩
theorem gIx_no {L : zG} {p : Nat} (h : gH L p = false) : ∀ i, i < gN L → gP L i ≠ p := by
  intro i hi
  have h1 : ¬ gIx L p < gN L := of_decide_eq_false h
  have h2 := fa_first_no (fun i => decide (gP L i = p)) (gN L) i (by have := gIx_le L p; unfold gIx at *; omega)
  exact of_decide_eq_false h2
theorem gH_of {L : zG} {p i : Nat} (hi : i < gN L) (hp : gP L i = p) : gH L p = true := by
  cases hz : gH L p with
  | true => rfl
  | false => exact absurd hp (gIx_no hz i hi)
/-- no pair twice -/
def gInj (L : zG) : Prop := ∀ i j, i < gN L → j < gN L → gP L i = gP L j → i = j
theorem gIx_at {L : zG} (hj : gInj L) {i : Nat} (hi : i < gN L) : gIx L (gP L i) = i ∧ gH L (gP L i) = true := by
  have h1 := gH_of hi rfl
  obtain ⟨h2, h3⟩ := gIx_yes h1
  exact ⟨hj _ _ h2 hi h3, h1⟩
/-- the listener at l holds L -/
def rpL (L : zG) (h : zH) (l : Nat) : Prop :=
  (h.1 l 0 = nI (gN L) ∧ gN L ≤ 28) ∧ (∀ i, i < gN L → h.1 (l + 1) i = nI (gP L i) ∧ gP L i < 28) ∧ (∃ M V : Nat, h.1 l 2 = nI M ∧ h.1 l 3 = nI V ∧ M < 2 ^ 28 ∧ V < 2 ^ 28 ∧ (∀ p, p < 28 → M.testBit p = gH L p) ∧ ∀ p, p < 28 → gH L p = true → V.testBit p = gV L p) ∧ ∀ r, r < 10 → h.1 (l + 2) r = gW L r
theorem rpL_cg {L : zG} {h h' : zH} {l : Nat} (h0 : h'.1 l = h.1 l) (h1 : h'.1 (l + 1) = h.1 (l + 1)) (h2 : h'.1 (l + 2) = h.1 (l + 2)) (hL : rpL L h l) : rpL L h' l := by
  unfold rpL at hL ⊢
  rw [h0, h1, h2]
  exact hL
theorem rpL_fr {L : zG} {h : zH} {l q : Nat} {f : Nat → Int32} (hq : q < l ∨ l + 3 ≤ q) (hL : rpL L h l) : rpL L (zsW h q f) l := rpL_cg (zsW_n _ _ (by omega)) (zsW_n _ _ (by omega)) (zsW_n _ _ (by omega)) hL
def ca_X3_hasHeard : (zG × Nat × Nat) → List zV := fun (L, l, p) => [vR 12 0 l, vI (nI p)]
def cp_X3_hasHeard : (zG × Nat × Nat) → zH → Prop := fun (L, l, p) h => rpL L h l ∧ p < 28
def cf_X3_hasHeard : (zG × Nat × Nat) → zH → Int32 := fun (L, l, p) _ => bI (gH L p)
theorem rc_X3_hasHeard : ∀ x : (zG × Nat × Nat), ∃ (j a : Nat) (As : List zV), ca_X3_hasHeard x = vR (10 + 2) j a :: As := by
  rintro ⟨L, l, p⟩
  exact ⟨_, _, _, rfl⟩
set_option maxHeartbeats 4000000 in
set_option maxRecDepth 100000 in
theorem m_X3_hasHeard : zM yX3_hasHeard cX3_hasHeard 2 (some .boolean) ({ frames := 1, cells := 0, slots := 0, locals := 21 } : Room) (zcI ca_X3_hasHeard cp_X3_hasHeard cf_X3_hasHeard) := by
  refine zM_of (by decide) ?_
  rintro X Y ⟨L, l, p⟩ h ⟨hL, hp⟩ O E hR
  have B_17 := zr_zreturn (X := X) (Y := Y) (u := 0) (v := 0) O E (Nat.le_refl _) (Nat.le_refl _) dX3_hasHeard_17
  have B_16 := zr_iconst (X := X) (Y := Y) (u := 0) (v := 0) (x := 0) O dX3_hasHeard_16 rfl (B_17)
  have B_0 := zr_aload_n (X := X) (Y := Y) (u := 0) (v := 0) O dX3_hasHeard_0 rfl (zr_gI (ci := 2) (j := 2) O zc_2 (by decide) rfl tw_155 dX3_hasHeard_1 (zr_iload_n O dX3_hasHeard_4 rfl (zr_cI (zr_cSN (n := 2) O m_X10_bitIn (bn_X10_bitIn _ ⟨rfl, rfl⟩) tw_374 wn_RX3_34 (zrm hR rfl rfl) dX3_hasHeard_5 (zr_iconst (x := 1) O dX3_hasHeard_8 rfl (zr_icne (tgt := 16) O dX3_hasHeard_9 rfl B_16 (zr_iconst (x := 1) O dX3_hasHeard_12 rfl (zr_goto (tgt := 17) O dX3_hasHeard_13 rfl B_17))))))))
  refine ⟨rfl, Nat.le_of_ble_eq_true rfl, _, B_0, ?_⟩
  obtain ⟨M, V, m1, m2, m3, m4, m5, m6⟩ := hL.2.2.1
  have e2 : (h.1 l 2 >>> (nI p &&& 31)) &&& 1 = bI (gH L p) := by rw [m1, bI_in (by omega) (by omega), m5 p hp]
  refine ⟨(_, _), rfl, trivial, fun cq => ⟨Or.inl rfl, zri ?_, rfl⟩, fun cq => ⟨Or.inr rfl, zri ?_, rfl⟩⟩
  · replace cq : ¬ (h.1 l 2 >>> (nI p &&& 31)) &&& 1 = 1 := cq
    rw [e2, bI_1] at cq
    exact ((bI_0 _).mpr (by simpa using cq)).symm
  · replace cq : (h.1 l 2 >>> (nI p &&& 31)) &&& 1 = 1 := cq
    rw [e2] at cq
    exact cq.symm
def ghb (L : zG) (p : Nat) : Int32 := if gH L p then bI (gV L p) else -1
def ca_X3_heardBitOf : (zG × Nat × Nat) → List zV := fun (L, l, p) => [vR 12 0 l, vI (nI p)]
def cp_X3_heardBitOf : (zG × Nat × Nat) → zH → Prop := fun (L, l, p) h => rpL L h l ∧ p < 28
def cf_X3_heardBitOf : (zG × Nat × Nat) → zH → Int32 := fun (L, l, p) _ => ghb L p
theorem rc_X3_heardBitOf : ∀ x : (zG × Nat × Nat), ∃ (j a : Nat) (As : List zV), ca_X3_heardBitOf x = vR (10 + 2) j a :: As := by
  rintro ⟨L, l, p⟩
  exact ⟨_, _, _, rfl⟩
set_option maxHeartbeats 4000000 in
set_option maxRecDepth 100000 in
theorem m_X3_heardBitOf : zM yX3_heardBitOf cX3_heardBitOf 2 (some .int) ({ frames := 2, cells := 0, slots := 0, locals := 42 } : Room) (zcI ca_X3_heardBitOf cp_X3_heardBitOf cf_X3_heardBitOf) := by
  refine zM_of (by decide) ?_
  rintro X Y ⟨L, l, p⟩ h ⟨hL, hp⟩ O E hR
  have B_20 := zr_ireturn (X := X) (Y := Y) (u := 0) (v := 0) O E (Nat.le_refl _) (Nat.le_refl _) dX3_heardBitOf_20
  have B_19 := zr_iconst (X := X) (Y := Y) (u := 0) (v := 0) (x := (-1)) O dX3_heardBitOf_19 rfl (B_20)
  have B_0 := zr_aload_n (X := X) (Y := Y) (u := 0) (v := 0) O dX3_heardBitOf_0 rfl (zr_iload_n O dX3_heardBitOf_1 rfl (zr_cI (zr_cV (ci := 2) (n := 1) O m_X3_hasHeard (bn_X3_hasHeard _ ⟨rfl, rfl⟩) vw_X3_hasHeard tw_369 rc_X3_hasHeard (zrm hR rfl rfl) dX3_heardBitOf_2 (zr_ifeq (tgt := 19) O dX3_heardBitOf_5 rfl B_19 (zr_aload_n O dX3_heardBitOf_8 rfl (zr_gI (ci := 2) (j := 3) O zc_2 (by decide) rfl tw_156 dX3_heardBitOf_9 (zr_iload_n O dX3_heardBitOf_12 rfl (zr_cI (zr_cSN (n := 2) O m_X10_bitIn (bn_X10_bitIn _ ⟨rfl, rfl⟩) tw_374 wn_RX3_34 (zrm hR rfl rfl) dX3_heardBitOf_13 (zr_goto (tgt := 20) O dX3_heardBitOf_16 rfl B_20))))))))))
  refine ⟨rfl, Nat.le_of_ble_eq_true rfl, _, B_0, ?_⟩
  obtain ⟨M, V, m1, m2, m3, m4, m5, m6⟩ := hL.2.2.1
  refine ⟨(L, l, p), rfl, ⟨hL, hp⟩, fun cq => ⟨zri ?_, rfl⟩, fun cq => ⟨(_, _), rfl, trivial, zri ?_, rfl⟩⟩
  · have hz : gH L p = false := (bI_0 _).mp cq
    show (-1 : Int32) = ghb L p
    rw [ghb, hz]
    rfl
  · have hz : gH L p = true := by
      cases hz : gH L p with
      | true => rfl
      | false => exact absurd ((bI_0 _).mpr hz) cq
    show (h.1 l 3 >>> (nI p &&& 31)) &&& 1 = ghb L p
    rw [ghb, hz, m2, bI_in (by omega) (by omega), m6 p hp hz]
    rfl
/-- a guess -/
def gss (S : zD) (W : Nat → Int32) (p : Nat) : Int32 := bby (W (dF S p)) (W (dS S p)) (dF S p) (dS S p)
def ca_X3_guessOf : (zD × zG × Nat × Nat × Nat) → List zV := fun (S, L, l, a, p) => [vR 12 0 l, vR 15 0 a, vI (nI p)]
def cp_X3_guessOf : (zD × zG × Nat × Nat × Nat) → zH → Prop := fun (S, L, l, a, p) h => rpS S h a ∧ (∀ r, r < 10 → h.1 (l + 2) r = gW L r) ∧ p < dP S
def cf_X3_guessOf : (zD × zG × Nat × Nat × Nat) → zH → Int32 := fun (S, L, l, a, p) _ => gss S (gW L) p
theorem rc_X3_guessOf : ∀ x : (zD × zG × Nat × Nat × Nat), ∃ (j a : Nat) (As : List zV), ca_X3_guessOf x = vR (10 + 2) j a :: As := by
  rintro ⟨S, L, l, a, p⟩
  exact ⟨_, _, _, rfl⟩
set_option maxHeartbeats 4000000 in
set_option maxRecDepth 100000 in
theorem m_X3_guessOf : zM yX3_guessOf cX3_guessOf 3 (some .int) ({ frames := 1, cells := 0, slots := 0, locals := 23 } : Room) (zcI ca_X3_guessOf cp_X3_guessOf cf_X3_guessOf) := by
  refine zM_of (by decide) ?_
  rintro X Y ⟨S, L, l, a, p⟩ h ⟨hS, hW, hp⟩ O E hR
  have B_0 := zr_aload_n (X := X) (Y := Y) (u := 0) (v := 0) O dX3_guessOf_0 rfl (zr_iload_n O dX3_guessOf_1 rfl (zr_aload_n O dX3_guessOf_2 rfl (zr_gS (ci := 2) (j := 4) (off := 2) (t := 1) (n := 10) O zc_2 (by decide) rfl tw_157 dX3_guessOf_3 (zr_aload_n O dX3_guessOf_6 rfl (zr_gS (ci := 5) (j := 5) (off := 4) (t := 1) (n := 28) O zc_5 (by decide) rfl tw_64 dX3_guessOf_7 (zr_iload_n O dX3_guessOf_10 rfl (zr_iald O dX3_guessOf_11 (zr_iald O dX3_guessOf_12 (zr_aload_n O dX3_guessOf_13 rfl (zr_gS (ci := 2) (j := 4) (off := 2) (t := 1) (n := 10) O zc_2 (by decide) rfl tw_157 dX3_guessOf_14 (zr_aload_n O dX3_guessOf_17 rfl (zr_gS (ci := 5) (j := 6) (off := 5) (t := 1) (n := 28) O zc_5 (by decide) rfl tw_71 dX3_guessOf_18 (zr_iload_n O dX3_guessOf_21 rfl (zr_iald O dX3_guessOf_22 (zr_iald O dX3_guessOf_23 (zr_cI (zr_cV (ci := 5) (n := 3) O m_X6_bitFrom (bn_X6_bitFrom _ ⟨rfl, rfl⟩) vw_X6_bitFrom tw_851 rc_X6_bitFrom (zrm hR rfl rfl) dX3_guessOf_24 (zr_ireturn O E (Nat.le_refl _) (Nat.le_refl _) dX3_guessOf_27))))))))))))))))))
  refine ⟨rfl, Nat.le_of_ble_eq_true rfl, _, B_0, ?_⟩
  obtain ⟨⟨f1, f2⟩, s1, s2⟩ := hS.2.2.2.1 p hp
  have hN := hS.1.2
  have hp28 : p < 28 := Nat.lt_of_lt_of_le hp hS.2.1.2
  refine ⟨p, rfl, hp28, dF S p, f1, by omega, p, rfl, hp28, dS S p, s1, by omega, (S, a, p, _, _), rfl, ⟨hS, hp⟩, zri ?_, rfl⟩
  show bby (h.1 (l + 2) (dF S p)) (h.1 (l + 2) (dS S p)) _ _ = gss S (gW L) p
  rw [hW _ (by omega), hW _ (by omega)]
  rfl
/-- a bit is heard -/
def gkp (L : zG) (p : Nat) (b : Bool) : zG := if gH L p then (gN L, gP L, va_up (gB L) (gIx L p) b, gW L) else (gN L + 1, va_up (gP L) (gN L) p, va_up (gB L) (gN L) b, gW L)
theorem gkp_ix {L : zG} {p q : Nat} {b : Bool} : gH (gkp L p b) q = (gH L q || decide (q = p)) ∧ (gH (gkp L p b) q = true → gV (gkp L p b) q = if q = p then b else gV L q) := by
  unfold gkp
  by_cases hp : gH L p = true
  · rw [if_pos hp]
    have e : gIx (gN L, gP L, va_up (gB L) (gIx L p) b, gW L) q = gIx L q := rfl
    refine ⟨?_, fun hq => ?_⟩
    · show gH L q = _
      by_cases hqp : q = p
      · rw [hqp, hp]; rfl
      · simp [hqp]
    · show va_up (gB L) (gIx L p) b (gIx L q) = _
      by_cases hqp : q = p
      · rw [hqp, zup_s, if_pos rfl]
      · have hq2 : gH L q = true := hq
        have hne : gIx L q ≠ gIx L p := fun z => hqp (by rw [← (gIx_yes hq2).2, z, (gIx_yes hp).2])
        rw [zup_n _ _ hne, if_neg hqp]
        rfl
  · have hp' : gH L p = false := by simpa using hp
    rw [if_neg hp]
    have hx : ∀ i, i < gN L → va_up (gP L) (gN L) p i = gP L i := fun i hi => zup_n _ _ (by omega)
    by_cases hq : gH L q = true
    · obtain ⟨i1, i2⟩ := gIx_yes hq
      have hqp : q ≠ p := fun z => by rw [z] at hq; exact hp hq
      have hlt : gIx L q < gIx L q + 1 := by omega
      have e : gIx (gN L + 1, va_up (gP L) (gN L) p, va_up (gB L) (gN L) b, gW L) q = gIx L q := by
        have e0 : fa_first (fun i => decide (va_up (gP L) (gN L) p i = q)) (gN L) = fa_first (fun i => decide (gP L i = q)) (gN L) := by
          have gen : ∀ n, n ≤ gN L → fa_first (fun i => decide (va_up (gP L) (gN L) p i = q)) n = fa_first (fun i => decide (gP L i = q)) n := by
            intro n
            induction n with
            | zero => intro _; rfl
            | succ n ih =>
              intro hn
              have ih := ih (by omega)
              have e1 := hx n (by omega)
              show (if fa_first (fun i => decide (va_up (gP L) (gN L) p i = q)) n < n then fa_first (fun i => decide (va_up (gP L) (gN L) p i = q)) n else if decide (va_up (gP L) (gN L) p n = q) then n else n + 1) = (if fa_first (fun i => decide (gP L i = q)) n < n then fa_first (fun i => decide (gP L i = q)) n else if decide (gP L n = q) then n else n + 1)
              rw [ih, e1]
          exact gen _ (Nat.le_refl _)
        show (if fa_first _ (gN L) < gN L then fa_first _ (gN L) else _) = _
        rw [e0]
        exact if_pos i1
      have h1 : gH (gN L + 1, va_up (gP L) (gN L) p, va_up (gB L) (gN L) b, gW L) q = true := by
        show decide (gIx _ q < gN L + 1) = true
        rw [e]; exact decide_eq_true (by omega)
      refine ⟨by rw [h1, hq]; rfl, fun _ => ?_⟩
      show va_up (gB L) (gN L) b (gIx _ q) = _
      rw [e, zup_n _ _ (by omega), if_neg hqp]
      rfl
    · have hq' : gH L q = false := by simpa using hq
      have hno := gIx_no hq'
      have e0 : fa_first (fun i => decide (va_up (gP L) (gN L) p i = q)) (gN L) = gN L := by
        have h1 := fa_first_le (fun i => decide (va_up (gP L) (gN L) p i = q)) (gN L)
        rcases Nat.lt_or_ge (fa_first (fun i => decide (va_up (gP L) (gN L) p i = q)) (gN L)) (gN L) with h2 | h2
        · have h3 := of_decide_eq_true (fa_first_yes _ _ h2)
          rw [hx _ h2] at h3
          exact absurd h3 (hno _ h2)
        · omega
      have e : gIx (gN L + 1, va_up (gP L) (gN L) p, va_up (gB L) (gN L) b, gW L) q = if p = q then gN L else gN L + 1 := by
        show (if fa_first _ (gN L) < gN L then _ else if decide (va_up (gP L) (gN L) p (gN L) = q) then gN L else gN L + 1) = _
        rw [e0, if_neg (Nat.lt_irrefl _), zup_s]
        simp
      by_cases hqp : q = p
      · subst hqp
        rw [if_pos rfl] at e
        have h1 : gH (gN L + 1, va_up (gP L) (gN L) q, va_up (gB L) (gN L) b, gW L) q = true := by
          show decide (gIx _ q < gN L + 1) = true
          rw [e]; exact decide_eq_true (by omega)
        refine ⟨by rw [h1]; simp, fun _ => ?_⟩
        show va_up (gB L) (gN L) b (gIx _ q) = _
        rw [e, zup_s, if_pos rfl]
      · rw [if_neg (fun z => hqp z.symm)] at e
        have h1 : gH (gN L + 1, va_up (gP L) (gN L) p, va_up (gB L) (gN L) b, gW L) q = false := by
          show decide (gIx _ q < gN L + 1) = false
          rw [e]; exact decide_eq_false (by omega)
        refine ⟨by rw [h1, hq']; simp [hqp], fun z => by rw [h1] at z; cases z⟩
theorem gkp_inj {L : zG} {p : Nat} {b : Bool} (h : gInj L) : gInj (gkp L p b) := by
  unfold gkp
  by_cases hp : gH L p = true
  · rw [if_pos hp]; exact h
  · rw [if_neg hp]
    have hno := gIx_no (show gH L p = false by simpa using hp)
    intro i j hi hj hij
    have hi : i < gN L + 1 := hi
    have hj : j < gN L + 1 := hj
    have hij : va_up (gP L) (gN L) p i = va_up (gP L) (gN L) p j := hij
    by_cases h1 : i = gN L
    · by_cases h2 : j = gN L
      · omega
      · rw [h1, zup_s, zup_n _ _ h2] at hij
        exact absurd hij.symm (hno j (by omega))
    · by_cases h2 : j = gN L
      · rw [h2, zup_s, zup_n _ _ h1] at hij
        exact absurd hij (hno i (by omega))
      · rw [zup_n _ _ h1, zup_n _ _ h2] at hij
        exact h i j (by omega) (by omega) hij
theorem bit_or {M p q : Nat} : (M ||| 2 ^ p).testBit q = (M.testBit q || decide (q = p)) := fb_bit_set M p q
theorem and_not {V p : Nat} (hV : V < 2 ^ 28) (hp : p < 28) : nI V &&& (nI (2 ^ p) ^^^ (-1)) = nI (V &&& (2 ^ 28 - 1 - 2 ^ p)) := by
  have hp2 : 2 ^ p < 2 ^ 28 := Nat.pow_lt_pow_right (by omega) hp
  apply b_ext
  intro i hi
  have t : ∀ n : Nat, bt (nI n) i = n.testBit i := by
    intro n
    unfold bt nI
    show (BitVec.ofNat 32 n).getLsbD i = _
    rw [BitVec.getLsbD_ofNat]
    simp [hi]
  rw [b_and, b_xor, b_m1 i hi, t, t, t, Nat.testBit_and]
  by_cases hiV : V.testBit i = true
  · have hi28 : i < 28 := by
      rcases Nat.lt_or_ge i 28 with q | q
      · exact q
      · rw [Nat.testBit_lt_two_pow (Nat.lt_of_lt_of_le hV (Nat.pow_le_pow_right (by omega) q))] at hiV; cases hiV
    rw [hiV]
    have e := Nat.testBit_two_pow_sub_succ (x := 2 ^ p) (n := 28) hp2 i
    rw [show 2 ^ 28 - 1 - 2 ^ p = 2 ^ 28 - (2 ^ p + 1) by omega, e]
    simp [hi28]
  · have : V.testBit i = false := by simpa using hiV
    rw [this]; simp
theorem and_not_bit {V p q : Nat} (hp : p < 28) (hq : q < 28) : (V &&& (2 ^ 28 - 1 - 2 ^ p)).testBit q = (V.testBit q && decide (q ≠ p)) := by
  have hp2 : 2 ^ p < 2 ^ 28 := Nat.pow_lt_pow_right (by omega) hp
  have e := Nat.testBit_two_pow_sub_succ (x := 2 ^ p) (n := 28) hp2 q
  rw [Nat.testBit_and, show 2 ^ 28 - 1 - 2 ^ p = 2 ^ 28 - (2 ^ p + 1) by omega, e, Nat.testBit_two_pow]
  by_cases h : q = p
  · subst h; simp
  · have : ¬ p = q := fun z => h z.symm
    simp [hq, h, this]
def ca_X3_keep : (zG × Nat × Nat × Bool) → List zV := fun (L, l, p, b) => [vR 12 0 l, vI (nI p), vI (bI b)]
def cp_X3_keep : (zG × Nat × Nat × Bool) → zH → Prop := fun (L, l, p, b) h => rpL L h l ∧ p < 28 ∧ (gH L p = true ∨ gN L < 28)
def cq_X3_keep : (zG × Nat × Nat × Bool) → zH → Option zV → zH → Prop := fun (L, l, p, b) h r h' => r = none ∧ (∃ f g : Nat → Int32, h' = zsW (zsW h (l + 1) g) l f) ∧ rpL (gkp L p b) h' l
theorem rc_X3_keep : ∀ x : (zG × Nat × Nat × Bool), ∃ (j a : Nat) (As : List zV), ca_X3_keep x = vR (10 + 2) j a :: As := by
  rintro ⟨L, l, p, b⟩
  exact ⟨_, _, _, rfl⟩
set_option maxHeartbeats 4000000 in
set_option maxRecDepth 100000 in
theorem m_X3_keep : zM yX3_keep cX3_keep 3 none ({ frames := 2, cells := 0, slots := 0, locals := 42 } : Room) ((ca_X3_keep, cp_X3_keep, cq_X3_keep) : zC (zG × Nat × Nat × Bool)) := by
  refine zM_of (by decide) ?_
  rintro X Y ⟨L, l, p, b⟩ h ⟨hL, hp, hn⟩ O E hR
  have B_37 := zr_aload_n (X := X) (Y := Y) (u := 0) (v := 0) O dX3_keep_37 rfl (zr_dup O dX3_keep_38 (zr_gI (ci := 2) (j := 2) O zc_2 (by decide) rfl tw_155 dX3_keep_39 (zr_iconst (x := 1) O dX3_keep_42 rfl (zr_iload_n O dX3_keep_43 rfl (zr_ishl O dX3_keep_44 (zr_ior O dX3_keep_45 (zr_pI (ci := 2) (j := 2) O zc_2 (by decide) rfl rfl rfl tw_155 dX3_keep_46 (zr_aload_n O dX3_keep_49 rfl (zr_aload_n O dX3_keep_50 rfl (zr_gI (ci := 2) (j := 3) O zc_2 (by decide) rfl tw_156 dX3_keep_51 (zr_iconst (x := 1) O dX3_keep_54 rfl (zr_iload_n O dX3_keep_55 rfl (zr_ishl O dX3_keep_56 (zr_iconst (x := (-1)) O dX3_keep_57 rfl (zr_ixor O dX3_keep_58 (zr_iand O dX3_keep_59 (zr_iload_n O dX3_keep_60 rfl (zr_iload_n O dX3_keep_61 rfl (zr_ishl O dX3_keep_62 (zr_ior O dX3_keep_63 (zr_pI (ci := 2) (j := 3) O zc_2 (by decide) rfl rfl rfl tw_156 dX3_keep_64 (zr_return O E (Nat.le_refl _) (Nat.le_refl _) dX3_keep_67))))))))))))))))))))))
  have B_0 := zr_aload_n (X := X) (Y := Y) (u := 0) (v := 0) O dX3_keep_0 rfl (zr_iload_n O dX3_keep_1 rfl (zr_cI (zr_cV (ci := 2) (n := 1) O m_X3_hasHeard (bn_X3_hasHeard _ ⟨rfl, rfl⟩) vw_X3_hasHeard tw_369 rc_X3_hasHeard (zrm hR rfl rfl) dX3_keep_2 (zr_ifne (tgt := 37) O dX3_keep_5 rfl B_37 (zr_aload_n O dX3_keep_8 rfl (zr_gI (ci := 2) (j := 0) O zc_2 (by decide) rfl tw_152 dX3_keep_9 (zr_bipush (x := (28)) O dX3_keep_12 (by decide) (zr_icge (tgt := 37) O dX3_keep_14 rfl B_37 (zr_aload_n O dX3_keep_17 rfl (zr_gS (ci := 2) (j := 1) (off := 1) (t := 1) (n := 28) O zc_2 (by decide) rfl tw_154 dX3_keep_18 (zr_aload_n O dX3_keep_21 rfl (zr_gI (ci := 2) (j := 0) O zc_2 (by decide) rfl tw_152 dX3_keep_22 (zr_iload_n O dX3_keep_25 rfl (zr_iast O dX3_keep_26 (zr_aload_n O dX3_keep_27 rfl (zr_dup O dX3_keep_28 (zr_gI (ci := 2) (j := 0) O zc_2 (by decide) rfl tw_152 dX3_keep_29 (zr_iconst (x := 1) O dX3_keep_32 rfl (zr_iadd O dX3_keep_33 (zr_pI (ci := 2) (j := 0) O zc_2 (by decide) rfl rfl rfl tw_152 dX3_keep_34 (B_37)))))))))))))))))))))
  refine ⟨rfl, Nat.le_of_ble_eq_true rfl, _, B_0, ?_⟩
  obtain ⟨M, V, m1, m2, m3, m4, m5, m6⟩ := id hL.2.2.1
  have hp2 : 2 ^ p < 2 ^ 28 := Nat.pow_lt_pow_right (by omega) hp
  have eM : nI M ||| ((1 : Int32) <<< (nI p &&& 31)) = nI (M ||| 2 ^ p) := by rw [nI_pow (by omega), fa_or]
  have eV : (nI V &&& (((1 : Int32) <<< (nI p &&& 31)) ^^^ (-1))) ||| (bI b <<< (nI p &&& 31)) = nI ((V &&& (2 ^ 28 - 1 - 2 ^ p)) ||| (if b then 2 ^ p else 0)) := by
    rw [nI_pow (by omega), and_not m4 hp]
    cases b with
    | true =>
      show _ ||| ((1 : Int32) <<< (nI p &&& 31)) = _
      rw [nI_pow (by omega), fa_or]
      rfl
    | false =>
      show _ ||| (nI 0 <<< (nI p &&& 31)) = _
      rw [shlI (by omega) (by omega), Nat.zero_mul, fa_or]
      rfl
  have lM : M ||| 2 ^ p < 2 ^ 28 := or_lt m3 hp2
  have lV : (V &&& (2 ^ 28 - 1 - 2 ^ p)) ||| (if b then 2 ^ p else 0) < 2 ^ 28 := or_lt (Nat.lt_of_le_of_lt Nat.and_le_left m4) (by split <;> omega)
  have bM : ∀ q, q < 28 → (M ||| 2 ^ p).testBit q = gH (gkp L p b) q := fun q hq => by rw [bit_or, m5 q hq, gkp_ix.1]
  have bV : ∀ q, q < 28 → gH (gkp L p b) q = true → ((V &&& (2 ^ 28 - 1 - 2 ^ p)) ||| (if b then 2 ^ p else 0)).testBit q = gV (gkp L p b) q := by
    intro q hq hH
    rw [gkp_ix.2 hH, Nat.testBit_or, and_not_bit hp hq]
    have hH2 := gkp_ix (L := L) (p := p) (q := q) (b := b)
    rw [hH] at hH2
    by_cases hqp : q = p
    · subst hqp
      cases b <;> simp
    · have : gH L q = true := by
        have := hH2.1
        simp [hqp] at this
        exact this
      have e0 : (if b = true then 2 ^ p else 0).testBit q = false := by
        cases b
        · simp
        · rw [if_pos rfl, Nat.testBit_two_pow]
          simp
          exact fun z => hqp z.symm
      rw [e0, m6 q hq this, if_neg hqp]
      simp [hqp]
  refine ⟨(L, l, p), rfl, ⟨hL, hp⟩, fun cq => ?_, fun cq => ?_⟩
  · have hH : gH L p = true := by
      cases hz : gH L p with
      | true => rfl
      | false => exact absurd ((bI_0 _).mpr hz) cq
    refine ⟨rfl, ⟨va_up (va_up (h.1 l) 2 (nI (M ||| 2 ^ p))) 3 (nI ((V &&& (2 ^ 28 - 1 - 2 ^ p)) ||| (if b then 2 ^ p else 0))), h.1 (l + 1), ?_⟩, ?_⟩
    · rw [zsW_self, m1, eM, zsI_W, zsI_W, zsW_s, zsW_W, zup_n _ _ (by decide : (3 : Nat) ≠ 2), m2, eV]
    · have eg : gkp L p b = (gN L, gP L, va_up (gB L) (gIx L p) b, gW L) := by rw [gkp, if_pos hH]
      rw [m1, eM, zsI_W, zsI_W, zsW_s, zsW_W, zup_n _ _ (by decide : (3 : Nat) ≠ 2), m2, eV]
      refine ⟨⟨?_, ?_⟩, ?_, ⟨_, _, ?_, ?_, lM, lV, bM, bV⟩, ?_⟩
      · rw [zsW_s, zup_n _ _ (by decide : (0 : Nat) ≠ 3), zup_n _ _ (by decide : (0 : Nat) ≠ 2), eg]; exact hL.1.1
      · rw [eg]; exact hL.1.2
      · rw [eg, zsW_n _ _ (by omega)]; exact hL.2.1
      · rw [zsW_s, zup_n _ _ (by decide : (2 : Nat) ≠ 3), zup_s]
      · rw [zsW_s, zup_s]
      · rw [eg, zsW_n _ _ (by omega)]; exact hL.2.2.2
  · have hH : gH L p = false := (bI_0 _).mp cq
    have hlt : gN L < 28 := by
      rcases hn with z | z
      · rw [hH] at z; cases z
      · exact z
    have eg : gkp L p b = (gN L + 1, va_up (gP L) (gN L) p, va_up (gB L) (gN L) b, gW L) := by rw [gkp, if_neg (by simp [hH])]
    refine ⟨fun dq => ?_, fun dq => ?_⟩
    · rw [hL.1.1] at dq
      exact absurd ((nI_leI (a := 28) (by omega) (by omega)).mp dq) (by omega)
    · refine ⟨gN L, hL.1.1, hlt, rfl, ⟨va_up (va_up (va_up (h.1 l) 0 (nI (gN L) + 1)) 2 (nI (M ||| 2 ^ p))) 3 (nI ((V &&& (2 ^ 28 - 1 - 2 ^ p)) ||| (if b then 2 ^ p else 0))), va_up (h.1 (l + 1)) (gN L) (nI p), ?_⟩, ?_⟩
      · simp only [zsI_W, zsW_W, zsW_s, zsW_n (q := l) (a := l + 1) _ _ (by omega), zup_n _ _ (by decide : (2 : Nat) ≠ 0), zup_n _ _ (by decide : (3 : Nat) ≠ 2), zup_n _ _ (by decide : (3 : Nat) ≠ 0), m1, m2, eM, eV, hL.1.1]
      · simp only [zsI_W, zsW_W, zsW_s, zsW_n (q := l) (a := l + 1) _ _ (by omega), zup_n _ _ (by decide : (2 : Nat) ≠ 0), zup_n _ _ (by decide : (3 : Nat) ≠ 2), zup_n _ _ (by decide : (3 : Nat) ≠ 0), m1, m2, eM, eV, hL.1.1]
        refine ⟨⟨?_, ?_⟩, fun i hi => ?_, ⟨_, _, ?_, ?_, lM, lV, bM, bV⟩, ?_⟩
        · rw [zsW_s, zup_n _ _ (by decide : (0 : Nat) ≠ 3), zup_n _ _ (by decide : (0 : Nat) ≠ 2), zup_s, eg, nI_1]
        · rw [eg]; exact hlt
        · rw [eg] at hi ⊢
          have hi : i < gN L + 1 := hi
          rw [zsW_n _ _ (by omega), zsW_s]
          show va_up (h.1 (l + 1)) (gN L) (nI p) i = nI (va_up (gP L) (gN L) p i) ∧ va_up (gP L) (gN L) p i < 28
          by_cases hi2 : i = gN L
          · rw [hi2, zup_s, zup_s]; exact ⟨rfl, hp⟩
          · rw [zup_n _ _ hi2, zup_n _ _ hi2]; exact hL.2.1 i (by omega)
        · rw [zsW_s, zup_n _ _ (by decide : (2 : Nat) ≠ 3), zup_s]
        · rw [zsW_s, zup_s]
        · rw [eg, zsW_n _ _ (by omega), zsW_n _ _ (by omega)]; exact hL.2.2.2
end
section
theorem dX3_clear_36 : decode cX3_clear 36 = .ok (.return_, 1) := by decide +kernel
theorem dX3_clear_17 : decode cX3_clear 17 = .ok (.iload_n 1, 1) := by decide +kernel
theorem dX3_clear_18 : decode cX3_clear 18 = .ok (.bipush 10, 2) := by decide +kernel
theorem dX3_clear_20 : decode cX3_clear 20 = .ok (.if_icmp .ge 16, 3) := by decide +kernel
theorem dX3_clear_23 : decode cX3_clear 23 = .ok (.aload_n 0, 1) := by decide +kernel
theorem dX3_clear_24 : decode cX3_clear 24 = .ok (.getfield 15, 3) := by decide +kernel
theorem dX3_clear_27 : decode cX3_clear 27 = .ok (.iload_n 1, 1) := by decide +kernel
theorem dX3_clear_28 : decode cX3_clear 28 = .ok (.iconst 0, 1) := by decide +kernel
theorem dX3_clear_29 : decode cX3_clear 29 = .ok (.iastore, 1) := by decide +kernel
theorem dX3_clear_30 : decode cX3_clear 30 = .ok (.iinc 1 1, 3) := by decide +kernel
theorem dX3_clear_33 : decode cX3_clear 33 = .ok (.goto (-16), 3) := by decide +kernel
theorem dX3_clear_0 : decode cX3_clear 0 = .ok (.aload_n 0, 1) := by decide +kernel
theorem dX3_clear_1 : decode cX3_clear 1 = .ok (.iconst 0, 1) := by decide +kernel
theorem dX3_clear_2 : decode cX3_clear 2 = .ok (.putfield 18, 3) := by decide +kernel
theorem dX3_clear_5 : decode cX3_clear 5 = .ok (.aload_n 0, 1) := by decide +kernel
theorem dX3_clear_6 : decode cX3_clear 6 = .ok (.iconst 0, 1) := by decide +kernel
theorem dX3_clear_7 : decode cX3_clear 7 = .ok (.putfield 22, 3) := by decide +kernel
theorem dX3_clear_10 : decode cX3_clear 10 = .ok (.aload_n 0, 1) := by decide +kernel
theorem dX3_clear_11 : decode cX3_clear 11 = .ok (.iconst 0, 1) := by decide +kernel
theorem dX3_clear_12 : decode cX3_clear 12 = .ok (.putfield 25, 3) := by decide +kernel
theorem dX3_clear_15 : decode cX3_clear 15 = .ok (.iconst 0, 1) := by decide +kernel
theorem dX3_clear_16 : decode cX3_clear 16 = .ok (.istore_n 1, 1) := by decide +kernel
theorem dX3_copyFrom_0 : decode cX3_copyFrom 0 = .ok (.aload_n 0, 1) := by decide +kernel
theorem dX3_copyFrom_1 : decode cX3_copyFrom 1 = .ok (.aload_n 1, 1) := by decide +kernel
theorem dX3_copyFrom_2 : decode cX3_copyFrom 2 = .ok (.getfield 18, 3) := by decide +kernel
theorem dX3_copyFrom_5 : decode cX3_copyFrom 5 = .ok (.putfield 18, 3) := by decide +kernel
theorem dX3_copyFrom_8 : decode cX3_copyFrom 8 = .ok (.aload_n 1, 1) := by decide +kernel
theorem dX3_copyFrom_9 : decode cX3_copyFrom 9 = .ok (.getfield 9, 3) := by decide +kernel
theorem dX3_copyFrom_12 : decode cX3_copyFrom 12 = .ok (.iconst 0, 1) := by decide +kernel
theorem dX3_copyFrom_13 : decode cX3_copyFrom 13 = .ok (.aload_n 0, 1) := by decide +kernel
theorem dX3_copyFrom_14 : decode cX3_copyFrom 14 = .ok (.getfield 9, 3) := by decide +kernel
theorem dX3_copyFrom_17 : decode cX3_copyFrom 17 = .ok (.iconst 0, 1) := by decide +kernel
theorem dX3_copyFrom_18 : decode cX3_copyFrom 18 = .ok (.bipush 28, 2) := by decide +kernel
theorem dX3_copyFrom_20 : decode cX3_copyFrom 20 = .ok (.invokestatic 28, 3) := by decide +kernel
theorem dX3_copyFrom_23 : decode cX3_copyFrom 23 = .ok (.aload_n 0, 1) := by decide +kernel
theorem dX3_copyFrom_24 : decode cX3_copyFrom 24 = .ok (.aload_n 1, 1) := by decide +kernel
theorem dX3_copyFrom_25 : decode cX3_copyFrom 25 = .ok (.getfield 22, 3) := by decide +kernel
theorem dX3_copyFrom_28 : decode cX3_copyFrom 28 = .ok (.putfield 22, 3) := by decide +kernel
theorem dX3_copyFrom_31 : decode cX3_copyFrom 31 = .ok (.aload_n 0, 1) := by decide +kernel
theorem dX3_copyFrom_32 : decode cX3_copyFrom 32 = .ok (.aload_n 1, 1) := by decide +kernel
theorem dX3_copyFrom_33 : decode cX3_copyFrom 33 = .ok (.getfield 25, 3) := by decide +kernel
theorem dX3_copyFrom_36 : decode cX3_copyFrom 36 = .ok (.putfield 25, 3) := by decide +kernel
theorem dX3_copyFrom_39 : decode cX3_copyFrom 39 = .ok (.aload_n 1, 1) := by decide +kernel
theorem dX3_copyFrom_40 : decode cX3_copyFrom 40 = .ok (.getfield 15, 3) := by decide +kernel
theorem dX3_copyFrom_43 : decode cX3_copyFrom 43 = .ok (.iconst 0, 1) := by decide +kernel
theorem dX3_copyFrom_44 : decode cX3_copyFrom 44 = .ok (.aload_n 0, 1) := by decide +kernel
theorem dX3_copyFrom_45 : decode cX3_copyFrom 45 = .ok (.getfield 15, 3) := by decide +kernel
theorem dX3_copyFrom_48 : decode cX3_copyFrom 48 = .ok (.iconst 0, 1) := by decide +kernel
theorem dX3_copyFrom_49 : decode cX3_copyFrom 49 = .ok (.bipush 10, 2) := by decide +kernel
theorem dX3_copyFrom_51 : decode cX3_copyFrom 51 = .ok (.invokestatic 28, 3) := by decide +kernel
theorem dX3_copyFrom_54 : decode cX3_copyFrom 54 = .ok (.return_, 1) := by decide +kernel
theorem dX3_learn_96 : decode cX3_learn 96 = .ok (.iload_n 2, 1) := by decide +kernel
theorem dX3_learn_97 : decode cX3_learn 97 = .ok (.ireturn, 1) := by decide +kernel
theorem dX3_learn_90 : decode cX3_learn 90 = .ok (.iinc 3 1, 3) := by decide +kernel
theorem dX3_learn_93 : decode cX3_learn 93 = .ok (.goto (-89), 3) := by decide +kernel
theorem dX3_learn_51 : decode cX3_learn 51 = .ok (.istore 6, 2) := by decide +kernel
theorem dX3_learn_53 : decode cX3_learn 53 = .ok (.aload_n 0, 1) := by decide +kernel
theorem dX3_learn_54 : decode cX3_learn 54 = .ok (.getfield 15, 3) := by decide +kernel
theorem dX3_learn_57 : decode cX3_learn 57 = .ok (.aload_n 1, 1) := by decide +kernel
theorem dX3_learn_58 : decode cX3_learn 58 = .ok (.getfield 42, 3) := by decide +kernel
theorem dX3_learn_61 : decode cX3_learn 61 = .ok (.iload 4, 2) := by decide +kernel
theorem dX3_learn_63 : decode cX3_learn 63 = .ok (.iaload, 1) := by decide +kernel
theorem dX3_learn_64 : decode cX3_learn 64 = .ok (.dup2, 1) := by decide +kernel
theorem dX3_learn_65 : decode cX3_learn 65 = .ok (.iaload, 1) := by decide +kernel
theorem dX3_learn_66 : decode cX3_learn 66 = .ok (.iload 6, 2) := by decide +kernel
theorem dX3_learn_68 : decode cX3_learn 68 = .ok (.iadd, 1) := by decide +kernel
theorem dX3_learn_69 : decode cX3_learn 69 = .ok (.iastore, 1) := by decide +kernel
theorem dX3_learn_70 : decode cX3_learn 70 = .ok (.aload_n 0, 1) := by decide +kernel
theorem dX3_learn_71 : decode cX3_learn 71 = .ok (.getfield 15, 3) := by decide +kernel
theorem dX3_learn_74 : decode cX3_learn 74 = .ok (.aload_n 1, 1) := by decide +kernel
theorem dX3_learn_75 : decode cX3_learn 75 = .ok (.getfield 47, 3) := by decide +kernel
theorem dX3_learn_78 : decode cX3_learn 78 = .ok (.iload 4, 2) := by decide +kernel
theorem dX3_learn_80 : decode cX3_learn 80 = .ok (.iaload, 1) := by decide +kernel
theorem dX3_learn_81 : decode cX3_learn 81 = .ok (.dup2, 1) := by decide +kernel
theorem dX3_learn_82 : decode cX3_learn 82 = .ok (.iaload, 1) := by decide +kernel
theorem dX3_learn_83 : decode cX3_learn 83 = .ok (.iload 6, 2) := by decide +kernel
theorem dX3_learn_85 : decode cX3_learn 85 = .ok (.isub, 1) := by decide +kernel
theorem dX3_learn_86 : decode cX3_learn 86 = .ok (.iastore, 1) := by decide +kernel
theorem dX3_learn_87 : decode cX3_learn 87 = .ok (.iinc 2 1, 3) := by decide +kernel
theorem dX3_learn_50 : decode cX3_learn 50 = .ok (.iconst (-1), 1) := by decide +kernel
theorem dX3_learn_4 : decode cX3_learn 4 = .ok (.iload_n 3, 1) := by decide +kernel
theorem dX3_learn_5 : decode cX3_learn 5 = .ok (.aload_n 0, 1) := by decide +kernel
theorem dX3_learn_6 : decode cX3_learn 6 = .ok (.getfield 18, 3) := by decide +kernel
theorem dX3_learn_9 : decode cX3_learn 9 = .ok (.if_icmp .ge 87, 3) := by decide +kernel
theorem dX3_learn_12 : decode cX3_learn 12 = .ok (.aload_n 0, 1) := by decide +kernel
theorem dX3_learn_13 : decode cX3_learn 13 = .ok (.getfield 9, 3) := by decide +kernel
theorem dX3_learn_16 : decode cX3_learn 16 = .ok (.iload_n 3, 1) := by decide +kernel
theorem dX3_learn_17 : decode cX3_learn 17 = .ok (.iaload, 1) := by decide +kernel
theorem dX3_learn_18 : decode cX3_learn 18 = .ok (.istore 4, 2) := by decide +kernel
theorem dX3_learn_20 : decode cX3_learn 20 = .ok (.aload_n 0, 1) := by decide +kernel
theorem dX3_learn_21 : decode cX3_learn 21 = .ok (.iload 4, 2) := by decide +kernel
theorem dX3_learn_23 : decode cX3_learn 23 = .ok (.invokevirtual 54, 3) := by decide +kernel
theorem dX3_learn_26 : decode cX3_learn 26 = .ok (.istore 5, 2) := by decide +kernel
theorem dX3_learn_28 : decode cX3_learn 28 = .ok (.aload_n 0, 1) := by decide +kernel
theorem dX3_learn_29 : decode cX3_learn 29 = .ok (.aload_n 1, 1) := by decide +kernel
theorem dX3_learn_30 : decode cX3_learn 30 = .ok (.iload 4, 2) := by decide +kernel
theorem dX3_learn_32 : decode cX3_learn 32 = .ok (.invokevirtual 58, 3) := by decide +kernel
theorem dX3_learn_35 : decode cX3_learn 35 = .ok (.iload 5, 2) := by decide +kernel
theorem dX3_learn_37 : decode cX3_learn 37 = .ok (.if_icmp .eq 53, 3) := by decide +kernel
theorem dX3_learn_40 : decode cX3_learn 40 = .ok (.iload 5, 2) := by decide +kernel
theorem dX3_learn_42 : decode cX3_learn 42 = .ok (.iconst 1, 1) := by decide +kernel
theorem dX3_learn_43 : decode cX3_learn 43 = .ok (.if_icmp .ne 7, 3) := by decide +kernel
theorem dX3_learn_46 : decode cX3_learn 46 = .ok (.iconst 1, 1) := by decide +kernel
theorem dX3_learn_47 : decode cX3_learn 47 = .ok (.goto 4, 3) := by decide +kernel
theorem dX3_learn_0 : decode cX3_learn 0 = .ok (.iconst 0, 1) := by decide +kernel
theorem dX3_learn_1 : decode cX3_learn 1 = .ok (.istore_n 2, 1) := by decide +kernel
theorem dX3_learn_2 : decode cX3_learn 2 = .ok (.iconst 0, 1) := by decide +kernel
theorem dX3_learn_3 : decode cX3_learn 3 = .ok (.istore_n 3, 1) := by decide +kernel
theorem dX3_putInto_41 : decode cX3_putInto 41 = .ok (.return_, 1) := by decide +kernel
theorem dX3_putInto_6 : decode cX3_putInto 6 = .ok (.iload_n 3, 1) := by decide +kernel
theorem dX3_putInto_7 : decode cX3_putInto 7 = .ok (.aload_n 0, 1) := by decide +kernel
theorem dX3_putInto_8 : decode cX3_putInto 8 = .ok (.getfield 18, 3) := by decide +kernel
theorem dX3_putInto_11 : decode cX3_putInto 11 = .ok (.if_icmp .ge 30, 3) := by decide +kernel
theorem dX3_putInto_14 : decode cX3_putInto 14 = .ok (.aload_n 1, 1) := by decide +kernel
theorem dX3_putInto_15 : decode cX3_putInto 15 = .ok (.aload_n 2, 1) := by decide +kernel
theorem dX3_putInto_16 : decode cX3_putInto 16 = .ok (.aload_n 0, 1) := by decide +kernel
theorem dX3_putInto_17 : decode cX3_putInto 17 = .ok (.getfield 9, 3) := by decide +kernel
theorem dX3_putInto_20 : decode cX3_putInto 20 = .ok (.iload_n 3, 1) := by decide +kernel
theorem dX3_putInto_21 : decode cX3_putInto 21 = .ok (.iaload, 1) := by decide +kernel
theorem dX3_putInto_22 : decode cX3_putInto 22 = .ok (.aload_n 0, 1) := by decide +kernel
theorem dX3_putInto_23 : decode cX3_putInto 23 = .ok (.aload_n 0, 1) := by decide +kernel
theorem dX3_putInto_24 : decode cX3_putInto 24 = .ok (.getfield 9, 3) := by decide +kernel
theorem dX3_putInto_27 : decode cX3_putInto 27 = .ok (.iload_n 3, 1) := by decide +kernel
theorem dX3_putInto_28 : decode cX3_putInto 28 = .ok (.iaload, 1) := by decide +kernel
theorem dX3_putInto_29 : decode cX3_putInto 29 = .ok (.invokevirtual 54, 3) := by decide +kernel
theorem dX3_putInto_32 : decode cX3_putInto 32 = .ok (.invokevirtual 67, 3) := by decide +kernel
theorem dX3_putInto_35 : decode cX3_putInto 35 = .ok (.iinc 3 1, 3) := by decide +kernel
theorem dX3_putInto_38 : decode cX3_putInto 38 = .ok (.goto (-32), 3) := by decide +kernel
theorem dX3_putInto_0 : decode cX3_putInto 0 = .ok (.aload_n 1, 1) := by decide +kernel
theorem dX3_putInto_1 : decode cX3_putInto 1 = .ok (.invokevirtual 62, 3) := by decide +kernel
theorem dX3_putInto_4 : decode cX3_putInto 4 = .ok (.iconst 0, 1) := by decide +kernel
theorem dX3_putInto_5 : decode cX3_putInto 5 = .ok (.istore_n 3, 1) := by decide +kernel
/-! only rows from a on, n of them, have changed -/
def sm (a n : Nat) (h h' : zH) : Prop := (∀ q, q < a ∨ a + n ≤ q → h'.1 q = h.1 q) ∧ h'.2 = h.2
theorem sm_refl (a n : Nat) (h : zH) : sm a n h h := ⟨fun _ _ => rfl, rfl⟩
theorem sm_W {a n q : Nat} (h : zH) (f : Nat → Int32) (h1 : a ≤ q) (h2 : q < a + n) : sm a n h (zsW h q f) := ⟨fun r hr => zsW_n _ _ (by omega), rfl⟩
theorem sm_I {a n q j : Nat} (h : zH) (x : Int32) (h1 : a ≤ q) (h2 : q < a + n) : sm a n h (zsI h q j x) := sm_W h _ h1 h2
theorem sm_tr {a n : Nat} {h h1 h2 : zH} (s1 : sm a n h h1) (s2 : sm a n h1 h2) : sm a n h h2 := ⟨fun q hq => (s2.1 q hq).trans (s1.1 q hq), s2.2.trans s1.2⟩
theorem sm_mo {a n a' n' : Nat} {h h1 : zH} (s : sm a n h h1) (h1' : a' ≤ a) (h2 : a + n ≤ a' + n') : sm a' n' h h1 := ⟨fun q hq => s.1 q (by omega), s.2⟩
theorem rpS_sm {S : zD} {h h' : zH} {a b n : Nat} (s : sm b n h h') (hd : a + 7 ≤ b ∨ b + n ≤ a) (hS : rpS S h a) : rpS S h' a := rpS_cg (fun k hk => s.1 _ (by omega)) hS
theorem rpL_sm {L : zG} {h h' : zH} {a b n : Nat} (s : sm b n h h') (hd : a + 3 ≤ b ∨ b + n ≤ a) (hL : rpL L h a) : rpL L h' a := rpL_cg (s.1 _ (by omega)) (s.1 _ (by omega)) (s.1 _ (by omega)) hL
theorem rpO_sm {B : Nat → Nat} {h h' : zH} {a b n : Nat} (s : sm b n h h') (hd : a + 2 ≤ b ∨ b + n ≤ a) (hB : rpO B h a) : rpO B h' a := by
  intro i hi
  rw [s.1 _ (by omega)]
  exact hB i hi
theorem oW_sm {B : Nat → Nat} {h h' : zH} {o : Nat} (hw : oW B h o h') : sm o 2 h h' := by
  obtain ⟨f, rfl, -⟩ := hw
  exact sm_W _ _ (by omega) (by omega)
/-- no one has listened -/
def gZ : zG := (0, fun _ => 0, fun _ => false, fun _ => 0)
theorem gZ_H (p : Nat) : gH gZ p = false := rfl
theorem rpL_of {L : zG} {h : zH} {l : Nat} (r0 r1 r2 : Nat → Int32) (e0 : h.1 l = r0) (e1 : h.1 (l + 1) = r1) (e2 : h.1 (l + 2) = r2) (hL : (r0 0 = nI (gN L) ∧ gN L ≤ 28) ∧ (∀ i, i < gN L → r1 i = nI (gP L i) ∧ gP L i < 28) ∧ (∃ M V : Nat, r0 2 = nI M ∧ r0 3 = nI V ∧ M < 2 ^ 28 ∧ V < 2 ^ 28 ∧ (∀ p, p < 28 → M.testBit p = gH L p) ∧ ∀ p, p < 28 → gH L p = true → V.testBit p = gV L p) ∧ ∀ r, r < 10 → r2 r = gW L r) : rpL L h l := by
  unfold rpL
  rw [e0, e1, e2]
  exact hL
def ca_X3_clear : (Nat) → List zV := fun l => [vR 12 0 l]
def cp_X3_clear : (Nat) → zH → Prop := fun _ _ => True
def cq_X3_clear : (Nat) → zH → Option zV → zH → Prop := fun l h r h' => r = none ∧ sm l 3 h h' ∧ rpL gZ h' l
theorem rc_X3_clear : ∀ x : (Nat), ∃ (j a : Nat) (As : List zV), ca_X3_clear x = vR (10 + 2) j a :: As := by
  rintro l
  exact ⟨_, _, _, rfl⟩
set_option maxHeartbeats 4000000 in
set_option maxRecDepth 100000 in
theorem m_X3_clear : zM yX3_clear cX3_clear 2 none ({ frames := 0, cells := 0, slots := 0, locals := 0 } : Room) ((ca_X3_clear, cp_X3_clear, cq_X3_clear) : zC (Nat)) := by
  refine zM_of (by decide) ?_
  rintro X Y l h _ O E hR
  have B_36 := zr_return (X := X) (Y := Y) (u := 0) (v := 0) O E (Nat.le_refl _) (Nat.le_refl _) dX3_clear_36
  have L_17 : ∀ nn : Nat, zSd X Y 0 0 17 ((fun k ls st h1 => ∃ (i : Nat) (z : Int32) (f g : Nat → Int32), k = 10 - i ∧ i ≤ 10 ∧ ls = [some (vR 12 0 l), some (vI z)] ∧ z = nI i ∧ st = [] ∧ h1 = zsW (zsW h l g) (l + 2) f ∧ (∀ j, j < i → f j = 0) ∧ g 0 = 0 ∧ g 2 = 0 ∧ g 3 = 0 : Nat → zT) nn) := by
    refine zSd_loop (fun nn ih => ?_)
    have B_17 := zr_iload_n (X := X) (Y := Y) (u := 0) (v := 0) O dX3_clear_17 rfl (zr_bipush (x := (10)) O dX3_clear_18 (by decide) (zr_icge (tgt := 36) O dX3_clear_20 rfl B_36 (zr_aload_n O dX3_clear_23 rfl (zr_gS (ci := 2) (j := 4) (off := 2) (t := 1) (n := 10) O zc_2 (by decide) rfl tw_157 dX3_clear_24 (zr_iload_n O dX3_clear_27 rfl (zr_iconst (x := 0) O dX3_clear_28 rfl (zr_iast O dX3_clear_29 (zr_iinc (c := 1) O dX3_clear_30 rfl (zr_goto (tgt := 17) O dX3_clear_33 rfl ih)))))))))
    refine zSd_weak B_17 (fun ls st h1 t => ?_)
    obtain ⟨i, z, f, g, rfl, hi, rfl, rfl, rfl, rfl, hf, g0, g2, g3⟩ := t
    refine ⟨fun cq => ⟨rfl, sm_tr (sm_W _ _ (by omega) (by omega)) (sm_W _ _ (by omega) (by omega)), ?_⟩, fun cq => ?_⟩
    · have := (nI_leI (a := 10) (by omega) (by omega)).mp cq
      refine rpL_of g (h.1 (l + 1)) f (by rw [zsW_n _ _ (by omega), zsW_s]) (by rw [zsW_n _ _ (by omega), zsW_n _ _ (by omega)]) (by rw [zsW_s]) ⟨⟨g0, by decide⟩, fun i hi => absurd hi (Nat.not_lt_zero _), ⟨0, 0, g2, g3, by decide, by decide, fun p _ => by rw [Nat.zero_testBit]; rfl, fun p _ hp => by cases hp⟩, fun r hr => hf r (by omega)⟩
    · have hi2 : i < 10 := Nat.not_le.mp (fun z => cq ((nI_leI (a := 10) (by omega) (by omega)).mpr z))
      refine ⟨i, rfl, hi2, 10 - (i + 1), by omega, i + 1, _, va_up f i 0, g, rfl, by omega, rfl, nI_1 i, rfl, ?_, ?_, g0, g2, g3⟩
      · rw [zsI_W, zsW_s, zsW_W]
      · intro j hj
        by_cases hji : j = i
        · rw [hji, zup_s]
        · rw [zup_n _ _ hji]
          exact hf j (by omega)
  have B_17 := zSd_any L_17
  have B_0 := zr_aload_n (X := X) (Y := Y) (u := 0) (v := 0) O dX3_clear_0 rfl (zr_iconst (x := 0) O dX3_clear_1 rfl (zr_pI (ci := 2) (j := 0) O zc_2 (by decide) rfl rfl rfl tw_152 dX3_clear_2 (zr_aload_n O dX3_clear_5 rfl (zr_iconst (x := 0) O dX3_clear_6 rfl (zr_pI (ci := 2) (j := 2) O zc_2 (by decide) rfl rfl rfl tw_155 dX3_clear_7 (zr_aload_n O dX3_clear_10 rfl (zr_iconst (x := 0) O dX3_clear_11 rfl (zr_pI (ci := 2) (j := 3) O zc_2 (by decide) rfl rfl rfl tw_156 dX3_clear_12 (zr_iconst (x := 0) O dX3_clear_15 rfl (zr_istore_n O dX3_clear_16 rfl (B_17)))))))))))
  refine ⟨rfl, Nat.le_of_ble_eq_true rfl, _, B_0, ?_⟩
  refine ⟨10 - 0, 0, _, h.1 (l + 2), va_up (va_up (va_up (h.1 l) 0 0) 2 0) 3 0, rfl, Nat.zero_le _, rfl, rfl, rfl, ?_, fun j hj => absurd hj (by omega), ?_, ?_, ?_⟩
  · simp only [zsI_W, zsW_W, zsW_s]
    rw [← zsW_n (q := l + 2) (a := l) h (va_up (va_up (va_up (h.1 l) 0 0) 2 0) 3 0) (by omega), zsW_self]
  · rfl
  · rfl
  · rfl
def ca_X3_copyFrom : (zG × Nat × Nat) → List zV := fun (L, l, q) => [vR 12 0 l, vR 12 0 q]
def cp_X3_copyFrom : (zG × Nat × Nat) → zH → Prop := fun (L, l, q) h => rpL L h q ∧ (l + 3 ≤ q ∨ q + 3 ≤ l)
def cq_X3_copyFrom : (zG × Nat × Nat) → zH → Option zV → zH → Prop := fun (L, l, q) h r h' => r = none ∧ sm l 3 h h' ∧ rpL L h' l
theorem rc_X3_copyFrom : ∀ x : (zG × Nat × Nat), ∃ (j a : Nat) (As : List zV), ca_X3_copyFrom x = vR (10 + 2) j a :: As := by
  rintro ⟨L, l, q⟩
  exact ⟨_, _, _, rfl⟩
set_option maxHeartbeats 4000000 in
set_option maxRecDepth 100000 in
theorem m_X3_copyFrom : zM yX3_copyFrom cX3_copyFrom 2 none ({ frames := 1, cells := 0, slots := 0, locals := 60 } : Room) ((ca_X3_copyFrom, cp_X3_copyFrom, cq_X3_copyFrom) : zC (zG × Nat × Nat)) := by
  refine zM_of (by decide) ?_
  rintro X Y ⟨L, l, q⟩ h ⟨hL, hd⟩ O E hR
  have B_0 := zr_aload_n (X := X) (Y := Y) (u := 0) (v := 0) O dX3_copyFrom_0 rfl (zr_aload_n O dX3_copyFrom_1 rfl (zr_gI (ci := 2) (j := 0) O zc_2 (by decide) rfl tw_152 dX3_copyFrom_2 (zr_pI (ci := 2) (j := 0) O zc_2 (by decide) rfl rfl rfl tw_152 dX3_copyFrom_5 (zr_aload_n O dX3_copyFrom_8 rfl (zr_gS (ci := 2) (j := 1) (off := 1) (t := 1) (n := 28) O zc_2 (by decide) rfl tw_154 dX3_copyFrom_9 (zr_iconst (x := 0) O dX3_copyFrom_12 rfl (zr_aload_n O dX3_copyFrom_13 rfl (zr_gS (ci := 2) (j := 1) (off := 1) (t := 1) (n := 28) O zc_2 (by decide) rfl tw_154 dX3_copyFrom_14 (zr_iconst (x := 0) O dX3_copyFrom_17 rfl (zr_bipush (x := (28)) O dX3_copyFrom_18 (by decide) (zr_cpy O tw_417 zwc ⟨(zrm (a := 1) (b := 60) hR rfl rfl).1, Nat.le_trans zwn (zrm (a := 1) (b := 60) hR rfl rfl).2.1⟩ dX3_copyFrom_20 (zr_aload_n O dX3_copyFrom_23 rfl (zr_aload_n O dX3_copyFrom_24 rfl (zr_gI (ci := 2) (j := 2) O zc_2 (by decide) rfl tw_155 dX3_copyFrom_25 (zr_pI (ci := 2) (j := 2) O zc_2 (by decide) rfl rfl rfl tw_155 dX3_copyFrom_28 (zr_aload_n O dX3_copyFrom_31 rfl (zr_aload_n O dX3_copyFrom_32 rfl (zr_gI (ci := 2) (j := 3) O zc_2 (by decide) rfl tw_156 dX3_copyFrom_33 (zr_pI (ci := 2) (j := 3) O zc_2 (by decide) rfl rfl rfl tw_156 dX3_copyFrom_36 (zr_aload_n O dX3_copyFrom_39 rfl (zr_gS (ci := 2) (j := 4) (off := 2) (t := 1) (n := 10) O zc_2 (by decide) rfl tw_157 dX3_copyFrom_40 (zr_iconst (x := 0) O dX3_copyFrom_43 rfl (zr_aload_n O dX3_copyFrom_44 rfl (zr_gS (ci := 2) (j := 4) (off := 2) (t := 1) (n := 10) O zc_2 (by decide) rfl tw_157 dX3_copyFrom_45 (zr_iconst (x := 0) O dX3_copyFrom_48 rfl (zr_bipush (x := (10)) O dX3_copyFrom_49 (by decide) (zr_cpy O tw_417 zwc ⟨(zrm (a := 1) (b := 60) hR rfl rfl).1, Nat.le_trans zwn (zrm (a := 1) (b := 60) hR rfl rfl).2.1⟩ dX3_copyFrom_51 (zr_return O E (Nat.le_refl _) (Nat.le_refl _) dX3_copyFrom_54))))))))))))))))))))))))))))
  refine ⟨rfl, Nat.le_of_ble_eq_true rfl, _, B_0, ?_⟩
  have hL : rpL L h q := hL
  refine ⟨rfl, rfl, 28, rfl, by decide, by decide, rfl, rfl, 10, rfl, by decide, by decide, rfl, ?_, ?_⟩
  · simp only [zsI_W]
    exact sm_tr (sm_tr (sm_tr (sm_tr (sm_W _ _ (by omega) (by omega)) (sm_W _ _ (by omega) (by omega))) (sm_W _ _ (by omega) (by omega))) (sm_W _ _ (by omega) (by omega))) (sm_W _ _ (by omega) (by omega))
  · have e1 : q ≠ l := by omega
    have e2 : q ≠ l + 1 := by omega
    have e3 : q ≠ l + 2 := by omega
    have e4 : q + 1 ≠ l := by omega
    have e5 : q + 1 ≠ l + 1 := by omega
    have e6 : q + 1 ≠ l + 2 := by omega
    have e7 : q + 2 ≠ l := by omega
    have e8 : q + 2 ≠ l + 1 := by omega
    have e9 : q + 2 ≠ l + 2 := by omega
    obtain ⟨⟨n1, n2⟩, p1, ⟨M, V, m1, m2, m3⟩, w1⟩ := hL
    refine rpL_of (va_up (va_up (va_up (h.1 l) 0 (h.1 q 0)) 2 (h.1 q 2)) 3 (h.1 q 3)) (fun i => if i < 28 then h.1 (q + 1) i else h.1 (l + 1) i) (fun i => if i < 10 then h.1 (q + 2) i else h.1 (l + 2) i) ?_ ?_ ?_ ⟨⟨n1, n2⟩, fun i hi => ?_, ⟨M, V, m1, m2, m3⟩, fun r hr => ?_⟩
    · simp only [zsI_W, zsW_s, zsW_n (q := l) (a := l + 1) _ _ (by omega), zsW_n (q := l) (a := l + 2) _ _ (by omega), zsW_n _ _ e1, zsW_n _ _ e2]
    · simp only [zsI_W, zsW_s, zsW_n (q := l + 1) (a := l) _ _ (by omega), zsW_n (q := l + 1) (a := l + 2) _ _ (by omega), zsW_n _ _ e4, zsW_n _ _ e5]
    · simp only [zsI_W, zsW_s, zsW_n (q := l + 2) (a := l) _ _ (by omega), zsW_n (q := l + 2) (a := l + 1) _ _ (by omega), zsW_n _ _ e7, zsW_n _ _ e8]
    · rw [if_pos (by omega)]
      exact p1 i hi
    · rw [if_pos hr]
      exact w1 r hr
/-- an epoch -/
def lst (W : Nat → Int32) (f s : Nat) (x : Int32) : Nat → Int32 := va_up (va_up W f (W f + x)) s (va_up W f (W f + x) s - x)
def lrn (S : zD) (L : zG) : Nat → (Nat → Int32) × Nat
  | 0 => (gW L, 0)
  | i + 1 => if gss S (lrn S L i).1 (gP L i) = bI (gB L i) then lrn S L i else (lst (lrn S L i).1 (dF S (gP L i)) (dS S (gP L i)) (if gB L i then 1 else -1), (lrn S L i).2 + 1)
theorem lrn_le (S : zD) (L : zG) : ∀ i, (lrn S L i).2 ≤ i
  | 0 => Nat.le_refl _
  | i + 1 => by
    have := lrn_le S L i
    unfold lrn
    split
    · omega
    · show (lrn S L i).2 + 1 ≤ i + 1
      omega
theorem lst_cg {W V : Nat → Int32} {f s : Nat} {x : Int32} (hf : f < 10) (hs : s < 10) (h : ∀ r, r < 10 → V r = W r) : ∀ r, r < 10 → lst V f s x r = lst W f s x r := by
  intro r hr
  have h1 : ∀ r, r < 10 → va_up V f (V f + x) r = va_up W f (W f + x) r := by
    intro r hr
    by_cases e : r = f
    · rw [e, zup_s, zup_s, h f hf]
    · rw [zup_n _ _ e, zup_n _ _ e, h r hr]
  unfold lst
  by_cases e : r = s
  · rw [e, zup_s, zup_s, h1 s hs]
  · rw [zup_n _ _ e, zup_n _ _ e, h1 r hr]
theorem gss_cg {S : zD} {W V : Nat → Int32} {p : Nat} (hf : dF S p < 10) (hs : dS S p < 10) (h : ∀ r, r < 10 → V r = W r) : gss S V p = gss S W p := by
  unfold gss
  rw [h _ hf, h _ hs]
def ca_X3_learn : (zD × zG × Nat × Nat) → List zV := fun (S, L, l, a) => [vR 12 0 l, vR 15 0 a]
def cp_X3_learn : (zD × zG × Nat × Nat) → zH → Prop := fun (S, L, l, a) h => rpL L h l ∧ gInj L ∧ rpS S h a ∧ (∀ i, i < gN L → gP L i < dP S) ∧ (l + 3 ≤ a ∨ a + 7 ≤ l)
def cq_X3_learn : (zD × zG × Nat × Nat) → zH → Option zV → zH → Prop := fun (S, L, l, a) h r h' => r = some (vI (nI (lrn S L (gN L)).2)) ∧ ∃ f : Nat → Int32, h' = zsW h (l + 2) f ∧ ∀ r, r < 10 → f r = (lrn S L (gN L)).1 r
theorem rc_X3_learn : ∀ x : (zD × zG × Nat × Nat), ∃ (j a : Nat) (As : List zV), ca_X3_learn x = vR (10 + 2) j a :: As := by
  rintro ⟨S, L, l, a⟩
  exact ⟨_, _, _, rfl⟩
set_option maxHeartbeats 4000000 in
set_option maxRecDepth 100000 in
theorem m_X3_learn : zM yX3_learn cX3_learn 7 (some .int) ({ frames := 3, cells := 0, slots := 0, locals := 63 } : Room) ((ca_X3_learn, cp_X3_learn, cq_X3_learn) : zC (zD × zG × Nat × Nat)) := by
  refine zM_of (by decide) ?_
  rintro X Y ⟨S, L, l, a⟩ h ⟨hL, hj, hS, hP, hd⟩ O E hR
  have B_96 := zr_iload_n (X := X) (Y := Y) (u := 0) (v := 0) O dX3_learn_96 rfl (zr_ireturn O E (Nat.le_refl _) (Nat.le_refl _) dX3_learn_97)
  have L_4 : ∀ nn : Nat, zSd X Y 0 0 4 ((fun k ls st h1 => ∃ (i : Nat) (z w : Int32) (f : Nat → Int32) (y4 y5 y6 : Option zV), k = gN L - i ∧ i ≤ gN L ∧ ls = [some (vR 12 0 l), some (vR 15 0 a), some (vI w), some (vI z), y4, y5, y6] ∧ z = nI i ∧ w = nI (lrn S L i).2 ∧ st = [] ∧ h1 = zsW h (l + 2) f ∧ ∀ r, r < 10 → f r = (lrn S L i).1 r : Nat → zT) nn) := by
    refine zSd_loop (fun nn ih => ?_)
    have B_90 := zr_iinc (X := X) (Y := Y) (u := 0) (v := 0) (c := 1) O dX3_learn_90 rfl (zr_goto (tgt := 4) O dX3_learn_93 rfl ih)
    have B_51 := zr_istore (X := X) (Y := Y) (u := 0) (v := 0) O dX3_learn_51 (zr_aload_n O dX3_learn_53 rfl (zr_gS (ci := 2) (j := 4) (off := 2) (t := 1) (n := 10) O zc_2 (by decide) rfl tw_157 dX3_learn_54 (zr_aload_n O dX3_learn_57 rfl (zr_gS (ci := 5) (j := 5) (off := 4) (t := 1) (n := 28) O zc_5 (by decide) rfl tw_64 dX3_learn_58 (zr_iload O dX3_learn_61 (zr_iald O dX3_learn_63 (zr_dup2 O dX3_learn_64 (zr_iald O dX3_learn_65 (zr_iload O dX3_learn_66 (zr_iadd O dX3_learn_68 (zr_iast O dX3_learn_69 (zr_aload_n O dX3_learn_70 rfl (zr_gS (ci := 2) (j := 4) (off := 2) (t := 1) (n := 10) O zc_2 (by decide) rfl tw_157 dX3_learn_71 (zr_aload_n O dX3_learn_74 rfl (zr_gS (ci := 5) (j := 6) (off := 5) (t := 1) (n := 28) O zc_5 (by decide) rfl tw_71 dX3_learn_75 (zr_iload O dX3_learn_78 (zr_iald O dX3_learn_80 (zr_dup2 O dX3_learn_81 (zr_iald O dX3_learn_82 (zr_iload O dX3_learn_83 (zr_isub O dX3_learn_85 (zr_iast O dX3_learn_86 (zr_iinc (c := 1) O dX3_learn_87 rfl (B_90))))))))))))))))))))))))
    have B_50 := zr_iconst (X := X) (Y := Y) (u := 0) (v := 0) (x := (-1)) O dX3_learn_50 rfl (B_51)
    have B_4 := zr_iload_n (X := X) (Y := Y) (u := 0) (v := 0) O dX3_learn_4 rfl (zr_aload_n O dX3_learn_5 rfl (zr_gI (ci := 2) (j := 0) O zc_2 (by decide) rfl tw_152 dX3_learn_6 (zr_icge (tgt := 96) O dX3_learn_9 rfl B_96 (zr_aload_n O dX3_learn_12 rfl (zr_gS (ci := 2) (j := 1) (off := 1) (t := 1) (n := 28) O zc_2 (by decide) rfl tw_154 dX3_learn_13 (zr_iload_n O dX3_learn_16 rfl (zr_iald O dX3_learn_17 (zr_istore O dX3_learn_18 (zr_aload_n O dX3_learn_20 rfl (zr_iload O dX3_learn_21 (zr_cI (zr_cV (ci := 2) (n := 1) O m_X3_heardBitOf (bn_X3_heardBitOf _ ⟨rfl, rfl⟩) vw_X3_heardBitOf tw_365 rc_X3_heardBitOf (zrm hR rfl rfl) dX3_learn_23 (zr_istore O dX3_learn_26 (zr_aload_n O dX3_learn_28 rfl (zr_aload_n O dX3_learn_29 rfl (zr_iload O dX3_learn_30 (zr_cI (zr_cV (ci := 2) (n := 2) O m_X3_guessOf (bn_X3_guessOf _ ⟨rfl, rfl⟩) vw_X3_guessOf tw_847 rc_X3_guessOf (zrm hR rfl rfl) dX3_learn_32 (zr_iload O dX3_learn_35 (zr_iceq (tgt := 90) O dX3_learn_37 rfl B_90 (zr_iload O dX3_learn_40 (zr_iconst (x := 1) O dX3_learn_42 rfl (zr_icne (tgt := 50) O dX3_learn_43 rfl B_50 (zr_iconst (x := 1) O dX3_learn_46 rfl (zr_goto (tgt := 51) O dX3_learn_47 rfl B_51)))))))))))))))))))))))))
    refine zSd_weak B_4 (fun ls st h1 t => ?_)
    obtain ⟨i, z, w, f, y4, y5, y6, rfl, hi, rfl, rfl, rfl, rfl, rfl, hf⟩ := t
    have hL : rpL L h l := hL
    have hS : rpS S h a := hS
    have hn : (zsW h (l + 2) f).1 l 0 = nI (gN L) := by rw [zsW_n _ _ (by omega)]; exact hL.1.1
    have h28 := hL.1.2
    refine ⟨fun cq => ?_, fun cq => ?_⟩
    · have cq : nI (gN L) ≤ nI i := by rw [← hn]; exact cq
      have := (nI_leI (by omega) (by omega)).mp cq
      have hii : i = gN L := by omega
      subst hii
      exact ⟨rfl, f, rfl, hf⟩
    · have hi2 : i < gN L := Nat.not_le.mp (fun z => cq (by rw [hn]; exact (nI_leI (by omega) (by omega)).mpr z))
      obtain ⟨q1, q2⟩ := hL.2.1 i hi2
      have q3 := hP i hi2
      obtain ⟨q4, q5⟩ := gIx_at hj hi2
      have hL2 : rpL (gN L, gP L, gB L, (lrn S L i).1) (zsW h (l + 2) f) l := by
        refine rpL_of (h.1 l) (h.1 (l + 1)) f (zsW_n _ _ (by omega)) (zsW_n _ _ (by omega)) (zsW_s _ _ _) ⟨hL.1, hL.2.1, hL.2.2.1, hf⟩
      have hS2 : rpS S (zsW h (l + 2) f) a := rpS_fr (by omega) hS
      obtain ⟨⟨f1, f2⟩, s1, s2⟩ := hS.2.2.2.1 _ q3
      have hN := hS.1.2
      have hF10 : dF S (gP L i) < 10 := by omega
      have hS10 : dS S (gP L i) < 10 := by omega
      have e1 : (zsW h (l + 2) f).1 (l + 1) i = nI (gP L i) := by rw [zsW_n _ _ (by omega)]; exact q1
      have eD : ghb (gN L, gP L, gB L, (lrn S L i).1) (gP L i) = bI (gB L i) := by
        show (if gH L (gP L i) = true then bI (gV L (gP L i)) else -1) = _
        rw [if_pos q5, gV, q4]
      have eF : (zsW h (l + 2) f).1 (a + 4) (gP L i) = nI (dF S (gP L i)) := by rw [zsW_n _ _ (by omega)]; exact f1
      have eS : (zsW h (l + 2) f).1 (a + 5) (gP L i) = nI (dS S (gP L i)) := by rw [zsW_n _ _ (by omega)]; exact s1
      have hle := lrn_le S L i
      refine ⟨i, rfl, by omega, ((gN L, gP L, gB L, (lrn S L i).1), l, gP L i), by rw [e1]; rfl, ⟨hL2, q2⟩, (S, (gN L, gP L, gB L, (lrn S L i).1), l, a, gP L i), by rw [e1]; rfl, ⟨hS2, fun r hr => hL2.2.2.2 r hr, q3⟩, fun dq => ?_, fun dq => ?_⟩
      · have eq2 : gss S (lrn S L i).1 (gP L i) = bI (gB L i) := by rw [← eD]; exact dq
        have e3 : lrn S L (i + 1) = lrn S L i := by rw [lrn, if_pos eq2]
        exact ⟨gN L - (i + 1), by omega, i + 1, _, _, f, _, _, _, rfl, by omega, rfl, nI_1 i, by rw [e3], rfl, rfl, by rw [e3]; exact hf⟩
      · have ne2 : ¬ gss S (lrn S L i).1 (gP L i) = bI (gB L i) := by rw [← eD]; exact dq
        have e3 : lrn S L (i + 1) = (lst (lrn S L i).1 (dF S (gP L i)) (dS S (gP L i)) (if gB L i then 1 else -1), (lrn S L i).2 + 1) := by rw [lrn, if_neg ne2]
        have eS2 : ∀ g : Nat → Int32, (zsW h (l + 2) g).1 (a + 5) (gP L i) = nI (dS S (gP L i)) := fun g => by rw [zsW_n _ _ (by omega)]; exact s1
        have hp28 : gP L i < 28 := q2
        have fin : ∀ x : Int32, x = (if gB L i then 1 else -1) → ∀ r, r < 10 → lst f (dF S (gP L i)) (dS S (gP L i)) x r = (lrn S L (i + 1)).1 r := by
          intro x hx r hr
          rw [e3, hx]
          exact lst_cg hF10 hS10 hf r hr
        refine ⟨fun eq => ?_, fun eq => ?_⟩
        · have hb : gB L i = false := by
            cases hz : gB L i with
            | false => rfl
            | true => exact absurd (eD.trans (by rw [hz]; rfl)) eq
          refine ⟨_, e1, hp28, _, eF, hF10, _, eF, hF10, _, (by exact e1), hp28, _, (by simp only [zsI_W, zsW_W]; exact eS2 _), hS10, _, (by simp only [zsI_W, zsW_W]; exact eS2 _), hS10, gN L - (i + 1), by omega, i + 1, _, _, lst f (dF S (gP L i)) (dS S (gP L i)) (-1), _, _, _, rfl, by omega, rfl, nI_1 i, ?_, rfl, ?_, fin _ (by rw [hb]; rfl)⟩
          · rw [e3, nI_1]
          · simp only [zsI_W, zsW_s, zsW_W]; rfl
        · have hb : gB L i = true := by
            cases hz : gB L i with
            | true => rfl
            | false => exact absurd (eq.symm.trans (eD.trans (by rw [hz]))) (by decide)
          refine ⟨_, e1, hp28, _, eF, hF10, _, eF, hF10, _, (by exact e1), hp28, _, (by simp only [zsI_W, zsW_W]; exact eS2 _), hS10, _, (by simp only [zsI_W, zsW_W]; exact eS2 _), hS10, gN L - (i + 1), by omega, i + 1, _, _, lst f (dF S (gP L i)) (dS S (gP L i)) 1, _, _, _, rfl, by omega, rfl, nI_1 i, ?_, rfl, ?_, fin _ (by rw [hb]; rfl)⟩
          · rw [e3, nI_1]
          · simp only [zsI_W, zsW_s, zsW_W]; rfl
  have B_4 := zSd_any L_4
  have B_0 := zr_iconst (X := X) (Y := Y) (u := 0) (v := 0) (x := 0) O dX3_learn_0 rfl (zr_istore_n O dX3_learn_1 rfl (zr_iconst (x := 0) O dX3_learn_2 rfl (zr_istore_n O dX3_learn_3 rfl (B_4))))
  refine ⟨rfl, Nat.le_of_ble_eq_true rfl, _, B_0, ?_⟩
  exact ⟨gN L - 0, 0, _, _, h.1 (l + 2), _, _, _, rfl, Nat.zero_le _, rfl, rfl, rfl, rfl, (zsW_self h (l + 2)).symm, hL.2.2.2⟩
/-- the order of what was heard -/
def lod (S : zD) (L : zG) : Nat → (Nat → Nat)
  | 0 => fun _ => 0
  | i + 1 => oputP S (lod S L i) (gP L i) (gB L i)
theorem oputP_lt {S : zD} {B : Nat → Nat} {p : Nat} {w : Bool} (hB : ∀ i, i < 10 → B i < 1024) (hf : dF S p < 10) (hs : dS S p < 10) : ∀ i, i < 10 → oputP S B p w i < 1024 := by
  unfold oputP
  split
  · exact oput_lt hB hs
  · exact oput_lt hB hf
theorem lod_lt {S : zD} {L : zG} (hN : dN S ≤ 10) : ∀ n, (∀ i, i < n → dF S (gP L i) < dN S ∧ dS S (gP L i) < dN S) → ∀ i, i < 10 → lod S L n i < 1024
  | 0, _ => fun _ _ => (by decide : (0 : Nat) < 1024)
  | n + 1, hp => oputP_lt (lod_lt hN n (fun i hi => hp i (by omega))) (Nat.lt_of_lt_of_le (hp n (by omega)).1 hN) (Nat.lt_of_lt_of_le (hp n (by omega)).2 hN)
def ca_X3_putInto : (zD × zG × Nat × Nat × Nat) → List zV := fun (S, L, l, o, a) => [vR 12 0 l, vR 13 0 o, vR 15 0 a]
def cp_X3_putInto : (zD × zG × Nat × Nat × Nat) → zH → Prop := fun (S, L, l, o, a) h => rpL L h l ∧ gInj L ∧ rpS S h a ∧ (∀ i, i < gN L → gP L i < dP S) ∧ (o + 2 ≤ l ∨ l + 3 ≤ o) ∧ (o + 2 ≤ a ∨ a + 7 ≤ o)
def cq_X3_putInto : (zD × zG × Nat × Nat × Nat) → zH → Option zV → zH → Prop := fun (S, L, l, o, a) h r h' => r = none ∧ oW (lod S L (gN L)) h o h'
theorem rc_X3_putInto : ∀ x : (zD × zG × Nat × Nat × Nat), ∃ (j a : Nat) (As : List zV), ca_X3_putInto x = vR (10 + 2) j a :: As := by
  rintro ⟨S, L, l, o, a⟩
  exact ⟨_, _, _, rfl⟩
set_option maxHeartbeats 4000000 in
set_option maxRecDepth 100000 in
theorem m_X3_putInto : zM yX3_putInto cX3_putInto 4 none ({ frames := 3, cells := 0, slots := 0, locals := 70 } : Room) ((ca_X3_putInto, cp_X3_putInto, cq_X3_putInto) : zC (zD × zG × Nat × Nat × Nat)) := by
  refine zM_of (by decide) ?_
  rintro X Y ⟨S, L, l, o, a⟩ h ⟨hL, hj, hS, hP, hd1, hd2⟩ O E hR
  have B_41 := zr_return (X := X) (Y := Y) (u := 0) (v := 0) O E (Nat.le_refl _) (Nat.le_refl _) dX3_putInto_41
  have L_6 : ∀ nn : Nat, zSd X Y 0 0 6 ((fun k ls st h1 => ∃ (i : Nat) (z : Int32), k = gN L - i ∧ i ≤ gN L ∧ ls = [some (vR 12 0 l), some (vR 13 0 o), some (vR 15 0 a), some (vI z)] ∧ z = nI i ∧ st = [] ∧ oW (lod S L i) h o h1 : Nat → zT) nn) := by
    refine zSd_loop (fun nn ih => ?_)
    have B_6 := zr_iload_n (X := X) (Y := Y) (u := 0) (v := 0) O dX3_putInto_6 rfl (zr_aload_n O dX3_putInto_7 rfl (zr_gI (ci := 2) (j := 0) O zc_2 (by decide) rfl tw_152 dX3_putInto_8 (zr_icge (tgt := 41) O dX3_putInto_11 rfl B_41 (zr_aload_n O dX3_putInto_14 rfl (zr_aload_n O dX3_putInto_15 rfl (zr_aload_n O dX3_putInto_16 rfl (zr_gS (ci := 2) (j := 1) (off := 1) (t := 1) (n := 28) O zc_2 (by decide) rfl tw_154 dX3_putInto_17 (zr_iload_n O dX3_putInto_20 rfl (zr_iald O dX3_putInto_21 (zr_aload_n O dX3_putInto_22 rfl (zr_aload_n O dX3_putInto_23 rfl (zr_gS (ci := 2) (j := 1) (off := 1) (t := 1) (n := 28) O zc_2 (by decide) rfl tw_154 dX3_putInto_24 (zr_iload_n O dX3_putInto_27 rfl (zr_iald O dX3_putInto_28 (zr_cI (zr_cV (ci := 2) (n := 1) O m_X3_heardBitOf (bn_X3_heardBitOf _ ⟨rfl, rfl⟩) vw_X3_heardBitOf tw_365 rc_X3_heardBitOf (zrm hR rfl rfl) dX3_putInto_29 (zr_cV (ci := 3) (n := 3) O m_X4_putPair (bn_X4_putPair _ ⟨rfl, rfl⟩) vw_X4_putPair tw_376 rc_X4_putPair (zrm hR rfl rfl) dX3_putInto_32 (zr_iinc (c := 1) O dX3_putInto_35 rfl (zr_goto (tgt := 6) O dX3_putInto_38 rfl ih)))))))))))))))))))
    refine zSd_weak B_6 (fun ls st h1 t => ?_)
    obtain ⟨i, z, rfl, hi, rfl, rfl, rfl, hw⟩ := t
    have hL : rpL L h l := hL
    have hS : rpS S h a := hS
    have hL2 : rpL L h1 l := rpL_sm (oW_sm hw) (by omega) hL
    have hS2 : rpS S h1 a := rpS_sm (oW_sm hw) (by omega) hS
    have hn : h1.1 l 0 = nI (gN L) := hL2.1.1
    have h28 := hL.1.2
    have hN := hS.1.2
    have hr : ∀ i, i < gN L → dF S (gP L i) < dN S ∧ dS S (gP L i) < dN S := fun i hi => ⟨(hS.2.2.2.1 _ (hP i hi)).1.2, (hS.2.2.2.1 _ (hP i hi)).2.2⟩
    refine ⟨fun cq => ?_, fun cq => ?_⟩
    · have cq : nI (gN L) ≤ nI i := by rw [← hn]; exact cq
      have := (nI_leI (by omega) (by omega)).mp cq
      have hii : i = gN L := by omega
      subst hii
      exact ⟨rfl, hw⟩
    · have hi2 : i < gN L := Nat.not_le.mp (fun z => cq (by rw [hn]; exact (nI_leI (by omega) (by omega)).mpr z))
      obtain ⟨q1, q2⟩ := hL2.2.1 i hi2
      obtain ⟨q4, q5⟩ := gIx_at hj hi2
      have hO : rpO (lod S L i) h1 o := oW_rp hw (lod_lt hN i (fun j hj => hr j (by omega)))
      have eD : ghb L (gP L i) = bI (gB L i) := by
        show (if gH L (gP L i) = true then bI (gV L (gP L i)) else -1) = _
        rw [if_pos q5, gV, q4]
      refine ⟨i, rfl, by omega, i, rfl, by omega, (L, l, gP L i), by rw [q1]; rfl, ⟨hL2, q2⟩, (S, lod S L i, o, a, gP L i, gB L i), ?_, ⟨hO, hS2, hP i hi2⟩, fun r h' hq => ?_⟩
      · rw [q1]
        show [_, _, _, vI (ghb L (gP L i))] = _
        rw [eD]
        rfl
      · obtain ⟨rfl, hq⟩ := hq
        exact ⟨gN L - (i + 1), by omega, i + 1, _, rfl, by omega, rfl, nI_1 i, rfl, oW_tr hw hq⟩
  have B_6 := zSd_any L_6
  have B_0 := zr_aload_n (X := X) (Y := Y) (u := 0) (v := 0) O dX3_putInto_0 rfl (zr_cV (ci := 3) (n := 0) O m_X4_clear (bn_X4_clear _ ⟨rfl, rfl⟩) vw_X4_clear tw_361 rc_X4_clear (zrm hR rfl rfl) dX3_putInto_1 (zr_iconst (x := 0) O dX3_putInto_4 rfl (zr_istore_n O dX3_putInto_5 rfl (B_6))))
  refine ⟨rfl, Nat.le_of_ble_eq_true rfl, _, B_0, ?_⟩
  refine ⟨o, rfl, trivial, fun r h' hq => ?_⟩
  obtain ⟨rfl, hq⟩ := hq
  exact ⟨gN L - 0, 0, _, rfl, Nat.zero_le _, rfl, rfl, rfl, hq⟩
end
section
theorem dX6_hasPair_58 : decode cX6_hasPair 58 = .ok (.iconst 0, 1) := by decide +kernel
theorem dX6_hasPair_59 : decode cX6_hasPair 59 = .ok (.ireturn, 1) := by decide +kernel
theorem dX6_hasPair_52 : decode cX6_hasPair 52 = .ok (.iinc 3 1, 3) := by decide +kernel
theorem dX6_hasPair_55 : decode cX6_hasPair 55 = .ok (.goto (-53), 3) := by decide +kernel
theorem dX6_hasPair_50 : decode cX6_hasPair 50 = .ok (.iconst 1, 1) := by decide +kernel
theorem dX6_hasPair_51 : decode cX6_hasPair 51 = .ok (.ireturn, 1) := by decide +kernel
theorem dX6_hasPair_30 : decode cX6_hasPair 30 = .ok (.aload_n 0, 1) := by decide +kernel
theorem dX6_hasPair_31 : decode cX6_hasPair 31 = .ok (.getfield 21, 3) := by decide +kernel
theorem dX6_hasPair_34 : decode cX6_hasPair 34 = .ok (.iload_n 3, 1) := by decide +kernel
theorem dX6_hasPair_35 : decode cX6_hasPair 35 = .ok (.iaload, 1) := by decide +kernel
theorem dX6_hasPair_36 : decode cX6_hasPair 36 = .ok (.iload_n 2, 1) := by decide +kernel
theorem dX6_hasPair_37 : decode cX6_hasPair 37 = .ok (.if_icmp .ne 15, 3) := by decide +kernel
theorem dX6_hasPair_40 : decode cX6_hasPair 40 = .ok (.aload_n 0, 1) := by decide +kernel
theorem dX6_hasPair_41 : decode cX6_hasPair 41 = .ok (.getfield 24, 3) := by decide +kernel
theorem dX6_hasPair_44 : decode cX6_hasPair 44 = .ok (.iload_n 3, 1) := by decide +kernel
theorem dX6_hasPair_45 : decode cX6_hasPair 45 = .ok (.iaload, 1) := by decide +kernel
theorem dX6_hasPair_46 : decode cX6_hasPair 46 = .ok (.iload_n 1, 1) := by decide +kernel
theorem dX6_hasPair_47 : decode cX6_hasPair 47 = .ok (.if_icmp .ne 5, 3) := by decide +kernel
theorem dX6_hasPair_2 : decode cX6_hasPair 2 = .ok (.iload_n 3, 1) := by decide +kernel
theorem dX6_hasPair_3 : decode cX6_hasPair 3 = .ok (.aload_n 0, 1) := by decide +kernel
theorem dX6_hasPair_4 : decode cX6_hasPair 4 = .ok (.getfield 34, 3) := by decide +kernel
theorem dX6_hasPair_7 : decode cX6_hasPair 7 = .ok (.if_icmp .ge 51, 3) := by decide +kernel
theorem dX6_hasPair_10 : decode cX6_hasPair 10 = .ok (.aload_n 0, 1) := by decide +kernel
theorem dX6_hasPair_11 : decode cX6_hasPair 11 = .ok (.getfield 21, 3) := by decide +kernel
theorem dX6_hasPair_14 : decode cX6_hasPair 14 = .ok (.iload_n 3, 1) := by decide +kernel
theorem dX6_hasPair_15 : decode cX6_hasPair 15 = .ok (.iaload, 1) := by decide +kernel
theorem dX6_hasPair_16 : decode cX6_hasPair 16 = .ok (.iload_n 1, 1) := by decide +kernel
theorem dX6_hasPair_17 : decode cX6_hasPair 17 = .ok (.if_icmp .ne 13, 3) := by decide +kernel
theorem dX6_hasPair_20 : decode cX6_hasPair 20 = .ok (.aload_n 0, 1) := by decide +kernel
theorem dX6_hasPair_21 : decode cX6_hasPair 21 = .ok (.getfield 24, 3) := by decide +kernel
theorem dX6_hasPair_24 : decode cX6_hasPair 24 = .ok (.iload_n 3, 1) := by decide +kernel
theorem dX6_hasPair_25 : decode cX6_hasPair 25 = .ok (.iaload, 1) := by decide +kernel
theorem dX6_hasPair_26 : decode cX6_hasPair 26 = .ok (.iload_n 2, 1) := by decide +kernel
theorem dX6_hasPair_27 : decode cX6_hasPair 27 = .ok (.if_icmp .eq 23, 3) := by decide +kernel
theorem dX6_hasPair_0 : decode cX6_hasPair 0 = .ok (.iconst 0, 1) := by decide +kernel
theorem dX6_hasPair_1 : decode cX6_hasPair 1 = .ok (.istore_n 3, 1) := by decide +kernel
theorem dX6_addRing_49 : decode cX6_addRing 49 = .ok (.return_, 1) := by decide +kernel
theorem dX6_addRing_0 : decode cX6_addRing 0 = .ok (.aload_n 0, 1) := by decide +kernel
theorem dX6_addRing_1 : decode cX6_addRing 1 = .ok (.getfield 30, 3) := by decide +kernel
theorem dX6_addRing_4 : decode cX6_addRing 4 = .ok (.bipush 10, 2) := by decide +kernel
theorem dX6_addRing_6 : decode cX6_addRing 6 = .ok (.if_icmp .ge 43, 3) := by decide +kernel
theorem dX6_addRing_9 : decode cX6_addRing 9 = .ok (.aload_n 0, 1) := by decide +kernel
theorem dX6_addRing_10 : decode cX6_addRing 10 = .ok (.getfield 9, 3) := by decide +kernel
theorem dX6_addRing_13 : decode cX6_addRing 13 = .ok (.aload_n 0, 1) := by decide +kernel
theorem dX6_addRing_14 : decode cX6_addRing 14 = .ok (.getfield 30, 3) := by decide +kernel
theorem dX6_addRing_17 : decode cX6_addRing 17 = .ok (.iload_n 1, 1) := by decide +kernel
theorem dX6_addRing_18 : decode cX6_addRing 18 = .ok (.iastore, 1) := by decide +kernel
theorem dX6_addRing_19 : decode cX6_addRing 19 = .ok (.aload_n 0, 1) := by decide +kernel
theorem dX6_addRing_20 : decode cX6_addRing 20 = .ok (.getfield 15, 3) := by decide +kernel
theorem dX6_addRing_23 : decode cX6_addRing 23 = .ok (.aload_n 0, 1) := by decide +kernel
theorem dX6_addRing_24 : decode cX6_addRing 24 = .ok (.getfield 30, 3) := by decide +kernel
theorem dX6_addRing_27 : decode cX6_addRing 27 = .ok (.iload_n 2, 1) := by decide +kernel
theorem dX6_addRing_28 : decode cX6_addRing 28 = .ok (.iastore, 1) := by decide +kernel
theorem dX6_addRing_29 : decode cX6_addRing 29 = .ok (.aload_n 0, 1) := by decide +kernel
theorem dX6_addRing_30 : decode cX6_addRing 30 = .ok (.getfield 18, 3) := by decide +kernel
theorem dX6_addRing_33 : decode cX6_addRing 33 = .ok (.aload_n 0, 1) := by decide +kernel
theorem dX6_addRing_34 : decode cX6_addRing 34 = .ok (.getfield 30, 3) := by decide +kernel
theorem dX6_addRing_37 : decode cX6_addRing 37 = .ok (.iload_n 3, 1) := by decide +kernel
theorem dX6_addRing_38 : decode cX6_addRing 38 = .ok (.iastore, 1) := by decide +kernel
theorem dX6_addRing_39 : decode cX6_addRing 39 = .ok (.aload_n 0, 1) := by decide +kernel
theorem dX6_addRing_40 : decode cX6_addRing 40 = .ok (.dup, 1) := by decide +kernel
theorem dX6_addRing_41 : decode cX6_addRing 41 = .ok (.getfield 30, 3) := by decide +kernel
theorem dX6_addRing_44 : decode cX6_addRing 44 = .ok (.iconst 1, 1) := by decide +kernel
theorem dX6_addRing_45 : decode cX6_addRing 45 = .ok (.iadd, 1) := by decide +kernel
theorem dX6_addRing_46 : decode cX6_addRing 46 = .ok (.putfield 30, 3) := by decide +kernel
theorem dX6_addPair_39 : decode cX6_addPair 39 = .ok (.return_, 1) := by decide +kernel
theorem dX6_addPair_0 : decode cX6_addPair 0 = .ok (.aload_n 0, 1) := by decide +kernel
theorem dX6_addPair_1 : decode cX6_addPair 1 = .ok (.getfield 34, 3) := by decide +kernel
theorem dX6_addPair_4 : decode cX6_addPair 4 = .ok (.bipush 28, 2) := by decide +kernel
theorem dX6_addPair_6 : decode cX6_addPair 6 = .ok (.if_icmp .ge 33, 3) := by decide +kernel
theorem dX6_addPair_9 : decode cX6_addPair 9 = .ok (.aload_n 0, 1) := by decide +kernel
theorem dX6_addPair_10 : decode cX6_addPair 10 = .ok (.getfield 21, 3) := by decide +kernel
theorem dX6_addPair_13 : decode cX6_addPair 13 = .ok (.aload_n 0, 1) := by decide +kernel
theorem dX6_addPair_14 : decode cX6_addPair 14 = .ok (.getfield 34, 3) := by decide +kernel
theorem dX6_addPair_17 : decode cX6_addPair 17 = .ok (.iload_n 1, 1) := by decide +kernel
theorem dX6_addPair_18 : decode cX6_addPair 18 = .ok (.iastore, 1) := by decide +kernel
theorem dX6_addPair_19 : decode cX6_addPair 19 = .ok (.aload_n 0, 1) := by decide +kernel
theorem dX6_addPair_20 : decode cX6_addPair 20 = .ok (.getfield 24, 3) := by decide +kernel
theorem dX6_addPair_23 : decode cX6_addPair 23 = .ok (.aload_n 0, 1) := by decide +kernel
theorem dX6_addPair_24 : decode cX6_addPair 24 = .ok (.getfield 34, 3) := by decide +kernel
theorem dX6_addPair_27 : decode cX6_addPair 27 = .ok (.iload_n 2, 1) := by decide +kernel
theorem dX6_addPair_28 : decode cX6_addPair 28 = .ok (.iastore, 1) := by decide +kernel
theorem dX6_addPair_29 : decode cX6_addPair 29 = .ok (.aload_n 0, 1) := by decide +kernel
theorem dX6_addPair_30 : decode cX6_addPair 30 = .ok (.dup, 1) := by decide +kernel
theorem dX6_addPair_31 : decode cX6_addPair 31 = .ok (.getfield 34, 3) := by decide +kernel
theorem dX6_addPair_34 : decode cX6_addPair 34 = .ok (.iconst 1, 1) := by decide +kernel
theorem dX6_addPair_35 : decode cX6_addPair 35 = .ok (.iadd, 1) := by decide +kernel
theorem dX6_addPair_36 : decode cX6_addPair 36 = .ok (.putfield 34, 3) := by decide +kernel
theorem dX6_clear_0 : decode cX6_clear 0 = .ok (.aload_n 0, 1) := by decide +kernel
theorem dX6_clear_1 : decode cX6_clear 1 = .ok (.iconst 0, 1) := by decide +kernel
theorem dX6_clear_2 : decode cX6_clear 2 = .ok (.putfield 30, 3) := by decide +kernel
theorem dX6_clear_5 : decode cX6_clear 5 = .ok (.aload_n 0, 1) := by decide +kernel
theorem dX6_clear_6 : decode cX6_clear 6 = .ok (.iconst 0, 1) := by decide +kernel
theorem dX6_clear_7 : decode cX6_clear 7 = .ok (.putfield 34, 3) := by decide +kernel
theorem dX6_clear_10 : decode cX6_clear 10 = .ok (.aload_n 0, 1) := by decide +kernel
theorem dX6_clear_11 : decode cX6_clear 11 = .ok (.getfield 27, 3) := by decide +kernel
theorem dX6_clear_14 : decode cX6_clear 14 = .ok (.iconst 0, 1) := by decide +kernel
theorem dX6_clear_15 : decode cX6_clear 15 = .ok (.iconst 0, 1) := by decide +kernel
theorem dX6_clear_16 : decode cX6_clear 16 = .ok (.iastore, 1) := by decide +kernel
theorem dX6_clear_17 : decode cX6_clear 17 = .ok (.aload_n 0, 1) := by decide +kernel
theorem dX6_clear_18 : decode cX6_clear 18 = .ok (.getfield 27, 3) := by decide +kernel
theorem dX6_clear_21 : decode cX6_clear 21 = .ok (.iconst 1, 1) := by decide +kernel
theorem dX6_clear_22 : decode cX6_clear 22 = .ok (.bipush 20, 2) := by decide +kernel
theorem dX6_clear_24 : decode cX6_clear 24 = .ok (.iastore, 1) := by decide +kernel
theorem dX6_clear_25 : decode cX6_clear 25 = .ok (.aload_n 0, 1) := by decide +kernel
theorem dX6_clear_26 : decode cX6_clear 26 = .ok (.getfield 27, 3) := by decide +kernel
theorem dX6_clear_29 : decode cX6_clear 29 = .ok (.iconst 2, 1) := by decide +kernel
theorem dX6_clear_30 : decode cX6_clear 30 = .ok (.bipush 20, 2) := by decide +kernel
theorem dX6_clear_32 : decode cX6_clear 32 = .ok (.iastore, 1) := by decide +kernel
theorem dX6_clear_33 : decode cX6_clear 33 = .ok (.aload_n 0, 1) := by decide +kernel
theorem dX6_clear_34 : decode cX6_clear 34 = .ok (.getfield 27, 3) := by decide +kernel
theorem dX6_clear_37 : decode cX6_clear 37 = .ok (.iconst 3, 1) := by decide +kernel
theorem dX6_clear_38 : decode cX6_clear 38 = .ok (.iconst 0, 1) := by decide +kernel
theorem dX6_clear_39 : decode cX6_clear 39 = .ok (.iastore, 1) := by decide +kernel
theorem dX6_clear_40 : decode cX6_clear 40 = .ok (.aload_n 0, 1) := by decide +kernel
theorem dX6_clear_41 : decode cX6_clear 41 = .ok (.getfield 27, 3) := by decide +kernel
theorem dX6_clear_44 : decode cX6_clear 44 = .ok (.iconst 4, 1) := by decide +kernel
theorem dX6_clear_45 : decode cX6_clear 45 = .ok (.iconst 3, 1) := by decide +kernel
theorem dX6_clear_46 : decode cX6_clear 46 = .ok (.iastore, 1) := by decide +kernel
theorem dX6_clear_47 : decode cX6_clear 47 = .ok (.return_, 1) := by decide +kernel
theorem dX6_copyFrom_0 : decode cX6_copyFrom 0 = .ok (.aload_n 0, 1) := by decide +kernel
theorem dX6_copyFrom_1 : decode cX6_copyFrom 1 = .ok (.aload_n 1, 1) := by decide +kernel
theorem dX6_copyFrom_2 : decode cX6_copyFrom 2 = .ok (.getfield 30, 3) := by decide +kernel
theorem dX6_copyFrom_5 : decode cX6_copyFrom 5 = .ok (.putfield 30, 3) := by decide +kernel
theorem dX6_copyFrom_8 : decode cX6_copyFrom 8 = .ok (.aload_n 1, 1) := by decide +kernel
theorem dX6_copyFrom_9 : decode cX6_copyFrom 9 = .ok (.getfield 9, 3) := by decide +kernel
theorem dX6_copyFrom_12 : decode cX6_copyFrom 12 = .ok (.iconst 0, 1) := by decide +kernel
theorem dX6_copyFrom_13 : decode cX6_copyFrom 13 = .ok (.aload_n 0, 1) := by decide +kernel
theorem dX6_copyFrom_14 : decode cX6_copyFrom 14 = .ok (.getfield 9, 3) := by decide +kernel
theorem dX6_copyFrom_17 : decode cX6_copyFrom 17 = .ok (.iconst 0, 1) := by decide +kernel
theorem dX6_copyFrom_18 : decode cX6_copyFrom 18 = .ok (.bipush 10, 2) := by decide +kernel
theorem dX6_copyFrom_20 : decode cX6_copyFrom 20 = .ok (.invokestatic 37, 3) := by decide +kernel
theorem dX6_copyFrom_23 : decode cX6_copyFrom 23 = .ok (.aload_n 1, 1) := by decide +kernel
theorem dX6_copyFrom_24 : decode cX6_copyFrom 24 = .ok (.getfield 15, 3) := by decide +kernel
theorem dX6_copyFrom_27 : decode cX6_copyFrom 27 = .ok (.iconst 0, 1) := by decide +kernel
theorem dX6_copyFrom_28 : decode cX6_copyFrom 28 = .ok (.aload_n 0, 1) := by decide +kernel
theorem dX6_copyFrom_29 : decode cX6_copyFrom 29 = .ok (.getfield 15, 3) := by decide +kernel
theorem dX6_copyFrom_32 : decode cX6_copyFrom 32 = .ok (.iconst 0, 1) := by decide +kernel
theorem dX6_copyFrom_33 : decode cX6_copyFrom 33 = .ok (.bipush 10, 2) := by decide +kernel
theorem dX6_copyFrom_35 : decode cX6_copyFrom 35 = .ok (.invokestatic 37, 3) := by decide +kernel
theorem dX6_copyFrom_38 : decode cX6_copyFrom 38 = .ok (.aload_n 1, 1) := by decide +kernel
theorem dX6_copyFrom_39 : decode cX6_copyFrom 39 = .ok (.getfield 18, 3) := by decide +kernel
theorem dX6_copyFrom_42 : decode cX6_copyFrom 42 = .ok (.iconst 0, 1) := by decide +kernel
theorem dX6_copyFrom_43 : decode cX6_copyFrom 43 = .ok (.aload_n 0, 1) := by decide +kernel
theorem dX6_copyFrom_44 : decode cX6_copyFrom 44 = .ok (.getfield 18, 3) := by decide +kernel
theorem dX6_copyFrom_47 : decode cX6_copyFrom 47 = .ok (.iconst 0, 1) := by decide +kernel
theorem dX6_copyFrom_48 : decode cX6_copyFrom 48 = .ok (.bipush 10, 2) := by decide +kernel
theorem dX6_copyFrom_50 : decode cX6_copyFrom 50 = .ok (.invokestatic 37, 3) := by decide +kernel
theorem dX6_copyFrom_53 : decode cX6_copyFrom 53 = .ok (.aload_n 0, 1) := by decide +kernel
theorem dX6_copyFrom_54 : decode cX6_copyFrom 54 = .ok (.aload_n 1, 1) := by decide +kernel
theorem dX6_copyFrom_55 : decode cX6_copyFrom 55 = .ok (.getfield 34, 3) := by decide +kernel
theorem dX6_copyFrom_58 : decode cX6_copyFrom 58 = .ok (.putfield 34, 3) := by decide +kernel
theorem dX6_copyFrom_61 : decode cX6_copyFrom 61 = .ok (.aload_n 1, 1) := by decide +kernel
theorem dX6_copyFrom_62 : decode cX6_copyFrom 62 = .ok (.getfield 21, 3) := by decide +kernel
theorem dX6_copyFrom_65 : decode cX6_copyFrom 65 = .ok (.iconst 0, 1) := by decide +kernel
theorem dX6_copyFrom_66 : decode cX6_copyFrom 66 = .ok (.aload_n 0, 1) := by decide +kernel
theorem dX6_copyFrom_67 : decode cX6_copyFrom 67 = .ok (.getfield 21, 3) := by decide +kernel
theorem dX6_copyFrom_70 : decode cX6_copyFrom 70 = .ok (.iconst 0, 1) := by decide +kernel
theorem dX6_copyFrom_71 : decode cX6_copyFrom 71 = .ok (.bipush 28, 2) := by decide +kernel
theorem dX6_copyFrom_73 : decode cX6_copyFrom 73 = .ok (.invokestatic 37, 3) := by decide +kernel
theorem dX6_copyFrom_76 : decode cX6_copyFrom 76 = .ok (.aload_n 1, 1) := by decide +kernel
theorem dX6_copyFrom_77 : decode cX6_copyFrom 77 = .ok (.getfield 24, 3) := by decide +kernel
theorem dX6_copyFrom_80 : decode cX6_copyFrom 80 = .ok (.iconst 0, 1) := by decide +kernel
theorem dX6_copyFrom_81 : decode cX6_copyFrom 81 = .ok (.aload_n 0, 1) := by decide +kernel
theorem dX6_copyFrom_82 : decode cX6_copyFrom 82 = .ok (.getfield 24, 3) := by decide +kernel
theorem dX6_copyFrom_85 : decode cX6_copyFrom 85 = .ok (.iconst 0, 1) := by decide +kernel
theorem dX6_copyFrom_86 : decode cX6_copyFrom 86 = .ok (.bipush 28, 2) := by decide +kernel
theorem dX6_copyFrom_88 : decode cX6_copyFrom 88 = .ok (.invokestatic 37, 3) := by decide +kernel
theorem dX6_copyFrom_91 : decode cX6_copyFrom 91 = .ok (.aload_n 1, 1) := by decide +kernel
theorem dX6_copyFrom_92 : decode cX6_copyFrom 92 = .ok (.getfield 27, 3) := by decide +kernel
theorem dX6_copyFrom_95 : decode cX6_copyFrom 95 = .ok (.iconst 0, 1) := by decide +kernel
theorem dX6_copyFrom_96 : decode cX6_copyFrom 96 = .ok (.aload_n 0, 1) := by decide +kernel
theorem dX6_copyFrom_97 : decode cX6_copyFrom 97 = .ok (.getfield 27, 3) := by decide +kernel
theorem dX6_copyFrom_100 : decode cX6_copyFrom 100 = .ok (.iconst 0, 1) := by decide +kernel
theorem dX6_copyFrom_101 : decode cX6_copyFrom 101 = .ok (.iconst 5, 1) := by decide +kernel
theorem dX6_copyFrom_102 : decode cX6_copyFrom 102 = .ok (.invokestatic 37, 3) := by decide +kernel
theorem dX6_copyFrom_105 : decode cX6_copyFrom 105 = .ok (.return_, 1) := by decide +kernel
theorem dX6_traitRow_27 : decode cX6_traitRow 27 = .ok (.areturn, 1) := by decide +kernel
theorem dX6_traitRow_23 : decode cX6_traitRow 23 = .ok (.aload_n 0, 1) := by decide +kernel
theorem dX6_traitRow_24 : decode cX6_traitRow 24 = .ok (.getfield 18, 3) := by decide +kernel
theorem dX6_traitRow_11 : decode cX6_traitRow 11 = .ok (.iload_n 1, 1) := by decide +kernel
theorem dX6_traitRow_12 : decode cX6_traitRow 12 = .ok (.iconst 1, 1) := by decide +kernel
theorem dX6_traitRow_13 : decode cX6_traitRow 13 = .ok (.if_icmp .ne 10, 3) := by decide +kernel
theorem dX6_traitRow_16 : decode cX6_traitRow 16 = .ok (.aload_n 0, 1) := by decide +kernel
theorem dX6_traitRow_17 : decode cX6_traitRow 17 = .ok (.getfield 15, 3) := by decide +kernel
theorem dX6_traitRow_20 : decode cX6_traitRow 20 = .ok (.goto 7, 3) := by decide +kernel
theorem dX6_traitRow_0 : decode cX6_traitRow 0 = .ok (.iload_n 1, 1) := by decide +kernel
theorem dX6_traitRow_1 : decode cX6_traitRow 1 = .ok (.ifCond .ne 10, 3) := by decide +kernel
theorem dX6_traitRow_4 : decode cX6_traitRow 4 = .ok (.aload_n 0, 1) := by decide +kernel
theorem dX6_traitRow_5 : decode cX6_traitRow 5 = .ok (.getfield 9, 3) := by decide +kernel
theorem dX6_traitRow_8 : decode cX6_traitRow 8 = .ok (.goto 19, 3) := by decide +kernel
/-! the rest of Slip -/
def hpq (F G : Nat → Int32) (x y : Int32) (i : Nat) : Bool := decide (F i = x ∧ G i = y ∨ F i = y ∧ G i = x)
def hpr (F G : Nat → Int32) (x y : Int32) (n : Nat) : Bool := decide (0 < fb_ct (hpq F G x y) n)
def ca_X6_hasPair : (Nat × Nat × Int32 × Int32) → List zV := fun (a, n, x, y) => [vR 15 0 a, vI x, vI y]
def cp_X6_hasPair : (Nat × Nat × Int32 × Int32) → zH → Prop := fun (a, n, x, y) h => h.1 a 4 = nI n ∧ n ≤ 28
def cf_X6_hasPair : (Nat × Nat × Int32 × Int32) → zH → Int32 := fun (a, n, x, y) h => bI (hpr (h.1 (a + 4)) (h.1 (a + 5)) x y n)
theorem rc_X6_hasPair : ∀ x : (Nat × Nat × Int32 × Int32), ∃ (j a : Nat) (As : List zV), ca_X6_hasPair x = vR (10 + 5) j a :: As := by
  rintro ⟨a, n, x, y⟩
  exact ⟨_, _, _, rfl⟩
set_option maxHeartbeats 4000000 in
set_option maxRecDepth 100000 in
theorem m_X6_hasPair : zM yX6_hasPair cX6_hasPair 4 (some .boolean) ({ frames := 0, cells := 0, slots := 0, locals := 0 } : Room) (zcI ca_X6_hasPair cp_X6_hasPair cf_X6_hasPair) := by
  refine zM_of (by decide) ?_
  rintro X Y ⟨a, n, x, y⟩ h ⟨hn, hn2⟩ O E hR
  have B_58 := zr_iconst (X := X) (Y := Y) (u := 0) (v := 0) (x := 0) O dX6_hasPair_58 rfl (zr_zreturn O E (Nat.le_refl _) (Nat.le_refl _) dX6_hasPair_59)
  have L_2 : ∀ nn : Nat, zSd X Y 0 0 2 ((fun k ls st h1 => ∃ (i : Nat) (z : Int32), k = n - i ∧ i ≤ n ∧ ls = [some (vR 15 0 a), some (vI x), some (vI y), some (vI z)] ∧ z = nI i ∧ st = [] ∧ h = h1 ∧ fb_ct (hpq (h.1 (a + 4)) (h.1 (a + 5)) x y) i = 0 : Nat → zT) nn) := by
    refine zSd_loop (fun nn ih => ?_)
    have B_52 := zr_iinc (X := X) (Y := Y) (u := 0) (v := 0) (c := 1) O dX6_hasPair_52 rfl (zr_goto (tgt := 2) O dX6_hasPair_55 rfl ih)
    have B_50 := zr_iconst (X := X) (Y := Y) (u := 0) (v := 0) (x := 1) O dX6_hasPair_50 rfl (zr_zreturn O E (Nat.le_refl _) (Nat.le_refl _) dX6_hasPair_51)
    have B_30 := zr_aload_n (X := X) (Y := Y) (u := 0) (v := 0) O dX6_hasPair_30 rfl (zr_gS (ci := 5) (j := 5) (off := 4) (t := 1) (n := 28) O zc_5 (by decide) rfl tw_59 dX6_hasPair_31 (zr_iload_n O dX6_hasPair_34 rfl (zr_iald O dX6_hasPair_35 (zr_iload_n O dX6_hasPair_36 rfl (zr_icne (tgt := 52) O dX6_hasPair_37 rfl B_52 (zr_aload_n O dX6_hasPair_40 rfl (zr_gS (ci := 5) (j := 6) (off := 5) (t := 1) (n := 28) O zc_5 (by decide) rfl tw_66 dX6_hasPair_41 (zr_iload_n O dX6_hasPair_44 rfl (zr_iald O dX6_hasPair_45 (zr_iload_n O dX6_hasPair_46 rfl (zr_icne (tgt := 52) O dX6_hasPair_47 rfl B_52 (B_50))))))))))))
    have B_2 := zr_iload_n (X := X) (Y := Y) (u := 0) (v := 0) O dX6_hasPair_2 rfl (zr_aload_n O dX6_hasPair_3 rfl (zr_gI (ci := 5) (j := 4) O zc_5 (by decide) rfl tw_54 dX6_hasPair_4 (zr_icge (tgt := 58) O dX6_hasPair_7 rfl B_58 (zr_aload_n O dX6_hasPair_10 rfl (zr_gS (ci := 5) (j := 5) (off := 4) (t := 1) (n := 28) O zc_5 (by decide) rfl tw_59 dX6_hasPair_11 (zr_iload_n O dX6_hasPair_14 rfl (zr_iald O dX6_hasPair_15 (zr_iload_n O dX6_hasPair_16 rfl (zr_icne (tgt := 30) O dX6_hasPair_17 rfl B_30 (zr_aload_n O dX6_hasPair_20 rfl (zr_gS (ci := 5) (j := 6) (off := 5) (t := 1) (n := 28) O zc_5 (by decide) rfl tw_66 dX6_hasPair_21 (zr_iload_n O dX6_hasPair_24 rfl (zr_iald O dX6_hasPair_25 (zr_iload_n O dX6_hasPair_26 rfl (zr_iceq (tgt := 50) O dX6_hasPair_27 rfl B_50 (B_30))))))))))))))))
    refine zSd_weak B_2 (fun ls st h1 t => ?_)
    have hn : h.1 a 4 = nI n := hn
    have hn2 : n ≤ 28 := hn2
    obtain ⟨i, z, rfl, hi, rfl, rfl, rfl, rfl, hc⟩ := t
    refine ⟨fun cq => ⟨Or.inl rfl, zri ?_, rfl⟩, fun cq => ?_⟩
    · have cq : nI n ≤ nI i := by rw [← hn]; exact cq
      have := (nI_leI (by omega) (by omega)).mp cq
      rw [show i = n by omega] at hc
      show (0 : Int32) = bI (hpr _ _ x y n)
      rw [hpr, hc]
      rfl
    · have hi2 : i < n := Nat.not_le.mp (fun z => cq (by rw [hn]; exact (nI_leI (by omega) (by omega)).mpr z))
      have hi28 : i < 28 := by omega
      have yes : (h.1 (a + 4) i = x ∧ h.1 (a + 5) i = y ∨ h.1 (a + 4) i = y ∧ h.1 (a + 5) i = x) → (1 : Int32) = bI (hpr (h.1 (a + 4)) (h.1 (a + 5)) x y n) := by
        intro hy
        have h1 : 0 < fb_ct (hpq (h.1 (a + 4)) (h.1 (a + 5)) x y) n := fb_ct_pos.mpr ⟨i, hi2, decide_eq_true hy⟩
        rw [hpr, decide_eq_true h1]
        rfl
      have no : ¬ (h.1 (a + 4) i = x ∧ h.1 (a + 5) i = y ∨ h.1 (a + 4) i = y ∧ h.1 (a + 5) i = x) → fb_ct (hpq (h.1 (a + 4)) (h.1 (a + 5)) x y) (i + 1) = 0 := by
        intro hy
        rw [fb_ct_succ, hc, hpq, decide_eq_false hy]
        rfl
      refine ⟨i, rfl, hi28, fun dq => ⟨i, rfl, hi28, fun eq => ⟨n - (i + 1), by omega, i + 1, _, rfl, by omega, rfl, nI_1 i, rfl, rfl, no ?_⟩, fun eq => ⟨i, rfl, hi28, fun fq => ⟨n - (i + 1), by omega, i + 1, _, rfl, by omega, rfl, nI_1 i, rfl, rfl, no ?_⟩, fun fq => ⟨Or.inr rfl, zri (yes ?_), rfl⟩⟩⟩, fun dq => ⟨i, rfl, hi28, fun eq => ⟨Or.inr rfl, zri (yes ?_), rfl⟩, fun eq => ⟨i, rfl, hi28, fun fq => ⟨n - (i + 1), by omega, i + 1, _, rfl, by omega, rfl, nI_1 i, rfl, rfl, no ?_⟩, fun fq => ⟨i, rfl, hi28, fun gq => ⟨n - (i + 1), by omega, i + 1, _, rfl, by omega, rfl, nI_1 i, rfl, rfl, no ?_⟩, fun gq => ⟨Or.inr rfl, zri (yes ?_), rfl⟩⟩⟩⟩⟩
      · exact fun z => z.elim (fun z => dq z.1) (fun z => eq z.1)
      · exact fun z => z.elim (fun z => dq z.1) (fun z => fq z.2)
      · exact Or.inr ⟨eq, fq⟩
      · exact Or.inl ⟨dq, eq⟩
      · exact fun z => z.elim (fun z => eq z.2) (fun z => fq z.1)
      · exact fun z => z.elim (fun z => eq z.2) (fun z => gq z.2)
      · exact Or.inr ⟨fq, gq⟩
  have B_2 := zSd_any L_2
  have B_0 := zr_iconst (X := X) (Y := Y) (u := 0) (v := 0) (x := 0) O dX6_hasPair_0 rfl (zr_istore_n O dX6_hasPair_1 rfl (B_2))
  refine ⟨rfl, Nat.le_of_ble_eq_true rfl, _, B_0, ?_⟩
  exact ⟨n - 0, 0, _, rfl, Nat.zero_le _, rfl, rfl, rfl, rfl, rfl⟩
def ca_X6_addRing : (Nat × Nat × Int32 × Int32 × Int32) → List zV := fun (a, n, x, y, z) => [vR 15 0 a, vI x, vI y, vI z]
def cp_X6_addRing : (Nat × Nat × Int32 × Int32 × Int32) → zH → Prop := fun (a, n, x, y, z) h => h.1 a 0 = nI n ∧ n ≤ 10
def cg_X6_addRing : (Nat × Nat × Int32 × Int32 × Int32) → zH → zH := fun (a, n, x, y, z) h => if n < 10 then zsI (zsI (zsI (zsI h (a + 1) n x) (a + 2) n y) (a + 3) n z) a 0 (nI (n + 1)) else h
theorem rc_X6_addRing : ∀ x : (Nat × Nat × Int32 × Int32 × Int32), ∃ (j a : Nat) (As : List zV), ca_X6_addRing x = vR (10 + 5) j a :: As := by
  rintro ⟨a, n, x, y, z⟩
  exact ⟨_, _, _, rfl⟩
set_option maxHeartbeats 4000000 in
set_option maxRecDepth 100000 in
theorem m_X6_addRing : zM yX6_addRing cX6_addRing 4 none ({ frames := 0, cells := 0, slots := 0, locals := 0 } : Room) (zcV ca_X6_addRing cp_X6_addRing cg_X6_addRing) := by
  refine zM_of (by decide) ?_
  rintro X Y ⟨a, n, x, y, z⟩ h ⟨hn, hn2⟩ O E hR
  have B_49 := zr_return (X := X) (Y := Y) (u := 0) (v := 0) O E (Nat.le_refl _) (Nat.le_refl _) dX6_addRing_49
  have B_0 := zr_aload_n (X := X) (Y := Y) (u := 0) (v := 0) O dX6_addRing_0 rfl (zr_gI (ci := 5) (j := 0) O zc_5 (by decide) rfl tw_46 dX6_addRing_1 (zr_bipush (x := (10)) O dX6_addRing_4 (by decide) (zr_icge (tgt := 49) O dX6_addRing_6 rfl B_49 (zr_aload_n O dX6_addRing_9 rfl (zr_gS (ci := 5) (j := 1) (off := 1) (t := 1) (n := 10) O zc_5 (by decide) rfl tw_50 dX6_addRing_10 (zr_aload_n O dX6_addRing_13 rfl (zr_gI (ci := 5) (j := 0) O zc_5 (by decide) rfl tw_46 dX6_addRing_14 (zr_iload_n O dX6_addRing_17 rfl (zr_iast O dX6_addRing_18 (zr_aload_n O dX6_addRing_19 rfl (zr_gS (ci := 5) (j := 2) (off := 2) (t := 1) (n := 10) O zc_5 (by decide) rfl tw_51 dX6_addRing_20 (zr_aload_n O dX6_addRing_23 rfl (zr_gI (ci := 5) (j := 0) O zc_5 (by decide) rfl tw_46 dX6_addRing_24 (zr_iload_n O dX6_addRing_27 rfl (zr_iast O dX6_addRing_28 (zr_aload_n O dX6_addRing_29 rfl (zr_gS (ci := 5) (j := 3) (off := 3) (t := 1) (n := 10) O zc_5 (by decide) rfl tw_52 dX6_addRing_30 (zr_aload_n O dX6_addRing_33 rfl (zr_gI (ci := 5) (j := 0) O zc_5 (by decide) rfl tw_46 dX6_addRing_34 (zr_iload_n O dX6_addRing_37 rfl (zr_iast O dX6_addRing_38 (zr_aload_n O dX6_addRing_39 rfl (zr_dup O dX6_addRing_40 (zr_gI (ci := 5) (j := 0) O zc_5 (by decide) rfl tw_46 dX6_addRing_41 (zr_iconst (x := 1) O dX6_addRing_44 rfl (zr_iadd O dX6_addRing_45 (zr_pI (ci := 5) (j := 0) O zc_5 (by decide) rfl rfl rfl tw_46 dX6_addRing_46 (B_49))))))))))))))))))))))))))))
  refine ⟨rfl, Nat.le_of_ble_eq_true rfl, _, B_0, ?_⟩
  have hn : h.1 a 0 = nI n := hn
  have hn2 : n ≤ 10 := hn2
  refine ⟨fun cq => ?_, fun cq => ?_⟩
  · rw [hn] at cq
    have := (nI_leI (a := 10) (by omega) (by omega)).mp cq
    exact ⟨rfl, (if_neg (by omega)).symm⟩
  · rw [hn] at cq
    have hlt : n < 10 := Nat.not_le.mp (fun z => cq ((nI_leI (a := 10) (by omega) (by omega)).mpr z))
    refine ⟨n, hn, hlt, n, ?_, hlt, n, ?_, hlt, rfl, ?_⟩
    · rw [zsI_W, zsW_n _ _ (by omega)]; exact hn
    · rw [zsI_W, zsI_W, zsW_n _ _ (by omega), zsW_n _ _ (by omega)]; exact hn
    · show _ = if n < 10 then _ else _
      rw [if_pos hlt, ← nI_1]
      have e : (zsI (zsI (zsI h (a + 1) n x) (a + 2) n y) (a + 3) n z).1 a 0 = nI n := by rw [zsI_W, zsI_W, zsI_W, zsW_n _ _ (by omega), zsW_n _ _ (by omega), zsW_n _ _ (by omega)]; exact hn
      rw [e]
def ca_X6_addPair : (Nat × Nat × Int32 × Int32) → List zV := fun (a, n, x, y) => [vR 15 0 a, vI x, vI y]
def cp_X6_addPair : (Nat × Nat × Int32 × Int32) → zH → Prop := fun (a, n, x, y) h => h.1 a 4 = nI n ∧ n ≤ 28
def cg_X6_addPair : (Nat × Nat × Int32 × Int32) → zH → zH := fun (a, n, x, y) h => if n < 28 then zsI (zsI (zsI h (a + 4) n x) (a + 5) n y) a 4 (nI (n + 1)) else h
theorem rc_X6_addPair : ∀ x : (Nat × Nat × Int32 × Int32), ∃ (j a : Nat) (As : List zV), ca_X6_addPair x = vR (10 + 5) j a :: As := by
  rintro ⟨a, n, x, y⟩
  exact ⟨_, _, _, rfl⟩
set_option maxHeartbeats 4000000 in
set_option maxRecDepth 100000 in
theorem m_X6_addPair : zM yX6_addPair cX6_addPair 3 none ({ frames := 0, cells := 0, slots := 0, locals := 0 } : Room) (zcV ca_X6_addPair cp_X6_addPair cg_X6_addPair) := by
  refine zM_of (by decide) ?_
  rintro X Y ⟨a, n, x, y⟩ h ⟨hn, hn2⟩ O E hR
  have B_39 := zr_return (X := X) (Y := Y) (u := 0) (v := 0) O E (Nat.le_refl _) (Nat.le_refl _) dX6_addPair_39
  have B_0 := zr_aload_n (X := X) (Y := Y) (u := 0) (v := 0) O dX6_addPair_0 rfl (zr_gI (ci := 5) (j := 4) O zc_5 (by decide) rfl tw_54 dX6_addPair_1 (zr_bipush (x := (28)) O dX6_addPair_4 (by decide) (zr_icge (tgt := 39) O dX6_addPair_6 rfl B_39 (zr_aload_n O dX6_addPair_9 rfl (zr_gS (ci := 5) (j := 5) (off := 4) (t := 1) (n := 28) O zc_5 (by decide) rfl tw_59 dX6_addPair_10 (zr_aload_n O dX6_addPair_13 rfl (zr_gI (ci := 5) (j := 4) O zc_5 (by decide) rfl tw_54 dX6_addPair_14 (zr_iload_n O dX6_addPair_17 rfl (zr_iast O dX6_addPair_18 (zr_aload_n O dX6_addPair_19 rfl (zr_gS (ci := 5) (j := 6) (off := 5) (t := 1) (n := 28) O zc_5 (by decide) rfl tw_66 dX6_addPair_20 (zr_aload_n O dX6_addPair_23 rfl (zr_gI (ci := 5) (j := 4) O zc_5 (by decide) rfl tw_54 dX6_addPair_24 (zr_iload_n O dX6_addPair_27 rfl (zr_iast O dX6_addPair_28 (zr_aload_n O dX6_addPair_29 rfl (zr_dup O dX6_addPair_30 (zr_gI (ci := 5) (j := 4) O zc_5 (by decide) rfl tw_54 dX6_addPair_31 (zr_iconst (x := 1) O dX6_addPair_34 rfl (zr_iadd O dX6_addPair_35 (zr_pI (ci := 5) (j := 4) O zc_5 (by decide) rfl rfl rfl tw_54 dX6_addPair_36 (B_39))))))))))))))))))))))
  refine ⟨rfl, Nat.le_of_ble_eq_true rfl, _, B_0, ?_⟩
  have hn : h.1 a 4 = nI n := hn
  have hn2 : n ≤ 28 := hn2
  refine ⟨fun cq => ?_, fun cq => ?_⟩
  · rw [hn] at cq
    have := (nI_leI (a := 28) (by omega) (by omega)).mp cq
    exact ⟨rfl, (if_neg (by omega)).symm⟩
  · rw [hn] at cq
    have hlt : n < 28 := Nat.not_le.mp (fun z => cq ((nI_leI (a := 28) (by omega) (by omega)).mpr z))
    refine ⟨n, hn, hlt, n, ?_, hlt, rfl, ?_⟩
    · rw [zsI_W, zsW_n _ _ (by omega)]; exact hn
    · show _ = if n < 28 then _ else _
      rw [if_pos hlt, ← nI_1]
      have e : (zsI (zsI h (a + 4) n x) (a + 5) n y).1 a 4 = nI n := by rw [zsI_W, zsI_W, zsW_n _ _ (by omega), zsW_n _ _ (by omega)]; exact hn
      rw [e]
/-- a slip of nothing -/
def dE : zD := (0, 0, fun _ => 0, fun _ => 0, fun _ => 0, fun _ => 0, fun _ => 0, fun k => if k = 1 ∨ k = 2 then 20 else if k = 4 then 3 else 0)
theorem vS_dE : vS dE := ⟨fun r hr => absurd hr (Nat.not_lt_zero _), fun r hr => absurd hr (Nat.not_lt_zero _), by decide, by decide, Or.inl rfl, by decide, Or.inr (Or.inr (Or.inl (by decide)))⟩
def ca_X6_clear : (Nat) → List zV := fun a => [vR 15 0 a]
def cp_X6_clear : (Nat) → zH → Prop := fun _ _ => True
def cq_X6_clear : (Nat) → zH → Option zV → zH → Prop := fun a h r h' => r = none ∧ sm a 7 h h' ∧ rpS dE h' a
theorem rc_X6_clear : ∀ x : (Nat), ∃ (j a : Nat) (As : List zV), ca_X6_clear x = vR (10 + 5) j a :: As := by
  rintro a
  exact ⟨_, _, _, rfl⟩
set_option maxHeartbeats 4000000 in
set_option maxRecDepth 100000 in
theorem m_X6_clear : zM yX6_clear cX6_clear 1 none ({ frames := 0, cells := 0, slots := 0, locals := 0 } : Room) ((ca_X6_clear, cp_X6_clear, cq_X6_clear) : zC (Nat)) := by
  refine zM_of (by decide) ?_
  rintro X Y a h _ O E hR
  have B_0 := zr_aload_n (X := X) (Y := Y) (u := 0) (v := 0) O dX6_clear_0 rfl (zr_iconst (x := 0) O dX6_clear_1 rfl (zr_pI (ci := 5) (j := 0) O zc_5 (by decide) rfl rfl rfl tw_46 dX6_clear_2 (zr_aload_n O dX6_clear_5 rfl (zr_iconst (x := 0) O dX6_clear_6 rfl (zr_pI (ci := 5) (j := 4) O zc_5 (by decide) rfl rfl rfl tw_54 dX6_clear_7 (zr_aload_n O dX6_clear_10 rfl (zr_gS (ci := 5) (j := 7) (off := 6) (t := 1) (n := 5) O zc_5 (by decide) rfl tw_73 dX6_clear_11 (zr_iconst (x := 0) O dX6_clear_14 rfl (zr_iconst (x := 0) O dX6_clear_15 rfl (zr_iast O dX6_clear_16 (zr_aload_n O dX6_clear_17 rfl (zr_gS (ci := 5) (j := 7) (off := 6) (t := 1) (n := 5) O zc_5 (by decide) rfl tw_73 dX6_clear_18 (zr_iconst (x := 1) O dX6_clear_21 rfl (zr_bipush (x := (20)) O dX6_clear_22 (by decide) (zr_iast O dX6_clear_24 (zr_aload_n O dX6_clear_25 rfl (zr_gS (ci := 5) (j := 7) (off := 6) (t := 1) (n := 5) O zc_5 (by decide) rfl tw_73 dX6_clear_26 (zr_iconst (x := 2) O dX6_clear_29 rfl (zr_bipush (x := (20)) O dX6_clear_30 (by decide) (zr_iast O dX6_clear_32 (zr_aload_n O dX6_clear_33 rfl (zr_gS (ci := 5) (j := 7) (off := 6) (t := 1) (n := 5) O zc_5 (by decide) rfl tw_73 dX6_clear_34 (zr_iconst (x := 3) O dX6_clear_37 rfl (zr_iconst (x := 0) O dX6_clear_38 rfl (zr_iast O dX6_clear_39 (zr_aload_n O dX6_clear_40 rfl (zr_gS (ci := 5) (j := 7) (off := 6) (t := 1) (n := 5) O zc_5 (by decide) rfl tw_73 dX6_clear_41 (zr_iconst (x := 4) O dX6_clear_44 rfl (zr_iconst (x := 3) O dX6_clear_45 rfl (zr_iast O dX6_clear_46 (zr_return O E (Nat.le_refl _) (Nat.le_refl _) dX6_clear_47)))))))))))))))))))))))))))))))
  refine ⟨rfl, Nat.le_of_ble_eq_true rfl, _, B_0, ?_⟩
  refine ⟨0, rfl, by decide, 1, rfl, by decide, 2, rfl, by decide, 3, rfl, by decide, 4, rfl, by decide, rfl, ?_, ?_⟩
  · simp only [zsI_W]
    exact sm_tr (sm_tr (sm_tr (sm_tr (sm_tr (sm_tr (sm_W _ _ (by omega) (by omega)) (sm_W _ _ (by omega) (by omega))) (sm_W _ _ (by omega) (by omega))) (sm_W _ _ (by omega) (by omega))) (sm_W _ _ (by omega) (by omega))) (sm_W _ _ (by omega) (by omega))) (sm_W _ _ (by omega) (by omega))
  · simp only [zsI_W, zsW_W, zsW_s]
    refine ⟨⟨?_, by decide⟩, ⟨?_, by decide⟩, fun r hr => absurd hr (Nat.not_lt_zero _), fun r hr => absurd hr (Nat.not_lt_zero _), fun k hk => ?_⟩
    · rw [zsW_n _ _ (by omega), zsW_s]; rfl
    · rw [zsW_n _ _ (by omega), zsW_s]; rfl
    · rw [zsW_s]
      have : k = 0 ∨ k = 1 ∨ k = 2 ∨ k = 3 ∨ k = 4 := by omega
      rcases this with rfl | rfl | rfl | rfl | rfl <;> rfl
def ca_X6_copyFrom : (zD × Nat × Nat) → List zV := fun (S, a, q) => [vR 15 0 a, vR 15 0 q]
def cp_X6_copyFrom : (zD × Nat × Nat) → zH → Prop := fun (S, a, q) h => rpS S h q ∧ (a + 7 ≤ q ∨ q + 7 ≤ a)
def cq_X6_copyFrom : (zD × Nat × Nat) → zH → Option zV → zH → Prop := fun (S, a, q) h r h' => r = none ∧ sm a 7 h h' ∧ rpS S h' a
theorem rc_X6_copyFrom : ∀ x : (zD × Nat × Nat), ∃ (j a : Nat) (As : List zV), ca_X6_copyFrom x = vR (10 + 5) j a :: As := by
  rintro ⟨S, a, q⟩
  exact ⟨_, _, _, rfl⟩
set_option maxHeartbeats 4000000 in
set_option maxRecDepth 100000 in
theorem m_X6_copyFrom : zM yX6_copyFrom cX6_copyFrom 2 none ({ frames := 1, cells := 0, slots := 0, locals := 60 } : Room) ((ca_X6_copyFrom, cp_X6_copyFrom, cq_X6_copyFrom) : zC (zD × Nat × Nat)) := by
  refine zM_of (by decide) ?_
  rintro X Y ⟨S, a, q⟩ h ⟨hS, hd⟩ O E hR
  have B_0 := zr_aload_n (X := X) (Y := Y) (u := 0) (v := 0) O dX6_copyFrom_0 rfl (zr_aload_n O dX6_copyFrom_1 rfl (zr_gI (ci := 5) (j := 0) O zc_5 (by decide) rfl tw_46 dX6_copyFrom_2 (zr_pI (ci := 5) (j := 0) O zc_5 (by decide) rfl rfl rfl tw_46 dX6_copyFrom_5 (zr_aload_n O dX6_copyFrom_8 rfl (zr_gS (ci := 5) (j := 1) (off := 1) (t := 1) (n := 10) O zc_5 (by decide) rfl tw_50 dX6_copyFrom_9 (zr_iconst (x := 0) O dX6_copyFrom_12 rfl (zr_aload_n O dX6_copyFrom_13 rfl (zr_gS (ci := 5) (j := 1) (off := 1) (t := 1) (n := 10) O zc_5 (by decide) rfl tw_50 dX6_copyFrom_14 (zr_iconst (x := 0) O dX6_copyFrom_17 rfl (zr_bipush (x := (10)) O dX6_copyFrom_18 (by decide) (zr_cpy O tw_665 zwc ⟨(zrm (a := 1) (b := 60) hR rfl rfl).1, Nat.le_trans zwn (zrm (a := 1) (b := 60) hR rfl rfl).2.1⟩ dX6_copyFrom_20 (zr_aload_n O dX6_copyFrom_23 rfl (zr_gS (ci := 5) (j := 2) (off := 2) (t := 1) (n := 10) O zc_5 (by decide) rfl tw_51 dX6_copyFrom_24 (zr_iconst (x := 0) O dX6_copyFrom_27 rfl (zr_aload_n O dX6_copyFrom_28 rfl (zr_gS (ci := 5) (j := 2) (off := 2) (t := 1) (n := 10) O zc_5 (by decide) rfl tw_51 dX6_copyFrom_29 (zr_iconst (x := 0) O dX6_copyFrom_32 rfl (zr_bipush (x := (10)) O dX6_copyFrom_33 (by decide) (zr_cpy O tw_665 zwc ⟨(zrm (a := 1) (b := 60) hR rfl rfl).1, Nat.le_trans zwn (zrm (a := 1) (b := 60) hR rfl rfl).2.1⟩ dX6_copyFrom_35 (zr_aload_n O dX6_copyFrom_38 rfl (zr_gS (ci := 5) (j := 3) (off := 3) (t := 1) (n := 10) O zc_5 (by decide) rfl tw_52 dX6_copyFrom_39 (zr_iconst (x := 0) O dX6_copyFrom_42 rfl (zr_aload_n O dX6_copyFrom_43 rfl (zr_gS (ci := 5) (j := 3) (off := 3) (t := 1) (n := 10) O zc_5 (by decide) rfl tw_52 dX6_copyFrom_44 (zr_iconst (x := 0) O dX6_copyFrom_47 rfl (zr_bipush (x := (10)) O dX6_copyFrom_48 (by decide) (zr_cpy O tw_665 zwc ⟨(zrm (a := 1) (b := 60) hR rfl rfl).1, Nat.le_trans zwn (zrm (a := 1) (b := 60) hR rfl rfl).2.1⟩ dX6_copyFrom_50 (zr_aload_n O dX6_copyFrom_53 rfl (zr_aload_n O dX6_copyFrom_54 rfl (zr_gI (ci := 5) (j := 4) O zc_5 (by decide) rfl tw_54 dX6_copyFrom_55 (zr_pI (ci := 5) (j := 4) O zc_5 (by decide) rfl rfl rfl tw_54 dX6_copyFrom_58 (zr_aload_n O dX6_copyFrom_61 rfl (zr_gS (ci := 5) (j := 5) (off := 4) (t := 1) (n := 28) O zc_5 (by decide) rfl tw_59 dX6_copyFrom_62 (zr_iconst (x := 0) O dX6_copyFrom_65 rfl (zr_aload_n O dX6_copyFrom_66 rfl (zr_gS (ci := 5) (j := 5) (off := 4) (t := 1) (n := 28) O zc_5 (by decide) rfl tw_59 dX6_copyFrom_67 (zr_iconst (x := 0) O dX6_copyFrom_70 rfl (zr_bipush (x := (28)) O dX6_copyFrom_71 (by decide) (zr_cpy O tw_665 zwc ⟨(zrm (a := 1) (b := 60) hR rfl rfl).1, Nat.le_trans zwn (zrm (a := 1) (b := 60) hR rfl rfl).2.1⟩ dX6_copyFrom_73 (zr_aload_n O dX6_copyFrom_76 rfl (zr_gS (ci := 5) (j := 6) (off := 5) (t := 1) (n := 28) O zc_5 (by decide) rfl tw_66 dX6_copyFrom_77 (zr_iconst (x := 0) O dX6_copyFrom_80 rfl (zr_aload_n O dX6_copyFrom_81 rfl (zr_gS (ci := 5) (j := 6) (off := 5) (t := 1) (n := 28) O zc_5 (by decide) rfl tw_66 dX6_copyFrom_82 (zr_iconst (x := 0) O dX6_copyFrom_85 rfl (zr_bipush (x := (28)) O dX6_copyFrom_86 (by decide) (zr_cpy O tw_665 zwc ⟨(zrm (a := 1) (b := 60) hR rfl rfl).1, Nat.le_trans zwn (zrm (a := 1) (b := 60) hR rfl rfl).2.1⟩ dX6_copyFrom_88 (zr_aload_n O dX6_copyFrom_91 rfl (zr_gS (ci := 5) (j := 7) (off := 6) (t := 1) (n := 5) O zc_5 (by decide) rfl tw_73 dX6_copyFrom_92 (zr_iconst (x := 0) O dX6_copyFrom_95 rfl (zr_aload_n O dX6_copyFrom_96 rfl (zr_gS (ci := 5) (j := 7) (off := 6) (t := 1) (n := 5) O zc_5 (by decide) rfl tw_73 dX6_copyFrom_97 (zr_iconst (x := 0) O dX6_copyFrom_100 rfl (zr_iconst (x := 5) O dX6_copyFrom_101 rfl (zr_cpy O tw_665 zwc ⟨(zrm (a := 1) (b := 60) hR rfl rfl).1, Nat.le_trans zwn (zrm (a := 1) (b := 60) hR rfl rfl).2.1⟩ dX6_copyFrom_102 (zr_return O E (Nat.le_refl _) (Nat.le_refl _) dX6_copyFrom_105))))))))))))))))))))))))))))))))))))))))))))))))))))))))
  refine ⟨rfl, Nat.le_of_ble_eq_true rfl, _, B_0, ?_⟩
  have hS : rpS S h q := hS
  refine ⟨rfl, rfl, 10, rfl, by decide, by decide, rfl, rfl, 10, rfl, by decide, by decide, rfl, rfl, 10, rfl, by decide, by decide, rfl, rfl, 28, rfl, by decide, by decide, rfl, rfl, 28, rfl, by decide, by decide, rfl, rfl, 5, rfl, by decide, by decide, rfl, ?_, ?_⟩
  · simp only [zsI_W]
    exact sm_tr (sm_tr (sm_tr (sm_tr (sm_tr (sm_tr (sm_tr (sm_W _ _ (by omega) (by omega)) (sm_W _ _ (by omega) (by omega))) (sm_W _ _ (by omega) (by omega))) (sm_W _ _ (by omega) (by omega))) (sm_W _ _ (by omega) (by omega))) (sm_W _ _ (by omega) (by omega))) (sm_W _ _ (by omega) (by omega))) (sm_W _ _ (by omega) (by omega))
  · obtain ⟨⟨n1, n2⟩, ⟨p1, p2⟩, r1, f1, t1⟩ := hS
    simp only [zsI_W]
    refine ⟨⟨?_, n2⟩, ⟨?_, p2⟩, fun r hr => ⟨?_, ?_, ?_⟩, fun p hp => ⟨⟨?_, (f1 p hp).1.2⟩, ?_, (f1 p hp).2.2⟩, fun k hk => ?_⟩
    · simp (disch := omega) only [zsW_s, zsW_n]
      exact n1
    · simp (disch := omega) only [zsW_s, zsW_n]
      exact p1
    · simp (disch := omega) only [zsW_s, zsW_n]
      rw [if_pos (by omega)]
      exact (r1 r hr).1
    · simp (disch := omega) only [zsW_s, zsW_n]
      rw [if_pos (by omega)]
      exact (r1 r hr).2.1
    · simp (disch := omega) only [zsW_s, zsW_n]
      rw [if_pos (by omega)]
      exact (r1 r hr).2.2
    · simp (disch := omega) only [zsW_s, zsW_n]
      rw [if_pos (by omega)]
      exact (f1 p hp).1.1
    · simp (disch := omega) only [zsW_s, zsW_n]
      rw [if_pos (by omega)]
      exact (f1 p hp).2.1
    · simp (disch := omega) only [zsW_s, zsW_n]
      rw [if_pos (by omega)]
      exact t1 k hk
def ca_X6_traitRow : (Nat × Nat) → List zV := fun (a, w) => [vR 15 0 a, vI (nI w)]
def cp_X6_traitRow : (Nat × Nat) → zH → Prop := fun (a, w) _ => w < 3
def cq_X6_traitRow : (Nat × Nat) → zH → Option zV → zH → Prop := fun (a, w) h r h' => r = some (vR 1 10 (a + (w + 1))) ∧ h' = h
theorem rc_X6_traitRow : ∀ x : (Nat × Nat), ∃ (j a : Nat) (As : List zV), ca_X6_traitRow x = vR (10 + 5) j a :: As := by
  rintro ⟨a, w⟩
  exact ⟨_, _, _, rfl⟩
set_option maxHeartbeats 4000000 in
set_option maxRecDepth 100000 in
theorem m_X6_traitRow : zM yX6_traitRow cX6_traitRow 2 (some (.array .int)) ({ frames := 0, cells := 0, slots := 0, locals := 0 } : Room) ((ca_X6_traitRow, cp_X6_traitRow, cq_X6_traitRow) : zC (Nat × Nat)) := by
  refine zM_of (by decide) ?_
  rintro X Y ⟨a, w⟩ h hw O E hR
  have B_27 := zr_areturn (X := X) (Y := Y) (u := 0) (v := 0) O E (Or.inr ⟨_, rfl⟩) (Nat.le_refl _) (Nat.le_refl _) dX6_traitRow_27
  have B_23 := zr_aload_n (X := X) (Y := Y) (u := 0) (v := 0) O dX6_traitRow_23 rfl (zr_gS (ci := 5) (j := 3) (off := 3) (t := 1) (n := 10) O zc_5 (by decide) rfl tw_52 dX6_traitRow_24 (B_27))
  have B_11 := zr_iload_n (X := X) (Y := Y) (u := 0) (v := 0) O dX6_traitRow_11 rfl (zr_iconst (x := 1) O dX6_traitRow_12 rfl (zr_icne (tgt := 23) O dX6_traitRow_13 rfl B_23 (zr_aload_n O dX6_traitRow_16 rfl (zr_gS (ci := 5) (j := 2) (off := 2) (t := 1) (n := 10) O zc_5 (by decide) rfl tw_51 dX6_traitRow_17 (zr_goto (tgt := 27) O dX6_traitRow_20 rfl B_27)))))
  have B_0 := zr_iload_n (X := X) (Y := Y) (u := 0) (v := 0) O dX6_traitRow_0 rfl (zr_ifne (tgt := 11) O dX6_traitRow_1 rfl B_11 (zr_aload_n O dX6_traitRow_4 rfl (zr_gS (ci := 5) (j := 1) (off := 1) (t := 1) (n := 10) O zc_5 (by decide) rfl tw_50 dX6_traitRow_5 (zr_goto (tgt := 27) O dX6_traitRow_8 rfl B_27))))
  refine ⟨rfl, Nat.le_of_ble_eq_true rfl, _, B_0, ?_⟩
  have hw : w < 3 := hw
  have : w = 0 ∨ w = 1 ∨ w = 2 := by omega
  rcases this with rfl | rfl | rfl
  · exact ⟨fun cq => absurd rfl cq, fun _ => ⟨rfl, rfl⟩⟩
  · exact ⟨fun _ => ⟨fun cq => absurd rfl cq, fun _ => ⟨rfl, rfl⟩⟩, fun cq => absurd cq (by decide)⟩
  · exact ⟨fun _ => ⟨fun _ => ⟨rfl, rfl⟩, fun cq => absurd cq (by decide)⟩, fun cq => absurd cq (by decide)⟩
end
section
theorem dX1_clear_0 : decode cX1_clear 0 = .ok (.aload_n 0, 1) := by decide +kernel
theorem dX1_clear_1 : decode cX1_clear 1 = .ok (.iconst 0, 1) := by decide +kernel
theorem dX1_clear_2 : decode cX1_clear 2 = .ok (.putfield 15, 3) := by decide +kernel
theorem dX1_clear_5 : decode cX1_clear 5 = .ok (.aload_n 0, 1) := by decide +kernel
theorem dX1_clear_6 : decode cX1_clear 6 = .ok (.iconst 0, 1) := by decide +kernel
theorem dX1_clear_7 : decode cX1_clear 7 = .ok (.putfield 19, 3) := by decide +kernel
theorem dX1_clear_10 : decode cX1_clear 10 = .ok (.return_, 1) := by decide +kernel
theorem dX1_copyFrom_0 : decode cX1_copyFrom 0 = .ok (.aload_n 0, 1) := by decide +kernel
theorem dX1_copyFrom_1 : decode cX1_copyFrom 1 = .ok (.aload_n 1, 1) := by decide +kernel
theorem dX1_copyFrom_2 : decode cX1_copyFrom 2 = .ok (.getfield 15, 3) := by decide +kernel
theorem dX1_copyFrom_5 : decode cX1_copyFrom 5 = .ok (.putfield 15, 3) := by decide +kernel
theorem dX1_copyFrom_8 : decode cX1_copyFrom 8 = .ok (.aload_n 1, 1) := by decide +kernel
theorem dX1_copyFrom_9 : decode cX1_copyFrom 9 = .ok (.getfield 9, 3) := by decide +kernel
theorem dX1_copyFrom_12 : decode cX1_copyFrom 12 = .ok (.iconst 0, 1) := by decide +kernel
theorem dX1_copyFrom_13 : decode cX1_copyFrom 13 = .ok (.aload_n 0, 1) := by decide +kernel
theorem dX1_copyFrom_14 : decode cX1_copyFrom 14 = .ok (.getfield 9, 3) := by decide +kernel
theorem dX1_copyFrom_17 : decode cX1_copyFrom 17 = .ok (.iconst 0, 1) := by decide +kernel
theorem dX1_copyFrom_18 : decode cX1_copyFrom 18 = .ok (.bipush 28, 2) := by decide +kernel
theorem dX1_copyFrom_20 : decode cX1_copyFrom 20 = .ok (.invokestatic 22, 3) := by decide +kernel
theorem dX1_copyFrom_23 : decode cX1_copyFrom 23 = .ok (.aload_n 0, 1) := by decide +kernel
theorem dX1_copyFrom_24 : decode cX1_copyFrom 24 = .ok (.aload_n 1, 1) := by decide +kernel
theorem dX1_copyFrom_25 : decode cX1_copyFrom 25 = .ok (.getfield 28, 3) := by decide +kernel
theorem dX1_copyFrom_28 : decode cX1_copyFrom 28 = .ok (.putfield 28, 3) := by decide +kernel
theorem dX1_copyFrom_31 : decode cX1_copyFrom 31 = .ok (.aload_n 0, 1) := by decide +kernel
theorem dX1_copyFrom_32 : decode cX1_copyFrom 32 = .ok (.aload_n 1, 1) := by decide +kernel
theorem dX1_copyFrom_33 : decode cX1_copyFrom 33 = .ok (.getfield 19, 3) := by decide +kernel
theorem dX1_copyFrom_36 : decode cX1_copyFrom 36 = .ok (.putfield 19, 3) := by decide +kernel
theorem dX1_copyFrom_39 : decode cX1_copyFrom 39 = .ok (.aload_n 0, 1) := by decide +kernel
theorem dX1_copyFrom_40 : decode cX1_copyFrom 40 = .ok (.aload_n 1, 1) := by decide +kernel
theorem dX1_copyFrom_41 : decode cX1_copyFrom 41 = .ok (.getfield 31, 3) := by decide +kernel
theorem dX1_copyFrom_44 : decode cX1_copyFrom 44 = .ok (.putfield 31, 3) := by decide +kernel
theorem dX1_copyFrom_47 : decode cX1_copyFrom 47 = .ok (.aload_n 0, 1) := by decide +kernel
theorem dX1_copyFrom_48 : decode cX1_copyFrom 48 = .ok (.aload_n 1, 1) := by decide +kernel
theorem dX1_copyFrom_49 : decode cX1_copyFrom 49 = .ok (.getfield 34, 3) := by decide +kernel
theorem dX1_copyFrom_52 : decode cX1_copyFrom 52 = .ok (.putfield 34, 3) := by decide +kernel
theorem dX1_copyFrom_55 : decode cX1_copyFrom 55 = .ok (.aload_n 0, 1) := by decide +kernel
theorem dX1_copyFrom_56 : decode cX1_copyFrom 56 = .ok (.aload_n 1, 1) := by decide +kernel
theorem dX1_copyFrom_57 : decode cX1_copyFrom 57 = .ok (.getfield 37, 3) := by decide +kernel
theorem dX1_copyFrom_60 : decode cX1_copyFrom 60 = .ok (.putfield 37, 3) := by decide +kernel
theorem dX1_copyFrom_63 : decode cX1_copyFrom 63 = .ok (.aload_n 0, 1) := by decide +kernel
theorem dX1_copyFrom_64 : decode cX1_copyFrom 64 = .ok (.aload_n 1, 1) := by decide +kernel
theorem dX1_copyFrom_65 : decode cX1_copyFrom 65 = .ok (.getfield 40, 3) := by decide +kernel
theorem dX1_copyFrom_68 : decode cX1_copyFrom 68 = .ok (.putfield 40, 3) := by decide +kernel
theorem dX1_copyFrom_71 : decode cX1_copyFrom 71 = .ok (.aload_n 0, 1) := by decide +kernel
theorem dX1_copyFrom_72 : decode cX1_copyFrom 72 = .ok (.aload_n 1, 1) := by decide +kernel
theorem dX1_copyFrom_73 : decode cX1_copyFrom 73 = .ok (.getfield 43, 3) := by decide +kernel
theorem dX1_copyFrom_76 : decode cX1_copyFrom 76 = .ok (.putfield 43, 3) := by decide +kernel
theorem dX1_copyFrom_79 : decode cX1_copyFrom 79 = .ok (.return_, 1) := by decide +kernel
theorem dX1_isEmpty_12 : decode cX1_isEmpty 12 = .ok (.ireturn, 1) := by decide +kernel
theorem dX1_isEmpty_11 : decode cX1_isEmpty 11 = .ok (.iconst 0, 1) := by decide +kernel
theorem dX1_isEmpty_0 : decode cX1_isEmpty 0 = .ok (.aload_n 0, 1) := by decide +kernel
theorem dX1_isEmpty_1 : decode cX1_isEmpty 1 = .ok (.getfield 15, 3) := by decide +kernel
theorem dX1_isEmpty_4 : decode cX1_isEmpty 4 = .ok (.ifCond .ne 7, 3) := by decide +kernel
theorem dX1_isEmpty_7 : decode cX1_isEmpty 7 = .ok (.iconst 1, 1) := by decide +kernel
theorem dX1_isEmpty_8 : decode cX1_isEmpty 8 = .ok (.goto 4, 3) := by decide +kernel
theorem dX1_secretBits_0 : decode cX1_secretBits 0 = .ok (.aload_n 0, 1) := by decide +kernel
theorem dX1_secretBits_1 : decode cX1_secretBits 1 = .ok (.getfield 19, 3) := by decide +kernel
theorem dX1_secretBits_4 : decode cX1_secretBits 4 = .ok (.aload_n 0, 1) := by decide +kernel
theorem dX1_secretBits_5 : decode cX1_secretBits 5 = .ok (.getfield 28, 3) := by decide +kernel
theorem dX1_secretBits_8 : decode cX1_secretBits 8 = .ok (.invokestatic 77, 3) := by decide +kernel
theorem dX1_secretBits_11 : decode cX1_secretBits 11 = .ok (.imul, 1) := by decide +kernel
theorem dX1_secretBits_12 : decode cX1_secretBits 12 = .ok (.ireturn, 1) := by decide +kernel
theorem dX1_leaked_0 : decode cX1_leaked 0 = .ok (.aload_n 0, 1) := by decide +kernel
theorem dX1_leaked_1 : decode cX1_leaked 1 = .ok (.getfield 19, 3) := by decide +kernel
theorem dX1_leaked_4 : decode cX1_leaked 4 = .ok (.aload_n 0, 1) := by decide +kernel
theorem dX1_leaked_5 : decode cX1_leaked 5 = .ok (.getfield 28, 3) := by decide +kernel
theorem dX1_leaked_8 : decode cX1_leaked 8 = .ok (.invokestatic 61, 3) := by decide +kernel
theorem dX1_leaked_11 : decode cX1_leaked 11 = .ok (.aload_n 0, 1) := by decide +kernel
theorem dX1_leaked_12 : decode cX1_leaked 12 = .ok (.getfield 28, 3) := by decide +kernel
theorem dX1_leaked_15 : decode cX1_leaked 15 = .ok (.invokestatic 77, 3) := by decide +kernel
theorem dX1_leaked_18 : decode cX1_leaked 18 = .ok (.isub, 1) := by decide +kernel
theorem dX1_leaked_19 : decode cX1_leaked 19 = .ok (.imul, 1) := by decide +kernel
theorem dX1_leaked_20 : decode cX1_leaked 20 = .ok (.iconst 4, 1) := by decide +kernel
theorem dX1_leaked_21 : decode cX1_leaked 21 = .ok (.iadd, 1) := by decide +kernel
theorem dX1_leaked_22 : decode cX1_leaked 22 = .ok (.ireturn, 1) := by decide +kernel
theorem dX1_placeOf_28 : decode cX1_placeOf 28 = .ok (.iconst (-1), 1) := by decide +kernel
theorem dX1_placeOf_29 : decode cX1_placeOf 29 = .ok (.ireturn, 1) := by decide +kernel
theorem dX1_placeOf_22 : decode cX1_placeOf 22 = .ok (.iinc 2 1, 3) := by decide +kernel
theorem dX1_placeOf_25 : decode cX1_placeOf 25 = .ok (.goto (-23), 3) := by decide +kernel
theorem dX1_placeOf_2 : decode cX1_placeOf 2 = .ok (.iload_n 2, 1) := by decide +kernel
theorem dX1_placeOf_3 : decode cX1_placeOf 3 = .ok (.aload_n 0, 1) := by decide +kernel
theorem dX1_placeOf_4 : decode cX1_placeOf 4 = .ok (.getfield 15, 3) := by decide +kernel
theorem dX1_placeOf_7 : decode cX1_placeOf 7 = .ok (.if_icmp .ge 21, 3) := by decide +kernel
theorem dX1_placeOf_10 : decode cX1_placeOf 10 = .ok (.aload_n 0, 1) := by decide +kernel
theorem dX1_placeOf_11 : decode cX1_placeOf 11 = .ok (.getfield 9, 3) := by decide +kernel
theorem dX1_placeOf_14 : decode cX1_placeOf 14 = .ok (.iload_n 2, 1) := by decide +kernel
theorem dX1_placeOf_15 : decode cX1_placeOf 15 = .ok (.iaload, 1) := by decide +kernel
theorem dX1_placeOf_16 : decode cX1_placeOf 16 = .ok (.iload_n 1, 1) := by decide +kernel
theorem dX1_placeOf_17 : decode cX1_placeOf 17 = .ok (.if_icmp .ne 5, 3) := by decide +kernel
theorem dX1_placeOf_20 : decode cX1_placeOf 20 = .ok (.iload_n 2, 1) := by decide +kernel
theorem dX1_placeOf_21 : decode cX1_placeOf 21 = .ok (.ireturn, 1) := by decide +kernel
theorem dX1_placeOf_0 : decode cX1_placeOf 0 = .ok (.iconst 0, 1) := by decide +kernel
theorem dX1_placeOf_1 : decode cX1_placeOf 1 = .ok (.istore_n 2, 1) := by decide +kernel
theorem dX1_pairsAsSet_29 : decode cX1_pairsAsSet 29 = .ok (.iload_n 1, 1) := by decide +kernel
theorem dX1_pairsAsSet_30 : decode cX1_pairsAsSet 30 = .ok (.ireturn, 1) := by decide +kernel
theorem dX1_pairsAsSet_4 : decode cX1_pairsAsSet 4 = .ok (.iload_n 2, 1) := by decide +kernel
theorem dX1_pairsAsSet_5 : decode cX1_pairsAsSet 5 = .ok (.aload_n 0, 1) := by decide +kernel
theorem dX1_pairsAsSet_6 : decode cX1_pairsAsSet 6 = .ok (.getfield 15, 3) := by decide +kernel
theorem dX1_pairsAsSet_9 : decode cX1_pairsAsSet 9 = .ok (.if_icmp .ge 20, 3) := by decide +kernel
theorem dX1_pairsAsSet_12 : decode cX1_pairsAsSet 12 = .ok (.iload_n 1, 1) := by decide +kernel
theorem dX1_pairsAsSet_13 : decode cX1_pairsAsSet 13 = .ok (.iconst 1, 1) := by decide +kernel
theorem dX1_pairsAsSet_14 : decode cX1_pairsAsSet 14 = .ok (.aload_n 0, 1) := by decide +kernel
theorem dX1_pairsAsSet_15 : decode cX1_pairsAsSet 15 = .ok (.getfield 9, 3) := by decide +kernel
theorem dX1_pairsAsSet_18 : decode cX1_pairsAsSet 18 = .ok (.iload_n 2, 1) := by decide +kernel
theorem dX1_pairsAsSet_19 : decode cX1_pairsAsSet 19 = .ok (.iaload, 1) := by decide +kernel
theorem dX1_pairsAsSet_20 : decode cX1_pairsAsSet 20 = .ok (.ishl, 1) := by decide +kernel
theorem dX1_pairsAsSet_21 : decode cX1_pairsAsSet 21 = .ok (.ior, 1) := by decide +kernel
theorem dX1_pairsAsSet_22 : decode cX1_pairsAsSet 22 = .ok (.istore_n 1, 1) := by decide +kernel
theorem dX1_pairsAsSet_23 : decode cX1_pairsAsSet 23 = .ok (.iinc 2 1, 3) := by decide +kernel
theorem dX1_pairsAsSet_26 : decode cX1_pairsAsSet 26 = .ok (.goto (-22), 3) := by decide +kernel
theorem dX1_pairsAsSet_0 : decode cX1_pairsAsSet 0 = .ok (.iconst 0, 1) := by decide +kernel
theorem dX1_pairsAsSet_1 : decode cX1_pairsAsSet 1 = .ok (.istore_n 1, 1) := by decide +kernel
theorem dX1_pairsAsSet_2 : decode cX1_pairsAsSet 2 = .ok (.iconst 0, 1) := by decide +kernel
theorem dX1_pairsAsSet_3 : decode cX1_pairsAsSet 3 = .ok (.istore_n 2, 1) := by decide +kernel
theorem dX1_shakyAt_61 : decode cX1_shakyAt 61 = .ok (.iload_n 3, 1) := by decide +kernel
theorem dX1_shakyAt_62 : decode cX1_shakyAt 62 = .ok (.ireturn, 1) := by decide +kernel
theorem dX1_shakyAt_53 : decode cX1_shakyAt 53 = .ok (.ior, 1) := by decide +kernel
theorem dX1_shakyAt_54 : decode cX1_shakyAt 54 = .ok (.istore_n 3, 1) := by decide +kernel
theorem dX1_shakyAt_55 : decode cX1_shakyAt 55 = .ok (.iinc 4 1, 3) := by decide +kernel
theorem dX1_shakyAt_58 : decode cX1_shakyAt 58 = .ok (.goto (-53), 3) := by decide +kernel
theorem dX1_shakyAt_52 : decode cX1_shakyAt 52 = .ok (.iconst 0, 1) := by decide +kernel
theorem dX1_shakyAt_5 : decode cX1_shakyAt 5 = .ok (.iload 4, 2) := by decide +kernel
theorem dX1_shakyAt_7 : decode cX1_shakyAt 7 = .ok (.aload_n 0, 1) := by decide +kernel
theorem dX1_shakyAt_8 : decode cX1_shakyAt 8 = .ok (.getfield 15, 3) := by decide +kernel
theorem dX1_shakyAt_11 : decode cX1_shakyAt 11 = .ok (.if_icmp .ge 50, 3) := by decide +kernel
theorem dX1_shakyAt_14 : decode cX1_shakyAt 14 = .ok (.iconst 1, 1) := by decide +kernel
theorem dX1_shakyAt_15 : decode cX1_shakyAt 15 = .ok (.aload_n 0, 1) := by decide +kernel
theorem dX1_shakyAt_16 : decode cX1_shakyAt 16 = .ok (.getfield 31, 3) := by decide +kernel
theorem dX1_shakyAt_19 : decode cX1_shakyAt 19 = .ok (.iload 4, 2) := by decide +kernel
theorem dX1_shakyAt_21 : decode cX1_shakyAt 21 = .ok (.invokestatic 67, 3) := by decide +kernel
theorem dX1_shakyAt_24 : decode cX1_shakyAt 24 = .ok (.isub, 1) := by decide +kernel
theorem dX1_shakyAt_25 : decode cX1_shakyAt 25 = .ok (.istore 5, 2) := by decide +kernel
theorem dX1_shakyAt_27 : decode cX1_shakyAt 27 = .ok (.iload_n 3, 1) := by decide +kernel
theorem dX1_shakyAt_28 : decode cX1_shakyAt 28 = .ok (.aload_n 1, 1) := by decide +kernel
theorem dX1_shakyAt_29 : decode cX1_shakyAt 29 = .ok (.aload_n 0, 1) := by decide +kernel
theorem dX1_shakyAt_30 : decode cX1_shakyAt 30 = .ok (.getfield 9, 3) := by decide +kernel
theorem dX1_shakyAt_33 : decode cX1_shakyAt 33 = .ok (.iload 4, 2) := by decide +kernel
theorem dX1_shakyAt_35 : decode cX1_shakyAt 35 = .ok (.iaload, 1) := by decide +kernel
theorem dX1_shakyAt_36 : decode cX1_shakyAt 36 = .ok (.iload_n 2, 1) := by decide +kernel
theorem dX1_shakyAt_37 : decode cX1_shakyAt 37 = .ok (.iload 5, 2) := by decide +kernel
theorem dX1_shakyAt_39 : decode cX1_shakyAt 39 = .ok (.invokevirtual 80, 3) := by decide +kernel
theorem dX1_shakyAt_42 : decode cX1_shakyAt 42 = .ok (.ifCond .eq 10, 3) := by decide +kernel
theorem dX1_shakyAt_45 : decode cX1_shakyAt 45 = .ok (.iconst 1, 1) := by decide +kernel
theorem dX1_shakyAt_46 : decode cX1_shakyAt 46 = .ok (.iload 4, 2) := by decide +kernel
theorem dX1_shakyAt_48 : decode cX1_shakyAt 48 = .ok (.ishl, 1) := by decide +kernel
theorem dX1_shakyAt_49 : decode cX1_shakyAt 49 = .ok (.goto 4, 3) := by decide +kernel
theorem dX1_shakyAt_0 : decode cX1_shakyAt 0 = .ok (.iconst 0, 1) := by decide +kernel
theorem dX1_shakyAt_1 : decode cX1_shakyAt 1 = .ok (.istore_n 3, 1) := by decide +kernel
theorem dX1_shakyAt_2 : decode cX1_shakyAt 2 = .ok (.iconst 0, 1) := by decide +kernel
theorem dX1_shakyAt_3 : decode cX1_shakyAt 3 = .ok (.istore 4, 2) := by decide +kernel
theorem dX1_isSafeBlock_55 : decode cX1_isSafeBlock 55 = .ok (.ireturn, 1) := by decide +kernel
theorem dX1_isSafeBlock_54 : decode cX1_isSafeBlock 54 = .ok (.iconst 0, 1) := by decide +kernel
theorem dX1_isSafeBlock_0 : decode cX1_isSafeBlock 0 = .ok (.aload_n 0, 1) := by decide +kernel
theorem dX1_isSafeBlock_1 : decode cX1_isSafeBlock 1 = .ok (.getfield 28, 3) := by decide +kernel
theorem dX1_isSafeBlock_4 : decode cX1_isSafeBlock 4 = .ok (.invokestatic 61, 3) := by decide +kernel
theorem dX1_isSafeBlock_7 : decode cX1_isSafeBlock 7 = .ok (.istore_n 3, 1) := by decide +kernel
theorem dX1_isSafeBlock_8 : decode cX1_isSafeBlock 8 = .ok (.iload_n 2, 1) := by decide +kernel
theorem dX1_isSafeBlock_9 : decode cX1_isSafeBlock 9 = .ok (.aload_n 0, 1) := by decide +kernel
theorem dX1_isSafeBlock_10 : decode cX1_isSafeBlock 10 = .ok (.getfield 34, 3) := by decide +kernel
theorem dX1_isSafeBlock_13 : decode cX1_isSafeBlock 13 = .ok (.aload_n 0, 1) := by decide +kernel
theorem dX1_isSafeBlock_14 : decode cX1_isSafeBlock 14 = .ok (.getfield 37, 3) := by decide +kernel
theorem dX1_isSafeBlock_17 : decode cX1_isSafeBlock 17 = .ok (.ixor, 1) := by decide +kernel
theorem dX1_isSafeBlock_18 : decode cX1_isSafeBlock 18 = .ok (.ior, 1) := by decide +kernel
theorem dX1_isSafeBlock_19 : decode cX1_isSafeBlock 19 = .ok (.istore 4, 2) := by decide +kernel
theorem dX1_isSafeBlock_21 : decode cX1_isSafeBlock 21 = .ok (.iload 4, 2) := by decide +kernel
theorem dX1_isSafeBlock_23 : decode cX1_isSafeBlock 23 = .ok (.iload_n 1, 1) := by decide +kernel
theorem dX1_isSafeBlock_24 : decode cX1_isSafeBlock 24 = .ok (.iload_n 3, 1) := by decide +kernel
theorem dX1_isSafeBlock_25 : decode cX1_isSafeBlock 25 = .ok (.imul, 1) := by decide +kernel
theorem dX1_isSafeBlock_26 : decode cX1_isSafeBlock 26 = .ok (.ishr, 1) := by decide +kernel
theorem dX1_isSafeBlock_27 : decode cX1_isSafeBlock 27 = .ok (.iconst 1, 1) := by decide +kernel
theorem dX1_isSafeBlock_28 : decode cX1_isSafeBlock 28 = .ok (.iload_n 3, 1) := by decide +kernel
theorem dX1_isSafeBlock_29 : decode cX1_isSafeBlock 29 = .ok (.ishl, 1) := by decide +kernel
theorem dX1_isSafeBlock_30 : decode cX1_isSafeBlock 30 = .ok (.iconst 1, 1) := by decide +kernel
theorem dX1_isSafeBlock_31 : decode cX1_isSafeBlock 31 = .ok (.isub, 1) := by decide +kernel
theorem dX1_isSafeBlock_32 : decode cX1_isSafeBlock 32 = .ok (.iand, 1) := by decide +kernel
theorem dX1_isSafeBlock_33 : decode cX1_isSafeBlock 33 = .ok (.istore 5, 2) := by decide +kernel
theorem dX1_isSafeBlock_35 : decode cX1_isSafeBlock 35 = .ok (.iload 5, 2) := by decide +kernel
theorem dX1_isSafeBlock_37 : decode cX1_isSafeBlock 37 = .ok (.invokestatic 84, 3) := by decide +kernel
theorem dX1_isSafeBlock_40 : decode cX1_isSafeBlock 40 = .ok (.aload_n 0, 1) := by decide +kernel
theorem dX1_isSafeBlock_41 : decode cX1_isSafeBlock 41 = .ok (.getfield 28, 3) := by decide +kernel
theorem dX1_isSafeBlock_44 : decode cX1_isSafeBlock 44 = .ok (.invokestatic 89, 3) := by decide +kernel
theorem dX1_isSafeBlock_47 : decode cX1_isSafeBlock 47 = .ok (.if_icmp .gt 7, 3) := by decide +kernel
theorem dX1_isSafeBlock_50 : decode cX1_isSafeBlock 50 = .ok (.iconst 1, 1) := by decide +kernel
theorem dX1_isSafeBlock_51 : decode cX1_isSafeBlock 51 = .ok (.goto 4, 3) := by decide +kernel
theorem dX1_safeBlocks_35 : decode cX1_safeBlocks 35 = .ok (.iload_n 2, 1) := by decide +kernel
theorem dX1_safeBlocks_36 : decode cX1_safeBlocks 36 = .ok (.ireturn, 1) := by decide +kernel
theorem dX1_safeBlocks_27 : decode cX1_safeBlocks 27 = .ok (.iadd, 1) := by decide +kernel
theorem dX1_safeBlocks_28 : decode cX1_safeBlocks 28 = .ok (.istore_n 2, 1) := by decide +kernel
theorem dX1_safeBlocks_29 : decode cX1_safeBlocks 29 = .ok (.iinc 3 1, 3) := by decide +kernel
theorem dX1_safeBlocks_32 : decode cX1_safeBlocks 32 = .ok (.goto (-28), 3) := by decide +kernel
theorem dX1_safeBlocks_26 : decode cX1_safeBlocks 26 = .ok (.iconst 0, 1) := by decide +kernel
theorem dX1_safeBlocks_4 : decode cX1_safeBlocks 4 = .ok (.iload_n 3, 1) := by decide +kernel
theorem dX1_safeBlocks_5 : decode cX1_safeBlocks 5 = .ok (.aload_n 0, 1) := by decide +kernel
theorem dX1_safeBlocks_6 : decode cX1_safeBlocks 6 = .ok (.getfield 19, 3) := by decide +kernel
theorem dX1_safeBlocks_9 : decode cX1_safeBlocks 9 = .ok (.if_icmp .ge 26, 3) := by decide +kernel
theorem dX1_safeBlocks_12 : decode cX1_safeBlocks 12 = .ok (.iload_n 2, 1) := by decide +kernel
theorem dX1_safeBlocks_13 : decode cX1_safeBlocks 13 = .ok (.aload_n 0, 1) := by decide +kernel
theorem dX1_safeBlocks_14 : decode cX1_safeBlocks 14 = .ok (.iload_n 3, 1) := by decide +kernel
theorem dX1_safeBlocks_15 : decode cX1_safeBlocks 15 = .ok (.iload_n 1, 1) := by decide +kernel
theorem dX1_safeBlocks_16 : decode cX1_safeBlocks 16 = .ok (.invokevirtual 92, 3) := by decide +kernel
theorem dX1_safeBlocks_19 : decode cX1_safeBlocks 19 = .ok (.ifCond .eq 7, 3) := by decide +kernel
theorem dX1_safeBlocks_22 : decode cX1_safeBlocks 22 = .ok (.iconst 1, 1) := by decide +kernel
theorem dX1_safeBlocks_23 : decode cX1_safeBlocks 23 = .ok (.goto 4, 3) := by decide +kernel
theorem dX1_safeBlocks_0 : decode cX1_safeBlocks 0 = .ok (.iconst 0, 1) := by decide +kernel
theorem dX1_safeBlocks_1 : decode cX1_safeBlocks 1 = .ok (.istore_n 2, 1) := by decide +kernel
theorem dX1_safeBlocks_2 : decode cX1_safeBlocks 2 = .ok (.iconst 0, 1) := by decide +kernel
theorem dX1_safeBlocks_3 : decode cX1_safeBlocks 3 = .ok (.istore_n 3, 1) := by decide +kernel
theorem dX1_firstUnsafe_27 : decode cX1_firstUnsafe 27 = .ok (.iconst (-1), 1) := by decide +kernel
theorem dX1_firstUnsafe_28 : decode cX1_firstUnsafe 28 = .ok (.ireturn, 1) := by decide +kernel
theorem dX1_firstUnsafe_21 : decode cX1_firstUnsafe 21 = .ok (.iinc 2 1, 3) := by decide +kernel
theorem dX1_firstUnsafe_24 : decode cX1_firstUnsafe 24 = .ok (.goto (-22), 3) := by decide +kernel
theorem dX1_firstUnsafe_2 : decode cX1_firstUnsafe 2 = .ok (.iload_n 2, 1) := by decide +kernel
theorem dX1_firstUnsafe_3 : decode cX1_firstUnsafe 3 = .ok (.aload_n 0, 1) := by decide +kernel
theorem dX1_firstUnsafe_4 : decode cX1_firstUnsafe 4 = .ok (.getfield 19, 3) := by decide +kernel
theorem dX1_firstUnsafe_7 : decode cX1_firstUnsafe 7 = .ok (.if_icmp .ge 20, 3) := by decide +kernel
theorem dX1_firstUnsafe_10 : decode cX1_firstUnsafe 10 = .ok (.aload_n 0, 1) := by decide +kernel
theorem dX1_firstUnsafe_11 : decode cX1_firstUnsafe 11 = .ok (.iload_n 2, 1) := by decide +kernel
theorem dX1_firstUnsafe_12 : decode cX1_firstUnsafe 12 = .ok (.iload_n 1, 1) := by decide +kernel
theorem dX1_firstUnsafe_13 : decode cX1_firstUnsafe 13 = .ok (.invokevirtual 92, 3) := by decide +kernel
theorem dX1_firstUnsafe_16 : decode cX1_firstUnsafe 16 = .ok (.ifCond .ne 5, 3) := by decide +kernel
theorem dX1_firstUnsafe_19 : decode cX1_firstUnsafe 19 = .ok (.iload_n 2, 1) := by decide +kernel
theorem dX1_firstUnsafe_20 : decode cX1_firstUnsafe 20 = .ok (.ireturn, 1) := by decide +kernel
theorem dX1_firstUnsafe_0 : decode cX1_firstUnsafe 0 = .ok (.iconst 0, 1) := by decide +kernel
theorem dX1_firstUnsafe_1 : decode cX1_firstUnsafe 1 = .ok (.istore_n 2, 1) := by decide +kernel
/-! what is enrolled: how many, which pairs, the code, blocks, bits, helper, helper at first, secret, check -/
abbrev zE : Type := Nat × (Nat → Nat) × Nat × Nat × Nat × Nat × Nat × Nat × Nat
abbrev eN (K : zE) : Nat := K.1
abbrev eP (K : zE) : Nat → Nat := K.2.1
abbrev eR (K : zE) : Nat := K.2.2.1
abbrev eK (K : zE) : Nat := K.2.2.2.1
abbrev eB (K : zE) : Nat := K.2.2.2.2.1
abbrev eH (K : zE) : Nat := K.2.2.2.2.2.1
abbrev eG (K : zE) : Nat := K.2.2.2.2.2.2.1
abbrev eS (K : zE) : Nat := K.2.2.2.2.2.2.2.1
abbrev eC (K : zE) : Nat := K.2.2.2.2.2.2.2.2
def vE (K : zE) : Prop := eN K ≤ 28 ∧ (0 < eN K → (∀ i, i < eN K → eP K i < 28) ∧ vRp (eR K) ∧ eN K = eK K * lnR (eR K) ∧ eK K * btR (eR K) ≤ 16 ∧ (eB K < 2 ^ eN K ∧ eH K < 2 ^ eN K ∧ eG K < 2 ^ eN K) ∧ eS K < 2 ^ (eK K * btR (eR K)) ∧ eC K < 16)
/-- the enrolment at e holds K -/
def rpE (K : zE) (h : zH) (e : Nat) : Prop := h.1 e 0 = nI (eN K) ∧ vE K ∧ (0 < eN K → (∀ i, i < eN K → h.1 (e + 1) i = nI (eP K i)) ∧ (h.1 e 2 = nI (eR K) ∧ h.1 e 3 = nI (eK K)) ∧ (h.1 e 4 = nI (eB K) ∧ h.1 e 5 = nI (eH K) ∧ h.1 e 6 = nI (eG K)) ∧ h.1 e 7 = nI (eS K) ∧ h.1 e 8 = nI (eC K))
theorem rpE_cg {K : zE} {h h' : zH} {e : Nat} (h0 : h'.1 e = h.1 e) (h1 : h'.1 (e + 1) = h.1 (e + 1)) (hE : rpE K h e) : rpE K h' e := by
  unfold rpE at hE ⊢
  rw [h0, h1]
  exact hE
theorem rpE_sm {K : zE} {h h' : zH} {e b n : Nat} (s : sm b n h h') (hd : e + 2 ≤ b ∨ b + n ≤ e) (hE : rpE K h e) : rpE K h' e := rpE_cg (s.1 _ (by omega)) (s.1 _ (by omega)) hE
def eZ : zE := (0, fun _ => 0, 0, 0, 0, 0, 0, 0, 0)
theorem vE_eZ : vE eZ := ⟨Nat.zero_le _, fun z => absurd z (Nat.lt_irrefl _)⟩
theorem vE_b {K : zE} (hv : vE K) (h0 : 0 < eN K) : eB K < 2 ^ 28 ∧ eH K < 2 ^ 28 ∧ eG K < 2 ^ 28 ∧ eS K < 2 ^ 16 ∧ eK K ≤ 16 ∧ (1 ≤ lnR (eR K) ∧ lnR (eR K) ≤ 7 ∧ 1 ≤ btR (eR K) ∧ btR (eR K) ≤ 4) ∧ 1 ≤ eK K := by
  obtain ⟨v1, v2⟩ := hv
  obtain ⟨-, v3, v4, v5, ⟨v6, v7, v8⟩, v9, -⟩ := v2 h0
  have q := lnR_pos v3
  have hp : (2 : Nat) ^ eN K ≤ 2 ^ 28 := Nat.pow_le_pow_right (by omega) v1
  have hp2 : (2 : Nat) ^ (eK K * btR (eR K)) ≤ 2 ^ 16 := Nat.pow_le_pow_right (by omega) v5
  refine ⟨by omega, by omega, by omega, by omega, ?_, q, ?_⟩
  · exact Nat.le_trans (Nat.le_mul_of_pos_right _ (by omega)) v5
  · rcases Nat.eq_zero_or_pos (eK K) with z | z
    · rw [z, Nat.zero_mul] at v4; omega
    · exact z
def ca_X1_clear : (Nat) → List zV := fun e => [vR 10 0 e]
def cp_X1_clear : (Nat) → zH → Prop := fun _ _ => True
def cq_X1_clear : (Nat) → zH → Option zV → zH → Prop := fun e h r h' => r = none ∧ sm e 2 h h' ∧ rpE eZ h' e
theorem rc_X1_clear : ∀ x : (Nat), ∃ (j a : Nat) (As : List zV), ca_X1_clear x = vR (10 + 0) j a :: As := by
  rintro e
  exact ⟨_, _, _, rfl⟩
set_option maxHeartbeats 4000000 in
set_option maxRecDepth 100000 in
theorem m_X1_clear : zM yX1_clear cX1_clear 1 none ({ frames := 0, cells := 0, slots := 0, locals := 0 } : Room) ((ca_X1_clear, cp_X1_clear, cq_X1_clear) : zC (Nat)) := by
  refine zM_of (by decide) ?_
  rintro X Y e h _ O E hR
  have B_0 := zr_aload_n (X := X) (Y := Y) (u := 0) (v := 0) O dX1_clear_0 rfl (zr_iconst (x := 0) O dX1_clear_1 rfl (zr_pI (ci := 0) (j := 0) O zc_0 (by decide) rfl rfl rfl tw_101 dX1_clear_2 (zr_aload_n O dX1_clear_5 rfl (zr_iconst (x := 0) O dX1_clear_6 rfl (zr_pI (ci := 0) (j := 3) O zc_0 (by decide) rfl rfl rfl tw_110 dX1_clear_7 (zr_return O E (Nat.le_refl _) (Nat.le_refl _) dX1_clear_10))))))
  refine ⟨rfl, Nat.le_of_ble_eq_true rfl, _, B_0, ?_⟩
  refine ⟨rfl, sm_tr (sm_I _ _ (by omega) (by omega)) (sm_I _ _ (by omega) (by omega)), ?_, vE_eZ, fun z => absurd z (Nat.lt_irrefl _)⟩
  simp only [zsI_W, zsW_s]
  rfl
def ca_X1_copyFrom : (zE × Nat × Nat) → List zV := fun (K, e, q) => [vR 10 0 e, vR 10 0 q]
def cp_X1_copyFrom : (zE × Nat × Nat) → zH → Prop := fun (K, e, q) h => rpE K h q ∧ (e + 2 ≤ q ∨ q + 2 ≤ e)
def cq_X1_copyFrom : (zE × Nat × Nat) → zH → Option zV → zH → Prop := fun (K, e, q) h r h' => r = none ∧ sm e 2 h h' ∧ rpE K h' e
theorem rc_X1_copyFrom : ∀ x : (zE × Nat × Nat), ∃ (j a : Nat) (As : List zV), ca_X1_copyFrom x = vR (10 + 0) j a :: As := by
  rintro ⟨K, e, q⟩
  exact ⟨_, _, _, rfl⟩
set_option maxHeartbeats 4000000 in
set_option maxRecDepth 100000 in
theorem m_X1_copyFrom : zM yX1_copyFrom cX1_copyFrom 2 none ({ frames := 1, cells := 0, slots := 0, locals := 60 } : Room) ((ca_X1_copyFrom, cp_X1_copyFrom, cq_X1_copyFrom) : zC (zE × Nat × Nat)) := by
  refine zM_of (by decide) ?_
  rintro X Y ⟨K, e, q⟩ h ⟨hE, hd⟩ O E hR
  have B_0 := zr_aload_n (X := X) (Y := Y) (u := 0) (v := 0) O dX1_copyFrom_0 rfl (zr_aload_n O dX1_copyFrom_1 rfl (zr_gI (ci := 0) (j := 0) O zc_0 (by decide) rfl tw_101 dX1_copyFrom_2 (zr_pI (ci := 0) (j := 0) O zc_0 (by decide) rfl rfl rfl tw_101 dX1_copyFrom_5 (zr_aload_n O dX1_copyFrom_8 rfl (zr_gS (ci := 0) (j := 1) (off := 1) (t := 1) (n := 28) O zc_0 (by decide) rfl tw_104 dX1_copyFrom_9 (zr_iconst (x := 0) O dX1_copyFrom_12 rfl (zr_aload_n O dX1_copyFrom_13 rfl (zr_gS (ci := 0) (j := 1) (off := 1) (t := 1) (n := 28) O zc_0 (by decide) rfl tw_104 dX1_copyFrom_14 (zr_iconst (x := 0) O dX1_copyFrom_17 rfl (zr_bipush (x := (28)) O dX1_copyFrom_18 (by decide) (zr_cpy O tw_699 zwc ⟨(zrm (a := 1) (b := 60) hR rfl rfl).1, Nat.le_trans zwn (zrm (a := 1) (b := 60) hR rfl rfl).2.1⟩ dX1_copyFrom_20 (zr_aload_n O dX1_copyFrom_23 rfl (zr_aload_n O dX1_copyFrom_24 rfl (zr_gI (ci := 0) (j := 2) O zc_0 (by decide) rfl tw_108 dX1_copyFrom_25 (zr_pI (ci := 0) (j := 2) O zc_0 (by decide) rfl rfl rfl tw_108 dX1_copyFrom_28 (zr_aload_n O dX1_copyFrom_31 rfl (zr_aload_n O dX1_copyFrom_32 rfl (zr_gI (ci := 0) (j := 3) O zc_0 (by decide) rfl tw_110 dX1_copyFrom_33 (zr_pI (ci := 0) (j := 3) O zc_0 (by decide) rfl rfl rfl tw_110 dX1_copyFrom_36 (zr_aload_n O dX1_copyFrom_39 rfl (zr_aload_n O dX1_copyFrom_40 rfl (zr_gI (ci := 0) (j := 4) O zc_0 (by decide) rfl tw_114 dX1_copyFrom_41 (zr_pI (ci := 0) (j := 4) O zc_0 (by decide) rfl rfl rfl tw_114 dX1_copyFrom_44 (zr_aload_n O dX1_copyFrom_47 rfl (zr_aload_n O dX1_copyFrom_48 rfl (zr_gI (ci := 0) (j := 5) O zc_0 (by decide) rfl tw_117 dX1_copyFrom_49 (zr_pI (ci := 0) (j := 5) O zc_0 (by decide) rfl rfl rfl tw_117 dX1_copyFrom_52 (zr_aload_n O dX1_copyFrom_55 rfl (zr_aload_n O dX1_copyFrom_56 rfl (zr_gI (ci := 0) (j := 6) O zc_0 (by decide) rfl tw_120 dX1_copyFrom_57 (zr_pI (ci := 0) (j := 6) O zc_0 (by decide) rfl rfl rfl tw_120 dX1_copyFrom_60 (zr_aload_n O dX1_copyFrom_63 rfl (zr_aload_n O dX1_copyFrom_64 rfl (zr_gI (ci := 0) (j := 7) O zc_0 (by decide) rfl tw_121 dX1_copyFrom_65 (zr_pI (ci := 0) (j := 7) O zc_0 (by decide) rfl rfl rfl tw_121 dX1_copyFrom_68 (zr_aload_n O dX1_copyFrom_71 rfl (zr_aload_n O dX1_copyFrom_72 rfl (zr_gI (ci := 0) (j := 8) O zc_0 (by decide) rfl tw_125 dX1_copyFrom_73 (zr_pI (ci := 0) (j := 8) O zc_0 (by decide) rfl rfl rfl tw_125 dX1_copyFrom_76 (zr_return O E (Nat.le_refl _) (Nat.le_refl _) dX1_copyFrom_79))))))))))))))))))))))))))))))))))))))))
  refine ⟨rfl, Nat.le_of_ble_eq_true rfl, _, B_0, ?_⟩
  have hE : rpE K h q := hE
  have e1 : q ≠ e := by omega
  have e2 : q ≠ e + 1 := by omega
  have e3 : e ≠ e + 1 := by omega
  have e4 : q + 1 ≠ e := by omega
  have e5 : e + 1 ≠ e := by omega
  refine ⟨rfl, rfl, 28, rfl, by decide, by decide, rfl, ?_, ?_⟩
  · simp only [zsI_W]
    exact sm_tr (sm_tr (sm_tr (sm_tr (sm_tr (sm_tr (sm_tr (sm_tr (sm_W _ _ (by omega) (by omega)) (sm_W _ _ (by omega) (by omega))) (sm_W _ _ (by omega) (by omega))) (sm_W _ _ (by omega) (by omega))) (sm_W _ _ (by omega) (by omega))) (sm_W _ _ (by omega) (by omega))) (sm_W _ _ (by omega) (by omega))) (sm_W _ _ (by omega) (by omega))) (sm_W _ _ (by omega) (by omega))
  · obtain ⟨n1, v1, r1⟩ := hE
    simp only [zsI_W, zsW_s, zsW_n _ _ e1, zsW_n _ _ e2, zsW_n _ _ e3, zsW_n _ _ e4, zsW_n _ _ e5]
    refine ⟨?_, v1, fun h0 => ?_⟩
    · rw [zsW_s]; exact n1
    · obtain ⟨p1, ⟨a1, a2⟩, ⟨a3, a4, a5⟩, a6, a7⟩ := r1 h0
      simp only [zsW_s, zsW_n _ _ e5]
      refine ⟨fun i hi => ?_, ⟨a1, a2⟩, ⟨a3, a4, a5⟩, a6, a7⟩
      have := v1.1
      rw [if_pos (by omega)]
      exact p1 i hi
def ca_X1_isEmpty : (Nat × Nat) → List zV := fun (e, n) => [vR 10 0 e]
def cp_X1_isEmpty : (Nat × Nat) → zH → Prop := fun (e, n) h => h.1 e 0 = nI n ∧ n ≤ 28
def cf_X1_isEmpty : (Nat × Nat) → zH → Int32 := fun (e, n) _ => bI (decide (n = 0))
theorem rc_X1_isEmpty : ∀ x : (Nat × Nat), ∃ (j a : Nat) (As : List zV), ca_X1_isEmpty x = vR (10 + 0) j a :: As := by
  rintro ⟨e, n⟩
  exact ⟨_, _, _, rfl⟩
set_option maxHeartbeats 4000000 in
set_option maxRecDepth 100000 in
theorem m_X1_isEmpty : zM yX1_isEmpty cX1_isEmpty 1 (some .boolean) ({ frames := 0, cells := 0, slots := 0, locals := 0 } : Room) (zcI ca_X1_isEmpty cp_X1_isEmpty cf_X1_isEmpty) := by
  refine zM_of (by decide) ?_
  rintro X Y ⟨e, n⟩ h ⟨hn, hn2⟩ O E hR
  have B_12 := zr_zreturn (X := X) (Y := Y) (u := 0) (v := 0) O E (Nat.le_refl _) (Nat.le_refl _) dX1_isEmpty_12
  have B_11 := zr_iconst (X := X) (Y := Y) (u := 0) (v := 0) (x := 0) O dX1_isEmpty_11 rfl (B_12)
  have B_0 := zr_aload_n (X := X) (Y := Y) (u := 0) (v := 0) O dX1_isEmpty_0 rfl (zr_gI (ci := 0) (j := 0) O zc_0 (by decide) rfl tw_101 dX1_isEmpty_1 (zr_ifne (tgt := 11) O dX1_isEmpty_4 rfl B_11 (zr_iconst (x := 1) O dX1_isEmpty_7 rfl (zr_goto (tgt := 12) O dX1_isEmpty_8 rfl B_12))))
  refine ⟨rfl, Nat.le_of_ble_eq_true rfl, _, B_0, ?_⟩
  have hn : h.1 e 0 = nI n := hn
  have hn2 : n ≤ 28 := hn2
  refine ⟨fun cq => ⟨Or.inl rfl, zri ?_, rfl⟩, fun cq => ⟨Or.inr rfl, zri ?_, rfl⟩⟩
  · rw [hn] at cq
    have : ¬ n = 0 := fun z => cq (by rw [z]; rfl)
    show (0 : Int32) = bI (decide (n = 0))
    rw [decide_eq_false this]; rfl
  · rw [hn] at cq
    have : n = 0 := (nI_eq (b := 0) (by omega) (by omega)).mp cq
    show (1 : Int32) = bI (decide (n = 0))
    rw [decide_eq_true this]; rfl
def ca_X1_secretBits : (Nat × Nat × Nat) → List zV := fun (e, r, n) => [vR 10 0 e]
def cp_X1_secretBits : (Nat × Nat × Nat) → zH → Prop := fun (e, r, n) h => h.1 e 2 = nI r ∧ h.1 e 3 = nI n ∧ vRp r
def cf_X1_secretBits : (Nat × Nat × Nat) → zH → Int32 := fun (e, r, n) _ => nI (n * btR r)
theorem rc_X1_secretBits : ∀ x : (Nat × Nat × Nat), ∃ (j a : Nat) (As : List zV), ca_X1_secretBits x = vR (10 + 0) j a :: As := by
  rintro ⟨e, r, n⟩
  exact ⟨_, _, _, rfl⟩
set_option maxHeartbeats 4000000 in
set_option maxRecDepth 100000 in
theorem m_X1_secretBits : zM yX1_secretBits cX1_secretBits 1 (some .int) ({ frames := 1, cells := 0, slots := 0, locals := 20 } : Room) (zcI ca_X1_secretBits cp_X1_secretBits cf_X1_secretBits) := by
  refine zM_of (by decide) ?_
  rintro X Y ⟨e, r, n⟩ h ⟨h2, h3, hr⟩ O E hR
  have B_0 := zr_aload_n (X := X) (Y := Y) (u := 0) (v := 0) O dX1_secretBits_0 rfl (zr_gI (ci := 0) (j := 3) O zc_0 (by decide) rfl tw_110 dX1_secretBits_1 (zr_aload_n O dX1_secretBits_4 rfl (zr_gI (ci := 0) (j := 2) O zc_0 (by decide) rfl tw_108 dX1_secretBits_5 (zr_cI (zr_cS (n := 1) O m_X0_bitsOf (bn_X0_bitsOf _ ⟨rfl, rfl⟩) tw_779 tw_810 (zrm hR rfl rfl) dX1_secretBits_8 (zr_imul O dX1_secretBits_11 (zr_ireturn O E (Nat.le_refl _) (Nat.le_refl _) dX1_secretBits_12)))))))
  refine ⟨rfl, Nat.le_of_ble_eq_true rfl, _, B_0, ?_⟩
  refine ⟨r, by rw [h2]; rfl, hr, zri ?_, rfl⟩
  show h.1 e 3 * nI (btR r) = nI (n * btR r)
  rw [h3, pk_mul]
def ca_X1_leaked : (Nat × Nat × Nat) → List zV := fun (e, r, n) => [vR 10 0 e]
def cp_X1_leaked : (Nat × Nat × Nat) → zH → Prop := fun (e, r, n) h => h.1 e 2 = nI r ∧ h.1 e 3 = nI n ∧ vRp r
def cf_X1_leaked : (Nat × Nat × Nat) → zH → Int32 := fun (e, r, n) _ => nI (n * (lnR r - btR r) + 4)
theorem rc_X1_leaked : ∀ x : (Nat × Nat × Nat), ∃ (j a : Nat) (As : List zV), ca_X1_leaked x = vR (10 + 0) j a :: As := by
  rintro ⟨e, r, n⟩
  exact ⟨_, _, _, rfl⟩
set_option maxHeartbeats 4000000 in
set_option maxRecDepth 100000 in
theorem m_X1_leaked : zM yX1_leaked cX1_leaked 1 (some .int) ({ frames := 2, cells := 0, slots := 0, locals := 41 } : Room) (zcI ca_X1_leaked cp_X1_leaked cf_X1_leaked) := by
  refine zM_of (by decide) ?_
  rintro X Y ⟨e, r, n⟩ h ⟨h2, h3, hr⟩ O E hR
  have B_0 := zr_aload_n (X := X) (Y := Y) (u := 0) (v := 0) O dX1_leaked_0 rfl (zr_gI (ci := 0) (j := 3) O zc_0 (by decide) rfl tw_110 dX1_leaked_1 (zr_aload_n O dX1_leaked_4 rfl (zr_gI (ci := 0) (j := 2) O zc_0 (by decide) rfl tw_108 dX1_leaked_5 (zr_cI (zr_cS (n := 1) O m_X0_lengthOf (bn_X0_lengthOf _ ⟨rfl, rfl⟩) tw_773 tw_815 (zrm hR rfl rfl) dX1_leaked_8 (zr_aload_n O dX1_leaked_11 rfl (zr_gI (ci := 0) (j := 2) O zc_0 (by decide) rfl tw_108 dX1_leaked_12 (zr_cI (zr_cS (n := 1) O m_X0_bitsOf (bn_X0_bitsOf _ ⟨rfl, rfl⟩) tw_779 tw_810 (zrm hR rfl rfl) dX1_leaked_15 (zr_isub O dX1_leaked_18 (zr_imul O dX1_leaked_19 (zr_iconst (x := 4) O dX1_leaked_20 rfl (zr_iadd O dX1_leaked_21 (zr_ireturn O E (Nat.le_refl _) (Nat.le_refl _) dX1_leaked_22))))))))))))))
  refine ⟨rfl, Nat.le_of_ble_eq_true rfl, _, B_0, ?_⟩
  refine ⟨r, by rw [h2]; rfl, hr, r, by rw [h2]; rfl, hr, zri ?_, rfl⟩
  show h.1 e 3 * (nI (lnR r) - nI (btR r)) + 4 = nI (n * (lnR r - btR r) + 4)
  have : nI (lnR r) - nI (btR r) = nI (lnR r - btR r) := by
    rcases hr with rfl | rfl | rfl | rfl | rfl <;> decide
  rw [h3, this, pk_mul, show (4 : Int32) = nI 4 from rfl, nI_add]
/-- a pair's place among the enrolled -/
def plc (K : zE) (p : Nat) : Nat := fa_first (fun i => decide (eP K i = p)) (eN K)
def plI (K : zE) (p : Nat) : Int32 := if plc K p < eN K then nI (plc K p) else -1
theorem first_at {f : Nat → Bool} {n i : Nat} (hi : i < n) (hf : f i = true) (hb : ∀ j, j < i → f j = false) : fa_first f n = i := by
  have h1 := fa_first_le f n
  rcases Nat.lt_trichotomy (fa_first f n) i with h | h | h
  · have h2 := fa_first_yes f n (by omega)
    rw [hb _ h] at h2; cases h2
  · exact h
  · have h2 := fa_first_no f n i h
    rw [hf] at h2; cases h2
theorem first_none {f : Nat → Bool} {n : Nat} (hb : ∀ j, j < n → f j = false) : ¬ fa_first f n < n := by
  intro h
  have h2 := fa_first_yes f n h
  rw [hb _ h] at h2; cases h2
def ca_X1_placeOf : (zE × Nat × Nat) → List zV := fun (K, e, p) => [vR 10 0 e, vI (nI p)]
def cp_X1_placeOf : (zE × Nat × Nat) → zH → Prop := fun (K, e, p) h => rpE K h e ∧ p < 28
def cf_X1_placeOf : (zE × Nat × Nat) → zH → Int32 := fun (K, e, p) _ => plI K p
theorem rc_X1_placeOf : ∀ x : (zE × Nat × Nat), ∃ (j a : Nat) (As : List zV), ca_X1_placeOf x = vR (10 + 0) j a :: As := by
  rintro ⟨K, e, p⟩
  exact ⟨_, _, _, rfl⟩
set_option maxHeartbeats 4000000 in
set_option maxRecDepth 100000 in
theorem m_X1_placeOf : zM yX1_placeOf cX1_placeOf 3 (some .int) ({ frames := 0, cells := 0, slots := 0, locals := 0 } : Room) (zcI ca_X1_placeOf cp_X1_placeOf cf_X1_placeOf) := by
  refine zM_of (by decide) ?_
  rintro X Y ⟨K, e, p⟩ h ⟨hE, hp⟩ O E hR
  have B_28 := zr_iconst (X := X) (Y := Y) (u := 0) (v := 0) (x := (-1)) O dX1_placeOf_28 rfl (zr_ireturn O E (Nat.le_refl _) (Nat.le_refl _) dX1_placeOf_29)
  have L_2 : ∀ nn : Nat, zSd X Y 0 0 2 ((fun k ls st h1 => ∃ (i : Nat) (z : Int32), k = eN K - i ∧ i ≤ eN K ∧ ls = [some (vR 10 0 e), some (vI (nI p)), some (vI z)] ∧ z = nI i ∧ st = [] ∧ h = h1 ∧ ∀ j, j < i → decide (eP K j = p) = false : Nat → zT) nn) := by
    refine zSd_loop (fun nn ih => ?_)
    have B_22 := zr_iinc (X := X) (Y := Y) (u := 0) (v := 0) (c := 1) O dX1_placeOf_22 rfl (zr_goto (tgt := 2) O dX1_placeOf_25 rfl ih)
    have B_2 := zr_iload_n (X := X) (Y := Y) (u := 0) (v := 0) O dX1_placeOf_2 rfl (zr_aload_n O dX1_placeOf_3 rfl (zr_gI (ci := 0) (j := 0) O zc_0 (by decide) rfl tw_101 dX1_placeOf_4 (zr_icge (tgt := 28) O dX1_placeOf_7 rfl B_28 (zr_aload_n O dX1_placeOf_10 rfl (zr_gS (ci := 0) (j := 1) (off := 1) (t := 1) (n := 28) O zc_0 (by decide) rfl tw_104 dX1_placeOf_11 (zr_iload_n O dX1_placeOf_14 rfl (zr_iald O dX1_placeOf_15 (zr_iload_n O dX1_placeOf_16 rfl (zr_icne (tgt := 22) O dX1_placeOf_17 rfl B_22 (zr_iload_n O dX1_placeOf_20 rfl (zr_ireturn O E (Nat.le_refl _) (Nat.le_refl _) dX1_placeOf_21)))))))))))
    refine zSd_weak B_2 (fun ls st h1 t => ?_)
    have hE : rpE K h e := hE
    have hp : p < 28 := hp
    obtain ⟨i, z, rfl, hi, rfl, rfl, rfl, rfl, hb⟩ := t
    have h28 := hE.2.1.1
    refine ⟨fun cq => ⟨zri ?_, rfl⟩, fun cq => ?_⟩
    · rw [hE.1] at cq
      have := (nI_leI (by omega) (by omega)).mp cq
      rw [show i = eN K by omega] at hb
      show (-1 : Int32) = plI K p
      rw [plI, plc, if_neg (first_none hb)]
    · rw [hE.1] at cq
      have hi2 : i < eN K := Nat.not_le.mp (fun z => cq ((nI_leI (by omega) (by omega)).mpr z))
      have ei := (hE.2.2 (by omega)).1 i hi2
      have li := (hE.2.1.2 (by omega)).1 i hi2
      refine ⟨i, rfl, by omega, fun dq => ?_, fun dq => ⟨zri ?_, rfl⟩⟩
      · rw [ei] at dq
        have hne : eP K i ≠ p := fun z => dq (by rw [z])
        refine ⟨eN K - (i + 1), by omega, i + 1, _, rfl, by omega, rfl, nI_1 i, rfl, rfl, fun j hj => ?_⟩
        by_cases hji : j = i
        · rw [hji]; exact decide_eq_false hne
        · exact hb j (by omega)
      · rw [ei] at dq
        have he : eP K i = p := (nI_eq (by omega) (by omega)).mp dq
        have ep : plc K p = i := first_at hi2 (decide_eq_true he) hb
        show nI i = plI K p
        rw [plI, ep, if_pos hi2]
  have B_2 := zSd_any L_2
  have B_0 := zr_iconst (X := X) (Y := Y) (u := 0) (v := 0) (x := 0) O dX1_placeOf_0 rfl (zr_istore_n O dX1_placeOf_1 rfl (B_2))
  refine ⟨rfl, Nat.le_of_ble_eq_true rfl, _, B_0, ?_⟩
  exact ⟨eN K - 0, 0, _, rfl, Nat.zero_le _, rfl, rfl, rfl, rfl, fun j hj => absurd hj (by omega)⟩
/-- the enrolled pairs as a set -/
def psN (K : zE) : Nat → Nat
  | 0 => 0
  | i + 1 => psN K i ||| 2 ^ eP K i
theorem psN_lt {K : zE} : ∀ n, (∀ i, i < n → eP K i < 28) → psN K n < 2 ^ 28
  | 0, _ => (by decide : (0 : Nat) < 2 ^ 28)
  | n + 1, hp => or_lt (psN_lt n (fun i hi => hp i (by omega))) (Nat.pow_lt_pow_right (by omega) (hp n (by omega)))
def ca_X1_pairsAsSet : (zE × Nat) → List zV := fun (K, e) => [vR 10 0 e]
def cp_X1_pairsAsSet : (zE × Nat) → zH → Prop := fun (K, e) h => rpE K h e
def cf_X1_pairsAsSet : (zE × Nat) → zH → Int32 := fun (K, e) _ => nI (psN K (eN K))
theorem rc_X1_pairsAsSet : ∀ x : (zE × Nat), ∃ (j a : Nat) (As : List zV), ca_X1_pairsAsSet x = vR (10 + 0) j a :: As := by
  rintro ⟨K, e⟩
  exact ⟨_, _, _, rfl⟩
set_option maxHeartbeats 4000000 in
set_option maxRecDepth 100000 in
theorem m_X1_pairsAsSet : zM yX1_pairsAsSet cX1_pairsAsSet 3 (some .int) ({ frames := 0, cells := 0, slots := 0, locals := 0 } : Room) (zcI ca_X1_pairsAsSet cp_X1_pairsAsSet cf_X1_pairsAsSet) := by
  refine zM_of (by decide) ?_
  rintro X Y ⟨K, e⟩ h hE O E hR
  have B_29 := zr_iload_n (X := X) (Y := Y) (u := 0) (v := 0) O dX1_pairsAsSet_29 rfl (zr_ireturn O E (Nat.le_refl _) (Nat.le_refl _) dX1_pairsAsSet_30)
  have L_4 : ∀ nn : Nat, zSd X Y 0 0 4 ((fun k ls st h1 => ∃ (i : Nat) (y z : Int32), k = eN K - i ∧ i ≤ eN K ∧ ls = [some (vR 10 0 e), some (vI y), some (vI z)] ∧ y = nI (psN K i) ∧ z = nI i ∧ st = [] ∧ h = h1 : Nat → zT) nn) := by
    refine zSd_loop (fun nn ih => ?_)
    have B_4 := zr_iload_n (X := X) (Y := Y) (u := 0) (v := 0) O dX1_pairsAsSet_4 rfl (zr_aload_n O dX1_pairsAsSet_5 rfl (zr_gI (ci := 0) (j := 0) O zc_0 (by decide) rfl tw_101 dX1_pairsAsSet_6 (zr_icge (tgt := 29) O dX1_pairsAsSet_9 rfl B_29 (zr_iload_n O dX1_pairsAsSet_12 rfl (zr_iconst (x := 1) O dX1_pairsAsSet_13 rfl (zr_aload_n O dX1_pairsAsSet_14 rfl (zr_gS (ci := 0) (j := 1) (off := 1) (t := 1) (n := 28) O zc_0 (by decide) rfl tw_104 dX1_pairsAsSet_15 (zr_iload_n O dX1_pairsAsSet_18 rfl (zr_iald O dX1_pairsAsSet_19 (zr_ishl O dX1_pairsAsSet_20 (zr_ior O dX1_pairsAsSet_21 (zr_istore_n O dX1_pairsAsSet_22 rfl (zr_iinc (c := 1) O dX1_pairsAsSet_23 rfl (zr_goto (tgt := 4) O dX1_pairsAsSet_26 rfl ih))))))))))))))
    refine zSd_weak B_4 (fun ls st h1 t => ?_)
    have hE : rpE K h e := hE
    obtain ⟨i, y, z, rfl, hi, rfl, rfl, rfl, rfl, rfl⟩ := t
    have h28 := hE.2.1.1
    refine ⟨fun cq => ⟨zri ?_, rfl⟩, fun cq => ?_⟩
    · rw [hE.1] at cq
      have := (nI_leI (by omega) (by omega)).mp cq
      rw [show i = eN K by omega]
      rfl
    · rw [hE.1] at cq
      have hi2 : i < eN K := Nat.not_le.mp (fun z => cq ((nI_leI (by omega) (by omega)).mpr z))
      have ei := (hE.2.2 (by omega)).1 i hi2
      have li := (hE.2.1.2 (by omega)).1 i hi2
      refine ⟨i, rfl, by omega, eN K - (i + 1), by omega, i + 1, _, _, rfl, by omega, rfl, ?_, nI_1 i, rfl, rfl⟩
      rw [ei, nI_pow (by omega), fa_or]
      rfl
  have B_4 := zSd_any L_4
  have B_0 := zr_iconst (X := X) (Y := Y) (u := 0) (v := 0) (x := 0) O dX1_pairsAsSet_0 rfl (zr_istore_n O dX1_pairsAsSet_1 rfl (zr_iconst (x := 0) O dX1_pairsAsSet_2 rfl (zr_istore_n O dX1_pairsAsSet_3 rfl (B_4))))
  refine ⟨rfl, Nat.le_of_ble_eq_true rfl, _, B_0, ?_⟩
  exact ⟨eN K - 0, 0, _, _, rfl, Nat.zero_le _, rfl, rfl, rfl, rfl, rfl⟩
/-- whether a heat's noise can turn a place -/
def shk (S : zD) (K : zE) (te : Int32) (i : Nat) : Bool := crd S (eP K i) te (1 - bI ((eB K).testBit i))
def ca_X1_shakyAt : (zD × zE × Nat × Nat × Int32) → List zV := fun (S, K, e, a, te) => [vR 10 0 e, vR 15 0 a, vI te]
def cp_X1_shakyAt : (zD × zE × Nat × Nat × Int32) → zH → Prop := fun (S, K, e, a, te) h => rpE K h e ∧ rpS S h a ∧ ∀ i, i < eN K → eP K i < dP S
def cf_X1_shakyAt : (zD × zE × Nat × Nat × Int32) → zH → Int32 := fun (S, K, e, a, te) _ => nI (mk (shk S K te) (eN K))
theorem rc_X1_shakyAt : ∀ x : (zD × zE × Nat × Nat × Int32), ∃ (j a : Nat) (As : List zV), ca_X1_shakyAt x = vR (10 + 0) j a :: As := by
  rintro ⟨S, K, e, a, te⟩
  exact ⟨_, _, _, rfl⟩
set_option maxHeartbeats 4000000 in
set_option maxRecDepth 100000 in
theorem m_X1_shakyAt : zM yX1_shakyAt cX1_shakyAt 6 (some .int) ({ frames := 2, cells := 0, slots := 0, locals := 50 } : Room) (zcI ca_X1_shakyAt cp_X1_shakyAt cf_X1_shakyAt) := by
  refine zM_of (by decide) ?_
  rintro X Y ⟨S, K, e, a, te⟩ h ⟨hE, hS, hP⟩ O E hR
  have B_61 := zr_iload_n (X := X) (Y := Y) (u := 0) (v := 0) O dX1_shakyAt_61 rfl (zr_ireturn O E (Nat.le_refl _) (Nat.le_refl _) dX1_shakyAt_62)
  have L_5 : ∀ nn : Nat, zSd X Y 0 0 5 ((fun k ls st h1 => ∃ (i : Nat) (y z : Int32) (y5 : Option zV), k = eN K - i ∧ i ≤ eN K ∧ ls = [some (vR 10 0 e), some (vR 15 0 a), some (vI te), some (vI y), some (vI z), y5] ∧ y = nI (mk (shk S K te) i) ∧ z = nI i ∧ st = [] ∧ h = h1 : Nat → zT) nn) := by
    refine zSd_loop (fun nn ih => ?_)
    have B_53 := zr_ior (X := X) (Y := Y) (u := 0) (v := 0) O dX1_shakyAt_53 (zr_istore_n O dX1_shakyAt_54 rfl (zr_iinc (c := 1) O dX1_shakyAt_55 rfl (zr_goto (tgt := 5) O dX1_shakyAt_58 rfl ih)))
    have B_52 := zr_iconst (X := X) (Y := Y) (u := 0) (v := 0) (x := 0) O dX1_shakyAt_52 rfl (B_53)
    have B_5 := zr_iload (X := X) (Y := Y) (u := 0) (v := 0) O dX1_shakyAt_5 (zr_aload_n O dX1_shakyAt_7 rfl (zr_gI (ci := 0) (j := 0) O zc_0 (by decide) rfl tw_101 dX1_shakyAt_8 (zr_icge (tgt := 61) O dX1_shakyAt_11 rfl B_61 (zr_iconst (x := 1) O dX1_shakyAt_14 rfl (zr_aload_n O dX1_shakyAt_15 rfl (zr_gI (ci := 0) (j := 4) O zc_0 (by decide) rfl tw_114 dX1_shakyAt_16 (zr_iload O dX1_shakyAt_19 (zr_cI (zr_cSN (n := 2) O m_X10_bitIn (bn_X10_bitIn _ ⟨rfl, rfl⟩) tw_374 wn_RX1_67 (zrm hR rfl rfl) dX1_shakyAt_21 (zr_isub O dX1_shakyAt_24 (zr_istore O dX1_shakyAt_25 (zr_iload_n O dX1_shakyAt_27 rfl (zr_aload_n O dX1_shakyAt_28 rfl (zr_aload_n O dX1_shakyAt_29 rfl (zr_gS (ci := 0) (j := 1) (off := 1) (t := 1) (n := 28) O zc_0 (by decide) rfl tw_104 dX1_shakyAt_30 (zr_iload O dX1_shakyAt_33 (zr_iald O dX1_shakyAt_35 (zr_iload_n O dX1_shakyAt_36 rfl (zr_iload O dX1_shakyAt_37 (zr_cI (zr_cV (ci := 5) (n := 3) O m_X6_canRead (bn_X6_canRead _ ⟨rfl, rfl⟩) vw_X6_canRead tw_1039 rc_X6_canRead (zrm hR rfl rfl) dX1_shakyAt_39 (zr_ifeq (tgt := 52) O dX1_shakyAt_42 rfl B_52 (zr_iconst (x := 1) O dX1_shakyAt_45 rfl (zr_iload O dX1_shakyAt_46 (zr_ishl O dX1_shakyAt_48 (zr_goto (tgt := 53) O dX1_shakyAt_49 rfl B_53))))))))))))))))))))))))))
    refine zSd_weak B_5 (fun ls st h1 t => ?_)
    have hE : rpE K h e := hE
    have hS : rpS S h a := hS
    obtain ⟨i, y, z, y5, rfl, hi, rfl, rfl, rfl, rfl, rfl⟩ := t
    have h28 := hE.2.1.1
    refine ⟨fun cq => ⟨zri ?_, rfl⟩, fun cq => ?_⟩
    · rw [hE.1] at cq
      have := (nI_leI (by omega) (by omega)).mp cq
      rw [show i = eN K by omega]
      rfl
    · rw [hE.1] at cq
      have hi2 : i < eN K := Nat.not_le.mp (fun z => cq ((nI_leI (by omega) (by omega)).mpr z))
      obtain ⟨p1, ⟨a1, a2⟩, ⟨a3, a4, a5⟩, a6, a7⟩ := hE.2.2 (by omega)
      have ei := p1 i hi2
      obtain ⟨b1, -⟩ := vE_b hE.2.1 (by omega)
      have eb : (h.1 e 4 >>> (nI i &&& 31)) &&& 1 = bI ((eB K).testBit i) := by rw [a3]; exact bI_in (by omega) (by omega)
      refine ⟨(h.1 e 4, nI i), rfl, trivial, i, rfl, by omega, (S, a, eP K i, te, 1 - bI ((eB K).testBit i)), ?_, ⟨hS, hP i hi2⟩, zmg (k := _) (c := bI (shk S K te i) = 0) (x := 0) (y := 1 <<< (nI i &&& 31)) ?_⟩
      · rw [ei]
        show [_, _, _, vI (1 - ((h.1 e 4 >>> (nI i &&& 31)) &&& 1))] = _
        rw [eb]
        rfl
      · refine ⟨eN K - (i + 1), by omega, i + 1, _, _, _, rfl, by omega, rfl, ?_, nI_1 i, rfl, rfl⟩
        show nI (mk (shk S K te) i) ||| (if bI (shk S K te i) = 0 then (0 : Int32) else (1 : Int32) <<< (nI i &&& 31)) = nI (mk (shk S K te) i ||| if shk S K te i then 2 ^ i else 0)
        cases hz : shk S K te i with
        | false => exact fa_or _ 0
        | true => rw [if_neg (by decide), nI_pow (by omega), fa_or]; rfl
  have B_5 := zSd_any L_5
  have B_0 := zr_iconst (X := X) (Y := Y) (u := 0) (v := 0) (x := 0) O dX1_shakyAt_0 rfl (zr_istore_n O dX1_shakyAt_1 rfl (zr_iconst (x := 0) O dX1_shakyAt_2 rfl (zr_istore O dX1_shakyAt_3 (B_5))))
  refine ⟨rfl, Nat.le_of_ble_eq_true rfl, _, B_0, ?_⟩
  exact ⟨eN K - 0, 0, _, _, _, rfl, Nat.zero_le _, rfl, rfl, rfl, rfl, rfl⟩
/-- a block comes back for sure -/
def sfb (K : zE) (w b : Nat) : Bool := decide (pop (wbk (eR K) (w ||| (eH K ^^^ eG K)) b) ≤ mdR (eR K))
def ca_X1_isSafeBlock : (zE × Nat × Nat × Nat) → List zV := fun (K, e, b, w) => [vR 10 0 e, vI (nI b), vI (nI w)]
def cp_X1_isSafeBlock : (zE × Nat × Nat × Nat) → zH → Prop := fun (K, e, b, w) h => rpE K h e ∧ 0 < eN K ∧ b < eK K ∧ w < 2 ^ 28
def cf_X1_isSafeBlock : (zE × Nat × Nat × Nat) → zH → Int32 := fun (K, e, b, w) _ => bI (sfb K w b)
theorem rc_X1_isSafeBlock : ∀ x : (zE × Nat × Nat × Nat), ∃ (j a : Nat) (As : List zV), ca_X1_isSafeBlock x = vR (10 + 0) j a :: As := by
  rintro ⟨K, e, b, w⟩
  exact ⟨_, _, _, rfl⟩
set_option maxHeartbeats 4000000 in
set_option maxRecDepth 100000 in
theorem m_X1_isSafeBlock : zM yX1_isSafeBlock cX1_isSafeBlock 6 (some .boolean) ({ frames := 2, cells := 0, slots := 0, locals := 41 } : Room) (zcI ca_X1_isSafeBlock cp_X1_isSafeBlock cf_X1_isSafeBlock) := by
  refine zM_of (by decide) ?_
  rintro X Y ⟨K, e, b, w⟩ h ⟨hE, h0, hb, hw⟩ O E hR
  have B_55 := zr_zreturn (X := X) (Y := Y) (u := 0) (v := 0) O E (Nat.le_refl _) (Nat.le_refl _) dX1_isSafeBlock_55
  have B_54 := zr_iconst (X := X) (Y := Y) (u := 0) (v := 0) (x := 0) O dX1_isSafeBlock_54 rfl (B_55)
  have B_0 := zr_aload_n (X := X) (Y := Y) (u := 0) (v := 0) O dX1_isSafeBlock_0 rfl (zr_gI (ci := 0) (j := 2) O zc_0 (by decide) rfl tw_108 dX1_isSafeBlock_1 (zr_cI (zr_cS (n := 1) O m_X0_lengthOf (bn_X0_lengthOf _ ⟨rfl, rfl⟩) tw_773 tw_815 (zrm hR rfl rfl) dX1_isSafeBlock_4 (zr_istore_n O dX1_isSafeBlock_7 rfl (zr_iload_n O dX1_isSafeBlock_8 rfl (zr_aload_n O dX1_isSafeBlock_9 rfl (zr_gI (ci := 0) (j := 5) O zc_0 (by decide) rfl tw_117 dX1_isSafeBlock_10 (zr_aload_n O dX1_isSafeBlock_13 rfl (zr_gI (ci := 0) (j := 6) O zc_0 (by decide) rfl tw_120 dX1_isSafeBlock_14 (zr_ixor O dX1_isSafeBlock_17 (zr_ior O dX1_isSafeBlock_18 (zr_istore O dX1_isSafeBlock_19 (zr_iload O dX1_isSafeBlock_21 (zr_iload_n O dX1_isSafeBlock_23 rfl (zr_iload_n O dX1_isSafeBlock_24 rfl (zr_imul O dX1_isSafeBlock_25 (zr_ishr O dX1_isSafeBlock_26 (zr_iconst (x := 1) O dX1_isSafeBlock_27 rfl (zr_iload_n O dX1_isSafeBlock_28 rfl (zr_ishl O dX1_isSafeBlock_29 (zr_iconst (x := 1) O dX1_isSafeBlock_30 rfl (zr_isub O dX1_isSafeBlock_31 (zr_iand O dX1_isSafeBlock_32 (zr_istore O dX1_isSafeBlock_33 (zr_iload O dX1_isSafeBlock_35 (zr_cI (zr_cS (n := 1) O m_J6_bitCount_0f7a4 (bn_J6_bitCount_0f7a4 _ ⟨rfl, rfl⟩) tw_767 tw_1051 (zrm hR rfl rfl) dX1_isSafeBlock_37 (zr_aload_n O dX1_isSafeBlock_40 rfl (zr_gI (ci := 0) (j := 2) O zc_0 (by decide) rfl tw_108 dX1_isSafeBlock_41 (zr_cI (zr_cS (n := 1) O m_X0_mendedBy (bn_X0_mendedBy _ ⟨rfl, rfl⟩) tw_1053 tw_1052 (zrm hR rfl rfl) dX1_isSafeBlock_44 (zr_icgt (tgt := 54) O dX1_isSafeBlock_47 rfl B_54 (zr_iconst (x := 1) O dX1_isSafeBlock_50 rfl (zr_goto (tgt := 55) O dX1_isSafeBlock_51 rfl B_55))))))))))))))))))))))))))))))))))
  refine ⟨rfl, Nat.le_of_ble_eq_true rfl, _, B_0, ?_⟩
  have hE : rpE K h e := hE
  obtain ⟨p1, ⟨a1, a2⟩, ⟨a3, a4, a5⟩, a6, a7⟩ := hE.2.2 h0
  obtain ⟨b1, b2, b3, b4, b5, ⟨q1, q2, q3, q4⟩, b6⟩ := vE_b hE.2.1 h0
  obtain ⟨-, hr, hn, -⟩ := hE.2.1.2 h0
  have h28 := hE.2.1.1
  have hbl : b * lnR (eR K) + lnR (eR K) ≤ eK K * lnR (eR K) := by rw [← Nat.succ_mul]; exact Nat.mul_le_mul_right _ hb
  have hm : w ||| (eH K ^^^ eG K) < 2 ^ 28 := or_lt hw (Nat.xor_lt_two_pow b2 b3)
  have e1 : ((nI w ||| (h.1 e 5 ^^^ h.1 e 6)) >>> ((nI b * nI (lnR (eR K))) &&& 31)) &&& ((1 : Int32) <<< (nI (lnR (eR K)) &&& 31) - 1) = nI (wbk (eR K) (w ||| (eH K ^^^ eG K)) b) := by
    rw [a4, a5, fb_xorI, fa_or, pk_mul, shrI (by omega) (by omega), mskI (by omega)]
    rfl
  have hlt : wbk (eR K) (w ||| (eH K ^^^ eG K)) b < 128 := Nat.lt_of_lt_of_le (Nat.mod_lt _ (Nat.two_pow_pos _)) (Nat.pow_le_pow_right (n := 2) (by omega) (by omega : lnR (eR K) ≤ 7))
  have hpop : pcI (nI (wbk (eR K) (w ||| (eH K ^^^ eG K)) b)) = nI (pop (wbk (eR K) (w ||| (eH K ^^^ eG K)) b)) := pcI_pop (by omega)
  have hp32 := pop_le (wbk (eR K) (w ||| (eH K ^^^ eG K)) b)
  have hmd : mdR (eR K) < 32 := by rcases hr with z | z | z | z | z <;> rw [z] <;> decide
  refine ⟨eR K, by rw [a1]; rfl, hr, nI (wbk (eR K) (w ||| (eH K ^^^ eG K)) b), congrArg (fun z => [vI z]) e1, trivial, eR K, by rw [a1]; rfl, hr, fun cq => ⟨Or.inl rfl, zri ?_, rfl⟩, fun cq => ⟨Or.inr rfl, zri ?_, rfl⟩⟩
  · replace cq : nI (mdR (eR K)) < pcI (nI (wbk (eR K) (w ||| (eH K ^^^ eG K)) b)) := cq
    rw [hpop] at cq
    have := (nI_ltI (by omega) (by omega)).mp cq
    show (0 : Int32) = bI (sfb K w b)
    rw [sfb, decide_eq_false (by omega)]
    rfl
  · replace cq : ¬ nI (mdR (eR K)) < pcI (nI (wbk (eR K) (w ||| (eH K ^^^ eG K)) b)) := cq
    rw [hpop] at cq
    have : ¬ _ := fun z => cq ((nI_ltI (by omega) (by omega)).mpr z)
    show (1 : Int32) = bI (sfb K w b)
    rw [sfb, decide_eq_true (by omega)]
    rfl
def ca_X1_safeBlocks : (zE × Nat × Nat) → List zV := fun (K, e, w) => [vR 10 0 e, vI (nI w)]
def cp_X1_safeBlocks : (zE × Nat × Nat) → zH → Prop := fun (K, e, w) h => rpE K h e ∧ 0 < eN K ∧ w < 2 ^ 28
def cf_X1_safeBlocks : (zE × Nat × Nat) → zH → Int32 := fun (K, e, w) _ => nI (fb_ct (sfb K w) (eK K))
theorem rc_X1_safeBlocks : ∀ x : (zE × Nat × Nat), ∃ (j a : Nat) (As : List zV), ca_X1_safeBlocks x = vR (10 + 0) j a :: As := by
  rintro ⟨K, e, w⟩
  exact ⟨_, _, _, rfl⟩
set_option maxHeartbeats 4000000 in
set_option maxRecDepth 100000 in
theorem m_X1_safeBlocks : zM yX1_safeBlocks cX1_safeBlocks 4 (some .int) ({ frames := 3, cells := 0, slots := 0, locals := 66 } : Room) (zcI ca_X1_safeBlocks cp_X1_safeBlocks cf_X1_safeBlocks) := by
  refine zM_of (by decide) ?_
  rintro X Y ⟨K, e, w⟩ h ⟨hE, h0, hw⟩ O E hR
  have B_35 := zr_iload_n (X := X) (Y := Y) (u := 0) (v := 0) O dX1_safeBlocks_35 rfl (zr_ireturn O E (Nat.le_refl _) (Nat.le_refl _) dX1_safeBlocks_36)
  have L_4 : ∀ nn : Nat, zSd X Y 0 0 4 ((fun k ls st h1 => ∃ (i : Nat) (y z : Int32), k = eK K - i ∧ i ≤ eK K ∧ ls = [some (vR 10 0 e), some (vI (nI w)), some (vI y), some (vI z)] ∧ y = nI (fb_ct (sfb K w) i) ∧ z = nI i ∧ st = [] ∧ h = h1 : Nat → zT) nn) := by
    refine zSd_loop (fun nn ih => ?_)
    have B_27 := zr_iadd (X := X) (Y := Y) (u := 0) (v := 0) O dX1_safeBlocks_27 (zr_istore_n O dX1_safeBlocks_28 rfl (zr_iinc (c := 1) O dX1_safeBlocks_29 rfl (zr_goto (tgt := 4) O dX1_safeBlocks_32 rfl ih)))
    have B_26 := zr_iconst (X := X) (Y := Y) (u := 0) (v := 0) (x := 0) O dX1_safeBlocks_26 rfl (B_27)
    have B_4 := zr_iload_n (X := X) (Y := Y) (u := 0) (v := 0) O dX1_safeBlocks_4 rfl (zr_aload_n O dX1_safeBlocks_5 rfl (zr_gI (ci := 0) (j := 3) O zc_0 (by decide) rfl tw_110 dX1_safeBlocks_6 (zr_icge (tgt := 35) O dX1_safeBlocks_9 rfl B_35 (zr_iload_n O dX1_safeBlocks_12 rfl (zr_aload_n O dX1_safeBlocks_13 rfl (zr_iload_n O dX1_safeBlocks_14 rfl (zr_iload_n O dX1_safeBlocks_15 rfl (zr_cI (zr_cV (ci := 0) (n := 2) O m_X1_isSafeBlock (bn_X1_isSafeBlock _ ⟨rfl, rfl⟩) vw_X1_isSafeBlock tw_1047 rc_X1_isSafeBlock (zrm hR rfl rfl) dX1_safeBlocks_16 (zr_ifeq (tgt := 26) O dX1_safeBlocks_19 rfl B_26 (zr_iconst (x := 1) O dX1_safeBlocks_22 rfl (zr_goto (tgt := 27) O dX1_safeBlocks_23 rfl B_27))))))))))))
    refine zSd_weak B_4 (fun ls st h1 t => ?_)
    have hE : rpE K h e := hE
    obtain ⟨p1, ⟨a1, a2⟩, -⟩ := hE.2.2 h0
    obtain ⟨b1, b2, b3, b4, b5, -⟩ := vE_b hE.2.1 h0
    obtain ⟨i, y, z, rfl, hi, rfl, rfl, rfl, rfl, rfl⟩ := t
    refine ⟨fun cq => ⟨zri ?_, rfl⟩, fun cq => ?_⟩
    · rw [a2] at cq
      have := (nI_leI (by omega) (by omega)).mp cq
      rw [show i = eK K by omega]
      rfl
    · rw [a2] at cq
      have hi2 : i < eK K := Nat.not_le.mp (fun z => cq ((nI_leI (by omega) (by omega)).mpr z))
      refine ⟨(K, e, i, w), rfl, ⟨hE, h0, hi2, hw⟩, zmg (k := _) (c := bI (sfb K w i) = 0) (x := 0) (y := 1) ?_⟩
      refine ⟨eK K - (i + 1), by omega, i + 1, _, _, rfl, by omega, rfl, ?_, nI_1 i, rfl, rfl⟩
      rw [fb_ct_succ]
      cases hz : sfb K w i with
      | false => exact Int32.add_zero _
      | true => rw [if_neg (by decide)]; exact nI_1 _
  have B_4 := zSd_any L_4
  have B_0 := zr_iconst (X := X) (Y := Y) (u := 0) (v := 0) (x := 0) O dX1_safeBlocks_0 rfl (zr_istore_n O dX1_safeBlocks_1 rfl (zr_iconst (x := 0) O dX1_safeBlocks_2 rfl (zr_istore_n O dX1_safeBlocks_3 rfl (B_4))))
  refine ⟨rfl, Nat.le_of_ble_eq_true rfl, _, B_0, ?_⟩
  exact ⟨eK K - 0, 0, _, _, rfl, Nat.zero_le _, rfl, rfl, rfl, rfl, rfl⟩
/-- the first block that doesn't -/
def fus (K : zE) (w : Nat) : Nat := fa_first (fun b => !sfb K w b) (eK K)
def fuI (K : zE) (w : Nat) : Int32 := if fus K w < eK K then nI (fus K w) else -1
def ca_X1_firstUnsafe : (zE × Nat × Nat) → List zV := fun (K, e, w) => [vR 10 0 e, vI (nI w)]
def cp_X1_firstUnsafe : (zE × Nat × Nat) → zH → Prop := fun (K, e, w) h => rpE K h e ∧ 0 < eN K ∧ w < 2 ^ 28
def cf_X1_firstUnsafe : (zE × Nat × Nat) → zH → Int32 := fun (K, e, w) _ => fuI K w
theorem rc_X1_firstUnsafe : ∀ x : (zE × Nat × Nat), ∃ (j a : Nat) (As : List zV), ca_X1_firstUnsafe x = vR (10 + 0) j a :: As := by
  rintro ⟨K, e, w⟩
  exact ⟨_, _, _, rfl⟩
set_option maxHeartbeats 4000000 in
set_option maxRecDepth 100000 in
theorem m_X1_firstUnsafe : zM yX1_firstUnsafe cX1_firstUnsafe 3 (some .int) ({ frames := 3, cells := 0, slots := 0, locals := 66 } : Room) (zcI ca_X1_firstUnsafe cp_X1_firstUnsafe cf_X1_firstUnsafe) := by
  refine zM_of (by decide) ?_
  rintro X Y ⟨K, e, w⟩ h ⟨hE, h0, hw⟩ O E hR
  have B_27 := zr_iconst (X := X) (Y := Y) (u := 0) (v := 0) (x := (-1)) O dX1_firstUnsafe_27 rfl (zr_ireturn O E (Nat.le_refl _) (Nat.le_refl _) dX1_firstUnsafe_28)
  have L_2 : ∀ nn : Nat, zSd X Y 0 0 2 ((fun k ls st h1 => ∃ (i : Nat) (z : Int32), k = eK K - i ∧ i ≤ eK K ∧ ls = [some (vR 10 0 e), some (vI (nI w)), some (vI z)] ∧ z = nI i ∧ st = [] ∧ h = h1 ∧ ∀ j, j < i → (!sfb K w j) = false : Nat → zT) nn) := by
    refine zSd_loop (fun nn ih => ?_)
    have B_21 := zr_iinc (X := X) (Y := Y) (u := 0) (v := 0) (c := 1) O dX1_firstUnsafe_21 rfl (zr_goto (tgt := 2) O dX1_firstUnsafe_24 rfl ih)
    have B_2 := zr_iload_n (X := X) (Y := Y) (u := 0) (v := 0) O dX1_firstUnsafe_2 rfl (zr_aload_n O dX1_firstUnsafe_3 rfl (zr_gI (ci := 0) (j := 3) O zc_0 (by decide) rfl tw_110 dX1_firstUnsafe_4 (zr_icge (tgt := 27) O dX1_firstUnsafe_7 rfl B_27 (zr_aload_n O dX1_firstUnsafe_10 rfl (zr_iload_n O dX1_firstUnsafe_11 rfl (zr_iload_n O dX1_firstUnsafe_12 rfl (zr_cI (zr_cV (ci := 0) (n := 2) O m_X1_isSafeBlock (bn_X1_isSafeBlock _ ⟨rfl, rfl⟩) vw_X1_isSafeBlock tw_1047 rc_X1_isSafeBlock (zrm hR rfl rfl) dX1_firstUnsafe_13 (zr_ifne (tgt := 21) O dX1_firstUnsafe_16 rfl B_21 (zr_iload_n O dX1_firstUnsafe_19 rfl (zr_ireturn O E (Nat.le_refl _) (Nat.le_refl _) dX1_firstUnsafe_20)))))))))))
    refine zSd_weak B_2 (fun ls st h1 t => ?_)
    have hE : rpE K h e := hE
    obtain ⟨p1, ⟨a1, a2⟩, -⟩ := hE.2.2 h0
    obtain ⟨b1, b2, b3, b4, b5, -⟩ := vE_b hE.2.1 h0
    obtain ⟨i, z, rfl, hi, rfl, rfl, rfl, rfl, hb⟩ := t
    refine ⟨fun cq => ⟨zri ?_, rfl⟩, fun cq => ?_⟩
    · rw [a2] at cq
      have := (nI_leI (by omega) (by omega)).mp cq
      rw [show i = eK K by omega] at hb
      show (-1 : Int32) = fuI K w
      rw [fuI, fus, if_neg (first_none hb)]
    · rw [a2] at cq
      have hi2 : i < eK K := Nat.not_le.mp (fun z => cq ((nI_leI (by omega) (by omega)).mpr z))
      refine ⟨(K, e, i, w), rfl, ⟨hE, h0, hi2, hw⟩, fun dq => ?_, fun dq => ⟨zri ?_, rfl⟩⟩
      · have hz : sfb K w i = true := by
          cases hz : sfb K w i with
          | true => rfl
          | false => exact absurd ((bI_0 _).mpr hz) dq
        refine ⟨eK K - (i + 1), by omega, i + 1, _, rfl, by omega, rfl, nI_1 i, rfl, rfl, fun j hj => ?_⟩
        by_cases hji : j = i
        · rw [hji, hz]; rfl
        · exact hb j (by omega)
      · have hz : sfb K w i = false := (bI_0 _).mp dq
        have ep : fus K w = i := first_at hi2 (by rw [hz]; rfl) hb
        show nI i = fuI K w
        rw [fuI, ep, if_pos hi2]
  have B_2 := zSd_any L_2
  have B_0 := zr_iconst (X := X) (Y := Y) (u := 0) (v := 0) (x := 0) O dX1_firstUnsafe_0 rfl (zr_istore_n O dX1_firstUnsafe_1 rfl (B_2))
  refine ⟨rfl, Nat.le_of_ble_eq_true rfl, _, B_0, ?_⟩
  exact ⟨eK K - 0, 0, _, rfl, Nat.zero_le _, rfl, rfl, rfl, rfl, fun j hj => absurd hj (by omega)⟩
end
section
theorem dX7_copyFrom_0 : decode cX7_copyFrom 0 = .ok (.aload_n 0, 1) := by decide +kernel
theorem dX7_copyFrom_1 : decode cX7_copyFrom 1 = .ok (.getfield 10, 3) := by decide +kernel
theorem dX7_copyFrom_4 : decode cX7_copyFrom 4 = .ok (.aload_n 1, 1) := by decide +kernel
theorem dX7_copyFrom_5 : decode cX7_copyFrom 5 = .ok (.getfield 10, 3) := by decide +kernel
theorem dX7_copyFrom_8 : decode cX7_copyFrom 8 = .ok (.invokevirtual 30, 3) := by decide +kernel
theorem dX7_copyFrom_11 : decode cX7_copyFrom 11 = .ok (.aload_n 0, 1) := by decide +kernel
theorem dX7_copyFrom_12 : decode cX7_copyFrom 12 = .ok (.getfield 19, 3) := by decide +kernel
theorem dX7_copyFrom_15 : decode cX7_copyFrom 15 = .ok (.aload_n 1, 1) := by decide +kernel
theorem dX7_copyFrom_16 : decode cX7_copyFrom 16 = .ok (.getfield 19, 3) := by decide +kernel
theorem dX7_copyFrom_19 : decode cX7_copyFrom 19 = .ok (.invokevirtual 34, 3) := by decide +kernel
theorem dX7_copyFrom_22 : decode cX7_copyFrom 22 = .ok (.aload_n 0, 1) := by decide +kernel
theorem dX7_copyFrom_23 : decode cX7_copyFrom 23 = .ok (.getfield 26, 3) := by decide +kernel
theorem dX7_copyFrom_26 : decode cX7_copyFrom 26 = .ok (.aload_n 1, 1) := by decide +kernel
theorem dX7_copyFrom_27 : decode cX7_copyFrom 27 = .ok (.getfield 26, 3) := by decide +kernel
theorem dX7_copyFrom_30 : decode cX7_copyFrom 30 = .ok (.invokevirtual 37, 3) := by decide +kernel
theorem dX7_copyFrom_33 : decode cX7_copyFrom 33 = .ok (.return_, 1) := by decide +kernel
theorem dX1_keep_139 : decode cX1_keep 139 = .ok (.aload_n 0, 1) := by decide +kernel
theorem dX1_keep_140 : decode cX1_keep 140 = .ok (.aload_n 0, 1) := by decide +kernel
theorem dX1_keep_141 : decode cX1_keep 141 = .ok (.getfield 31, 3) := by decide +kernel
theorem dX1_keep_144 : decode cX1_keep 144 = .ok (.aload_n 0, 1) := by decide +kernel
theorem dX1_keep_145 : decode cX1_keep 145 = .ok (.getfield 28, 3) := by decide +kernel
theorem dX1_keep_148 : decode cX1_keep 148 = .ok (.aload_n 0, 1) := by decide +kernel
theorem dX1_keep_149 : decode cX1_keep 149 = .ok (.getfield 19, 3) := by decide +kernel
theorem dX1_keep_152 : decode cX1_keep 152 = .ok (.aload_n 0, 1) := by decide +kernel
theorem dX1_keep_153 : decode cX1_keep 153 = .ok (.getfield 40, 3) := by decide +kernel
theorem dX1_keep_156 : decode cX1_keep 156 = .ok (.invokestatic 74, 3) := by decide +kernel
theorem dX1_keep_159 : decode cX1_keep 159 = .ok (.ixor, 1) := by decide +kernel
theorem dX1_keep_160 : decode cX1_keep 160 = .ok (.putfield 37, 3) := by decide +kernel
theorem dX1_keep_163 : decode cX1_keep 163 = .ok (.aload_n 0, 1) := by decide +kernel
theorem dX1_keep_164 : decode cX1_keep 164 = .ok (.aload_n 0, 1) := by decide +kernel
theorem dX1_keep_165 : decode cX1_keep 165 = .ok (.getfield 37, 3) := by decide +kernel
theorem dX1_keep_168 : decode cX1_keep 168 = .ok (.putfield 34, 3) := by decide +kernel
theorem dX1_keep_171 : decode cX1_keep 171 = .ok (.return_, 1) := by decide +kernel
theorem dX1_keep_133 : decode cX1_keep 133 = .ok (.iinc 6 1, 3) := by decide +kernel
theorem dX1_keep_136 : decode cX1_keep 136 = .ok (.goto (-72), 3) := by decide +kernel
theorem dX1_keep_64 : decode cX1_keep 64 = .ok (.iload 6, 2) := by decide +kernel
theorem dX1_keep_66 : decode cX1_keep 66 = .ok (.aload_n 1, 1) := by decide +kernel
theorem dX1_keep_67 : decode cX1_keep 67 = .ok (.getfield 65, 3) := by decide +kernel
theorem dX1_keep_70 : decode cX1_keep 70 = .ok (.if_icmp .ge 69, 3) := by decide +kernel
theorem dX1_keep_73 : decode cX1_keep 73 = .ok (.aload_n 0, 1) := by decide +kernel
theorem dX1_keep_74 : decode cX1_keep 74 = .ok (.getfield 15, 3) := by decide +kernel
theorem dX1_keep_77 : decode cX1_keep 77 = .ok (.iload 5, 2) := by decide +kernel
theorem dX1_keep_79 : decode cX1_keep 79 = .ok (.if_icmp .ge 60, 3) := by decide +kernel
theorem dX1_keep_82 : decode cX1_keep 82 = .ok (.iload_n 2, 1) := by decide +kernel
theorem dX1_keep_83 : decode cX1_keep 83 = .ok (.iload 6, 2) := by decide +kernel
theorem dX1_keep_85 : decode cX1_keep 85 = .ok (.invokestatic 67, 3) := by decide +kernel
theorem dX1_keep_88 : decode cX1_keep 88 = .ok (.iconst 1, 1) := by decide +kernel
theorem dX1_keep_89 : decode cX1_keep 89 = .ok (.if_icmp .ne 44, 3) := by decide +kernel
theorem dX1_keep_92 : decode cX1_keep 92 = .ok (.aload_n 0, 1) := by decide +kernel
theorem dX1_keep_93 : decode cX1_keep 93 = .ok (.getfield 9, 3) := by decide +kernel
theorem dX1_keep_96 : decode cX1_keep 96 = .ok (.aload_n 0, 1) := by decide +kernel
theorem dX1_keep_97 : decode cX1_keep 97 = .ok (.getfield 15, 3) := by decide +kernel
theorem dX1_keep_100 : decode cX1_keep 100 = .ok (.iload 6, 2) := by decide +kernel
theorem dX1_keep_102 : decode cX1_keep 102 = .ok (.iastore, 1) := by decide +kernel
theorem dX1_keep_103 : decode cX1_keep 103 = .ok (.aload_n 0, 1) := by decide +kernel
theorem dX1_keep_104 : decode cX1_keep 104 = .ok (.dup, 1) := by decide +kernel
theorem dX1_keep_105 : decode cX1_keep 105 = .ok (.getfield 31, 3) := by decide +kernel
theorem dX1_keep_108 : decode cX1_keep 108 = .ok (.aload_n 1, 1) := by decide +kernel
theorem dX1_keep_109 : decode cX1_keep 109 = .ok (.iload 6, 2) := by decide +kernel
theorem dX1_keep_111 : decode cX1_keep 111 = .ok (.invokevirtual 71, 3) := by decide +kernel
theorem dX1_keep_114 : decode cX1_keep 114 = .ok (.aload_n 0, 1) := by decide +kernel
theorem dX1_keep_115 : decode cX1_keep 115 = .ok (.getfield 15, 3) := by decide +kernel
theorem dX1_keep_118 : decode cX1_keep 118 = .ok (.ishl, 1) := by decide +kernel
theorem dX1_keep_119 : decode cX1_keep 119 = .ok (.ior, 1) := by decide +kernel
theorem dX1_keep_120 : decode cX1_keep 120 = .ok (.putfield 31, 3) := by decide +kernel
theorem dX1_keep_123 : decode cX1_keep 123 = .ok (.aload_n 0, 1) := by decide +kernel
theorem dX1_keep_124 : decode cX1_keep 124 = .ok (.dup, 1) := by decide +kernel
theorem dX1_keep_125 : decode cX1_keep 125 = .ok (.getfield 15, 3) := by decide +kernel
theorem dX1_keep_128 : decode cX1_keep 128 = .ok (.iconst 1, 1) := by decide +kernel
theorem dX1_keep_129 : decode cX1_keep 129 = .ok (.iadd, 1) := by decide +kernel
theorem dX1_keep_130 : decode cX1_keep 130 = .ok (.putfield 15, 3) := by decide +kernel
theorem dX1_keep_0 : decode cX1_keep 0 = .ok (.aload_n 0, 1) := by decide +kernel
theorem dX1_keep_1 : decode cX1_keep 1 = .ok (.aload_n 1, 1) := by decide +kernel
theorem dX1_keep_2 : decode cX1_keep 2 = .ok (.getfield 46, 3) := by decide +kernel
theorem dX1_keep_5 : decode cX1_keep 5 = .ok (.iconst 4, 1) := by decide +kernel
theorem dX1_keep_6 : decode cX1_keep 6 = .ok (.iaload, 1) := by decide +kernel
theorem dX1_keep_7 : decode cX1_keep 7 = .ok (.putfield 28, 3) := by decide +kernel
theorem dX1_keep_10 : decode cX1_keep 10 = .ok (.aload_n 0, 1) := by decide +kernel
theorem dX1_keep_11 : decode cX1_keep 11 = .ok (.iload_n 3, 1) := by decide +kernel
theorem dX1_keep_12 : decode cX1_keep 12 = .ok (.putfield 19, 3) := by decide +kernel
theorem dX1_keep_15 : decode cX1_keep 15 = .ok (.aload_n 0, 1) := by decide +kernel
theorem dX1_keep_16 : decode cX1_keep 16 = .ok (.iload 4, 2) := by decide +kernel
theorem dX1_keep_18 : decode cX1_keep 18 = .ok (.putfield 40, 3) := by decide +kernel
theorem dX1_keep_21 : decode cX1_keep 21 = .ok (.aload_n 0, 1) := by decide +kernel
theorem dX1_keep_22 : decode cX1_keep 22 = .ok (.iconst 0, 1) := by decide +kernel
theorem dX1_keep_23 : decode cX1_keep 23 = .ok (.aload_n 0, 1) := by decide +kernel
theorem dX1_keep_24 : decode cX1_keep 24 = .ok (.getfield 40, 3) := by decide +kernel
theorem dX1_keep_27 : decode cX1_keep 27 = .ok (.aload_n 0, 1) := by decide +kernel
theorem dX1_keep_28 : decode cX1_keep 28 = .ok (.invokevirtual 51, 3) := by decide +kernel
theorem dX1_keep_31 : decode cX1_keep 31 = .ok (.invokestatic 55, 3) := by decide +kernel
theorem dX1_keep_34 : decode cX1_keep 34 = .ok (.putfield 43, 3) := by decide +kernel
theorem dX1_keep_37 : decode cX1_keep 37 = .ok (.aload_n 0, 1) := by decide +kernel
theorem dX1_keep_38 : decode cX1_keep 38 = .ok (.getfield 19, 3) := by decide +kernel
theorem dX1_keep_41 : decode cX1_keep 41 = .ok (.aload_n 0, 1) := by decide +kernel
theorem dX1_keep_42 : decode cX1_keep 42 = .ok (.getfield 28, 3) := by decide +kernel
theorem dX1_keep_45 : decode cX1_keep 45 = .ok (.invokestatic 61, 3) := by decide +kernel
theorem dX1_keep_48 : decode cX1_keep 48 = .ok (.imul, 1) := by decide +kernel
theorem dX1_keep_49 : decode cX1_keep 49 = .ok (.istore 5, 2) := by decide +kernel
theorem dX1_keep_51 : decode cX1_keep 51 = .ok (.aload_n 0, 1) := by decide +kernel
theorem dX1_keep_52 : decode cX1_keep 52 = .ok (.iconst 0, 1) := by decide +kernel
theorem dX1_keep_53 : decode cX1_keep 53 = .ok (.putfield 15, 3) := by decide +kernel
theorem dX1_keep_56 : decode cX1_keep 56 = .ok (.aload_n 0, 1) := by decide +kernel
theorem dX1_keep_57 : decode cX1_keep 57 = .ok (.iconst 0, 1) := by decide +kernel
theorem dX1_keep_58 : decode cX1_keep 58 = .ok (.putfield 31, 3) := by decide +kernel
theorem dX1_keep_61 : decode cX1_keep 61 = .ok (.iconst 0, 1) := by decide +kernel
theorem dX1_keep_62 : decode cX1_keep 62 = .ok (.istore 6, 2) := by decide +kernel
theorem dX5_noisySpeed_24 : decode cX5_noisySpeed 24 = .ok (.aload_n 0, 1) := by decide +kernel
theorem dX5_noisySpeed_25 : decode cX5_noisySpeed 25 = .ok (.bipush 75, 2) := by decide +kernel
theorem dX5_noisySpeed_27 : decode cX5_noisySpeed 27 = .ok (.aload_n 0, 1) := by decide +kernel
theorem dX5_noisySpeed_28 : decode cX5_noisySpeed 28 = .ok (.getfield 97, 3) := by decide +kernel
theorem dX5_noisySpeed_31 : decode cX5_noisySpeed 31 = .ok (.imul, 1) := by decide +kernel
theorem dX5_noisySpeed_32 : decode cX5_noisySpeed 32 = .ok (.bipush 74, 2) := by decide +kernel
theorem dX5_noisySpeed_34 : decode cX5_noisySpeed 34 = .ok (.iadd, 1) := by decide +kernel
theorem dX5_noisySpeed_35 : decode cX5_noisySpeed 35 = .ok (.ldc 100, 2) := by decide +kernel
theorem dX5_noisySpeed_37 : decode cX5_noisySpeed 37 = .ok (.irem, 1) := by decide +kernel
theorem dX5_noisySpeed_38 : decode cX5_noisySpeed 38 = .ok (.putfield 97, 3) := by decide +kernel
theorem dX5_noisySpeed_41 : decode cX5_noisySpeed 41 = .ok (.iload 4, 2) := by decide +kernel
theorem dX5_noisySpeed_43 : decode cX5_noisySpeed 43 = .ok (.aload_n 0, 1) := by decide +kernel
theorem dX5_noisySpeed_44 : decode cX5_noisySpeed 44 = .ok (.getfield 97, 3) := by decide +kernel
theorem dX5_noisySpeed_47 : decode cX5_noisySpeed 47 = .ok (.iconst 2, 1) := by decide +kernel
theorem dX5_noisySpeed_48 : decode cX5_noisySpeed 48 = .ok (.iload 5, 2) := by decide +kernel
theorem dX5_noisySpeed_50 : decode cX5_noisySpeed 50 = .ok (.imul, 1) := by decide +kernel
theorem dX5_noisySpeed_51 : decode cX5_noisySpeed 51 = .ok (.iconst 1, 1) := by decide +kernel
theorem dX5_noisySpeed_52 : decode cX5_noisySpeed 52 = .ok (.iadd, 1) := by decide +kernel
theorem dX5_noisySpeed_53 : decode cX5_noisySpeed 53 = .ok (.irem, 1) := by decide +kernel
theorem dX5_noisySpeed_54 : decode cX5_noisySpeed 54 = .ok (.iadd, 1) := by decide +kernel
theorem dX5_noisySpeed_55 : decode cX5_noisySpeed 55 = .ok (.iload 5, 2) := by decide +kernel
theorem dX5_noisySpeed_57 : decode cX5_noisySpeed 57 = .ok (.isub, 1) := by decide +kernel
theorem dX5_noisySpeed_58 : decode cX5_noisySpeed 58 = .ok (.ireturn, 1) := by decide +kernel
theorem dX5_noisySpeed_0 : decode cX5_noisySpeed 0 = .ok (.aload_n 1, 1) := by decide +kernel
theorem dX5_noisySpeed_1 : decode cX5_noisySpeed 1 = .ok (.iload_n 2, 1) := by decide +kernel
theorem dX5_noisySpeed_2 : decode cX5_noisySpeed 2 = .ok (.iload_n 3, 1) := by decide +kernel
theorem dX5_noisySpeed_3 : decode cX5_noisySpeed 3 = .ok (.invokevirtual 90, 3) := by decide +kernel
theorem dX5_noisySpeed_6 : decode cX5_noisySpeed 6 = .ok (.istore 4, 2) := by decide +kernel
theorem dX5_noisySpeed_8 : decode cX5_noisySpeed 8 = .ok (.aload_n 1, 1) := by decide +kernel
theorem dX5_noisySpeed_9 : decode cX5_noisySpeed 9 = .ok (.getfield 94, 3) := by decide +kernel
theorem dX5_noisySpeed_12 : decode cX5_noisySpeed 12 = .ok (.iload_n 2, 1) := by decide +kernel
theorem dX5_noisySpeed_13 : decode cX5_noisySpeed 13 = .ok (.iaload, 1) := by decide +kernel
theorem dX5_noisySpeed_14 : decode cX5_noisySpeed 14 = .ok (.istore 5, 2) := by decide +kernel
theorem dX5_noisySpeed_16 : decode cX5_noisySpeed 16 = .ok (.iload 5, 2) := by decide +kernel
theorem dX5_noisySpeed_18 : decode cX5_noisySpeed 18 = .ok (.ifCond .gt 6, 3) := by decide +kernel
theorem dX5_noisySpeed_21 : decode cX5_noisySpeed 21 = .ok (.iload 4, 2) := by decide +kernel
theorem dX5_noisySpeed_23 : decode cX5_noisySpeed 23 = .ok (.ireturn, 1) := by decide +kernel
/-! all that undo takes back -/
abbrev zQ : Type := zD × zE × zG
def rpQ (Q : zQ) (h : zH) (s : Nat) : Prop := rpS Q.1 h (s + 1) ∧ rpE Q.2.1 h (s + 8) ∧ rpL Q.2.2 h (s + 10)
theorem rpQ_sm {Q : zQ} {h h' : zH} {s b n : Nat} (z : sm b n h h') (hd : s + 13 ≤ b ∨ b + n ≤ s + 1) (hQ : rpQ Q h s) : rpQ Q h' s := ⟨rpS_sm z (by omega) hQ.1, rpE_sm z (by omega) hQ.2.1, rpL_sm z (by omega) hQ.2.2⟩
def ca_X7_copyFrom : (zQ × Nat × Nat) → List zV := fun (Q, s, q) => [vR 16 0 s, vR 16 0 q]
def cp_X7_copyFrom : (zQ × Nat × Nat) → zH → Prop := fun (Q, s, q) h => rpQ Q h q ∧ (s + 13 ≤ q ∨ q + 13 ≤ s)
def cq_X7_copyFrom : (zQ × Nat × Nat) → zH → Option zV → zH → Prop := fun (Q, s, q) h r h' => r = none ∧ sm (s + 1) 12 h h' ∧ rpQ Q h' s
theorem rc_X7_copyFrom : ∀ x : (zQ × Nat × Nat), ∃ (j a : Nat) (As : List zV), ca_X7_copyFrom x = vR (10 + 6) j a :: As := by
  rintro ⟨Q, s, q⟩
  exact ⟨_, _, _, rfl⟩
set_option maxHeartbeats 4000000 in
set_option maxRecDepth 100000 in
theorem m_X7_copyFrom : zM yX7_copyFrom cX7_copyFrom 2 none ({ frames := 2, cells := 0, slots := 0, locals := 81 } : Room) ((ca_X7_copyFrom, cp_X7_copyFrom, cq_X7_copyFrom) : zC (zQ × Nat × Nat)) := by
  refine zM_of (by decide) ?_
  rintro X Y ⟨Q, s, q⟩ h ⟨hQ, hd⟩ O E hR
  have B_0 := zr_aload_n (X := X) (Y := Y) (u := 0) (v := 0) O dX7_copyFrom_0 rfl (zr_gS (ci := 6) (j := 0) (off := 1) (t := 15) (n := 0) O zc_6 (by decide) rfl tw_170 dX7_copyFrom_1 (zr_aload_n O dX7_copyFrom_4 rfl (zr_gS (ci := 6) (j := 0) (off := 1) (t := 15) (n := 0) O zc_6 (by decide) rfl tw_170 dX7_copyFrom_5 (zr_cV (ci := 5) (n := 1) O m_X6_copyFrom (bn_X6_copyFrom _ ⟨rfl, rfl⟩) vw_X6_copyFrom tw_694 rc_X6_copyFrom (zrm hR rfl rfl) dX7_copyFrom_8 (zr_aload_n O dX7_copyFrom_11 rfl (zr_gS (ci := 6) (j := 1) (off := 8) (t := 10) (n := 0) O zc_6 (by decide) rfl tw_173 dX7_copyFrom_12 (zr_aload_n O dX7_copyFrom_15 rfl (zr_gS (ci := 6) (j := 1) (off := 8) (t := 10) (n := 0) O zc_6 (by decide) rfl tw_173 dX7_copyFrom_16 (zr_cV (ci := 0) (n := 1) O m_X1_copyFrom (bn_X1_copyFrom _ ⟨rfl, rfl⟩) vw_X1_copyFrom tw_695 rc_X1_copyFrom (zrm hR rfl rfl) dX7_copyFrom_19 (zr_aload_n O dX7_copyFrom_22 rfl (zr_gS (ci := 6) (j := 2) (off := 10) (t := 12) (n := 0) O zc_6 (by decide) rfl tw_176 dX7_copyFrom_23 (zr_aload_n O dX7_copyFrom_26 rfl (zr_gS (ci := 6) (j := 2) (off := 10) (t := 12) (n := 0) O zc_6 (by decide) rfl tw_176 dX7_copyFrom_27 (zr_cV (ci := 2) (n := 1) O m_X3_copyFrom (bn_X3_copyFrom _ ⟨rfl, rfl⟩) vw_X3_copyFrom tw_700 rc_X3_copyFrom (zrm hR rfl rfl) dX7_copyFrom_30 (zr_return O E (Nat.le_refl _) (Nat.le_refl _) dX7_copyFrom_33)))))))))))))))
  refine ⟨rfl, Nat.le_of_ble_eq_true rfl, _, B_0, ?_⟩
  have hQ : rpQ Q h q := hQ
  refine ⟨(Q.1, s + 1, q + 1), rfl, ⟨hQ.1, by omega⟩, fun r1 h1 hq1 => ?_⟩
  obtain ⟨rfl, z1, w1⟩ := hq1
  replace z1 : sm (s + 1) 7 h h1 := z1
  refine ⟨(Q.2.1, s + 8, q + 8), rfl, ⟨rpE_sm z1 (by omega) hQ.2.1, by omega⟩, fun r2 h2 hq2 => ?_⟩
  obtain ⟨rfl, z2, w2⟩ := hq2
  replace z2 : sm (s + 8) 2 h1 h2 := z2
  refine ⟨(Q.2.2, s + 10, q + 10), rfl, ⟨rpL_sm z2 (by omega) (rpL_sm z1 (by omega) hQ.2.2), by omega⟩, fun r3 h3 hq3 => ?_⟩
  obtain ⟨rfl, z3, w3⟩ := hq3
  replace z3 : sm (s + 10) 3 h2 h3 := z3
  exact ⟨rfl, sm_tr (sm_tr (sm_mo z1 (by omega) (by omega)) (sm_mo z2 (by omega) (by omega))) (sm_mo z3 (by omega) (by omega)), rpS_sm z3 (by omega) (rpS_sm z2 (by omega) w1), rpE_sm z3 (by omega) w2, w3⟩
/-- what enrolling keeps -/
def enP (S : zD) (k : Nat) : Nat := sel (us S) k (dP S)
def enB (S : zD) (k : Nat) : Bool := decide (pb S (enP S k) = 1)
def enr (S : zD) (s : Nat) : zE := (nbk S * lnR (dR S), enP S, dR S, nbk S, mk (enB S) (nbk S * lnR (dR S)), mk (enB S) (nbk S * lnR (dR S)) ^^^ wsN (dR S) s (nbk S), mk (enB S) (nbk S * lnR (dR S)) ^^^ wsN (dR S) s (nbk S), s, ckW 0 s (nbk S * btR (dR S)))
theorem enP_lt {S : zD} (hv : vS S) {k : Nat} (hk : k < nbk S * lnR (dR S)) : enP S k < dP S ∧ us S (enP S k) = true := by
  have := (nbk_le hv).2.2
  have := sel_spec (f := us S) (k := k) (dP S) (by omega)
  exact ⟨this.1, this.2.1⟩
theorem vE_enr {S : zD} (hv : vS S) (hP : dP S ≤ 28) {s : Nat} (hs : s < 2 ^ (nbk S * btR (dR S))) : vE (enr S s) := by
  obtain ⟨n1, n2, n3⟩ := nbk_le hv
  have n4 := fb_ct_le (us S) (dP S)
  refine ⟨by show nbk S * lnR (dR S) ≤ 28; omega, fun _ => ⟨fun i hi => ?_, hv.2.2.2.2.2.2, rfl, n2, ⟨mk_lt _ _, ?_, ?_⟩, hs, ckW_lt (by decide) _ _⟩⟩
  · have := (enP_lt hv (k := i) hi).1
    show enP S i < 28
    omega
  · exact Nat.xor_lt_two_pow (mk_lt _ _) (wsN_lt hv.2.2.2.2.2.2 _)
  · exact Nat.xor_lt_two_pow (mk_lt _ _) (wsN_lt hv.2.2.2.2.2.2 _)
theorem pb_b (S : zD) (p : Nat) : pb S p = bI (decide (pb S p = 1)) := by
  rcases bby_01 (dB S (dF S p)) (dB S (dS S p)) (dF S p) (dS S p) with z | z
  · have z : pb S p = 0 := z
    rw [z]; rfl
  · have z : pb S p = 1 := z
    rw [z]; rfl
theorem bI_shl {b : Bool} {i : Nat} (hi : i < 31) : bI b <<< (nI i &&& 31) = nI (if b then 2 ^ i else 0) := by
  cases b with
  | true => exact nI_pow hi
  | false =>
    show nI 0 <<< (nI i &&& 31) = nI 0
    rw [shlI (by omega) (by omega), Nat.zero_mul]
theorem zsW_c (h : zH) {a b : Nat} (f g : Nat → Int32) (hab : a ≠ b) : zsW (zsW h b g) a f = zsW (zsW h a f) b g := by
  refine Prod.ext ?_ rfl
  funext q
  by_cases hq : q = a
  · rw [hq, zsW_s, zsW_n _ _ hab, zsW_s]
  · rw [zsW_n _ _ hq]
    by_cases hq2 : q = b
    · rw [hq2, zsW_s, zsW_s]
    · rw [zsW_n _ _ hq2, zsW_n _ _ hq2, zsW_n _ _ hq]
def ca_X1_keep : (zD × Nat × Nat × Nat) → List zV := fun (S, e, a, s) => [vR 10 0 e, vR 15 0 a, vI (nI (usd S)), vI (nI (nbk S)), vI (nI s)]
def cp_X1_keep : (zD × Nat × Nat × Nat) → zH → Prop := fun (S, e, a, s) h => rpS S h a ∧ vS S ∧ 0 < nbk S ∧ s < 2 ^ (nbk S * btR (dR S)) ∧ (e + 2 ≤ a ∨ a + 7 ≤ e)
def cq_X1_keep : (zD × Nat × Nat × Nat) → zH → Option zV → zH → Prop := fun (S, e, a, s) h r h' => r = none ∧ sm e 2 h h' ∧ rpE (enr S s) h' e
theorem rc_X1_keep : ∀ x : (zD × Nat × Nat × Nat), ∃ (j a : Nat) (As : List zV), ca_X1_keep x = vR (10 + 0) j a :: As := by
  rintro ⟨S, e, a, s⟩
  exact ⟨_, _, _, rfl⟩
set_option maxHeartbeats 4000000 in
set_option maxRecDepth 100000 in
theorem m_X1_keep : zM yX1_keep cX1_keep 7 none ({ frames := 3, cells := 0, slots := 0, locals := 69 } : Room) ((ca_X1_keep, cp_X1_keep, cq_X1_keep) : zC (zD × Nat × Nat × Nat)) := by
  refine zM_of (by decide) ?_
  rintro X Y ⟨S, e, a, s⟩ h ⟨hS, hv, hn0, hs, hd⟩ O E hR
  have hS : rpS S h a := hS
  obtain ⟨n1, n2, n3⟩ := nbk_le hv
  have hr : vRp (dR S) := hv.2.2.2.2.2.2
  obtain ⟨q1, q2, q3, q4⟩ := lnR_pos hr
  have n4 := fb_ct_le (us S) (dP S)
  have hP := hS.2.1.2
  have hs16 : s < 2 ^ 16 := Nat.lt_of_lt_of_le hs (Nat.pow_le_pow_right (by omega) n2)
  have B_139 := zr_aload_n (X := X) (Y := Y) (u := 0) (v := 0) O dX1_keep_139 rfl (zr_aload_n O dX1_keep_140 rfl (zr_gI (ci := 0) (j := 4) O zc_0 (by decide) rfl tw_114 dX1_keep_141 (zr_aload_n O dX1_keep_144 rfl (zr_gI (ci := 0) (j := 2) O zc_0 (by decide) rfl tw_108 dX1_keep_145 (zr_aload_n O dX1_keep_148 rfl (zr_gI (ci := 0) (j := 3) O zc_0 (by decide) rfl tw_110 dX1_keep_149 (zr_aload_n O dX1_keep_152 rfl (zr_gI (ci := 0) (j := 7) O zc_0 (by decide) rfl tw_121 dX1_keep_153 (zr_cI (zr_cS (n := 3) O m_X0_wordsOf (bn_X0_wordsOf _ ⟨rfl, rfl⟩) tw_819 tw_818 (zrm hR rfl rfl) dX1_keep_156 (zr_ixor O dX1_keep_159 (zr_pI (ci := 0) (j := 6) O zc_0 (by decide) rfl rfl rfl tw_120 dX1_keep_160 (zr_aload_n O dX1_keep_163 rfl (zr_aload_n O dX1_keep_164 rfl (zr_gI (ci := 0) (j := 6) O zc_0 (by decide) rfl tw_120 dX1_keep_165 (zr_pI (ci := 0) (j := 5) O zc_0 (by decide) rfl rfl rfl tw_117 dX1_keep_168 (zr_return O E (Nat.le_refl _) (Nat.le_refl _) dX1_keep_171)))))))))))))))))
  have L_64 : ∀ nn : Nat, zSd X Y 0 0 64 ((fun k ls st h1 => ∃ (i : Nat) (z : Int32) (f g : Nat → Int32), k = dP S - i ∧ i ≤ dP S ∧ fb_ct (us S) i ≤ nbk S * lnR (dR S) ∧ ls = [some (vR 10 0 e), some (vR 15 0 a), some (vI (nI (usd S))), some (vI (nI (nbk S))), some (vI (nI s)), some (vI (nI (nbk S * lnR (dR S)))), some (vI z)] ∧ z = nI i ∧ st = [] ∧ h1 = zsW (zsW h (e + 1) g) e f ∧ (∀ k, k < fb_ct (us S) i → g k = nI (enP S k)) ∧ f 0 = nI (fb_ct (us S) i) ∧ f 2 = nI (dR S) ∧ f 3 = nI (nbk S) ∧ f 4 = nI (mk (enB S) (fb_ct (us S) i)) ∧ f 7 = nI s ∧ f 8 = nI (ckW 0 s (nbk S * btR (dR S))) : Nat → zT) nn) := by
    refine zSd_loop (fun nn ih => ?_)
    have B_133 := zr_iinc (X := X) (Y := Y) (u := 0) (v := 0) (c := 1) O dX1_keep_133 rfl (zr_goto (tgt := 64) O dX1_keep_136 rfl ih)
    have B_64 := zr_iload (X := X) (Y := Y) (u := 0) (v := 0) O dX1_keep_64 (zr_aload_n O dX1_keep_66 rfl (zr_gI (ci := 5) (j := 4) O zc_5 (by decide) rfl tw_57 dX1_keep_67 (zr_icge (tgt := 139) O dX1_keep_70 rfl B_139 (zr_aload_n O dX1_keep_73 rfl (zr_gI (ci := 0) (j := 0) O zc_0 (by decide) rfl tw_101 dX1_keep_74 (zr_iload O dX1_keep_77 (zr_icge (tgt := 139) O dX1_keep_79 rfl B_139 (zr_iload_n O dX1_keep_82 rfl (zr_iload O dX1_keep_83 (zr_cI (zr_cSN (n := 2) O m_X10_bitIn (bn_X10_bitIn _ ⟨rfl, rfl⟩) tw_374 wn_RX1_67 (zrm hR rfl rfl) dX1_keep_85 (zr_iconst (x := 1) O dX1_keep_88 rfl (zr_icne (tgt := 133) O dX1_keep_89 rfl B_133 (zr_aload_n O dX1_keep_92 rfl (zr_gS (ci := 0) (j := 1) (off := 1) (t := 1) (n := 28) O zc_0 (by decide) rfl tw_104 dX1_keep_93 (zr_aload_n O dX1_keep_96 rfl (zr_gI (ci := 0) (j := 0) O zc_0 (by decide) rfl tw_101 dX1_keep_97 (zr_iload O dX1_keep_100 (zr_iast O dX1_keep_102 (zr_aload_n O dX1_keep_103 rfl (zr_dup O dX1_keep_104 (zr_gI (ci := 0) (j := 4) O zc_0 (by decide) rfl tw_114 dX1_keep_105 (zr_aload_n O dX1_keep_108 rfl (zr_iload O dX1_keep_109 (zr_cI (zr_cV (ci := 5) (n := 1) O m_X6_bitOf (bn_X6_bitOf _ ⟨rfl, rfl⟩) vw_X6_bitOf tw_817 rc_X6_bitOf (zrm hR rfl rfl) dX1_keep_111 (zr_aload_n O dX1_keep_114 rfl (zr_gI (ci := 0) (j := 0) O zc_0 (by decide) rfl tw_101 dX1_keep_115 (zr_ishl O dX1_keep_118 (zr_ior O dX1_keep_119 (zr_pI (ci := 0) (j := 4) O zc_0 (by decide) rfl rfl rfl tw_114 dX1_keep_120 (zr_aload_n O dX1_keep_123 rfl (zr_dup O dX1_keep_124 (zr_gI (ci := 0) (j := 0) O zc_0 (by decide) rfl tw_101 dX1_keep_125 (zr_iconst (x := 1) O dX1_keep_128 rfl (zr_iadd O dX1_keep_129 (zr_pI (ci := 0) (j := 0) O zc_0 (by decide) rfl rfl rfl tw_101 dX1_keep_130 (B_133))))))))))))))))))))))))))))))))))))))
    refine zSd_weak B_64 (fun ls st h1 t => ?_)
    obtain ⟨i, z, f, g, rfl, hi, hc, rfl, rfl, rfl, rfl, hg, f0, f2, f3, f4, f7, f8⟩ := t
    have hS2 : rpS S (zsW (zsW h (e + 1) g) e f) a := rpS_fr (by omega) (rpS_fr (by omega) hS)
    have ci := fb_ct_le (us S) i
    have fin : ∀ x y : Int32, fb_ct (us S) i = nbk S * lnR (dR S) → x = nI (eG (enr S s)) → y = nI (eG (enr S s)) → sm e 2 h (zsI (zsI (zsW (zsW h (e + 1) g) e f) e 6 x) e 5 y) ∧ rpE (enr S s) (zsI (zsI (zsW (zsW h (e + 1) g) e f) e 6 x) e 5 y) e := by
      intro x y hz hx hy
      rw [hz] at f0 f4 hg
      have e5 : e + 1 ≠ e := by omega
      refine ⟨?_, ?_, vE_enr hv hP hs, fun _ => ?_⟩
      · simp only [zsI_W]
        exact sm_tr (sm_tr (sm_tr (sm_W _ _ (by omega) (by omega)) (sm_W _ _ (by omega) (by omega))) (sm_W _ _ (by omega) (by omega))) (sm_W _ _ (by omega) (by omega))
      · simp only [zsI_W, zsW_s]
        exact f0
      · simp only [zsI_W, zsW_s, zsW_n _ _ e5]
        exact ⟨hg, ⟨f2, f3⟩, ⟨f4, hy, hx⟩, f7, f8⟩
    have ee : e + 1 ≠ e := by omega
    have eH0 : (zsW (zsW h (e + 1) g) e f).1 e = f := zsW_s _ _ _
    have eH1 : (zsW (zsW h (e + 1) g) e f).1 (e + 1) = g := by rw [zsW_n _ _ ee, zsW_s]
    have eG0 : fb_ct (us S) i = nbk S * lnR (dR S) → nI (mk (enB S) (fb_ct (us S) i)) ^^^ nI (wsN (dR S) s (nbk S)) = nI (eG (enr S s)) := by
      intro hz
      rw [hz, fb_xorI]
      rfl
    refine ⟨fun cq => ?_, fun cq => ⟨fun dq => ?_, fun dq => ?_⟩⟩
    · rw [hS2.2.1.1] at cq
      have := (nI_leI (by omega) (by omega)).mp cq
      have hz : fb_ct (us S) i = nbk S * lnR (dR S) := by
        have : i = dP S := by omega
        rw [this] at hc ⊢
        omega
      refine ⟨(dR S, nbk S, s), by rw [eH0, f2, f3, f7]; rfl, ⟨hr, by omega, n2, hs16⟩, rfl, fin _ _ hz ?_ ?_⟩
      · rw [eH0, f4]; exact eG0 hz
      · rw [zsI_W, zsW_s, eH0, f4, zup_s]; exact eG0 hz
    · rw [eH0, f0] at dq
      have := (nI_leI (by omega) (by omega)).mp dq
      have hz : fb_ct (us S) i = nbk S * lnR (dR S) := by omega
      refine ⟨(dR S, nbk S, s), by rw [eH0, f2, f3, f7]; rfl, ⟨hr, by omega, n2, hs16⟩, rfl, fin _ _ hz ?_ ?_⟩
      · rw [eH0, f4]; exact eG0 hz
      · rw [zsI_W, zsW_s, eH0, f4, zup_s]; exact eG0 hz
    · rw [hS2.2.1.1] at cq
      have hi2 : i < dP S := Nat.not_le.mp (fun z => cq ((nI_leI (by omega) (by omega)).mpr z))
      rw [eH0, f0] at dq
      have hc2 : fb_ct (us S) i < nbk S * lnR (dR S) := Nat.not_le.mp (fun z => dq ((nI_leI (by omega) (by omega)).mpr z))
      have hul := usd_lt hP
      have eb : (nI (usd S) >>> (nI i &&& 31)) &&& 1 = bI (us S i) := by
        rw [bI_in (by omega) (by omega), usd, mk_bit, decide_eq_true hi2, Bool.true_and]
      refine ⟨(nI (usd S), nI i), rfl, trivial, fun eq => ?_, fun eq => ?_⟩
      · replace eq : ¬ (nI (usd S) >>> (nI i &&& 31)) &&& 1 = 1 := eq
        rw [eb, bI_1] at eq
        have hu : us S i = false := by simpa using eq
        have ec : fb_ct (us S) (i + 1) = fb_ct (us S) i := by rw [fb_ct_succ, hu]; rfl
        exact ⟨dP S - (i + 1), by omega, i + 1, _, f, g, rfl, by omega, by rw [ec]; exact hc, rfl, nI_1 i, rfl, rfl, by rw [ec]; exact hg, by rw [ec]; exact f0, f2, f3, by rw [ec]; exact f4, f7, f8⟩
      · replace eq : (nI (usd S) >>> (nI i &&& 31)) &&& 1 = 1 := eq
        rw [eb, bI_1] at eq
        have ec : fb_ct (us S) (i + 1) = fb_ct (us S) i + 1 := by rw [fb_ct_succ, eq]; rfl
        have es : enP S (fb_ct (us S) i) = i := (sel_at eq rfl (dP S) hi2).2
        have eB2 : enB S (fb_ct (us S) i) = decide (pb S i = 1) := by rw [enB, es]
        refine ⟨fb_ct (us S) i, by rw [eH0]; exact f0, by omega, (S, a, i), rfl, ⟨rpS_fr (by omega) hS2, hi2⟩, dP S - (i + 1), by omega, i + 1, _, va_up (va_up f 4 (nI (mk (enB S) (fb_ct (us S) i + 1)))) 0 (nI (fb_ct (us S) i + 1)), va_up g (fb_ct (us S) i) (nI i), rfl, by omega, by omega, rfl, nI_1 i, rfl, ?_, ?_, ?_, f2, f3, ?_, f7, f8⟩
        · simp only [zsI_W, zsW_s, zsW_n _ _ ee, zsW_n _ _ ee.symm, zsW_W, f0, f4]
          rw [zsW_c _ _ _ ee, zsW_W]
          show zsW _ e (va_up (va_up f 4 (nI (mk (enB S) (fb_ct (us S) i)) ||| (pb S i <<< (nI (fb_ct (us S) i) &&& 31)))) 0 (f 0 + 1)) = _
          rw [pb_b, bI_shl (by omega), fa_or, f0, nI_1, mk, eB2, zsW_W]
        · intro k hk
          by_cases hki : k = fb_ct (us S) i
          · rw [hki, zup_s, es]
          · rw [zup_n _ _ hki]; exact hg k (by omega)
        · rw [zup_s, ec]
        · rw [zup_n _ _ (by decide : (4 : Nat) ≠ 0), zup_s, ec]
  have B_64 := zSd_any L_64
  have B_0 := zr_aload_n (X := X) (Y := Y) (u := 0) (v := 0) O dX1_keep_0 rfl (zr_aload_n O dX1_keep_1 rfl (zr_gS (ci := 5) (j := 7) (off := 6) (t := 1) (n := 5) O zc_5 (by decide) rfl tw_74 dX1_keep_2 (zr_iconst (x := 4) O dX1_keep_5 rfl (zr_iald O dX1_keep_6 (zr_pI (ci := 0) (j := 2) O zc_0 (by decide) rfl rfl rfl tw_108 dX1_keep_7 (zr_aload_n O dX1_keep_10 rfl (zr_iload_n O dX1_keep_11 rfl (zr_pI (ci := 0) (j := 3) O zc_0 (by decide) rfl rfl rfl tw_110 dX1_keep_12 (zr_aload_n O dX1_keep_15 rfl (zr_iload O dX1_keep_16 (zr_pI (ci := 0) (j := 7) O zc_0 (by decide) rfl rfl rfl tw_121 dX1_keep_18 (zr_aload_n O dX1_keep_21 rfl (zr_iconst (x := 0) O dX1_keep_22 rfl (zr_aload_n O dX1_keep_23 rfl (zr_gI (ci := 0) (j := 7) O zc_0 (by decide) rfl tw_121 dX1_keep_24 (zr_aload_n O dX1_keep_27 rfl (zr_cI (zr_cV (ci := 0) (n := 0) O m_X1_secretBits (bn_X1_secretBits _ ⟨rfl, rfl⟩) vw_X1_secretBits tw_806 rc_X1_secretBits (zrm hR rfl rfl) dX1_keep_28 (zr_cI (zr_cS (n := 3) O m_X0_checkWith (bn_X0_checkWith _ ⟨rfl, rfl⟩) tw_812 tw_811 (zrm hR rfl rfl) dX1_keep_31 (zr_pI (ci := 0) (j := 8) O zc_0 (by decide) rfl rfl rfl tw_125 dX1_keep_34 (zr_aload_n O dX1_keep_37 rfl (zr_gI (ci := 0) (j := 3) O zc_0 (by decide) rfl tw_110 dX1_keep_38 (zr_aload_n O dX1_keep_41 rfl (zr_gI (ci := 0) (j := 2) O zc_0 (by decide) rfl tw_108 dX1_keep_42 (zr_cI (zr_cS (n := 1) O m_X0_lengthOf (bn_X0_lengthOf _ ⟨rfl, rfl⟩) tw_773 tw_815 (zrm hR rfl rfl) dX1_keep_45 (zr_imul O dX1_keep_48 (zr_istore O dX1_keep_49 (zr_aload_n O dX1_keep_51 rfl (zr_iconst (x := 0) O dX1_keep_52 rfl (zr_pI (ci := 0) (j := 0) O zc_0 (by decide) rfl rfl rfl tw_101 dX1_keep_53 (zr_aload_n O dX1_keep_56 rfl (zr_iconst (x := 0) O dX1_keep_57 rfl (zr_pI (ci := 0) (j := 4) O zc_0 (by decide) rfl rfl rfl tw_114 dX1_keep_58 (zr_iconst (x := 0) O dX1_keep_61 rfl (zr_istore O dX1_keep_62 (B_64))))))))))))))))))))))))))))))))))))))
  refine ⟨rfl, Nat.le_of_ble_eq_true rfl, _, B_0, ?_⟩
  have e4 := hS.2.2.2.2 4 (by decide)
  rw [hv.2.2.2.2.2.1] at e4
  refine ⟨4, rfl, by decide, (e, dR S, nbk S), rfl, ⟨by simp only [zsI_W, zsW_s]; exact e4, by simp only [zsI_W, zsW_s]; rfl, hr⟩, (0, s, nbk S * btR (dR S)), by simp only [zsI_W, zsW_s]; rfl, ⟨by decide, by omega, n2⟩, dR S, ?_, hr, dP S - 0, 0, _, va_up (va_up (va_up (va_up (va_up (va_up (h.1 e) 2 (nI (dR S))) 3 (nI (nbk S))) 7 (nI s)) 8 (nI (ckW 0 s (nbk S * btR (dR S))))) 0 0) 4 0, h.1 (e + 1), rfl, Nat.zero_le _, Nat.zero_le _, ?_, rfl, rfl, ?_, fun k hk => absurd hk (Nat.not_lt_zero _), rfl, rfl, rfl, rfl, rfl, rfl⟩
  · simp only [zsI_W, zsW_s]
    exact congrArg (fun z => [vI z]) e4
  · simp only [zsI_W, zsW_s]
    show [_, _, _, _, _, some (vI (nI (nbk S) * nI (lnR (dR S)))), _] = _
    rw [pk_mul]
    rfl
  · simp only [zsI_W, zsW_s, zsW_W, e4, zsW_self]
    rfl
/-! a reading -/
theorem zup_self {α : Type} (f : Nat → α) (j : Nat) : va_up f j (f j) = f := by
  funext q
  by_cases h : q = j
  · rw [h, zup_s]
  · rw [zup_n _ _ h]
def irm (x y : Int32) : Int32 := x - x / y * y
theorem nI_z {z : Int32} {n : Nat} (h0 : 0 ≤ z.toInt) (h1 : z.toInt ≤ n) (hn : n < 2 ^ 31) : ∃ k, k ≤ n ∧ z = nI k := by
  refine ⟨z.toInt.toNat, by omega, ?_⟩
  rw [fa_eq, nI_toInt (by omega)]
  omega
theorem nz_odd : ∀ k, k ≤ 50 → ¬ (2 : Int32) * nI k + 1 = 0 := by decide +kernel
/-- the seed that comes after, the speed read -/
def sdn (x : Int32) : Int32 := irm (75 * x + 74) 65537
def rdS (S : zD) (r : Nat) (x : Int32) : Int32 := if 0 < dZ S r then sdn x else x
def rdV (S : zD) (r : Nat) (te x : Int32) : Int32 := if 0 < dZ S r then spd S r te + irm (sdn x) (2 * dZ S r + 1) - dZ S r else spd S r te
def ca_X5_noisySpeed : (zD × Nat × Nat × Nat × Int32) → List zV := fun (S, b, a, r, te) => [vR 14 0 b, vR 15 0 a, vI (nI r), vI te]
def cp_X5_noisySpeed : (zD × Nat × Nat × Nat × Int32) → zH → Prop := fun (S, b, a, r, te) h => rpS S h a ∧ r < dN S ∧ vS S
def cf_X5_noisySpeed : (zD × Nat × Nat × Nat × Int32) → zH → Int32 := fun (S, b, a, r, te) h => rdV S r te (h.1 b 0)
def cg_X5_noisySpeed : (zD × Nat × Nat × Nat × Int32) → zH → zH := fun (S, b, a, r, te) h => zsI h b 0 (rdS S r (h.1 b 0))
theorem rc_X5_noisySpeed : ∀ x : (zD × Nat × Nat × Nat × Int32), ∃ (j a : Nat) (As : List zV), ca_X5_noisySpeed x = vR (10 + 4) j a :: As := by
  rintro ⟨S, b, a, r, te⟩
  exact ⟨_, _, _, rfl⟩
set_option maxHeartbeats 4000000 in
set_option maxRecDepth 100000 in
theorem m_X5_noisySpeed : zM yX5_noisySpeed cX5_noisySpeed 6 (some .int) ({ frames := 1, cells := 0, slots := 0, locals := 22 } : Room) (zcH ca_X5_noisySpeed cp_X5_noisySpeed cf_X5_noisySpeed cg_X5_noisySpeed) := by
  refine zM_of (by decide) ?_
  rintro X Y ⟨S, b, a, r, te⟩ h ⟨hS, hr, hv⟩ O E hR
  have B_24 := zr_aload_n (X := X) (Y := Y) (u := 0) (v := 0) O dX5_noisySpeed_24 rfl (zr_bipush (x := (75)) O dX5_noisySpeed_25 (by decide) (zr_aload_n O dX5_noisySpeed_27 rfl (zr_gI (ci := 4) (j := 0) O zc_4 (by decide) rfl tw_228 dX5_noisySpeed_28 (zr_imul O dX5_noisySpeed_31 (zr_bipush (x := (74)) O dX5_noisySpeed_32 (by decide) (zr_iadd O dX5_noisySpeed_34 (zr_ldc (x := (65537)) O dX5_noisySpeed_35 tw_1003 (zr_irem O dX5_noisySpeed_37 (zr_pI (ci := 4) (j := 0) O zc_4 (by decide) rfl rfl rfl tw_228 dX5_noisySpeed_38 (zr_iload O dX5_noisySpeed_41 (zr_aload_n O dX5_noisySpeed_43 rfl (zr_gI (ci := 4) (j := 0) O zc_4 (by decide) rfl tw_228 dX5_noisySpeed_44 (zr_iconst (x := 2) O dX5_noisySpeed_47 rfl (zr_iload O dX5_noisySpeed_48 (zr_imul O dX5_noisySpeed_50 (zr_iconst (x := 1) O dX5_noisySpeed_51 rfl (zr_iadd O dX5_noisySpeed_52 (zr_irem O dX5_noisySpeed_53 (zr_iadd O dX5_noisySpeed_54 (zr_iload O dX5_noisySpeed_55 (zr_isub O dX5_noisySpeed_57 (zr_ireturn O E (Nat.le_refl _) (Nat.le_refl _) dX5_noisySpeed_58))))))))))))))))))))))
  have B_0 := zr_aload_n (X := X) (Y := Y) (u := 0) (v := 0) O dX5_noisySpeed_0 rfl (zr_iload_n O dX5_noisySpeed_1 rfl (zr_iload_n O dX5_noisySpeed_2 rfl (zr_cI (zr_cV (ci := 5) (n := 2) O m_X6_speedOf (bn_X6_speedOf _ ⟨rfl, rfl⟩) vw_X6_speedOf tw_1002 rc_X6_speedOf (zrm hR rfl rfl) dX5_noisySpeed_3 (zr_istore O dX5_noisySpeed_6 (zr_aload_n O dX5_noisySpeed_8 rfl (zr_gS (ci := 5) (j := 3) (off := 3) (t := 1) (n := 10) O zc_5 (by decide) rfl tw_53 dX5_noisySpeed_9 (zr_iload_n O dX5_noisySpeed_12 rfl (zr_iald O dX5_noisySpeed_13 (zr_istore O dX5_noisySpeed_14 (zr_iload O dX5_noisySpeed_16 (zr_ifgt (tgt := 24) O dX5_noisySpeed_18 rfl B_24 (zr_iload O dX5_noisySpeed_21 (zr_ireturn O E (Nat.le_refl _) (Nat.le_refl _) dX5_noisySpeed_23))))))))))))))
  refine ⟨rfl, Nat.le_of_ble_eq_true rfl, _, B_0, ?_⟩
  have hS : rpS S h a := hS
  have hN := hS.1.2
  have e3 := (hS.2.2.1 r hr).2.2
  have hz := (hv.1 r hr).2.2
  obtain ⟨k, k1, k2⟩ := nI_z (n := 50) hz.1 hz.2 (by decide)
  have nz := nz_odd k k1
  rw [← k2] at nz
  refine ⟨(S, a, r, te), rfl, ⟨hS, hr⟩, r, rfl, by omega, fun cq => ⟨by decide, ?_, zri ?_, ?_⟩, fun cq => ⟨zri ?_, ?_⟩⟩
  · rw [e3]; exact nz
  · replace cq : 0 < h.1 (a + 3) r := cq
    rw [e3] at cq ⊢
    show _ = rdV S r te (h.1 b 0)
    rw [rdV, if_pos cq, zsI_W, zsW_s, zup_s]
    rfl
  · replace cq : 0 < h.1 (a + 3) r := cq
    rw [e3] at cq
    show _ = zsI h b 0 (rdS S r (h.1 b 0))
    rw [rdS, if_pos cq]
    rfl
  · replace cq : ¬ 0 < h.1 (a + 3) r := cq
    rw [e3] at cq
    show _ = rdV S r te (h.1 b 0)
    rw [rdV, if_neg cq]
    rfl
  · replace cq : ¬ 0 < h.1 (a + 3) r := cq
    rw [e3] at cq
    show _ = zsI h b 0 (rdS S r (h.1 b 0))
    rw [rdS, if_neg cq, zsI_W, zup_self, zsW_self]
/-- seed and bits after some pairs were read -/
def rdP (S : zD) (te : Int32) (p : Nat) (x : Int32) : Int32 × Bool := (rdS S (dS S p) (rdS S (dF S p) x), decide (bby (rdV S (dF S p) te x) (rdV S (dS S p) te (rdS S (dF S p) x)) (dF S p) (dS S p) = 1))
def rdN (S : zD) (K : zE) (te x : Int32) : Nat → Int32 × Nat
  | 0 => (x, 0)
  | i + 1 => ((rdP S te (eP K i) (rdN S K te x i).1).1, (rdN S K te x i).2 ||| (if (rdP S te (eP K i) (rdN S K te x i).1).2 then 2 ^ i else 0))
theorem rdN_lt {S : zD} {K : zE} {te x : Int32} : ∀ n, (rdN S K te x n).2 < 2 ^ n
  | 0 => (by decide : (0 : Nat) < 2 ^ 0)
  | n + 1 => by
    have h1 := rdN_lt (S := S) (K := K) (te := te) (x := x) n
    have h2 : (2 : Nat) ^ n < 2 ^ (n + 1) := Nat.pow_lt_pow_right (by omega) (by omega)
    exact or_lt (Nat.lt_trans h1 h2) (by split <;> omega)
end
section
theorem dX5_take_98 : decode cX5_take 98 = .ok (.aload_n 0, 1) := by decide +kernel
theorem dX5_take_99 : decode cX5_take 99 = .ok (.iload 4, 2) := by decide +kernel
theorem dX5_take_101 : decode cX5_take 101 = .ok (.aload_n 3, 1) := by decide +kernel
theorem dX5_take_102 : decode cX5_take 102 = .ok (.getfield 45, 3) := by decide +kernel
theorem dX5_take_105 : decode cX5_take 105 = .ok (.ixor, 1) := by decide +kernel
theorem dX5_take_106 : decode cX5_take 106 = .ok (.invokestatic 48, 3) := by decide +kernel
theorem dX5_take_109 : decode cX5_take 109 = .ok (.putfield 54, 3) := by decide +kernel
theorem dX5_take_112 : decode cX5_take 112 = .ok (.iload 4, 2) := by decide +kernel
theorem dX5_take_114 : decode cX5_take 114 = .ok (.aload_n 3, 1) := by decide +kernel
theorem dX5_take_115 : decode cX5_take 115 = .ok (.getfield 57, 3) := by decide +kernel
theorem dX5_take_118 : decode cX5_take 118 = .ok (.ixor, 1) := by decide +kernel
theorem dX5_take_119 : decode cX5_take 119 = .ok (.istore 5, 2) := by decide +kernel
theorem dX5_take_121 : decode cX5_take 121 = .ok (.aload_n 0, 1) := by decide +kernel
theorem dX5_take_122 : decode cX5_take 122 = .ok (.aload_n 3, 1) := by decide +kernel
theorem dX5_take_123 : decode cX5_take 123 = .ok (.getfield 60, 3) := by decide +kernel
theorem dX5_take_126 : decode cX5_take 126 = .ok (.aload_n 3, 1) := by decide +kernel
theorem dX5_take_127 : decode cX5_take 127 = .ok (.getfield 63, 3) := by decide +kernel
theorem dX5_take_130 : decode cX5_take 130 = .ok (.iload 5, 2) := by decide +kernel
theorem dX5_take_132 : decode cX5_take 132 = .ok (.invokestatic 66, 3) := by decide +kernel
theorem dX5_take_135 : decode cX5_take 135 = .ok (.putfield 71, 3) := by decide +kernel
theorem dX5_take_138 : decode cX5_take 138 = .ok (.aload_n 3, 1) := by decide +kernel
theorem dX5_take_139 : decode cX5_take 139 = .ok (.getfield 60, 3) := by decide +kernel
theorem dX5_take_142 : decode cX5_take 142 = .ok (.aload_n 3, 1) := by decide +kernel
theorem dX5_take_143 : decode cX5_take 143 = .ok (.getfield 63, 3) := by decide +kernel
theorem dX5_take_146 : decode cX5_take 146 = .ok (.aload_n 0, 1) := by decide +kernel
theorem dX5_take_147 : decode cX5_take 147 = .ok (.getfield 71, 3) := by decide +kernel
theorem dX5_take_150 : decode cX5_take 150 = .ok (.invokestatic 74, 3) := by decide +kernel
theorem dX5_take_153 : decode cX5_take 153 = .ok (.istore 6, 2) := by decide +kernel
theorem dX5_take_155 : decode cX5_take 155 = .ok (.aload_n 0, 1) := by decide +kernel
theorem dX5_take_156 : decode cX5_take 156 = .ok (.iload 5, 2) := by decide +kernel
theorem dX5_take_158 : decode cX5_take 158 = .ok (.iload 6, 2) := by decide +kernel
theorem dX5_take_160 : decode cX5_take 160 = .ok (.ixor, 1) := by decide +kernel
theorem dX5_take_161 : decode cX5_take 161 = .ok (.invokestatic 48, 3) := by decide +kernel
theorem dX5_take_164 : decode cX5_take 164 = .ok (.putfield 77, 3) := by decide +kernel
theorem dX5_take_167 : decode cX5_take 167 = .ok (.return_, 1) := by decide +kernel
theorem dX5_take_11 : decode cX5_take 11 = .ok (.iload 5, 2) := by decide +kernel
theorem dX5_take_13 : decode cX5_take 13 = .ok (.aload_n 3, 1) := by decide +kernel
theorem dX5_take_14 : decode cX5_take 14 = .ok (.getfield 13, 3) := by decide +kernel
theorem dX5_take_17 : decode cX5_take 17 = .ok (.if_icmp .ge 81, 3) := by decide +kernel
theorem dX5_take_20 : decode cX5_take 20 = .ok (.aload_n 3, 1) := by decide +kernel
theorem dX5_take_21 : decode cX5_take 21 = .ok (.getfield 19, 3) := by decide +kernel
theorem dX5_take_24 : decode cX5_take 24 = .ok (.iload 5, 2) := by decide +kernel
theorem dX5_take_26 : decode cX5_take 26 = .ok (.iaload, 1) := by decide +kernel
theorem dX5_take_27 : decode cX5_take 27 = .ok (.istore 6, 2) := by decide +kernel
theorem dX5_take_29 : decode cX5_take 29 = .ok (.aload_n 0, 1) := by decide +kernel
theorem dX5_take_30 : decode cX5_take 30 = .ok (.aload_n 1, 1) := by decide +kernel
theorem dX5_take_31 : decode cX5_take 31 = .ok (.getfield 23, 3) := by decide +kernel
theorem dX5_take_34 : decode cX5_take 34 = .ok (.aload_n 1, 1) := by decide +kernel
theorem dX5_take_35 : decode cX5_take 35 = .ok (.getfield 23, 3) := by decide +kernel
theorem dX5_take_38 : decode cX5_take 38 = .ok (.getfield 27, 3) := by decide +kernel
theorem dX5_take_41 : decode cX5_take 41 = .ok (.iload 6, 2) := by decide +kernel
theorem dX5_take_43 : decode cX5_take 43 = .ok (.iaload, 1) := by decide +kernel
theorem dX5_take_44 : decode cX5_take 44 = .ok (.iload_n 2, 1) := by decide +kernel
theorem dX5_take_45 : decode cX5_take 45 = .ok (.invokevirtual 32, 3) := by decide +kernel
theorem dX5_take_48 : decode cX5_take 48 = .ok (.istore 7, 2) := by decide +kernel
theorem dX5_take_50 : decode cX5_take 50 = .ok (.aload_n 0, 1) := by decide +kernel
theorem dX5_take_51 : decode cX5_take 51 = .ok (.aload_n 1, 1) := by decide +kernel
theorem dX5_take_52 : decode cX5_take 52 = .ok (.getfield 23, 3) := by decide +kernel
theorem dX5_take_55 : decode cX5_take 55 = .ok (.aload_n 1, 1) := by decide +kernel
theorem dX5_take_56 : decode cX5_take 56 = .ok (.getfield 23, 3) := by decide +kernel
theorem dX5_take_59 : decode cX5_take 59 = .ok (.getfield 38, 3) := by decide +kernel
theorem dX5_take_62 : decode cX5_take 62 = .ok (.iload 6, 2) := by decide +kernel
theorem dX5_take_64 : decode cX5_take 64 = .ok (.iaload, 1) := by decide +kernel
theorem dX5_take_65 : decode cX5_take 65 = .ok (.iload_n 2, 1) := by decide +kernel
theorem dX5_take_66 : decode cX5_take 66 = .ok (.invokevirtual 32, 3) := by decide +kernel
theorem dX5_take_69 : decode cX5_take 69 = .ok (.istore 8, 2) := by decide +kernel
theorem dX5_take_71 : decode cX5_take 71 = .ok (.iload 4, 2) := by decide +kernel
theorem dX5_take_73 : decode cX5_take 73 = .ok (.aload_n 1, 1) := by decide +kernel
theorem dX5_take_74 : decode cX5_take 74 = .ok (.getfield 23, 3) := by decide +kernel
theorem dX5_take_77 : decode cX5_take 77 = .ok (.iload 6, 2) := by decide +kernel
theorem dX5_take_79 : decode cX5_take 79 = .ok (.iload 7, 2) := by decide +kernel
theorem dX5_take_81 : decode cX5_take 81 = .ok (.iload 8, 2) := by decide +kernel
theorem dX5_take_83 : decode cX5_take 83 = .ok (.invokevirtual 41, 3) := by decide +kernel
theorem dX5_take_86 : decode cX5_take 86 = .ok (.iload 5, 2) := by decide +kernel
theorem dX5_take_88 : decode cX5_take 88 = .ok (.ishl, 1) := by decide +kernel
theorem dX5_take_89 : decode cX5_take 89 = .ok (.ior, 1) := by decide +kernel
theorem dX5_take_90 : decode cX5_take 90 = .ok (.istore 4, 2) := by decide +kernel
theorem dX5_take_92 : decode cX5_take 92 = .ok (.iinc 5 1, 3) := by decide +kernel
theorem dX5_take_95 : decode cX5_take 95 = .ok (.goto (-84), 3) := by decide +kernel
theorem dX5_take_0 : decode cX5_take 0 = .ok (.aload_n 1, 1) := by decide +kernel
theorem dX5_take_1 : decode cX5_take 1 = .ok (.getfield 7, 3) := by decide +kernel
theorem dX5_take_4 : decode cX5_take 4 = .ok (.astore_n 3, 1) := by decide +kernel
theorem dX5_take_5 : decode cX5_take 5 = .ok (.iconst 0, 1) := by decide +kernel
theorem dX5_take_6 : decode cX5_take 6 = .ok (.istore 4, 2) := by decide +kernel
theorem dX5_take_8 : decode cX5_take 8 = .ok (.iconst 0, 1) := by decide +kernel
theorem dX5_take_9 : decode cX5_take 9 = .ok (.istore 5, 2) := by decide +kernel
theorem dX5_isRefused_24 : decode cX5_isRefused 24 = .ok (.ireturn, 1) := by decide +kernel
theorem dX5_isRefused_23 : decode cX5_isRefused 23 = .ok (.iconst 0, 1) := by decide +kernel
theorem dX5_isRefused_0 : decode cX5_isRefused 0 = .ok (.iconst 0, 1) := by decide +kernel
theorem dX5_isRefused_1 : decode cX5_isRefused 1 = .ok (.aload_n 0, 1) := by decide +kernel
theorem dX5_isRefused_2 : decode cX5_isRefused 2 = .ok (.getfield 71, 3) := by decide +kernel
theorem dX5_isRefused_5 : decode cX5_isRefused 5 = .ok (.aload_n 1, 1) := by decide +kernel
theorem dX5_isRefused_6 : decode cX5_isRefused 6 = .ok (.invokevirtual 80, 3) := by decide +kernel
theorem dX5_isRefused_9 : decode cX5_isRefused 9 = .ok (.invokestatic 84, 3) := by decide +kernel
theorem dX5_isRefused_12 : decode cX5_isRefused 12 = .ok (.aload_n 1, 1) := by decide +kernel
theorem dX5_isRefused_13 : decode cX5_isRefused 13 = .ok (.getfield 87, 3) := by decide +kernel
theorem dX5_isRefused_16 : decode cX5_isRefused 16 = .ok (.if_icmp .eq 7, 3) := by decide +kernel
theorem dX5_isRefused_19 : decode cX5_isRefused 19 = .ok (.iconst 1, 1) := by decide +kernel
theorem dX5_isRefused_20 : decode cX5_isRefused 20 = .ok (.goto 4, 3) := by decide +kernel
theorem zup_up {α : Type} (f : Nat → α) (j : Nat) (x y : α) : va_up (va_up f j x) j y = va_up f j y := by
  funext q
  by_cases h : q = j
  · rw [h, zup_s, zup_s]
  · rw [zup_n _ _ h, zup_n _ _ h, zup_n _ _ h]
theorem bby_b (x y : Int32) (a b : Nat) : bby x y a b = bI (decide (bby x y a b = 1)) := by
  rcases bby_01 x y a b with z | z <;> rw [z] <;> rfl
/-- what a reading gives: secret, raw, corrected -/
def rdW (S : zD) (K : zE) (te x : Int32) : Nat := (rdN S K te x (eN K)).2
def rdX (S : zD) (K : zE) (te x : Int32) : Nat := scN (eR K) (rdW S K te x ^^^ eH K) (eK K)
def rdR (S : zD) (K : zE) (te x : Int32) : Nat := pop (rdW S K te x ^^^ eB K)
def rdC (S : zD) (K : zE) (te x : Int32) : Nat := pop ((rdW S K te x ^^^ eH K) ^^^ wsN (eR K) (rdX S K te x) (eK K))
def ca_X5_take : (zQ × Nat × Nat × Int32) → List zV := fun (Q, b, s, te) => [vR 14 0 b, vR 16 0 s, vI te]
def cp_X5_take : (zQ × Nat × Nat × Int32) → zH → Prop := fun (Q, b, s, te) h => rpQ Q h s ∧ vS Q.1 ∧ 0 < eN Q.2.1 ∧ (∀ i, i < eN Q.2.1 → eP Q.2.1 i < dP Q.1) ∧ (b < s + 1 ∨ s + 13 ≤ b)
def cq_X5_take : (zQ × Nat × Nat × Int32) → zH → Option zV → zH → Prop := fun (Q, b, s, te) h r h' => r = none ∧ ∃ f : Nat → Int32, h' = zsW h b f ∧ f 0 = (rdN Q.1 Q.2.1 te (h.1 b 0) (eN Q.2.1)).1 ∧ f 1 = nI (rdR Q.1 Q.2.1 te (h.1 b 0)) ∧ f 2 = nI (rdX Q.1 Q.2.1 te (h.1 b 0)) ∧ f 3 = nI (rdC Q.1 Q.2.1 te (h.1 b 0))
theorem rc_X5_take : ∀ x : (zQ × Nat × Nat × Int32), ∃ (j a : Nat) (As : List zV), ca_X5_take x = vR (10 + 4) j a :: As := by
  rintro ⟨⟨S, K, L⟩, b, s, te⟩
  exact ⟨_, _, _, rfl⟩
set_option maxHeartbeats 4000000 in
set_option maxRecDepth 100000 in
theorem m_X5_take : zM yX5_take cX5_take 9 none ({ frames := 3, cells := 0, slots := 0, locals := 70 } : Room) ((ca_X5_take, cp_X5_take, cq_X5_take) : zC (zQ × Nat × Nat × Int32)) := by
  refine zM_of (by decide) ?_
  rintro X Y ⟨⟨S, K, L⟩, b, s, te⟩ h ⟨hQ, hv, h0, hP, hd⟩ O E hR
  have hv : vS S := hv
  have h0 : 0 < eN K := h0
  have hP : ∀ i, i < eN K → eP K i < dP S := hP
  have hS : rpS S h (s + 1) := hQ.1
  have hE : rpE K h (s + 8) := hQ.2.1
  have hbs : b < s + 1 ∨ s + 13 ≤ b := hd
  have h28 : eN K ≤ 28 := hE.2.1.1
  have hP28 : dP S ≤ 28 := hS.2.1.2
  have hN : dN S ≤ 10 := hS.1.2
  have B_98 := zr_aload_n (X := X) (Y := Y) (u := 0) (v := 0) O dX5_take_98 rfl (zr_iload O dX5_take_99 (zr_aload_n O dX5_take_101 rfl (zr_gI (ci := 0) (j := 4) O zc_0 (by decide) rfl tw_113 dX5_take_102 (zr_ixor O dX5_take_105 (zr_cI (zr_cS (n := 1) O m_J6_bitCount_0f7a4 (bn_J6_bitCount_0f7a4 _ ⟨rfl, rfl⟩) tw_767 tw_1005 (zrm hR rfl rfl) dX5_take_106 (zr_pI (ci := 4) (j := 1) O zc_4 (by decide) rfl rfl rfl tw_230 dX5_take_109 (zr_iload O dX5_take_112 (zr_aload_n O dX5_take_114 rfl (zr_gI (ci := 0) (j := 5) O zc_0 (by decide) rfl tw_116 dX5_take_115 (zr_ixor O dX5_take_118 (zr_istore O dX5_take_119 (zr_aload_n O dX5_take_121 rfl (zr_aload_n O dX5_take_122 rfl (zr_gI (ci := 0) (j := 2) O zc_0 (by decide) rfl tw_107 dX5_take_123 (zr_aload_n O dX5_take_126 rfl (zr_gI (ci := 0) (j := 3) O zc_0 (by decide) rfl tw_111 dX5_take_127 (zr_iload O dX5_take_130 (zr_cI (zr_cS (n := 3) O m_X0_secretFrom (bn_X0_secretFrom _ ⟨rfl, rfl⟩) tw_1007 tw_1006 (zrm hR rfl rfl) dX5_take_132 (zr_pI (ci := 4) (j := 2) O zc_4 (by decide) rfl rfl rfl tw_232 dX5_take_135 (zr_aload_n O dX5_take_138 rfl (zr_gI (ci := 0) (j := 2) O zc_0 (by decide) rfl tw_107 dX5_take_139 (zr_aload_n O dX5_take_142 rfl (zr_gI (ci := 0) (j := 3) O zc_0 (by decide) rfl tw_111 dX5_take_143 (zr_aload_n O dX5_take_146 rfl (zr_gI (ci := 4) (j := 2) O zc_4 (by decide) rfl tw_232 dX5_take_147 (zr_cI (zr_cS (n := 3) O m_X0_wordsOf (bn_X0_wordsOf _ ⟨rfl, rfl⟩) tw_819 tw_1014 (zrm hR rfl rfl) dX5_take_150 (zr_istore O dX5_take_153 (zr_aload_n O dX5_take_155 rfl (zr_iload O dX5_take_156 (zr_iload O dX5_take_158 (zr_ixor O dX5_take_160 (zr_cI (zr_cS (n := 1) O m_J6_bitCount_0f7a4 (bn_J6_bitCount_0f7a4 _ ⟨rfl, rfl⟩) tw_767 tw_1005 (zrm hR rfl rfl) dX5_take_161 (zr_pI (ci := 4) (j := 3) O zc_4 (by decide) rfl rfl rfl tw_234 dX5_take_164 (zr_return O E (Nat.le_refl _) (Nat.le_refl _) dX5_take_167))))))))))))))))))))))))))))))))))))))
  have L_11 : ∀ nn : Nat, zSd X Y 0 0 11 ((fun k ls st h1 => ∃ (i : Nat) (y z : Int32) (f : Nat → Int32) (y6 y7 y8 : Option zV), k = eN K - i ∧ i ≤ eN K ∧ ls = [some (vR 14 0 b), some (vR 16 0 s), some (vI te), some (vR 10 0 (s + 8)), some (vI y), some (vI z), y6, y7, y8] ∧ y = nI (rdN S K te (h.1 b 0) i).2 ∧ z = nI i ∧ st = [] ∧ h1 = zsW h b f ∧ f 0 = (rdN S K te (h.1 b 0) i).1 : Nat → zT) nn) := by
    refine zSd_loop (fun nn ih => ?_)
    have B_11 := zr_iload (X := X) (Y := Y) (u := 0) (v := 0) O dX5_take_11 (zr_aload_n O dX5_take_13 rfl (zr_gI (ci := 0) (j := 0) O zc_0 (by decide) rfl tw_102 dX5_take_14 (zr_icge (tgt := 98) O dX5_take_17 rfl B_98 (zr_aload_n O dX5_take_20 rfl (zr_gS (ci := 0) (j := 1) (off := 1) (t := 1) (n := 28) O zc_0 (by decide) rfl tw_105 dX5_take_21 (zr_iload O dX5_take_24 (zr_iald O dX5_take_26 (zr_istore O dX5_take_27 (zr_aload_n O dX5_take_29 rfl (zr_aload_n O dX5_take_30 rfl (zr_gS (ci := 6) (j := 0) (off := 1) (t := 15) (n := 0) O zc_6 (by decide) rfl tw_171 dX5_take_31 (zr_aload_n O dX5_take_34 rfl (zr_gS (ci := 6) (j := 0) (off := 1) (t := 15) (n := 0) O zc_6 (by decide) rfl tw_171 dX5_take_35 (zr_gS (ci := 5) (j := 5) (off := 4) (t := 1) (n := 28) O zc_5 (by decide) rfl tw_60 dX5_take_38 (zr_iload O dX5_take_41 (zr_iald O dX5_take_43 (zr_iload_n O dX5_take_44 rfl (zr_cH (zr_cV (ci := 4) (n := 3) O m_X5_noisySpeed (bn_X5_noisySpeed _ ⟨rfl, rfl⟩) vw_X5_noisySpeed tw_998 rc_X5_noisySpeed (zrm hR rfl rfl) dX5_take_45 (zr_istore O dX5_take_48 (zr_aload_n O dX5_take_50 rfl (zr_aload_n O dX5_take_51 rfl (zr_gS (ci := 6) (j := 0) (off := 1) (t := 15) (n := 0) O zc_6 (by decide) rfl tw_171 dX5_take_52 (zr_aload_n O dX5_take_55 rfl (zr_gS (ci := 6) (j := 0) (off := 1) (t := 15) (n := 0) O zc_6 (by decide) rfl tw_171 dX5_take_56 (zr_gS (ci := 5) (j := 6) (off := 5) (t := 1) (n := 28) O zc_5 (by decide) rfl tw_67 dX5_take_59 (zr_iload O dX5_take_62 (zr_iald O dX5_take_64 (zr_iload_n O dX5_take_65 rfl (zr_cH (zr_cV (ci := 4) (n := 3) O m_X5_noisySpeed (bn_X5_noisySpeed _ ⟨rfl, rfl⟩) vw_X5_noisySpeed tw_998 rc_X5_noisySpeed (zrm hR rfl rfl) dX5_take_66 (zr_istore O dX5_take_69 (zr_iload O dX5_take_71 (zr_aload_n O dX5_take_73 rfl (zr_gS (ci := 6) (j := 0) (off := 1) (t := 15) (n := 0) O zc_6 (by decide) rfl tw_171 dX5_take_74 (zr_iload O dX5_take_77 (zr_iload O dX5_take_79 (zr_iload O dX5_take_81 (zr_cI (zr_cV (ci := 5) (n := 3) O m_X6_bitFrom (bn_X6_bitFrom _ ⟨rfl, rfl⟩) vw_X6_bitFrom tw_1004 rc_X6_bitFrom (zrm hR rfl rfl) dX5_take_83 (zr_iload O dX5_take_86 (zr_ishl O dX5_take_88 (zr_ior O dX5_take_89 (zr_istore O dX5_take_90 (zr_iinc (c := 1) O dX5_take_92 rfl (zr_goto (tgt := 11) O dX5_take_95 rfl ih))))))))))))))))))))))))))))))))))))))))))))))
    refine zSd_weak B_11 (fun ls st h1 t => ?_)
    obtain ⟨i, y, z, f, y6, y7, y8, rfl, hi, rfl, rfl, rfl, rfl, rfl, hf⟩ := t
    have hS2 : ∀ g : Nat → Int32, rpS S (zsW h b g) (s + 1) := fun g => rpS_fr (by omega) hS
    have hE2 : rpE K (zsW h b f) (s + 8) := rpE_cg (zsW_n _ _ (by omega)) (zsW_n _ _ (by omega)) hE
    obtain ⟨p1, ⟨a1, a2⟩, ⟨a3, a4, a5⟩, a6, a7⟩ := hE2.2.2 h0
    obtain ⟨v1, v2, v3, v4, v5, ⟨q1, q2, q3, q4⟩, v6⟩ := vE_b hE.2.1 h0
    obtain ⟨-, hr, hn, hn2, -⟩ := hE.2.1.2 h0
    refine ⟨fun cq => ?_, fun cq => ?_⟩
    · rw [hE2.1] at cq
      have := (nI_leI (by omega) (by omega)).mp cq
      have hii : i = eN K := by omega
      subst hii
      have lw : rdW S K te (h.1 b 0) < 2 ^ 28 := Nat.lt_of_lt_of_le (rdN_lt _) (Nat.pow_le_pow_right (by omega) h28)
      have lx : rdX S K te (h.1 b 0) < 2 ^ 16 := Nat.lt_of_lt_of_le (scN_lt _) (Nat.pow_le_pow_right (by omega) hn2)
      have lx1 : rdW S K te (h.1 b 0) ^^^ eB K < 2 ^ 28 := Nat.xor_lt_two_pow lw v1
      have lx2 : rdW S K te (h.1 b 0) ^^^ eH K < 2 ^ 28 := Nat.xor_lt_two_pow lw v2
      have lx3 : (rdW S K te (h.1 b 0) ^^^ eH K) ^^^ wsN (eR K) (rdX S K te (h.1 b 0)) (eK K) < 2 ^ 28 := Nat.xor_lt_two_pow lx2 (Nat.lt_of_lt_of_le (wsN_lt hr _) (Nat.pow_le_pow_right (by omega) (by omega)))
      have e1 : nI (rdN S K te (h.1 b 0) (eN K)).2 ^^^ (zsW h b f).1 (s + 8) 4 = nI (rdW S K te (h.1 b 0) ^^^ eB K) := by rw [a3, fb_xorI]; rfl
      have nb : s + 8 ≠ b := by omega
      refine ⟨nI (rdW S K te (h.1 b 0) ^^^ eB K), congrArg (fun z => [vI z]) e1, trivial, (eR K, eK K, rdW S K te (h.1 b 0) ^^^ eH K), ?_, ⟨hr, by omega, hn2, lx2⟩, (eR K, eK K, rdX S K te (h.1 b 0)), ?_, ⟨hr, by omega, hn2, lx⟩, nI ((rdW S K te (h.1 b 0) ^^^ eH K) ^^^ wsN (eR K) (rdX S K te (h.1 b 0)) (eK K)), ?_, trivial, rfl, va_up (va_up (va_up f 1 (nI (rdR S K te (h.1 b 0)))) 2 (nI (rdX S K te (h.1 b 0)))) 3 (nI (rdC S K te (h.1 b 0))), ?_, ?_, rfl, rfl, rfl⟩
      · simp only [zsI_W, zsW_n _ _ nb, a1, a2, a4, fb_xorI]
        rfl
      · simp only [zsW_n _ _ nb] at a1 a2 a4
        simp only [zsI_W, zsW_n _ _ nb, zsW_s, a1, a2]
        rfl
      · simp only [zsW_n _ _ nb] at a1 a2 a4
        simp only [zsI_W, zsW_n _ _ nb, zsW_s, a4]
        show [vI (nI (rdW S K te (h.1 b 0)) ^^^ nI (eH K) ^^^ nI (wsN (eR K) (rdX S K te (h.1 b 0)) (eK K)))] = _
        rw [fb_xorI, fb_xorI]
        rfl
      · show zsI (zsI (zsI (zsW h b f) b 1 (pcI (nI (rdW S K te (h.1 b 0) ^^^ eB K)))) b 2 (nI (rdX S K te (h.1 b 0)))) b 3 (pcI (nI (rdW S K te (h.1 b 0) ^^^ eH K ^^^ wsN (eR K) (rdX S K te (h.1 b 0)) (eK K)))) = _
        rw [pcI_pop (by omega), pcI_pop (by omega)]
        simp only [zsI_W, zsW_s, zsW_W]
        rfl
      · exact hf
    · rw [hE2.1] at cq
      have hi2 : i < eN K := Nat.not_le.mp (fun z => cq ((nI_leI (by omega) (by omega)).mpr z))
      have ei := p1 i hi2
      have hp := hP i hi2
      obtain ⟨⟨f1, f2⟩, s1, s2⟩ := hS.2.2.2.1 _ hp
      have eF : ∀ g : Nat → Int32, (zsW h b g).1 (s + 1 + 4) (eP K i) = nI (dF S (eP K i)) := fun g => by rw [zsW_n _ _ (by omega)]; exact f1
      have eS : ∀ g : Nat → Int32, (zsW h b g).1 (s + 1 + 5) (eP K i) = nI (dS S (eP K i)) := fun g => by rw [zsW_n _ _ (by omega)]; exact s1
      have g1 : cg_X5_noisySpeed (S, b, s + 1, dF S (eP K i), te) (zsW h b f) = zsW h b (va_up f 0 (rdS S (dF S (eP K i)) (rdN S K te (h.1 b 0) i).1)) := by
        show zsI (zsW h b f) b 0 (rdS S _ ((zsW h b f).1 b 0)) = _
        rw [zsI_W, zsW_s, zsW_W, hf]
      have g2 : cg_X5_noisySpeed (S, b, s + 1, dS S (eP K i), te) (zsW h b (va_up f 0 (rdS S (dF S (eP K i)) (rdN S K te (h.1 b 0) i).1))) = zsW h b (va_up f 0 (rdN S K te (h.1 b 0) (i + 1)).1) := by
        show zsI (zsW h b _) b 0 (rdS S _ ((zsW h b _).1 b 0)) = _
        rw [zsI_W, zsW_s, zsW_W, zup_s, zup_up]
        rfl
      refine ⟨i, rfl, by omega, eP K i, ei, by omega, (S, b, s + 1, dF S (eP K i), te), ?_, ⟨hS2 _, f2, hv⟩, eP K i, ei, by omega, (S, b, s + 1, dS S (eP K i), te), ?_, ⟨?_, s2, hv⟩, (S, s + 1, eP K i, rdV S (dF S (eP K i)) te (rdN S K te (h.1 b 0) i).1, rdV S (dS S (eP K i)) te (rdS S (dF S (eP K i)) (rdN S K te (h.1 b 0) i).1)), ?_, ⟨?_, hp⟩, eN K - (i + 1), by omega, i + 1, _, _, va_up f 0 (rdN S K te (h.1 b 0) (i + 1)).1, _, _, _, rfl, by omega, rfl, ?_, nI_1 i, rfl, ?_, rfl⟩
      · rw [eF]; rfl
      · rw [g1, eS]; rfl
      · exact g1 ▸ hS2 _
      · rw [ei, g1]
        show [_, _, vI (rdV S _ te ((zsW h b f).1 b 0)), vI (rdV S _ te ((zsW h b (va_up f 0 (rdS S (dF S (eP K i)) (rdN S K te (h.1 b 0) i).1))).1 b 0))] = _
        rw [zsW_s, zsW_s, zup_s, hf]
        rfl
      · rw [g1, g2]; exact hS2 _
      · show nI (rdN S K te (h.1 b 0) i).2 ||| (bby _ _ _ _ <<< (nI i &&& 31)) = nI ((rdN S K te (h.1 b 0) i).2 ||| if (rdP S te (eP K i) (rdN S K te (h.1 b 0) i).1).2 then 2 ^ i else 0)
        rw [← fa_or, ← bI_shl (by omega)]
        congr 2
        exact bby_b _ _ _ _
      · rw [g1, g2]
  have B_11 := zSd_any L_11
  have B_0 := zr_aload_n (X := X) (Y := Y) (u := 0) (v := 0) O dX5_take_0 rfl (zr_gS (ci := 6) (j := 1) (off := 8) (t := 10) (n := 0) O zc_6 (by decide) rfl tw_174 dX5_take_1 (zr_astore_n O dX5_take_4 rfl (zr_iconst (x := 0) O dX5_take_5 rfl (zr_istore O dX5_take_6 (zr_iconst (x := 0) O dX5_take_8 rfl (zr_istore O dX5_take_9 (B_11)))))))
  refine ⟨rfl, Nat.le_of_ble_eq_true rfl, _, B_0, ?_⟩
  exact ⟨eN K - 0, 0, _, _, h.1 b, _, _, _, rfl, Nat.zero_le _, rfl, rfl, rfl, rfl, (zsW_self h b).symm, rfl⟩
def ca_X5_isRefused : (zE × Nat × Nat × Nat) → List zV := fun (K, b, e, x) => [vR 14 0 b, vR 10 0 e]
def cp_X5_isRefused : (zE × Nat × Nat × Nat) → zH → Prop := fun (K, b, e, x) h => rpE K h e ∧ 0 < eN K ∧ h.1 b 2 = nI x ∧ x < 2 ^ 16
def cf_X5_isRefused : (zE × Nat × Nat × Nat) → zH → Int32 := fun (K, b, e, x) _ => bI (decide (ckW 0 x (eK K * btR (eR K)) ≠ eC K))
theorem rc_X5_isRefused : ∀ x : (zE × Nat × Nat × Nat), ∃ (j a : Nat) (As : List zV), ca_X5_isRefused x = vR (10 + 4) j a :: As := by
  rintro ⟨K, b, e, x⟩
  exact ⟨_, _, _, rfl⟩
set_option maxHeartbeats 4000000 in
set_option maxRecDepth 100000 in
theorem m_X5_isRefused : zM yX5_isRefused cX5_isRefused 2 (some .boolean) ({ frames := 2, cells := 0, slots := 0, locals := 45 } : Room) (zcI ca_X5_isRefused cp_X5_isRefused cf_X5_isRefused) := by
  refine zM_of (by decide) ?_
  rintro X Y ⟨K, b, e, x⟩ h ⟨hE, h0, hx, hx2⟩ O E hR
  have B_24 := zr_zreturn (X := X) (Y := Y) (u := 0) (v := 0) O E (Nat.le_refl _) (Nat.le_refl _) dX5_isRefused_24
  have B_23 := zr_iconst (X := X) (Y := Y) (u := 0) (v := 0) (x := 0) O dX5_isRefused_23 rfl (B_24)
  have B_0 := zr_iconst (X := X) (Y := Y) (u := 0) (v := 0) (x := 0) O dX5_isRefused_0 rfl (zr_aload_n O dX5_isRefused_1 rfl (zr_gI (ci := 4) (j := 2) O zc_4 (by decide) rfl tw_232 dX5_isRefused_2 (zr_aload_n O dX5_isRefused_5 rfl (zr_cI (zr_cV (ci := 0) (n := 0) O m_X1_secretBits (bn_X1_secretBits _ ⟨rfl, rfl⟩) vw_X1_secretBits tw_1019 rc_X1_secretBits (zrm hR rfl rfl) dX5_isRefused_6 (zr_cI (zr_cS (n := 3) O m_X0_checkWith (bn_X0_checkWith _ ⟨rfl, rfl⟩) tw_812 tw_1020 (zrm hR rfl rfl) dX5_isRefused_9 (zr_aload_n O dX5_isRefused_12 rfl (zr_gI (ci := 0) (j := 8) O zc_0 (by decide) rfl tw_123 dX5_isRefused_13 (zr_iceq (tgt := 23) O dX5_isRefused_16 rfl B_23 (zr_iconst (x := 1) O dX5_isRefused_19 rfl (zr_goto (tgt := 24) O dX5_isRefused_20 rfl B_24))))))))))))
  refine ⟨rfl, Nat.le_of_ble_eq_true rfl, _, B_0, ?_⟩
  have hE : rpE K h e := hE
  obtain ⟨p1, ⟨a1, a2⟩, ⟨a3, a4, a5⟩, a6, a7⟩ := hE.2.2 h0
  obtain ⟨-, hr, hn, hn2, -, -, hC⟩ := hE.2.1.2 h0
  have lc := ckW_lt (c := 0) (by decide) x (eK K * btR (eR K))
  refine ⟨(e, eR K, eK K), rfl, ⟨a1, a2, hr⟩, (0, x, eK K * btR (eR K)), by rw [hx]; rfl, ⟨by decide, by omega, hn2⟩, fun cq => ⟨Or.inl rfl, zri ?_, rfl⟩, fun cq => ⟨Or.inr rfl, zri ?_, rfl⟩⟩
  · replace cq : nI (ckW 0 x (eK K * btR (eR K))) = h.1 e 8 := cq
    rw [a7] at cq
    have := (nI_eq (by omega) (by omega)).mp cq
    show (0 : Int32) = bI (decide (ckW 0 x (eK K * btR (eR K)) ≠ eC K))
    rw [decide_eq_false (fun z => z this)]
    rfl
  · replace cq : ¬ nI (ckW 0 x (eK K * btR (eR K))) = h.1 e 8 := cq
    rw [a7] at cq
    have hne : ckW 0 x (eK K * btR (eR K)) ≠ eC K := fun z => cq (by rw [z])
    show (1 : Int32) = bI (decide (ckW 0 x (eK K * btR (eR K)) ≠ eC K))
    rw [decide_eq_true hne]
    rfl
end
