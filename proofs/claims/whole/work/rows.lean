section
-- ===== PART A: goes FIRST, ahead of the names: the tables' words, and 'selects' of the private methods out of them =====
/-- a private method of a class that the tables say can be made, by its rows of tables_1 -/
def lw_okq (q : MethodName × Nat) : Prop := (q.1.cls ≠ "java/lang/invoke/MethodHandle" ∧ q.1.cls ≠ "java/lang/invoke/VarHandle") ∧ Cond.instantiable q.1.cls q.2 ∈ tables_1 ∧ Cond.privateMethod q.1 ∈ tables_1 ∧ Cond.instanceMethod q.1 ∈ tables_1
theorem lw_p0 : lw_okq (⟨"SlipSecret", "nextFor", "(LSlipSecret$Listener;)I"⟩, 15) := ⟨⟨by decide +kernel, by decide +kernel⟩, List.mem_of_getElem? (i := 27) (by decide +kernel), List.mem_of_getElem? (i := 354) (by decide +kernel), List.mem_of_getElem? (i := 355) (by decide +kernel)⟩
theorem lw_p1 : lw_okq (⟨"SlipSecret", "followersIf", "(II)I"⟩, 15) := ⟨⟨by decide +kernel, by decide +kernel⟩, List.mem_of_getElem? (i := 27) (by decide +kernel), List.mem_of_getElem? (i := 395) (by decide +kernel), List.mem_of_getElem? (i := 396) (by decide +kernel)⟩
theorem lw_p2 : lw_okq (⟨"SlipSecret", "needBetween", "(III)V"⟩, 15) := ⟨⟨by decide +kernel, by decide +kernel⟩, List.mem_of_getElem? (i := 27) (by decide +kernel), List.mem_of_getElem? (i := 458) (by decide +kernel), List.mem_of_getElem? (i := 459) (by decide +kernel)⟩
theorem lw_p3 : lw_okq (⟨"SlipSecret", "refuseArgument", "()V"⟩, 15) := ⟨⟨by decide +kernel, by decide +kernel⟩, List.mem_of_getElem? (i := 27) (by decide +kernel), List.mem_of_getElem? (i := 462) (by decide +kernel), List.mem_of_getElem? (i := 463) (by decide +kernel)⟩
theorem lw_p4 : lw_okq (⟨"java/lang/Throwable", "fillInStackTrace", "(I)Ljava/lang/Throwable;"⟩, 6) := ⟨⟨by decide +kernel, by decide +kernel⟩, List.mem_of_getElem? (i := 504) (by decide +kernel), List.mem_of_getElem? (i := 502) (by decide +kernel), List.mem_of_getElem? (i := 503) (by decide +kernel)⟩
theorem lw_p5 : lw_okq (⟨"SlipSecret$TextReader", "skipBlanks", "()V"⟩, 8) := ⟨⟨by decide +kernel, by decide +kernel⟩, List.mem_of_getElem? (i := 187) (by decide +kernel), List.mem_of_getElem? (i := 543) (by decide +kernel), List.mem_of_getElem? (i := 544) (by decide +kernel)⟩
theorem lw_p6 : lw_okq (⟨"SlipSecret$TextReader", "readLine", "()V"⟩, 8) := ⟨⟨by decide +kernel, by decide +kernel⟩, List.mem_of_getElem? (i := 187) (by decide +kernel), List.mem_of_getElem? (i := 547) (by decide +kernel), List.mem_of_getElem? (i := 548) (by decide +kernel)⟩
theorem lw_p7 : lw_okq (⟨"SlipSecret$TextReader", "isWord", "(ILjava/lang/String;)Z"⟩, 8) := ⟨⟨by decide +kernel, by decide +kernel⟩, List.mem_of_getElem? (i := 187) (by decide +kernel), List.mem_of_getElem? (i := 552) (by decide +kernel), List.mem_of_getElem? (i := 553) (by decide +kernel)⟩
theorem lw_p8 : lw_okq (⟨"SlipSecret$TextReader", "readRing", "(I)V"⟩, 8) := ⟨⟨by decide +kernel, by decide +kernel⟩, List.mem_of_getElem? (i := 187) (by decide +kernel), List.mem_of_getElem? (i := 604) (by decide +kernel), List.mem_of_getElem? (i := 605) (by decide +kernel)⟩
theorem lw_p9 : lw_okq (⟨"SlipSecret$TextReader", "fail", "(II)V"⟩, 8) := ⟨⟨by decide +kernel, by decide +kernel⟩, List.mem_of_getElem? (i := 187) (by decide +kernel), List.mem_of_getElem? (i := 608) (by decide +kernel), List.mem_of_getElem? (i := 609) (by decide +kernel)⟩
theorem lw_p10 : lw_okq (⟨"SlipSecret$TextReader", "readNumber", "(II)I"⟩, 8) := ⟨⟨by decide +kernel, by decide +kernel⟩, List.mem_of_getElem? (i := 187) (by decide +kernel), List.mem_of_getElem? (i := 612) (by decide +kernel), List.mem_of_getElem? (i := 613) (by decide +kernel)⟩
theorem lw_p11 : lw_okq (⟨"SlipSecret$TextReader", "readDigits", "()I"⟩, 8) := ⟨⟨by decide +kernel, by decide +kernel⟩, List.mem_of_getElem? (i := 187) (by decide +kernel), List.mem_of_getElem? (i := 616) (by decide +kernel), List.mem_of_getElem? (i := 617) (by decide +kernel)⟩
theorem lw_p12 : lw_okq (⟨"SlipSecret$TextReader", "needNumber", "(III)V"⟩, 8) := ⟨⟨by decide +kernel, by decide +kernel⟩, List.mem_of_getElem? (i := 187) (by decide +kernel), List.mem_of_getElem? (i := 621) (by decide +kernel), List.mem_of_getElem? (i := 622) (by decide +kernel)⟩
theorem lw_p13 : lw_okq (⟨"SlipSecret$TextReader", "readSigned", "(II)I"⟩, 8) := ⟨⟨by decide +kernel, by decide +kernel⟩, List.mem_of_getElem? (i := 187) (by decide +kernel), List.mem_of_getElem? (i := 625) (by decide +kernel), List.mem_of_getElem? (i := 626) (by decide +kernel)⟩
theorem lw_p14 : lw_okq (⟨"SlipSecret$TextReader", "readPair", "(I)V"⟩, 8) := ⟨⟨by decide +kernel, by decide +kernel⟩, List.mem_of_getElem? (i := 187) (by decide +kernel), List.mem_of_getElem? (i := 634) (by decide +kernel), List.mem_of_getElem? (i := 635) (by decide +kernel)⟩
theorem lw_p15 : lw_okq (⟨"SlipSecret$TextReader", "readRepeat", "()V"⟩, 8) := ⟨⟨by decide +kernel, by decide +kernel⟩, List.mem_of_getElem? (i := 187) (by decide +kernel), List.mem_of_getElem? (i := 650) (by decide +kernel), List.mem_of_getElem? (i := 651) (by decide +kernel)⟩
def lw_privs_1 : List (MethodName × Nat) := [(⟨"SlipSecret", "nextFor", "(LSlipSecret$Listener;)I"⟩, 15), (⟨"SlipSecret", "followersIf", "(II)I"⟩, 15), (⟨"SlipSecret", "needBetween", "(III)V"⟩, 15), (⟨"SlipSecret", "refuseArgument", "()V"⟩, 15), (⟨"java/lang/Throwable", "fillInStackTrace", "(I)Ljava/lang/Throwable;"⟩, 6), (⟨"SlipSecret$TextReader", "skipBlanks", "()V"⟩, 8), (⟨"SlipSecret$TextReader", "readLine", "()V"⟩, 8), (⟨"SlipSecret$TextReader", "isWord", "(ILjava/lang/String;)Z"⟩, 8), (⟨"SlipSecret$TextReader", "readRing", "(I)V"⟩, 8), (⟨"SlipSecret$TextReader", "fail", "(II)V"⟩, 8), (⟨"SlipSecret$TextReader", "readNumber", "(II)I"⟩, 8), (⟨"SlipSecret$TextReader", "readDigits", "()I"⟩, 8), (⟨"SlipSecret$TextReader", "needNumber", "(III)V"⟩, 8), (⟨"SlipSecret$TextReader", "readSigned", "(II)I"⟩, 8), (⟨"SlipSecret$TextReader", "readPair", "(I)V"⟩, 8), (⟨"SlipSecret$TextReader", "readRepeat", "()V"⟩, 8)]
theorem lw_r1 : ∀ q ∈ lw_privs_1, lw_okq q := List.forall_mem_cons.mpr ⟨lw_p0, List.forall_mem_cons.mpr ⟨lw_p1, List.forall_mem_cons.mpr ⟨lw_p2, List.forall_mem_cons.mpr ⟨lw_p3, List.forall_mem_cons.mpr ⟨lw_p4, List.forall_mem_cons.mpr ⟨lw_p5, List.forall_mem_cons.mpr ⟨lw_p6, List.forall_mem_cons.mpr ⟨lw_p7, List.forall_mem_cons.mpr ⟨lw_p8, List.forall_mem_cons.mpr ⟨lw_p9, List.forall_mem_cons.mpr ⟨lw_p10, List.forall_mem_cons.mpr ⟨lw_p11, List.forall_mem_cons.mpr ⟨lw_p12, List.forall_mem_cons.mpr ⟨lw_p13, List.forall_mem_cons.mpr ⟨lw_p14, List.forall_mem_cons.mpr ⟨lw_p15, fun _ h => absurd h List.not_mem_nil⟩⟩⟩⟩⟩⟩⟩⟩⟩⟩⟩⟩⟩⟩⟩⟩
theorem lw_p16 : lw_okq (⟨"SlipSecret$TextReader", "readEndOfLine", "()V"⟩, 8) := ⟨⟨by decide +kernel, by decide +kernel⟩, List.mem_of_getElem? (i := 187) (by decide +kernel), List.mem_of_getElem? (i := 658) (by decide +kernel), List.mem_of_getElem? (i := 659) (by decide +kernel)⟩
theorem lw_p17 : lw_okq (⟨"SlipSecret", "needSetting", "(II)V"⟩, 15) := ⟨⟨by decide +kernel, by decide +kernel⟩, List.mem_of_getElem? (i := 27) (by decide +kernel), List.mem_of_getElem? (i := 682) (by decide +kernel), List.mem_of_getElem? (i := 683) (by decide +kernel)⟩
theorem lw_p18 : lw_okq (⟨"SlipSecret", "remember", "()V"⟩, 15) := ⟨⟨by decide +kernel, by decide +kernel⟩, List.mem_of_getElem? (i := 27) (by decide +kernel), List.mem_of_getElem? (i := 687) (by decide +kernel), List.mem_of_getElem? (i := 688) (by decide +kernel)⟩
theorem lw_p19 : lw_okq (⟨"SlipSecret", "needCounted", "(II)V"⟩, 15) := ⟨⟨by decide +kernel, by decide +kernel⟩, List.mem_of_getElem? (i := 27) (by decide +kernel), List.mem_of_getElem? (i := 710) (by decide +kernel), List.mem_of_getElem? (i := 711) (by decide +kernel)⟩
theorem lw_p20 : lw_okq (⟨"SlipSecret", "refuseMissing", "()V"⟩, 15) := ⟨⟨by decide +kernel, by decide +kernel⟩, List.mem_of_getElem? (i := 27) (by decide +kernel), List.mem_of_getElem? (i := 714) (by decide +kernel), List.mem_of_getElem? (i := 715) (by decide +kernel)⟩
theorem lw_p21 : lw_okq (⟨"SlipSecret", "needTrait", "(II)V"⟩, 15) := ⟨⟨by decide +kernel, by decide +kernel⟩, List.mem_of_getElem? (i := 27) (by decide +kernel), List.mem_of_getElem? (i := 734) (by decide +kernel), List.mem_of_getElem? (i := 735) (by decide +kernel)⟩
theorem lw_p22 : lw_okq (⟨"SlipSecret", "refuseState", "()V"⟩, 15) := ⟨⟨by decide +kernel, by decide +kernel⟩, List.mem_of_getElem? (i := 27) (by decide +kernel), List.mem_of_getElem? (i := 782) (by decide +kernel), List.mem_of_getElem? (i := 783) (by decide +kernel)⟩
theorem lw_p23 : lw_okq (⟨"SlipSecret", "needEnrolled", "()V"⟩, 15) := ⟨⟨by decide +kernel, by decide +kernel⟩, List.mem_of_getElem? (i := 27) (by decide +kernel), List.mem_of_getElem? (i := 860) (by decide +kernel), List.mem_of_getElem? (i := 861) (by decide +kernel)⟩
theorem lw_p24 : lw_okq (⟨"SlipSecret", "toldOfEnrolled", "(I)I"⟩, 15) := ⟨⟨by decide +kernel, by decide +kernel⟩, List.mem_of_getElem? (i := 27) (by decide +kernel), List.mem_of_getElem? (i := 878) (by decide +kernel), List.mem_of_getElem? (i := 879) (by decide +kernel)⟩
theorem lw_p25 : lw_okq (⟨"SlipSecret", "needHeat", "(I)V"⟩, 15) := ⟨⟨by decide +kernel, by decide +kernel⟩, List.mem_of_getElem? (i := 27) (by decide +kernel), List.mem_of_getElem? (i := 901) (by decide +kernel), List.mem_of_getElem? (i := 902) (by decide +kernel)⟩
theorem lw_p26 : lw_okq (⟨"SlipSecret$Reading", "noisySpeed", "(LSlipSecret$Slip;II)I"⟩, 4) := ⟨⟨by decide +kernel, by decide +kernel⟩, List.mem_of_getElem? (i := 223) (by decide +kernel), List.mem_of_getElem? (i := 999) (by decide +kernel), List.mem_of_getElem? (i := 1000) (by decide +kernel)⟩
theorem lw_p27 : lw_okq (⟨"SlipSecret", "isSafeAt", "(I)Z"⟩, 15) := ⟨⟨by decide +kernel, by decide +kernel⟩, List.mem_of_getElem? (i := 27) (by decide +kernel), List.mem_of_getElem? (i := 1067) (by decide +kernel), List.mem_of_getElem? (i := 1068) (by decide +kernel)⟩
theorem lw_p28 : lw_okq (⟨"SlipSecret", "marginsFrom", "(I)I"⟩, 15) := ⟨⟨by decide +kernel, by decide +kernel⟩, List.mem_of_getElem? (i := 27) (by decide +kernel), List.mem_of_getElem? (i := 1078) (by decide +kernel), List.mem_of_getElem? (i := 1079) (by decide +kernel)⟩
theorem lw_p29 : lw_okq (⟨"SlipSecret$WaysCounter", "link", "(LSlipSecret$Slip;I)V"⟩, 3) := ⟨⟨by decide +kernel, by decide +kernel⟩, List.mem_of_getElem? (i := 258) (by decide +kernel), List.mem_of_getElem? (i := 1097) (by decide +kernel), List.mem_of_getElem? (i := 1098) (by decide +kernel)⟩
theorem lw_p30 : lw_okq (⟨"SlipSecret$WaysCounter", "countOf", "(I)J"⟩, 3) := ⟨⟨by decide +kernel, by decide +kernel⟩, List.mem_of_getElem? (i := 258) (by decide +kernel), List.mem_of_getElem? (i := 1102) (by decide +kernel), List.mem_of_getElem? (i := 1103) (by decide +kernel)⟩
theorem lw_p31 : lw_okq (⟨"SlipSecret", "sureOfEnrolled", "()I"⟩, 15) := ⟨⟨by decide +kernel, by decide +kernel⟩, List.mem_of_getElem? (i := 27) (by decide +kernel), List.mem_of_getElem? (i := 1114) (by decide +kernel), List.mem_of_getElem? (i := 1115) (by decide +kernel)⟩
def lw_privs_2 : List (MethodName × Nat) := [(⟨"SlipSecret$TextReader", "readEndOfLine", "()V"⟩, 8), (⟨"SlipSecret", "needSetting", "(II)V"⟩, 15), (⟨"SlipSecret", "remember", "()V"⟩, 15), (⟨"SlipSecret", "needCounted", "(II)V"⟩, 15), (⟨"SlipSecret", "refuseMissing", "()V"⟩, 15), (⟨"SlipSecret", "needTrait", "(II)V"⟩, 15), (⟨"SlipSecret", "refuseState", "()V"⟩, 15), (⟨"SlipSecret", "needEnrolled", "()V"⟩, 15), (⟨"SlipSecret", "toldOfEnrolled", "(I)I"⟩, 15), (⟨"SlipSecret", "needHeat", "(I)V"⟩, 15), (⟨"SlipSecret$Reading", "noisySpeed", "(LSlipSecret$Slip;II)I"⟩, 4), (⟨"SlipSecret", "isSafeAt", "(I)Z"⟩, 15), (⟨"SlipSecret", "marginsFrom", "(I)I"⟩, 15), (⟨"SlipSecret$WaysCounter", "link", "(LSlipSecret$Slip;I)V"⟩, 3), (⟨"SlipSecret$WaysCounter", "countOf", "(I)J"⟩, 3), (⟨"SlipSecret", "sureOfEnrolled", "()I"⟩, 15)]
theorem lw_r2 : ∀ q ∈ lw_privs_2, lw_okq q := List.forall_mem_cons.mpr ⟨lw_p16, List.forall_mem_cons.mpr ⟨lw_p17, List.forall_mem_cons.mpr ⟨lw_p18, List.forall_mem_cons.mpr ⟨lw_p19, List.forall_mem_cons.mpr ⟨lw_p20, List.forall_mem_cons.mpr ⟨lw_p21, List.forall_mem_cons.mpr ⟨lw_p22, List.forall_mem_cons.mpr ⟨lw_p23, List.forall_mem_cons.mpr ⟨lw_p24, List.forall_mem_cons.mpr ⟨lw_p25, List.forall_mem_cons.mpr ⟨lw_p26, List.forall_mem_cons.mpr ⟨lw_p27, List.forall_mem_cons.mpr ⟨lw_p28, List.forall_mem_cons.mpr ⟨lw_p29, List.forall_mem_cons.mpr ⟨lw_p30, List.forall_mem_cons.mpr ⟨lw_p31, fun _ h => absurd h List.not_mem_nil⟩⟩⟩⟩⟩⟩⟩⟩⟩⟩⟩⟩⟩⟩⟩⟩
theorem lw_p32 : lw_okq (⟨"SlipSecret$LeftCounter", "countFrom", "(LSlipSecret$Slip;LSlipSecret$Enrolment;II)I"⟩, 1) := ⟨⟨by decide +kernel, by decide +kernel⟩, List.mem_of_getElem? (i := 275) (by decide +kernel), List.mem_of_getElem? (i := 1133) (by decide +kernel), List.mem_of_getElem? (i := 1134) (by decide +kernel)⟩
theorem lw_p33 : lw_okq (⟨"SlipSecret$LeftCounter", "putBlock", "(LSlipSecret$Slip;LSlipSecret$Enrolment;II)Z"⟩, 1) := ⟨⟨by decide +kernel, by decide +kernel⟩, List.mem_of_getElem? (i := 275) (by decide +kernel), List.mem_of_getElem? (i := 1144) (by decide +kernel), List.mem_of_getElem? (i := 1145) (by decide +kernel)⟩
theorem lw_p34 : lw_okq (⟨"SlipSecret", "epochsToLearn", "(LSlipSecret$Listener;)I"⟩, 15) := ⟨⟨by decide +kernel, by decide +kernel⟩, List.mem_of_getElem? (i := 27) (by decide +kernel), List.mem_of_getElem? (i := 1167) (by decide +kernel), List.mem_of_getElem? (i := 1168) (by decide +kernel)⟩
theorem lw_p35 : lw_okq (⟨"SlipSecret", "guessedRight", "(II)I"⟩, 15) := ⟨⟨by decide +kernel, by decide +kernel⟩, List.mem_of_getElem? (i := 27) (by decide +kernel), List.mem_of_getElem? (i := 1171) (by decide +kernel), List.mem_of_getElem? (i := 1172) (by decide +kernel)⟩
theorem lw_p36 : lw_okq (⟨"SlipSecretModel", "puts", "(I)V"⟩, 35) := ⟨⟨by decide +kernel, by decide +kernel⟩, List.mem_of_getElem? (i := 1179) (by decide +kernel), List.mem_of_getElem? (i := 1298) (by decide +kernel), List.mem_of_getElem? (i := 1299) (by decide +kernel)⟩
theorem lw_p37 : lw_okq (⟨"SlipSecretModel", "isFine", "(ZII)Z"⟩, 35) := ⟨⟨by decide +kernel, by decide +kernel⟩, List.mem_of_getElem? (i := 1179) (by decide +kernel), List.mem_of_getElem? (i := 1309) (by decide +kernel), List.mem_of_getElem? (i := 1310) (by decide +kernel)⟩
theorem lw_p38 : lw_okq (⟨"SlipSecretModel", "sign", "()I"⟩, 35) := ⟨⟨by decide +kernel, by decide +kernel⟩, List.mem_of_getElem? (i := 1179) (by decide +kernel), List.mem_of_getElem? (i := 1313) (by decide +kernel), List.mem_of_getElem? (i := 1314) (by decide +kernel)⟩
theorem lw_p39 : lw_okq (⟨"SlipSecretModel", "oneLine", "()V"⟩, 35) := ⟨⟨by decide +kernel, by decide +kernel⟩, List.mem_of_getElem? (i := 1179) (by decide +kernel), List.mem_of_getElem? (i := 1317) (by decide +kernel), List.mem_of_getElem? (i := 1318) (by decide +kernel)⟩
theorem lw_p40 : lw_okq (⟨"SlipSecretModel", "passes", "(Ljava/lang/String;)Z"⟩, 35) := ⟨⟨by decide +kernel, by decide +kernel⟩, List.mem_of_getElem? (i := 1179) (by decide +kernel), List.mem_of_getElem? (i := 1322) (by decide +kernel), List.mem_of_getElem? (i := 1323) (by decide +kernel)⟩
theorem lw_p41 : lw_okq (⟨"SlipSecretModel", "isSmall", "(I)Z"⟩, 35) := ⟨⟨by decide +kernel, by decide +kernel⟩, List.mem_of_getElem? (i := 1179) (by decide +kernel), List.mem_of_getElem? (i := 1327) (by decide +kernel), List.mem_of_getElem? (i := 1328) (by decide +kernel)⟩
theorem lw_p42 : lw_okq (⟨"SlipSecretModel", "ringTold", "()V"⟩, 35) := ⟨⟨by decide +kernel, by decide +kernel⟩, List.mem_of_getElem? (i := 1179) (by decide +kernel), List.mem_of_getElem? (i := 1332) (by decide +kernel), List.mem_of_getElem? (i := 1333) (by decide +kernel)⟩
theorem lw_p43 : lw_okq (⟨"SlipSecretModel", "wrong", "(II)V"⟩, 35) := ⟨⟨by decide +kernel, by decide +kernel⟩, List.mem_of_getElem? (i := 1179) (by decide +kernel), List.mem_of_getElem? (i := 1336) (by decide +kernel), List.mem_of_getElem? (i := 1337) (by decide +kernel)⟩
theorem lw_p44 : lw_okq (⟨"SlipSecretModel", "number", "(IIZ)I"⟩, 35) := ⟨⟨by decide +kernel, by decide +kernel⟩, List.mem_of_getElem? (i := 1179) (by decide +kernel), List.mem_of_getElem? (i := 1341) (by decide +kernel), List.mem_of_getElem? (i := 1342) (by decide +kernel)⟩
theorem lw_p45 : lw_okq (⟨"SlipSecretModel", "pairTold", "()V"⟩, 35) := ⟨⟨by decide +kernel, by decide +kernel⟩, List.mem_of_getElem? (i := 1179) (by decide +kernel), List.mem_of_getElem? (i := 1347) (by decide +kernel), List.mem_of_getElem? (i := 1348) (by decide +kernel)⟩
theorem lw_p46 : lw_okq (⟨"SlipSecretModel", "heatsTold", "()V"⟩, 35) := ⟨⟨by decide +kernel, by decide +kernel⟩, List.mem_of_getElem? (i := 1179) (by decide +kernel), List.mem_of_getElem? (i := 1353) (by decide +kernel), List.mem_of_getElem? (i := 1354) (by decide +kernel)⟩
theorem lw_p47 : lw_okq (⟨"SlipSecretModel", "repeatTold", "()V"⟩, 35) := ⟨⟨by decide +kernel, by decide +kernel⟩, List.mem_of_getElem? (i := 1179) (by decide +kernel), List.mem_of_getElem? (i := 1359) (by decide +kernel), List.mem_of_getElem? (i := 1360) (by decide +kernel)⟩
def lw_privs_3 : List (MethodName × Nat) := [(⟨"SlipSecret$LeftCounter", "countFrom", "(LSlipSecret$Slip;LSlipSecret$Enrolment;II)I"⟩, 1), (⟨"SlipSecret$LeftCounter", "putBlock", "(LSlipSecret$Slip;LSlipSecret$Enrolment;II)Z"⟩, 1), (⟨"SlipSecret", "epochsToLearn", "(LSlipSecret$Listener;)I"⟩, 15), (⟨"SlipSecret", "guessedRight", "(II)I"⟩, 15), (⟨"SlipSecretModel", "puts", "(I)V"⟩, 35), (⟨"SlipSecretModel", "isFine", "(ZII)Z"⟩, 35), (⟨"SlipSecretModel", "sign", "()I"⟩, 35), (⟨"SlipSecretModel", "oneLine", "()V"⟩, 35), (⟨"SlipSecretModel", "passes", "(Ljava/lang/String;)Z"⟩, 35), (⟨"SlipSecretModel", "isSmall", "(I)Z"⟩, 35), (⟨"SlipSecretModel", "ringTold", "()V"⟩, 35), (⟨"SlipSecretModel", "wrong", "(II)V"⟩, 35), (⟨"SlipSecretModel", "number", "(IIZ)I"⟩, 35), (⟨"SlipSecretModel", "pairTold", "()V"⟩, 35), (⟨"SlipSecretModel", "heatsTold", "()V"⟩, 35), (⟨"SlipSecretModel", "repeatTold", "()V"⟩, 35)]
theorem lw_r3 : ∀ q ∈ lw_privs_3, lw_okq q := List.forall_mem_cons.mpr ⟨lw_p32, List.forall_mem_cons.mpr ⟨lw_p33, List.forall_mem_cons.mpr ⟨lw_p34, List.forall_mem_cons.mpr ⟨lw_p35, List.forall_mem_cons.mpr ⟨lw_p36, List.forall_mem_cons.mpr ⟨lw_p37, List.forall_mem_cons.mpr ⟨lw_p38, List.forall_mem_cons.mpr ⟨lw_p39, List.forall_mem_cons.mpr ⟨lw_p40, List.forall_mem_cons.mpr ⟨lw_p41, List.forall_mem_cons.mpr ⟨lw_p42, List.forall_mem_cons.mpr ⟨lw_p43, List.forall_mem_cons.mpr ⟨lw_p44, List.forall_mem_cons.mpr ⟨lw_p45, List.forall_mem_cons.mpr ⟨lw_p46, List.forall_mem_cons.mpr ⟨lw_p47, fun _ h => absurd h List.not_mem_nil⟩⟩⟩⟩⟩⟩⟩⟩⟩⟩⟩⟩⟩⟩⟩⟩
theorem lw_p48 : lw_okq (⟨"SlipSecretModel", "maySet", "(II)Z"⟩, 35) := ⟨⟨by decide +kernel, by decide +kernel⟩, List.mem_of_getElem? (i := 1179) (by decide +kernel), List.mem_of_getElem? (i := 1372) (by decide +kernel), List.mem_of_getElem? (i := 1373) (by decide +kernel)⟩
theorem lw_p49 : lw_okq (⟨"SlipSecretModel", "keeps", "()V"⟩, 35) := ⟨⟨by decide +kernel, by decide +kernel⟩, List.mem_of_getElem? (i := 1179) (by decide +kernel), List.mem_of_getElem? (i := 1376) (by decide +kernel), List.mem_of_getElem? (i := 1377) (by decide +kernel)⟩
theorem lw_p50 : lw_okq (⟨"SlipSecretModel", "isRing", "(I)Z"⟩, 35) := ⟨⟨by decide +kernel, by decide +kernel⟩, List.mem_of_getElem? (i := 1179) (by decide +kernel), List.mem_of_getElem? (i := 1384) (by decide +kernel), List.mem_of_getElem? (i := 1385) (by decide +kernel)⟩
theorem lw_p51 : lw_okq (⟨"SlipSecretModel", "blocks", "()I"⟩, 35) := ⟨⟨by decide +kernel, by decide +kernel⟩, List.mem_of_getElem? (i := 1179) (by decide +kernel), List.mem_of_getElem? (i := 1392) (by decide +kernel), List.mem_of_getElem? (i := 1393) (by decide +kernel)⟩
theorem lw_p52 : lw_okq (⟨"SlipSecretModel", "usedNow", "()I"⟩, 35) := ⟨⟨by decide +kernel, by decide +kernel⟩, List.mem_of_getElem? (i := 1179) (by decide +kernel), List.mem_of_getElem? (i := 1396) (by decide +kernel), List.mem_of_getElem? (i := 1397) (by decide +kernel)⟩
theorem lw_p53 : lw_okq (⟨"SlipSecretModel", "usedBy", "(IZ)I"⟩, 35) := ⟨⟨by decide +kernel, by decide +kernel⟩, List.mem_of_getElem? (i := 1179) (by decide +kernel), List.mem_of_getElem? (i := 1400) (by decide +kernel), List.mem_of_getElem? (i := 1401) (by decide +kernel)⟩
theorem lw_p54 : lw_okq (⟨"SlipSecretModel", "isSteady", "(II)Z"⟩, 35) := ⟨⟨by decide +kernel, by decide +kernel⟩, List.mem_of_getElem? (i := 1179) (by decide +kernel), List.mem_of_getElem? (i := 1404) (by decide +kernel), List.mem_of_getElem? (i := 1405) (by decide +kernel)⟩
theorem lw_p55 : lw_okq (⟨"SlipSecretModel", "marginOf", "(I)I"⟩, 35) := ⟨⟨by decide +kernel, by decide +kernel⟩, List.mem_of_getElem? (i := 1179) (by decide +kernel), List.mem_of_getElem? (i := 1408) (by decide +kernel), List.mem_of_getElem? (i := 1409) (by decide +kernel)⟩
theorem lw_p56 : lw_okq (⟨"SlipSecretModel", "apart", "(II)I"⟩, 35) := ⟨⟨by decide +kernel, by decide +kernel⟩, List.mem_of_getElem? (i := 1179) (by decide +kernel), List.mem_of_getElem? (i := 1412) (by decide +kernel), List.mem_of_getElem? (i := 1413) (by decide +kernel)⟩
theorem lw_p57 : lw_okq (⟨"SlipSecretModel", "speedOf", "(II)I"⟩, 35) := ⟨⟨by decide +kernel, by decide +kernel⟩, List.mem_of_getElem? (i := 1179) (by decide +kernel), List.mem_of_getElem? (i := 1416) (by decide +kernel), List.mem_of_getElem? (i := 1417) (by decide +kernel)⟩
theorem lw_p58 : lw_okq (⟨"SlipSecretModel", "bitOf", "(I)I"⟩, 35) := ⟨⟨by decide +kernel, by decide +kernel⟩, List.mem_of_getElem? (i := 1179) (by decide +kernel), List.mem_of_getElem? (i := 1420) (by decide +kernel), List.mem_of_getElem? (i := 1421) (by decide +kernel)⟩
theorem lw_p59 : lw_okq (⟨"SlipSecretModel", "bitAt", "(II)I"⟩, 35) := ⟨⟨by decide +kernel, by decide +kernel⟩, List.mem_of_getElem? (i := 1179) (by decide +kernel), List.mem_of_getElem? (i := 1424) (by decide +kernel), List.mem_of_getElem? (i := 1425) (by decide +kernel)⟩
theorem lw_p60 : lw_okq (⟨"SlipSecretModel", "noiseOf", "(I)I"⟩, 35) := ⟨⟨by decide +kernel, by decide +kernel⟩, List.mem_of_getElem? (i := 1179) (by decide +kernel), List.mem_of_getElem? (i := 1431) (by decide +kernel), List.mem_of_getElem? (i := 1432) (by decide +kernel)⟩
theorem lw_p61 : lw_okq (⟨"SlipSecretModel", "blocksOf", "(II)I"⟩, 35) := ⟨⟨by decide +kernel, by decide +kernel⟩, List.mem_of_getElem? (i := 1179) (by decide +kernel), List.mem_of_getElem? (i := 1435) (by decide +kernel), List.mem_of_getElem? (i := 1436) (by decide +kernel)⟩
theorem lw_p62 : lw_okq (⟨"SlipSecretModel", "secretBits", "()I"⟩, 35) := ⟨⟨by decide +kernel, by decide +kernel⟩, List.mem_of_getElem? (i := 1179) (by decide +kernel), List.mem_of_getElem? (i := 1445) (by decide +kernel), List.mem_of_getElem? (i := 1446) (by decide +kernel)⟩
theorem lw_p63 : lw_okq (⟨"SlipSecretModel", "words", "(II)V"⟩, 35) := ⟨⟨by decide +kernel, by decide +kernel⟩, List.mem_of_getElem? (i := 1179) (by decide +kernel), List.mem_of_getElem? (i := 1449) (by decide +kernel), List.mem_of_getElem? (i := 1450) (by decide +kernel)⟩
def lw_privs_4 : List (MethodName × Nat) := [(⟨"SlipSecretModel", "maySet", "(II)Z"⟩, 35), (⟨"SlipSecretModel", "keeps", "()V"⟩, 35), (⟨"SlipSecretModel", "isRing", "(I)Z"⟩, 35), (⟨"SlipSecretModel", "blocks", "()I"⟩, 35), (⟨"SlipSecretModel", "usedNow", "()I"⟩, 35), (⟨"SlipSecretModel", "usedBy", "(IZ)I"⟩, 35), (⟨"SlipSecretModel", "isSteady", "(II)Z"⟩, 35), (⟨"SlipSecretModel", "marginOf", "(I)I"⟩, 35), (⟨"SlipSecretModel", "apart", "(II)I"⟩, 35), (⟨"SlipSecretModel", "speedOf", "(II)I"⟩, 35), (⟨"SlipSecretModel", "bitOf", "(I)I"⟩, 35), (⟨"SlipSecretModel", "bitAt", "(II)I"⟩, 35), (⟨"SlipSecretModel", "noiseOf", "(I)I"⟩, 35), (⟨"SlipSecretModel", "blocksOf", "(II)I"⟩, 35), (⟨"SlipSecretModel", "secretBits", "()I"⟩, 35), (⟨"SlipSecretModel", "words", "(II)V"⟩, 35)]
theorem lw_r4 : ∀ q ∈ lw_privs_4, lw_okq q := List.forall_mem_cons.mpr ⟨lw_p48, List.forall_mem_cons.mpr ⟨lw_p49, List.forall_mem_cons.mpr ⟨lw_p50, List.forall_mem_cons.mpr ⟨lw_p51, List.forall_mem_cons.mpr ⟨lw_p52, List.forall_mem_cons.mpr ⟨lw_p53, List.forall_mem_cons.mpr ⟨lw_p54, List.forall_mem_cons.mpr ⟨lw_p55, List.forall_mem_cons.mpr ⟨lw_p56, List.forall_mem_cons.mpr ⟨lw_p57, List.forall_mem_cons.mpr ⟨lw_p58, List.forall_mem_cons.mpr ⟨lw_p59, List.forall_mem_cons.mpr ⟨lw_p60, List.forall_mem_cons.mpr ⟨lw_p61, List.forall_mem_cons.mpr ⟨lw_p62, List.forall_mem_cons.mpr ⟨lw_p63, fun _ h => absurd h List.not_mem_nil⟩⟩⟩⟩⟩⟩⟩⟩⟩⟩⟩⟩⟩⟩⟩⟩
theorem lw_p64 : lw_okq (⟨"SlipSecretModel", "isPair", "(I)Z"⟩, 35) := ⟨⟨by decide +kernel, by decide +kernel⟩, List.mem_of_getElem? (i := 1179) (by decide +kernel), List.mem_of_getElem? (i := 1460) (by decide +kernel), List.mem_of_getElem? (i := 1461) (by decide +kernel)⟩
theorem lw_p65 : lw_okq (⟨"SlipSecretModel", "heardAt", "(I)I"⟩, 35) := ⟨⟨by decide +kernel, by decide +kernel⟩, List.mem_of_getElem? (i := 1179) (by decide +kernel), List.mem_of_getElem? (i := 1464) (by decide +kernel), List.mem_of_getElem? (i := 1465) (by decide +kernel)⟩
theorem lw_p66 : lw_okq (⟨"SlipSecretModel", "epoch", "()I"⟩, 35) := ⟨⟨by decide +kernel, by decide +kernel⟩, List.mem_of_getElem? (i := 1179) (by decide +kernel), List.mem_of_getElem? (i := 1472) (by decide +kernel), List.mem_of_getElem? (i := 1473) (by decide +kernel)⟩
theorem lw_p67 : lw_okq (⟨"SlipSecretModel", "guessOf", "(I)I"⟩, 35) := ⟨⟨by decide +kernel, by decide +kernel⟩, List.mem_of_getElem? (i := 1179) (by decide +kernel), List.mem_of_getElem? (i := 1476) (by decide +kernel), List.mem_of_getElem? (i := 1477) (by decide +kernel)⟩
theorem lw_p68 : lw_okq (⟨"SlipSecretModel", "isKept", "()Z"⟩, 35) := ⟨⟨by decide +kernel, by decide +kernel⟩, List.mem_of_getElem? (i := 1179) (by decide +kernel), List.mem_of_getElem? (i := 1484) (by decide +kernel), List.mem_of_getElem? (i := 1485) (by decide +kernel)⟩
theorem lw_p69 : lw_okq (⟨"SlipSecretModel", "steadyMany", "()I"⟩, 35) := ⟨⟨by decide +kernel, by decide +kernel⟩, List.mem_of_getElem? (i := 1179) (by decide +kernel), List.mem_of_getElem? (i := 1496) (by decide +kernel), List.mem_of_getElem? (i := 1497) (by decide +kernel)⟩
theorem lw_p70 : lw_okq (⟨"SlipSecretModel", "keptBits", "()I"⟩, 35) := ⟨⟨by decide +kernel, by decide +kernel⟩, List.mem_of_getElem? (i := 1179) (by decide +kernel), List.mem_of_getElem? (i := 1500) (by decide +kernel), List.mem_of_getElem? (i := 1501) (by decide +kernel)⟩
theorem lw_p71 : lw_okq (⟨"SlipSecretModel", "pairsWith", "(I)I"⟩, 35) := ⟨⟨by decide +kernel, by decide +kernel⟩, List.mem_of_getElem? (i := 1179) (by decide +kernel), List.mem_of_getElem? (i := 1508) (by decide +kernel), List.mem_of_getElem? (i := 1509) (by decide +kernel)⟩
theorem lw_p72 : lw_okq (⟨"SlipSecretModel", "isHeat", "(I)Z"⟩, 35) := ⟨⟨by decide +kernel, by decide +kernel⟩, List.mem_of_getElem? (i := 1179) (by decide +kernel), List.mem_of_getElem? (i := 1516) (by decide +kernel), List.mem_of_getElem? (i := 1517) (by decide +kernel)⟩
theorem lw_p73 : lw_okq (⟨"SlipSecretModel", "keptAt", "(I)I"⟩, 35) := ⟨⟨by decide +kernel, by decide +kernel⟩, List.mem_of_getElem? (i := 1179) (by decide +kernel), List.mem_of_getElem? (i := 1528) (by decide +kernel), List.mem_of_getElem? (i := 1529) (by decide +kernel)⟩
theorem lw_p74 : lw_okq (⟨"SlipSecretModel", "blockOf", "(I)I"⟩, 35) := ⟨⟨by decide +kernel, by decide +kernel⟩, List.mem_of_getElem? (i := 1179) (by decide +kernel), List.mem_of_getElem? (i := 1532) (by decide +kernel), List.mem_of_getElem? (i := 1533) (by decide +kernel)⟩
theorem lw_p75 : lw_okq (⟨"SlipSecretModel", "followsNow", "(I)I"⟩, 35) := ⟨⟨by decide +kernel, by decide +kernel⟩, List.mem_of_getElem? (i := 1179) (by decide +kernel), List.mem_of_getElem? (i := 1536) (by decide +kernel), List.mem_of_getElem? (i := 1537) (by decide +kernel)⟩
theorem lw_p76 : lw_okq (⟨"SlipSecretModel", "laysHeard", "()V"⟩, 35) := ⟨⟨by decide +kernel, by decide +kernel⟩, List.mem_of_getElem? (i := 1179) (by decide +kernel), List.mem_of_getElem? (i := 1540) (by decide +kernel), List.mem_of_getElem? (i := 1541) (by decide +kernel)⟩
theorem lw_p77 : lw_okq (⟨"SlipSecretModel", "noOrder", "()V"⟩, 35) := ⟨⟨by decide +kernel, by decide +kernel⟩, List.mem_of_getElem? (i := 1179) (by decide +kernel), List.mem_of_getElem? (i := 1544) (by decide +kernel), List.mem_of_getElem? (i := 1545) (by decide +kernel)⟩
theorem lw_p78 : lw_okq (⟨"SlipSecretModel", "putsHeard", "()V"⟩, 35) := ⟨⟨by decide +kernel, by decide +kernel⟩, List.mem_of_getElem? (i := 1179) (by decide +kernel), List.mem_of_getElem? (i := 1548) (by decide +kernel), List.mem_of_getElem? (i := 1549) (by decide +kernel)⟩
theorem lw_p79 : lw_okq (⟨"SlipSecretModel", "puts", "(II)V"⟩, 35) := ⟨⟨by decide +kernel, by decide +kernel⟩, List.mem_of_getElem? (i := 1179) (by decide +kernel), List.mem_of_getElem? (i := 1552) (by decide +kernel), List.mem_of_getElem? (i := 1553) (by decide +kernel)⟩
def lw_privs_5 : List (MethodName × Nat) := [(⟨"SlipSecretModel", "isPair", "(I)Z"⟩, 35), (⟨"SlipSecretModel", "heardAt", "(I)I"⟩, 35), (⟨"SlipSecretModel", "epoch", "()I"⟩, 35), (⟨"SlipSecretModel", "guessOf", "(I)I"⟩, 35), (⟨"SlipSecretModel", "isKept", "()Z"⟩, 35), (⟨"SlipSecretModel", "steadyMany", "()I"⟩, 35), (⟨"SlipSecretModel", "keptBits", "()I"⟩, 35), (⟨"SlipSecretModel", "pairsWith", "(I)I"⟩, 35), (⟨"SlipSecretModel", "isHeat", "(I)Z"⟩, 35), (⟨"SlipSecretModel", "keptAt", "(I)I"⟩, 35), (⟨"SlipSecretModel", "blockOf", "(I)I"⟩, 35), (⟨"SlipSecretModel", "followsNow", "(I)I"⟩, 35), (⟨"SlipSecretModel", "laysHeard", "()V"⟩, 35), (⟨"SlipSecretModel", "noOrder", "()V"⟩, 35), (⟨"SlipSecretModel", "putsHeard", "()V"⟩, 35), (⟨"SlipSecretModel", "puts", "(II)V"⟩, 35)]
theorem lw_r5 : ∀ q ∈ lw_privs_5, lw_okq q := List.forall_mem_cons.mpr ⟨lw_p64, List.forall_mem_cons.mpr ⟨lw_p65, List.forall_mem_cons.mpr ⟨lw_p66, List.forall_mem_cons.mpr ⟨lw_p67, List.forall_mem_cons.mpr ⟨lw_p68, List.forall_mem_cons.mpr ⟨lw_p69, List.forall_mem_cons.mpr ⟨lw_p70, List.forall_mem_cons.mpr ⟨lw_p71, List.forall_mem_cons.mpr ⟨lw_p72, List.forall_mem_cons.mpr ⟨lw_p73, List.forall_mem_cons.mpr ⟨lw_p74, List.forall_mem_cons.mpr ⟨lw_p75, List.forall_mem_cons.mpr ⟨lw_p76, List.forall_mem_cons.mpr ⟨lw_p77, List.forall_mem_cons.mpr ⟨lw_p78, List.forall_mem_cons.mpr ⟨lw_p79, fun _ h => absurd h List.not_mem_nil⟩⟩⟩⟩⟩⟩⟩⟩⟩⟩⟩⟩⟩⟩⟩⟩
theorem lw_p80 : lw_okq (⟨"SlipSecretModel", "closes", "()V"⟩, 35) := ⟨⟨by decide +kernel, by decide +kernel⟩, List.mem_of_getElem? (i := 1179) (by decide +kernel), List.mem_of_getElem? (i := 1556) (by decide +kernel), List.mem_of_getElem? (i := 1557) (by decide +kernel)⟩
theorem lw_p81 : lw_okq (⟨"SlipSecretModel", "follows", "(I)I"⟩, 35) := ⟨⟨by decide +kernel, by decide +kernel⟩, List.mem_of_getElem? (i := 1179) (by decide +kernel), List.mem_of_getElem? (i := 1560) (by decide +kernel), List.mem_of_getElem? (i := 1561) (by decide +kernel)⟩
theorem lw_p82 : lw_okq (⟨"SlipSecretModel", "readsAll", "(I)V"⟩, 35) := ⟨⟨by decide +kernel, by decide +kernel⟩, List.mem_of_getElem? (i := 1179) (by decide +kernel), List.mem_of_getElem? (i := 1588) (by decide +kernel), List.mem_of_getElem? (i := 1589) (by decide +kernel)⟩
theorem lw_p83 : lw_okq (⟨"SlipSecretModel", "drawn", "(II)I"⟩, 35) := ⟨⟨by decide +kernel, by decide +kernel⟩, List.mem_of_getElem? (i := 1179) (by decide +kernel), List.mem_of_getElem? (i := 1592) (by decide +kernel), List.mem_of_getElem? (i := 1593) (by decide +kernel)⟩
theorem lw_p84 : lw_okq (⟨"SlipSecretModel", "decoded", "(I)I"⟩, 35) := ⟨⟨by decide +kernel, by decide +kernel⟩, List.mem_of_getElem? (i := 1179) (by decide +kernel), List.mem_of_getElem? (i := 1597) (by decide +kernel), List.mem_of_getElem? (i := 1598) (by decide +kernel)⟩
theorem lw_p85 : lw_okq (⟨"SlipSecretModel", "isRefused", "()Z"⟩, 35) := ⟨⟨by decide +kernel, by decide +kernel⟩, List.mem_of_getElem? (i := 1179) (by decide +kernel), List.mem_of_getElem? (i := 1601) (by decide +kernel), List.mem_of_getElem? (i := 1602) (by decide +kernel)⟩
theorem lw_p86 : lw_okq (⟨"SlipSecretModel", "firstUnsafe", "(I)I"⟩, 35) := ⟨⟨by decide +kernel, by decide +kernel⟩, List.mem_of_getElem? (i := 1179) (by decide +kernel), List.mem_of_getElem? (i := 1614) (by decide +kernel), List.mem_of_getElem? (i := 1615) (by decide +kernel)⟩
theorem lw_p87 : lw_okq (⟨"SlipSecretModel", "keptBlocks", "()I"⟩, 35) := ⟨⟨by decide +kernel, by decide +kernel⟩, List.mem_of_getElem? (i := 1179) (by decide +kernel), List.mem_of_getElem? (i := 1618) (by decide +kernel), List.mem_of_getElem? (i := 1619) (by decide +kernel)⟩
theorem lw_p88 : lw_okq (⟨"SlipSecretModel", "isSafe", "(II)Z"⟩, 35) := ⟨⟨by decide +kernel, by decide +kernel⟩, List.mem_of_getElem? (i := 1179) (by decide +kernel), List.mem_of_getElem? (i := 1622) (by decide +kernel), List.mem_of_getElem? (i := 1623) (by decide +kernel)⟩
theorem lw_p89 : lw_okq (⟨"SlipSecretModel", "isShaky", "(II)Z"⟩, 35) := ⟨⟨by decide +kernel, by decide +kernel⟩, List.mem_of_getElem? (i := 1179) (by decide +kernel), List.mem_of_getElem? (i := 1626) (by decide +kernel), List.mem_of_getElem? (i := 1627) (by decide +kernel)⟩
theorem lw_p90 : lw_okq (⟨"SlipSecretModel", "waysBy", "(I)J"⟩, 35) := ⟨⟨by decide +kernel, by decide +kernel⟩, List.mem_of_getElem? (i := 1179) (by decide +kernel), List.mem_of_getElem? (i := 1642) (by decide +kernel), List.mem_of_getElem? (i := 1643) (by decide +kernel)⟩
theorem lw_p91 : lw_okq (⟨"SlipSecretModel", "compares", "(I)V"⟩, 35) := ⟨⟨by decide +kernel, by decide +kernel⟩, List.mem_of_getElem? (i := 1179) (by decide +kernel), List.mem_of_getElem? (i := 1646) (by decide +kernel), List.mem_of_getElem? (i := 1647) (by decide +kernel)⟩
theorem lw_p92 : lw_okq (⟨"SlipSecretModel", "waysOf", "()J"⟩, 35) := ⟨⟨by decide +kernel, by decide +kernel⟩, List.mem_of_getElem? (i := 1179) (by decide +kernel), List.mem_of_getElem? (i := 1650) (by decide +kernel), List.mem_of_getElem? (i := 1651) (by decide +kernel)⟩
theorem lw_p93 : lw_okq (⟨"SlipSecretModel", "isApart", "(I)Z"⟩, 35) := ⟨⟨by decide +kernel, by decide +kernel⟩, List.mem_of_getElem? (i := 1179) (by decide +kernel), List.mem_of_getElem? (i := 1654) (by decide +kernel), List.mem_of_getElem? (i := 1655) (by decide +kernel)⟩
theorem lw_p94 : lw_okq (⟨"SlipSecretModel", "sure", "()I"⟩, 35) := ⟨⟨by decide +kernel, by decide +kernel⟩, List.mem_of_getElem? (i := 1179) (by decide +kernel), List.mem_of_getElem? (i := 1665) (by decide +kernel), List.mem_of_getElem? (i := 1666) (by decide +kernel)⟩
theorem lw_p95 : lw_okq (⟨"SlipSecretModel", "leaks", "()I"⟩, 35) := ⟨⟨by decide +kernel, by decide +kernel⟩, List.mem_of_getElem? (i := 1179) (by decide +kernel), List.mem_of_getElem? (i := 1669) (by decide +kernel), List.mem_of_getElem? (i := 1670) (by decide +kernel)⟩
def lw_privs_6 : List (MethodName × Nat) := [(⟨"SlipSecretModel", "closes", "()V"⟩, 35), (⟨"SlipSecretModel", "follows", "(I)I"⟩, 35), (⟨"SlipSecretModel", "readsAll", "(I)V"⟩, 35), (⟨"SlipSecretModel", "drawn", "(II)I"⟩, 35), (⟨"SlipSecretModel", "decoded", "(I)I"⟩, 35), (⟨"SlipSecretModel", "isRefused", "()Z"⟩, 35), (⟨"SlipSecretModel", "firstUnsafe", "(I)I"⟩, 35), (⟨"SlipSecretModel", "keptBlocks", "()I"⟩, 35), (⟨"SlipSecretModel", "isSafe", "(II)Z"⟩, 35), (⟨"SlipSecretModel", "isShaky", "(II)Z"⟩, 35), (⟨"SlipSecretModel", "waysBy", "(I)J"⟩, 35), (⟨"SlipSecretModel", "compares", "(I)V"⟩, 35), (⟨"SlipSecretModel", "waysOf", "()J"⟩, 35), (⟨"SlipSecretModel", "isApart", "(I)Z"⟩, 35), (⟨"SlipSecretModel", "sure", "()I"⟩, 35), (⟨"SlipSecretModel", "leaks", "()I"⟩, 35)]
theorem lw_r6 : ∀ q ∈ lw_privs_6, lw_okq q := List.forall_mem_cons.mpr ⟨lw_p80, List.forall_mem_cons.mpr ⟨lw_p81, List.forall_mem_cons.mpr ⟨lw_p82, List.forall_mem_cons.mpr ⟨lw_p83, List.forall_mem_cons.mpr ⟨lw_p84, List.forall_mem_cons.mpr ⟨lw_p85, List.forall_mem_cons.mpr ⟨lw_p86, List.forall_mem_cons.mpr ⟨lw_p87, List.forall_mem_cons.mpr ⟨lw_p88, List.forall_mem_cons.mpr ⟨lw_p89, List.forall_mem_cons.mpr ⟨lw_p90, List.forall_mem_cons.mpr ⟨lw_p91, List.forall_mem_cons.mpr ⟨lw_p92, List.forall_mem_cons.mpr ⟨lw_p93, List.forall_mem_cons.mpr ⟨lw_p94, List.forall_mem_cons.mpr ⟨lw_p95, fun _ h => absurd h List.not_mem_nil⟩⟩⟩⟩⟩⟩⟩⟩⟩⟩⟩⟩⟩⟩⟩⟩
theorem lw_p96 : lw_okq (⟨"SlipSecretModel", "left", "(Z)I"⟩, 35) := ⟨⟨by decide +kernel, by decide +kernel⟩, List.mem_of_getElem? (i := 1179) (by decide +kernel), List.mem_of_getElem? (i := 1673) (by decide +kernel), List.mem_of_getElem? (i := 1674) (by decide +kernel)⟩
theorem lw_p97 : lw_okq (⟨"SlipSecretModel", "canBe", "(IZ)Z"⟩, 35) := ⟨⟨by decide +kernel, by decide +kernel⟩, List.mem_of_getElem? (i := 1179) (by decide +kernel), List.mem_of_getElem? (i := 1677) (by decide +kernel), List.mem_of_getElem? (i := 1678) (by decide +kernel)⟩
theorem lw_p98 : lw_okq (⟨"SlipSecretModel", "isRound", "()Z"⟩, 35) := ⟨⟨by decide +kernel, by decide +kernel⟩, List.mem_of_getElem? (i := 1179) (by decide +kernel), List.mem_of_getElem? (i := 1681) (by decide +kernel), List.mem_of_getElem? (i := 1682) (by decide +kernel)⟩
theorem lw_p99 : lw_okq (⟨"SlipSecretModel", "nextNow", "()I"⟩, 35) := ⟨⟨by decide +kernel, by decide +kernel⟩, List.mem_of_getElem? (i := 1179) (by decide +kernel), List.mem_of_getElem? (i := 1697) (by decide +kernel), List.mem_of_getElem? (i := 1698) (by decide +kernel)⟩
theorem lw_p100 : lw_okq (⟨"SlipSecretModel", "wouldFollow", "(II)I"⟩, 35) := ⟨⟨by decide +kernel, by decide +kernel⟩, List.mem_of_getElem? (i := 1179) (by decide +kernel), List.mem_of_getElem? (i := 1701) (by decide +kernel), List.mem_of_getElem? (i := 1702) (by decide +kernel)⟩
theorem lw_p101 : lw_okq (⟨"SlipSecretModel", "followMany", "()I"⟩, 35) := ⟨⟨by decide +kernel, by decide +kernel⟩, List.mem_of_getElem? (i := 1179) (by decide +kernel), List.mem_of_getElem? (i := 1705) (by decide +kernel), List.mem_of_getElem? (i := 1706) (by decide +kernel)⟩
def lw_privs_7 : List (MethodName × Nat) := [(⟨"SlipSecretModel", "left", "(Z)I"⟩, 35), (⟨"SlipSecretModel", "canBe", "(IZ)Z"⟩, 35), (⟨"SlipSecretModel", "isRound", "()Z"⟩, 35), (⟨"SlipSecretModel", "nextNow", "()I"⟩, 35), (⟨"SlipSecretModel", "wouldFollow", "(II)I"⟩, 35), (⟨"SlipSecretModel", "followMany", "()I"⟩, 35)]
theorem lw_r7 : ∀ q ∈ lw_privs_7, lw_okq q := List.forall_mem_cons.mpr ⟨lw_p96, List.forall_mem_cons.mpr ⟨lw_p97, List.forall_mem_cons.mpr ⟨lw_p98, List.forall_mem_cons.mpr ⟨lw_p99, List.forall_mem_cons.mpr ⟨lw_p100, List.forall_mem_cons.mpr ⟨lw_p101, fun _ h => absurd h List.not_mem_nil⟩⟩⟩⟩⟩⟩
def lw_privs : List (MethodName × Nat) := lw_privs_1 ++ (lw_privs_2 ++ (lw_privs_3 ++ (lw_privs_4 ++ (lw_privs_5 ++ (lw_privs_6 ++ (lw_privs_7))))))
def lw_tbl : List Cond := k2_sels lw_privs ++ tables_1
theorem lw_privs_ok : ∀ q ∈ lw_privs, lw_okq q := by
  show ∀ q ∈ lw_privs_1 ++ (lw_privs_2 ++ (lw_privs_3 ++ (lw_privs_4 ++ (lw_privs_5 ++ (lw_privs_6 ++ (lw_privs_7)))))), lw_okq q
  exact List.forall_mem_append.mpr ⟨lw_r1, List.forall_mem_append.mpr ⟨lw_r2, List.forall_mem_append.mpr ⟨lw_r3, List.forall_mem_append.mpr ⟨lw_r4, List.forall_mem_append.mpr ⟨lw_r5, List.forall_mem_append.mpr ⟨lw_r6, lw_r7⟩⟩⟩⟩⟩⟩
-- ===== end of PART A; then your names; then what follows =====
/-! ===== BEGIN words of one list among another's, by their places ===== -/
theorem goodIn_r {big : List Cond} (ws : List Cond) (ps : List Nat) (hp : ws = ps.filterMap (fun i => big[i]?)) (h : ws.all goodWord = true) : GoodIn big ws := by
  intro w hw
  have h1 := List.all_eq_true.mp h w hw
  rw [hp] at hw
  obtain ⟨i, -, hi⟩ := List.mem_filterMap.mp hw
  have hm : w ∈ big := by first | exact List.mem_of_getElem? hi | exact List.getElem?_mem hi
  exact ⟨hm, good_of_word h1⟩
theorem goodIn_app {big a b : List Cond} (ha : GoodIn big a) (hb : GoodIn big b) : GoodIn big (a ++ b) := fun w h => (List.mem_append.mp h).elim (ha w) (hb w)
theorem goodIn_ca {big a b : List Cond} {c : Cond} (ha : GoodIn big (c :: a)) (hb : GoodIn big b) : GoodIn big (c :: (a ++ b)) := fun w h => (List.mem_cons.mp h).elim (fun e => ha w (List.mem_cons.mpr (Or.inl e))) (fun h => (List.mem_append.mp h).elim (fun h => ha w (List.mem_cons.mpr (Or.inr h))) (hb w))
theorem goodIn_sub {big ws : List Cond} (hm : ∀ w ∈ ws, w ∈ big) (h : ws.all goodWord = true) : GoodIn big ws := fun w hw => ⟨hm w hw, good_of_word (List.all_eq_true.mp h w hw)⟩
/-! ===== END ===== -/

/-! ===== BEGIN exceptions that leave a method, and their catching by the caller (launches without stack traces) ===== -/
section VXA
/-! The laws vx_back, vx_callV, vx_callS, vx_callSW, vx_throw0, vx_throwS follow proofs of the library, with one case more: JvmDerived/Free/Laws.lean (Back.of_free), Shelf42/LK1.lean (callV, callS), Shelf/KitTraced.lean (throwNew0V, throwNewS). -/
/-- where a method has thrown q: the class by its name, the cell, what was written, the world -/
def vx_T (XC : String → State → State → Prop) (st : State) (q : Addr) (t : State) (mc ms : Nat) (free : Addr → Prop) : Prop :=
  ∃ (E : String) (ce : Cell) (L : List Loc), XC E st t ∧ t.heap[q]? = some ce ∧ ce.vm = .none ∧ st.vm.findClass E = some ce.cls ∧ st.WarmedH t.vm ∧ st.sameButNew ({ t with vm := st.vm } : State) L mc ms ∧ ∀ z ∈ L, free z.base
def vx_Q (Qc : Array Value → State → Outcome → State → Prop) (XC : String → State → State → Prop) (mc ms : Nat) (free : Addr → Prop) : Array Value → State → Outcome → State → Prop := fun a st o t =>
  (Qc a st o t ∧ ∃ L, FrameEnd st o t L mc ms ∧ ∀ q ∈ L, free q.base) ∨ ∃ q, o = .threw q ∧ vx_T XC st q t mc ms free
/-- a callee that returns or throws -/
def vx_Met (l : Launch) (y : MethodName) (ws : List Cond) (rm : Room) (Pc : Array Value → State → Prop) (Qc : Array Value → State → Outcome → State → Prop) (XC : String → State → State → Prop) (mc ms : Nat) (free : Addr → Prop) : Prop :=
  MetFree l y (headSpec ws rm) Pc (fun _ _ _ _ _ => True) (vx_Q Qc XC mc ms free)
def vx_Post (XC : String → State → State → Prop) (mc ms : Nat) (free : Addr → Prop) : Pt → Array Value → Addr → Pt → Prop := fun A a q B =>
  ∃ (g : JFrame) (mk : MethodId) (t : State) (L : List Loc) (E : String) (ce : Cell), B.U.heap = t.heap ∧ B.U.vm = t.vm ∧ XC E (A.U.calling g mk a) t ∧ t.heap[q]? = some ce ∧ ce.vm = .none ∧ A.U.vm.findClass E = some ce.cls ∧ B.locs = A.locs ++ L ∧ (∀ z ∈ L, free z.base) ∧ B.cells = A.cells + mc ∧ B.slots = A.slots + ms
def vx_Back (l : Launch) (R : Room) (p : Program) (e : Env) (below : List Frame) (s : State) (sargs : Array Value) (y : MethodName) (len W9 : Nat)
    (Pre : Pt → Array Value → Prop) (Post : Pt → Array Value → Option Value → Pt → Prop) (PostX : Pt → Array Value → Addr → Pt → Prop) : Prop :=
  ∀ (m : MethodId) (meth : Method) (c : Code) (A : Pt) (g : JFrame) (ig : Instr) (mk : MethodId) (a : Array Value),
    Stand p l e R s m sargs below meth c A.U A.locs A.cells A.slots → g.method = m → g.locals.size = c.maxLocals → decode c.code g.pc = .ok (ig, len) →
    2 * g.monitorRoom + (g.stack.map fun v => v.category).sum ≤ W9 → A.U.methodNamed? y = some mk → Pre A a →
    (∃ (v : Option Value) (B : Pt), Stand p l e R s m sargs below meth c B.U B.locs B.cells B.slots ∧ Post A a v B ∧
      Steps p.tables e below (doInvoke e (A.U.setTop g) [] mk a).1 (B.U.setTop { g with pc := g.pc + len, stack := v.toList ++ g.stack })) ∨
    (∃ (q : Addr) (B : Pt), Stand p l e R s m sargs below meth c B.U B.locs B.cells B.slots ∧ PostX A a q B ∧
      Steps p.tables e below (doInvoke e (A.U.setTop g) [] mk a).1 ((B.U.setTop g).pushFrame (.throwing q)))
section Payer
variable {l : Launch} {R : Room} {p : Program} {e : Env} {below : List Frame} {s : State} {sargs : Array Value} {y : MethodName} {len W9 : Nat}
theorem vx_back {ws : List Cond} {rm : Room} {Pc : Array Value → State → Prop} {Qc : Array Value → State → Outcome → State → Prop} {XC : String → State → State → Prop} {mc ms : Nat} {free : Addr → Prop} {bytes : ByteArray} {maxL : Nat} {ret : Option FieldType}
    (hM : vx_Met l y ws rm Pc Qc XC mc ms free) (hblind : FrameBlind Pc) (hrc : rm.cells = mc) (hrs : rm.slots = ms)
    (hframes : rm.frames + 1 ≤ R.frames) (hlocals : W9 + (maxL + 11) + rm.locals ≤ R.locals)
    (hws : ∀ w ∈ ws, ∀ a' U, s.WarmedH U.vm → w.before a' U = true) (hcode : Cond.code y bytes maxL ret ∈ ws) (hinit : ∀ a' U, s.WarmedH U.vm → (Cond.initialized y.cls).before a' U = true) :
    vx_Back l R p e below s sargs y len W9 (PreOf R mc ms Pc) (PostOf Qc mc ms free) (vx_Post XC mc ms free) := by
  intro m meth c A g ig mk a X hg hsize hdg hW hn hp
  have h1 : (headSpec ws rm).pre.before a A.U = true := atoms_intro fun w hw => hws w hw _ _ X.warmed
  have h2 : (Cond.code y bytes maxL ret).before a A.U = true := hws _ hcode _ _ X.warmed
  have h3 : (Cond.initialized y.cls).before a A.U = true := hinit _ _ X.warmed
  have h4 : A.cells + (headSpec ws rm).room.cells ≤ R.cells := by rw [show (headSpec ws rm).room.cells = mc from hrc]; exact hp.1
  have h5 : A.slots + (headSpec ws rm).room.slots ≤ R.slots := by rw [show (headSpec ws rm).room.slots = ms from hrs]; exact hp.2.1
  have hPc : Pc a (A.U.calling g mk a) := hblind _ _ _ _ hp.2.2
  obtain ⟨U, Ls, c0, s0⟩ := A
  dsimp only [Pt.U, Pt.locs, Pt.cells, Pt.slots] at h1 h2 h3 h4 h5 X hn hPc ⊢
  obtain ⟨methY, cY, hmY, hcY, -, hlY, -, -, -, -⟩ := Cond.code_spec hn h2
  obtain ⟨kY, hkY, -⟩ := className_of_methodNamed hn
  have hinitY : kY.init = .initialized := Cond.initialized_spec (findClass_of_methodNamed hn) hkY h3
  have h : At U g.method c below := by rw [hg]; exact X.here
  have hlocals9 : W9 + (maxL + 11) + (headSpec ws rm).room.locals ≤ R.locals := hlocals
  have happ : (headSpec ws rm).appliesLoose y e.platform (U.calling g mk a) = true :=
    Spec.appliesLoose_calling (g := g) h hdg hn hkY hinitY
      (X.room_calling (g := g) (R' := (headSpec ws rm).room) hsize hmY hcY hframes (by rw [hlY]; omega) h4 h5) h1
  obtain ⟨mid, hmid⟩ := h.above
  have hfr : (U.setTop g).frames = (.java g :: mid) ++ below := by rw [State.frames_setTop' g h.top, hmid]; rfl
  obtain ⟨o, s₂, hsteps, -, hend, hq⟩ := Steps.callFree hM p X.admits X.cas X.clock (acts := []) hfr happ hPc trivial
  have hq' : vx_Q Qc XC mc ms free a (U.calling g mk a) o s₂ := hq
  rw [State.frames_setTop' g h.top] at hend
  obtain ⟨g₀, hg0⟩ := Option.isSome_iff_exists.mp h.top
  obtain ⟨r, hr⟩ := State.topJava?_eq_some.mp hg0
  have hr' : (({ U with heap := s₂.heap, slotsUsed := s₂.slotsUsed } : State).setVm s₂.vm).frames = .java g₀ :: r := hr
  rcases hq' with ⟨hqc, L, hfe, hL⟩ | ⟨q, rfl, E, ce, L, hx, hce, hcv, hcl, hW₂, hsm, hL⟩
  · obtain ⟨⟨v, rfl⟩, hW₂, e2, q2, q3, q4, q5, q6⟩ := id hfe
    have e3 : s₂ = ({ (U.calling g mk a).setFrames s₂.frames with heap := s₂.heap, slotsUsed := s₂.slotsUsed } : State).setVm s₂.vm := by
      have : s₂ = ({ s₂ with vm := (U.calling g mk a).vm } : State).setVm s₂.vm := rfl
      rw [e2] at this
      exact this
    obtain ⟨c₂, i₂, len₂, hc₂, hd₂, hf₂⟩ := hend
    have hW' : U.WarmedH s₂.vm := hW₂
    have hcc : c₂ = c := by
      have h1 : s₂.code? g.method = U.code? g.method := by
        rw [State.code?_eq, State.code?_eq, hW'.alike.method?]
      exact Option.some.inj (hc₂.symm.trans (h1.trans h.code))
    subst hcc
    have hlen : len₂ = len := by rw [hdg] at hd₂; cases hd₂; rfl
    subst hlen
    have hs₂ : s₂ = (({ U with heap := s₂.heap, slotsUsed := s₂.slotsUsed } : State).setVm s₂.vm).setTop { g with pc := g.pc + len₂, stack := v.toList ++ g.stack } := by
      refine e3.trans ?_
      rw [hf₂, State.calling_eq h.top, State.setFrames_setFrames, State.setTop_of_frames _ hr', hr]
      rfl
    have hsame : U.sameButNew ({ U with heap := s₂.heap, slotsUsed := s₂.slotsUsed } : State) L mc ms := by
      refine ⟨?_, q2, q3, q4, q5, q6⟩
      obtain ⟨t, ht, -⟩ := State.frames_cons hr
      show ({ U with heap := s₂.heap, slotsUsed := s₂.slotsUsed } : State) = { U.setFrames U.frames with heap := s₂.heap, slotsUsed := s₂.slotsUsed }
      rw [State.setFrames_self ht]
    subst hg
    refine Or.inl ⟨v, ⟨(({ U with heap := s₂.heap, slotsUsed := s₂.slotsUsed } : State).setVm s₂.vm), Ls ++ L, c0 + mc, s0 + ms⟩,
      ⟨X.admits, X.cas, X.clock, X.frames, X.room, X.hears, X.method, X.code, (X.here.setHeapUsed s₂.heap s₂.slotsUsed).setVm hW'.alike, X.tail, State.WarmedH.trans X.warmed hW', X.limits, X.bytes, X.same.trans (hsame.setVm s.vm)⟩,
      ⟨g, mk, s₂, L, rfl, rfl, hqc, rfl, hL, rfl, rfl⟩, ?_⟩
    show Steps p.tables e below _ ((({ U with heap := s₂.heap, slotsUsed := s₂.slotsUsed } : State).setVm s₂.vm).setTop { g with pc := g.pc + len₂, stack := v.toList ++ g.stack })
    rw [← hs₂]
    exact hsteps
  · obtain ⟨e2, q2, q3, q4, q5, q6⟩ := id hsm
    have e3 : s₂ = ({ (U.calling g mk a).setFrames s₂.frames with heap := s₂.heap, slotsUsed := s₂.slotsUsed } : State).setVm s₂.vm := by
      have : s₂ = ({ s₂ with vm := (U.calling g mk a).vm } : State).setVm s₂.vm := rfl
      rw [e2] at this
      exact this
    have hf₂ : s₂.frames = .throwing q :: .java g :: U.frames.tail := hend
    have hW' : U.WarmedH s₂.vm := hW₂
    have hs₂ : s₂ = ((({ U with heap := s₂.heap, slotsUsed := s₂.slotsUsed } : State).setVm s₂.vm).setTop g).pushFrame (.throwing q) := by
      refine e3.trans ?_
      rw [hf₂, State.calling_eq h.top, State.setFrames_setFrames, State.pushFrame, State.frames_setTop _ hr', State.setTop_of_frames _ hr', State.setFrames_setFrames, hr]
      rfl
    have hsame : U.sameButNew ({ U with heap := s₂.heap, slotsUsed := s₂.slotsUsed } : State) L mc ms := by
      refine ⟨?_, q2, q3, q4, q5, q6⟩
      obtain ⟨t, ht, -⟩ := State.frames_cons hr
      show ({ U with heap := s₂.heap, slotsUsed := s₂.slotsUsed } : State) = { U.setFrames U.frames with heap := s₂.heap, slotsUsed := s₂.slotsUsed }
      rw [State.setFrames_self ht]
    subst hg
    refine Or.inr ⟨q, ⟨(({ U with heap := s₂.heap, slotsUsed := s₂.slotsUsed } : State).setVm s₂.vm), Ls ++ L, c0 + mc, s0 + ms⟩,
      ⟨X.admits, X.cas, X.clock, X.frames, X.room, X.hears, X.method, X.code, (X.here.setHeapUsed s₂.heap s₂.slotsUsed).setVm hW'.alike, X.tail, State.WarmedH.trans X.warmed hW', X.limits, X.bytes, X.same.trans (hsame.setVm s.vm)⟩,
      ⟨g, mk, s₂, L, E, ce, rfl, rfl, hx, hce, hcv, hcl, rfl, hL, rfl, rfl⟩, ?_⟩
    show Steps p.tables e below _ (((({ U with heap := s₂.heap, slotsUsed := s₂.slotsUsed } : State).setVm s₂.vm).setTop g).pushFrame (.throwing q))
    rw [← hs₂]
    exact hsteps
end Payer
section Calls
variable {p : Program} {l : Launch} {e : Env} {R : Room} {s : State} {m : MethodId} {args : Array Value} {below : List Frame} {meth : Method} {c : Code} {T : State} {locs : List Loc} {cells slots : Nat}
theorem vx_callV (X : Stand p l e R s m args below meth c T locs cells slots) (hexec : p.tables.exec = Jvm.exec) {own C : String} {index : Nat} {y : MethodName} {bytes : ByteArray} {maxL : Nat} {ret : Option FieldType}
    (hown : s.vm.findClass own = some m.cls) (hlink : (Cond.methodLink own index y).before args s = true) (hinst : (Cond.instanceMethod y).before args s = true) (hsel : (Cond.selects C y y).before args s = true)
    (hcode : (Cond.code y bytes maxL ret).before args s = true) (hy : y.cls ≠ "java/lang/invoke/MethodHandle" ∧ y.cls ≠ "java/lang/invoke/VarHandle")
    {W9 : Nat} {Pre : Pt → Array Value → Prop} {Post : Pt → Array Value → Option Value → Pt → Prop} {PostX : Pt → Array Value → Addr → Pt → Prop} (hK : vx_Back l R p e below s args y 3 W9 Pre Post PostX)
    {b : Addr} {cellB : Cell} (hcell : T.heap[b]? = some cellB) (hobj : cellB.vm.isStatics = false) (hcls : s.vm.findClass C = some cellB.cls)
    {g : JFrame} (hg : g.method = m) (hsize : g.locals.size = c.maxLocals) {argsL rest : List Value} (hlen : ∀ sig, parseMethodDescriptor y.desc = some sig → argsL.length = sig.parameters.length)
    (hstack : g.stack = argsL.reverse ++ .ref b :: rest) (hW : 2 * g.monitorRoom + (rest.map fun v => v.category).sum ≤ W9) (hdg : decode c.code g.pc = .ok (.invokevirtual index, 3))
    (hpre : ∀ vm₁, s.WarmedH vm₁ → Pre ⟨T.setVm vm₁, locs, cells, slots⟩ (Value.ref b :: argsL).toArray) :
    (∃ (v : Option Value) (vm₁ : Vm) (B : Pt), s.WarmedH vm₁ ∧ Stand p l e R s m args below meth c B.U B.locs B.cells B.slots ∧ Post ⟨T.setVm vm₁, locs, cells, slots⟩ (Value.ref b :: argsL).toArray v B ∧
      ∀ target, Steps p.tables e below (B.U.setTop { g with pc := g.pc + 3, stack := v.toList ++ rest }) target → Steps p.tables e below (T.setTop g) target) ∨
    (∃ (q : Addr) (vm₁ : Vm) (B : Pt), s.WarmedH vm₁ ∧ Stand p l e R s m args below meth c B.U B.locs B.cells B.slots ∧ PostX ⟨T.setVm vm₁, locs, cells, slots⟩ (Value.ref b :: argsL).toArray q B ∧
      Steps p.tables e below (T.setTop g) ((B.U.setTop { g with stack := rest }).pushFrame (.throwing q))) := by
  obtain ⟨mk, methM, hnamed, hmethM, hstM, habM⟩ := Cond.instanceMethod_spec hinst
  obtain ⟨methM', cM, hmethM', -, -, -, -, -, -, hsigM⟩ := Cond.code_spec hnamed hcode
  cases hmethM.symm.trans hmethM'
  obtain ⟨c2, r2, m2, q1, q2, q3, q4, kP, hkP, hkPi⟩ := Cond.selects_spec hsel
  cases hcls.symm.trans q1
  cases (State.methodFound?_of_named hnamed hy).symm.trans q2
  cases hnamed.symm.trans q3
  have hselP : selectMethod e.platform s.vm cellB.cls mk = .method mk := by rw [Launch.admits_selectMethod X.admits]; exact q4
  obtain ⟨vm₁, X₁, hstep₁⟩ := X.invokevirtual hexec hown hlink hnamed hmethM hstM hkP hkPi hy (a := b) (cell := cellB) hcell
    (fun z h => by rw [h] at hobj; cases hobj) hselP hmethM habM hkP hkPi (g := g) hg (argsL := argsL) (rest := rest) (hlen _ hsigM) hstack hdg
  rcases hK m meth c ⟨T.setVm vm₁, locs, cells, slots⟩ { g with stack := rest } (.invokevirtual index) mk (Value.ref b :: argsL).toArray X₁ hg hsize hdg hW (X₁.named hnamed) (hpre vm₁ X₁.warmed) with ⟨v, B, X', hpost, hsteps⟩ | ⟨q, B, X', hpost, hsteps⟩
  · exact Or.inl ⟨v, vm₁, B, X₁.warmed, X', hpost, fun target h => hstep₁ _ fun acts => by rw [doInvoke_state]; exact hsteps.trans h⟩
  · exact Or.inr ⟨q, vm₁, B, X₁.warmed, X', hpost, hstep₁ _ fun acts => by rw [doInvoke_state]; exact hsteps⟩
theorem vx_callS (X : Stand p l e R s m args below meth c T locs cells slots) (hexec : p.tables.exec = Jvm.exec) {own : String} {index : Nat} {y : MethodName} {bytes : ByteArray} {maxL : Nat} {ret : Option FieldType}
    (hown : s.vm.findClass own = some m.cls) (hlink : (Cond.methodLink own index y).before args s = true) (hstat : (Cond.static y).before args s = true) (hinit : (Cond.initialized y.cls).before args s = true)
    (hcode : (Cond.code y bytes maxL ret).before args s = true) (hy : y.cls ≠ "java/lang/invoke/MethodHandle" ∧ y.cls ≠ "java/lang/invoke/VarHandle")
    {W9 : Nat} {Pre : Pt → Array Value → Prop} {Post : Pt → Array Value → Option Value → Pt → Prop} {PostX : Pt → Array Value → Addr → Pt → Prop} (hK : vx_Back l R p e below s args y 3 W9 Pre Post PostX)
    {g : JFrame} (hg : g.method = m) (hsize : g.locals.size = c.maxLocals) {argsL rest : List Value} (hlen : ∀ sig, parseMethodDescriptor y.desc = some sig → argsL.length = sig.parameters.length)
    (hstack : g.stack = argsL.reverse ++ rest) (hW : 2 * g.monitorRoom + (rest.map fun v => v.category).sum ≤ W9) (hdg : decode c.code g.pc = .ok (.invokestatic index, 3))
    (hpre : ∀ vm₁, s.WarmedH vm₁ → Pre ⟨T.setVm vm₁, locs, cells, slots⟩ argsL.toArray) :
    (∃ (v : Option Value) (vm₁ : Vm) (B : Pt), s.WarmedH vm₁ ∧ Stand p l e R s m args below meth c B.U B.locs B.cells B.slots ∧ Post ⟨T.setVm vm₁, locs, cells, slots⟩ argsL.toArray v B ∧
      ∀ target, Steps p.tables e below (B.U.setTop { g with pc := g.pc + 3, stack := v.toList ++ rest }) target → Steps p.tables e below (T.setTop g) target) ∨
    (∃ (q : Addr) (vm₁ : Vm) (B : Pt), s.WarmedH vm₁ ∧ Stand p l e R s m args below meth c B.U B.locs B.cells B.slots ∧ PostX ⟨T.setVm vm₁, locs, cells, slots⟩ argsL.toArray q B ∧
      Steps p.tables e below (T.setTop g) ((B.U.setTop { g with stack := rest }).pushFrame (.throwing q))) := by
  obtain ⟨mk, hnamed⟩ := Cond.code_named hcode
  obtain ⟨methM, cM, hmethM, -, -, -, -, -, -, hsigM⟩ := Cond.code_spec hnamed hcode
  have hstatic : methM.isStatic = true := Cond.static_spec hnamed hmethM hstat
  obtain ⟨kP, hkP, -⟩ := className_of_methodNamed hnamed
  have hinitP : kP.init = .initialized := Cond.initialized_spec (findClass_of_methodNamed hnamed) hkP hinit
  obtain ⟨vm₁, X₁, hstep₁⟩ := X.invokestatic hexec hown hlink hnamed hmethM hstatic hkP hinitP hy (g := g) hg (argsL := argsL) (rest := rest) (hlen _ hsigM) hstack hdg
  rcases hK m meth c ⟨T.setVm vm₁, locs, cells, slots⟩ { g with stack := rest } (.invokestatic index) mk argsL.toArray X₁ hg hsize hdg hW (X₁.named hnamed) (hpre vm₁ X₁.warmed) with ⟨v, B, X', hpost, hsteps⟩ | ⟨q, B, X', hpost, hsteps⟩
  · exact Or.inl ⟨v, vm₁, B, X₁.warmed, X', hpost, fun target h => hstep₁ _ fun acts => by rw [doInvoke_state]; exact hsteps.trans h⟩
  · exact Or.inr ⟨q, vm₁, B, X₁.warmed, X', hpost, hstep₁ _ fun acts => by rw [doInvoke_state]; exact hsteps⟩
end Calls
theorem vx_cls {s : State} {T : State} {vm₁ : Vm} {E : String} {k : ClassId} (hW : s.WarmedH vm₁) (h : (T.setVm vm₁).vm.findClass E = some k) : s.vm.findClass E = some k := by
  have h1 : vm₁.findClass E = some k := h
  rw [hW.alike.findClass] at h1
  exact h1
/-- the method's frame g, with q thrown over it -/
def vx_W (p : Program) (l : Launch) (e : Env) (R : Room) (s : State) (m : MethodId) (args : Array Value) (below : List Frame) (meth : Method) (c : Code) (H : Heap) (locs : List Loc) (cells slots : Nat) (Q : State → Prop) (g : JFrame) (q : Addr) : Prop :=
  ∀ T : State, T.heap = H → Stand p l e R s m args below meth c T locs cells slots → ∃ t, Steps p.tables e below ((T.setTop g).pushFrame (.throwing q)) t ∧ Q t
def vx_Run (p : Program) (l : Launch) (e : Env) (R : Room) (s : State) (m : MethodId) (args : Array Value) (below : List Frame) (meth : Method) (c : Code) (H : Heap) (locs : List Loc) (cells slots mc ms : Nat) (g : JFrame) (rest : List Value) (Qa : State → Outcome → State → Prop) (XC : String → State → State → Prop) (free : Addr → Prop) : Prop :=
  ∀ T : State, T.heap = H → Stand p l e R s m args below meth c T locs cells slots →
    (∃ (v : Option Value) (st₀ t T' : State) (L : List Loc), st₀.heap = H ∧ Stand p l e R s m args below meth c T' (locs ++ L) (cells + mc) (slots + ms) ∧ (∀ q ∈ L, free q.base) ∧ T'.heap = t.heap ∧ T'.vm = t.vm ∧ Qa st₀ (.returned v) t ∧
      Goes p e below T g T' { g with pc := g.pc + 3, stack := v.toList ++ rest }) ∨
    (∃ (q : Addr) (st₀ t T' : State) (L : List Loc) (E : String) (ce : Cell), st₀.heap = H ∧ Stand p l e R s m args below meth c T' (locs ++ L) (cells + mc) (slots + ms) ∧ (∀ z ∈ L, free z.base) ∧ T'.heap = t.heap ∧ T'.vm = t.vm ∧ XC E st₀ t ∧ t.heap[q]? = some ce ∧ ce.vm = .none ∧ s.vm.findClass E = some ce.cls ∧
      Steps p.tables e below (T.setTop g) ((T'.setTop { g with stack := rest }).pushFrame (.throwing q)))
def vx_X {S : Type} (px : S → Prop) (B : String → S → State → Prop) (A : Nat → Prop) : String → State → State → Prop := fun E st t => ∃ u : S, px u ∧ B E u t ∧ va_F A st t
section Runs
variable {p : Program} {l : Launch} {e : Env} {R : Room} {s : State} {m : MethodId} {args : Array Value} {below : List Frame} {meth : Method} {c : Code} {H : Heap} {locs : List Loc} {cells slots : Nat}
variable {y : MethodName} {bytes cc : ByteArray} {maxL nL mc ms n index : Nat} {ret : Option FieldType} {ws : List Cond} {rm : Room} {Pc : Array Value → State → Prop} {Qc : Array Value → State → Outcome → State → Prop} {XC : String → State → State → Prop} {free : Addr → Prop} {Ts : List Cond} {own C : String} {b : Addr} {As rest : List Value} {g : JFrame}
theorem vx_callBack (cb : CallB R s args own index y bytes maxL ret ws rm mc ms n) (hM : vx_Met l y ws rm Pc Qc XC mc ms free) (hbl : FrameBlind Pc) : vx_Back l R p e below s args y 3 8 (PreOf R mc ms Pc) (PostOf Qc mc ms free) (vx_Post XC mc ms free) := by
  obtain ⟨hrc, hrs, hfr, hlo, hws, hcw, -, hini, -⟩ := cb
  exact vx_back (bytes := bytes) (maxL := maxL) (ret := ret) hM hbl hrc hrs hfr hlo hws hcw (fun a' U hW => word_at hW (Or.inl (by first | rfl | simp [Cond.onTables, Cond.keeps, Cond.steady])) hini)
theorem vx_runV (S : CallFix p m c cc nL s args Ts own) (hM : vx_Met l y ws rm Pc Qc XC mc ms free) (cw : CallW R s args own C index y bytes maxL ret ws rm mc ms n) (hp : PreV s H C b Pc As)
    (hg : g.method = m) (hn : As.length = n) (hsize : g.locals.size = nL) (hstack : g.stack = As.reverse ++ .ref b :: rest) (hW : 2 * g.monitorRoom + (rest.map fun v => v.category).sum ≤ 8) (hdg : decode cc g.pc = .ok (.invokevirtual index, 3)) (hf : cells + mc ≤ R.cells ∧ slots + ms ≤ R.slots) :
    vx_Run p l e R s m args below meth c H locs cells slots mc ms g rest (Qc (Value.ref b :: As).toArray) XC free := by
  have hK : vx_Back l R p e below s args y 3 8 (PreOf R mc ms Pc) (PostOf Qc mc ms free) (vx_Post XC mc ms free) := vx_callBack cw.1 hM hp.1
  obtain ⟨⟨-, -, -, -, -, -, hcode, -, hy, hlen, hl⟩, hin, hse⟩ := cw
  obtain ⟨hx, hb, hml, ho, -⟩ := S
  obtain ⟨-, ⟨cellB, hcB, hoB, hclB⟩, hPc⟩ := hp
  intro T hT X
  rcases vx_callV X hx (C := C) (bytes := bytes) (maxL := maxL) (ret := ret) ho hl hin hse hcode hy hK (by rw [hT]; exact hcB) hoB hclB hg (hsize.trans hml.symm) (argsL := As) (rest := rest) (fun sig h => hn.trans (hlen sig h)) hstack hW (by rw [hb]; exact hdg)
    (fun vm₁ hW₁ => ⟨hf.1, hf.2, hPc (T.setVm vm₁) hT hW₁⟩) with ⟨v, vm₁, ⟨U', l2, c2, s2⟩, hW₁, X', ⟨g', mk, t, L, e1, e2, hq, h1, hL, h2, h3⟩, st⟩ | ⟨q, vm₁, ⟨U', l2, c2, s2⟩, hW₁, X', ⟨g', mk, t, L, E, ce, e1, e2, hq, hce, hcv, hcl, h1, hL, h2, h3⟩, st⟩
  · dsimp only [Pt.U, Pt.locs, Pt.cells, Pt.slots] at X' e1 e2 h1 h2 h3 st
    subst h1; subst h2; subst h3
    exact Or.inl ⟨v, (T.setVm vm₁).calling g' mk (Value.ref b :: As).toArray, t, U', L, hT, X', hL, e1, e2, hq, st⟩
  · dsimp only [Pt.U, Pt.locs, Pt.cells, Pt.slots] at X' e1 e2 h1 h2 h3 st hcl
    subst h1; subst h2; subst h3
    exact Or.inr ⟨q, (T.setVm vm₁).calling g' mk (Value.ref b :: As).toArray, t, U', L, E, ce, hT, X', hL, e1, e2, hq, hce, hcv, vx_cls hW₁ hcl, st⟩
theorem vx_runS (S : CallFix p m c cc nL s args Ts own) (hM : vx_Met l y ws rm Pc Qc XC mc ms free) (cw : CallB R s args own index y bytes maxL ret ws rm mc ms n ∧ (Cond.static y).before args s = true) (hp : PreS s H Pc As)
    (hg : g.method = m) (hn : As.length = n) (hsize : g.locals.size = nL) (hstack : g.stack = As.reverse ++ rest) (hW : 2 * g.monitorRoom + (rest.map fun v => v.category).sum ≤ 8) (hdg : decode cc g.pc = .ok (.invokestatic index, 3)) (hf : cells + mc ≤ R.cells ∧ slots + ms ≤ R.slots) :
    vx_Run p l e R s m args below meth c H locs cells slots mc ms g rest (Qc As.toArray) XC free := by
  have hK : vx_Back l R p e below s args y 3 8 (PreOf R mc ms Pc) (PostOf Qc mc ms free) (vx_Post XC mc ms free) := vx_callBack cw.1 hM hp.1
  obtain ⟨⟨-, -, -, -, -, -, hcode, hini, hy, hlen, hl⟩, hstt⟩ := cw
  obtain ⟨hx, hb, hml, ho, -⟩ := S
  intro T hT X
  rcases vx_callS X hx (bytes := bytes) (maxL := maxL) (ret := ret) ho hl hstt hini hcode hy hK hg (hsize.trans hml.symm) (argsL := As) (rest := rest) (fun sig h => hn.trans (hlen sig h)) hstack hW (by rw [hb]; exact hdg)
    (fun vm₁ hW₁ => ⟨hf.1, hf.2, hp.2 (T.setVm vm₁) hT hW₁⟩) with ⟨v, vm₁, ⟨U', l2, c2, s2⟩, hW₁, X', ⟨g', mk, t, L, e1, e2, hq, h1, hL, h2, h3⟩, st⟩ | ⟨q, vm₁, ⟨U', l2, c2, s2⟩, hW₁, X', ⟨g', mk, t, L, E, ce, e1, e2, hq, hce, hcv, hcl, h1, hL, h2, h3⟩, st⟩
  · dsimp only [Pt.U, Pt.locs, Pt.cells, Pt.slots] at X' e1 e2 h1 h2 h3 st
    subst h1; subst h2; subst h3
    exact Or.inl ⟨v, (T.setVm vm₁).calling g' mk As.toArray, t, U', L, hT, X', hL, e1, e2, hq, st⟩
  · dsimp only [Pt.U, Pt.locs, Pt.cells, Pt.slots] at X' e1 e2 h1 h2 h3 st hcl
    subst h1; subst h2; subst h3
    exact Or.inr ⟨q, (T.setVm vm₁).calling g' mk As.toArray, t, U', L, E, ce, hT, X', hL, e1, e2, hq, hce, hcv, vx_cls hW₁ hcl, st⟩
end Runs
section Rows
variable {p : Program} {l : Launch} {e : Env} {R : Room} {s : State} {m : MethodId} {args : Array Value} {below : List Frame} {meth : Method} {c : Code} {H : Heap} {locs : List Loc} {cells slots : Nat} {Q : State → Prop}
variable {mc ms : Nat} {free : Addr → Prop} {A0 A1 : Nat → Prop} {H0 : Heap} {a : Array Value} {pc : Nat} {ls : Array Slot} {st0 rest : List Value}
theorem vx_keep {st₀ t T' : State} {L : List Loc} (h0 : st₀.heap = H) (e1 : T'.heap = t.heap) (hS : va_S A0 H0 H locs) (hA : ∀ q, q < H.size → A1 q → A0 q) (hf : ∀ q, free q → A0 q) (hL : ∀ q ∈ L, free q.base) (hF : va_F A1 st₀ t) :
    H.size ≤ T'.heap.size ∧ (∀ q : Nat, q < H.size → ¬ A1 q → T'.heap[q]? = H[q]?) ∧ va_S A0 H0 T'.heap (locs ++ L) := by
  obtain ⟨hz, hk⟩ := hF
  rw [h0] at hz hk
  exact ⟨by rw [e1]; exact hz, fun q h1 h2 => by rw [e1]; exact hk q h1 h2,
    ⟨Nat.le_trans hS.1 (by rw [e1]; exact hz), fun q h1 h2 => by rw [e1, hk q (Nat.lt_of_lt_of_le h1 hS.1) (fun z => h2 (hA q (Nat.lt_of_lt_of_le h1 hS.1) z))]; exact hS.2.1 q h1 h2, fun q hq => by
      rcases List.mem_append.mp hq with h | h
      · exact hS.2.2 q h
      · exact hf _ (hL q h)⟩⟩
theorem vx_calli {S SX : Type} {post : Int32 → S → Prop} {px : SX → Prop} {B : S → State → Prop} {BX : String → SX → State → Prop} {AX : Nat → Prop} (hr : vx_Run p l e R s m args below meth c H locs cells slots mc ms (F0 m pc ls st0) rest (va_Qi post B A1 a) (vx_X px BX AX) free) (hS : va_S A0 H0 H locs) (hA : ∀ q, q < H.size → A1 q → A0 q) (hf : ∀ q, free q → A0 q) (hAX : ∀ q, q < H.size → AX q → A0 q)
    (kx : ∀ (E : String) (ce : Cell) (q9 : Addr) (u : SX) (t : State) (H1 : Heap) (locs1 : List Loc), t.heap = H1 → s.vm.Alike t.vm → px u → BX E u t → H.size ≤ H1.size → (∀ q : Nat, q < H.size → ¬ AX q → H1[q]? = H[q]?) → va_S A0 H0 H1 locs1 → H1[q9]? = some ce → ce.vm = .none → s.vm.findClass E = some ce.cls → vx_W p l e R s m args below meth c H1 locs1 (cells + mc) (slots + ms) Q (F0 m pc ls rest) q9)
    (kk : ∀ (r : Int32) (u : S) (t : State) (H1 : Heap) (locs1 : List Loc), t.heap = H1 → s.vm.Alike t.vm → post r u → B u t → H.size ≤ H1.size → (∀ q : Nat, q < H.size → ¬ A1 q → H1[q]? = H[q]?) → va_S A0 H0 H1 locs1 → W p l e R s m args below meth c H1 locs1 (cells + mc) (slots + ms) Q (F0 m (pc + 3) ls (.int r :: rest))) : W p l e R s m args below meth c H locs cells slots Q (F0 m pc ls st0) := by
  intro T hT X
  rcases hr T hT X with ⟨v, st₀, t, T', L, h0, X', hL, e1, e2, ⟨⟨r, u, hv, hp, hb⟩, hF⟩, st⟩ | ⟨q, st₀, t, T', L, E, ce, h0, X', hL, e1, e2, ⟨u, hp, hb, hF⟩, hce, hcv, hcl, st⟩
  · cases hv
    obtain ⟨k1, k2, k3⟩ := vx_keep h0 e1 hS hA hf hL hF
    obtain ⟨t2, a1, b1⟩ := kk r u t T'.heap (locs ++ L) e1.symm (by rw [← e2]; exact X'.warmed.alike) hp hb k1 k2 k3 T' rfl X'
    exact ⟨t2, st t2 a1, b1⟩
  · obtain ⟨k1, k2, k3⟩ := vx_keep h0 e1 hS hAX hf hL hF
    obtain ⟨t2, a1, b1⟩ := kx E ce q u t T'.heap (locs ++ L) e1.symm (by rw [← e2]; exact X'.warmed.alike) hp hb k1 k2 k3 (by rw [e1]; exact hce) hcv hcl T' rfl X'
    exact ⟨t2, st.trans a1, b1⟩
theorem vx_calll {S SX : Type} {post : Int64 → S → Prop} {px : SX → Prop} {B : S → State → Prop} {BX : String → SX → State → Prop} {AX : Nat → Prop} (hr : vx_Run p l e R s m args below meth c H locs cells slots mc ms (F0 m pc ls st0) rest (va_Ql post B A1 a) (vx_X px BX AX) free) (hS : va_S A0 H0 H locs) (hA : ∀ q, q < H.size → A1 q → A0 q) (hf : ∀ q, free q → A0 q) (hAX : ∀ q, q < H.size → AX q → A0 q)
    (kx : ∀ (E : String) (ce : Cell) (q9 : Addr) (u : SX) (t : State) (H1 : Heap) (locs1 : List Loc), t.heap = H1 → s.vm.Alike t.vm → px u → BX E u t → H.size ≤ H1.size → (∀ q : Nat, q < H.size → ¬ AX q → H1[q]? = H[q]?) → va_S A0 H0 H1 locs1 → H1[q9]? = some ce → ce.vm = .none → s.vm.findClass E = some ce.cls → vx_W p l e R s m args below meth c H1 locs1 (cells + mc) (slots + ms) Q (F0 m pc ls rest) q9)
    (kk : ∀ (r : Int64) (u : S) (t : State) (H1 : Heap) (locs1 : List Loc), t.heap = H1 → s.vm.Alike t.vm → post r u → B u t → H.size ≤ H1.size → (∀ q : Nat, q < H.size → ¬ A1 q → H1[q]? = H[q]?) → va_S A0 H0 H1 locs1 → W p l e R s m args below meth c H1 locs1 (cells + mc) (slots + ms) Q (F0 m (pc + 3) ls (.long r :: rest))) : W p l e R s m args below meth c H locs cells slots Q (F0 m pc ls st0) := by
  intro T hT X
  rcases hr T hT X with ⟨v, st₀, t, T', L, h0, X', hL, e1, e2, ⟨⟨r, u, hv, hp, hb⟩, hF⟩, st⟩ | ⟨q, st₀, t, T', L, E, ce, h0, X', hL, e1, e2, ⟨u, hp, hb, hF⟩, hce, hcv, hcl, st⟩
  · cases hv
    obtain ⟨k1, k2, k3⟩ := vx_keep h0 e1 hS hA hf hL hF
    obtain ⟨t2, a1, b1⟩ := kk r u t T'.heap (locs ++ L) e1.symm (by rw [← e2]; exact X'.warmed.alike) hp hb k1 k2 k3 T' rfl X'
    exact ⟨t2, st t2 a1, b1⟩
  · obtain ⟨k1, k2, k3⟩ := vx_keep h0 e1 hS hAX hf hL hF
    obtain ⟨t2, a1, b1⟩ := kx E ce q u t T'.heap (locs ++ L) e1.symm (by rw [← e2]; exact X'.warmed.alike) hp hb k1 k2 k3 (by rw [e1]; exact hce) hcv hcl T' rfl X'
    exact ⟨t2, st.trans a1, b1⟩
theorem vx_callf {S SX : Type} {post : UInt32 → S → Prop} {px : SX → Prop} {B : S → State → Prop} {BX : String → SX → State → Prop} {AX : Nat → Prop} (hr : vx_Run p l e R s m args below meth c H locs cells slots mc ms (F0 m pc ls st0) rest (va_Qf post B A1 a) (vx_X px BX AX) free) (hS : va_S A0 H0 H locs) (hA : ∀ q, q < H.size → A1 q → A0 q) (hf : ∀ q, free q → A0 q) (hAX : ∀ q, q < H.size → AX q → A0 q)
    (kx : ∀ (E : String) (ce : Cell) (q9 : Addr) (u : SX) (t : State) (H1 : Heap) (locs1 : List Loc), t.heap = H1 → s.vm.Alike t.vm → px u → BX E u t → H.size ≤ H1.size → (∀ q : Nat, q < H.size → ¬ AX q → H1[q]? = H[q]?) → va_S A0 H0 H1 locs1 → H1[q9]? = some ce → ce.vm = .none → s.vm.findClass E = some ce.cls → vx_W p l e R s m args below meth c H1 locs1 (cells + mc) (slots + ms) Q (F0 m pc ls rest) q9)
    (kk : ∀ (r : UInt32) (u : S) (t : State) (H1 : Heap) (locs1 : List Loc), t.heap = H1 → s.vm.Alike t.vm → post r u → B u t → H.size ≤ H1.size → (∀ q : Nat, q < H.size → ¬ A1 q → H1[q]? = H[q]?) → va_S A0 H0 H1 locs1 → W p l e R s m args below meth c H1 locs1 (cells + mc) (slots + ms) Q (F0 m (pc + 3) ls (.float r :: rest))) : W p l e R s m args below meth c H locs cells slots Q (F0 m pc ls st0) := by
  intro T hT X
  rcases hr T hT X with ⟨v, st₀, t, T', L, h0, X', hL, e1, e2, ⟨⟨r, u, hv, hp, hb⟩, hF⟩, st⟩ | ⟨q, st₀, t, T', L, E, ce, h0, X', hL, e1, e2, ⟨u, hp, hb, hF⟩, hce, hcv, hcl, st⟩
  · cases hv
    obtain ⟨k1, k2, k3⟩ := vx_keep h0 e1 hS hA hf hL hF
    obtain ⟨t2, a1, b1⟩ := kk r u t T'.heap (locs ++ L) e1.symm (by rw [← e2]; exact X'.warmed.alike) hp hb k1 k2 k3 T' rfl X'
    exact ⟨t2, st t2 a1, b1⟩
  · obtain ⟨k1, k2, k3⟩ := vx_keep h0 e1 hS hAX hf hL hF
    obtain ⟨t2, a1, b1⟩ := kx E ce q u t T'.heap (locs ++ L) e1.symm (by rw [← e2]; exact X'.warmed.alike) hp hb k1 k2 k3 (by rw [e1]; exact hce) hcv hcl T' rfl X'
    exact ⟨t2, st.trans a1, b1⟩
theorem vx_calld {S SX : Type} {post : UInt64 → S → Prop} {px : SX → Prop} {B : S → State → Prop} {BX : String → SX → State → Prop} {AX : Nat → Prop} (hr : vx_Run p l e R s m args below meth c H locs cells slots mc ms (F0 m pc ls st0) rest (va_Qd post B A1 a) (vx_X px BX AX) free) (hS : va_S A0 H0 H locs) (hA : ∀ q, q < H.size → A1 q → A0 q) (hf : ∀ q, free q → A0 q) (hAX : ∀ q, q < H.size → AX q → A0 q)
    (kx : ∀ (E : String) (ce : Cell) (q9 : Addr) (u : SX) (t : State) (H1 : Heap) (locs1 : List Loc), t.heap = H1 → s.vm.Alike t.vm → px u → BX E u t → H.size ≤ H1.size → (∀ q : Nat, q < H.size → ¬ AX q → H1[q]? = H[q]?) → va_S A0 H0 H1 locs1 → H1[q9]? = some ce → ce.vm = .none → s.vm.findClass E = some ce.cls → vx_W p l e R s m args below meth c H1 locs1 (cells + mc) (slots + ms) Q (F0 m pc ls rest) q9)
    (kk : ∀ (r : UInt64) (u : S) (t : State) (H1 : Heap) (locs1 : List Loc), t.heap = H1 → s.vm.Alike t.vm → post r u → B u t → H.size ≤ H1.size → (∀ q : Nat, q < H.size → ¬ A1 q → H1[q]? = H[q]?) → va_S A0 H0 H1 locs1 → W p l e R s m args below meth c H1 locs1 (cells + mc) (slots + ms) Q (F0 m (pc + 3) ls (.double r :: rest))) : W p l e R s m args below meth c H locs cells slots Q (F0 m pc ls st0) := by
  intro T hT X
  rcases hr T hT X with ⟨v, st₀, t, T', L, h0, X', hL, e1, e2, ⟨⟨r, u, hv, hp, hb⟩, hF⟩, st⟩ | ⟨q, st₀, t, T', L, E, ce, h0, X', hL, e1, e2, ⟨u, hp, hb, hF⟩, hce, hcv, hcl, st⟩
  · cases hv
    obtain ⟨k1, k2, k3⟩ := vx_keep h0 e1 hS hA hf hL hF
    obtain ⟨t2, a1, b1⟩ := kk r u t T'.heap (locs ++ L) e1.symm (by rw [← e2]; exact X'.warmed.alike) hp hb k1 k2 k3 T' rfl X'
    exact ⟨t2, st t2 a1, b1⟩
  · obtain ⟨k1, k2, k3⟩ := vx_keep h0 e1 hS hAX hf hL hF
    obtain ⟨t2, a1, b1⟩ := kx E ce q u t T'.heap (locs ++ L) e1.symm (by rw [← e2]; exact X'.warmed.alike) hp hb k1 k2 k3 (by rw [e1]; exact hce) hcv hcl T' rfl X'
    exact ⟨t2, st.trans a1, b1⟩
theorem vx_callv {S SX : Type} {post : S → Prop} {px : SX → Prop} {B : S → State → Prop} {BX : String → SX → State → Prop} {AX : Nat → Prop} (hr : vx_Run p l e R s m args below meth c H locs cells slots mc ms (F0 m pc ls st0) rest (va_Qv post B A1 a) (vx_X px BX AX) free) (hS : va_S A0 H0 H locs) (hA : ∀ q, q < H.size → A1 q → A0 q) (hf : ∀ q, free q → A0 q) (hAX : ∀ q, q < H.size → AX q → A0 q)
    (kx : ∀ (E : String) (ce : Cell) (q9 : Addr) (u : SX) (t : State) (H1 : Heap) (locs1 : List Loc), t.heap = H1 → s.vm.Alike t.vm → px u → BX E u t → H.size ≤ H1.size → (∀ q : Nat, q < H.size → ¬ AX q → H1[q]? = H[q]?) → va_S A0 H0 H1 locs1 → H1[q9]? = some ce → ce.vm = .none → s.vm.findClass E = some ce.cls → vx_W p l e R s m args below meth c H1 locs1 (cells + mc) (slots + ms) Q (F0 m pc ls rest) q9)
    (kk : ∀ (u : S) (t : State) (H1 : Heap) (locs1 : List Loc), t.heap = H1 → s.vm.Alike t.vm → post u → B u t → H.size ≤ H1.size → (∀ q : Nat, q < H.size → ¬ A1 q → H1[q]? = H[q]?) → va_S A0 H0 H1 locs1 → W p l e R s m args below meth c H1 locs1 (cells + mc) (slots + ms) Q (F0 m (pc + 3) ls (rest))) : W p l e R s m args below meth c H locs cells slots Q (F0 m pc ls st0) := by
  intro T hT X
  rcases hr T hT X with ⟨v, st₀, t, T', L, h0, X', hL, e1, e2, ⟨⟨u, hv, hp, hb⟩, hF⟩, st⟩ | ⟨q, st₀, t, T', L, E, ce, h0, X', hL, e1, e2, ⟨u, hp, hb, hF⟩, hce, hcv, hcl, st⟩
  · cases hv
    obtain ⟨k1, k2, k3⟩ := vx_keep h0 e1 hS hA hf hL hF
    obtain ⟨t2, a1, b1⟩ := kk u t T'.heap (locs ++ L) e1.symm (by rw [← e2]; exact X'.warmed.alike) hp hb k1 k2 k3 T' rfl X'
    exact ⟨t2, st t2 a1, b1⟩
  · obtain ⟨k1, k2, k3⟩ := vx_keep h0 e1 hS hAX hf hL hF
    obtain ⟨t2, a1, b1⟩ := kx E ce q u t T'.heap (locs ++ L) e1.symm (by rw [← e2]; exact X'.warmed.alike) hp hb k1 k2 k3 (by rw [e1]; exact hce) hcv hcl T' rfl X'
    exact ⟨t2, st.trans a1, b1⟩
/-- caught by the row x of this method's table; the rows ahead don't take it -/
theorem vx_catch {own name : String} {E : String} {ce : Cell} {q : Addr} (hown : s.vm.findClass own = some m.cls) (pre : List ExceptionTableEntry) (x : ExceptionTableEntry) (suf : List ExceptionTableEntry) (hsplit : c.exceptionTable.toList = pre ++ x :: suf)
    (hpass : ∀ z ∈ pre, covers z pc = false ∨ (z.catchType ≠ 0 ∧ ∃ nm : String, (Cond.classLink own z.catchType nm).before args s = true ∧ va_Nc E nm s)) (hx : covers x pc = true) (h0 : x.catchType ≠ 0)
    (hlink : (Cond.classLink own x.catchType name).before args s = true) (hcast : (Cond.castable E name).before args s = true) (hcell : H[q]? = some ce) (hv : ce.vm = .none) (hcl : s.vm.findClass E = some ce.cls)
    (kk : W p l e R s m args below meth c H locs cells slots Q (F0 m x.handlerPc ls [.ref q])) : vx_W p l e R s m args below meth c H locs cells slots Q (F0 m pc ls rest) q := by
  intro T hT X
  have hpl : e.platform.magicAccessors = ({} : Platform).magicAccessors := by rw [X.admits.platform]
  obtain ⟨c3, c4, hc3, hc4, hasg⟩ := Cond.castable_spec hcast
  cases Option.some.inj (hc3.symm.trans hcl)
  obtain ⟨c5, hc5, hcl5⟩ := Cond.classLink_spec hown hlink e.platform hpl
  cases Option.some.inj (hc4.symm.trans hc5)
  obtain ⟨vm', X', st⟩ := X.thenCaughtThrough q (g := F0 m pc ls rest) rfl (Steps.refl _) (by rw [hT]; exact hcell) (by rw [hv]; rfl) (by obtain ⟨k9, h9, -⟩ := Vm.findClass_spec hcl; exact ⟨k9, h9⟩) pre x suf hsplit
    (fun z hz => by
      rcases hpass z hz with h | ⟨hz0, nm, hl1, hn1⟩
      · exact Or.inl h
      · obtain ⟨c6, hc6, hcl6⟩ := Cond.classLink_spec hown hl1 e.platform hpl
        obtain ⟨a8, b8, h1, h2, h3⟩ := hn1
        cases Option.some.inj (h1.symm.trans hcl)
        cases Option.some.inj (h2.symm.trans hc6)
        exact Or.inr ⟨hz0, _, hcl6, h3⟩) hx (Or.inr ⟨h0, c4, hcl5, hasg⟩)
  obtain ⟨t, a1, b1⟩ := kk (T.setVm vm') hT X'
  exact ⟨t, st.trans a1, b1⟩
end Rows
section Ends
variable {p : Program} {l : Launch} {e : Env} {R : Room} {s : State} {m : MethodId} {args : Array Value} {below : List Frame} {meth : Method} {c : Code} {H : Heap} {locs : List Loc} {cells slots : Nat} {Q : State → Prop}
variable {mc ms : Nat} {free : Addr → Prop} {A0 A1 : Nat → Prop} {H0 : Heap} {a : Array Value} {ls : Array Slot} {st0 rest : List Value}
variable {Qc : Array Value → State → Outcome → State → Prop} {XC : String → State → State → Prop}
/-- what a body that may throw owes at its end -/
def vx_MQ (below : List Frame) (Qc : Array Value → State → Outcome → State → Prop) (XC : String → State → State → Prop) (a : Array Value) (s : State) (mc ms : Nat) (free : Addr → Prop) : State → Prop := fun t =>
  ∃ o, t.status = .running ∧ Ended t below o ∧ vx_Q Qc XC mc ms free a s o t
theorem vx_ret {g : JFrame} {mc ms : Nat} (k : W p l e R s m args below meth c H locs cells slots (MQ below Qc args s mc ms free) g) : W p l e R s m args below meth c H locs cells slots (vx_MQ below Qc XC args s mc ms free) g := by
  intro T hT X
  obtain ⟨t, a1, o, b1, b2, b3, b4⟩ := k T hT X
  exact ⟨t, a1, o, b1, b2, Or.inl ⟨b3, b4⟩⟩
/-- not caught here: it goes on to the caller -/
theorem vx_widen {g : JFrame} {q : Addr} {k n : Nat} (h1 : cells ≤ k) (h2 : slots ≤ n) (kk : vx_W p l e R s m args below meth c H locs k n Q g q) : vx_W p l e R s m args below meth c H locs cells slots Q g q := fun T hT X => kk T hT (stand_widen X h1 h2)
theorem vx_out {pc : Nat} {E : String} {ce : Cell} {q : Addr} {mc ms : Nat} (hout : ∀ x ∈ c.exceptionTable.toList, covers x pc = false) (hlocks : meth.locks = false) (hcell : H[q]? = some ce) (hv : ce.vm = .none) (hcl : s.vm.findClass E = some ce.cls)
    (hx : ∀ t : State, t.heap = H → s.vm.Alike t.vm → XC E s t) (hf : ∀ z ∈ locs, free z.base) (hc : cells ≤ mc) (hs : slots ≤ ms) :
    vx_W p l e R s m args below meth c H locs cells slots (vx_MQ below Qc XC args s mc ms free) (F0 m pc ls rest) q := by
  intro T hT X
  obtain ⟨st1, hrun, hend, hW, hsm⟩ := X.leaveThrown q (g := F0 m pc ls rest) rfl rfl rfl hout hlocks
  have hcell9 : (T.setFrames (.throwing q :: below)).heap[q]? = some ce := by
    show T.heap[q]? = some ce
    rw [hT]; exact hcell
  exact ⟨_, st1, .threw q, hrun, hend, Or.inr ⟨q, rfl, E, ce, locs, hx _ hT hW.alike, hcell9, hv, hcl, hW, hsm.mono hc hs, hf⟩⟩
theorem vx_frame {U : State} {k n : Nat} (h : s.sameButNew ({ U with vm := s.vm } : State) locs k n) : s.heap.size ≤ U.heap.size ∧ ∀ q : Nat, q < s.heap.size → (∀ z ∈ locs, z.base ≠ q) → U.heap[q]? = s.heap[q]? := by
  obtain ⟨-, h2, -, -, -, h6⟩ := h
  refine ⟨h2, fun q hq hz => ?_⟩
  obtain ⟨c9, e1, e2, e3, e4⟩ := h6 q _ (Array.getElem?_eq_getElem hq)
  have hs : c9.slots = (s.heap[q]).slots := Array.ext_getElem? fun i => e4 i fun hm => hz _ hm rfl
  have h9 : c9 = s.heap[q] := by
    rw [hs] at e2
    exact e2
  have e5 : U.heap[q]? = some c9 := e1
  rw [e5, h9, Array.getElem?_eq_getElem hq]
/-- the words of a throw but the four that speak of the heap -/
def vx_no (w : Cond) : Bool := decide (w ≠ .isRef (.static Bundle.tN "UNASSIGNED_STACK" Bundle.steD)) && decide (w ≠ .isRef (.static Bundle.tN "SUPPRESSED_SENTINEL" Bundle.listD)) && decide (w ≠ .laysStatic Bundle.tN "UNASSIGNED_STACK" Bundle.steD) && decide (w ≠ .laysStatic Bundle.tN "SUPPRESSED_SENTINEL" Bundle.listD)
def vx_at0 (own : String) (ic : Nat) (X : String) (names : List String) : List Cond := (Bundle.ownAtoms0 own ic X names).filter vx_no
def vx_atS (own : String) (ic : Nat) (X : String) (names : List String) : List Cond := (Bundle.ownAtoms own ic X names).filter vx_no
/-- a word that the tables alone decide, or a good one -/
def vx_ot (w : Cond) : Bool := w.onTables || goodWord w
theorem vx_ot_at {args a' : Array Value} {s U : State} {w : Cond} (hW : s.WarmedH U.vm) (hvm : s.vm = U.vm) (hg : vx_ot w = true) (h : w.before args s = true) : w.before a' U = true := by
  simp only [vx_ot, Bool.or_eq_true] at hg
  rcases hg with hg | hg
  · exact va_tabs hg hvm h
  · exact word_at hW (good_of_word hg) h
/-- a list's words: the good ones out of the method's own list, the others by premises of their own -/
theorem vx_hat {args : Array Value} {s : State} {L B : List Cond} (h1 : ∀ w ∈ L.filter goodWord, w.before args s = true) (h2 : ∀ w ∈ L.filter (fun w => !goodWord w), w ∈ B) (h3 : ∀ w ∈ B, w.before args s = true) : ∀ w ∈ L, w.before args s = true := by
  intro w hw
  by_cases g : goodWord w = true
  · exact h1 w (List.mem_filter.mpr ⟨hw, g⟩)
  · refine h3 w (h2 w (List.mem_filter.mpr ⟨hw, ?_⟩))
    show (!goodWord w) = true
    cases hgw : goodWord w
    · rfl
    · exact absurd hgw g
theorem vx_c {args : Array Value} {s : State} {w : Cond} {B : List Cond} (h : w.before args s = true) (t : ∀ w ∈ B, w.before args s = true) : ∀ w' ∈ w :: B, w'.before args s = true := fun w' h' => (List.mem_cons.mp h').elim (fun e => by rw [e]; exact h) (t w')
theorem vx_n {args : Array Value} {s : State} : ∀ w ∈ ([] : List Cond), w.before args s = true := fun _ h => nomatch h
theorem vx_own {args : Array Value} {s : State} {L : List Cond} (h1 : ∀ w ∈ L.filter vx_no, w.before args s = true)
    (hU : (Cond.isRef (.static Bundle.tN "UNASSIGNED_STACK" Bundle.steD)).before args s = true) (hN : (Cond.isRef (.static Bundle.tN "SUPPRESSED_SENTINEL" Bundle.listD)).before args s = true)
    (lU : (Cond.laysStatic Bundle.tN "UNASSIGNED_STACK" Bundle.steD).before args s = true) (lN : (Cond.laysStatic Bundle.tN "SUPPRESSED_SENTINEL" Bundle.listD).before args s = true) : ∀ w ∈ L, w.before args s = true := by
  intro w hw
  by_cases e1 : w = .isRef (.static Bundle.tN "UNASSIGNED_STACK" Bundle.steD)
  · rw [e1]; exact hU
  · by_cases e2 : w = .isRef (.static Bundle.tN "SUPPRESSED_SENTINEL" Bundle.listD)
    · rw [e2]; exact hN
    · by_cases e3 : w = .laysStatic Bundle.tN "UNASSIGNED_STACK" Bundle.steD
      · rw [e3]; exact lU
      · by_cases e4 : w = .laysStatic Bundle.tN "SUPPRESSED_SENTINEL" Bundle.listD
        · rw [e4]; exact lN
        · exact h1 w (List.mem_filter.mpr ⟨hw, by unfold vx_no; rw [decide_eq_true e1, decide_eq_true e2, decide_eq_true e3, decide_eq_true e4]; rfl⟩)
/-- where a static field lies, its class's statics cell in H -/
def vx_L (C n d : String) (A : Nat → Prop) (U : State) (H : Heap) : Prop := ∃ (c : ClassId) (k : Class) (i : Nat) (f : Field) (a : Nat) (cell : Cell), U.vm.findClass C = some c ∧ U.fieldFound? C n d = some (c, k, i, f) ∧ f.isStatic = true ∧ k.statics = some a ∧ H[a]? = some cell ∧ cell.vm.isStatics = true ∧ cell.cls = c ∧ f.slot < cell.slots.size ∧ k.staticTypes[f.slot]? = some f.type ∧ ¬ A a
theorem vx_L.moved {C n d : String} {A : Nat → Prop} {u U : State} {H : Heap} (hvm : u.vm.Alike U.vm) (h : vx_L C n d A u H) : vx_L C n d A U H := by
  obtain ⟨c, k, i, f, a, cell, h1, h2, h3, h4, h5, h6, h7, h8, h9, h10⟩ := h
  obtain ⟨k', hi', he⟩ := State.fieldFound?_setVm hvm h2
  exact ⟨c, k', i, f, a, cell, by rw [hvm.findClass]; exact h1, hi', h3, by rw [he]; exact h4, h5, h6, h7, h8, by rw [he]; exact h9, h10⟩
theorem vx_L.kept {C n d : String} {A : Nat → Prop} {U : State} {H H1 : Heap} (h : vx_L C n d A U H) (hq : ∀ a : Nat, a < H.size → ¬ A a → H1[a]? = H[a]?) : vx_L C n d A U H1 := by
  obtain ⟨c, k, i, f, a, cell, h1, h2, h3, h4, h5, h6, h7, h8, h9, h10⟩ := h
  exact ⟨c, k, i, f, a, cell, h1, h2, h3, h4, by rw [hq a (Array.getElem?_eq_some_iff.mp h5).1 h10]; exact h5, h6, h7, h8, h9, h10⟩
theorem vx_L.narrow {C n d : String} {A B : Nat → Prop} {U : State} {H : Heap} (h : vx_L C n d A U H) (hAB : ∀ q, B q → A q) : vx_L C n d B U H := by
  obtain ⟨c, k, i, f, a, cell, h1, h2, h3, h4, h5, h6, h7, h8, h9, h10⟩ := h
  exact ⟨c, k, i, f, a, cell, h1, h2, h3, h4, h5, h6, h7, h8, h9, fun z => h10 (hAB _ z)⟩
theorem vx_L.word {C n d : String} {A : Nat → Prop} {s : State} {args : Array Value} (h : vx_L C n d A s s.heap) : (Cond.laysStatic C n d).before args s = true := by
  obtain ⟨c, k, i, f, a, cell, h1, h2, h3, h4, h5, h6, h7, h8, h9, -⟩ := h
  show (Cond.laysStatic C n d).holds args s none s [] = true
  exact Cond.laysStatic_of h1 h2 h3 h4 h5 h6 h7 h8 h9
/-- .. and what it holds: null or some reference -/
def vx_Zq (C n d : String) (A : Nat → Prop) (U : State) (H : Heap) : Prop := va_Zq C n d A U H ∧ vx_L C n d A U H
theorem vx_Zq.moved {C n d : String} {A : Nat → Prop} {u U : State} {H : Heap} (hvm : u.vm.Alike U.vm) (h : vx_Zq C n d A u H) : vx_Zq C n d A U H := ⟨va_Zq.moved hvm h.1, vx_L.moved hvm h.2⟩
theorem vx_Zq.kept {C n d : String} {A : Nat → Prop} {U : State} {H H1 : Heap} (h : vx_Zq C n d A U H) (hq : ∀ a : Nat, a < H.size → ¬ A a → H1[a]? = H[a]?) : vx_Zq C n d A U H1 := ⟨va_Zq.kept h.1 hq, vx_L.kept h.2 hq⟩
theorem vx_Zq.narrow {C n d : String} {A B : Nat → Prop} {U : State} {H : Heap} (h : vx_Zq C n d A U H) (hAB : ∀ q, B q → A q) : vx_Zq C n d B U H := ⟨va_Zq.narrow h.1 hAB, vx_L.narrow h.2 hAB⟩
theorem vx_Zqof {args : Array Value} {s : State} {C n d : String} {A : Nat → Prop} (hl : (Cond.laysStatic C n d).before args s = true) (hini : (Cond.initialized C).before args s = true) (h : (Cond.isRef (.static C n d)).before args s = true) (hA : ∀ a : Nat, a < s.heap.size → ¬ A a) : vx_Zq C n d A s s.heap := by
  refine ⟨va_Zqof hl hini h hA, ?_⟩
  obtain ⟨c, k, i, f, a, cell, h1, h2, h3, h4, h5, h6, h7, h8, h9⟩ := Cond.laysStatic_spec hl
  exact ⟨c, k, i, f, a, cell, h1, h2, h3, h4, h5, h6, h7, h8, h9, hA a (Array.getElem?_eq_some_iff.mp h5).1⟩
theorem vx_isRef {C n d : String} {v : Value} {A : Nat → Prop} {s : State} {args : Array Value} (h : va_Z C n d v A s s.heap) (hv : v.isRef = true) : (Cond.isRef (.static C n d)).before args s = true := by
  obtain ⟨cf, kf, fi, f, a, cell, h1, h2, h3, h4, h5, h6, h7, -⟩ := h
  have he : (Term.static C n d).eval args s none [] s = some v := by
    simp [Term.eval, State.fieldNamed?, h1, h2, h4, h5, h6, h7]
  simp only [Cond.before, Cond.holds, Cond.value, he]
  cases v <;> simp_all [Value.isRef]
theorem vx_isRefq {C n d : String} {A : Nat → Prop} {s : State} {args : Array Value} (h : va_Zq C n d A s s.heap) : (Cond.isRef (.static C n d)).before args s = true := by
  rcases h with h | ⟨t, h⟩
  · exact vx_isRef h rfl
  · exact vx_isRef h rfl
/-- the same frame, seen from here: as if the method were called anew in this heap -/
theorem vx_rebase {T : State} (X : Stand p l e R s m args below meth c T locs cells slots) {R' : Room} (hf : R'.frames ≤ R.frames) (hl : R'.locals ≤ R.locals) (hc : cells + R'.cells ≤ R.cells) (hs : slots + R'.slots ≤ R.slots) :
    Stand p l e R' ((T.setVm s.vm).setFrames (.invoking m args :: below)) m args below meth c T [] 0 0 := by
  have htop : (T.setVm s.vm).topJava?.isSome := X.here.top
  have hF : ((T.setVm s.vm).setFrames (.invoking m args :: below)).frames = .invoking m args :: below := State.frames_setFrames _ (State.cur_lt_of_top htop)
  obtain ⟨g₀, hg0⟩ := Option.isSome_iff_exists.mp htop
  obtain ⟨r, hr⟩ := State.topJava?_eq_some.mp hg0
  have hl9 : e.platform.stackLimits (T.setVm s.vm).me = e.platform.stackLimits s.me := X.limits
  have hb9 : (T.setVm s.vm).me.stackBytes = s.me.stackBytes := X.bytes
  refine ⟨X.admits, X.cas, X.clock, hF, ?_, X.hears, X.method, X.code, X.here, X.tail, X.warmed, ?_, ?_, ?_⟩
  · have h := X.room
    have hU : ((T.setVm s.vm).setFrames (.invoking m args :: below)).localsInUse = s.localsInUse := by
      rw [State.localsInUse_invoking hF (meth := meth) (c := c) X.method X.code, State.localsInUse_invoking X.frames X.method X.code]
    simp only [State.hasRoom, Bool.and_eq_true, decide_eq_true_eq] at h ⊢
    obtain ⟨⟨⟨⟨h1, h2, h3, h4, h5, h6⟩, h7⟩, h8⟩, h9⟩ := h
    rw [X.frames, List.length_cons] at h2 h3
    have q1 := X.heapSize
    have q2 := X.used
    simp only [hF, hU, List.length_cons, State.stackLimits_setFrames, State.stackBytes_setFrames, hl9, hb9]
    refine ⟨⟨⟨⟨by omega, by omega, by omega, by omega, by omega, h6⟩, ?_⟩, ?_⟩, X.book⟩
    · show T.heap.size + R'.cells ≤ e.platform.maxCells
      omega
    · show T.slotsUsed + R'.slots ≤ e.platform.maxSlots
      omega
  · rw [State.stackLimits_setFrames]; rfl
  · rw [State.stackBytes_setFrames]; rfl
  · refine ⟨?_, Nat.le_refl _, Nat.le_refl _, ?_, ?_, fun a c9 h9 => ⟨c9, h9, rfl, rfl, fun _ _ => rfl⟩⟩
    · obtain ⟨t, ht, -⟩ := State.frames_cons hr
      show T.setVm s.vm = { ((T.setVm s.vm).setFrames (.invoking m args :: below)).setFrames (T.setVm s.vm).frames with heap := T.heap, slotsUsed := T.slotsUsed }
      rw [State.setFrames_setFrames, State.setFrames_self ht]
      rfl
    · show T.slotsUsed = T.slotsUsed + ((T.heap.toList.drop T.heap.size).map (·.slots.size)).sum
      rw [List.drop_eq_nil_of_le (Nat.le_of_eq Array.length_toList)]
      rfl
    · show ((T.heap.toList.drop T.heap.size).map (·.slots.size)).sum ≤ 0
      rw [List.drop_eq_nil_of_le (Nat.le_of_eq Array.length_toList)]
      exact Nat.le_refl _
/-- 'throw new E()': new; dup; invokespecial; athrow -/
theorem vx_throw0 {cc : ByteArray} {pc : Nat} (hexec : p.tables.exec = Jvm.exec) (hb : c.code = cc) (hl : l.stackTraces = false) {own cls : String} {names : List String} {ik ic mc ms : Nat} {A : Nat → Prop}
    (hown : s.vm.findClass own = some m.cls) (hcls : Bundle.fit cls = true) (hnames : ∀ n ∈ names, Bundle.fit n = true)
    (hk : (Cond.classLink own ik cls).before args s = true) (hini : (Cond.initialized cls).before args s = true) (hat : ∀ w ∈ vx_at0 own ic cls names, w.before args s = true)
    (hgood : ∀ w ∈ Cond.classLink own ik cls :: Cond.initialized cls :: vx_at0 own ic cls names, vx_ot w = true)
    (hU : vx_Zq Bundle.tN "UNASSIGNED_STACK" Bundle.steD A s s.heap) (hN : vx_Zq Bundle.tN "SUPPRESSED_SENTINEL" Bundle.listD A s s.heap) (hS : va_S A s.heap H locs) (hsize : ls.size = c.maxLocals)
    (d0 : decode cc pc = .ok (.new ik, 3)) (d3 : decode cc (pc + 3) = .ok (.dup, 1)) (d4 : decode cc (pc + 4) = .ok (.invokespecial ic, 3)) (d7 : decode cc (pc + 7) = .ok (.athrow, 1))
    (hout : ∀ x ∈ c.exceptionTable.toList, covers x (pc + 7) = false)
    (hRframes : names.length + 3 < R.frames) (hRlocals : (rest.map fun v => v.category).sum + (13 * (names.length + 1) + 42) ≤ R.locals) (hRcells : cells + 1 ≤ R.cells) (hRslots : slots + 6 ≤ R.slots) (hlocks : meth.locks = false)
    (hx : ∀ t : State, s.vm.Alike t.vm → H.size ≤ t.heap.size → (∀ q : Nat, q < H.size → t.heap[q]? = H[q]?) → XC cls s t)
    (hf : ∀ z ∈ locs, free z.base) (hc : cells + 1 ≤ mc) (hs : slots + 6 ≤ ms) :
    W p l e R s m args below meth c H locs cells slots (vx_MQ below Qc XC args s mc ms free) (F0 m pc ls rest) := by
  intro T hT X
  have htr : e.platform.stackTraces = false := (show e.platform.stackTraces = l.stackTraces by rw [X.admits.platform]).trans hl
  have Y := vx_rebase X (R' := { frames := R.frames, locals := R.locals, cells := 1, slots := 6 }) (Nat.le_refl _) (Nat.le_refl _) hRcells hRslots
  obtain ⟨s', hA⟩ : ∃ z, z = (T.setVm s.vm).setFrames (.invoking m args :: below) := ⟨_, rfl⟩
  rw [← hA] at Y
  have hvm : s'.vm = s.vm := by rw [hA]; rfl
  have hhp : s'.heap = H := by rw [hA]; exact hT
  have hW0 : s.WarmedH s'.vm := by rw [hvm]; exact State.WarmedH.refl s
  have hat' : ∀ w ∈ vx_at0 own ic cls names, w.before args s' = true := fun w hw => vx_ot_at hW0 hvm.symm (hgood w (List.mem_cons_of_mem _ (List.mem_cons_of_mem _ hw))) (hat w hw)
  have hk' : (Cond.classLink own ik cls).before args s' = true := vx_ot_at hW0 hvm.symm (hgood _ List.mem_cons_self) hk
  have hini' : (Cond.initialized cls).before args s' = true := vx_ot_at hW0 hvm.symm (hgood _ (List.mem_cons_of_mem _ List.mem_cons_self)) hini
  have hU' : vx_Zq Bundle.tN "UNASSIGNED_STACK" Bundle.steD A s' s'.heap := by rw [hhp]; exact vx_Zq.moved hW0.alike (hU.kept hS.2.1)
  have hN' : vx_Zq Bundle.tN "SUPPRESSED_SENTINEL" Bundle.listD A s' s'.heap := by rw [hhp]; exact vx_Zq.moved hW0.alike (hN.kept hS.2.1)
  have h : ∀ w ∈ Bundle.ownAtoms0 own ic cls names, w.before args s' = true := vx_own hat' (vx_isRefq hU'.1) (vx_isRefq hN'.1) hU'.2.word hN'.2.word
  have hown' : s'.vm.findClass own = some m.cls := by rw [hvm]; exact hown
  have hins : (Cond.instantiable cls 6).before args s' = true := h _ (by simp [Bundle.ownAtoms0])
  obtain ⟨vm₁, cX, kX, hfX, hkX, -, -, X₁, st1⟩ := Y.newCold hexec (own := own) (C := cls) (index := ik) (n := 6) hown' hk' hins hini'
    (g := F0 m pc ls rest) rfl (by rw [hb]; exact d0) (Nat.le_refl _) (Nat.le_refl _)
  generalize hT1 : (T.setVm vm₁).pushCell { cls := cX, slots := kX.instanceTypes.map defaultValue, vm := .none } = T1 at X₁ st1
  have hcat : (Value.ref T.heap.size).category = 1 := rfl
  have hcellA : T1.heap[T.heap.size]? = some (freshCell cX kX) := by rw [← hT1]; exact State.heap_pushCell_size _ _
  have d3' : decode c.code (pc + 3) = .ok (.dup, 1) := by rw [hb]; exact d3
  obtain ⟨U, hsteps, hrun, hend, hW, hsame, ce, hce, hO⟩ := X₁.ctorThrow0 hexec htr (own := own) (cls := cls) (names := names) (ic := ic) hown' hcls hnames h (fun x hx => nomatch hx) hfX hkX hcellA (by rw [hhp, hT]; exact Nat.le_refl _)
    (g := { method := m, pc := pc + 4, locals := ls, stack := .ref T.heap.size :: .ref T.heap.size :: rest, locked := none }) rfl hsize rfl rfl (rest := rest) rfl
    (by rw [hb]; exact d4) (by rw [hb]; exact d7) hout hRframes (by simp only [List.map_cons, List.sum_cons, hcat]; omega) hlocks
  obtain ⟨f1, f2⟩ := vx_frame hsame
  rw [hhp] at f1 f2
  have hWs : s.WarmedH U.vm := State.WarmedH.trans hW0 hW
  have hcl : s.vm.findClass cls = some ce.cls := by
    have h9 := hO.cls
    rw [hvm] at h9
    exact h9
  have hall : s.sameButNew ({ U with vm := s.vm } : State) locs mc ms := by
    subst hA
    obtain ⟨e1, e2⟩ := hsame
    rw [State.setFrames_setFrames] at e1
    have h2 : (T.setVm s.vm).sameButNew ({ U with vm := s.vm } : State) [] (0 + 1) (0 + 6) := ⟨e1, e2⟩
    have h3 := X.same.trans h2
    rw [List.append_nil] at h3
    exact h3.mono hc hs
  refine ⟨U, ?_, .threw T.heap.size, hrun, hend, Or.inr ⟨T.heap.size, rfl, cls, ce, locs, hx U hWs.alike f1 (fun q hq => f2 q hq (fun z hz => nomatch hz)), hce, hO.vm, hcl, hWs, hall, hf⟩⟩
  refine st1 _ ?_
  show Steps p.tables e below (T1.setTop { method := m, pc := pc + 3, locals := ls, stack := .ref T.heap.size :: rest, locked := none }) _
  jvm_step X₁.here [X₁.here.top, hexec, d3', Value.category]
  exact hsteps
/-- 'throw new E("text")': new; dup; ldc; invokespecial; athrow -/
theorem vx_throwS {cc : ByteArray} {pc : Nat} (hexec : p.tables.exec = Jvm.exec) (hb : c.code = cc) (hl : l.stackTraces = false) {own cls text : String} {names : List String} {ik is ic mc ms sa : Nat} {A : Nat → Prop}
    (hown : s.vm.findClass own = some m.cls) (hcls : Bundle.fit cls = true) (hnames : ∀ n ∈ names, Bundle.fit n = true)
    (hk : (Cond.classLink own ik cls).before args s = true) (hini : (Cond.initialized cls).before args s = true) (hstr : vk_R own is text sa s) (hat : ∀ w ∈ vx_atS own ic cls names, w.before args s = true)
    (hgood : ∀ w ∈ Cond.classLink own ik cls :: Cond.initialized cls :: vx_atS own ic cls names, vx_ot w = true)
    (hU : vx_Zq Bundle.tN "UNASSIGNED_STACK" Bundle.steD A s s.heap) (hN : vx_Zq Bundle.tN "SUPPRESSED_SENTINEL" Bundle.listD A s s.heap) (hS : va_S A s.heap H locs) (hsize : ls.size = c.maxLocals)
    (d0 : decode cc pc = .ok (.new ik, 3)) (d3 : decode cc (pc + 3) = .ok (.dup, 1)) (d4 : decode cc (pc + 4) = .ok (.ldc is, 2)) (d6 : decode cc (pc + 6) = .ok (.invokespecial ic, 3)) (d9 : decode cc (pc + 9) = .ok (.athrow, 1))
    (hout : ∀ x ∈ c.exceptionTable.toList, covers x (pc + 9) = false)
    (hRframes : names.length + 3 < R.frames) (hRlocals : (rest.map fun v => v.category).sum + (13 * (names.length + 1) + 43) ≤ R.locals) (hRcells : cells + 1 ≤ R.cells) (hRslots : slots + 6 ≤ R.slots) (hlocks : meth.locks = false)
    (hx : ∀ t : State, s.vm.Alike t.vm → H.size ≤ t.heap.size → (∀ q : Nat, q < H.size → t.heap[q]? = H[q]?) → XC cls s t)
    (hf : ∀ z ∈ locs, free z.base) (hc : cells + 1 ≤ mc) (hs : slots + 6 ≤ ms) :
    W p l e R s m args below meth c H locs cells slots (vx_MQ below Qc XC args s mc ms free) (F0 m pc ls rest) := by
  intro T hT X
  have htr : e.platform.stackTraces = false := (show e.platform.stackTraces = l.stackTraces by rw [X.admits.platform]).trans hl
  have Y := vx_rebase X (R' := { frames := R.frames, locals := R.locals, cells := 1, slots := 6 }) (Nat.le_refl _) (Nat.le_refl _) hRcells hRslots
  obtain ⟨s', hA⟩ : ∃ z, z = (T.setVm s.vm).setFrames (.invoking m args :: below) := ⟨_, rfl⟩
  rw [← hA] at Y
  have hvm : s'.vm = s.vm := by rw [hA]; rfl
  have hhp : s'.heap = H := by rw [hA]; exact hT
  have hW0 : s.WarmedH s'.vm := by rw [hvm]; exact State.WarmedH.refl s
  have hat' : ∀ w ∈ vx_atS own ic cls names, w.before args s' = true := fun w hw => vx_ot_at hW0 hvm.symm (hgood w (List.mem_cons_of_mem _ (List.mem_cons_of_mem _ hw))) (hat w hw)
  have hk' : (Cond.classLink own ik cls).before args s' = true := vx_ot_at hW0 hvm.symm (hgood _ List.mem_cons_self) hk
  have hini' : (Cond.initialized cls).before args s' = true := vx_ot_at hW0 hvm.symm (hgood _ (List.mem_cons_of_mem _ List.mem_cons_self)) hini
  have hU' : vx_Zq Bundle.tN "UNASSIGNED_STACK" Bundle.steD A s' s'.heap := by rw [hhp]; exact vx_Zq.moved hW0.alike (hU.kept hS.2.1)
  have hN' : vx_Zq Bundle.tN "SUPPRESSED_SENTINEL" Bundle.listD A s' s'.heap := by rw [hhp]; exact vx_Zq.moved hW0.alike (hN.kept hS.2.1)
  have h : ∀ w ∈ Bundle.ownAtoms own ic cls names, w.before args s' = true := vx_own hat' (vx_isRefq hU'.1) (vx_isRefq hN'.1) hU'.2.word hN'.2.word
  have hown' : s'.vm.findClass own = some m.cls := by rw [hvm]; exact hown
  have hins : (Cond.instantiable cls 6).before args s' = true := h _ (by simp [Bundle.ownAtoms])
  obtain ⟨vm₁, cX, kX, hfX, hkX, -, -, X₁, st1⟩ := Y.newCold hexec (own := own) (C := cls) (index := ik) (n := 6) hown' hk' hins hini'
    (g := F0 m pc ls rest) rfl (by rw [hb]; exact d0) (Nat.le_refl _) (Nat.le_refl _)
  generalize hT1 : (T.setVm vm₁).pushCell { cls := cX, slots := kX.instanceTypes.map defaultValue, vm := .none } = T1 at X₁ st1
  have hcat : (Value.ref T.heap.size).category = 1 := rfl
  have hcellA : T1.heap[T.heap.size]? = some (freshCell cX kX) := by rw [← hT1]; exact State.heap_pushCell_size _ _
  have d3' : decode c.code (pc + 3) = .ok (.dup, 1) := by rw [hb]; exact d3
  have d4' : decode c.code (pc + 4) = .ok (.ldc is, 2) := by rw [hb]; exact d4
  have hstr' : vk_R own is text sa s' := vk_R.warm hW0 hstr
  obtain ⟨U, hsteps, hrun, hend, hW, hsame, ce, hce, hO⟩ := X₁.ctorThrowS hexec htr (own := own) (cls := cls) (names := names) (ic := ic) hown' hcls hnames h (fun x hx => nomatch hx) hfX hkX hcellA (by rw [hhp, hT]; exact Nat.le_refl _) (msg := .ref sa) rfl
    (g := { method := m, pc := pc + 6, locals := ls, stack := .ref sa :: .ref T.heap.size :: .ref T.heap.size :: rest, locked := none }) rfl hsize rfl rfl (rest := rest) rfl
    (by rw [hb]; exact d6) (by rw [hb]; exact d9) hout hRframes (by simp only [List.map_cons, List.sum_cons, hcat]; omega) hlocks
  obtain ⟨f1, f2⟩ := vx_frame hsame
  rw [hhp] at f1 f2
  have hWs : s.WarmedH U.vm := State.WarmedH.trans hW0 hW
  have hcl : s.vm.findClass cls = some ce.cls := by
    have h9 := hO.cls
    rw [hvm] at h9
    exact h9
  have hall : s.sameButNew ({ U with vm := s.vm } : State) locs mc ms := by
    subst hA
    obtain ⟨e1, e2⟩ := hsame
    rw [State.setFrames_setFrames] at e1
    have h2 : (T.setVm s.vm).sameButNew ({ U with vm := s.vm } : State) [] (0 + 1) (0 + 6) := ⟨e1, e2⟩
    have h3 := X.same.trans h2
    rw [List.append_nil] at h3
    exact h3.mono hc hs
  refine ⟨U, ?_, .threw T.heap.size, hrun, hend, Or.inr ⟨T.heap.size, rfl, cls, ce, locs, hx U hWs.alike f1 (fun q hq => f2 q hq (fun z hz => nomatch hz)), hce, hO.vm, hcl, hWs, hall, hf⟩⟩
  refine st1 _ ?_
  show Steps p.tables e below (T1.setTop { method := m, pc := pc + 3, locals := ls, stack := .ref T.heap.size :: rest, locked := none }) _
  jvm_step X₁.here [X₁.here.top, hexec, d3', Value.category]
  exact X₁.ldcString hexec (own := own) (text := text) (index := is) (a := sa) hown' hstr'.1 hstr'.2
    (g := { method := m, pc := pc + 4, locals := ls, stack := .ref T.heap.size :: .ref T.heap.size :: rest, locked := none }) rfl d4' _ hsteps
/-- 'throw new E("text")', the text by a wide index -/
theorem vx_throwSW {cc : ByteArray} {pc : Nat} (hexec : p.tables.exec = Jvm.exec) (hb : c.code = cc) (hl : l.stackTraces = false) {own cls text : String} {names : List String} {ik is ic mc ms sa : Nat} {A : Nat → Prop}
    (hown : s.vm.findClass own = some m.cls) (hcls : Bundle.fit cls = true) (hnames : ∀ n ∈ names, Bundle.fit n = true)
    (hk : (Cond.classLink own ik cls).before args s = true) (hini : (Cond.initialized cls).before args s = true) (hstr : vk_R own is text sa s) (hat : ∀ w ∈ vx_atS own ic cls names, w.before args s = true)
    (hgood : ∀ w ∈ Cond.classLink own ik cls :: Cond.initialized cls :: vx_atS own ic cls names, vx_ot w = true)
    (hU : vx_Zq Bundle.tN "UNASSIGNED_STACK" Bundle.steD A s s.heap) (hN : vx_Zq Bundle.tN "SUPPRESSED_SENTINEL" Bundle.listD A s s.heap) (hS : va_S A s.heap H locs) (hsize : ls.size = c.maxLocals)
    (d0 : decode cc pc = .ok (.new ik, 3)) (d3 : decode cc (pc + 3) = .ok (.dup, 1)) (d4 : decode cc (pc + 4) = .ok (.ldc_w is, 3)) (d7 : decode cc (pc + 7) = .ok (.invokespecial ic, 3)) (d10 : decode cc (pc + 10) = .ok (.athrow, 1))
    (hout : ∀ x ∈ c.exceptionTable.toList, covers x (pc + 10) = false)
    (hRframes : names.length + 3 < R.frames) (hRlocals : (rest.map fun v => v.category).sum + (13 * (names.length + 1) + 43) ≤ R.locals) (hRcells : cells + 1 ≤ R.cells) (hRslots : slots + 6 ≤ R.slots) (hlocks : meth.locks = false)
    (hx : ∀ t : State, s.vm.Alike t.vm → H.size ≤ t.heap.size → (∀ q : Nat, q < H.size → t.heap[q]? = H[q]?) → XC cls s t)
    (hf : ∀ z ∈ locs, free z.base) (hc : cells + 1 ≤ mc) (hs : slots + 6 ≤ ms) :
    W p l e R s m args below meth c H locs cells slots (vx_MQ below Qc XC args s mc ms free) (F0 m pc ls rest) := by
  intro T hT X
  have htr : e.platform.stackTraces = false := (show e.platform.stackTraces = l.stackTraces by rw [X.admits.platform]).trans hl
  have Y := vx_rebase X (R' := { frames := R.frames, locals := R.locals, cells := 1, slots := 6 }) (Nat.le_refl _) (Nat.le_refl _) hRcells hRslots
  obtain ⟨s', hA⟩ : ∃ z, z = (T.setVm s.vm).setFrames (.invoking m args :: below) := ⟨_, rfl⟩
  rw [← hA] at Y
  have hvm : s'.vm = s.vm := by rw [hA]; rfl
  have hhp : s'.heap = H := by rw [hA]; exact hT
  have hW0 : s.WarmedH s'.vm := by rw [hvm]; exact State.WarmedH.refl s
  have hat' : ∀ w ∈ vx_atS own ic cls names, w.before args s' = true := fun w hw => vx_ot_at hW0 hvm.symm (hgood w (List.mem_cons_of_mem _ (List.mem_cons_of_mem _ hw))) (hat w hw)
  have hk' : (Cond.classLink own ik cls).before args s' = true := vx_ot_at hW0 hvm.symm (hgood _ List.mem_cons_self) hk
  have hini' : (Cond.initialized cls).before args s' = true := vx_ot_at hW0 hvm.symm (hgood _ (List.mem_cons_of_mem _ List.mem_cons_self)) hini
  have hU' : vx_Zq Bundle.tN "UNASSIGNED_STACK" Bundle.steD A s' s'.heap := by rw [hhp]; exact vx_Zq.moved hW0.alike (hU.kept hS.2.1)
  have hN' : vx_Zq Bundle.tN "SUPPRESSED_SENTINEL" Bundle.listD A s' s'.heap := by rw [hhp]; exact vx_Zq.moved hW0.alike (hN.kept hS.2.1)
  have h : ∀ w ∈ Bundle.ownAtoms own ic cls names, w.before args s' = true := vx_own hat' (vx_isRefq hU'.1) (vx_isRefq hN'.1) hU'.2.word hN'.2.word
  have hown' : s'.vm.findClass own = some m.cls := by rw [hvm]; exact hown
  have hins : (Cond.instantiable cls 6).before args s' = true := h _ (by simp [Bundle.ownAtoms])
  obtain ⟨vm₁, cX, kX, hfX, hkX, -, -, X₁, st1⟩ := Y.newCold hexec (own := own) (C := cls) (index := ik) (n := 6) hown' hk' hins hini'
    (g := F0 m pc ls rest) rfl (by rw [hb]; exact d0) (Nat.le_refl _) (Nat.le_refl _)
  generalize hT1 : (T.setVm vm₁).pushCell { cls := cX, slots := kX.instanceTypes.map defaultValue, vm := .none } = T1 at X₁ st1
  have hcat : (Value.ref T.heap.size).category = 1 := rfl
  have hcellA : T1.heap[T.heap.size]? = some (freshCell cX kX) := by rw [← hT1]; exact State.heap_pushCell_size _ _
  have d3' : decode c.code (pc + 3) = .ok (.dup, 1) := by rw [hb]; exact d3
  have d4' : decode c.code (pc + 4) = .ok (.ldc_w is, 3) := by rw [hb]; exact d4
  have hstr' : vk_R own is text sa s' := vk_R.warm hW0 hstr
  obtain ⟨U, hsteps, hrun, hend, hW, hsame, ce, hce, hO⟩ := X₁.ctorThrowS hexec htr (own := own) (cls := cls) (names := names) (ic := ic) hown' hcls hnames h (fun x hx => nomatch hx) hfX hkX hcellA (by rw [hhp, hT]; exact Nat.le_refl _) (msg := .ref sa) rfl
    (g := { method := m, pc := pc + 7, locals := ls, stack := .ref sa :: .ref T.heap.size :: .ref T.heap.size :: rest, locked := none }) rfl hsize rfl rfl (rest := rest) rfl
    (by rw [hb]; exact d7) (by rw [hb]; exact d10) hout hRframes (by simp only [List.map_cons, List.sum_cons, hcat]; omega) hlocks
  obtain ⟨f1, f2⟩ := vx_frame hsame
  rw [hhp] at f1 f2
  have hWs : s.WarmedH U.vm := State.WarmedH.trans hW0 hW
  have hcl : s.vm.findClass cls = some ce.cls := by
    have h9 := hO.cls
    rw [hvm] at h9
    exact h9
  have hall : s.sameButNew ({ U with vm := s.vm } : State) locs mc ms := by
    subst hA
    obtain ⟨e1, e2⟩ := hsame
    rw [State.setFrames_setFrames] at e1
    have h2 : (T.setVm s.vm).sameButNew ({ U with vm := s.vm } : State) [] (0 + 1) (0 + 6) := ⟨e1, e2⟩
    have h3 := X.same.trans h2
    rw [List.append_nil] at h3
    exact h3.mono hc hs
  refine ⟨U, ?_, .threw T.heap.size, hrun, hend, Or.inr ⟨T.heap.size, rfl, cls, ce, locs, hx U hWs.alike f1 (fun q hq => f2 q hq (fun z hz => nomatch hz)), hce, hO.vm, hcl, hWs, hall, hf⟩⟩
  refine st1 _ ?_
  show Steps p.tables e below (T1.setTop { method := m, pc := pc + 3, locals := ls, stack := .ref T.heap.size :: rest, locked := none }) _
  jvm_step X₁.here [X₁.here.top, hexec, d3', Value.category]
  exact X₁.ldcStringW hexec (own := own) (text := text) (index := is) (a := sa) hown' hstr'.1 hstr'.2
    (g := { method := m, pc := pc + 4, locals := ls, stack := .ref T.heap.size :: .ref T.heap.size :: rest, locked := none }) rfl d4' _ hsteps
end Ends
section Bodies
variable {l : Launch}
theorem vx_ofW {y : MethodName} {ws ws' : List Cond} {rm : Room} {Pc : Array Value → State → Prop} {Qc : Array Value → State → Outcome → State → Prop} {XC : String → State → State → Prop} {mc ms : Nat} {free : Addr → Prop} {cc : ByteArray} {maxL : Nat} {ret : Option FieldType}
    (hy : plainName y.cls = true) (hw : ws = Cond.code y cc maxL ret :: ws')
    (body : ∀ p e s m args below meth c s₁, BodyLoose p l y (headSpec ws rm) cc maxL ret e s m args below meth c s₁ → c.maxLocals = maxL → (∀ x ∈ c.exceptionTable.toList, False) → Pc args s →
      W p l e (headSpec ws rm).room s m args below meth c s.heap [] 0 0 (vx_MQ below Qc XC args s mc ms free) (entryFrame m args maxL)) : vx_Met l y ws rm Pc Qc XC mc ms free := by
  refine MetFree.of_bodyS (code := cc) (maxLocals := maxL) (ret := ret) hy ?_ ?_
  · intro args s m h hn
    obtain ⟨meth, c, h1, h2, h3, h4, h5, h6, -, -⟩ := Cond.code_spec hn (atoms_spec (ws := ws) h _ (by rw [hw]; exact List.mem_cons_self))
    exact ⟨meth, c, h1, h2, h3, h4, h5, h6⟩
  · intro p e s m args below meth c s₁ B hml hP _
    have hh0 : s₁.heap = s.heap := by rw [B.state]; rfl
    have ht : ∀ x ∈ c.exceptionTable.toList, False := by
      obtain ⟨meth9, c9, h1, h2, -, -, -, -, h7, -⟩ := Cond.code_spec B.named (atoms_spec (ws := ws) B.pre _ (by rw [hw]; exact List.mem_cons_self))
      cases Option.some.inj (h1.symm.trans B.method)
      cases Option.some.inj (h2.symm.trans (Stand.of_body B).code)
      intro x hx
      rw [Array.isEmpty_iff.mp h7] at hx
      cases hx
    obtain ⟨t, a1, o, b1, b2, b3⟩ := body p e s m args below meth c s₁ B hml ht hP s₁ hh0 (Stand.of_body B)
    exact ⟨t, o, a1, b1, b2, b3⟩
/-- the table of a body with handlers -/
theorem vx_table {p : Program} {x y : MethodName} {S : Spec} {cc bytes : ByteArray} {maxL maxL' : Nat} {ret ret' : Option FieldType} {e : Env} {s s₁ : State} {m : MethodId} {args : Array Value} {below : List Frame} {meth : Method} {c : Code} {hh : List (Nat × Nat × Nat × Nat)}
    (B : BodyLoose p l y S cc maxL ret e s m args below meth c s₁) (h : (Cond.codeWith y bytes maxL' ret' hh).before args s = true) : c.exceptionTable.toList = tableOf hh := by
  obtain ⟨m9, meth9, c9, hn9, h1, h2, -, -, h6, -⟩ := Cond.codeWith_spec h
  cases Option.some.inj (hn9.symm.trans B.named)
  cases Option.some.inj (h1.symm.trans B.method)
  cases Option.some.inj (h2.symm.trans (Stand.of_body B).code)
  rw [← h6, table_eq]
end Bodies
end VXA
/-! ===== END ===== -/
/-! ===== BEGIN a static call of a method with an exception table ===== -/
section VXS
variable {p : Program} {l : Launch} {e : Env} {R : Room} {s : State} {m : MethodId} {args : Array Value} {below : List Frame} {meth : Method} {c : Code} {T : State} {H : Heap} {locs : List Loc} {cells slots : Nat}
abbrev vx_CSW (R : Room) (s : State) (args : Array Value) (own : String) (index : Nat) (y : MethodName) (bytes : ByteArray) (maxL : Nat) (ret : Option FieldType) (hh : List (Nat × Nat × Nat × Nat)) (ws : List Cond) (rm : Room) (mc ms n : Nat) : Prop :=
  (rm.cells = mc ∧ rm.slots = ms ∧ rm.frames + 1 ≤ R.frames ∧ 8 + (maxL + 11) + rm.locals ≤ R.locals ∧ (∀ w ∈ ws, ∀ (a' : Array Value) (U : State), s.WarmedH U.vm → w.before a' U = true) ∧ Cond.codeWith y bytes maxL ret hh ∈ ws) ∧
  (Cond.codeWith y bytes maxL ret hh).before args s = true ∧ (Cond.initialized y.cls).before args s = true ∧ (y.cls ≠ "java/lang/invoke/MethodHandle" ∧ y.cls ≠ "java/lang/invoke/VarHandle") ∧
  (∀ sig, parseMethodDescriptor y.desc = some sig → n = sig.parameters.length) ∧ (Cond.methodLink own index y).before args s = true ∧ (Cond.static y).before args s = true
theorem vx_cwSW {own : String} {index maxL mc ms : Nat} {y : MethodName} {bytes : ByteArray} {ret : Option FieldType} {hh : List (Nat × Nat × Nat × Nat)} {Ts ws ws' : List Cond} {rm : Room} (n : Nat) (ht : ∀ w ∈ Ts, w.before args s = true) (hT : GoodIn Ts (va_wsS own index y ws)) (hw : ws = Cond.codeWith y bytes maxL ret hh :: ws') (hrc : rm.cells = mc) (hrs : rm.slots = ms)
    (hd : y.cls ≠ "java/lang/invoke/MethodHandle" ∧ y.cls ≠ "java/lang/invoke/VarHandle" ∧ (parseMethodDescriptor y.desc).map (fun d => d.parameters.length) = some n) (hR : rm.frames + 1 ≤ R.frames ∧ 8 + (maxL + 11) + rm.locals ≤ R.locals) :
    vx_CSW R s args own index y bytes maxL ret hh ws rm mc ms n := by
  have ok : ∀ w ∈ va_wsS own index y ws, w.before args s = true := fun w h => ht w (hT w h).1
  have hG : GoodIn Ts ws := fun w h => hT w (by unfold va_wsS; exact List.mem_append_right _ h)
  have hc : Cond.codeWith y bytes maxL ret hh ∈ ws := by rw [hw]; exact List.mem_cons_self
  refine ⟨⟨hrc, hrs, hR.1, hR.2, pay_in ht hG, hc⟩, ht _ (hG _ hc).1, ok _ (by simp [va_wsS]), ⟨hd.1, hd.2.1⟩, fun sig h => ?_, ok _ (by simp [va_wsS]), ok _ (by simp [va_wsS])⟩
  have h2 := hd.2.2
  rw [h] at h2
  exact (Option.some.inj h2).symm
theorem vx_callSW (X : Stand p l e R s m args below meth c T locs cells slots) (hexec : p.tables.exec = Jvm.exec) {own : String} {index : Nat} {y : MethodName} {bytes : ByteArray} {maxL : Nat} {ret : Option FieldType} {hh : List (Nat × Nat × Nat × Nat)}
    (hown : s.vm.findClass own = some m.cls) (hlink : (Cond.methodLink own index y).before args s = true) (hstat : (Cond.static y).before args s = true) (hinit : (Cond.initialized y.cls).before args s = true)
    (hcode : (Cond.codeWith y bytes maxL ret hh).before args s = true) (hy : y.cls ≠ "java/lang/invoke/MethodHandle" ∧ y.cls ≠ "java/lang/invoke/VarHandle")
    {W9 : Nat} {Pre : Pt → Array Value → Prop} {Post : Pt → Array Value → Option Value → Pt → Prop} (hK : Back l R p e below s args y 3 W9 Pre Post)
    {g : JFrame} (hg : g.method = m) (hsize : g.locals.size = c.maxLocals) {argsL rest : List Value} (hlen : ∀ sig, parseMethodDescriptor y.desc = some sig → argsL.length = sig.parameters.length)
    (hstack : g.stack = argsL.reverse ++ rest) (hW : 2 * g.monitorRoom + (rest.map fun v => v.category).sum ≤ W9) (hdg : decode c.code g.pc = .ok (.invokestatic index, 3))
    (hpre : ∀ vm₁, s.WarmedH vm₁ → Pre ⟨T.setVm vm₁, locs, cells, slots⟩ argsL.toArray) :
    ∃ (v : Option Value) (vm₁ : Vm) (B : Pt), s.WarmedH vm₁ ∧ Stand p l e R s m args below meth c B.U B.locs B.cells B.slots ∧ Post ⟨T.setVm vm₁, locs, cells, slots⟩ argsL.toArray v B ∧
      ∀ target, Steps p.tables e below (B.U.setTop { g with pc := g.pc + 3, stack := v.toList ++ rest }) target → Steps p.tables e below (T.setTop g) target := by
  obtain ⟨mk, methM, cM, hnamed, hmethM, -, -, -, -, -, -, hsigM⟩ := Cond.codeWith_spec hcode
  have hstatic : methM.isStatic = true := Cond.static_spec hnamed hmethM hstat
  obtain ⟨kP, hkP, -⟩ := className_of_methodNamed hnamed
  have hinitP : kP.init = .initialized := Cond.initialized_spec (findClass_of_methodNamed hnamed) hkP hinit
  obtain ⟨vm₁, X₁, hstep₁⟩ := X.invokestatic hexec hown hlink hnamed hmethM hstatic hkP hinitP hy (g := g) hg (argsL := argsL) (rest := rest) (hlen _ hsigM) hstack hdg
  obtain ⟨v, B, X', hpost, hsteps⟩ := hK m meth c ⟨T.setVm vm₁, locs, cells, slots⟩ { g with stack := rest } (.invokestatic index) mk argsL.toArray X₁ hg hsize hdg hW (X₁.named hnamed) (hpre vm₁ X₁.warmed)
  exact ⟨v, vm₁, B, X₁.warmed, X', hpost, fun target h => hstep₁ _ fun acts => by rw [doInvoke_state]; exact hsteps.trans h⟩
theorem vx_runSW {y : MethodName} {bytes cc : ByteArray} {maxL nL mc ms n index : Nat} {ret : Option FieldType} {hh : List (Nat × Nat × Nat × Nat)} {ws : List Cond} {rm : Room} {Pc : Array Value → State → Prop} {Qc : Array Value → State → Outcome → State → Prop} {free : Addr → Prop} {Ts : List Cond} {own : String} {As rest : List Value} {g : JFrame}
    (S : CallFix p m c cc nL s args Ts own) (hM : Met l y ws rm Pc Qc mc ms free) (cw : vx_CSW R s args own index y bytes maxL ret hh ws rm mc ms n) (hp : PreS s H Pc As)
    (hg : g.method = m) (hn : As.length = n) (hsize : g.locals.size = nL) (hstack : g.stack = As.reverse ++ rest) (hW : 2 * g.monitorRoom + (rest.map fun v => v.category).sum ≤ 8) (hdg : decode cc g.pc = .ok (.invokestatic index, 3)) (hf : cells + mc ≤ R.cells ∧ slots + ms ≤ R.slots) :
    va_Run p l e R s m args below meth c H locs cells slots mc ms g rest (Qc As.toArray) (free) := by
  obtain ⟨⟨hrc, hrs, hfr, hlo, hws, hcw⟩, hcode, hini, hy, hlen, hl, hstt⟩ := cw
  have hK : Back l R p e below s args y 3 8 (PreOf R mc ms Pc) (PostOf Qc mc ms free) := va_backW (hh := hh) (bytes := bytes) (maxL := maxL) (ret := ret) hM hp.1 hrc hrs hfr hlo hws hcw (fun a' U hW => word_at hW (Or.inl (by first | rfl | simp [Cond.onTables, Cond.keeps, Cond.steady])) hini)
  obtain ⟨hx, hb, hml, ho, -⟩ := S
  intro T hT X
  obtain ⟨v, vm₁, ⟨U', l2, c2, s2⟩, hW₁, X', ⟨g', mk, t, L, e1, e2, hq, h1, hL, h2, h3⟩, st⟩ := vx_callSW X hx (hh := hh) (bytes := bytes) (maxL := maxL) (ret := ret) ho hl hstt hini hcode hy hK hg (hsize.trans hml.symm) (argsL := As) (rest := rest) (fun sig h => hn.trans (hlen sig h)) hstack hW (by rw [hb]; exact hdg)
    (fun vm₁ hW₁ => ⟨hf.1, hf.2, hp.2 (T.setVm vm₁) hT hW₁⟩)
  dsimp only [Pt.U, Pt.locs, Pt.cells, Pt.slots] at X' e1 e2 h1 h2 h3 st
  subst h1; subst h2; subst h3
  exact ⟨v, (T.setVm vm₁).calling g' mk As.toArray, t, U', L, hT, X', hL, e1, e2, hq, st⟩
/-- not caught here, past rows that name other classes: it goes on to the caller -/
theorem vx_outP {p : Program} {l : Launch} {e : Env} {R : Room} {s : State} {m : MethodId} {args : Array Value} {below : List Frame} {meth : Method} {c : Code} {H : Heap} {locs : List Loc} {cells slots : Nat} {free : Addr → Prop} {ls : Array Slot} {rest : List Value} {Qc : Array Value → State → Outcome → State → Prop} {XC : String → State → State → Prop}
    {pc : Nat} {own E : String} {ce : Cell} {q : Addr} {mc ms : Nat} (hown : s.vm.findClass own = some m.cls) (hlocks : meth.locks = false)
    (hpass : ∀ z ∈ c.exceptionTable.toList, covers z pc = false ∨ (z.catchType ≠ 0 ∧ ∃ nm : String, (Cond.classLink own z.catchType nm).before args s = true ∧ va_Nc E nm s)) (hcell : H[q]? = some ce) (hv : ce.vm = .none) (hcl : s.vm.findClass E = some ce.cls)
    (hx : ∀ t : State, t.heap = H → s.vm.Alike t.vm → XC E s t) (hf : ∀ z ∈ locs, free z.base) (hc : cells ≤ mc) (hs : slots ≤ ms) :
    vx_W p l e R s m args below meth c H locs cells slots (vx_MQ below Qc XC args s mc ms free) (F0 m pc ls rest) q := by
  intro T hT X
  have hpl : e.platform.magicAccessors = ({} : Platform).magicAccessors := by rw [X.admits.platform]
  obtain ⟨vm', hW', X', st⟩ := X.outThrough hlocks q (g := F0 m pc ls rest) rfl rfl rfl (cell := ce) (by rw [hT]; exact hcell) (by rw [hv]; rfl)
    (by obtain ⟨k9, h9, -⟩ := Vm.findClass_spec hcl; exact ⟨k9, h9⟩) (fun z hz => by
      rcases hpass z hz with h | ⟨hz0, nm, hl1, hn1⟩
      · exact Or.inl h
      · obtain ⟨c6, hc6, hcl6⟩ := Cond.classLink_spec hown hl1 e.platform hpl
        obtain ⟨a8, b8, h1, h2, h3⟩ := hn1
        cases Option.some.inj (h1.symm.trans hcl)
        cases Option.some.inj (h2.symm.trans hc6)
        exact Or.inr ⟨hz0, _, hcl6, h3⟩)
  obtain ⟨g₀, hfr⟩ := X'.frames_eq
  have hcell9 : ((T.setVm vm').setFrames (.throwing q :: below)).heap[q]? = some ce := by
    show T.heap[q]? = some ce
    rw [hT]; exact hcell
  have hend : Ended ((T.setVm vm').setFrames (.throwing q :: below)) below (.threw q) := State.frames_setFrames _ (State.cur_lt_of_frames hfr)
  refine ⟨(T.setVm vm').setFrames (.throwing q :: below), ?_, .threw q, X'.here.running, hend, Or.inr ⟨q, rfl, E, ce, locs, hx _ hT (X'.ends _).1.alike, hcell9, hv, hcl, (X'.ends _).1, (X'.ends _).2.mono hc hs, hf⟩⟩
  rw [X.pushThrowing_eq]
  exact st
/-- a thing of a world lies in the heap -/
theorem vx_lt {D : va_G} {cl : List vw_C} {ws : va_W} {H1 : Heap} (h : va_P D cl ws H1) {k : Nat} {q : Nat × va_E} (hk : ws[k]? = some q) : q.1 < H1.size := (h k q hk).lt
end VXS
/-! ===== END ===== -/
/-! ===== BEGIN methods with a table of their own: called by a name, returning or throwing ===== -/
section VXH
/-! vx_backW, vx_callVX, vx_callSX, vx_callVW, vx_runVW, vx_runVX, vx_runSX, vx_ofWH follow the same proofs as their sisters above (Free/Laws.lean, Shelf42/LK1.lean); vx_outP calls Shelf42/NT130.lean (outThrough). -/
section
variable {l : Launch} {R : Room} {p : Program} {e : Env} {below : List Frame} {s : State} {sargs : Array Value} {y : MethodName} {len W9 : Nat}
theorem vx_backW {ws : List Cond} {rm : Room} {Pc : Array Value → State → Prop} {Qc : Array Value → State → Outcome → State → Prop} {XC : String → State → State → Prop} {mc ms : Nat} {free : Addr → Prop} {bytes : ByteArray} {maxL : Nat} {ret : Option FieldType} {hh : List (Nat × Nat × Nat × Nat)}
    (hM : vx_Met l y ws rm Pc Qc XC mc ms free) (hblind : FrameBlind Pc) (hrc : rm.cells = mc) (hrs : rm.slots = ms)
    (hframes : rm.frames + 1 ≤ R.frames) (hlocals : W9 + (maxL + 11) + rm.locals ≤ R.locals)
    (hws : ∀ w ∈ ws, ∀ a' U, s.WarmedH U.vm → w.before a' U = true) (hcode : Cond.codeWith y bytes maxL ret hh ∈ ws) (hinit : ∀ a' U, s.WarmedH U.vm → (Cond.initialized y.cls).before a' U = true) :
    vx_Back l R p e below s sargs y len W9 (PreOf R mc ms Pc) (PostOf Qc mc ms free) (vx_Post XC mc ms free) := by
  intro m meth c A g ig mk a X hg hsize hdg hW hn hp
  have h1 : (headSpec ws rm).pre.before a A.U = true := atoms_intro fun w hw => hws w hw _ _ X.warmed
  have h2 : (Cond.codeWith y bytes maxL ret hh).before a A.U = true := hws _ hcode _ _ X.warmed
  have h3 : (Cond.initialized y.cls).before a A.U = true := hinit _ _ X.warmed
  have h4 : A.cells + (headSpec ws rm).room.cells ≤ R.cells := by rw [show (headSpec ws rm).room.cells = mc from hrc]; exact hp.1
  have h5 : A.slots + (headSpec ws rm).room.slots ≤ R.slots := by rw [show (headSpec ws rm).room.slots = ms from hrs]; exact hp.2.1
  have hPc : Pc a (A.U.calling g mk a) := hblind _ _ _ _ hp.2.2
  obtain ⟨U, Ls, c0, s0⟩ := A
  dsimp only [Pt.U, Pt.locs, Pt.cells, Pt.slots] at h1 h2 h3 h4 h5 X hn hPc ⊢
  obtain ⟨m9, methY, cY, hn9, hmY, hcY, -, hlY, -⟩ := Cond.codeWith_spec h2
  cases Option.some.inj (hn9.symm.trans hn)
  obtain ⟨kY, hkY, -⟩ := className_of_methodNamed hn
  have hinitY : kY.init = .initialized := Cond.initialized_spec (findClass_of_methodNamed hn) hkY h3
  have h : At U g.method c below := by rw [hg]; exact X.here
  have hlocals9 : W9 + (maxL + 11) + (headSpec ws rm).room.locals ≤ R.locals := hlocals
  have happ : (headSpec ws rm).appliesLoose y e.platform (U.calling g mk a) = true :=
    Spec.appliesLoose_calling (g := g) h hdg hn hkY hinitY
      (X.room_calling (g := g) (R' := (headSpec ws rm).room) hsize hmY hcY hframes (by rw [hlY]; omega) h4 h5) h1
  obtain ⟨mid, hmid⟩ := h.above
  have hfr : (U.setTop g).frames = (.java g :: mid) ++ below := by rw [State.frames_setTop' g h.top, hmid]; rfl
  obtain ⟨o, s₂, hsteps, -, hend, hq⟩ := Steps.callFree hM p X.admits X.cas X.clock (acts := []) hfr happ hPc trivial
  have hq' : vx_Q Qc XC mc ms free a (U.calling g mk a) o s₂ := hq
  rw [State.frames_setTop' g h.top] at hend
  obtain ⟨g₀, hg0⟩ := Option.isSome_iff_exists.mp h.top
  obtain ⟨r, hr⟩ := State.topJava?_eq_some.mp hg0
  have hr' : (({ U with heap := s₂.heap, slotsUsed := s₂.slotsUsed } : State).setVm s₂.vm).frames = .java g₀ :: r := hr
  rcases hq' with ⟨hqc, L, hfe, hL⟩ | ⟨q, rfl, E, ce, L, hx, hce, hcv, hcl, hW₂, hsm, hL⟩
  · obtain ⟨⟨v, rfl⟩, hW₂, e2, q2, q3, q4, q5, q6⟩ := id hfe
    have e3 : s₂ = ({ (U.calling g mk a).setFrames s₂.frames with heap := s₂.heap, slotsUsed := s₂.slotsUsed } : State).setVm s₂.vm := by
      have : s₂ = ({ s₂ with vm := (U.calling g mk a).vm } : State).setVm s₂.vm := rfl
      rw [e2] at this
      exact this
    obtain ⟨c₂, i₂, len₂, hc₂, hd₂, hf₂⟩ := hend
    have hW' : U.WarmedH s₂.vm := hW₂
    have hcc : c₂ = c := by
      have h1 : s₂.code? g.method = U.code? g.method := by
        rw [State.code?_eq, State.code?_eq, hW'.alike.method?]
      exact Option.some.inj (hc₂.symm.trans (h1.trans h.code))
    subst hcc
    have hlen : len₂ = len := by rw [hdg] at hd₂; cases hd₂; rfl
    subst hlen
    have hs₂ : s₂ = (({ U with heap := s₂.heap, slotsUsed := s₂.slotsUsed } : State).setVm s₂.vm).setTop { g with pc := g.pc + len₂, stack := v.toList ++ g.stack } := by
      refine e3.trans ?_
      rw [hf₂, State.calling_eq h.top, State.setFrames_setFrames, State.setTop_of_frames _ hr', hr]
      rfl
    have hsame : U.sameButNew ({ U with heap := s₂.heap, slotsUsed := s₂.slotsUsed } : State) L mc ms := by
      refine ⟨?_, q2, q3, q4, q5, q6⟩
      obtain ⟨t, ht, -⟩ := State.frames_cons hr
      show ({ U with heap := s₂.heap, slotsUsed := s₂.slotsUsed } : State) = { U.setFrames U.frames with heap := s₂.heap, slotsUsed := s₂.slotsUsed }
      rw [State.setFrames_self ht]
    subst hg
    refine Or.inl ⟨v, ⟨(({ U with heap := s₂.heap, slotsUsed := s₂.slotsUsed } : State).setVm s₂.vm), Ls ++ L, c0 + mc, s0 + ms⟩,
      ⟨X.admits, X.cas, X.clock, X.frames, X.room, X.hears, X.method, X.code, (X.here.setHeapUsed s₂.heap s₂.slotsUsed).setVm hW'.alike, X.tail, State.WarmedH.trans X.warmed hW', X.limits, X.bytes, X.same.trans (hsame.setVm s.vm)⟩,
      ⟨g, mk, s₂, L, rfl, rfl, hqc, rfl, hL, rfl, rfl⟩, ?_⟩
    show Steps p.tables e below _ ((({ U with heap := s₂.heap, slotsUsed := s₂.slotsUsed } : State).setVm s₂.vm).setTop { g with pc := g.pc + len₂, stack := v.toList ++ g.stack })
    rw [← hs₂]
    exact hsteps
  · obtain ⟨e2, q2, q3, q4, q5, q6⟩ := id hsm
    have e3 : s₂ = ({ (U.calling g mk a).setFrames s₂.frames with heap := s₂.heap, slotsUsed := s₂.slotsUsed } : State).setVm s₂.vm := by
      have : s₂ = ({ s₂ with vm := (U.calling g mk a).vm } : State).setVm s₂.vm := rfl
      rw [e2] at this
      exact this
    have hf₂ : s₂.frames = .throwing q :: .java g :: U.frames.tail := hend
    have hW' : U.WarmedH s₂.vm := hW₂
    have hs₂ : s₂ = ((({ U with heap := s₂.heap, slotsUsed := s₂.slotsUsed } : State).setVm s₂.vm).setTop g).pushFrame (.throwing q) := by
      refine e3.trans ?_
      rw [hf₂, State.calling_eq h.top, State.setFrames_setFrames, State.pushFrame, State.frames_setTop _ hr', State.setTop_of_frames _ hr', State.setFrames_setFrames, hr]
      rfl
    have hsame : U.sameButNew ({ U with heap := s₂.heap, slotsUsed := s₂.slotsUsed } : State) L mc ms := by
      refine ⟨?_, q2, q3, q4, q5, q6⟩
      obtain ⟨t, ht, -⟩ := State.frames_cons hr
      show ({ U with heap := s₂.heap, slotsUsed := s₂.slotsUsed } : State) = { U.setFrames U.frames with heap := s₂.heap, slotsUsed := s₂.slotsUsed }
      rw [State.setFrames_self ht]
    subst hg
    refine Or.inr ⟨q, ⟨(({ U with heap := s₂.heap, slotsUsed := s₂.slotsUsed } : State).setVm s₂.vm), Ls ++ L, c0 + mc, s0 + ms⟩,
      ⟨X.admits, X.cas, X.clock, X.frames, X.room, X.hears, X.method, X.code, (X.here.setHeapUsed s₂.heap s₂.slotsUsed).setVm hW'.alike, X.tail, State.WarmedH.trans X.warmed hW', X.limits, X.bytes, X.same.trans (hsame.setVm s.vm)⟩,
      ⟨g, mk, s₂, L, E, ce, rfl, rfl, hx, hce, hcv, hcl, rfl, hL, rfl, rfl⟩, ?_⟩
    show Steps p.tables e below _ (((({ U with heap := s₂.heap, slotsUsed := s₂.slotsUsed } : State).setVm s₂.vm).setTop g).pushFrame (.throwing q))
    rw [← hs₂]
    exact hsteps
end
variable {p : Program} {l : Launch} {e : Env} {R : Room} {s : State} {m : MethodId} {args : Array Value} {below : List Frame} {meth : Method} {c : Code} {T : State} {H : Heap} {locs : List Loc} {cells slots : Nat}
theorem vx_callVX (X : Stand p l e R s m args below meth c T locs cells slots) (hexec : p.tables.exec = Jvm.exec) {own C : String} {index : Nat} {y : MethodName} {bytes : ByteArray} {maxL : Nat} {ret : Option FieldType} {hh : List (Nat × Nat × Nat × Nat)}
    (hown : s.vm.findClass own = some m.cls) (hlink : (Cond.methodLink own index y).before args s = true) (hinst : (Cond.instanceMethod y).before args s = true) (hsel : (Cond.selects C y y).before args s = true)
    (hcode : (Cond.codeWith y bytes maxL ret hh).before args s = true) (hy : y.cls ≠ "java/lang/invoke/MethodHandle" ∧ y.cls ≠ "java/lang/invoke/VarHandle")
    {W9 : Nat} {Pre : Pt → Array Value → Prop} {Post : Pt → Array Value → Option Value → Pt → Prop} {PostX : Pt → Array Value → Addr → Pt → Prop} (hK : vx_Back l R p e below s args y 3 W9 Pre Post PostX)
    {b : Addr} {cellB : Cell} (hcell : T.heap[b]? = some cellB) (hobj : cellB.vm.isStatics = false) (hcls : s.vm.findClass C = some cellB.cls)
    {g : JFrame} (hg : g.method = m) (hsize : g.locals.size = c.maxLocals) {argsL rest : List Value} (hlen : ∀ sig, parseMethodDescriptor y.desc = some sig → argsL.length = sig.parameters.length)
    (hstack : g.stack = argsL.reverse ++ .ref b :: rest) (hW : 2 * g.monitorRoom + (rest.map fun v => v.category).sum ≤ W9) (hdg : decode c.code g.pc = .ok (.invokevirtual index, 3))
    (hpre : ∀ vm₁, s.WarmedH vm₁ → Pre ⟨T.setVm vm₁, locs, cells, slots⟩ (Value.ref b :: argsL).toArray) :
    (∃ (v : Option Value) (vm₁ : Vm) (B : Pt), s.WarmedH vm₁ ∧ Stand p l e R s m args below meth c B.U B.locs B.cells B.slots ∧ Post ⟨T.setVm vm₁, locs, cells, slots⟩ (Value.ref b :: argsL).toArray v B ∧
      ∀ target, Steps p.tables e below (B.U.setTop { g with pc := g.pc + 3, stack := v.toList ++ rest }) target → Steps p.tables e below (T.setTop g) target) ∨
    (∃ (q : Addr) (vm₁ : Vm) (B : Pt), s.WarmedH vm₁ ∧ Stand p l e R s m args below meth c B.U B.locs B.cells B.slots ∧ PostX ⟨T.setVm vm₁, locs, cells, slots⟩ (Value.ref b :: argsL).toArray q B ∧
      Steps p.tables e below (T.setTop g) ((B.U.setTop { g with stack := rest }).pushFrame (.throwing q))) := by
  obtain ⟨mk, methM, hnamed, hmethM, hstM, habM⟩ := Cond.instanceMethod_spec hinst
  obtain ⟨m8, methM', cM, hn8, hmethM', -, -, -, -, -, -, hsigM⟩ := Cond.codeWith_spec hcode
  cases Option.some.inj (hn8.symm.trans hnamed)
  cases hmethM.symm.trans hmethM'
  obtain ⟨c2, r2, m2, q1, q2, q3, q4, kP, hkP, hkPi⟩ := Cond.selects_spec hsel
  cases hcls.symm.trans q1
  cases (State.methodFound?_of_named hnamed hy).symm.trans q2
  cases hnamed.symm.trans q3
  have hselP : selectMethod e.platform s.vm cellB.cls mk = .method mk := by rw [Launch.admits_selectMethod X.admits]; exact q4
  obtain ⟨vm₁, X₁, hstep₁⟩ := X.invokevirtual hexec hown hlink hnamed hmethM hstM hkP hkPi hy (a := b) (cell := cellB) hcell
    (fun z h => by rw [h] at hobj; cases hobj) hselP hmethM habM hkP hkPi (g := g) hg (argsL := argsL) (rest := rest) (hlen _ hsigM) hstack hdg
  rcases hK m meth c ⟨T.setVm vm₁, locs, cells, slots⟩ { g with stack := rest } (.invokevirtual index) mk (Value.ref b :: argsL).toArray X₁ hg hsize hdg hW (X₁.named hnamed) (hpre vm₁ X₁.warmed) with ⟨v, B, X', hpost, hsteps⟩ | ⟨q, B, X', hpost, hsteps⟩
  · exact Or.inl ⟨v, vm₁, B, X₁.warmed, X', hpost, fun target h => hstep₁ _ fun acts => by rw [doInvoke_state]; exact hsteps.trans h⟩
  · exact Or.inr ⟨q, vm₁, B, X₁.warmed, X', hpost, hstep₁ _ fun acts => by rw [doInvoke_state]; exact hsteps⟩
theorem vx_callSX (X : Stand p l e R s m args below meth c T locs cells slots) (hexec : p.tables.exec = Jvm.exec) {own : String} {index : Nat} {y : MethodName} {bytes : ByteArray} {maxL : Nat} {ret : Option FieldType} {hh : List (Nat × Nat × Nat × Nat)}
    (hown : s.vm.findClass own = some m.cls) (hlink : (Cond.methodLink own index y).before args s = true) (hstat : (Cond.static y).before args s = true) (hinit : (Cond.initialized y.cls).before args s = true)
    (hcode : (Cond.codeWith y bytes maxL ret hh).before args s = true) (hy : y.cls ≠ "java/lang/invoke/MethodHandle" ∧ y.cls ≠ "java/lang/invoke/VarHandle")
    {W9 : Nat} {Pre : Pt → Array Value → Prop} {Post : Pt → Array Value → Option Value → Pt → Prop} {PostX : Pt → Array Value → Addr → Pt → Prop} (hK : vx_Back l R p e below s args y 3 W9 Pre Post PostX)
    {g : JFrame} (hg : g.method = m) (hsize : g.locals.size = c.maxLocals) {argsL rest : List Value} (hlen : ∀ sig, parseMethodDescriptor y.desc = some sig → argsL.length = sig.parameters.length)
    (hstack : g.stack = argsL.reverse ++ rest) (hW : 2 * g.monitorRoom + (rest.map fun v => v.category).sum ≤ W9) (hdg : decode c.code g.pc = .ok (.invokestatic index, 3))
    (hpre : ∀ vm₁, s.WarmedH vm₁ → Pre ⟨T.setVm vm₁, locs, cells, slots⟩ argsL.toArray) :
    (∃ (v : Option Value) (vm₁ : Vm) (B : Pt), s.WarmedH vm₁ ∧ Stand p l e R s m args below meth c B.U B.locs B.cells B.slots ∧ Post ⟨T.setVm vm₁, locs, cells, slots⟩ argsL.toArray v B ∧
      ∀ target, Steps p.tables e below (B.U.setTop { g with pc := g.pc + 3, stack := v.toList ++ rest }) target → Steps p.tables e below (T.setTop g) target) ∨
    (∃ (q : Addr) (vm₁ : Vm) (B : Pt), s.WarmedH vm₁ ∧ Stand p l e R s m args below meth c B.U B.locs B.cells B.slots ∧ PostX ⟨T.setVm vm₁, locs, cells, slots⟩ argsL.toArray q B ∧
      Steps p.tables e below (T.setTop g) ((B.U.setTop { g with stack := rest }).pushFrame (.throwing q))) := by
  obtain ⟨mk, methM, cM, hnamed, hmethM, -, -, -, -, -, -, hsigM⟩ := Cond.codeWith_spec hcode
  have hstatic : methM.isStatic = true := Cond.static_spec hnamed hmethM hstat
  obtain ⟨kP, hkP, -⟩ := className_of_methodNamed hnamed
  have hinitP : kP.init = .initialized := Cond.initialized_spec (findClass_of_methodNamed hnamed) hkP hinit
  obtain ⟨vm₁, X₁, hstep₁⟩ := X.invokestatic hexec hown hlink hnamed hmethM hstatic hkP hinitP hy (g := g) hg (argsL := argsL) (rest := rest) (hlen _ hsigM) hstack hdg
  rcases hK m meth c ⟨T.setVm vm₁, locs, cells, slots⟩ { g with stack := rest } (.invokestatic index) mk argsL.toArray X₁ hg hsize hdg hW (X₁.named hnamed) (hpre vm₁ X₁.warmed) with ⟨v, B, X', hpost, hsteps⟩ | ⟨q, B, X', hpost, hsteps⟩
  · exact Or.inl ⟨v, vm₁, B, X₁.warmed, X', hpost, fun target h => hstep₁ _ fun acts => by rw [doInvoke_state]; exact hsteps.trans h⟩
  · exact Or.inr ⟨q, vm₁, B, X₁.warmed, X', hpost, hstep₁ _ fun acts => by rw [doInvoke_state]; exact hsteps⟩
theorem vx_callVW (X : Stand p l e R s m args below meth c T locs cells slots) (hexec : p.tables.exec = Jvm.exec) {own C : String} {index : Nat} {y : MethodName} {bytes : ByteArray} {maxL : Nat} {ret : Option FieldType} {hh : List (Nat × Nat × Nat × Nat)}
    (hown : s.vm.findClass own = some m.cls) (hlink : (Cond.methodLink own index y).before args s = true) (hinst : (Cond.instanceMethod y).before args s = true) (hsel : (Cond.selects C y y).before args s = true)
    (hcode : (Cond.codeWith y bytes maxL ret hh).before args s = true) (hy : y.cls ≠ "java/lang/invoke/MethodHandle" ∧ y.cls ≠ "java/lang/invoke/VarHandle")
    {W9 : Nat} {Pre : Pt → Array Value → Prop} {Post : Pt → Array Value → Option Value → Pt → Prop} (hK : Back l R p e below s args y 3 W9 Pre Post)
    {b : Addr} {cellB : Cell} (hcell : T.heap[b]? = some cellB) (hobj : cellB.vm.isStatics = false) (hcls : s.vm.findClass C = some cellB.cls)
    {g : JFrame} (hg : g.method = m) (hsize : g.locals.size = c.maxLocals) {argsL rest : List Value} (hlen : ∀ sig, parseMethodDescriptor y.desc = some sig → argsL.length = sig.parameters.length)
    (hstack : g.stack = argsL.reverse ++ .ref b :: rest) (hW : 2 * g.monitorRoom + (rest.map fun v => v.category).sum ≤ W9) (hdg : decode c.code g.pc = .ok (.invokevirtual index, 3))
    (hpre : ∀ vm₁, s.WarmedH vm₁ → Pre ⟨T.setVm vm₁, locs, cells, slots⟩ (Value.ref b :: argsL).toArray) :
    ∃ (v : Option Value) (vm₁ : Vm) (B : Pt), s.WarmedH vm₁ ∧ Stand p l e R s m args below meth c B.U B.locs B.cells B.slots ∧ Post ⟨T.setVm vm₁, locs, cells, slots⟩ (Value.ref b :: argsL).toArray v B ∧
      ∀ target, Steps p.tables e below (B.U.setTop { g with pc := g.pc + 3, stack := v.toList ++ rest }) target → Steps p.tables e below (T.setTop g) target := by
  obtain ⟨mk, methM, hnamed, hmethM, hstM, habM⟩ := Cond.instanceMethod_spec hinst
  obtain ⟨m8, methM', cM, hn8, hmethM', -, -, -, -, -, -, hsigM⟩ := Cond.codeWith_spec hcode
  cases Option.some.inj (hn8.symm.trans hnamed)
  cases hmethM.symm.trans hmethM'
  obtain ⟨c2, r2, m2, q1, q2, q3, q4, kP, hkP, hkPi⟩ := Cond.selects_spec hsel
  cases hcls.symm.trans q1
  cases (State.methodFound?_of_named hnamed hy).symm.trans q2
  cases hnamed.symm.trans q3
  have hselP : selectMethod e.platform s.vm cellB.cls mk = .method mk := by rw [Launch.admits_selectMethod X.admits]; exact q4
  obtain ⟨vm₁, X₁, hstep₁⟩ := X.invokevirtual hexec hown hlink hnamed hmethM hstM hkP hkPi hy (a := b) (cell := cellB) hcell
    (fun z h => by rw [h] at hobj; cases hobj) hselP hmethM habM hkP hkPi (g := g) hg (argsL := argsL) (rest := rest) (hlen _ hsigM) hstack hdg
  obtain ⟨v, B, X', hpost, hsteps⟩ := hK m meth c ⟨T.setVm vm₁, locs, cells, slots⟩ { g with stack := rest } (.invokevirtual index) mk (Value.ref b :: argsL).toArray X₁ hg hsize hdg hW (X₁.named hnamed) (hpre vm₁ X₁.warmed)
  exact ⟨v, vm₁, B, X₁.warmed, X', hpost, fun target h => hstep₁ _ fun acts => by rw [doInvoke_state]; exact hsteps.trans h⟩
abbrev vx_CVW (R : Room) (s : State) (args : Array Value) (own C : String) (index : Nat) (y : MethodName) (bytes : ByteArray) (maxL : Nat) (ret : Option FieldType) (hh : List (Nat × Nat × Nat × Nat)) (ws : List Cond) (rm : Room) (mc ms n : Nat) : Prop :=
  (rm.cells = mc ∧ rm.slots = ms ∧ rm.frames + 1 ≤ R.frames ∧ 8 + (maxL + 11) + rm.locals ≤ R.locals ∧ (∀ w ∈ ws, ∀ (a' : Array Value) (U : State), s.WarmedH U.vm → w.before a' U = true) ∧ Cond.codeWith y bytes maxL ret hh ∈ ws) ∧
  (Cond.codeWith y bytes maxL ret hh).before args s = true ∧ (Cond.initialized y.cls).before args s = true ∧ (y.cls ≠ "java/lang/invoke/MethodHandle" ∧ y.cls ≠ "java/lang/invoke/VarHandle") ∧
  (∀ sig, parseMethodDescriptor y.desc = some sig → n = sig.parameters.length) ∧ (Cond.methodLink own index y).before args s = true ∧ (Cond.instanceMethod y).before args s = true ∧ (Cond.selects C y y).before args s = true
theorem vx_cwVW {own C : String} {index maxL mc ms : Nat} {y : MethodName} {bytes : ByteArray} {ret : Option FieldType} {hh : List (Nat × Nat × Nat × Nat)} {Ts ws ws' : List Cond} {rm : Room} (n : Nat) (ht : ∀ w ∈ Ts, w.before args s = true) (hT : GoodIn Ts (wsV own index C y ws)) (hw : ws = Cond.codeWith y bytes maxL ret hh :: ws') (hrc : rm.cells = mc) (hrs : rm.slots = ms)
    (hd : y.cls = C ∧ y.cls ≠ "java/lang/invoke/MethodHandle" ∧ y.cls ≠ "java/lang/invoke/VarHandle" ∧ (parseMethodDescriptor y.desc).map (fun d => d.parameters.length) = some n) (hR : rm.frames + 1 ≤ R.frames ∧ 8 + (maxL + 11) + rm.locals ≤ R.locals) :
    vx_CVW R s args own C index y bytes maxL ret hh ws rm mc ms n := by
  obtain ⟨hC, hd⟩ := hd
  subst hC
  have ok : ∀ w ∈ wsV own index y.cls y ws, w.before args s = true := fun w h => ht w (hT w h).1
  have hG : GoodIn Ts ws := fun w h => hT w (by unfold wsV; exact List.mem_append_right _ h)
  have hc : Cond.codeWith y bytes maxL ret hh ∈ ws := by rw [hw]; exact List.mem_cons_self
  refine ⟨⟨hrc, hrs, hR.1, hR.2, pay_in ht hG, hc⟩, ht _ (hG _ hc).1, ok _ (by simp [wsV]), ⟨hd.1, hd.2.1⟩, fun sig h => ?_, ok _ (by simp [wsV]), ok _ (by simp [wsV]), ok _ (by simp [wsV])⟩
  have h2 := hd.2.2
  rw [h] at h2
  exact (Option.some.inj h2).symm
theorem vx_runVW {y : MethodName} {bytes cc : ByteArray} {maxL nL mc ms n index : Nat} {ret : Option FieldType} {hh : List (Nat × Nat × Nat × Nat)} {ws : List Cond} {rm : Room} {Pc : Array Value → State → Prop} {Qc : Array Value → State → Outcome → State → Prop} {free : Addr → Prop} {Ts : List Cond} {own C : String} {b : Addr} {As rest : List Value} {g : JFrame}
    (S : CallFix p m c cc nL s args Ts own) (hM : Met l y ws rm Pc Qc mc ms free) (cw : vx_CVW R s args own C index y bytes maxL ret hh ws rm mc ms n) (hp : PreV s H C b Pc As)
    (hg : g.method = m) (hn : As.length = n) (hsize : g.locals.size = nL) (hstack : g.stack = As.reverse ++ .ref b :: rest) (hW : 2 * g.monitorRoom + (rest.map fun v => v.category).sum ≤ 8) (hdg : decode cc g.pc = .ok (.invokevirtual index, 3)) (hf : cells + mc ≤ R.cells ∧ slots + ms ≤ R.slots) :
    va_Run p l e R s m args below meth c H locs cells slots mc ms g rest (Qc (Value.ref b :: As).toArray) free := by
  obtain ⟨⟨hrc, hrs, hfr, hlo, hws, hcw⟩, hcode, hini, hy, hlen, hl, hin, hse⟩ := cw
  have hK : Back l R p e below s args y 3 8 (PreOf R mc ms Pc) (PostOf Qc mc ms free) := va_backW (hh := hh) (bytes := bytes) (maxL := maxL) (ret := ret) hM hp.1 hrc hrs hfr hlo hws hcw (fun a' U hW => word_at hW (Or.inl (by first | rfl | simp [Cond.onTables, Cond.keeps, Cond.steady])) hini)
  obtain ⟨hx, hb, hml, ho, -⟩ := S
  obtain ⟨-, ⟨cellB, hcB, hoB, hclB⟩, hPc⟩ := hp
  intro T hT X
  obtain ⟨v, vm₁, ⟨U', l2, c2, s2⟩, hW₁, X', ⟨g', mk, t, L, e1, e2, hq, h1, hL, h2, h3⟩, st⟩ := vx_callVW X hx (C := C) (hh := hh) (bytes := bytes) (maxL := maxL) (ret := ret) ho hl hin hse hcode hy hK (by rw [hT]; exact hcB) hoB hclB hg (hsize.trans hml.symm) (argsL := As) (rest := rest) (fun sig h => hn.trans (hlen sig h)) hstack hW (by rw [hb]; exact hdg)
    (fun vm₁ hW₁ => ⟨hf.1, hf.2, hPc (T.setVm vm₁) hT hW₁⟩)
  dsimp only [Pt.U, Pt.locs, Pt.cells, Pt.slots] at X' e1 e2 h1 h2 h3 st
  subst h1; subst h2; subst h3
  exact ⟨v, (T.setVm vm₁).calling g' mk (Value.ref b :: As).toArray, t, U', L, hT, X', hL, e1, e2, hq, st⟩
section
variable {y : MethodName} {bytes cc : ByteArray} {maxL nL mc ms n index : Nat} {ret : Option FieldType} {ws : List Cond} {rm : Room} {Pc : Array Value → State → Prop} {Qc : Array Value → State → Outcome → State → Prop} {XC : String → State → State → Prop} {free : Addr → Prop} {Ts : List Cond} {own C : String} {b : Addr} {As rest : List Value} {g : JFrame}
theorem vx_runVX {hh : List (Nat × Nat × Nat × Nat)} (S : CallFix p m c cc nL s args Ts own) (hM : vx_Met l y ws rm Pc Qc XC mc ms free) (cw : vx_CVW R s args own C index y bytes maxL ret hh ws rm mc ms n) (hp : PreV s H C b Pc As)
    (hg : g.method = m) (hn : As.length = n) (hsize : g.locals.size = nL) (hstack : g.stack = As.reverse ++ .ref b :: rest) (hW : 2 * g.monitorRoom + (rest.map fun v => v.category).sum ≤ 8) (hdg : decode cc g.pc = .ok (.invokevirtual index, 3)) (hf : cells + mc ≤ R.cells ∧ slots + ms ≤ R.slots) :
    vx_Run p l e R s m args below meth c H locs cells slots mc ms g rest (Qc (Value.ref b :: As).toArray) XC free := by
  obtain ⟨⟨hrc, hrs, hfr, hlo, hws, hcw⟩, hcode, hini, hy, hlen, hl, hin, hse⟩ := cw
  have hK : vx_Back l R p e below s args y 3 8 (PreOf R mc ms Pc) (PostOf Qc mc ms free) (vx_Post XC mc ms free) := vx_backW (hh := hh) (bytes := bytes) (maxL := maxL) (ret := ret) hM hp.1 hrc hrs hfr hlo hws hcw (fun a' U hW => word_at hW (Or.inl (by first | rfl | simp [Cond.onTables, Cond.keeps, Cond.steady])) hini)
  obtain ⟨hx, hb, hml, ho, -⟩ := S
  obtain ⟨-, ⟨cellB, hcB, hoB, hclB⟩, hPc⟩ := hp
  intro T hT X
  rcases vx_callVX X hx (C := C) (hh := hh) (bytes := bytes) (maxL := maxL) (ret := ret) ho hl hin hse hcode hy hK (by rw [hT]; exact hcB) hoB hclB hg (hsize.trans hml.symm) (argsL := As) (rest := rest) (fun sig h => hn.trans (hlen sig h)) hstack hW (by rw [hb]; exact hdg)
    (fun vm₁ hW₁ => ⟨hf.1, hf.2, hPc (T.setVm vm₁) hT hW₁⟩) with ⟨v, vm₁, ⟨U', l2, c2, s2⟩, hW₁, X', ⟨g', mk, t, L, e1, e2, hq, h1, hL, h2, h3⟩, st⟩ | ⟨q, vm₁, ⟨U', l2, c2, s2⟩, hW₁, X', ⟨g', mk, t, L, E, ce, e1, e2, hq, hce, hcv, hcl, h1, hL, h2, h3⟩, st⟩
  · dsimp only [Pt.U, Pt.locs, Pt.cells, Pt.slots] at X' e1 e2 h1 h2 h3 st
    subst h1; subst h2; subst h3
    exact Or.inl ⟨v, (T.setVm vm₁).calling g' mk (Value.ref b :: As).toArray, t, U', L, hT, X', hL, e1, e2, hq, st⟩
  · dsimp only [Pt.U, Pt.locs, Pt.cells, Pt.slots] at X' e1 e2 h1 h2 h3 st hcl
    subst h1; subst h2; subst h3
    exact Or.inr ⟨q, (T.setVm vm₁).calling g' mk (Value.ref b :: As).toArray, t, U', L, E, ce, hT, X', hL, e1, e2, hq, hce, hcv, vx_cls hW₁ hcl, st⟩
theorem vx_runSX {hh : List (Nat × Nat × Nat × Nat)} (S : CallFix p m c cc nL s args Ts own) (hM : vx_Met l y ws rm Pc Qc XC mc ms free) (cw : vx_CSW R s args own index y bytes maxL ret hh ws rm mc ms n) (hp : PreS s H Pc As)
    (hg : g.method = m) (hn : As.length = n) (hsize : g.locals.size = nL) (hstack : g.stack = As.reverse ++ rest) (hW : 2 * g.monitorRoom + (rest.map fun v => v.category).sum ≤ 8) (hdg : decode cc g.pc = .ok (.invokestatic index, 3)) (hf : cells + mc ≤ R.cells ∧ slots + ms ≤ R.slots) :
    vx_Run p l e R s m args below meth c H locs cells slots mc ms g rest (Qc As.toArray) XC free := by
  obtain ⟨⟨hrc, hrs, hfr, hlo, hws, hcw⟩, hcode, hini, hy, hlen, hl, hstt⟩ := cw
  have hK : vx_Back l R p e below s args y 3 8 (PreOf R mc ms Pc) (PostOf Qc mc ms free) (vx_Post XC mc ms free) := vx_backW (hh := hh) (bytes := bytes) (maxL := maxL) (ret := ret) hM hp.1 hrc hrs hfr hlo hws hcw (fun a' U hW => word_at hW (Or.inl (by first | rfl | simp [Cond.onTables, Cond.keeps, Cond.steady])) hini)
  obtain ⟨hx, hb, hml, ho, -⟩ := S
  intro T hT X
  rcases vx_callSX X hx (hh := hh) (bytes := bytes) (maxL := maxL) (ret := ret) ho hl hstt hini hcode hy hK hg (hsize.trans hml.symm) (argsL := As) (rest := rest) (fun sig h => hn.trans (hlen sig h)) hstack hW (by rw [hb]; exact hdg)
    (fun vm₁ hW₁ => ⟨hf.1, hf.2, hp.2 (T.setVm vm₁) hT hW₁⟩) with ⟨v, vm₁, ⟨U', l2, c2, s2⟩, hW₁, X', ⟨g', mk, t, L, e1, e2, hq, h1, hL, h2, h3⟩, st⟩ | ⟨q, vm₁, ⟨U', l2, c2, s2⟩, hW₁, X', ⟨g', mk, t, L, E, ce, e1, e2, hq, hce, hcv, hcl, h1, hL, h2, h3⟩, st⟩
  · dsimp only [Pt.U, Pt.locs, Pt.cells, Pt.slots] at X' e1 e2 h1 h2 h3 st
    subst h1; subst h2; subst h3
    exact Or.inl ⟨v, (T.setVm vm₁).calling g' mk As.toArray, t, U', L, hT, X', hL, e1, e2, hq, st⟩
  · dsimp only [Pt.U, Pt.locs, Pt.cells, Pt.slots] at X' e1 e2 h1 h2 h3 st hcl
    subst h1; subst h2; subst h3
    exact Or.inr ⟨q, (T.setVm vm₁).calling g' mk As.toArray, t, U', L, E, ce, hT, X', hL, e1, e2, hq, hce, hcv, vx_cls hW₁ hcl, st⟩
end
end VXH
theorem vx_ofWH {l : Launch} {y : MethodName} {ws ws' : List Cond} {rm : Room} {Pc : Array Value → State → Prop} {Qc : Array Value → State → Outcome → State → Prop} {XC : String → State → State → Prop} {mc ms : Nat} {free : Addr → Prop} {cc : ByteArray} {maxL : Nat} {ret : Option FieldType} {hh : List (Nat × Nat × Nat × Nat)}
    (hy : plainName y.cls = true) (hw : ws = Cond.codeWith y cc maxL ret hh :: ws')
    (body : ∀ p e s m args below meth c s₁, BodyLoose p l y (headSpec ws rm) cc maxL ret e s m args below meth c s₁ → c.maxLocals = maxL → Pc args s →
      W p l e (headSpec ws rm).room s m args below meth c s.heap [] 0 0 (vx_MQ below Qc XC args s mc ms free) (entryFrame m args maxL)) : vx_Met l y ws rm Pc Qc XC mc ms free := by
  refine MetFree.of_bodyS (code := cc) (maxLocals := maxL) (ret := ret) hy ?_ ?_
  · intro args s m h hn
    obtain ⟨m9, meth, c, hn9, h1, h2, h3, h4, -, h5, h6, -⟩ := Cond.codeWith_spec (atoms_spec (ws := ws) h _ (by rw [hw]; exact List.mem_cons_self))
    cases hn.symm.trans hn9
    exact ⟨meth, c, h1, h2, h3, h4, h5, h6⟩
  · intro p e s m args below meth c s₁ B hml hP _
    have hh0 : s₁.heap = s.heap := by rw [B.state]; rfl
    obtain ⟨t, a1, o, b1, b2, b3⟩ := body p e s m args below meth c s₁ B hml hP s₁ hh0 (Stand.of_body B)
    exact ⟨t, o, a1, b1, b2, b3⟩
/-! ===== END ===== -/

def RX0 : String := "SlipSecret$Code"
def TX0 : u_T := fun k => match k with
  | _ => ("", "", "", false)
def tyX0 : Nat → FieldType := fun k => match k with
  | _ => .int
abbrev wsX00 : List Cond := u_ws RX0 TX0 0
theorem nmX0 : ∀ a, a < 0 → ∀ b, b < 0 → a ≠ b → (TX0 a).2.1 ≠ (TX0 b).2.1 := by decide +kernel
theorem tyX0_ok : ∀ k, k < 0 → parseFieldDescriptor (TX0 k).2.2.1 = some (tyX0 k) := by decide +kernel
abbrev cX0_isRepeat : ByteArray := prog_2_method_2_code
def yX0_isRepeat : MethodName := ⟨RX0, "isRepeat", "(I)Z"⟩
abbrev cX0_lengthOf : ByteArray := prog_2_method_3_code
def yX0_lengthOf : MethodName := ⟨RX0, "lengthOf", "(I)I"⟩
abbrev cX0_bitsOf : ByteArray := prog_2_method_4_code
def yX0_bitsOf : MethodName := ⟨RX0, "bitsOf", "(I)I"⟩
abbrev cX0_mendedBy : ByteArray := prog_2_method_5_code
def yX0_mendedBy : MethodName := ⟨RX0, "mendedBy", "(I)I"⟩
abbrev cX0_wordOf : ByteArray := prog_2_method_6_code
def yX0_wordOf : MethodName := ⟨RX0, "wordOf", "(II)I"⟩
abbrev cX0_decodedFrom : ByteArray := prog_2_method_7_code
def yX0_decodedFrom : MethodName := ⟨RX0, "decodedFrom", "(II)I"⟩
abbrev cX0_wordsOf : ByteArray := prog_2_method_8_code
def yX0_wordsOf : MethodName := ⟨RX0, "wordsOf", "(III)I"⟩
abbrev cX0_secretFrom : ByteArray := prog_2_method_9_code
def yX0_secretFrom : MethodName := ⟨RX0, "secretFrom", "(III)I"⟩
abbrev cX0_checkWith : ByteArray := prog_2_method_10_code
def yX0_checkWith : MethodName := ⟨RX0, "checkWith", "(III)I"⟩
abbrev cX0_canBecome : ByteArray := prog_2_method_11_code
def yX0_canBecome : MethodName := ⟨RX0, "canBecome", "(III)Z"⟩
def RX1 : String := "SlipSecret$Enrolment"
def TX1 : u_T := fun k => match k with
  | 0 => ("SlipSecret$Enrolment", "count", "I", false)
  | 1 => ("SlipSecret$Enrolment", "pairs", "[I", true)
  | 2 => ("SlipSecret$Enrolment", "repeat", "I", false)
  | 3 => ("SlipSecret$Enrolment", "blocks", "I", false)
  | 4 => ("SlipSecret$Enrolment", "bits", "I", false)
  | 5 => ("SlipSecret$Enrolment", "helper", "I", false)
  | 6 => ("SlipSecret$Enrolment", "firstHelper", "I", false)
  | 7 => ("SlipSecret$Enrolment", "secret", "I", false)
  | _ => ("SlipSecret$Enrolment", "check", "I", false)
def tyX1 : Nat → FieldType := fun k => match k with
  | 0 => .int
  | 1 => .array .int
  | 2 => .int
  | 3 => .int
  | 4 => .int
  | 5 => .int
  | 6 => .int
  | 7 => .int
  | _ => .int
abbrev wsX10 : List Cond := u_ws RX1 TX1 9
theorem nmX1 : ∀ a, a < 9 → ∀ b, b < 9 → a ≠ b → (TX1 a).2.1 ≠ (TX1 b).2.1 := by decide +kernel
theorem tyX1_ok : ∀ k, k < 9 → parseFieldDescriptor (TX1 k).2.2.1 = some (tyX1 k) := by decide +kernel
abbrev cX1_init : ByteArray := prog_3_method_1_code
def yX1_init : MethodName := ⟨RX1, "<init>", "()V"⟩
abbrev cX1_clear : ByteArray := prog_3_method_2_code
def yX1_clear : MethodName := ⟨RX1, "clear", "()V"⟩
abbrev cX1_copyFrom : ByteArray := prog_3_method_3_code
def yX1_copyFrom : MethodName := ⟨RX1, "copyFrom", "(LSlipSecret$Enrolment;)V"⟩
abbrev cX1_isEmpty : ByteArray := prog_3_method_4_code
def yX1_isEmpty : MethodName := ⟨RX1, "isEmpty", "()Z"⟩
abbrev cX1_keep : ByteArray := prog_3_method_5_code
def yX1_keep : MethodName := ⟨RX1, "keep", "(LSlipSecret$Slip;III)V"⟩
abbrev cX1_secretBits : ByteArray := prog_3_method_6_code
def yX1_secretBits : MethodName := ⟨RX1, "secretBits", "()I"⟩
abbrev cX1_placeOf : ByteArray := prog_3_method_7_code
def yX1_placeOf : MethodName := ⟨RX1, "placeOf", "(I)I"⟩
abbrev cX1_pairsAsSet : ByteArray := prog_3_method_8_code
def yX1_pairsAsSet : MethodName := ⟨RX1, "pairsAsSet", "()I"⟩
abbrev cX1_shakyAt : ByteArray := prog_3_method_9_code
def yX1_shakyAt : MethodName := ⟨RX1, "shakyAt", "(LSlipSecret$Slip;I)I"⟩
abbrev cX1_isSafeBlock : ByteArray := prog_3_method_10_code
def yX1_isSafeBlock : MethodName := ⟨RX1, "isSafeBlock", "(II)Z"⟩
abbrev cX1_safeBlocks : ByteArray := prog_3_method_11_code
def yX1_safeBlocks : MethodName := ⟨RX1, "safeBlocks", "(I)I"⟩
abbrev cX1_firstUnsafe : ByteArray := prog_3_method_12_code
def yX1_firstUnsafe : MethodName := ⟨RX1, "firstUnsafe", "(I)I"⟩
abbrev cX1_leaked : ByteArray := prog_3_method_13_code
def yX1_leaked : MethodName := ⟨RX1, "leaked", "()I"⟩
def RX2 : String := "SlipSecret$LeftCounter"
def TX2 : u_T := fun k => match k with
  | _ => ("SlipSecret$LeftCounter", "orders", "[LSlipSecret$Order;", true)
def tyX2 : Nat → FieldType := fun k => match k with
  | _ => .array (.object "SlipSecret$Order")
abbrev wsX20 : List Cond := u_ws RX2 TX2 1
theorem nmX2 : ∀ a, a < 1 → ∀ b, b < 1 → a ≠ b → (TX2 a).2.1 ≠ (TX2 b).2.1 := by decide +kernel
theorem tyX2_ok : ∀ k, k < 1 → parseFieldDescriptor (TX2 k).2.2.1 = some (tyX2 k) := by decide +kernel
abbrev cX2_init : ByteArray := prog_4_method_1_code
def yX2_init : MethodName := ⟨RX2, "<init>", "()V"⟩
abbrev cX2_count : ByteArray := prog_4_method_2_code
def yX2_count : MethodName := ⟨RX2, "count", "(LSlipSecret$Slip;LSlipSecret$Enrolment;LSlipSecret$Order;)I"⟩
abbrev cX2_countFrom : ByteArray := prog_4_method_3_code
def yX2_countFrom : MethodName := ⟨RX2, "countFrom", "(LSlipSecret$Slip;LSlipSecret$Enrolment;II)I"⟩
abbrev cX2_putBlock : ByteArray := prog_4_method_4_code
def yX2_putBlock : MethodName := ⟨RX2, "putBlock", "(LSlipSecret$Slip;LSlipSecret$Enrolment;II)Z"⟩
def RX3 : String := "SlipSecret$Listener"
def TX3 : u_T := fun k => match k with
  | 0 => ("SlipSecret$Listener", "count", "I", false)
  | 1 => ("SlipSecret$Listener", "pairs", "[I", true)
  | 2 => ("SlipSecret$Listener", "heard", "I", false)
  | 3 => ("SlipSecret$Listener", "heardBits", "I", false)
  | _ => ("SlipSecret$Listener", "weights", "[I", true)
def tyX3 : Nat → FieldType := fun k => match k with
  | 0 => .int
  | 1 => .array .int
  | 2 => .int
  | 3 => .int
  | _ => .array .int
abbrev wsX30 : List Cond := u_ws RX3 TX3 5
theorem nmX3 : ∀ a, a < 5 → ∀ b, b < 5 → a ≠ b → (TX3 a).2.1 ≠ (TX3 b).2.1 := by decide +kernel
theorem tyX3_ok : ∀ k, k < 5 → parseFieldDescriptor (TX3 k).2.2.1 = some (tyX3 k) := by decide +kernel
abbrev cX3_init : ByteArray := prog_5_method_1_code
def yX3_init : MethodName := ⟨RX3, "<init>", "()V"⟩
abbrev cX3_clear : ByteArray := prog_5_method_2_code
def yX3_clear : MethodName := ⟨RX3, "clear", "()V"⟩
abbrev cX3_copyFrom : ByteArray := prog_5_method_3_code
def yX3_copyFrom : MethodName := ⟨RX3, "copyFrom", "(LSlipSecret$Listener;)V"⟩
abbrev cX3_hasHeard : ByteArray := prog_5_method_4_code
def yX3_hasHeard : MethodName := ⟨RX3, "hasHeard", "(I)Z"⟩
abbrev cX3_heardBitOf : ByteArray := prog_5_method_5_code
def yX3_heardBitOf : MethodName := ⟨RX3, "heardBitOf", "(I)I"⟩
abbrev cX3_keep : ByteArray := prog_5_method_6_code
def yX3_keep : MethodName := ⟨RX3, "keep", "(II)V"⟩
abbrev cX3_guessOf : ByteArray := prog_5_method_7_code
def yX3_guessOf : MethodName := ⟨RX3, "guessOf", "(LSlipSecret$Slip;I)I"⟩
abbrev cX3_learn : ByteArray := prog_5_method_8_code
def yX3_learn : MethodName := ⟨RX3, "learn", "(LSlipSecret$Slip;)I"⟩
abbrev cX3_putInto : ByteArray := prog_5_method_9_code
def yX3_putInto : MethodName := ⟨RX3, "putInto", "(LSlipSecret$Order;LSlipSecret$Slip;)V"⟩
def RX4 : String := "SlipSecret$Order"
def TX4 : u_T := fun k => match k with
  | _ => ("SlipSecret$Order", "behind", "[I", true)
def tyX4 : Nat → FieldType := fun k => match k with
  | _ => .array .int
abbrev wsX40 : List Cond := u_ws RX4 TX4 1
theorem nmX4 : ∀ a, a < 1 → ∀ b, b < 1 → a ≠ b → (TX4 a).2.1 ≠ (TX4 b).2.1 := by decide +kernel
theorem tyX4_ok : ∀ k, k < 1 → parseFieldDescriptor (TX4 k).2.2.1 = some (tyX4 k) := by decide +kernel
abbrev cX4_init : ByteArray := prog_6_method_1_code
def yX4_init : MethodName := ⟨RX4, "<init>", "()V"⟩
abbrev cX4_clear : ByteArray := prog_6_method_2_code
def yX4_clear : MethodName := ⟨RX4, "clear", "()V"⟩
abbrev cX4_copyFrom : ByteArray := prog_6_method_3_code
def yX4_copyFrom : MethodName := ⟨RX4, "copyFrom", "(LSlipSecret$Order;)V"⟩
abbrev cX4_put : ByteArray := prog_6_method_4_code
def yX4_put : MethodName := ⟨RX4, "put", "(II)V"⟩
abbrev cX4_putPair : ByteArray := prog_6_method_5_code
def yX4_putPair : MethodName := ⟨RX4, "putPair", "(LSlipSecret$Slip;II)V"⟩
abbrev cX4_isAhead : ByteArray := prog_6_method_6_code
def yX4_isAhead : MethodName := ⟨RX4, "isAhead", "(II)Z"⟩
abbrev cX4_isBroken : ByteArray := prog_6_method_7_code
def yX4_isBroken : MethodName := ⟨RX4, "isBroken", "()Z"⟩
abbrev cX4_bitTold : ByteArray := prog_6_method_8_code
def yX4_bitTold : MethodName := ⟨RX4, "bitTold", "(II)I"⟩
def RX5 : String := "SlipSecret$Reading"
def TX5 : u_T := fun k => match k with
  | 0 => ("SlipSecret$Reading", "seed", "I", false)
  | 1 => ("SlipSecret$Reading", "raw", "I", false)
  | 2 => ("SlipSecret$Reading", "secret", "I", false)
  | _ => ("SlipSecret$Reading", "corrected", "I", false)
def tyX5 : Nat → FieldType := fun k => match k with
  | 0 => .int
  | 1 => .int
  | 2 => .int
  | _ => .int
abbrev wsX50 : List Cond := u_ws RX5 TX5 4
theorem nmX5 : ∀ a, a < 4 → ∀ b, b < 4 → a ≠ b → (TX5 a).2.1 ≠ (TX5 b).2.1 := by decide +kernel
theorem tyX5_ok : ∀ k, k < 4 → parseFieldDescriptor (TX5 k).2.2.1 = some (tyX5 k) := by decide +kernel
abbrev cX5_init : ByteArray := prog_7_method_1_code
def yX5_init : MethodName := ⟨RX5, "<init>", "()V"⟩
abbrev cX5_take : ByteArray := prog_7_method_2_code
def yX5_take : MethodName := ⟨RX5, "take", "(LSlipSecret$State;I)V"⟩
abbrev cX5_isRefused : ByteArray := prog_7_method_3_code
def yX5_isRefused : MethodName := ⟨RX5, "isRefused", "(LSlipSecret$Enrolment;)Z"⟩
abbrev cX5_noisySpeed : ByteArray := prog_7_method_4_code
def yX5_noisySpeed : MethodName := ⟨RX5, "noisySpeed", "(LSlipSecret$Slip;II)I"⟩
def RX6 : String := "SlipSecret$Slip"
def TX6 : u_T := fun k => match k with
  | 0 => ("SlipSecret$Slip", "rings", "I", false)
  | 1 => ("SlipSecret$Slip", "base", "[I", true)
  | 2 => ("SlipSecret$Slip", "drift", "[I", true)
  | 3 => ("SlipSecret$Slip", "noise", "[I", true)
  | 4 => ("SlipSecret$Slip", "pairs", "I", false)
  | 5 => ("SlipSecret$Slip", "first", "[I", true)
  | 6 => ("SlipSecret$Slip", "second", "[I", true)
  | _ => ("SlipSecret$Slip", "settings", "[I", true)
def tyX6 : Nat → FieldType := fun k => match k with
  | 0 => .int
  | 1 => .array .int
  | 2 => .array .int
  | 3 => .array .int
  | 4 => .int
  | 5 => .array .int
  | 6 => .array .int
  | _ => .array .int
abbrev wsX60 : List Cond := u_ws RX6 TX6 8
theorem nmX6 : ∀ a, a < 8 → ∀ b, b < 8 → a ≠ b → (TX6 a).2.1 ≠ (TX6 b).2.1 := by decide +kernel
theorem tyX6_ok : ∀ k, k < 8 → parseFieldDescriptor (TX6 k).2.2.1 = some (tyX6 k) := by decide +kernel
abbrev cX6_init : ByteArray := prog_8_method_1_code
def yX6_init : MethodName := ⟨RX6, "<init>", "()V"⟩
abbrev cX6_clear : ByteArray := prog_8_method_2_code
def yX6_clear : MethodName := ⟨RX6, "clear", "()V"⟩
abbrev cX6_copyFrom : ByteArray := prog_8_method_3_code
def yX6_copyFrom : MethodName := ⟨RX6, "copyFrom", "(LSlipSecret$Slip;)V"⟩
abbrev cX6_traitRow : ByteArray := prog_8_method_4_code
def yX6_traitRow : MethodName := ⟨RX6, "traitRow", "(I)[I"⟩
abbrev cX6_addRing : ByteArray := prog_8_method_5_code
def yX6_addRing : MethodName := ⟨RX6, "addRing", "(III)V"⟩
abbrev cX6_addPair : ByteArray := prog_8_method_6_code
def yX6_addPair : MethodName := ⟨RX6, "addPair", "(II)V"⟩
abbrev cX6_hasPair : ByteArray := prog_8_method_7_code
def yX6_hasPair : MethodName := ⟨RX6, "hasPair", "(II)Z"⟩
abbrev cX6_pairsWith : ByteArray := prog_8_method_8_code
def yX6_pairsWith : MethodName := ⟨RX6, "pairsWith", "(I)I"⟩
abbrev cX6_speedOf : ByteArray := prog_8_method_9_code
def yX6_speedOf : MethodName := ⟨RX6, "speedOf", "(II)I"⟩
abbrev cX6_ringsAheadOf : ByteArray := prog_8_method_10_code
def yX6_ringsAheadOf : MethodName := ⟨RX6, "ringsAheadOf", "(II)I"⟩
abbrev cX6_bitFrom : ByteArray := prog_8_method_11_code
def yX6_bitFrom : MethodName := ⟨RX6, "bitFrom", "(III)I"⟩
abbrev cX6_bitAt : ByteArray := prog_8_method_12_code
def yX6_bitAt : MethodName := ⟨RX6, "bitAt", "(II)I"⟩
abbrev cX6_bitOf : ByteArray := prog_8_method_13_code
def yX6_bitOf : MethodName := ⟨RX6, "bitOf", "(I)I"⟩
abbrev cX6_marginOf : ByteArray := prog_8_method_14_code
def yX6_marginOf : MethodName := ⟨RX6, "marginOf", "(I)I"⟩
abbrev cX6_allPairs : ByteArray := prog_8_method_15_code
def yX6_allPairs : MethodName := ⟨RX6, "allPairs", "()I"⟩
abbrev cX6_steadyPairs : ByteArray := prog_8_method_16_code
def yX6_steadyPairs : MethodName := ⟨RX6, "steadyPairs", "()I"⟩
abbrev cX6_usedPairs : ByteArray := prog_8_method_17_code
def yX6_usedPairs : MethodName := ⟨RX6, "usedPairs", "()I"⟩
abbrev cX6_blockCount : ByteArray := prog_8_method_18_code
def yX6_blockCount : MethodName := ⟨RX6, "blockCount", "(I)I"⟩
abbrev cX6_blockOf : ByteArray := prog_8_method_19_code
def yX6_blockOf : MethodName := ⟨RX6, "blockOf", "(I)I"⟩
abbrev cX6_pairAt : ByteArray := prog_8_method_20_code
def yX6_pairAt : MethodName := ⟨RX6, "pairAt", "(II)I"⟩
abbrev cX6_canRead : ByteArray := prog_8_method_21_code
def yX6_canRead : MethodName := ⟨RX6, "canRead", "(III)Z"⟩
abbrev cX6_drawsOf : ByteArray := prog_8_method_22_code
def yX6_drawsOf : MethodName := ⟨RX6, "drawsOf", "(I)I"⟩
abbrev cX6_drawsWithOne : ByteArray := prog_8_method_23_code
def yX6_drawsWithOne : MethodName := ⟨RX6, "drawsWithOne", "(II)I"⟩
def RX7 : String := "SlipSecret$State"
def TX7 : u_T := fun k => match k with
  | 0 => ("SlipSecret$State", "slip", "LSlipSecret$Slip;", true)
  | 1 => ("SlipSecret$State", "kept", "LSlipSecret$Enrolment;", true)
  | _ => ("SlipSecret$State", "listener", "LSlipSecret$Listener;", true)
def tyX7 : Nat → FieldType := fun k => match k with
  | 0 => .object "SlipSecret$Slip"
  | 1 => .object "SlipSecret$Enrolment"
  | _ => .object "SlipSecret$Listener"
abbrev wsX70 : List Cond := u_ws RX7 TX7 3
theorem nmX7 : ∀ a, a < 3 → ∀ b, b < 3 → a ≠ b → (TX7 a).2.1 ≠ (TX7 b).2.1 := by decide +kernel
theorem tyX7_ok : ∀ k, k < 3 → parseFieldDescriptor (TX7 k).2.2.1 = some (tyX7 k) := by decide +kernel
abbrev cX7_init : ByteArray := prog_9_method_1_code
def yX7_init : MethodName := ⟨RX7, "<init>", "()V"⟩
abbrev cX7_copyFrom : ByteArray := prog_9_method_2_code
def yX7_copyFrom : MethodName := ⟨RX7, "copyFrom", "(LSlipSecret$State;)V"⟩
def RX8 : String := "SlipSecret$TextReader"
def TX8 : u_T := fun k => match k with
  | 0 => ("SlipSecret$TextReader", "draft", "LSlipSecret$Slip;", true)
  | 1 => ("SlipSecret$TextReader", "faultPlace", "I", false)
  | 2 => ("SlipSecret$TextReader", "faultKind", "I", false)
  | 3 => ("SlipSecret$TextReader", "tape", "[I", true)
  | 4 => ("SlipSecret$TextReader", "tapeLength", "I", false)
  | 5 => ("SlipSecret$TextReader", "length", "I", false)
  | 6 => ("SlipSecret$TextReader", "place", "I", false)
  | _ => ("SlipSecret$TextReader", "numberPlace", "I", false)
def tyX8 : Nat → FieldType := fun k => match k with
  | 0 => .object "SlipSecret$Slip"
  | 1 => .int
  | 2 => .int
  | 3 => .array .int
  | 4 => .int
  | 5 => .int
  | 6 => .int
  | _ => .int
abbrev wsX80 : List Cond := u_ws RX8 TX8 8
theorem nmX8 : ∀ a, a < 8 → ∀ b, b < 8 → a ≠ b → (TX8 a).2.1 ≠ (TX8 b).2.1 := by decide +kernel
theorem tyX8_ok : ∀ k, k < 8 → parseFieldDescriptor (TX8 k).2.2.1 = some (tyX8 k) := by decide +kernel
abbrev cX8_init : ByteArray := prog_10_method_1_code
def yX8_init : MethodName := ⟨RX8, "<init>", "()V"⟩
abbrev cX8_putOnTape : ByteArray := prog_10_method_2_code
def yX8_putOnTape : MethodName := ⟨RX8, "putOnTape", "(I)V"⟩
abbrev cX8_read : ByteArray := prog_10_method_3_code
def yX8_read : MethodName := ⟨RX8, "read", "(I)I"⟩
abbrev cX8_fail : ByteArray := prog_10_method_4_code
def yX8_fail : MethodName := ⟨RX8, "fail", "(II)V"⟩
abbrev cX8_skipBlanks : ByteArray := prog_10_method_5_code
def yX8_skipBlanks : MethodName := ⟨RX8, "skipBlanks", "()V"⟩
abbrev cX8_readLine : ByteArray := prog_10_method_6_code
def yX8_readLine : MethodName := ⟨RX8, "readLine", "()V"⟩
abbrev cX8_readEndOfLine : ByteArray := prog_10_method_7_code
def yX8_readEndOfLine : MethodName := ⟨RX8, "readEndOfLine", "()V"⟩
abbrev cX8_isWord : ByteArray := prog_10_method_8_code
def yX8_isWord : MethodName := ⟨RX8, "isWord", "(ILjava/lang/String;)Z"⟩
abbrev cX8_readRing : ByteArray := prog_10_method_9_code
def yX8_readRing : MethodName := ⟨RX8, "readRing", "(I)V"⟩
abbrev cX8_readPair : ByteArray := prog_10_method_10_code
def yX8_readPair : MethodName := ⟨RX8, "readPair", "(I)V"⟩
abbrev cX8_readRepeat : ByteArray := prog_10_method_11_code
def yX8_readRepeat : MethodName := ⟨RX8, "readRepeat", "()V"⟩
abbrev cX8_readNumber : ByteArray := prog_10_method_12_code
def yX8_readNumber : MethodName := ⟨RX8, "readNumber", "(II)I"⟩
abbrev cX8_readSigned : ByteArray := prog_10_method_13_code
def yX8_readSigned : MethodName := ⟨RX8, "readSigned", "(II)I"⟩
abbrev cX8_needNumber : ByteArray := prog_10_method_14_code
def yX8_needNumber : MethodName := ⟨RX8, "needNumber", "(III)V"⟩
abbrev cX8_readDigits : ByteArray := prog_10_method_15_code
def yX8_readDigits : MethodName := ⟨RX8, "readDigits", "()I"⟩
def RX9 : String := "SlipSecret$WaysCounter"
def TX9 : u_T := fun k => match k with
  | 0 => ("SlipSecret$WaysCounter", "linked", "[I", true)
  | 1 => ("SlipSecret$WaysCounter", "signs", "[I", true)
  | _ => ("SlipSecret$WaysCounter", "found", "[J", true)
def tyX9 : Nat → FieldType := fun k => match k with
  | 0 => .array .int
  | 1 => .array .int
  | _ => .array .long
abbrev wsX90 : List Cond := u_ws RX9 TX9 3
theorem nmX9 : ∀ a, a < 3 → ∀ b, b < 3 → a ≠ b → (TX9 a).2.1 ≠ (TX9 b).2.1 := by decide +kernel
theorem tyX9_ok : ∀ k, k < 3 → parseFieldDescriptor (TX9 k).2.2.1 = some (tyX9 k) := by decide +kernel
abbrev cX9_init : ByteArray := prog_11_method_1_code
def yX9_init : MethodName := ⟨RX9, "<init>", "()V"⟩
abbrev cX9_count : ByteArray := prog_11_method_2_code
def yX9_count : MethodName := ⟨RX9, "count", "(LSlipSecret$Slip;I)J"⟩
abbrev cX9_countOf : ByteArray := prog_11_method_3_code
def yX9_countOf : MethodName := ⟨RX9, "countOf", "(I)J"⟩
abbrev cX9_link : ByteArray := prog_11_method_4_code
def yX9_link : MethodName := ⟨RX9, "link", "(LSlipSecret$Slip;I)V"⟩
def RX10 : String := "SlipSecret"
def TX10 : u_T := fun k => match k with
  | 0 => ("SlipSecret", "now", "LSlipSecret$State;", false)
  | 1 => ("SlipSecret", "past", "[LSlipSecret$State;", true)
  | 2 => ("SlipSecret", "pastCount", "I", false)
  | 3 => ("SlipSecret", "pastTop", "I", false)
  | 4 => ("SlipSecret", "reader", "LSlipSecret$TextReader;", true)
  | 5 => ("SlipSecret", "refusedMissing", "I", false)
  | 6 => ("SlipSecret", "refusedArgument", "I", false)
  | 7 => ("SlipSecret", "refusedState", "I", false)
  | 8 => ("SlipSecret", "reading", "LSlipSecret$Reading;", true)
  | 9 => ("SlipSecret", "order", "LSlipSecret$Order;", true)
  | 10 => ("SlipSecret", "trial", "LSlipSecret$Order;", true)
  | 11 => ("SlipSecret", "imagined", "LSlipSecret$Listener;", true)
  | 12 => ("SlipSecret", "waysCounter", "LSlipSecret$WaysCounter;", true)
  | 13 => ("SlipSecret", "leftCounter", "LSlipSecret$LeftCounter;", true)
  | _ => ("SlipSecret", "margins", "[I", true)
def tyX10 : Nat → FieldType := fun k => match k with
  | 0 => .object "SlipSecret$State"
  | 1 => .array (.object "SlipSecret$State")
  | 2 => .int
  | 3 => .int
  | 4 => .object "SlipSecret$TextReader"
  | 5 => .int
  | 6 => .int
  | 7 => .int
  | 8 => .object "SlipSecret$Reading"
  | 9 => .object "SlipSecret$Order"
  | 10 => .object "SlipSecret$Order"
  | 11 => .object "SlipSecret$Listener"
  | 12 => .object "SlipSecret$WaysCounter"
  | 13 => .object "SlipSecret$LeftCounter"
  | _ => .array .int
abbrev wsX100 : List Cond := u_ws RX10 TX10 15
theorem nmX10 : ∀ a, a < 15 → ∀ b, b < 15 → a ≠ b → (TX10 a).2.1 ≠ (TX10 b).2.1 := by decide +kernel
theorem tyX10_ok : ∀ k, k < 15 → parseFieldDescriptor (TX10 k).2.2.1 = some (tyX10 k) := by decide +kernel
abbrev cX10_init : ByteArray := prog_1_method_1_code
def yX10_init : MethodName := ⟨RX10, "<init>", "()V"⟩
abbrev cX10_feed : ByteArray := prog_1_method_2_code
def yX10_feed : MethodName := ⟨RX10, "feed", "(IIIII)I"⟩
abbrev cX10_text : ByteArray := prog_1_method_3_code
def yX10_text : MethodName := ⟨RX10, "text", "(I)I"⟩
abbrev cX10_fault : ByteArray := prog_1_method_4_code
def yX10_fault : MethodName := ⟨RX10, "fault", "()I"⟩
abbrev cX10_set : ByteArray := prog_1_method_5_code
def yX10_set : MethodName := ⟨RX10, "set", "(II)I"⟩
abbrev cX10_wear : ByteArray := prog_1_method_6_code
def yX10_wear : MethodName := ⟨RX10, "wear", "(III)I"⟩
abbrev cX10_enrol : ByteArray := prog_1_method_7_code
def yX10_enrol : MethodName := ⟨RX10, "enrol", "(I)I"⟩
abbrev cX10_hear : ByteArray := prog_1_method_8_code
def yX10_hear : MethodName := ⟨RX10, "hear", "(I)I"⟩
abbrev cX10_train : ByteArray := prog_1_method_9_code
def yX10_train : MethodName := ⟨RX10, "train", "(I)I"⟩
abbrev cX10_turn : ByteArray := prog_1_method_10_code
def yX10_turn : MethodName := ⟨RX10, "turn", "(I)I"⟩
abbrev cX10_undo : ByteArray := prog_1_method_11_code
def yX10_undo : MethodName := ⟨RX10, "undo", "()I"⟩
abbrev cX10_told : ByteArray := prog_1_method_12_code
def yX10_told : MethodName := ⟨RX10, "told", "(I)I"⟩
abbrev cX10_ring : ByteArray := prog_1_method_13_code
def yX10_ring : MethodName := ⟨RX10, "ring", "(II)I"⟩
abbrev cX10_speed : ByteArray := prog_1_method_14_code
def yX10_speed : MethodName := ⟨RX10, "speed", "(II)I"⟩
abbrev cX10_rank : ByteArray := prog_1_method_15_code
def yX10_rank : MethodName := ⟨RX10, "rank", "(II)I"⟩
abbrev cX10_pair : ByteArray := prog_1_method_16_code
def yX10_pair : MethodName := ⟨RX10, "pair", "(II)I"⟩
abbrev cX10_bit : ByteArray := prog_1_method_17_code
def yX10_bit : MethodName := ⟨RX10, "bit", "(II)I"⟩
abbrev cX10_flips : ByteArray := prog_1_method_18_code
def yX10_flips : MethodName := ⟨RX10, "flips", "(II)I"⟩
abbrev cX10_odds : ByteArray := prog_1_method_19_code
def yX10_odds : MethodName := ⟨RX10, "odds", "(IIZ)I"⟩
abbrev cX10_block : ByteArray := prog_1_method_20_code
def yX10_block : MethodName := ⟨RX10, "block", "(II)I"⟩
abbrev cX10_recover : ByteArray := prog_1_method_21_code
def yX10_recover : MethodName := ⟨RX10, "recover", "(III)I"⟩
abbrev cX10_fails : ByteArray := prog_1_method_22_code
def yX10_fails : MethodName := ⟨RX10, "fails", "(IIII)I"⟩
abbrev cX10_safe : ByteArray := prog_1_method_23_code
def yX10_safe : MethodName := ⟨RX10, "safe", "(II)I"⟩
abbrev cX10_range : ByteArray := prog_1_method_24_code
def yX10_range : MethodName := ⟨RX10, "range", "(I)I"⟩
abbrev cX10_guardFor : ByteArray := prog_1_method_25_code
def yX10_guardFor : MethodName := ⟨RX10, "guardFor", "(I)I"⟩
abbrev cX10_ways : ByteArray := prog_1_method_26_code
def yX10_ways : MethodName := ⟨RX10, "ways", "(I)J"⟩
abbrev cX10_leak : ByteArray := prog_1_method_27_code
def yX10_leak : MethodName := ⟨RX10, "leak", "(I)I"⟩
abbrev cX10_success : ByteArray := prog_1_method_28_code
def yX10_success : MethodName := ⟨RX10, "success", "(I)I"⟩
abbrev cX10_curve : ByteArray := prog_1_method_29_code
def yX10_curve : MethodName := ⟨RX10, "curve", "(II)I"⟩
abbrev cX10_nextPair : ByteArray := prog_1_method_30_code
def yX10_nextPair : MethodName := ⟨RX10, "nextPair", "()I"⟩
abbrev cX10_needs : ByteArray := prog_1_method_31_code
def yX10_needs : MethodName := ⟨RX10, "needs", "()I"⟩
abbrev cX10_print : ByteArray := prog_1_method_32_code
def yX10_print : MethodName := ⟨RX10, "print", "()J"⟩
abbrev cX10_status : ByteArray := prog_1_method_33_code
def yX10_status : MethodName := ⟨RX10, "status", "(I)I"⟩
abbrev cX10_refuseArgument : ByteArray := prog_1_method_34_code
def yX10_refuseArgument : MethodName := ⟨RX10, "refuseArgument", "()V"⟩
abbrev cX10_refuseState : ByteArray := prog_1_method_35_code
def yX10_refuseState : MethodName := ⟨RX10, "refuseState", "()V"⟩
abbrev cX10_refuseMissing : ByteArray := prog_1_method_36_code
def yX10_refuseMissing : MethodName := ⟨RX10, "refuseMissing", "()V"⟩
abbrev cX10_needCounted : ByteArray := prog_1_method_37_code
def yX10_needCounted : MethodName := ⟨RX10, "needCounted", "(II)V"⟩
abbrev cX10_needBetween : ByteArray := prog_1_method_38_code
def yX10_needBetween : MethodName := ⟨RX10, "needBetween", "(III)V"⟩
abbrev cX10_needHeat : ByteArray := prog_1_method_39_code
def yX10_needHeat : MethodName := ⟨RX10, "needHeat", "(I)V"⟩
abbrev cX10_needEnrolled : ByteArray := prog_1_method_40_code
def yX10_needEnrolled : MethodName := ⟨RX10, "needEnrolled", "()V"⟩
abbrev cX10_needSetting : ByteArray := prog_1_method_41_code
def yX10_needSetting : MethodName := ⟨RX10, "needSetting", "(II)V"⟩
abbrev cX10_needTrait : ByteArray := prog_1_method_42_code
def yX10_needTrait : MethodName := ⟨RX10, "needTrait", "(II)V"⟩
abbrev cX10_remember : ByteArray := prog_1_method_43_code
def yX10_remember : MethodName := ⟨RX10, "remember", "()V"⟩
abbrev cX10_toldOfEnrolled : ByteArray := prog_1_method_44_code
def yX10_toldOfEnrolled : MethodName := ⟨RX10, "toldOfEnrolled", "(I)I"⟩
abbrev cX10_isSafeAt : ByteArray := prog_1_method_45_code
def yX10_isSafeAt : MethodName := ⟨RX10, "isSafeAt", "(I)Z"⟩
abbrev cX10_marginsFrom : ByteArray := prog_1_method_46_code
def yX10_marginsFrom : MethodName := ⟨RX10, "marginsFrom", "(I)I"⟩
abbrev cX10_sureOfEnrolled : ByteArray := prog_1_method_47_code
def yX10_sureOfEnrolled : MethodName := ⟨RX10, "sureOfEnrolled", "()I"⟩
abbrev cX10_epochsToLearn : ByteArray := prog_1_method_48_code
def yX10_epochsToLearn : MethodName := ⟨RX10, "epochsToLearn", "(LSlipSecret$Listener;)I"⟩
abbrev cX10_guessedRight : ByteArray := prog_1_method_49_code
def yX10_guessedRight : MethodName := ⟨RX10, "guessedRight", "(II)I"⟩
abbrev cX10_nextFor : ByteArray := prog_1_method_50_code
def yX10_nextFor : MethodName := ⟨RX10, "nextFor", "(LSlipSecret$Listener;)I"⟩
abbrev cX10_followersIf : ByteArray := prog_1_method_51_code
def yX10_followersIf : MethodName := ⟨RX10, "followersIf", "(II)I"⟩
abbrev cX10_bitIn : ByteArray := prog_1_method_52_code
def yX10_bitIn : MethodName := ⟨RX10, "bitIn", "(II)I"⟩
abbrev cX10_commonDivisor : ByteArray := prog_1_method_53_code
def yX10_commonDivisor : MethodName := ⟨RX10, "commonDivisor", "(II)I"⟩
def RX11 : String := "SlipSecretModel"
def TX11 : u_T := fun k => match k with
  | 0 => ("SlipSecretModel", "thrown", "I", false)
  | 1 => ("SlipSecretModel", "refused", "[I", true)
  | 2 => ("SlipSecretModel", "m", "[I", true)
  | 3 => ("SlipSecretModel", "read", "[I", true)
  | 4 => ("SlipSecretModel", "back", "[I", true)
  | 5 => ("SlipSecretModel", "one", "[I", true)
  | 6 => ("SlipSecretModel", "two", "[I", true)
  | 7 => ("SlipSecretModel", "readOne", "[I", true)
  | 8 => ("SlipSecretModel", "readTwo", "[I", true)
  | 9 => ("SlipSecretModel", "undos", "I", false)
  | 10 => ("SlipSecretModel", "rings", "I", false)
  | 11 => ("SlipSecretModel", "pairs", "I", false)
  | 12 => ("SlipSecretModel", "used", "[I", true)
  | 13 => ("SlipSecretModel", "place", "[I", true)
  | 14 => ("SlipSecretModel", "word", "[I", true)
  | 15 => ("SlipSecretModel", "tape", "[B", true)
  | 16 => ("SlipSecretModel", "text", "[B", true)
  | 17 => ("SlipSecretModel", "taped", "I", false)
  | 18 => ("SlipSecretModel", "size", "I", false)
  | 19 => ("SlipSecretModel", "next", "I", false)
  | 20 => ("SlipSecretModel", "from", "I", false)
  | 21 => ("SlipSecretModel", "fault", "I", false)
  | 22 => ("SlipSecretModel", "faultNow", "I", false)
  | 23 => ("SlipSecretModel", "faultAt", "I", false)
  | 24 => ("SlipSecretModel", "readRings", "I", false)
  | 25 => ("SlipSecretModel", "readPairs", "I", false)
  | 26 => ("SlipSecretModel", "begin", "I", false)
  | 27 => ("SlipSecretModel", "seeds", "I", false)
  | 28 => ("SlipSecretModel", "raw", "I", false)
  | 29 => ("SlipSecretModel", "corrected", "I", false)
  | 30 => ("SlipSecretModel", "secretRead", "I", false)
  | 31 => ("SlipSecretModel", "behind", "[I", true)
  | 32 => ("SlipSecretModel", "beside", "[I", true)
  | 33 => ("SlipSecretModel", "ways", "[J", true)
  | _ => ("SlipSecretModel", "aside", "[I", true)
def tyX11 : Nat → FieldType := fun k => match k with
  | 0 => .int
  | 1 => .array .int
  | 2 => .array .int
  | 3 => .array .int
  | 4 => .array .int
  | 5 => .array .int
  | 6 => .array .int
  | 7 => .array .int
  | 8 => .array .int
  | 9 => .int
  | 10 => .int
  | 11 => .int
  | 12 => .array .int
  | 13 => .array .int
  | 14 => .array .int
  | 15 => .array .byte
  | 16 => .array .byte
  | 17 => .int
  | 18 => .int
  | 19 => .int
  | 20 => .int
  | 21 => .int
  | 22 => .int
  | 23 => .int
  | 24 => .int
  | 25 => .int
  | 26 => .int
  | 27 => .int
  | 28 => .int
  | 29 => .int
  | 30 => .int
  | 31 => .array .int
  | 32 => .array .int
  | 33 => .array .long
  | _ => .array .int
abbrev wsX110 : List Cond := u_ws RX11 TX11 35
theorem nmX11 : ∀ a, a < 35 → ∀ b, b < 35 → a ≠ b → (TX11 a).2.1 ≠ (TX11 b).2.1 := by decide +kernel
theorem tyX11_ok : ∀ k, k < 35 → parseFieldDescriptor (TX11 k).2.2.1 = some (tyX11 k) := by decide +kernel
abbrev cX11_thrown : ByteArray := prog_13_method_1_code
def yX11_thrown : MethodName := ⟨RX11, "thrown", "()I"⟩
abbrev cX11_isFine : ByteArray := prog_13_method_2_code
def yX11_isFine : MethodName := ⟨RX11, "isFine", "(ZII)Z"⟩
abbrev cX11_within : ByteArray := prog_13_method_3_code
def yX11_within : MethodName := ⟨RX11, "within", "(III)Z"⟩
abbrev cX11_init : ByteArray := prog_13_method_4_code
def yX11_init : MethodName := ⟨RX11, "<init>", "()V"⟩
abbrev cX11_clears : ByteArray := prog_13_method_5_code
def yX11_clears : MethodName := ⟨RX11, "clears", "([I)V"⟩
abbrev cX11_speedOf : ByteArray := prog_13_method_6_code
def yX11_speedOf : MethodName := ⟨RX11, "speedOf", "(II)I"⟩
abbrev cX11_noiseOf : ByteArray := prog_13_method_7_code
def yX11_noiseOf : MethodName := ⟨RX11, "noiseOf", "(I)I"⟩
abbrev cX11_bitBy : ByteArray := prog_13_method_8_code
def yX11_bitBy : MethodName := ⟨RX11, "bitBy", "(IIII)I"⟩
abbrev cX11_bitAt : ByteArray := prog_13_method_9_code
def yX11_bitAt : MethodName := ⟨RX11, "bitAt", "(II)I"⟩
abbrev cX11_bitOf : ByteArray := prog_13_method_10_code
def yX11_bitOf : MethodName := ⟨RX11, "bitOf", "(I)I"⟩
abbrev cX11_apart : ByteArray := prog_13_method_11_code
def yX11_apart : MethodName := ⟨RX11, "apart", "(II)I"⟩
abbrev cX11_marginOf : ByteArray := prog_13_method_12_code
def yX11_marginOf : MethodName := ⟨RX11, "marginOf", "(I)I"⟩
abbrev cX11_isSteady : ByteArray := prog_13_method_13_code
def yX11_isSteady : MethodName := ⟨RX11, "isSteady", "(II)Z"⟩
abbrev cX11_usedBy : ByteArray := prog_13_method_14_code
def yX11_usedBy : MethodName := ⟨RX11, "usedBy", "(IZ)I"⟩
abbrev cX11_usedNow : ByteArray := prog_13_method_15_code
def yX11_usedNow : MethodName := ⟨RX11, "usedNow", "()I"⟩
abbrev cX11_wideBy : ByteArray := prog_13_method_16_code
def yX11_wideBy : MethodName := ⟨RX11, "wideBy", "(I)I"⟩
abbrev cX11_givesBy : ByteArray := prog_13_method_17_code
def yX11_givesBy : MethodName := ⟨RX11, "givesBy", "(I)I"⟩
abbrev cX11_blocksOf : ByteArray := prog_13_method_18_code
def yX11_blocksOf : MethodName := ⟨RX11, "blocksOf", "(II)I"⟩
abbrev cX11_blocks : ByteArray := prog_13_method_19_code
def yX11_blocks : MethodName := ⟨RX11, "blocks", "()I"⟩
abbrev cX11_words : ByteArray := prog_13_method_20_code
def yX11_words : MethodName := ⟨RX11, "words", "(II)V"⟩
abbrev cX11_decoded : ByteArray := prog_13_method_21_code
def yX11_decoded : MethodName := ⟨RX11, "decoded", "(I)I"⟩
abbrev cX11_checkOf : ByteArray := prog_13_method_22_code
def yX11_checkOf : MethodName := ⟨RX11, "checkOf", "(II)I"⟩
abbrev cX11_feed : ByteArray := prog_13_method_23_code
def yX11_feed : MethodName := ⟨RX11, "feed", "(IIIII)I"⟩
abbrev cX11_puts : ByteArray := prog_13_method_24_code
def yX11_puts : MethodName := ⟨RX11, "puts", "(I)V"⟩
abbrev cX11_wrong : ByteArray := prog_13_method_25_code
def yX11_wrong : MethodName := ⟨RX11, "wrong", "(II)V"⟩
abbrev cX11_sign : ByteArray := prog_13_method_26_code
def yX11_sign : MethodName := ⟨RX11, "sign", "()I"⟩
abbrev cX11_isSmall : ByteArray := prog_13_method_27_code
def yX11_isSmall : MethodName := ⟨RX11, "isSmall", "(I)Z"⟩
abbrev cX11_passes : ByteArray := prog_13_method_28_code
def yX11_passes : MethodName := ⟨RX11, "passes", "(Ljava/lang/String;)Z"⟩
abbrev cX11_number : ByteArray := prog_13_method_29_code
def yX11_number : MethodName := ⟨RX11, "number", "(IIZ)I"⟩
abbrev cX11_ringTold : ByteArray := prog_13_method_30_code
def yX11_ringTold : MethodName := ⟨RX11, "ringTold", "()V"⟩
abbrev cX11_pairTold : ByteArray := prog_13_method_31_code
def yX11_pairTold : MethodName := ⟨RX11, "pairTold", "()V"⟩
abbrev cX11_heatsTold : ByteArray := prog_13_method_32_code
def yX11_heatsTold : MethodName := ⟨RX11, "heatsTold", "()V"⟩
abbrev cX11_repeatTold : ByteArray := prog_13_method_33_code
def yX11_repeatTold : MethodName := ⟨RX11, "repeatTold", "()V"⟩
abbrev cX11_oneLine : ByteArray := prog_13_method_34_code
def yX11_oneLine : MethodName := ⟨RX11, "oneLine", "()V"⟩
abbrev cX11_text : ByteArray := prog_13_method_35_code
def yX11_text : MethodName := ⟨RX11, "text", "(I)I"⟩
abbrev cX11_fault : ByteArray := prog_13_method_36_code
def yX11_fault : MethodName := ⟨RX11, "fault", "()I"⟩
abbrev cX11_keeps : ByteArray := prog_13_method_37_code
def yX11_keeps : MethodName := ⟨RX11, "keeps", "()V"⟩
abbrev cX11_isRing : ByteArray := prog_13_method_38_code
def yX11_isRing : MethodName := ⟨RX11, "isRing", "(I)Z"⟩
abbrev cX11_isPair : ByteArray := prog_13_method_39_code
def yX11_isPair : MethodName := ⟨RX11, "isPair", "(I)Z"⟩
abbrev cX11_maySet : ByteArray := prog_13_method_40_code
def yX11_maySet : MethodName := ⟨RX11, "maySet", "(II)Z"⟩
abbrev cX11_set : ByteArray := prog_13_method_41_code
def yX11_set : MethodName := ⟨RX11, "set", "(II)I"⟩
abbrev cX11_wear : ByteArray := prog_13_method_42_code
def yX11_wear : MethodName := ⟨RX11, "wear", "(III)I"⟩
abbrev cX11_secretBits : ByteArray := prog_13_method_43_code
def yX11_secretBits : MethodName := ⟨RX11, "secretBits", "()I"⟩
abbrev cX11_enrol : ByteArray := prog_13_method_44_code
def yX11_enrol : MethodName := ⟨RX11, "enrol", "(I)I"⟩
abbrev cX11_heardAt : ByteArray := prog_13_method_45_code
def yX11_heardAt : MethodName := ⟨RX11, "heardAt", "(I)I"⟩
abbrev cX11_hear : ByteArray := prog_13_method_46_code
def yX11_hear : MethodName := ⟨RX11, "hear", "(I)I"⟩
abbrev cX11_guessOf : ByteArray := prog_13_method_47_code
def yX11_guessOf : MethodName := ⟨RX11, "guessOf", "(I)I"⟩
abbrev cX11_epoch : ByteArray := prog_13_method_48_code
def yX11_epoch : MethodName := ⟨RX11, "epoch", "()I"⟩
abbrev cX11_train : ByteArray := prog_13_method_49_code
def yX11_train : MethodName := ⟨RX11, "train", "(I)I"⟩
abbrev cX11_isKept : ByteArray := prog_13_method_50_code
def yX11_isKept : MethodName := ⟨RX11, "isKept", "()Z"⟩
abbrev cX11_turn : ByteArray := prog_13_method_51_code
def yX11_turn : MethodName := ⟨RX11, "turn", "(I)I"⟩
abbrev cX11_undo : ByteArray := prog_13_method_52_code
def yX11_undo : MethodName := ⟨RX11, "undo", "()I"⟩
abbrev cX11_steadyMany : ByteArray := prog_13_method_53_code
def yX11_steadyMany : MethodName := ⟨RX11, "steadyMany", "()I"⟩
abbrev cX11_keptBits : ByteArray := prog_13_method_54_code
def yX11_keptBits : MethodName := ⟨RX11, "keptBits", "()I"⟩
abbrev cX11_told : ByteArray := prog_13_method_55_code
def yX11_told : MethodName := ⟨RX11, "told", "(I)I"⟩
abbrev cX11_pairsWith : ByteArray := prog_13_method_56_code
def yX11_pairsWith : MethodName := ⟨RX11, "pairsWith", "(I)I"⟩
abbrev cX11_ring : ByteArray := prog_13_method_57_code
def yX11_ring : MethodName := ⟨RX11, "ring", "(II)I"⟩
abbrev cX11_isHeat : ByteArray := prog_13_method_58_code
def yX11_isHeat : MethodName := ⟨RX11, "isHeat", "(I)Z"⟩
abbrev cX11_speed : ByteArray := prog_13_method_59_code
def yX11_speed : MethodName := ⟨RX11, "speed", "(II)I"⟩
abbrev cX11_rank : ByteArray := prog_13_method_60_code
def yX11_rank : MethodName := ⟨RX11, "rank", "(II)I"⟩
abbrev cX11_blockOf : ByteArray := prog_13_method_61_code
def yX11_blockOf : MethodName := ⟨RX11, "blockOf", "(I)I"⟩
abbrev cX11_keptAt : ByteArray := prog_13_method_62_code
def yX11_keptAt : MethodName := ⟨RX11, "keptAt", "(I)I"⟩
abbrev cX11_pair : ByteArray := prog_13_method_63_code
def yX11_pair : MethodName := ⟨RX11, "pair", "(II)I"⟩
abbrev cX11_bit : ByteArray := prog_13_method_64_code
def yX11_bit : MethodName := ⟨RX11, "bit", "(II)I"⟩
abbrev cX11_flips : ByteArray := prog_13_method_65_code
def yX11_flips : MethodName := ⟨RX11, "flips", "(II)I"⟩
abbrev cX11_common : ByteArray := prog_13_method_66_code
def yX11_common : MethodName := ⟨RX11, "common", "(II)I"⟩
abbrev cX11_odds : ByteArray := prog_13_method_67_code
def yX11_odds : MethodName := ⟨RX11, "odds", "(IIZ)I"⟩
abbrev cX11_block : ByteArray := prog_13_method_68_code
def yX11_block : MethodName := ⟨RX11, "block", "(II)I"⟩
abbrev cX11_drawn : ByteArray := prog_13_method_69_code
def yX11_drawn : MethodName := ⟨RX11, "drawn", "(II)I"⟩
abbrev cX11_readsAll : ByteArray := prog_13_method_70_code
def yX11_readsAll : MethodName := ⟨RX11, "readsAll", "(I)V"⟩
abbrev cX11_isRefused : ByteArray := prog_13_method_71_code
def yX11_isRefused : MethodName := ⟨RX11, "isRefused", "()Z"⟩
abbrev cX11_recover : ByteArray := prog_13_method_72_code
def yX11_recover : MethodName := ⟨RX11, "recover", "(III)I"⟩
abbrev cX11_fails : ByteArray := prog_13_method_73_code
def yX11_fails : MethodName := ⟨RX11, "fails", "(IIII)I"⟩
abbrev cX11_isShaky : ByteArray := prog_13_method_74_code
def yX11_isShaky : MethodName := ⟨RX11, "isShaky", "(II)Z"⟩
abbrev cX11_isSafe : ByteArray := prog_13_method_75_code
def yX11_isSafe : MethodName := ⟨RX11, "isSafe", "(II)Z"⟩
abbrev cX11_keptBlocks : ByteArray := prog_13_method_76_code
def yX11_keptBlocks : MethodName := ⟨RX11, "keptBlocks", "()I"⟩
abbrev cX11_firstUnsafe : ByteArray := prog_13_method_77_code
def yX11_firstUnsafe : MethodName := ⟨RX11, "firstUnsafe", "(I)I"⟩
abbrev cX11_safe : ByteArray := prog_13_method_78_code
def yX11_safe : MethodName := ⟨RX11, "safe", "(II)I"⟩
abbrev cX11_range : ByteArray := prog_13_method_79_code
def yX11_range : MethodName := ⟨RX11, "range", "(I)I"⟩
abbrev cX11_guardFor : ByteArray := prog_13_method_80_code
def yX11_guardFor : MethodName := ⟨RX11, "guardFor", "(I)I"⟩
abbrev cX11_noOrder : ByteArray := prog_13_method_81_code
def yX11_noOrder : MethodName := ⟨RX11, "noOrder", "()V"⟩
abbrev cX11_puts_ : ByteArray := prog_13_method_82_code
def yX11_puts_ : MethodName := ⟨RX11, "puts", "(II)V"⟩
abbrev cX11_closes : ByteArray := prog_13_method_83_code
def yX11_closes : MethodName := ⟨RX11, "closes", "()V"⟩
abbrev cX11_isRound : ByteArray := prog_13_method_84_code
def yX11_isRound : MethodName := ⟨RX11, "isRound", "()Z"⟩
abbrev cX11_putsHeard : ByteArray := prog_13_method_85_code
def yX11_putsHeard : MethodName := ⟨RX11, "putsHeard", "()V"⟩
abbrev cX11_follows : ByteArray := prog_13_method_86_code
def yX11_follows : MethodName := ⟨RX11, "follows", "(I)I"⟩
abbrev cX11_laysHeard : ByteArray := prog_13_method_87_code
def yX11_laysHeard : MethodName := ⟨RX11, "laysHeard", "()V"⟩
abbrev cX11_followsNow : ByteArray := prog_13_method_88_code
def yX11_followsNow : MethodName := ⟨RX11, "followsNow", "(I)I"⟩
abbrev cX11_followMany : ByteArray := prog_13_method_89_code
def yX11_followMany : MethodName := ⟨RX11, "followMany", "()I"⟩
abbrev cX11_waysOf : ByteArray := prog_13_method_90_code
def yX11_waysOf : MethodName := ⟨RX11, "waysOf", "()J"⟩
abbrev cX11_isApart : ByteArray := prog_13_method_91_code
def yX11_isApart : MethodName := ⟨RX11, "isApart", "(I)Z"⟩
abbrev cX11_many : ByteArray := prog_13_method_92_code
def yX11_many : MethodName := ⟨RX11, "many", "(I)I"⟩
abbrev cX11_compares : ByteArray := prog_13_method_93_code
def yX11_compares : MethodName := ⟨RX11, "compares", "(I)V"⟩
abbrev cX11_waysBy : ByteArray := prog_13_method_94_code
def yX11_waysBy : MethodName := ⟨RX11, "waysBy", "(I)J"⟩
abbrev cX11_ways : ByteArray := prog_13_method_95_code
def yX11_ways : MethodName := ⟨RX11, "ways", "(I)J"⟩
abbrev cX11_sure : ByteArray := prog_13_method_96_code
def yX11_sure : MethodName := ⟨RX11, "sure", "()I"⟩
abbrev cX11_leaks : ByteArray := prog_13_method_97_code
def yX11_leaks : MethodName := ⟨RX11, "leaks", "()I"⟩
abbrev cX11_canBe : ByteArray := prog_13_method_98_code
def yX11_canBe : MethodName := ⟨RX11, "canBe", "(IZ)Z"⟩
abbrev cX11_left : ByteArray := prog_13_method_99_code
def yX11_left : MethodName := ⟨RX11, "left", "(Z)I"⟩
abbrev cX11_leak : ByteArray := prog_13_method_100_code
def yX11_leak : MethodName := ⟨RX11, "leak", "(I)I"⟩
abbrev cX11_success : ByteArray := prog_13_method_101_code
def yX11_success : MethodName := ⟨RX11, "success", "(I)I"⟩
abbrev cX11_curve : ByteArray := prog_13_method_102_code
def yX11_curve : MethodName := ⟨RX11, "curve", "(II)I"⟩
abbrev cX11_wouldFollow : ByteArray := prog_13_method_103_code
def yX11_wouldFollow : MethodName := ⟨RX11, "wouldFollow", "(II)I"⟩
abbrev cX11_nextNow : ByteArray := prog_13_method_104_code
def yX11_nextNow : MethodName := ⟨RX11, "nextNow", "()I"⟩
abbrev cX11_nextPair : ByteArray := prog_13_method_105_code
def yX11_nextPair : MethodName := ⟨RX11, "nextPair", "()I"⟩
abbrev cX11_needs : ByteArray := prog_13_method_106_code
def yX11_needs : MethodName := ⟨RX11, "needs", "()I"⟩
abbrev cX11_print : ByteArray := prog_13_method_107_code
def yX11_print : MethodName := ⟨RX11, "print", "()J"⟩
abbrev cX11_status : ByteArray := prog_13_method_108_code
def yX11_status : MethodName := ⟨RX11, "status", "(I)I"⟩
def RL : String := "SlipSecretLaw"
abbrev cL_text : ByteArray := method_3_code
def yL_text : MethodName := ⟨RL, "text", "(LSlipSecret;I[J)I"⟩
abbrev cL_set : ByteArray := method_4_code
def yL_set : MethodName := ⟨RL, "set", "(LSlipSecret;II[J)I"⟩
abbrev cL_wear : ByteArray := method_5_code
def yL_wear : MethodName := ⟨RL, "wear", "(LSlipSecret;III[J)I"⟩
abbrev cL_enrol : ByteArray := method_6_code
def yL_enrol : MethodName := ⟨RL, "enrol", "(LSlipSecret;I[J)I"⟩
abbrev cL_hear : ByteArray := method_7_code
def yL_hear : MethodName := ⟨RL, "hear", "(LSlipSecret;I[J)I"⟩
abbrev cL_train : ByteArray := method_8_code
def yL_train : MethodName := ⟨RL, "train", "(LSlipSecret;I[J)I"⟩
abbrev cL_turn : ByteArray := method_9_code
def yL_turn : MethodName := ⟨RL, "turn", "(LSlipSecret;I[J)I"⟩
abbrev cL_told : ByteArray := method_10_code
def yL_told : MethodName := ⟨RL, "told", "(LSlipSecret;I[J)I"⟩
abbrev cL_ring : ByteArray := method_11_code
def yL_ring : MethodName := ⟨RL, "ring", "(LSlipSecret;II[J)I"⟩
abbrev cL_speed : ByteArray := method_12_code
def yL_speed : MethodName := ⟨RL, "speed", "(LSlipSecret;II[J)I"⟩
abbrev cL_rank : ByteArray := method_13_code
def yL_rank : MethodName := ⟨RL, "rank", "(LSlipSecret;II[J)I"⟩
abbrev cL_pair : ByteArray := method_14_code
def yL_pair : MethodName := ⟨RL, "pair", "(LSlipSecret;II[J)I"⟩
abbrev cL_bit : ByteArray := method_15_code
def yL_bit : MethodName := ⟨RL, "bit", "(LSlipSecret;II[J)I"⟩
abbrev cL_flips : ByteArray := method_16_code
def yL_flips : MethodName := ⟨RL, "flips", "(LSlipSecret;II[J)I"⟩
abbrev cL_odds : ByteArray := method_17_code
def yL_odds : MethodName := ⟨RL, "odds", "(LSlipSecret;IIZ[J)I"⟩
abbrev cL_block : ByteArray := method_18_code
def yL_block : MethodName := ⟨RL, "block", "(LSlipSecret;II[J)I"⟩
abbrev cL_recover : ByteArray := method_19_code
def yL_recover : MethodName := ⟨RL, "recover", "(LSlipSecret;III[J)I"⟩
abbrev cL_fails : ByteArray := method_20_code
def yL_fails : MethodName := ⟨RL, "fails", "(LSlipSecret;IIII[J)I"⟩
abbrev cL_safe : ByteArray := method_21_code
def yL_safe : MethodName := ⟨RL, "safe", "(LSlipSecret;II[J)I"⟩
abbrev cL_range : ByteArray := method_22_code
def yL_range : MethodName := ⟨RL, "range", "(LSlipSecret;I[J)I"⟩
abbrev cL_guardFor : ByteArray := method_23_code
def yL_guardFor : MethodName := ⟨RL, "guardFor", "(LSlipSecret;I[J)I"⟩
abbrev cL_ways : ByteArray := method_24_code
def yL_ways : MethodName := ⟨RL, "ways", "(LSlipSecret;I[J)I"⟩
abbrev cL_leak : ByteArray := method_25_code
def yL_leak : MethodName := ⟨RL, "leak", "(LSlipSecret;I[J)I"⟩
abbrev cL_success : ByteArray := method_26_code
def yL_success : MethodName := ⟨RL, "success", "(LSlipSecret;I[J)I"⟩
abbrev cL_curve : ByteArray := method_27_code
def yL_curve : MethodName := ⟨RL, "curve", "(LSlipSecret;II[J)I"⟩
abbrev cL_law : ByteArray := code
def yL_law : MethodName := ⟨RL, "law", "([I)Z"⟩
abbrev vwCl : List vw_C := [(RX1, TX1, 9), (RX2, TX2, 1), (RX3, TX3, 5), (RX4, TX4, 1), (RX5, TX5, 4), (RX6, TX6, 8), (RX7, TX7, 3), (RX8, TX8, 8), (RX9, TX9, 3), (RX10, TX10, 15), (RX11, TX11, 35)]
end
section
/-! The own machine: values zV (int, long, reference with its kind), heaps zH (ints, longs, references, by address and slot), transformers zT. -/
abbrev zV : Type := Int32 ⊕ (Int64 ⊕ ((Nat × Nat) × Nat))
abbrev vI (x : Int32) : zV := .inl x
abbrev vL (x : Int64) : zV := .inr (.inl x)
abbrev vR (t n a : Nat) : zV := .inr (.inr ((t, n), a))
def zv : zV → Value
  | .inl x => .int x
  | .inr (.inl x) => .long x
  | .inr (.inr q) => .ref q.2
abbrev zH : Type := (Nat → Nat → Int32) × ((Nat → Nat → Int64) × (Nat → Nat → Nat))
abbrev zL : Type := List (Option zV)
abbrev zT : Type := zL → List zV → zH → Prop
/-- class ids and slots; array classes; kinds by address; where the old heap ends; the script -/
abbrev zY : Type := va_G × ((Nat → ClassId) × ((Nat → Nat × Nat) × (Nat × (Nat → Int32))))
abbrev yD (Y : zY) : va_G := Y.1
abbrev yC (Y : zY) : Nat → ClassId := Y.2.1
abbrev yK (Y : zY) : Nat → Nat × Nat := Y.2.2.1
abbrev yO (Y : zY) : Nat := Y.2.2.2.1
abbrev yX (Y : zY) : Nat → Int32 := Y.2.2.2.2
/-- the machine's context of a walk -/
abbrev zX := Program × Launch × Env × Room × State × MethodId × Array Value × List Frame × Method × Code × (State → Prop)
abbrev xR (X : zX) : Room := X.2.2.2.1
abbrev xS (X : zX) : State := X.2.2.2.2.1
abbrev xM (X : zX) : MethodId := X.2.2.2.2.2.1
abbrev xA (X : zX) : Array Value := X.2.2.2.2.2.2.1
abbrev xB (X : zX) : List Frame := X.2.2.2.2.2.2.2.1
abbrev xH (X : zX) : Method := X.2.2.2.2.2.2.2.2.1
abbrev xC (X : zX) : Code := X.2.2.2.2.2.2.2.2.2.1
abbrev xQ (X : zX) : State → Prop := X.2.2.2.2.2.2.2.2.2.2
def zW (X : zX) (H : Heap) (locs : List Loc) (u v : Nat) (g : JFrame) : Prop := W X.1 X.2.1 X.2.2.1 (xR X) (xS X) (xM X) (xA X) (xB X) (xH X) (xC X) H locs u v (xQ X) g
/-- fields: 0 an int; 1 a reference at a fixed distance, of a kind; 2 a reference that changes, of a kind -/
def zF (ci k : Nat) : Nat × (Nat × (Nat × Nat)) := match ci, k with
  | 0, 1 => (1, 1, 1, 28)
  | 1, 0 => (1, 1, 5, 17)
  | 2, 1 => (1, 1, 1, 28)
  | 2, 4 => (1, 2, 1, 10)
  | 3, 0 => (1, 1, 1, 10)
  | 5, 1 => (1, 1, 1, 10)
  | 5, 2 => (1, 2, 1, 10)
  | 5, 3 => (1, 3, 1, 10)
  | 5, 5 => (1, 4, 1, 28)
  | 5, 6 => (1, 5, 1, 28)
  | 5, 7 => (1, 6, 1, 5)
  | 6, 0 => (1, 1, 15, 0)
  | 6, 1 => (1, 8, 10, 0)
  | 6, 2 => (1, 10, 12, 0)
  | 7, 0 => (1, 1, 15, 0)
  | 7, 3 => (1, 8, 1, 400)
  | 8, 0 => (1, 1, 1, 10)
  | 8, 1 => (1, 2, 1, 1024)
  | 8, 2 => (1, 3, 3, 1024)
  | 9, 0 => (2, 0, 16, 0)
  | 9, 1 => (1, 14, 4, 12)
  | 9, 4 => (1, 171, 17, 0)
  | 9, 8 => (1, 180, 14, 0)
  | 9, 9 => (1, 181, 13, 0)
  | 9, 10 => (1, 183, 13, 0)
  | 9, 11 => (1, 185, 12, 0)
  | 9, 12 => (1, 188, 18, 0)
  | 9, 13 => (1, 192, 11, 0)
  | 9, 14 => (1, 228, 1, 28)
  | 10, 1 => (1, 1, 1, 3)
  | 10, 2 => (1, 2, 1, 218)
  | 10, 3 => (1, 3, 1, 218)
  | 10, 4 => (1, 4, 1, 2616)
  | 10, 5 => (1, 5, 1, 28)
  | 10, 6 => (1, 6, 1, 28)
  | 10, 7 => (1, 7, 1, 28)
  | 10, 8 => (1, 8, 1, 28)
  | 10, 12 => (1, 9, 1, 28)
  | 10, 13 => (1, 10, 1, 7)
  | 10, 14 => (1, 11, 1, 7)
  | 10, 15 => (1, 12, 2, 400)
  | 10, 16 => (1, 13, 2, 400)
  | 10, 31 => (1, 14, 1, 10)
  | 10, 32 => (1, 15, 1, 10)
  | 10, 33 => (1, 16, 3, 1024)
  | 10, 34 => (1, 17, 1, 218)
  | _, _ => (0, 0, 0, 0)
def zfv (ci k a : Nat) (h : zH) : Value := match (zF ci k).1 with
  | 0 => .int (h.1 a k)
  | 1 => .ref (a + (zF ci k).2.1)
  | _ => .ref (h.2.2 a k)
/-- tags: 1 int, 2 byte, 3 long arrays, 4 of State, 5 of Order; 7 a String constant, 8 a constant array, 9 the script; 10 + class an object -/
def zRa (Y : zY) (h : zH) (H : Heap) (a : Nat) : Prop :=
  (∀ n : Nat, yK Y a = (1, n) → H[a]? = some (vp_cell (yC Y 1) (n, .inl (h.1 a)))) ∧
  (∀ n : Nat, yK Y a = (2, n) → H[a]? = some (vp_cell (yC Y 2) (n, .inl (h.1 a)))) ∧
  (∀ n : Nat, yK Y a = (3, n) → H[a]? = some (vp_cell (yC Y 3) (n, .inr (.inl (h.2.1 a))))) ∧
  (∀ n : Nat, yK Y a = (4, n) → H[a]? = some (vp_cell (yC Y 4) (n, .inr (.inr (.inr (.inr (fun j => some (h.2.2 a j))))))) ∧ ∀ j : Nat, j < n → yK Y (h.2.2 a j) = (16, 0)) ∧
  (∀ n : Nat, yK Y a = (5, n) → H[a]? = some (vp_cell (yC Y 5) (n, .inr (.inr (.inr (.inr (fun j => some (h.2.2 a j))))))) ∧ ∀ j : Nat, j < n → yK Y (h.2.2 a j) = (13, 0)) ∧
  (∀ ci n : Nat, yK Y a = (10 + ci, n) → ∃ r : vw_C, vwCl[ci]? = some r ∧ t_OB a ((yD Y).1 ci) r.2.2 ((yD Y).2 ci) H (fun k => zfv ci k a h) ∧ ∀ k : Nat, (zF ci k).1 = 2 → yK Y (h.2.2 a k) = (zF ci k).2.2)
def zR (Y : zY) (h : zH) (H : Heap) : Prop := ∀ a : Nat, zRa Y h H a
theorem zRa_congr {Y : zY} {h h' : zH} {H H1 : Heap} {a : Nat} (hR : zRa Y h H a) (ho : H1[a]? = H[a]?) (h1 : h'.1 a = h.1 a) (h2 : h'.2.1 a = h.2.1 a) (h3 : h'.2.2 a = h.2.2 a) : zRa Y h' H1 a := by
  obtain ⟨r1, r2, r3, r4, r5, r6⟩ := hR
  refine ⟨fun n hn => ?_, fun n hn => ?_, fun n hn => ?_, fun n hn => ?_, fun n hn => ?_, fun ci n hn => ?_⟩
  · rw [ho, h1]; exact r1 n hn
  · rw [ho, h1]; exact r2 n hn
  · rw [ho, h2]; exact r3 n hn
  · rw [ho, h3]; exact r4 n hn
  · rw [ho, h3]; exact r5 n hn
  · obtain ⟨r, q1, q2, q3⟩ := r6 ci n hn
    refine ⟨r, q1, (q2.kept ho).to (fun k _ => ?_), fun k hk => by rw [h3]; exact q3 k hk⟩
    simp only [zfv, h1, h3]
theorem zR_upd {Y : zY} {h h' : zH} {H H1 : Heap} (a : Nat) (hR : zR Y h H) (ho : ∀ q : Nat, q ≠ a → H1[q]? = H[q]?) (h1 : ∀ q : Nat, q ≠ a → h'.1 q = h.1 q) (h2 : ∀ q : Nat, q ≠ a → h'.2.1 q = h.2.1 q) (h3 : ∀ q : Nat, q ≠ a → h'.2.2 q = h.2.2 q) (ha : zRa Y h' H1 a) : zR Y h' H1 := by
  intro q
  by_cases hq : q = a
  · rw [hq]; exact ha
  · exact zRa_congr (hR q) (ho q hq) (h1 q hq) (h2 q hq) (h3 q hq)
def zwr (t : Nat) : Prop := t ≠ 0 ∧ t ≠ 7 ∧ t ≠ 8 ∧ t ≠ 9
def zWF (Y : zY) : Prop := (∀ a ci n k : Nat, yK Y a = (10 + ci, n) → (zF ci k).1 = 1 → yK Y (a + (zF ci k).2.1) = (zF ci k).2.2) ∧ (∀ a : Nat, zwr (yK Y a).1 → yO Y ≤ a) ∧ ∀ a : Nat, (yK Y a).2 < 2 ^ 31
def zA (Y : zY) (sz : Nat) : Nat → Prop := fun q => zwr (yK Y q).1 ∨ sz ≤ q
def zK (Y : zY) (U : State) : Prop := va_K (yD Y) vwCl [(yC Y 1, .int), (yC Y 2, .byte), (yC Y 3, .long), (yC Y 4, .object RX7), (yC Y 5, .object RX4)] U
def zok (Y : zY) : zV → Prop
  | .inr (.inr q) => yK Y q.2 = q.1
  | _ => True

def zNest : List (String × Nat × MethodName × String) := [("SlipSecret", 9, ⟨"SlipSecret$State", "<init>", "()V"⟩, "SlipSecret"), ("SlipSecret$State", 18, ⟨"SlipSecret$Enrolment", "<init>", "()V"⟩, "SlipSecret"), ("SlipSecret$State", 25, ⟨"SlipSecret$Listener", "<init>", "()V"⟩, "SlipSecret"), ("SlipSecret", 22, ⟨"SlipSecret$TextReader", "<init>", "()V"⟩, "SlipSecret"), ("SlipSecret", 29, ⟨"SlipSecret$Reading", "<init>", "()V"⟩, "SlipSecret"), ("SlipSecret", 36, ⟨"SlipSecret$Order", "<init>", "()V"⟩, "SlipSecret"), ("SlipSecret", 46, ⟨"SlipSecret$Listener", "<init>", "()V"⟩, "SlipSecret"), ("SlipSecret", 53, ⟨"SlipSecret$WaysCounter", "<init>", "()V"⟩, "SlipSecret"), ("SlipSecret$LeftCounter", 17, ⟨"SlipSecret$Order", "<init>", "()V"⟩, "SlipSecret"), ("SlipSecret$Listener", 34, ⟨"SlipSecret", "bitIn", "(II)I"⟩, "SlipSecret"), ("SlipSecret$Order", 21, ⟨"SlipSecret", "bitIn", "(II)I"⟩, "SlipSecret"), ("SlipSecret$Code", 30, ⟨"SlipSecret", "bitIn", "(II)I"⟩, "SlipSecret"), ("SlipSecret$Enrolment", 67, ⟨"SlipSecret", "bitIn", "(II)I"⟩, "SlipSecret"), ("SlipSecret$Slip", 86, ⟨"SlipSecret", "bitIn", "(II)I"⟩, "SlipSecret"), ("SlipSecret$WaysCounter", 39, ⟨"SlipSecret", "bitIn", "(II)I"⟩, "SlipSecret"), ("SlipSecret$LeftCounter", 78, ⟨"SlipSecret", "bitIn", "(II)I"⟩, "SlipSecret")]
def zExc : List String := ["java/lang/IllegalArgumentException", "java/util/NoSuchElementException", "java/lang/IllegalStateException"]
def zNoc : List (String × String) := [("java/lang/IllegalArgumentException", "java/util/NoSuchElementException"), ("java/lang/IllegalArgumentException", "java/lang/IllegalStateException"), ("java/lang/IllegalStateException", "java/util/NoSuchElementException"), ("java/lang/IllegalStateException", "java/lang/IllegalArgumentException"), ("java/util/NoSuchElementException", "java/lang/IllegalArgumentException"), ("java/util/NoSuchElementException", "java/lang/IllegalStateException")]
def zStr : List (String × Nat × String × Nat) := [("SlipSecret", 362, "an argument is out of its range", 0), ("SlipSecret$TextReader", 56, "ring", 1), ("SlipSecret$TextReader", 66, "pai\x72", 2), ("SlipSecret$TextReader", 71, "guard", 3), ("SlipSecret$TextReader", 79, "heats", 4), ("SlipSecret$TextReader", 84, "all", 5), ("SlipSecret$TextReader", 86, "repeat", 6), ("SlipSecret$TextReader", 91, "hamming", 7), ("SlipSecret", 374, "there is none of this numbe\x72", 8), ("SlipSecret", 369, "nothing is there to do it with", 9), ("SlipSecretModel", 187, "ring", 1), ("SlipSecretModel", 196, "pai\x72", 2), ("SlipSecretModel", 201, "guard", 3), ("SlipSecretModel", 203, "heats", 4), ("SlipSecretModel", 208, "all", 5), ("SlipSecretModel", 210, "repeat", 6), ("SlipSecretModel", 215, "hamming", 7)]
def zLen : List Nat := [31, 4, 4, 5, 5, 3, 6, 7, 28, 30]
def zByt : List (List Int32) := [[97, 110, 32, 97, 114, 103, 117, 109, 101, 110, 116, 32, 105, 115, 32, 111, 117, 116, 32, 111, 102, 32, 105, 116, 115, 32, 114, 97, 110, 103, 101], [114, 105, 110, 103], [112, 97, 105, 114], [103, 117, 97, 114, 100], [104, 101, 97, 116, 115], [97, 108, 108], [114, 101, 112, 101, 97, 116], [104, 97, 109, 109, 105, 110, 103], [116, 104, 101, 114, 101, 32, 105, 115, 32, 110, 111, 110, 101, 32, 111, 102, 32, 116, 104, 105, 115, 32, 110, 117, 109, 98, 101, 114], [110, 111, 116, 104, 105, 110, 103, 32, 105, 115, 32, 116, 104, 101, 114, 101, 32, 116, 111, 32, 100, 111, 32, 105, 116, 32, 119, 105, 116, 104]]
def zNT : Nat := 10
def zCc (n j : Nat) : Int32 := if n = 0 then ([11, 13, 1, 14, 2, 4, 8] : List Int32).getD j 0 else ([85, 102, 120] : List Int32).getD j 0
def zCn (n : Nat) : Nat := if n = 0 then 7 else 3
def zCf (n : Nat) : String := if n = 0 then "HAMMING_PARTS" else "HAMMING_SUMS"
/-- what the start gives of constants: links in the nest, exceptions' casts, String constants, constant arrays, the throwables' statics, the script -/
def zS (Y : zY) (U : State) (H : Heap) : Prop :=
  (∀ q ∈ zNest, va_Nw (.methodLinkNest q.1 q.2.1 q.2.2.1 q.2.2.2) U) ∧
  (∀ c ∈ zExc, va_Nw (.castable c c) U) ∧
  (∀ q ∈ zNoc, va_Nc q.1 q.2 U) ∧
  (∃ adK adV : Nat → Nat, vk_S zNT zLen zByt adK adV (fun q => yO Y ≤ q) U H ∧ (∀ q ∈ zStr, vk_R q.1 q.2.1 q.2.2.1 (adK q.2.2.2) U ∧ yK Y (adK q.2.2.2) = (7, q.2.2.2)) ∧ ∀ a n : Nat, yK Y a = (7, n) → n < zNT ∧ a = adK n) ∧
  ((∀ n : Nat, n < 2 → ∃ t : Nat, yK Y t = (8, n) ∧ va_Z RX0 (zCf n) "[I" (.ref t) (fun q => yO Y ≤ q) U H) ∧ ∀ t n : Nat, yK Y t = (8, n) → va_T .int t (zCn n) (fun j => .int (zCc n j)) (fun q => yO Y ≤ q) U H) ∧
  va_Z "java/lang/String" "COMPACT_STRINGS" "Z" (.int 1) (fun q => yO Y ≤ q) U H ∧
  (vx_Zq Bundle.tN "UNASSIGNED_STACK" Bundle.steD (fun q => yO Y ≤ q) U H ∧ vx_Zq Bundle.tN "SUPPRESSED_SENTINEL" Bundle.listD (fun q => yO Y ≤ q) U H) ∧
  (∀ a n : Nat, yK Y a = (9, n) → va_X a n (yX Y) U H ∧ a < yO Y)
theorem zS_moved {Y : zY} {s U : State} {H H1 : Heap} (hW : s.WarmedH U.vm) (hz : yO Y ≤ H.size) (hq : ∀ a : Nat, a < yO Y → H1[a]? = H[a]?) (h : zS Y s H) : zS Y U H1 := by
  obtain ⟨h1, h2, h3, ⟨adK, adV, h4, h5, h6⟩, ⟨h7, h8⟩, h9, ⟨h10, h11⟩, h12⟩ := h
  have hvm : s.vm.Alike U.vm := hW.alike
  have hk : ∀ a : Nat, a < H.size → ¬ (fun q => yO Y ≤ q) a → H1[a]? = H[a]? := fun a _ h => hq a (Nat.not_le.mp h)
  refine ⟨fun q hq => va_Nw.warmM hW (h1 q hq), fun c hc => va_Nw.warmC hW (h2 c hc), fun q hq => (h3 q hq).moved hvm, ⟨adK, adV, (h4.moved hvm).kept hk, fun q hq => ⟨(h5 q hq).1.warm hW, (h5 q hq).2⟩, h6⟩,
    ⟨fun n hn => ?_, fun t n ht => ((h8 t n ht).moved hvm).kept hk⟩, (h9.moved hvm).kept hk, ⟨(h10.moved hvm).kept hk, (h11.moved hvm).kept hk⟩, fun a n ha => ⟨((h12 a n ha).1.moved hvm).kept (hq a (h12 a n ha).2), (h12 a n ha).2⟩⟩
  obtain ⟨t, ht, hZ⟩ := h7 n hn
  exact ⟨t, ht, (hZ.moved hvm).kept hk⟩
/-- all good words of the tables -/
def zTW : List Cond := lw_tbl.filter goodWord
/-- what holds through a walk -/
def zOK (X : zX) (Y : zY) (cc : ByteArray) (own : String) : Prop :=
  X.1.tables.exec = Jvm.exec ∧ (xC X).code = cc ∧ (xS X).vm.findClass own = some (xM X).cls ∧ (∀ w ∈ zTW, w.before (xA X) (xS X) = true) ∧ zK Y (xS X) ∧ zS Y (xS X) (xS X).heap ∧ zWF Y ∧ yO Y ≤ (xS X).heap.size
/-! locals -/
def zlv : Nat → zL → List (Nat × Value)
  | _, [] => []
  | i, none :: l => zlv (i + 1) l
  | i, some v :: l => (i, zv v) :: zlv (i + 1) l
def zlg : zL → Nat → Option zV
  | [], _ => none
  | v :: _, 0 => v
  | _ :: l, n + 1 => zlg l n
def zls : zL → Nat → Option zV → (zL → Prop) → Prop
  | [], _, _, _ => False
  | _ :: l, 0, v, k => k (v :: l)
  | some (.inr (.inl _)) :: l, 1, v, k => zls l 0 v (fun l' => k (none :: l'))
  | a :: l, n + 1, v, k => zls l n v (fun l' => k (a :: l'))
theorem zlv_mem : ∀ (l : zL) (i : Nat) (q : Nat × Value), q ∈ zlv i l ↔ ∃ (j : Nat) (v : zV), l[j]? = some (some v) ∧ q = (i + j, zv v)
  | [], i, q => by simp [zlv]
  | none :: l, i, q => by
    rw [zlv, zlv_mem l (i + 1) q]
    constructor
    · rintro ⟨j, v, h1, h2⟩
      exact ⟨j + 1, v, by simpa using h1, by rw [h2]; congr 1; omega⟩
    · rintro ⟨j, v, h1, h2⟩
      cases j with
      | zero => simp at h1
      | succ j => exact ⟨j, v, by simpa using h1, by rw [h2]; congr 1; omega⟩
  | some w :: l, i, q => by
    rw [zlv, List.mem_cons, zlv_mem l (i + 1) q]
    constructor
    · rintro (h | ⟨j, v, h1, h2⟩)
      · exact ⟨0, w, by simp, by simpa using h⟩
      · exact ⟨j + 1, v, by simpa using h1, by rw [h2]; congr 1; omega⟩
    · rintro ⟨j, v, h1, h2⟩
      cases j with
      | zero =>
        simp at h1
        subst h1
        exact Or.inl (by simpa using h2)
      | succ j => exact Or.inr ⟨j, v, by simpa using h1, by rw [h2]; congr 1; omega⟩
theorem zlg_at : ∀ (l : zL) (n : Nat) (v : zV), zlg l n = some v → l[n]? = some (some v)
  | [], n, v, h => by simp [zlg] at h
  | a :: l, 0, v, h => by simp only [zlg] at h; simp [h]
  | a :: l, n + 1, v, h => by simp only [zlg] at h; simpa using zlg_at l n v h
theorem zls_spec : ∀ (l : zL) (n : Nat) (v : Option zV) (k : zL → Prop), zls l n v k → ∃ l' : zL, k l' ∧ l'.length = l.length ∧ n < l.length ∧ l'[n]? = some v ∧ ∀ (j : Nat) (w : zV), j ≠ n → l'[j]? = some (some w) → l[j]? = some (some w) ∧ ¬ (j + 1 = n ∧ (zv w).category = 2)
  | [], n, v, k, h => by simp [zls] at h
  | a :: l, 0, v, k, h => by
    refine ⟨v :: l, by simpa [zls] using h, rfl, by simp, by simp, fun j w hj hw => ?_⟩
    cases j with
    | zero => exact absurd rfl hj
    | succ j => exact ⟨by simpa using hw, by omega⟩
  | a :: l, n + 1, v, k, h => by
    have key : ∀ b : Option zV, (b = none ∨ (b = a ∧ ∀ w : zV, a = some w → n = 0 → (zv w).category ≠ 2)) → zls l n v (fun l' => k (b :: l')) → ∃ l' : zL, k l' ∧ l'.length = (a :: l).length ∧ n + 1 < (a :: l).length ∧ l'[n + 1]? = some v ∧ ∀ (j : Nat) (w : zV), j ≠ n + 1 → l'[j]? = some (some w) → (a :: l)[j]? = some (some w) ∧ ¬ (j + 1 = n + 1 ∧ (zv w).category = 2) := by
      intro b hb hz
      obtain ⟨l', h1, h2, h3, h4, h5⟩ := zls_spec l n v _ hz
      refine ⟨b :: l', h1, by simp [h2], by simp; exact h3, by simpa using h4, fun j w hj hw => ?_⟩
      cases j with
      | zero =>
        simp at hw
        rcases hb with hb | ⟨hb, hb2⟩
        · rw [hb] at hw; cases hw
        · rw [hb] at hw
          exact ⟨by simp [hw], fun q => hb2 w hw (by omega) q.2⟩
      | succ j =>
        obtain ⟨g1, g2⟩ := h5 j w (by omega) (by simpa using hw)
        exact ⟨by simpa using g1, fun q => g2 ⟨by omega, q.2⟩⟩
    cases a with
    | none => exact key none (Or.inl rfl) (by simpa [zls] using h)
    | some w =>
      cases w with
      | inl x => exact key (some (.inl x)) (Or.inr ⟨rfl, fun w hw _ => by cases hw; simp [zv, Value.category]⟩) (by cases n <;> simpa [zls] using h)
      | inr w =>
        cases w with
        | inl x =>
          cases n with
          | zero => exact key none (Or.inl rfl) (by simpa [zls] using h)
          | succ n => exact key (some (.inr (.inl x))) (Or.inr ⟨rfl, fun w hw q => by omega⟩) (by simpa [zls] using h)
        | inr x => exact key (some (.inr (.inr x))) (Or.inr ⟨rfl, fun w hw _ => by cases hw; simp [zv, Value.category]⟩) (by cases n <;> simpa [zls] using h)
/-- the locals of a frame are as listed, and their references are of their kinds -/
def zLk (Y : zY) (nL : Nat) (ls : zL) (lsA : Array Slot) : Prop := lv_has lsA nL (zlv 0 ls) ∧ ls.length = nL ∧ ∀ (j : Nat) (v : zV), ls[j]? = some (some v) → zok Y v
theorem zLk_get {Y : zY} {nL : Nat} {ls : zL} {lsA : Array Slot} {n : Nat} {v : zV} (h : zLk Y nL ls lsA) (hv : zlg ls n = some v) : lsA[n]? = some (.val (zv v)) ∧ zok Y v := by
  have h1 := zlg_at ls n v hv
  refine ⟨?_, h.2.2 n v h1⟩
  have h2 := h.1.2.2 (n, zv v) ((zlv_mem ls 0 _).mpr ⟨n, v, h1, by simp⟩)
  exact h2
/-- the walk is sound at a place: whoever has T there comes to the end -/
def zSd (X : zX) (Y : zY) (u v pc : Nat) (T : zT) : Prop := ∀ (ls : zL) (st : List zV) (h : zH), T ls st h → ∀ (H : Heap) (locs : List Loc) (lsA : Array Slot), zR Y h H → zLk Y (xC X).maxLocals ls lsA → (∀ q ∈ st, zok Y q) → va_S (zA Y (xS X).heap.size) (xS X).heap H locs → zW X H locs u v (F0 (xM X) pc lsA (st.map zv))
theorem zSd_weak {X : zX} {Y : zY} {u v pc : Nat} {T T' : zT} (h : zSd X Y u v pc T) (hw : ∀ ls st h, T' ls st h → T ls st h) : zSd X Y u v pc T' := fun ls st h0 t => h ls st h0 (hw ls st h0 t)
theorem zSd_more {X : zX} {Y : zY} {u v u' v' pc : Nat} {T : zT} (h : zSd X Y u' v' pc T) (hu : u ≤ u') (hv : v ≤ v') : zSd X Y u v pc T := fun ls st h0 t H locs lsA a b c d => W.widen hu hv (h ls st h0 t H locs lsA a b c d)
theorem zSd_at {X : zX} {Y : zY} {u v pc pc' : Nat} {T : zT} (h : zSd X Y u v pc T) (he : pc = pc') : zSd X Y u v pc' T := he ▸ h
/-- a loop: an invariant with a measure -/
theorem zSd_loop {X : zX} {Y : zY} {u v pc : Nat} {I : Nat → zT} (hb : ∀ n : Nat, zSd X Y u v pc (fun ls st h => ∃ k, k < n ∧ I k ls st h) → zSd X Y u v pc (I n)) : ∀ n : Nat, zSd X Y u v pc (I n) := by
  intro n
  induction n using Nat.strongRecOn with
  | _ n ih => exact hb n (fun ls st h ⟨k, hk, t⟩ => ih k hk ls st h t)
theorem zq1 {Y : zY} {a : zV} {l : List zV} (h : ∀ q ∈ a :: l, zok Y q) : zok Y a ∧ ∀ q ∈ l, zok Y q := ⟨h a List.mem_cons_self, fun q hq => h q (List.mem_cons_of_mem _ hq)⟩
theorem zq2 {Y : zY} {a b : zV} {l : List zV} (h : ∀ q ∈ a :: b :: l, zok Y q) : ∀ q ∈ l, zok Y q := (zq1 (zq1 h).2).2
theorem zqc {Y : zY} {a : zV} {l : List zV} (h1 : zok Y a) (h2 : ∀ q ∈ l, zok Y q) : ∀ q ∈ a :: l, zok Y q := fun q hq => (List.mem_cons.mp hq).elim (fun e => e ▸ h1) (h2 q)
section ZB
variable {X : zX} {Y : zY} {u v pc : Nat} {cc : ByteArray} {own : String} {k k2 : zT}

def zi_ild (n : Nat) (k : zT) : zT := fun ls st h => match zlg ls n with
  | some (.inl x) => k ls (.inl x :: st) h
  | _ => False
theorem zr_iload {n : Nat} (O : zOK X Y cc own) (d : decode cc pc = .ok (.iload n, 2)) (hk : zSd X Y u v (pc + 2) k) : zSd X Y u v pc (zi_ild n k) := by
  intro ls st h t H locs lsA hR hL hv hS
  unfold zi_ild at t
  split at t
  · rename_i x hx
    obtain ⟨h1, h2⟩ := zLk_get hL hx
    exact lv_iload O.1 O.2.1 d h1 (hk _ _ _ t H locs lsA hR hL (zqc h2 hv) hS)
  · exact t.elim
theorem zr_iload_n {n : Nat} {j : Fin 4} (O : zOK X Y cc own) (d : decode cc pc = .ok (.iload_n j, 1)) (hj : (j : Nat) = n) (hk : zSd X Y u v (pc + 1) k) : zSd X Y u v pc (zi_ild n k) := by
  intro ls st h t H locs lsA hR hL hv hS
  unfold zi_ild at t
  split at t
  · rename_i x hx
    obtain ⟨h1, h2⟩ := zLk_get hL hx
    exact lv_iload_n O.1 O.2.1 d hj h1 (hk _ _ _ t H locs lsA hR hL (zqc h2 hv) hS)
  · exact t.elim
def zi_lld (n : Nat) (k : zT) : zT := fun ls st h => match zlg ls n with
  | some (.inr (.inl x)) => k ls (.inr (.inl x) :: st) h
  | _ => False
theorem zr_lload {n : Nat} (O : zOK X Y cc own) (d : decode cc pc = .ok (.lload n, 2)) (hk : zSd X Y u v (pc + 2) k) : zSd X Y u v pc (zi_lld n k) := by
  intro ls st h t H locs lsA hR hL hv hS
  unfold zi_lld at t
  split at t
  · rename_i x hx
    obtain ⟨h1, h2⟩ := zLk_get hL hx
    exact lv_lload O.1 O.2.1 d h1 (hk _ _ _ t H locs lsA hR hL (zqc h2 hv) hS)
  · exact t.elim
theorem zr_lload_n {n : Nat} {j : Fin 4} (O : zOK X Y cc own) (d : decode cc pc = .ok (.lload_n j, 1)) (hj : (j : Nat) = n) (hk : zSd X Y u v (pc + 1) k) : zSd X Y u v pc (zi_lld n k) := by
  intro ls st h t H locs lsA hR hL hv hS
  unfold zi_lld at t
  split at t
  · rename_i x hx
    obtain ⟨h1, h2⟩ := zLk_get hL hx
    exact lv_lload_n O.1 O.2.1 d hj h1 (hk _ _ _ t H locs lsA hR hL (zqc h2 hv) hS)
  · exact t.elim
def zi_ald (n : Nat) (k : zT) : zT := fun ls st h => match zlg ls n with
  | some (.inr (.inr x)) => k ls (.inr (.inr x) :: st) h
  | _ => False
theorem zr_aload {n : Nat} (O : zOK X Y cc own) (d : decode cc pc = .ok (.aload n, 2)) (hk : zSd X Y u v (pc + 2) k) : zSd X Y u v pc (zi_ald n k) := by
  intro ls st h t H locs lsA hR hL hv hS
  unfold zi_ald at t
  split at t
  · rename_i x hx
    obtain ⟨h1, h2⟩ := zLk_get hL hx
    exact lv_aload O.1 O.2.1 d h1 (hk _ _ _ t H locs lsA hR hL (zqc h2 hv) hS)
  · exact t.elim
theorem zr_aload_n {n : Nat} {j : Fin 4} (O : zOK X Y cc own) (d : decode cc pc = .ok (.aload_n j, 1)) (hj : (j : Nat) = n) (hk : zSd X Y u v (pc + 1) k) : zSd X Y u v pc (zi_ald n k) := by
  intro ls st h t H locs lsA hR hL hv hS
  unfold zi_ald at t
  split at t
  · rename_i x hx
    obtain ⟨h1, h2⟩ := zLk_get hL hx
    exact lv_aload_n O.1 O.2.1 d hj h1 (hk _ _ _ t H locs lsA hR hL (zqc h2 hv) hS)
  · exact t.elim
theorem zLk_set1 {nL : Nat} {ls ls' : zL} {lsA lsA' : Array Slot} {n : Nat} {w : zV} (h : zLk Y nL ls lsA) (hw : zok Y w) (h2 : ls'.length = ls.length) (h4 : ls'[n]? = some (some w)) (h5 : ∀ (j : Nat) (w : zV), j ≠ n → ls'[j]? = some (some w) → ls[j]? = some (some w) ∧ ¬ (j + 1 = n ∧ (zv w).category = 2))
    (hA : lv_has lsA' nL ((n, zv w) :: (zlv 0 ls).filter (fun q => !(q.1 == n) && !(q.1 + 1 == n && q.2.category == 2)))) : zLk Y nL ls' lsA' := by
  refine ⟨⟨hA.1, hA.2.1, fun q hq => ?_⟩, h2.trans h.2.1, fun j w' hj => ?_⟩
  · obtain ⟨j, w', h6, rfl⟩ := (zlv_mem ls' 0 q).mp hq
    by_cases hjn : j = n
    · subst hjn
      rw [h4] at h6
      cases h6
      exact hA.2.2 _ (by simp)
    · obtain ⟨h7, h8⟩ := h5 j w' hjn h6
      refine hA.2.2 _ (List.mem_cons_of_mem _ (List.mem_filter.mpr ⟨(zlv_mem ls 0 _).mpr ⟨j, w', h7, rfl⟩, ?_⟩))
      simp only [Bool.and_eq_true, Bool.not_eq_true', beq_eq_false_iff_ne, ne_eq, Bool.and_eq_false_iff]
      refine ⟨by omega, ?_⟩
      by_cases hz : j + 1 = n
      · exact Or.inr (fun q => h8 ⟨hz, q⟩)
      · exact Or.inl (by omega)
  · by_cases hjn : j = n
    · subst hjn
      rw [h4] at hj
      cases hj
      exact hw
    · exact h.2.2 j w' (h5 j w' hjn hj).1
theorem zLk_set2 {nL : Nat} {ls l1 ls' : zL} {lsA lsA' : Array Slot} {n : Nat} {w : zV} (h : zLk Y nL ls lsA) (hw : zok Y w) (a2 : l1.length = ls.length) (a4 : l1[n + 1]? = some none) (a5 : ∀ (j : Nat) (w : zV), j ≠ n + 1 → l1[j]? = some (some w) → ls[j]? = some (some w) ∧ ¬ (j + 1 = n + 1 ∧ (zv w).category = 2))
    (h2 : ls'.length = l1.length) (h4 : ls'[n]? = some (some w)) (h5 : ∀ (j : Nat) (w : zV), j ≠ n → ls'[j]? = some (some w) → l1[j]? = some (some w) ∧ ¬ (j + 1 = n ∧ (zv w).category = 2))
    (hA : lv_has lsA' nL ((n, zv w) :: (zlv 0 ls).filter (fun q => !(q.1 == n) && (!(q.1 == n + 1) && !(q.1 + 1 == n && q.2.category == 2))))) : zLk Y nL ls' lsA' := by
  refine ⟨⟨hA.1, hA.2.1, fun q hq => ?_⟩, h2.trans (a2.trans h.2.1), fun j w' hj => ?_⟩
  · obtain ⟨j, w', h6, rfl⟩ := (zlv_mem ls' 0 q).mp hq
    by_cases hjn : j = n
    · subst hjn
      rw [h4] at h6
      cases h6
      exact hA.2.2 _ (by simp)
    · obtain ⟨h7, h8⟩ := h5 j w' hjn h6
      have hj1 : j ≠ n + 1 := fun q => by rw [q, a4] at h7; cases h7
      obtain ⟨h9, -⟩ := a5 j w' hj1 h7
      refine hA.2.2 _ (List.mem_cons_of_mem _ (List.mem_filter.mpr ⟨(zlv_mem ls 0 _).mpr ⟨j, w', h9, rfl⟩, ?_⟩))
      simp only [Bool.and_eq_true, Bool.not_eq_true', beq_eq_false_iff_ne, ne_eq, Bool.and_eq_false_iff]
      refine ⟨by omega, by omega, ?_⟩
      by_cases hz : j + 1 = n
      · exact Or.inr (fun q => h8 ⟨hz, q⟩)
      · exact Or.inl (by omega)
  · by_cases hjn : j = n
    · subst hjn
      rw [h4] at hj
      cases hj
      exact hw
    · have h7 := (h5 j w' hjn hj).1
      have hj1 : j ≠ n + 1 := fun q => by rw [q, a4] at h7; cases h7
      exact h.2.2 j w' (a5 j w' hj1 h7).1
def zi_ist (n : Nat) (k : zT) : zT := fun ls st h => match st with
  | .inl x :: st' => zls ls n (some (.inl x)) (fun ls' => k ls' st' h)
  | _ => False
def zi_ast (n : Nat) (k : zT) : zT := fun ls st h => match st with
  | .inr (.inr x) :: st' => zls ls n (some (.inr (.inr x))) (fun ls' => k ls' st' h)
  | _ => False
def zi_lst (n : Nat) (k : zT) : zT := fun ls st h => match st with
  | .inr (.inl x) :: st' => zls ls (n + 1) none (fun l1 => zls l1 n (some (.inr (.inl x))) (fun ls' => k ls' st' h))
  | _ => False
theorem zr_istore {n : Nat} (O : zOK X Y cc own) (d : decode cc pc = .ok (.istore n, 2)) (hk : zSd X Y u v (pc + 2) k) : zSd X Y u v pc (zi_ist n k) := by
  intro ls st h t H locs lsA hR hL hv hS
  rcases st with _ | ⟨x | _, st⟩ <;> first | exact False.elim t | skip
  obtain ⟨ls', t', h2, h3, h4, h5⟩ := zls_spec _ _ _ _ t
  exact lv_istore O.1 O.2.1 d hL.1 (hL.2.1 ▸ h3) rfl (fun lsA' hA => hk _ _ _ t' H locs lsA' hR (zLk_set1 hL (zq1 hv).1 h2 h4 h5 hA) (zq1 hv).2 hS)
theorem zr_istore_n {n : Nat} {j : Fin 4} (O : zOK X Y cc own) (d : decode cc pc = .ok (.istore_n j, 1)) (hj : (j : Nat) = n) (hk : zSd X Y u v (pc + 1) k) : zSd X Y u v pc (zi_ist n k) := by
  intro ls st h t H locs lsA hR hL hv hS
  rcases st with _ | ⟨x | _, st⟩ <;> first | exact False.elim t | skip
  obtain ⟨ls', t', h2, h3, h4, h5⟩ := zls_spec _ _ _ _ t
  exact lv_istore_n O.1 O.2.1 d hj hL.1 (hL.2.1 ▸ h3) rfl (fun lsA' hA => hk _ _ _ t' H locs lsA' hR (zLk_set1 hL (zq1 hv).1 h2 h4 h5 hA) (zq1 hv).2 hS)
theorem zr_astore {n : Nat} (O : zOK X Y cc own) (d : decode cc pc = .ok (.astore n, 2)) (hk : zSd X Y u v (pc + 2) k) : zSd X Y u v pc (zi_ast n k) := by
  intro ls st h t H locs lsA hR hL hv hS
  rcases st with _ | ⟨_ | _ | x, st⟩ <;> first | exact False.elim t | skip
  obtain ⟨ls', t', h2, h3, h4, h5⟩ := zls_spec _ _ _ _ t
  exact lv_astore O.1 O.2.1 d hL.1 (hL.2.1 ▸ h3) rfl (fun lsA' hA => hk _ _ _ t' H locs lsA' hR (zLk_set1 hL (zq1 hv).1 h2 h4 h5 hA) (zq1 hv).2 hS)
theorem zr_astore_n {n : Nat} {j : Fin 4} (O : zOK X Y cc own) (d : decode cc pc = .ok (.astore_n j, 1)) (hj : (j : Nat) = n) (hk : zSd X Y u v (pc + 1) k) : zSd X Y u v pc (zi_ast n k) := by
  intro ls st h t H locs lsA hR hL hv hS
  rcases st with _ | ⟨_ | _ | x, st⟩ <;> first | exact False.elim t | skip
  obtain ⟨ls', t', h2, h3, h4, h5⟩ := zls_spec _ _ _ _ t
  exact lv_astore_n O.1 O.2.1 d hj hL.1 (hL.2.1 ▸ h3) rfl (fun lsA' hA => hk _ _ _ t' H locs lsA' hR (zLk_set1 hL (zq1 hv).1 h2 h4 h5 hA) (zq1 hv).2 hS)
theorem zr_lstore {n : Nat} (O : zOK X Y cc own) (d : decode cc pc = .ok (.lstore n, 2)) (hk : zSd X Y u v (pc + 2) k) : zSd X Y u v pc (zi_lst n k) := by
  intro ls st h t H locs lsA hR hL hv hS
  rcases st with _ | ⟨_ | x | _, st⟩ <;> first | exact False.elim t | skip
  obtain ⟨l1, t1, a2, a3, a4, a5⟩ := zls_spec _ _ _ _ t
  obtain ⟨ls', t', h2, h3, h4, h5⟩ := zls_spec _ _ _ _ t1
  exact lv_lstore O.1 O.2.1 d hL.1 (hL.2.1 ▸ a3) rfl (fun lsA' hA => hk _ _ _ t' H locs lsA' hR (zLk_set2 hL (zq1 hv).1 a2 a4 a5 h2 h4 h5 hA) (zq1 hv).2 hS)
theorem zr_lstore_n {n : Nat} {j : Fin 4} (O : zOK X Y cc own) (d : decode cc pc = .ok (.lstore_n j, 1)) (hj : (j : Nat) = n) (hk : zSd X Y u v (pc + 1) k) : zSd X Y u v pc (zi_lst n k) := by
  intro ls st h t H locs lsA hR hL hv hS
  rcases st with _ | ⟨_ | x | _, st⟩ <;> first | exact False.elim t | skip
  obtain ⟨l1, t1, a2, a3, a4, a5⟩ := zls_spec _ _ _ _ t
  obtain ⟨ls', t', h2, h3, h4, h5⟩ := zls_spec _ _ _ _ t1
  exact lv_lstore_n O.1 O.2.1 d hj hL.1 (hL.2.1 ▸ a3) rfl (fun lsA' hA => hk _ _ _ t' H locs lsA' hR (zLk_set2 hL (zq1 hv).1 a2 a4 a5 h2 h4 h5 hA) (zq1 hv).2 hS)
def zi_inc (n : Nat) (c : Int32) (k : zT) : zT := fun ls st h => match zlg ls n with
  | some (.inl x) => zls ls n (some (.inl (x + c))) (fun ls' => k ls' st h)
  | _ => False
theorem zr_iinc {n : Nat} {z : Int} {c : Int32} (O : zOK X Y cc own) (d : decode cc pc = .ok (.iinc n z, 3)) (hc : Int32.ofInt z = c) (hk : zSd X Y u v (pc + 3) k) : zSd X Y u v pc (zi_inc n c k) := by
  intro ls st h t H locs lsA hR hL hv hS
  unfold zi_inc at t
  split at t
  · rename_i x hx
    obtain ⟨ls', t', h2, h3, h4, h5⟩ := zls_spec _ _ _ _ t
    have hm : (n, zv (.inl x)) ∈ zlv 0 ls := (zlv_mem ls 0 _).mpr ⟨n, _, zlg_at ls n _ hx, by simp⟩
    obtain ⟨kk, hkk⟩ := List.getElem?_of_mem hm
    subst hc
    exact lv_iinc (x := x) (v := x + Int32.ofInt z) O.1 O.2.1 d hL.1 hkk rfl (hL.2.1 ▸ h3) rfl (fun lsA' hA => hk _ _ _ t' H locs lsA' hR (zLk_set1 (w := .inl (x + Int32.ofInt z)) hL trivial h2 h4 h5 hA) hv hS)
  · exact t.elim
/-- a constant on the stack -/
def zi_c (x : Int32) (k : zT) : zT := fun ls st h => k ls (.inl x :: st) h
def zi_cl (x : Int64) (k : zT) : zT := fun ls st h => k ls (.inr (.inl x) :: st) h
theorem zr_iconst {n : Int} {x : Int32} (O : zOK X Y cc own) (d : decode cc pc = .ok (.iconst n, 1)) (hx : Int32.ofInt n = x) (hk : zSd X Y u v (pc + 1) k) : zSd X Y u v pc (zi_c x k) := fun ls st h t H locs lsA hR hL hv hS =>
  lv_iconst O.1 O.2.1 d hx (hk _ _ _ t H locs lsA hR hL (zqc trivial hv) hS)
theorem zr_bipush {n : Int} {x : Int32} (O : zOK X Y cc own) (d : decode cc pc = .ok (.bipush n, 2)) (hx : (Int8.ofInt n).toInt32 = x) (hk : zSd X Y u v (pc + 2) k) : zSd X Y u v pc (zi_c x k) := fun ls st h t H locs lsA hR hL hv hS =>
  lv_bipush O.1 O.2.1 d hx (hk _ _ _ t H locs lsA hR hL (zqc trivial hv) hS)
theorem zr_sipush {n : Int} {x : Int32} (O : zOK X Y cc own) (d : decode cc pc = .ok (.sipush n, 3)) (hx : (Int16.ofInt n).toInt32 = x) (hk : zSd X Y u v (pc + 3) k) : zSd X Y u v pc (zi_c x k) := fun ls st h t H locs lsA hR hL hv hS =>
  lv_sipush O.1 O.2.1 d hx (hk _ _ _ t H locs lsA hR hL (zqc trivial hv) hS)
theorem zr_lconst {n : Fin 2} {x : Int64} (O : zOK X Y cc own) (d : decode cc pc = .ok (.lconst n, 1)) (hx : Int64.ofNat (n : Nat) = x) (hk : zSd X Y u v (pc + 1) k) : zSd X Y u v pc (zi_cl x k) := fun ls st h t H locs lsA hR hL hv hS =>
  lv_lconst O.1 O.2.1 d hx (hk _ _ _ t H locs lsA hR hL (zqc trivial hv) hS)
theorem zr_ldc {n : Nat} {x : Int32} (O : zOK X Y cc own) (d : decode cc pc = .ok (.ldc n, 2)) (hw : Jvm.Cond.constant own n x ∈ zTW) (hk : zSd X Y u v (pc + 2) k) : zSd X Y u v pc (zi_c x k) := fun ls st h t H locs lsA hR hL hv hS =>
  lv_ldc O.1 O.2.1 O.2.2.1 (O.2.2.2.1 _ hw) d (hk _ _ _ t H locs lsA hR hL (zqc trivial hv) hS)
theorem zr_ldcw {n : Nat} {x : Int32} (O : zOK X Y cc own) (d : decode cc pc = .ok (.ldc_w n, 3)) (hw : Jvm.Cond.constant own n x ∈ zTW) (hk : zSd X Y u v (pc + 3) k) : zSd X Y u v pc (zi_c x k) := fun ls st h t H locs lsA hR hL hv hS =>
  lv_ldcw O.1 O.2.1 O.2.2.1 (O.2.2.2.1 _ hw) d (hk _ _ _ t H locs lsA hR hL (zqc trivial hv) hS)
theorem zr_ldc2 {n : Nat} {x : Int64} (O : zOK X Y cc own) (d : decode cc pc = .ok (.ldc2_w n, 3)) (hw : Jvm.Cond.constantLong own n x ∈ zTW) (hk : zSd X Y u v (pc + 3) k) : zSd X Y u v pc (zi_cl x k) := fun ls st h t H locs lsA hR hL hv hS =>
  lv_ldc2 O.1 O.2.1 O.2.2.1 (O.2.2.2.1 _ hw) d (hk _ _ _ t H locs lsA hR hL (zqc trivial hv) hS)
def zi_iadd (k : zT) : zT := fun ls st h => match st with
  | .inl y :: .inl x :: st' => k ls (.inl (x + y) :: st') h
  | _ => False
theorem zr_iadd (O : zOK X Y cc own) (d : decode cc pc = .ok (.iadd, 1)) (hk : zSd X Y u v (pc + 1) k) : zSd X Y u v pc (zi_iadd k) := by
  intro ls st h t H locs lsA hR hL hv hS
  rcases st with _ | ⟨y | _, _ | ⟨x | _, st⟩⟩ <;> first | exact False.elim t | skip
  exact lv_iadd O.1 O.2.1 d (hk _ _ _ t H locs lsA hR hL (zqc trivial (zq2 hv)) hS)
def zi_isub (k : zT) : zT := fun ls st h => match st with
  | .inl y :: .inl x :: st' => k ls (.inl (x - y) :: st') h
  | _ => False
theorem zr_isub (O : zOK X Y cc own) (d : decode cc pc = .ok (.isub, 1)) (hk : zSd X Y u v (pc + 1) k) : zSd X Y u v pc (zi_isub k) := by
  intro ls st h t H locs lsA hR hL hv hS
  rcases st with _ | ⟨y | _, _ | ⟨x | _, st⟩⟩ <;> first | exact False.elim t | skip
  exact lv_isub O.1 O.2.1 d (hk _ _ _ t H locs lsA hR hL (zqc trivial (zq2 hv)) hS)
def zi_imul (k : zT) : zT := fun ls st h => match st with
  | .inl y :: .inl x :: st' => k ls (.inl (x * y) :: st') h
  | _ => False
theorem zr_imul (O : zOK X Y cc own) (d : decode cc pc = .ok (.imul, 1)) (hk : zSd X Y u v (pc + 1) k) : zSd X Y u v pc (zi_imul k) := by
  intro ls st h t H locs lsA hR hL hv hS
  rcases st with _ | ⟨y | _, _ | ⟨x | _, st⟩⟩ <;> first | exact False.elim t | skip
  exact lv_imul O.1 O.2.1 d (hk _ _ _ t H locs lsA hR hL (zqc trivial (zq2 hv)) hS)
def zi_iand (k : zT) : zT := fun ls st h => match st with
  | .inl y :: .inl x :: st' => k ls (.inl (x &&& y) :: st') h
  | _ => False
theorem zr_iand (O : zOK X Y cc own) (d : decode cc pc = .ok (.iand, 1)) (hk : zSd X Y u v (pc + 1) k) : zSd X Y u v pc (zi_iand k) := by
  intro ls st h t H locs lsA hR hL hv hS
  rcases st with _ | ⟨y | _, _ | ⟨x | _, st⟩⟩ <;> first | exact False.elim t | skip
  exact lv_iand O.1 O.2.1 d (hk _ _ _ t H locs lsA hR hL (zqc trivial (zq2 hv)) hS)
def zi_ior (k : zT) : zT := fun ls st h => match st with
  | .inl y :: .inl x :: st' => k ls (.inl (x ||| y) :: st') h
  | _ => False
theorem zr_ior (O : zOK X Y cc own) (d : decode cc pc = .ok (.ior, 1)) (hk : zSd X Y u v (pc + 1) k) : zSd X Y u v pc (zi_ior k) := by
  intro ls st h t H locs lsA hR hL hv hS
  rcases st with _ | ⟨y | _, _ | ⟨x | _, st⟩⟩ <;> first | exact False.elim t | skip
  exact lv_ior O.1 O.2.1 d (hk _ _ _ t H locs lsA hR hL (zqc trivial (zq2 hv)) hS)
def zi_ixor (k : zT) : zT := fun ls st h => match st with
  | .inl y :: .inl x :: st' => k ls (.inl (x ^^^ y) :: st') h
  | _ => False
theorem zr_ixor (O : zOK X Y cc own) (d : decode cc pc = .ok (.ixor, 1)) (hk : zSd X Y u v (pc + 1) k) : zSd X Y u v pc (zi_ixor k) := by
  intro ls st h t H locs lsA hR hL hv hS
  rcases st with _ | ⟨y | _, _ | ⟨x | _, st⟩⟩ <;> first | exact False.elim t | skip
  exact lv_ixor O.1 O.2.1 d (hk _ _ _ t H locs lsA hR hL (zqc trivial (zq2 hv)) hS)
def zi_ishl (k : zT) : zT := fun ls st h => match st with
  | .inl y :: .inl x :: st' => k ls (.inl (x <<< (y &&& 31)) :: st') h
  | _ => False
theorem zr_ishl (O : zOK X Y cc own) (d : decode cc pc = .ok (.ishl, 1)) (hk : zSd X Y u v (pc + 1) k) : zSd X Y u v pc (zi_ishl k) := by
  intro ls st h t H locs lsA hR hL hv hS
  rcases st with _ | ⟨y | _, _ | ⟨x | _, st⟩⟩ <;> first | exact False.elim t | skip
  exact lv_ishl O.1 O.2.1 d (hk _ _ _ t H locs lsA hR hL (zqc trivial (zq2 hv)) hS)
def zi_ishr (k : zT) : zT := fun ls st h => match st with
  | .inl y :: .inl x :: st' => k ls (.inl (x >>> (y &&& 31)) :: st') h
  | _ => False
theorem zr_ishr (O : zOK X Y cc own) (d : decode cc pc = .ok (.ishr, 1)) (hk : zSd X Y u v (pc + 1) k) : zSd X Y u v pc (zi_ishr k) := by
  intro ls st h t H locs lsA hR hL hv hS
  rcases st with _ | ⟨y | _, _ | ⟨x | _, st⟩⟩ <;> first | exact False.elim t | skip
  exact lv_ishr O.1 O.2.1 d (hk _ _ _ t H locs lsA hR hL (zqc trivial (zq2 hv)) hS)
def zi_idiv (k : zT) : zT := fun ls st h => match st with
  | .inl y :: .inl x :: st' => ¬ y = 0 ∧ k ls (.inl (x / y) :: st') h
  | _ => False
theorem zr_idiv (O : zOK X Y cc own) (d : decode cc pc = .ok (.idiv, 1)) (hk : zSd X Y u v (pc + 1) k) : zSd X Y u v pc (zi_idiv k) := by
  intro ls st h t H locs lsA hR hL hv hS
  rcases st with _ | ⟨y | _, _ | ⟨x | _, st⟩⟩ <;> first | exact False.elim t | skip
  exact lv_idiv O.1 O.2.1 d t.1 (hk _ _ _ t.2 H locs lsA hR hL (zqc trivial (zq2 hv)) hS)
def zi_irem (k : zT) : zT := fun ls st h => match st with
  | .inl y :: .inl x :: st' => ¬ y = 0 ∧ k ls (.inl (x - x / y * y) :: st') h
  | _ => False
theorem zr_irem (O : zOK X Y cc own) (d : decode cc pc = .ok (.irem, 1)) (hk : zSd X Y u v (pc + 1) k) : zSd X Y u v pc (zi_irem k) := by
  intro ls st h t H locs lsA hR hL hv hS
  rcases st with _ | ⟨y | _, _ | ⟨x | _, st⟩⟩ <;> first | exact False.elim t | skip
  exact lv_irem O.1 O.2.1 d t.1 (hk _ _ _ t.2 H locs lsA hR hL (zqc trivial (zq2 hv)) hS)
def zi_ladd (k : zT) : zT := fun ls st h => match st with
  | .inr (.inl y) :: .inr (.inl x) :: st' => k ls (.inr (.inl (x + y)) :: st') h
  | _ => False
theorem zr_ladd (O : zOK X Y cc own) (d : decode cc pc = .ok (.ladd, 1)) (hk : zSd X Y u v (pc + 1) k) : zSd X Y u v pc (zi_ladd k) := by
  intro ls st h t H locs lsA hR hL hv hS
  rcases st with _ | ⟨_ | y | _, _ | ⟨_ | x | _, st⟩⟩ <;> first | exact False.elim t | skip
  exact lv_ladd O.1 O.2.1 d (hk _ _ _ t H locs lsA hR hL (zqc trivial (zq2 hv)) hS)
def zi_lsub (k : zT) : zT := fun ls st h => match st with
  | .inr (.inl y) :: .inr (.inl x) :: st' => k ls (.inr (.inl (x - y)) :: st') h
  | _ => False
theorem zr_lsub (O : zOK X Y cc own) (d : decode cc pc = .ok (.lsub, 1)) (hk : zSd X Y u v (pc + 1) k) : zSd X Y u v pc (zi_lsub k) := by
  intro ls st h t H locs lsA hR hL hv hS
  rcases st with _ | ⟨_ | y | _, _ | ⟨_ | x | _, st⟩⟩ <;> first | exact False.elim t | skip
  exact lv_lsub O.1 O.2.1 d (hk _ _ _ t H locs lsA hR hL (zqc trivial (zq2 hv)) hS)
def zi_lmul (k : zT) : zT := fun ls st h => match st with
  | .inr (.inl y) :: .inr (.inl x) :: st' => k ls (.inr (.inl (x * y)) :: st') h
  | _ => False
theorem zr_lmul (O : zOK X Y cc own) (d : decode cc pc = .ok (.lmul, 1)) (hk : zSd X Y u v (pc + 1) k) : zSd X Y u v pc (zi_lmul k) := by
  intro ls st h t H locs lsA hR hL hv hS
  rcases st with _ | ⟨_ | y | _, _ | ⟨_ | x | _, st⟩⟩ <;> first | exact False.elim t | skip
  exact lv_lmul O.1 O.2.1 d (hk _ _ _ t H locs lsA hR hL (zqc trivial (zq2 hv)) hS)
def zi_lcmp (k : zT) : zT := fun ls st h => match st with
  | .inr (.inl y) :: .inr (.inl x) :: st' => k ls (.inl (lg_cmp x y) :: st') h
  | _ => False
theorem zr_lcmp (O : zOK X Y cc own) (d : decode cc pc = .ok (.lcmp, 1)) (hk : zSd X Y u v (pc + 1) k) : zSd X Y u v pc (zi_lcmp k) := by
  intro ls st h t H locs lsA hR hL hv hS
  rcases st with _ | ⟨_ | y | _, _ | ⟨_ | x | _, st⟩⟩ <;> first | exact False.elim t | skip
  exact W.lcmp O.1 O.2.1 d (hk _ _ _ t H locs lsA hR hL (zqc trivial (zq2 hv)) hS)
def zi_lshl (k : zT) : zT := fun ls st h => match st with
  | .inl y :: .inr (.inl x) :: st' => k ls (.inr (.inl (x <<< (y.toInt64 &&& 63))) :: st') h
  | _ => False
theorem zr_lshl (O : zOK X Y cc own) (d : decode cc pc = .ok (.lshl, 1)) (hk : zSd X Y u v (pc + 1) k) : zSd X Y u v pc (zi_lshl k) := by
  intro ls st h t H locs lsA hR hL hv hS
  rcases st with _ | ⟨y | _, _ | ⟨_ | x | _, st⟩⟩ <;> first | exact False.elim t | skip
  exact lv_lshl O.1 O.2.1 d rfl (hk _ _ _ t H locs lsA hR hL (zqc trivial (zq2 hv)) hS)
def zi_ineg (k : zT) : zT := fun ls st h => match st with
  | .inl x :: st' => k ls (.inl (-x) :: st') h
  | _ => False
theorem zr_ineg (O : zOK X Y cc own) (d : decode cc pc = .ok (.ineg, 1)) (hk : zSd X Y u v (pc + 1) k) : zSd X Y u v pc (zi_ineg k) := by
  intro ls st h t H locs lsA hR hL hv hS
  rcases st with _ | ⟨x | _, st⟩ <;> first | exact False.elim t | skip
  exact lv_ineg O.1 O.2.1 d (hk _ _ _ t H locs lsA hR hL (zqc trivial (zq1 hv).2) hS)
def zi_i2l (k : zT) : zT := fun ls st h => match st with
  | .inl x :: st' => k ls (.inr (.inl x.toInt64) :: st') h
  | _ => False
theorem zr_i2l (O : zOK X Y cc own) (d : decode cc pc = .ok (.i2l, 1)) (hk : zSd X Y u v (pc + 1) k) : zSd X Y u v pc (zi_i2l k) := by
  intro ls st h t H locs lsA hR hL hv hS
  rcases st with _ | ⟨x | _, st⟩ <;> first | exact False.elim t | skip
  exact lv_i2l O.1 O.2.1 d rfl (hk _ _ _ t H locs lsA hR hL (zqc trivial (zq1 hv).2) hS)
def zi_i2b (k : zT) : zT := fun ls st h => match st with
  | .inl x :: st' => k ls (.inl x.toInt8.toInt32 :: st') h
  | _ => False
theorem zr_i2b (O : zOK X Y cc own) (d : decode cc pc = .ok (.i2b, 1)) (hk : zSd X Y u v (pc + 1) k) : zSd X Y u v pc (zi_i2b k) := by
  intro ls st h t H locs lsA hR hL hv hS
  rcases st with _ | ⟨x | _, st⟩ <;> first | exact False.elim t | skip
  exact lv_i2b O.1 O.2.1 d rfl (hk _ _ _ t H locs lsA hR hL (zqc trivial (zq1 hv).2) hS)
def zi_lneg (k : zT) : zT := fun ls st h => match st with
  | .inr (.inl x) :: st' => k ls (.inr (.inl (-x)) :: st') h
  | _ => False
theorem zr_lneg (O : zOK X Y cc own) (d : decode cc pc = .ok (.lneg, 1)) (hk : zSd X Y u v (pc + 1) k) : zSd X Y u v pc (zi_lneg k) := by
  intro ls st h t H locs lsA hR hL hv hS
  rcases st with _ | ⟨_ | x | _, st⟩ <;> first | exact False.elim t | skip
  exact lv_lneg O.1 O.2.1 d (hk _ _ _ t H locs lsA hR hL (zqc trivial (zq1 hv).2) hS)
theorem zcat1 {q : zV} (h : ∀ x : Int64, q ≠ .inr (.inl x)) : (zv q).category = 1 := by
  rcases q with x | x | x
  · rfl
  · exact absurd rfl (h x)
  · rfl
def zi_dup (k : zT) : zT := fun ls st h => match st with
  | .inl x :: st' => k ls (.inl x :: .inl x :: st') h
  | .inr (.inr x) :: st' => k ls (.inr (.inr x) :: .inr (.inr x) :: st') h
  | _ => False
theorem zr_dup (O : zOK X Y cc own) (d : decode cc pc = .ok (.dup, 1)) (hk : zSd X Y u v (pc + 1) k) : zSd X Y u v pc (zi_dup k) := by
  intro ls st h t H locs lsA hR hL hv hS
  rcases st with _ | ⟨x | x | x, st⟩
  · exact False.elim t
  · exact lv_dup O.1 O.2.1 d rfl (hk _ _ _ t H locs lsA hR hL (zqc (zq1 hv).1 hv) hS)
  · exact False.elim t
  · exact lv_dup O.1 O.2.1 d rfl (hk _ _ _ t H locs lsA hR hL (zqc (zq1 hv).1 hv) hS)
def zi_pop (k : zT) : zT := fun ls st h => match st with
  | .inl _ :: st' => k ls st' h
  | .inr (.inr _) :: st' => k ls st' h
  | _ => False
theorem zr_pop (O : zOK X Y cc own) (d : decode cc pc = .ok (.pop, 1)) (hk : zSd X Y u v (pc + 1) k) : zSd X Y u v pc (zi_pop k) := by
  intro ls st h t H locs lsA hR hL hv hS
  rcases st with _ | ⟨x | x | x, st⟩
  · exact False.elim t
  · exact lv_pop O.1 O.2.1 d rfl (hk _ _ _ t H locs lsA hR hL (zq1 hv).2 hS)
  · exact False.elim t
  · exact lv_pop O.1 O.2.1 d rfl (hk _ _ _ t H locs lsA hR hL (zq1 hv).2 hS)
/-- a reference and an index, twice -/
def zi_dup2 (k : zT) : zT := fun ls st h => match st with
  | .inl x :: .inr (.inr y) :: st' => k ls (.inl x :: .inr (.inr y) :: .inl x :: .inr (.inr y) :: st') h
  | _ => False
theorem zr_dup2 (O : zOK X Y cc own) (d : decode cc pc = .ok (.dup2, 1)) (hk : zSd X Y u v (pc + 1) k) : zSd X Y u v pc (zi_dup2 k) := by
  intro ls st h t H locs lsA hR hL hv hS
  rcases st with _ | ⟨x | _, _ | ⟨_ | _ | y, st⟩⟩ <;> first | exact False.elim t | skip
  exact lv_dup2_11 O.1 O.2.1 d rfl rfl (hk _ _ _ t H locs lsA hR hL (zqc (zq1 hv).1 (zqc (zq1 (zq1 hv).2).1 hv)) hS)
def zi_ifeq (k k2 : zT) : zT := fun ls st h => match st with
  | .inl x :: st' => (x = 0 → k ls st' h) ∧ (¬ x = 0 → k2 ls st' h)
  | _ => False
theorem zr_ifeq {off : Int} {tgt : Nat} (O : zOK X Y cc own) (d : decode cc pc = .ok (.ifCond .eq off, 3)) (ht : (pc : Int) + off = (tgt : Int)) (hk : zSd X Y u v tgt k) (hk2 : zSd X Y u v (pc + 3) k2) : zSd X Y u v pc (zi_ifeq k k2) := by
  intro ls st h t H locs lsA hR hL hv hS
  rcases st with _ | ⟨x | _, st⟩ <;> first | exact False.elim t | skip
  exact lv_if_eq O.1 O.2.1 d ht (fun c => hk _ _ _ (t.1 c) H locs lsA hR hL (zq1 hv).2 hS) (fun c => hk2 _ _ _ (t.2 c) H locs lsA hR hL (zq1 hv).2 hS)
def zi_ifne (k k2 : zT) : zT := fun ls st h => match st with
  | .inl x :: st' => (¬ x = 0 → k ls st' h) ∧ (x = 0 → k2 ls st' h)
  | _ => False
theorem zr_ifne {off : Int} {tgt : Nat} (O : zOK X Y cc own) (d : decode cc pc = .ok (.ifCond .ne off, 3)) (ht : (pc : Int) + off = (tgt : Int)) (hk : zSd X Y u v tgt k) (hk2 : zSd X Y u v (pc + 3) k2) : zSd X Y u v pc (zi_ifne k k2) := by
  intro ls st h t H locs lsA hR hL hv hS
  rcases st with _ | ⟨x | _, st⟩ <;> first | exact False.elim t | skip
  exact lv_if_ne O.1 O.2.1 d ht (fun c => hk _ _ _ (t.1 c) H locs lsA hR hL (zq1 hv).2 hS) (fun c => hk2 _ _ _ (t.2 c) H locs lsA hR hL (zq1 hv).2 hS)
def zi_iflt (k k2 : zT) : zT := fun ls st h => match st with
  | .inl x :: st' => (x < 0 → k ls st' h) ∧ (¬ x < 0 → k2 ls st' h)
  | _ => False
theorem zr_iflt {off : Int} {tgt : Nat} (O : zOK X Y cc own) (d : decode cc pc = .ok (.ifCond .lt off, 3)) (ht : (pc : Int) + off = (tgt : Int)) (hk : zSd X Y u v tgt k) (hk2 : zSd X Y u v (pc + 3) k2) : zSd X Y u v pc (zi_iflt k k2) := by
  intro ls st h t H locs lsA hR hL hv hS
  rcases st with _ | ⟨x | _, st⟩ <;> first | exact False.elim t | skip
  exact lv_if_lt O.1 O.2.1 d ht (fun c => hk _ _ _ (t.1 c) H locs lsA hR hL (zq1 hv).2 hS) (fun c => hk2 _ _ _ (t.2 c) H locs lsA hR hL (zq1 hv).2 hS)
def zi_ifge (k k2 : zT) : zT := fun ls st h => match st with
  | .inl x :: st' => (0 ≤ x → k ls st' h) ∧ (¬ 0 ≤ x → k2 ls st' h)
  | _ => False
theorem zr_ifge {off : Int} {tgt : Nat} (O : zOK X Y cc own) (d : decode cc pc = .ok (.ifCond .ge off, 3)) (ht : (pc : Int) + off = (tgt : Int)) (hk : zSd X Y u v tgt k) (hk2 : zSd X Y u v (pc + 3) k2) : zSd X Y u v pc (zi_ifge k k2) := by
  intro ls st h t H locs lsA hR hL hv hS
  rcases st with _ | ⟨x | _, st⟩ <;> first | exact False.elim t | skip
  exact lv_if_ge O.1 O.2.1 d ht (fun c => hk _ _ _ (t.1 c) H locs lsA hR hL (zq1 hv).2 hS) (fun c => hk2 _ _ _ (t.2 c) H locs lsA hR hL (zq1 hv).2 hS)
def zi_ifgt (k k2 : zT) : zT := fun ls st h => match st with
  | .inl x :: st' => (0 < x → k ls st' h) ∧ (¬ 0 < x → k2 ls st' h)
  | _ => False
theorem zr_ifgt {off : Int} {tgt : Nat} (O : zOK X Y cc own) (d : decode cc pc = .ok (.ifCond .gt off, 3)) (ht : (pc : Int) + off = (tgt : Int)) (hk : zSd X Y u v tgt k) (hk2 : zSd X Y u v (pc + 3) k2) : zSd X Y u v pc (zi_ifgt k k2) := by
  intro ls st h t H locs lsA hR hL hv hS
  rcases st with _ | ⟨x | _, st⟩ <;> first | exact False.elim t | skip
  exact lv_if_gt O.1 O.2.1 d ht (fun c => hk _ _ _ (t.1 c) H locs lsA hR hL (zq1 hv).2 hS) (fun c => hk2 _ _ _ (t.2 c) H locs lsA hR hL (zq1 hv).2 hS)
def zi_ifle (k k2 : zT) : zT := fun ls st h => match st with
  | .inl x :: st' => (x ≤ 0 → k ls st' h) ∧ (¬ x ≤ 0 → k2 ls st' h)
  | _ => False
theorem zr_ifle {off : Int} {tgt : Nat} (O : zOK X Y cc own) (d : decode cc pc = .ok (.ifCond .le off, 3)) (ht : (pc : Int) + off = (tgt : Int)) (hk : zSd X Y u v tgt k) (hk2 : zSd X Y u v (pc + 3) k2) : zSd X Y u v pc (zi_ifle k k2) := by
  intro ls st h t H locs lsA hR hL hv hS
  rcases st with _ | ⟨x | _, st⟩ <;> first | exact False.elim t | skip
  exact lv_if_le O.1 O.2.1 d ht (fun c => hk _ _ _ (t.1 c) H locs lsA hR hL (zq1 hv).2 hS) (fun c => hk2 _ _ _ (t.2 c) H locs lsA hR hL (zq1 hv).2 hS)
def zi_iceq (k k2 : zT) : zT := fun ls st h => match st with
  | .inl y :: .inl x :: st' => (x = y → k ls st' h) ∧ (¬ x = y → k2 ls st' h)
  | _ => False
theorem zr_iceq {off : Int} {tgt : Nat} (O : zOK X Y cc own) (d : decode cc pc = .ok (.if_icmp .eq off, 3)) (ht : (pc : Int) + off = (tgt : Int)) (hk : zSd X Y u v tgt k) (hk2 : zSd X Y u v (pc + 3) k2) : zSd X Y u v pc (zi_iceq k k2) := by
  intro ls st h t H locs lsA hR hL hv hS
  rcases st with _ | ⟨y | _, _ | ⟨x | _, st⟩⟩ <;> first | exact False.elim t | skip
  exact lv_icmp_eq O.1 O.2.1 d ht (fun c => hk _ _ _ (t.1 c) H locs lsA hR hL (zq2 hv) hS) (fun c => hk2 _ _ _ (t.2 c) H locs lsA hR hL (zq2 hv) hS)
def zi_icne (k k2 : zT) : zT := fun ls st h => match st with
  | .inl y :: .inl x :: st' => (¬ x = y → k ls st' h) ∧ (x = y → k2 ls st' h)
  | _ => False
theorem zr_icne {off : Int} {tgt : Nat} (O : zOK X Y cc own) (d : decode cc pc = .ok (.if_icmp .ne off, 3)) (ht : (pc : Int) + off = (tgt : Int)) (hk : zSd X Y u v tgt k) (hk2 : zSd X Y u v (pc + 3) k2) : zSd X Y u v pc (zi_icne k k2) := by
  intro ls st h t H locs lsA hR hL hv hS
  rcases st with _ | ⟨y | _, _ | ⟨x | _, st⟩⟩ <;> first | exact False.elim t | skip
  exact lv_icmp_ne O.1 O.2.1 d ht (fun c => hk _ _ _ (t.1 c) H locs lsA hR hL (zq2 hv) hS) (fun c => hk2 _ _ _ (t.2 c) H locs lsA hR hL (zq2 hv) hS)
def zi_iclt (k k2 : zT) : zT := fun ls st h => match st with
  | .inl y :: .inl x :: st' => (x < y → k ls st' h) ∧ (¬ x < y → k2 ls st' h)
  | _ => False
theorem zr_iclt {off : Int} {tgt : Nat} (O : zOK X Y cc own) (d : decode cc pc = .ok (.if_icmp .lt off, 3)) (ht : (pc : Int) + off = (tgt : Int)) (hk : zSd X Y u v tgt k) (hk2 : zSd X Y u v (pc + 3) k2) : zSd X Y u v pc (zi_iclt k k2) := by
  intro ls st h t H locs lsA hR hL hv hS
  rcases st with _ | ⟨y | _, _ | ⟨x | _, st⟩⟩ <;> first | exact False.elim t | skip
  exact lv_icmp_lt O.1 O.2.1 d ht (fun c => hk _ _ _ (t.1 c) H locs lsA hR hL (zq2 hv) hS) (fun c => hk2 _ _ _ (t.2 c) H locs lsA hR hL (zq2 hv) hS)
def zi_icge (k k2 : zT) : zT := fun ls st h => match st with
  | .inl y :: .inl x :: st' => (y ≤ x → k ls st' h) ∧ (¬ y ≤ x → k2 ls st' h)
  | _ => False
theorem zr_icge {off : Int} {tgt : Nat} (O : zOK X Y cc own) (d : decode cc pc = .ok (.if_icmp .ge off, 3)) (ht : (pc : Int) + off = (tgt : Int)) (hk : zSd X Y u v tgt k) (hk2 : zSd X Y u v (pc + 3) k2) : zSd X Y u v pc (zi_icge k k2) := by
  intro ls st h t H locs lsA hR hL hv hS
  rcases st with _ | ⟨y | _, _ | ⟨x | _, st⟩⟩ <;> first | exact False.elim t | skip
  exact lv_icmp_ge O.1 O.2.1 d ht (fun c => hk _ _ _ (t.1 c) H locs lsA hR hL (zq2 hv) hS) (fun c => hk2 _ _ _ (t.2 c) H locs lsA hR hL (zq2 hv) hS)
def zi_icgt (k k2 : zT) : zT := fun ls st h => match st with
  | .inl y :: .inl x :: st' => (y < x → k ls st' h) ∧ (¬ y < x → k2 ls st' h)
  | _ => False
theorem zr_icgt {off : Int} {tgt : Nat} (O : zOK X Y cc own) (d : decode cc pc = .ok (.if_icmp .gt off, 3)) (ht : (pc : Int) + off = (tgt : Int)) (hk : zSd X Y u v tgt k) (hk2 : zSd X Y u v (pc + 3) k2) : zSd X Y u v pc (zi_icgt k k2) := by
  intro ls st h t H locs lsA hR hL hv hS
  rcases st with _ | ⟨y | _, _ | ⟨x | _, st⟩⟩ <;> first | exact False.elim t | skip
  exact lv_icmp_gt O.1 O.2.1 d ht (fun c => hk _ _ _ (t.1 c) H locs lsA hR hL (zq2 hv) hS) (fun c => hk2 _ _ _ (t.2 c) H locs lsA hR hL (zq2 hv) hS)
def zi_icle (k k2 : zT) : zT := fun ls st h => match st with
  | .inl y :: .inl x :: st' => (x ≤ y → k ls st' h) ∧ (¬ x ≤ y → k2 ls st' h)
  | _ => False
theorem zr_icle {off : Int} {tgt : Nat} (O : zOK X Y cc own) (d : decode cc pc = .ok (.if_icmp .le off, 3)) (ht : (pc : Int) + off = (tgt : Int)) (hk : zSd X Y u v tgt k) (hk2 : zSd X Y u v (pc + 3) k2) : zSd X Y u v pc (zi_icle k k2) := by
  intro ls st h t H locs lsA hR hL hv hS
  rcases st with _ | ⟨y | _, _ | ⟨x | _, st⟩⟩ <;> first | exact False.elim t | skip
  exact lv_icmp_le O.1 O.2.1 d ht (fun c => hk _ _ _ (t.1 c) H locs lsA hR hL (zq2 hv) hS) (fun c => hk2 _ _ _ (t.2 c) H locs lsA hR hL (zq2 hv) hS)
theorem zr_goto {off : Int} {tgt : Nat} (O : zOK X Y cc own) (d : decode cc pc = .ok (.goto off, 3)) (ht : (pc : Int) + off = (tgt : Int)) (hk : zSd X Y u v tgt k) : zSd X Y u v pc k := fun ls st h t H locs lsA hR hL hv hS =>
  lv_goto O.1 O.2.1 d ht (hk _ _ _ t H locs lsA hR hL hv hS)
/-- a switch: the cases from lo on, and what is outside -/
def zi_sw (lo : Int) (ks : List zT) (kd : zT) : zT := fun ls st h => match st with
  | .inl x :: st' => (∀ (j : Nat) (kj : zT), ks[j]? = some kj → x.toInt = lo + j → kj ls st' h) ∧ ((x.toInt < lo ∨ lo + ks.length ≤ x.toInt) → kd ls st' h)
  | _ => False
theorem zr_switch {df lo hi : Int} {offs : Array Int} {len tgt : Nat} {ks : List zT} {kd : zT} (O : zOK X Y cc own) (d : decode cc pc = .ok (.tableswitch df lo hi offs, len)) (hn : lo + ks.length = hi + 1) (ht : (pc : Int) + df = (tgt : Int)) (hd : zSd X Y u v tgt kd)
    (hks : ∀ (j : Nat) (kj : zT), ks[j]? = some kj → ∃ (off : Int) (t : Nat), offs[j]? = some off ∧ (pc : Int) + off = (t : Int) ∧ zSd X Y u v t kj) : zSd X Y u v pc (zi_sw lo ks kd) := by
  intro ls st h t H locs lsA hR hL hv hS
  rcases st with _ | ⟨x | _, st⟩ <;> first | exact False.elim t | skip
  by_cases h1 : x.toInt < lo
  · exact lv_tableOut O.1 O.2.1 d (Or.inl h1) ht (hd _ _ _ (t.2 (Or.inl h1)) H locs lsA hR hL (zq1 hv).2 hS)
  · by_cases h2 : hi < x.toInt
    · exact lv_tableOut O.1 O.2.1 d (Or.inr h2) ht (hd _ _ _ (t.2 (Or.inr (by omega))) H locs lsA hR hL (zq1 hv).2 hS)
    · have hj : (x.toInt - lo).toNat < ks.length := by omega
      obtain ⟨off, tg, ho, htg, hs⟩ := hks _ _ (List.getElem?_eq_getElem hj)
      exact lv_tableIn O.1 O.2.1 d h1 h2 ho htg (hs _ _ _ (t.1 _ _ (List.getElem?_eq_getElem hj) (by omega)) H locs lsA hR hL (zq1 hv).2 hS)
theorem zks_nil {α : Type} {P : Nat → α → Prop} {i : Nat} : ∀ (j : Nat) (a : α), ([] : List α)[j]? = some a → P (i + j) a := fun j a h => by simp at h
theorem zks_cons {α : Type} {P : Nat → α → Prop} {i : Nat} {a : α} {l : List α} (h : P i a) (hl : ∀ (j : Nat) (b : α), l[j]? = some b → P (i + 1 + j) b) : ∀ (j : Nat) (b : α), (a :: l)[j]? = some b → P (i + j) b := by
  intro j b hb
  cases j with
  | zero => simp at hb; subst hb; exact h
  | succ j =>
    have := hl j b (by simpa using hb)
    rwa [show i + (j + 1) = i + 1 + j by omega]
end ZB
end
section
/-! heap: updates -/
def zsI (h : zH) (a j : Nat) (x : Int32) : zH := (va_up h.1 a (va_up (h.1 a) j x), h.2)
def zsL (h : zH) (a j : Nat) (x : Int64) : zH := (h.1, va_up h.2.1 a (va_up (h.2.1 a) j x), h.2.2)
def zsR (h : zH) (a j b : Nat) : zH := (h.1, h.2.1, va_up h.2.2 a (va_up (h.2.2 a) j b))
def zsW (h : zH) (a : Nat) (f : Nat → Int32) : zH := (va_up h.1 a f, h.2)
theorem zup_s {α : Type} (f : Nat → α) (k : Nat) (x : α) : va_up f k x k = x := by simp [va_up]
theorem zup_n {α : Type} (f : Nat → α) {k j : Nat} (x : α) (h : j ≠ k) : va_up f k x j = f j := by simp [va_up, h]
theorem ztag {Y : zY} {a t t' n n' : Nat} (h : yK Y a = (t, n)) (h' : yK Y a = (t', n')) : t = t' ∧ n = n' := by
  rw [h] at h'
  cases h'
  exact ⟨rfl, rfl⟩
theorem zwr_of {t : Nat} (h : t = 1 ∨ t = 2 ∨ t = 3 ∨ t = 4 ∨ t = 5 ∨ 10 ≤ t) : zwr t := by
  unfold zwr; omega
theorem zA_of {Y : zY} {sz a t n : Nat} (h : yK Y a = (t, n)) (ht : zwr t) : zA Y sz a := Or.inl (by rw [h]; exact ht)
theorem zin_of {Y : zY} {a t n j : Nat} (hF : zWF Y) (h : yK Y a = (t, n)) (hj : j < n) : vp_in (nI j) n ∧ (nI j).toNatClampNeg = j := by
  have h1 : n < 2 ^ 31 := by have := hF.2.2 a; rw [h] at this; exact this
  exact ⟨vp_in_nI hj h1, nI_clamp (by omega)⟩
section ZH
variable {p : Program} {l : Launch} {e : Env} {R : Room} {s : State} {m : MethodId} {args : Array Value} {below : List Frame} {meth : Method} {c : Code} {H : Heap} {locs : List Loc} {cells slots : Nat} {Q : State → Prop}
variable {cc : ByteArray} {pc : Nat} {ls : Array Slot} {rest : List Value} {D : va_G} {cl : List vw_C} {A : Nat → Prop} {a : Nat} {tys : List (ClassId × FieldType)} {H0 : Heap}
theorem zq_get (hexec : p.tables.exec = Jvm.exec) (hb : c.code = cc) {own C : String} {T : u_T} {N ci index : Nat} {Ts : List Cond} (hts : ∀ w ∈ Ts, w.before args s = true) (hin : ∀ w ∈ u_ws C T N, w ∈ Ts) (hown : s.vm.findClass own = some m.cls) (hK : va_K D cl tys s) {V : Nat → Value} (hob : t_OB a (D.1 ci) N (D.2 ci) H V) (hc : cl[ci]? = some (C, T, N)) (k : Nat) (hk : k < N) (hlink : (Cond.fieldLink own index (T k).1 (T k).2.1 (T k).2.2.1).before args s = true) (hdg : decode cc pc = .ok (.getfield index, 3))
    (kk : W p l e R s m args below meth c H locs cells slots Q (F0 m (pc + 3) ls (V k :: rest))) : W p l e R s m args below meth c H locs cells slots Q (F0 m pc ls (.ref a :: rest)) := by
  obtain ⟨cell, q1, q2, q3, q4⟩ := hob
  obtain ⟨hS, hfc, kC, hkC, hkind⟩ := hK.1 ci _ hc
  obtain ⟨cf, kf, fi, f, hi, hsl⟩ := hS k hk
  refine W.getf hexec hb hown hlink hi (u_facts hfc hkC (u_lays hts hin hk) hi).1 q1 (by rw [q3]; exact fun h => by cases h) (v := V k) ?_ rfl rfl hdg kk
  rw [hsl, q4 k hk]
theorem zq_put (hexec : p.tables.exec = Jvm.exec) (hb : c.code = cc) {own C : String} {T : u_T} {N ci index : Nat} {Ts : List Cond} (hts : ∀ w ∈ Ts, w.before args s = true) (hin : ∀ w ∈ u_ws C T N, w ∈ Ts) (ty0 : Nat → FieldType) (hty : ∀ k, k < N → parseFieldDescriptor (T k).2.2.1 = some (ty0 k)) (hnm : ∀ a, a < N → ∀ b, b < N → a ≠ b → (T a).2.1 ≠ (T b).2.1) (hown : s.vm.findClass own = some m.cls) (hK : va_K D cl tys s) {V : Nat → Value} (hob : t_OB a (D.1 ci) N (D.2 ci) H V) (hS0 : va_S A H0 H locs) (hAa : A a) (hc : cl[ci]? = some (C, T, N)) (k : Nat) (hk : k < N) (hlink : (Cond.fieldLink own index (T k).1 (T k).2.1 (T k).2.2.1).before args s = true) (hfin : (T k).2.2.2 = false) {v : Value} (hn : narrow (ty0 k) v = v) (hfit : fits (ty0 k) v = true)
    (hdg : decode cc pc = .ok (.putfield index, 3)) (kk : ∀ (H1 : Heap) (locs1 : List Loc), t_OB a (D.1 ci) N (D.2 ci) H1 (updV V k v) → (∀ q : Nat, q ≠ a → H1[q]? = H[q]?) → va_S A H0 H1 locs1 → W p l e R s m args below meth c H1 locs1 cells slots Q (F0 m (pc + 3) ls rest)) : W p l e R s m args below meth c H locs cells slots Q (F0 m pc ls (v :: .ref a :: rest)) := by
  have hap := va_apart (own := own) hts hin ty0 hty hnm hK hc
  obtain ⟨cell, q1, q2, q3, q4⟩ := hob
  obtain ⟨hS, hfc, kC, hkC, hkind⟩ := hK.1 ci _ hc
  obtain ⟨cf, kf, fi, f, hi, hsl⟩ := hS k hk
  have hlay := hts _ (hin _ (u_in_lay hk))
  unfold u_lay at hlay
  rw [if_neg (by rw [hfin]; decide)] at hlay
  have hst := (u_facts hfc hkC (u_lays hts hin hk) hi).1
  have h6 := u_store hfc hkC hkind hlay hi (hty k hk) hn hfit
  refine W.putK hexec hb (f := f) ⟨hown, hlink, ⟨_, _, _, hi⟩, hst⟩ (by rw [q2]; exact h6) q1 q3 (by rw [hsl]; exact k2_hasslot (q4 k hk)) rfl rfl hdg fun H' e1 e2 e3 => ?_
  rw [hsl] at e1 ⊢
  exact kk H' _ ⟨_, e1, q2, q3, t_set q4 hap hk v⟩ e3 (hS0.put e2 e3 hAa)
theorem zq_copy (hexec : p.tables.exec = Jvm.exec) (hb : c.code = cc) (hml : c.maxLocals = ls.size) {own : String} {index : Nat} (hown : s.vm.findClass own = some m.cls) (hlink : (Cond.methodLink own index arraycopyName).before args s = true) (hnat : (Cond.native arraycopyName).before args s = true) (hstat : (Cond.static arraycopyName).before args s = true) (hini : (Cond.initialized "java/lang/System").before args s = true)
    (hS : va_S A H0 H locs) (hAa : A a) {a0 : Nat} {c0 c1 : ClassId} {n0 n1 : Nat} {f g : Nat → Int32} (hc0 : H[a0]? = some (vp_cell c0 (n0, .inl f))) (hc1 : H[a]? = some (vp_cell c1 (n1, .inl g))) (ht0 : ArrOfT s c0 .int) (ht1 : ArrOfT s c1 .int)
    {mm : Nat} {n : Int32} (hn : n = nI mm) (hm : mm < 2 ^ 31) (h4 : mm ≤ n0) (h5 : mm ≤ n1)
    (hframes : 1 ≤ R.frames) (hlocals : (rest.map fun v => v.category).sum + (nativeFrameWords "java/lang/System" "arraycopy" 5 + 11) ≤ R.locals) (hdg : decode cc pc = .ok (.invokestatic index, 3))
    (kk : ∀ (H1 : Heap) (locs1 : List Loc), H1[a]? = some (vp_cell c1 (n1, .inl (fun j => if j < mm then f j else g j))) → (∀ q : Nat, q ≠ a → H1[q]? = H[q]?) → va_S A H0 H1 locs1 → W p l e R s m args below meth c H1 locs1 cells slots Q (F0 m (pc + 3) ls rest)) : W p l e R s m args below meth c H locs cells slots Q (F0 m pc ls (.int n :: .int 0 :: .ref a :: .int 0 :: .ref a0 :: rest)) := by
  have hz : (0 : Int32).toNatClampNeg = 0 := sb_cl0
  have hz2 : (0 : Int32).toInt = 0 := rfl
  have hnn : n.toNatClampNeg = mm := by rw [hn]; exact nI_clamp hm
  have hni : n.toInt = (mm : Int) := by rw [hn]; exact nI_toInt hm
  intro T hT X
  obtain ⟨-, k0, hk0, cm0, hkk0⟩ := ht0 n0 (fun j => .int (f j))
  obtain ⟨-, k1, hk1, cm1, hkk1⟩ := ht1 n1 (fun j => .int (g j))
  obtain ⟨vm', X', step⟩ := X.arraycopy hexec hown hlink hnat hstat hini (src := a0) (dst := a) (cs := vp_cell c0 (n0, .inl f)) (cd := vp_cell c1 (n1, .inl g)) (srcPos := 0) (destPos := 0) (n := n) (by rw [hT]; exact hc0) (by rw [hT]; exact hc1)
    (fun _ h => by cases h) (fun _ h => by cases h) (fun h => by cases h) (fun h => by cases h) hk0 hk1 hkk0 hkk1 (by simp [refKind]) (by decide) (by decide) (by rw [hn]; exact nI_pos hm)
    (by rw [hz2, hni]; show ¬ _ > ((arrV c0 n0 (fun j => .int (f j))).slots.size : Int); rw [arrV_size]; omega)
    (by rw [hz2, hni]; show ¬ _ > ((arrV c1 n1 (fun j => .int (g j))).slots.size : Int); rw [arrV_size]; omega)
    (fun vm₁ _ i hi => by
      have e : (vp_cell c0 (n0, .inl f)).slots.getD ((0 : Int32).toNatClampNeg + i) .null = .int (f ((0 : Int32).toNatClampNeg + i)) := by
        show (arrV c0 n0 (fun j => .int (f j))).slots.getD _ _ = _
        rw [Array.getD_eq_getD_getElem?, arrV_read _ _ (by omega)]
        rfl
      refine ⟨?_, ?_⟩
      · rw [e]
        rfl
      · rw [e]
        exact trivial)
    (g := F0 m pc ls (.int n :: .int 0 :: .ref a :: .int 0 :: .ref a0 :: rest)) rfl (by rw [hml]) (rest := rest) rfl (by rw [hb]; exact hdg) hframes (by show 2 * 0 + _ + _ ≤ _; omega)
  have e1 : copied (vp_cell c0 (n0, .inl f)) (vp_cell c1 (n1, .inl g)) 0 0 n = vp_cell c1 (n1, .inl (va_cpy f g (0 : Int32).toNatClampNeg (0 : Int32).toNatClampNeg n.toNatClampNeg)) := va_copied (fun z => .int z) c0 c1 f g (by omega)
  have e2 : (va_cpy f g (0 : Int32).toNatClampNeg (0 : Int32).toNatClampNeg n.toNatClampNeg) = fun j => if j < mm then f j else g j := by
    funext j
    rw [hz, hnn]
    simp [va_cpy]
  rw [e1, e2] at X' step
  have hl : a < H.size := (Array.getElem?_eq_some_iff.mp hc1).1
  have oq : ∀ q : Nat, q ≠ a → (H.setIfInBounds a (vp_cell c1 (n1, .inl (fun j => if j < mm then f j else g j))))[q]? = H[q]? := fun q hq => by simp [Array.getElem?_setIfInBounds, Ne.symm hq]
  have hheap : ((T.setVm vm').setCell a (vp_cell c1 (n1, .inl (fun j => if j < mm then f j else g j)))).heap = H.setIfInBounds a (vp_cell c1 (n1, .inl (fun j => if j < mm then f j else g j))) := by rw [← hT]; rfl
  obtain ⟨t, a1, b1⟩ := kk _ _ (show (H.setIfInBounds a _)[a]? = some _ by simp [Array.getElem?_setIfInBounds, hl]) oq ⟨by simp; exact hS.1, fun q g1 g2 => by
      rw [oq q (fun e => g2 (by rw [e]; exact hAa))]
      exact hS.2.1 q g1 g2, fun q hq => by
      rcases List.mem_append.mp hq with h | h
      · exact hS.2.2 q h
      · obtain ⟨z, -, hz⟩ := List.mem_map.mp h
        rw [← hz]
        exact hAa⟩ _ hheap X'
  exact ⟨t, step t a1, b1⟩
end ZH
theorem zS_lo {Y : zY} {s : State} {H : Heap} {locs : List Loc} (hF : zWF Y) (hlo : yO Y ≤ s.heap.size) (h : va_S (zA Y s.heap.size) s.heap H locs) : va_S (fun q => yO Y ≤ q) s.heap H locs := by
  have hA : ∀ q, zA Y s.heap.size q → yO Y ≤ q := fun q hq => hq.elim (hF.2.1 q) (fun h => Nat.le_trans hlo h)
  exact ⟨h.1, fun q h1 h2 => h.2.1 q h1 (fun z => h2 (hA q z)), fun z hz => hA _ (h.2.2 z hz)⟩
section ZC
variable {X : zX} {Y : zY} {u v pc : Nat} {cc : ByteArray} {own : String} {k : zT}
/-- a class of the tables: its place, its fields' words, types, names -/
def zCl (ci : Nat) (C : String) (T : u_T) (N : Nat) (ty : Nat → FieldType) : Prop := vwCl[ci]? = some (C, T, N) ∧ (∀ w ∈ u_ws C T N, w ∈ zTW) ∧ (∀ k, k < N → parseFieldDescriptor (T k).2.2.1 = some (ty k)) ∧ ∀ a, a < N → ∀ b, b < N → a ≠ b → (T a).2.1 ≠ (T b).2.1
def zi_gI (ci j : Nat) (k : zT) : zT := fun ls st h => match st with
  | .inr (.inr (kd, a)) :: st' => cond (Nat.beq kd.1 (10 + ci)) (k ls (.inl (h.1 a j) :: st') h) False
  | _ => False
def zi_gS (ci off t n : Nat) (k : zT) : zT := fun ls st h => match st with
  | .inr (.inr (kd, a)) :: st' => cond (Nat.beq kd.1 (10 + ci)) (k ls (.inr (.inr ((t, n), a + off)) :: st') h) False
  | _ => False
def zi_gR (ci j t n : Nat) (k : zT) : zT := fun ls st h => match st with
  | .inr (.inr (kd, a)) :: st' => cond (Nat.beq kd.1 (10 + ci)) (k ls (.inr (.inr ((t, n), h.2.2 a j)) :: st') h) False
  | _ => False
theorem zcond {b : Bool} {A : Prop} (h : cond b A False) : b = true ∧ A := by
  cases b with
  | true => exact ⟨rfl, h⟩
  | false => exact False.elim h
theorem zbeq {a b : Nat} (h : Nat.beq a b = true) : a = b := Nat.eq_of_beq_eq_true h
theorem zkd {kd : Nat × Nat} {t : Nat} (h : kd.1 = t) : kd = (t, kd.2) := by
  cases kd; cases h; rfl
theorem zr_gI {ci j idx N : Nat} {C : String} {T : u_T} {ty : Nat → FieldType} (O : zOK X Y cc own) (hc : zCl ci C T N ty) (hj : j < N) (hf : (zF ci j).1 = 0) (hl : Cond.fieldLink own idx (T j).1 (T j).2.1 (T j).2.2.1 ∈ zTW) (d : decode cc pc = .ok (.getfield idx, 3)) (hk : zSd X Y u v (pc + 3) k) : zSd X Y u v pc (zi_gI ci j k) := by
  intro ls st h t H locs lsA hR hL hv hS
  rcases st with _ | ⟨_ | _ | ⟨kd, a⟩, st⟩ <;> first | exact False.elim t | skip
  obtain ⟨b, t⟩ := zcond t
  have hka : yK Y a = kd := (zq1 hv).1
  rw [zkd (zbeq b)] at hka
  obtain ⟨r, h1, h2, h3⟩ := (hR a).2.2.2.2.2 ci _ hka
  cases h1.symm.trans hc.1
  have e : zfv ci j a h = .int (h.1 a j) := by simp only [zfv, hf]
  refine zq_get O.1 O.2.1 O.2.2.2.1 hc.2.1 O.2.2.1 O.2.2.2.2.1 h2 hc.1 j hj (O.2.2.2.1 _ hl) d ?_
  rw [e]
  exact hk _ _ _ t H locs lsA hR hL (zqc trivial (zq1 hv).2) hS
theorem zr_gS {ci j idx N off t n : Nat} {C : String} {T : u_T} {ty : Nat → FieldType} (O : zOK X Y cc own) (hc : zCl ci C T N ty) (hj : j < N) (hf : zF ci j = (1, off, t, n)) (hl : Cond.fieldLink own idx (T j).1 (T j).2.1 (T j).2.2.1 ∈ zTW) (d : decode cc pc = .ok (.getfield idx, 3)) (hk : zSd X Y u v (pc + 3) k) : zSd X Y u v pc (zi_gS ci off t n k) := by
  intro ls st h t H locs lsA hR hL hv hS
  rcases st with _ | ⟨_ | _ | ⟨kd, a⟩, st⟩ <;> first | exact False.elim t | skip
  obtain ⟨b, t⟩ := zcond t
  have hka : yK Y a = kd := (zq1 hv).1
  rw [zkd (zbeq b)] at hka
  obtain ⟨r, h1, h2, h3⟩ := (hR a).2.2.2.2.2 ci _ hka
  cases h1.symm.trans hc.1
  have e : zfv ci j a h = .ref (a + off) := by simp only [zfv, hf]
  refine zq_get O.1 O.2.1 O.2.2.2.1 hc.2.1 O.2.2.1 O.2.2.2.2.1 h2 hc.1 j hj (O.2.2.2.1 _ hl) d ?_
  rw [e]
  have hw := O.2.2.2.2.2.2.1.1 a ci _ j hka (by rw [hf])
  rw [hf] at hw
  exact hk _ _ _ t H locs lsA hR hL (zqc hw (zq1 hv).2) hS
theorem zr_gR {ci j idx N off t n : Nat} {C : String} {T : u_T} {ty : Nat → FieldType} (O : zOK X Y cc own) (hc : zCl ci C T N ty) (hj : j < N) (hf : zF ci j = (2, off, t, n)) (hl : Cond.fieldLink own idx (T j).1 (T j).2.1 (T j).2.2.1 ∈ zTW) (d : decode cc pc = .ok (.getfield idx, 3)) (hk : zSd X Y u v (pc + 3) k) : zSd X Y u v pc (zi_gR ci j t n k) := by
  intro ls st h t H locs lsA hR hL hv hS
  rcases st with _ | ⟨_ | _ | ⟨kd, a⟩, st⟩ <;> first | exact False.elim t | skip
  obtain ⟨b, t⟩ := zcond t
  have hka : yK Y a = kd := (zq1 hv).1
  rw [zkd (zbeq b)] at hka
  obtain ⟨r, h1, h2, h3⟩ := (hR a).2.2.2.2.2 ci _ hka
  cases h1.symm.trans hc.1
  have e : zfv ci j a h = .ref (h.2.2 a j) := by simp only [zfv, hf]
  refine zq_get O.1 O.2.1 O.2.2.2.1 hc.2.1 O.2.2.1 O.2.2.2.2.1 h2 hc.1 j hj (O.2.2.2.1 _ hl) d ?_
  rw [e]
  have hw := h3 j (by rw [hf])
  rw [hf] at hw
  exact hk _ _ _ t H locs lsA hR hL (zqc hw (zq1 hv).2) hS
def zi_pI (ci j : Nat) (k : zT) : zT := fun ls st h => match st with
  | .inl x :: .inr (.inr (kd, a)) :: st' => cond (Nat.beq kd.1 (10 + ci)) (k ls st' (zsI h a j x)) False
  | _ => False
def zi_pR (ci j t n : Nat) (k : zT) : zT := fun ls st h => match st with
  | .inr (.inr (kv, b)) :: .inr (.inr (kd, a)) :: st' => cond (Nat.beq kd.1 (10 + ci) && (Nat.beq kv.1 t && Nat.beq kv.2 n)) (k ls st' (zsR h a j b)) False
  | _ => False
theorem zr_pI {ci j idx N : Nat} {C : String} {T : u_T} {ty : Nat → FieldType} (O : zOK X Y cc own) (hc : zCl ci C T N ty) (hj : j < N) (hf : (zF ci j).1 = 0) (hfin : (T j).2.2.2 = false) (hty : ty j = .int) (hl : Cond.fieldLink own idx (T j).1 (T j).2.1 (T j).2.2.1 ∈ zTW) (d : decode cc pc = .ok (.putfield idx, 3)) (hk : zSd X Y u v (pc + 3) k) : zSd X Y u v pc (zi_pI ci j k) := by
  intro ls st h t H locs lsA hR hL hv hS
  rcases st with _ | ⟨x | _, _ | ⟨_ | _ | ⟨kd, a⟩, st⟩⟩ <;> first | exact False.elim t | skip
  obtain ⟨b, t⟩ := zcond t
  have hka : yK Y a = kd := (zq1 (zq1 hv).2).1
  rw [zkd (zbeq b)] at hka
  obtain ⟨r, h1, h2, h3⟩ := (hR a).2.2.2.2.2 ci _ hka
  cases h1.symm.trans hc.1
  refine zq_put (v := .int x) O.1 O.2.1 O.2.2.2.1 hc.2.1 ty hc.2.2.1 hc.2.2.2 O.2.2.1 O.2.2.2.2.1 h2 hS (zA_of hka (zwr_of (by omega))) hc.1 j hj (O.2.2.2.1 _ hl) hfin (by rw [hty]; rfl) (by rw [hty]; rfl) d (fun H1 locs1 g1 g2 g3 => ?_)
  refine hk _ _ _ t H1 locs1 lsA ?_ hL (zq2 hv) g3
  refine zR_upd a hR g2 (fun q hq => zup_n _ _ hq) (fun q _ => rfl) (fun q _ => rfl) ?_
  refine ⟨fun n hn => ?_, fun n hn => ?_, fun n hn => ?_, fun n hn => ?_, fun n hn => ?_, fun ci' n hn => ?_⟩
  · have := (ztag hka hn).1; omega
  · have := (ztag hka hn).1; omega
  · have := (ztag hka hn).1; omega
  · have := (ztag hka hn).1; omega
  · have := (ztag hka hn).1; omega
  · have hci : ci' = ci := by have := (ztag hka hn).1; omega
    subst hci
    refine ⟨_, hc.1, g1.to (fun i _ => ?_), h3⟩
    by_cases hi : i = j
    · subst hi
      simp [updV, zfv, hf, zsI, va_up]
    · simp [updV, zfv, hi, zsI, va_up]
theorem zr_pR {ci j idx N off t n : Nat} {C : String} {T : u_T} {ty : Nat → FieldType} {D : String} (O : zOK X Y cc own) (hc : zCl ci C T N ty) (hj : j < N) (hf : zF ci j = (2, off, t, n)) (hfin : (T j).2.2.2 = false) (hty : ty j = .object D) (hl : Cond.fieldLink own idx (T j).1 (T j).2.1 (T j).2.2.1 ∈ zTW) (d : decode cc pc = .ok (.putfield idx, 3)) (hk : zSd X Y u v (pc + 3) k) : zSd X Y u v pc (zi_pR ci j t n k) := by
  intro ls st h t H locs lsA hR hL hv hS
  rcases st with _ | ⟨_ | _ | ⟨kv, q⟩, _ | ⟨_ | _ | ⟨kd, a⟩, st⟩⟩ <;> first | exact False.elim t | skip
  obtain ⟨b, t⟩ := zcond t
  simp only [Bool.and_eq_true] at b
  obtain ⟨b, b2, b3⟩ := b
  have hka : yK Y a = kd := (zq1 (zq1 hv).2).1
  have hkq : yK Y q = kv := (zq1 hv).1
  rw [zkd (zbeq b)] at hka
  rw [zkd (zbeq b2), zbeq b3] at hkq
  obtain ⟨r, h1, h2, h3⟩ := (hR a).2.2.2.2.2 ci _ hka
  cases h1.symm.trans hc.1
  refine zq_put (v := .ref q) O.1 O.2.1 O.2.2.2.1 hc.2.1 ty hc.2.2.1 hc.2.2.2 O.2.2.1 O.2.2.2.2.1 h2 hS (zA_of hka (zwr_of (by omega))) hc.1 j hj (O.2.2.2.1 _ hl) hfin (by rw [hty]; rfl) (by rw [hty]; rfl) d (fun H1 locs1 g1 g2 g3 => ?_)
  refine hk _ _ _ t H1 locs1 lsA ?_ hL (zq2 hv) g3
  refine zR_upd a hR g2 (fun q _ => rfl) (fun q _ => rfl) (fun q hq => zup_n _ _ hq) ?_
  refine ⟨fun n hn => ?_, fun n hn => ?_, fun n hn => ?_, fun n hn => ?_, fun n hn => ?_, fun ci' n hn => ?_⟩
  · have := (ztag hka hn).1; omega
  · have := (ztag hka hn).1; omega
  · have := (ztag hka hn).1; omega
  · have := (ztag hka hn).1; omega
  · have := (ztag hka hn).1; omega
  · have hci : ci' = ci := by have := (ztag hka hn).1; omega
    subst hci
    refine ⟨_, hc.1, g1.to (fun i _ => ?_), fun i hi => ?_⟩
    · by_cases hi : i = j
      · subst hi
        simp [updV, zfv, hf, zsR, va_up]
      · simp [updV, zfv, hi, zsR, va_up]
    · by_cases hij : i = j
      · subst hij
        simp [zsR, va_up, hf, hkq]
      · simpa [zsR, va_up, hij] using h3 i hi
/-! arrays -/
def zi_iald (k : zT) : zT := fun ls st h => match st with
  | .inl i :: .inr (.inr (kd, a)) :: st' => cond (Nat.beq kd.1 1) (∃ j : Nat, i = nI j ∧ j < kd.2 ∧ k ls (.inl (h.1 a j) :: st') h) False
  | _ => False
def zi_bald (k : zT) : zT := fun ls st h => match st with
  | .inl i :: .inr (.inr (kd, a)) :: st' => cond (Nat.beq kd.1 2) (∃ j : Nat, i = nI j ∧ j < kd.2 ∧ k ls (.inl (h.1 a j) :: st') h) False
  | _ => False
def zi_lald (k : zT) : zT := fun ls st h => match st with
  | .inl i :: .inr (.inr (kd, a)) :: st' => cond (Nat.beq kd.1 3) (∃ j : Nat, i = nI j ∧ j < kd.2 ∧ k ls (.inr (.inl (h.2.1 a j)) :: st') h) False
  | _ => False
def zi_aald4 (k : zT) : zT := fun ls st h => match st with
  | .inl i :: .inr (.inr (kd, a)) :: st' => cond (Nat.beq kd.1 4) (∃ j : Nat, i = nI j ∧ j < kd.2 ∧ k ls (.inr (.inr ((16, 0), h.2.2 a j)) :: st') h) False
  | _ => False
def zi_aald5 (k : zT) : zT := fun ls st h => match st with
  | .inl i :: .inr (.inr (kd, a)) :: st' => cond (Nat.beq kd.1 5) (∃ j : Nat, i = nI j ∧ j < kd.2 ∧ k ls (.inr (.inr ((13, 0), h.2.2 a j)) :: st') h) False
  | _ => False
theorem zr_iald (O : zOK X Y cc own) (d : decode cc pc = .ok (.iaload, 1)) (hk : zSd X Y u v (pc + 1) k) : zSd X Y u v pc (zi_iald k) := by
  intro ls st h t H locs lsA hR hL hv hS
  rcases st with _ | ⟨i | _, _ | ⟨_ | _ | ⟨kd, a⟩, st⟩⟩ <;> first | exact False.elim t | skip
  obtain ⟨b, j, rfl, hj, t⟩ := zcond t
  have hka : yK Y a = kd := (zq1 (zq1 hv).2).1
  rw [zkd (zbeq b)] at hka
  obtain ⟨hin, hcl⟩ := zin_of O.2.2.2.2.2.2.1 hka hj
  exact W.iald (v := .int (h.1 a j)) O.1 O.2.1 ((hR a).1 _ hka) ((O.2.2.2.2.1.2 0 _ rfl).1 kd.2 (fun i => .int (h.1 a i))) (fun q => by cases q) (by show ¬ (_ ∨ (arrV _ _ _).slots.size ≤ _); rw [arrV_size]; exact hin) (by show (arrV _ _ _).slots[_]? = _; rw [hcl, arrV_read _ _ hj]) rfl rfl d (hk _ _ _ t H locs lsA hR hL (zqc trivial (zq2 hv)) hS)
theorem zr_bald (O : zOK X Y cc own) (d : decode cc pc = .ok (.baload, 1)) (hk : zSd X Y u v (pc + 1) k) : zSd X Y u v pc (zi_bald k) := by
  intro ls st h t H locs lsA hR hL hv hS
  rcases st with _ | ⟨i | _, _ | ⟨_ | _ | ⟨kd, a⟩, st⟩⟩ <;> first | exact False.elim t | skip
  obtain ⟨b, j, rfl, hj, t⟩ := zcond t
  have hka : yK Y a = kd := (zq1 (zq1 hv).2).1
  rw [zkd (zbeq b)] at hka
  obtain ⟨hin, hcl⟩ := zin_of O.2.2.2.2.2.2.1 hka hj
  exact W.bald (v := .int (h.1 a j)) O.1 O.2.1 ((hR a).2.1 _ hka) ((O.2.2.2.2.1.2 1 _ rfl).1 kd.2 (fun i => .int (h.1 a i))) (fun q => by cases q) (by show ¬ (_ ∨ (arrV _ _ _).slots.size ≤ _); rw [arrV_size]; exact hin) (by show (arrV _ _ _).slots[_]? = _; rw [hcl, arrV_read _ _ hj]) rfl rfl d (hk _ _ _ t H locs lsA hR hL (zqc trivial (zq2 hv)) hS)
theorem zr_lald (O : zOK X Y cc own) (d : decode cc pc = .ok (.laload, 1)) (hk : zSd X Y u v (pc + 1) k) : zSd X Y u v pc (zi_lald k) := by
  intro ls st h t H locs lsA hR hL hv hS
  rcases st with _ | ⟨i | _, _ | ⟨_ | _ | ⟨kd, a⟩, st⟩⟩ <;> first | exact False.elim t | skip
  obtain ⟨b, j, rfl, hj, t⟩ := zcond t
  have hka : yK Y a = kd := (zq1 (zq1 hv).2).1
  rw [zkd (zbeq b)] at hka
  obtain ⟨hin, hcl⟩ := zin_of O.2.2.2.2.2.2.1 hka hj
  exact W.lald (v := .long (h.2.1 a j)) O.1 O.2.1 ((hR a).2.2.1 _ hka) ((O.2.2.2.2.1.2 2 _ rfl).1 kd.2 (fun i => .long (h.2.1 a i))) (fun q => by cases q) (by show ¬ (_ ∨ (arrV _ _ _).slots.size ≤ _); rw [arrV_size]; exact hin) (by show (arrV _ _ _).slots[_]? = _; rw [hcl, arrV_read _ _ hj]) rfl rfl d (hk _ _ _ t H locs lsA hR hL (zqc trivial (zq2 hv)) hS)
theorem zr_aald4 (O : zOK X Y cc own) (d : decode cc pc = .ok (.aaload, 1)) (hk : zSd X Y u v (pc + 1) k) : zSd X Y u v pc (zi_aald4 k) := by
  intro ls st h t H locs lsA hR hL hv hS
  rcases st with _ | ⟨i | _, _ | ⟨_ | _ | ⟨kd, a⟩, st⟩⟩ <;> first | exact False.elim t | skip
  obtain ⟨b, j, rfl, hj, t⟩ := zcond t
  have hka : yK Y a = kd := (zq1 (zq1 hv).2).1
  rw [zkd (zbeq b)] at hka
  obtain ⟨hin, hcl⟩ := zin_of O.2.2.2.2.2.2.1 hka hj
  obtain ⟨hcell, hkinds⟩ := (hR a).2.2.2.1 _ hka
  exact W.aald (v := .ref (h.2.2 a j)) (ty := .object RX7) O.1 O.2.1 hcell ((O.2.2.2.2.1.2 3 _ rfl).1 kd.2 (fun i => va_rf (some (h.2.2 a i)))) rfl (fun q => by cases q) (by show ¬ (_ ∨ (arrV _ _ _).slots.size ≤ _); rw [arrV_size]; exact hin) (by show (arrV _ _ _).slots[_]? = _; rw [hcl, arrV_read _ _ hj]; rfl) rfl rfl d (hk _ _ _ t H locs lsA hR hL (zqc (hkinds j hj) (zq2 hv)) hS)
theorem zr_aald5 (O : zOK X Y cc own) (d : decode cc pc = .ok (.aaload, 1)) (hk : zSd X Y u v (pc + 1) k) : zSd X Y u v pc (zi_aald5 k) := by
  intro ls st h t H locs lsA hR hL hv hS
  rcases st with _ | ⟨i | _, _ | ⟨_ | _ | ⟨kd, a⟩, st⟩⟩ <;> first | exact False.elim t | skip
  obtain ⟨b, j, rfl, hj, t⟩ := zcond t
  have hka : yK Y a = kd := (zq1 (zq1 hv).2).1
  rw [zkd (zbeq b)] at hka
  obtain ⟨hin, hcl⟩ := zin_of O.2.2.2.2.2.2.1 hka hj
  obtain ⟨hcell, hkinds⟩ := (hR a).2.2.2.2.1 _ hka
  exact W.aald (v := .ref (h.2.2 a j)) (ty := .object RX4) O.1 O.2.1 hcell ((O.2.2.2.2.1.2 4 _ rfl).1 kd.2 (fun i => va_rf (some (h.2.2 a i)))) rfl (fun q => by cases q) (by show ¬ (_ ∨ (arrV _ _ _).slots.size ≤ _); rw [arrV_size]; exact hin) (by show (arrV _ _ _).slots[_]? = _; rw [hcl, arrV_read _ _ hj]; rfl) rfl rfl d (hk _ _ _ t H locs lsA hR hL (zqc (hkinds j hj) (zq2 hv)) hS)
def zi_iast (k : zT) : zT := fun ls st h => match st with
  | .inl x :: .inl i :: .inr (.inr (kd, a)) :: st' => cond (Nat.beq kd.1 1) (∃ j : Nat, i = nI j ∧ j < kd.2 ∧ k ls st' (zsI h a j x)) False
  | _ => False
def zi_bast (k : zT) : zT := fun ls st h => match st with
  | .inl x :: .inl i :: .inr (.inr (kd, a)) :: st' => cond (Nat.beq kd.1 2) (∃ j : Nat, i = nI j ∧ j < kd.2 ∧ k ls st' (zsI h a j x.toInt8.toInt32)) False
  | _ => False
def zi_last (k : zT) : zT := fun ls st h => match st with
  | .inr (.inl x) :: .inl i :: .inr (.inr (kd, a)) :: st' => cond (Nat.beq kd.1 3) (∃ j : Nat, i = nI j ∧ j < kd.2 ∧ k ls st' (zsL h a j x)) False
  | _ => False
def zi_aast4 (k : zT) : zT := fun ls st h => match st with
  | .inr (.inr (kv, q)) :: .inl i :: .inr (.inr (kd, a)) :: st' => cond (Nat.beq kd.1 4 && (Nat.beq kv.1 16 && Nat.beq kv.2 0)) (∃ j : Nat, i = nI j ∧ j < kd.2 ∧ k ls st' (zsR h a j q)) False
  | _ => False
theorem zupd_arr {β : Type} (C : β → Value) (cA : ClassId) (n j : Nat) (f : Nat → β) (x : β) : (arrV cA n (fun i => C (f i))).setSlot j (C x) = arrV cA n (fun i => C (va_up f j x i)) := by
  rw [arrV_store]
  congr 1
  funext q
  by_cases hq : q = j
  · subst hq
    simp [updV, va_up]
  · simp [updV, va_up, hq]
theorem zr_iast (O : zOK X Y cc own) (d : decode cc pc = .ok (.iastore, 1)) (hk : zSd X Y u v (pc + 1) k) : zSd X Y u v pc (zi_iast k) := by
  intro ls st h t H locs lsA hR hL hv hS
  rcases st with _ | ⟨x | _, _ | ⟨i | _, _ | ⟨_ | _ | ⟨kd, a⟩, st⟩⟩⟩ <;> first | exact False.elim t | skip
  obtain ⟨b, j, rfl, hj, t⟩ := zcond t
  have hka : yK Y a = kd := (zq1 (zq1 (zq1 hv).2).2).1
  rw [zkd (zbeq b)] at hka
  obtain ⟨hin, hcl⟩ := zin_of O.2.2.2.2.2.2.1 hka hj
  refine W.iast O.1 O.2.1 ((hR a).1 _ hka) ((O.2.2.2.2.1.2 0 _ rfl).1 kd.2 (fun i => .int (h.1 a i))) (fun q => by cases q) (by show ¬ (_ ∨ (arrV _ _ _).slots.size ≤ _); rw [arrV_size]; exact hin) rfl rfl d fun H1 e1 e2 e3 => ?_
  refine hk _ _ _ t H1 _ lsA ?_ hL (zq1 (zq2 hv)).2 (hS.put e2 e3 (zA_of hka (zwr_of (by omega))))
  refine zR_upd a hR e3 (fun q hq => zup_n _ _ hq) (fun q _ => rfl) (fun q _ => rfl) ?_
  refine ⟨fun n hn => ?_, fun n hn => ?_, fun n hn => ?_, fun n hn => ?_, fun n hn => ?_, fun ci n hn => ?_⟩
  · cases (ztag hka hn).2
    rw [e1, hcl]
    rw [show (zsI h a j x).1 a = va_up (h.1 a) j x from zup_s _ _ _]
    exact congrArg some (zupd_arr .int _ _ _ _ _)
  · have := (ztag hka hn).1; omega
  · have := (ztag hka hn).1; omega
  · have := (ztag hka hn).1; omega
  · have := (ztag hka hn).1; omega
  · have := (ztag hka hn).1; omega
theorem zr_bast (O : zOK X Y cc own) (d : decode cc pc = .ok (.bastore, 1)) (hk : zSd X Y u v (pc + 1) k) : zSd X Y u v pc (zi_bast k) := by
  intro ls st h t H locs lsA hR hL hv hS
  rcases st with _ | ⟨x | _, _ | ⟨i | _, _ | ⟨_ | _ | ⟨kd, a⟩, st⟩⟩⟩ <;> first | exact False.elim t | skip
  obtain ⟨b, j, rfl, hj, t⟩ := zcond t
  have hka : yK Y a = kd := (zq1 (zq1 (zq1 hv).2).2).1
  rw [zkd (zbeq b)] at hka
  obtain ⟨hin, hcl⟩ := zin_of O.2.2.2.2.2.2.1 hka hj
  refine W.bast O.1 O.2.1 ((hR a).2.1 _ hka) ((O.2.2.2.2.1.2 1 _ rfl).1 kd.2 (fun i => .int (h.1 a i))) (fun q => by cases q) (by show ¬ (_ ∨ (arrV _ _ _).slots.size ≤ _); rw [arrV_size]; exact hin) rfl rfl d fun H1 e1 e2 e3 => ?_
  refine hk _ _ _ t H1 _ lsA ?_ hL (zq1 (zq2 hv)).2 (hS.put e2 e3 (zA_of hka (zwr_of (by omega))))
  refine zR_upd a hR e3 (fun q hq => zup_n _ _ hq) (fun q _ => rfl) (fun q _ => rfl) ?_
  refine ⟨fun n hn => ?_, fun n hn => ?_, fun n hn => ?_, fun n hn => ?_, fun n hn => ?_, fun ci n hn => ?_⟩
  · have := (ztag hka hn).1; omega
  · cases (ztag hka hn).2
    rw [e1, hcl]
    rw [show narrow FieldType.byte (Value.int x) = Value.int x.toInt8.toInt32 from rfl]
    rw [show (zsI h a j x.toInt8.toInt32).1 a = va_up (h.1 a) j x.toInt8.toInt32 from zup_s _ _ _]
    exact congrArg some (zupd_arr .int _ _ _ _ _)
  · have := (ztag hka hn).1; omega
  · have := (ztag hka hn).1; omega
  · have := (ztag hka hn).1; omega
  · have := (ztag hka hn).1; omega
theorem zr_last (O : zOK X Y cc own) (d : decode cc pc = .ok (.lastore, 1)) (hk : zSd X Y u v (pc + 1) k) : zSd X Y u v pc (zi_last k) := by
  intro ls st h t H locs lsA hR hL hv hS
  rcases st with _ | ⟨_ | x | _, _ | ⟨i | _, _ | ⟨_ | _ | ⟨kd, a⟩, st⟩⟩⟩ <;> first | exact False.elim t | skip
  obtain ⟨b, j, rfl, hj, t⟩ := zcond t
  have hka : yK Y a = kd := (zq1 (zq1 (zq1 hv).2).2).1
  rw [zkd (zbeq b)] at hka
  obtain ⟨hin, hcl⟩ := zin_of O.2.2.2.2.2.2.1 hka hj
  refine W.last O.1 O.2.1 ((hR a).2.2.1 _ hka) ((O.2.2.2.2.1.2 2 _ rfl).1 kd.2 (fun i => .long (h.2.1 a i))) (fun q => by cases q) (by show ¬ (_ ∨ (arrV _ _ _).slots.size ≤ _); rw [arrV_size]; exact hin) rfl rfl d fun H1 e1 e2 e3 => ?_
  refine hk _ _ _ t H1 _ lsA ?_ hL (zq1 (zq2 hv)).2 (hS.put e2 e3 (zA_of hka (zwr_of (by omega))))
  refine zR_upd a hR e3 (fun q _ => rfl) (fun q hq => zup_n _ _ hq) (fun q _ => rfl) ?_
  refine ⟨fun n hn => ?_, fun n hn => ?_, fun n hn => ?_, fun n hn => ?_, fun n hn => ?_, fun ci n hn => ?_⟩
  · have := (ztag hka hn).1; omega
  · have := (ztag hka hn).1; omega
  · cases (ztag hka hn).2
    rw [e1, hcl]
    rw [show (zsL h a j x).2.1 a = va_up (h.2.1 a) j x from zup_s _ _ _]
    exact congrArg some (zupd_arr .long _ _ _ _ _)
  · have := (ztag hka hn).1; omega
  · have := (ztag hka hn).1; omega
  · have := (ztag hka hn).1; omega
theorem zr_aast4 (O : zOK X Y cc own) (d : decode cc pc = .ok (.aastore, 1)) (hk : zSd X Y u v (pc + 1) k) : zSd X Y u v pc (zi_aast4 k) := by
  intro ls st h t H locs lsA hR hL hv hS
  rcases st with _ | ⟨_ | _ | ⟨kv, q⟩, _ | ⟨i | _, _ | ⟨_ | _ | ⟨kd, a⟩, st⟩⟩⟩ <;> first | exact False.elim t | skip
  obtain ⟨b, j, rfl, hj, t⟩ := zcond t
  simp only [Bool.and_eq_true] at b
  obtain ⟨b, b2, b3⟩ := b
  have hka : yK Y a = kd := (zq1 (zq1 (zq1 hv).2).2).1
  have hkq : yK Y q = kv := (zq1 hv).1
  rw [zkd (zbeq b)] at hka
  rw [zkd (zbeq b2), zbeq b3] at hkq
  obtain ⟨hin, hcl⟩ := zin_of O.2.2.2.2.2.2.1 hka hj
  obtain ⟨hcell, hkinds⟩ := (hR a).2.2.2.1 _ hka
  obtain ⟨r, h1, ⟨cellV, g1, g2, g3, -⟩, -⟩ := (hR q).2.2.2.2.2 6 _ hkq
  have hcls := (O.2.2.2.2.1.1 6 _ (rfl : vwCl[6]? = some (RX7, TX7, 3))).2
  obtain ⟨kA, comp, k1, k2, k3, -⟩ := (O.2.2.2.2.1.2 3 _ rfl).2
  have hcomp : comp = (yD Y).1 6 := Option.some.inj (k3.symm.trans hcls.1)
  subst hcomp
  obtain ⟨kC, hkC, -⟩ := hcls.2
  refine W.aast O.1 O.2.1 hcell (fun q h => by cases h) (fun h => by cases h) k1 k2 rfl hkC ⟨fun z => hin (Or.inl z), by show _ < (arrV _ _ _).slots.size; rw [arrV_size, hcl]; exact hj⟩ g1 (fun q h => by rw [g3] at h; cases h) (by rw [g2]; exact hkC) (by rw [g2]; exact va_assign hcls) rfl rfl d fun H1 e1 e2 e3 => ?_
  refine hk _ _ _ t H1 _ lsA ?_ hL (zq1 (zq2 hv)).2 (hS.put e2 e3 (zA_of hka (zwr_of (by omega))))
  refine zR_upd a hR e3 (fun q _ => rfl) (fun q _ => rfl) (fun q hq => zup_n _ _ hq) ?_
  refine ⟨fun n hn => ?_, fun n hn => ?_, fun n hn => ?_, fun n hn => ?_, fun n hn => ?_, fun ci n hn => ?_⟩
  · have := (ztag hka hn).1; omega
  · have := (ztag hka hn).1; omega
  · have := (ztag hka hn).1; omega
  · cases (ztag hka hn).2
    refine ⟨?_, fun i hi => ?_⟩
    · rw [e1, hcl]
      rw [show (zsR h a j q).2.2 a = va_up (h.2.2 a) j q from zup_s _ _ _]
      exact congrArg some (zupd_arr (fun z => va_rf (some z)) _ _ _ _ _)
    · rw [show (zsR h a j q).2.2 a = va_up (h.2.2 a) j q from zup_s _ _ _]
      by_cases hij : i = j
      · subst hij
        rw [zup_s]; exact hkq
      · rw [zup_n _ _ hij]; exact hkinds i hi
  · have := (ztag hka hn).1; omega
  · have := (ztag hka hn).1; omega
/-! constant arrays, the script -/
def zi_gst (n : Nat) (k : zT) : zT := fun ls st h => ∀ t : Nat, k ls (.inr (.inr ((8, n), t)) :: st) h
theorem zr_gst {n idx : Nat} (O : zOK X Y cc own) (hn : n < 2) (hl : Cond.fieldLink own idx RX0 (zCf n) "[I" ∈ zTW) (d : decode cc pc = .ok (.getstatic idx, 3)) (hk : zSd X Y u v (pc + 3) k) : zSd X Y u v pc (zi_gst n k) := by
  intro ls st h t H locs lsA hR hL hv hS
  obtain ⟨t0, ht0, hZ⟩ := O.2.2.2.2.2.1.2.2.2.2.1.1 n hn
  exact va_gets O.1 O.2.1 hZ (zS_lo O.2.2.2.2.2.2.1 O.2.2.2.2.2.2.2 hS) O.2.2.1 (O.2.2.2.1 _ hl) (fun _ h9 => h9) d (hk _ _ _ (t t0) H locs lsA hR hL (zqc ht0 hv) hS)
def zi_iald8 (k : zT) : zT := fun ls st h => match st with
  | .inl i :: .inr (.inr (kd, a)) :: st' => cond (Nat.beq kd.1 8) (∃ j : Nat, i = nI j ∧ j < zCn kd.2 ∧ k ls (.inl (zCc kd.2 j) :: st') h) False
  | _ => False
theorem zr_iald8 (O : zOK X Y cc own) (d : decode cc pc = .ok (.iaload, 1)) (hk : zSd X Y u v (pc + 1) k) : zSd X Y u v pc (zi_iald8 k) := by
  intro ls st h t H locs lsA hR hL hv hS
  rcases st with _ | ⟨i | _, _ | ⟨_ | _ | ⟨kd, a⟩, st⟩⟩ <;> first | exact False.elim t | skip
  obtain ⟨b, j, rfl, hj, t⟩ := zcond t
  have hka : yK Y a = kd := (zq1 (zq1 hv).2).1
  rw [zkd (zbeq b)] at hka
  have hj7 : zCn kd.2 < 2 ^ 31 := by unfold zCn; split <;> decide
  have hcl : (nI j).toNatClampNeg = j := nI_clamp (by omega)
  exact va_ti O.1 O.2.1 (O.2.2.2.2.2.1.2.2.2.2.1.2 a _ hka) (zS_lo O.2.2.2.2.2.2.1 O.2.2.2.2.2.2.2 hS) (vp_in_nI hj hj7) (v := .int (zCc kd.2 j)) (by rw [hcl]) d (hk _ _ _ t H locs lsA hR hL (zqc trivial (zq2 hv)) hS)
def zi_iald9 (xs : Nat → Int32) (k : zT) : zT := fun ls st h => match st with
  | .inl i :: .inr (.inr (kd, a)) :: st' => cond (Nat.beq kd.1 9) (∃ j : Nat, i = nI j ∧ j < kd.2 ∧ k ls (.inl (xs j) :: st') h) False
  | _ => False
theorem zr_iald9 (O : zOK X Y cc own) (d : decode cc pc = .ok (.iaload, 1)) (hk : zSd X Y u v (pc + 1) k) : zSd X Y u v pc (zi_iald9 (yX Y) k) := by
  intro ls st h t H locs lsA hR hL hv hS
  rcases st with _ | ⟨i | _, _ | ⟨_ | _ | ⟨kd, a⟩, st⟩⟩ <;> first | exact False.elim t | skip
  obtain ⟨b, j, rfl, hj, t⟩ := zcond t
  have hka : yK Y a = kd := (zq1 (zq1 hv).2).1
  rw [zkd (zbeq b)] at hka
  obtain ⟨hin, hcl⟩ := zin_of O.2.2.2.2.2.2.1 hka hj
  obtain ⟨hx, hlt⟩ := O.2.2.2.2.2.1.2.2.2.2.2.2.2 a _ hka
  have hlo := O.2.2.2.2.2.2.2
  refine va_sld O.1 O.2.1 hx (by omega) (Nat.not_le.mpr hlt) (zS_lo O.2.2.2.2.2.2.1 hlo hS) hin d ?_
  rw [hcl]
  exact hk _ _ _ t H locs lsA hR hL (zqc trivial (zq2 hv)) hS
def zi_alen9 (k : zT) : zT := fun ls st h => match st with
  | .inr (.inr (kd, a)) :: st' => cond (Nat.beq kd.1 9) (k ls (.inl (nI kd.2) :: st') h) False
  | _ => False
theorem zr_alen9 (O : zOK X Y cc own) (d : decode cc pc = .ok (.arraylength, 1)) (hk : zSd X Y u v (pc + 1) k) : zSd X Y u v pc (zi_alen9 k) := by
  intro ls st h t H locs lsA hR hL hv hS
  rcases st with _ | ⟨_ | _ | ⟨kd, a⟩, st⟩ <;> first | exact False.elim t | skip
  obtain ⟨b, t⟩ := zcond t
  have hka : yK Y a = kd := (zq1 hv).1
  rw [zkd (zbeq b)] at hka
  obtain ⟨hx, hlt⟩ := O.2.2.2.2.2.1.2.2.2.2.2.2.2 a _ hka
  have hlo := O.2.2.2.2.2.2.2
  exact va_slen O.1 O.2.1 hx (by omega) (Nat.not_le.mpr hlt) (zS_lo O.2.2.2.2.2.2.1 hlo hS) d (hk _ _ _ t H locs lsA hR hL (zqc trivial (zq1 hv).2) hS)
/-! the JDK's: max, min, arraycopy -/
def zw : List zV → Nat
  | [] => 0
  | .inl _ :: l => 1 + zw l
  | .inr (.inl _) :: l => 2 + zw l
  | .inr (.inr _) :: l => 1 + zw l
theorem zw_sum : ∀ l : List zV, ((l.map zv).map fun v => v.category).sum = zw l
  | [] => rfl
  | .inl _ :: l => by rw [zw, ← zw_sum l]; rfl
  | .inr (.inl _) :: l => by rw [zw, ← zw_sum l]; rfl
  | .inr (.inr _) :: l => by rw [zw, ← zw_sum l]; rfl
def zi_max (k : zT) : zT := fun ls st h => match st with
  | .inl y :: .inl x :: st' => cond (Nat.ble (zw st') 8) (k ls (.inl (if x < y then y else x) :: st') h) False
  | _ => False
def zi_min (k : zT) : zT := fun ls st h => match st with
  | .inl y :: .inl x :: st' => cond (Nat.ble (zw st') 8) (k ls (.inl (if y < x then y else x) :: st') h) False
  | _ => False
theorem zlsz {nL : Nat} {ls : zL} {lsA : Array Slot} (h : zLk Y nL ls lsA) : nL = lsA.size := h.1.1.symm
def zwM : Prop := Cond.initialized "java/lang/Math" ∈ zTW ∧ Cond.static Lib.Math.max.name ∈ zTW ∧ Cond.code Lib.Math.max.name Lib.Math.max.code 2 (some .int) ∈ zTW ∧ Cond.static Lib.Math.min.name ∈ zTW ∧ Cond.code Lib.Math.min.name Lib.Math.min.code 2 (some .int) ∈ zTW
theorem zr_max {idx : Nat} (O : zOK X Y cc own) (hm : zwM) (hl : Cond.methodLink own idx Lib.Math.max.name ∈ zTW) (hr : 1 ≤ (xR X).frames ∧ 21 ≤ (xR X).locals ∧ u ≤ (xR X).cells ∧ v ≤ (xR X).slots) (d : decode cc pc = .ok (.invokestatic idx, 3)) (hk : zSd X Y u v (pc + 3) k) : zSd X Y u v pc (zi_max k) := by
  intro ls st h t H locs lsA hR hL hv hS
  rcases st with _ | ⟨y | _, _ | ⟨x | _, st⟩⟩ <;> first | exact False.elim t | skip
  obtain ⟨b, t⟩ := zcond t
  have hb := Nat.le_of_ble_eq_true b
  have hts := O.2.2.2.1
  exact va_mmax O.1 O.2.1 (zlsz hL) O.2.2.1 (hts _ hl) (hts _ hm.2.1) (hts _ hm.1) (hts _ hm.2.2.1) hr.1 (by rw [zw_sum]; omega) hr.2.2.1 hr.2.2.2 d (hk _ _ _ t H locs lsA hR hL (zqc trivial (zq2 hv)) hS)
theorem zr_min {idx : Nat} (O : zOK X Y cc own) (hm : zwM) (hl : Cond.methodLink own idx Lib.Math.min.name ∈ zTW) (hr : 1 ≤ (xR X).frames ∧ 21 ≤ (xR X).locals ∧ u ≤ (xR X).cells ∧ v ≤ (xR X).slots) (d : decode cc pc = .ok (.invokestatic idx, 3)) (hk : zSd X Y u v (pc + 3) k) : zSd X Y u v pc (zi_min k) := by
  intro ls st h t H locs lsA hR hL hv hS
  rcases st with _ | ⟨y | _, _ | ⟨x | _, st⟩⟩ <;> first | exact False.elim t | skip
  obtain ⟨b, t⟩ := zcond t
  have hb := Nat.le_of_ble_eq_true b
  have hts := O.2.2.2.1
  exact va_mmin O.1 O.2.1 (zlsz hL) O.2.2.1 (hts _ hl) (hts _ hm.2.2.2.1) (hts _ hm.1) (hts _ hm.2.2.2.2) hr.1 (by rw [zw_sum]; omega) hr.2.2.1 hr.2.2.2 d (hk _ _ _ t H locs lsA hR hL (zqc trivial (zq2 hv)) hS)
/-- arraycopy of ints, from 0 to 0 -/
def zi_cpy (k : zT) : zT := fun ls st h => match st with
  | .inl n :: .inl dp :: .inr (.inr (kd, a)) :: .inl sp :: .inr (.inr (ks, q)) :: st' => cond (Nat.beq kd.1 1 && (Nat.beq ks.1 1 && Nat.ble (zw st') 8)) (dp = 0 ∧ sp = 0 ∧ ∃ j : Nat, n = nI j ∧ j ≤ kd.2 ∧ j ≤ ks.2 ∧ k ls st' (zsW h a (fun i => if i < j then h.1 q i else h.1 a i))) False
  | _ => False
theorem zr_cpy {idx : Nat} (O : zOK X Y cc own) (hl : Cond.methodLink own idx arraycopyName ∈ zTW) (hw : Cond.native arraycopyName ∈ zTW ∧ Cond.static arraycopyName ∈ zTW ∧ Cond.initialized "java/lang/System" ∈ zTW) (hr : 1 ≤ (xR X).frames ∧ 8 + (nativeFrameWords "java/lang/System" "arraycopy" 5 + 11) ≤ (xR X).locals) (d : decode cc pc = .ok (.invokestatic idx, 3)) (hk : zSd X Y u v (pc + 3) k) : zSd X Y u v pc (zi_cpy k) := by
  intro ls st h t H locs lsA hR hL hv hS
  rcases st with _ | ⟨n | _, _ | ⟨dp | _, _ | ⟨_ | _ | ⟨kd, a⟩, _ | ⟨sp | _, _ | ⟨_ | _ | ⟨ks, q⟩, st⟩⟩⟩⟩⟩ <;> first | exact False.elim t | skip
  obtain ⟨b, rfl, rfl, j, hj, h1, h2, t⟩ := zcond t
  simp only [Bool.and_eq_true] at b
  obtain ⟨b, b2, b3⟩ := b
  have hb := Nat.le_of_ble_eq_true b3
  have hts := O.2.2.2.1
  have hka : yK Y a = kd := (zq1 (zq2 hv)).1
  have hkq : yK Y q = ks := (zq1 (zq2 (zq1 (zq1 hv).2).2)).1
  rw [zkd (zbeq b)] at hka
  rw [zkd (zbeq b2)] at hkq
  have hlen : kd.2 < 2 ^ 31 := by have := O.2.2.2.2.2.2.1.2.2 a; rw [hka] at this; exact this
  refine zq_copy O.1 O.2.1 (zlsz hL) O.2.2.1 (hts _ hl) (hts _ hw.1) (hts _ hw.2.1) (hts _ hw.2.2) hS (zA_of hka (zwr_of (by omega))) ((hR q).1 _ hkq) ((hR a).1 _ hka) (O.2.2.2.2.1.2 0 _ rfl).1 (O.2.2.2.2.1.2 0 _ rfl).1 hj (by omega) h2 h1 hr.1 (by rw [zw_sum]; omega) d (fun H1 locs1 e1 e3 g3 => ?_)
  refine hk _ _ _ t H1 locs1 lsA ?_ hL (zq2 (zq1 (zq2 hv)).2) g3
  refine zR_upd a hR e3 (fun q hq => zup_n _ _ hq) (fun q _ => rfl) (fun q _ => rfl) ?_
  refine ⟨fun n hn => ?_, fun n hn => ?_, fun n hn => ?_, fun n hn => ?_, fun n hn => ?_, fun ci n hn => ?_⟩
  · cases (ztag hka hn).2
    rw [e1, show (zsW h a (fun i => if i < j then h.1 q i else h.1 a i)).1 a = _ from zup_s _ _ _]
  · have := (ztag hka hn).1; omega
  · have := (ztag hka hn).1; omega
  · have := (ztag hka hn).1; omega
  · have := (ztag hka hn).1; omega
  · have := (ztag hka hn).1; omega
/-- a String constant -/
def zi_str (n : Nat) (k : zT) : zT := fun ls st h => ∀ a : Nat, k ls (.inr (.inr ((7, n), a)) :: st) h
theorem zr_str {n idx : Nat} {tx : String} (O : zOK X Y cc own) (hs : (own, idx, tx, n) ∈ zStr) (d : decode cc pc = .ok (.ldc idx, 2)) (hk : zSd X Y u v (pc + 2) k) : zSd X Y u v pc (zi_str n k) := by
  intro ls st h t H locs lsA hR hL hv hS
  obtain ⟨adK, adV, g1, g2, g3⟩ := O.2.2.2.2.2.1.2.2.2.1
  obtain ⟨q1, q2⟩ := g2 _ hs
  exact va_ldcS O.1 O.2.1 O.2.2.1 q1 d (hk _ _ _ (t _) H locs lsA hR hL (zqc q2 hv) hS)
end ZC
end
section
/-! contracts: logical variables of a type, arguments, what is asked, what comes -/
abbrev zC (α : Type) : Type := (α → List zV) × ((α → zH → Prop) × (α → zH → Option zV → zH → Prop))
def zPc (Y : zY) (sz : Nat) (av : List zV) (h : zH) : Array Value → State → Prop := fun a U => a = (av.map zv).toArray ∧ U.heap.size = sz ∧ zR Y h U.heap ∧ zK Y U ∧ zS Y U U.heap ∧ yO Y ≤ U.heap.size
def zQc (Y : zY) (sz : Nat) (F : Option zV → zH → Prop) : Array Value → State → Outcome → State → Prop := fun _ st o t => (∃ (r : Option zV) (h' : zH), o = .returned (r.map zv) ∧ F r h' ∧ (∀ q : zV, r = some q → zok Y q) ∧ zR Y h' t.heap) ∧ va_F (zA Y sz) st t
def zM {α : Type} (y : MethodName) (b : ByteArray) (nL : Nat) (rt : Option FieldType) (rm : Room) (c : zC α) : Prop := ∀ (l : Launch) (Y : zY) (sz : Nat) (x : α) (h : zH), zWF Y → (∀ q ∈ c.1 x, zok Y q) → c.2.1 x h → Met l y (.code y b nL rt :: zTW) rm (zPc Y sz (c.1 x) h) (zQc Y sz (c.2.2 x h)) 0 0 (zA Y sz)
theorem zPc_blind {Y : zY} {sz : Nat} {av : List zV} {h : zH} : FrameBlind (zPc Y sz av h) := by
  intro a U g mk hp
  obtain ⟨h1, h2, h3, h4, h5, h6⟩ := hp
  exact ⟨h1, h2, h3, va_K.moved (u := U) (U := U.calling g mk a) (Vm.Alike.refl U.vm) h4, zS_moved (s := U) (U := U.calling g mk a) (State.WarmedH.refl U) h6 (fun _ _ => rfl) h5, h6⟩
def zpush : Option zV → List zV → List zV
  | some q, st => q :: st
  | none, st => st
theorem zpush_map (r : Option zV) (st : List zV) : (r.map zv).toList ++ st.map zv = (zpush r st).map zv := by
  cases r <;> rfl
def zpop : Nat → List zV → List zV → (List zV → List zV → Prop) → Prop
  | 0, acc, st, k => k acc st
  | n + 1, acc, v :: st, k => zpop n (v :: acc) st k
  | _ + 1, _, [], _ => False
theorem zpop_spec : ∀ (n : Nat) (acc st : List zV) (k : List zV → List zV → Prop), zpop n acc st k → ∃ bs st' : List zV, st = bs ++ st' ∧ bs.length = n ∧ k (bs.reverse ++ acc) st'
  | 0, acc, st, k, h => ⟨[], st, rfl, rfl, h⟩
  | n + 1, acc, v :: st, k, h => by
    obtain ⟨bs, st', h1, h2, h3⟩ := zpop_spec n (v :: acc) st k h
    exact ⟨v :: bs, st', by rw [h1]; rfl, by simp [h2], by simpa using h3⟩
  | n + 1, acc, [], k, h => False.elim h
/-- a call -/
def zi_c' {α : Type} (n : Nat) (c : zC α) (k : zT) : zT := fun ls st h => zpop n [] st (fun av st' => cond (Nat.ble (zw st') 8) (∃ x : α, av = c.1 x ∧ c.2.1 x h ∧ ∀ (r : Option zV) (h' : zH), c.2.2 x h r h' → k ls (zpush r st') h') False)
/-- a method's words: its code, its class, how many parameters; it makes no cells -/
def zBn (y : MethodName) (b : ByteArray) (nL : Nat) (rt : Option FieldType) (rm : Room) (n : Nat) : Prop := Cond.code y b nL rt ∈ zTW ∧ Cond.initialized y.cls ∈ zTW ∧ (y.cls ≠ "java/lang/invoke/MethodHandle" ∧ y.cls ≠ "java/lang/invoke/VarHandle" ∧ (parseMethodDescriptor y.desc).map (fun d => d.parameters.length) = some n) ∧ rm.cells = 0 ∧ rm.slots = 0
def zVw (ci : Nat) (y : MethodName) : Prop := Cond.instanceMethod y ∈ zTW ∧ Cond.selects y.cls y y ∈ zTW ∧ ∃ (T : u_T) (N : Nat), vwCl[ci]? = some (y.cls, T, N)
theorem zGood {w : Cond} (h : w ∈ zTW) : GoodIn zTW (w :: zTW) := by
  intro z hz
  have h1 : z ∈ zTW := (List.mem_cons.mp hz).elim (fun e => e ▸ h) id
  exact ⟨h1, good_of_word (List.mem_filter.mp h1).2⟩
section ZD
variable {p : Program} {l : Launch} {e : Env} {R : Room} {s : State} {m : MethodId} {args : Array Value} {below : List Frame} {meth : Method} {c : Code} {H : Heap} {locs : List Loc} {cells slots : Nat} {Q : State → Prop}
variable {pc : Nat} {ls : Array Slot} {rest st0 : List Value} {a : Array Value} {Y : zY}
theorem zA_mono {sz sz' q : Nat} (h : sz ≤ sz') (hq : zA Y sz' q) : zA Y sz q := hq.elim Or.inl (fun z => Or.inr (Nat.le_trans h z))
theorem zq_call {F : Option zV → zH → Prop} (hr : va_Run p l e R s m args below meth c H locs cells slots 0 0 (F0 m pc ls st0) rest (zQc Y H.size F a) (zA Y H.size)) (hS : va_S (zA Y s.heap.size) s.heap H locs)
    (kk : ∀ (r : Option zV) (h' : zH) (H1 : Heap) (locs1 : List Loc), F r h' → (∀ q : zV, r = some q → zok Y q) → zR Y h' H1 → H.size ≤ H1.size → (∀ q : Nat, q < H.size → ¬ zA Y H.size q → H1[q]? = H[q]?) → va_S (zA Y s.heap.size) s.heap H1 locs1 → W p l e R s m args below meth c H1 locs1 cells slots Q (F0 m (pc + 3) ls ((r.map zv).toList ++ rest))) : W p l e R s m args below meth c H locs cells slots Q (F0 m pc ls st0) := by
  intro T hT X
  obtain ⟨v, st₀, t, T', L, h0, X', hL, e1, e2, ⟨⟨r, h', hv, hF, hok, hR⟩, hFr⟩, st⟩ := hr T hT X
  cases hv
  obtain ⟨k1, k2, k3⟩ := vx_keep h0 e1 hS (fun q _ h => zA_mono hS.1 h) (fun q h => zA_mono hS.1 h) hL hFr
  obtain ⟨t2, a1, b1⟩ := kk r h' T'.heap (locs ++ L) hF hok (by rw [e1]; exact hR) k1 k2 k3 T' rfl X'
  exact ⟨t2, st t2 a1, b1⟩
end ZD
section ZE
variable {X : zX} {Y : zY} {u v pc : Nat} {cc : ByteArray} {own : String} {k : zT}
theorem zpre {h : zH} {H : Heap} {locs : List Loc} {av : List zV} (O : zOK X Y cc own) (hR : zR Y h H) (hS : va_S (zA Y (xS X).heap.size) (xS X).heap H locs) : ∀ U : State, U.heap = H → (xS X).WarmedH U.vm → zPc Y H.size av h (av.map zv).toArray U := by
  intro U hU hW
  have hlo := zS_lo O.2.2.2.2.2.2.1 O.2.2.2.2.2.2.2 hS
  refine ⟨rfl, by rw [hU], by rw [hU]; exact hR, va_K.moved hW.alike O.2.2.2.2.1, ?_, by rw [hU]; exact Nat.le_trans O.2.2.2.2.2.2.2 hlo.1⟩
  rw [hU]
  exact zS_moved hW O.2.2.2.2.2.2.2 (fun a ha => hlo.2.1 a (Nat.lt_of_lt_of_le ha O.2.2.2.2.2.2.2) (Nat.not_le.mpr ha)) O.2.2.2.2.2.1
theorem zr_cV {α : Type} {c : zC α} {y : MethodName} {b : ByteArray} {nLy idx n ci : Nat} {rty : Option FieldType} {rm : Room} (O : zOK X Y cc own) (hM : zM y b nLy rty rm c) (hB : zBn y b nLy rty rm n) (hV : zVw ci y) (hl : Cond.methodLink own idx y ∈ zTW) (hrc : ∀ x : α, ∃ (j a : Nat) (As : List zV), c.1 x = vR (10 + ci) j a :: As)
    (hr : rm.frames + 1 ≤ (xR X).frames ∧ 8 + (nLy + 11) + rm.locals ≤ (xR X).locals ∧ u ≤ (xR X).cells ∧ v ≤ (xR X).slots) (d : decode cc pc = .ok (.invokevirtual idx, 3)) (hk : zSd X Y u v (pc + 3) k) : zSd X Y u v pc (zi_c' (n + 1) c k) := by
  intro ls st h t H locs lsA hR hL hv hS
  obtain ⟨bs, st', rfl, hbs, t⟩ := zpop_spec _ _ _ _ t
  obtain ⟨b8, x, hx, hP, t⟩ := zcond t
  have hb8 := Nat.le_of_ble_eq_true b8
  rw [List.append_nil] at hx
  obtain ⟨j, a, As, hA⟩ := hrc x
  have hbs2 : bs = As.reverse ++ [vR (10 + ci) j a] := by
    have := congrArg List.reverse (hx.trans hA)
    rw [List.reverse_reverse, List.reverse_cons] at this
    exact this
  have hAn : As.length = n := by rw [hbs2] at hbs; simp at hbs; exact hbs
  have hok : ∀ q ∈ c.1 x, zok Y q := fun q hq => hv q (List.mem_append_left _ (by rw [← hx] at hq; exact List.mem_reverse.mp hq))
  have hka : yK Y a = (10 + ci, j) := hok (vR (10 + ci) j a) (by rw [hA]; exact List.mem_cons_self)
  obtain ⟨r, h1, ⟨cell, g1, g2, g3, -⟩, -⟩ := (hR a).2.2.2.2.2 ci _ hka
  obtain ⟨hVi, hVs, T, N, hVc⟩ := hV
  have hcls := (O.2.2.2.2.1.1 ci _ hVc).2
  have hts := O.2.2.2.1
  have hmap : (c.1 x).map zv = .ref a :: As.map zv := by rw [hA]; rfl
  refine zq_call (F := c.2.2 x h) (a := (.ref a :: As.map zv : List Value).toArray) (rest := st'.map zv) (va_runV (Ts := zTW) (C := y.cls) (b := a) (As := As.map zv) ⟨O.1, O.2.1, rfl, O.2.2.1, hts⟩ (hM X.2.1 Y H.size x h O.2.2.2.2.2.2.1 hok hP) ⟨callB_of n hts (zGood hB.1) rfl hB.2.2.2.1 hB.2.2.2.2 (hts _ hB.2.1) (hts _ hl) hB.2.2.1 ⟨hr.1, hr.2.1⟩, hts _ hVi, hts _ hVs⟩ ⟨zPc_blind, ⟨cell, g1, by rw [g3]; rfl, by rw [g2]; exact hcls.1⟩, fun U hU hW => by rw [← hmap]; exact zpre O hR hS U hU hW⟩ rfl (by simp [hAn]) hL.1.1 (by rw [hbs2]; simp [zv]) (lv_room (by rw [zw_sum]; exact hb8)) d ⟨hr.2.2.1, hr.2.2.2⟩) hS (fun r h' H1 locs1 hF hrok hR1 _ _ hS1 => ?_)
  rw [zpush_map]
  refine hk _ _ _ (t r h' hF) H1 locs1 lsA hR1 hL (fun q hq => ?_) hS1
  cases r with
  | none => exact hv q (List.mem_append_right _ hq)
  | some w => exact (List.mem_cons.mp hq).elim (fun e => e ▸ hrok w rfl) (fun z => hv q (List.mem_append_right _ z))
theorem zr_cS {α : Type} {c : zC α} {y : MethodName} {b : ByteArray} {nLy idx n : Nat} {rty : Option FieldType} {rm : Room} (O : zOK X Y cc own) (hM : zM y b nLy rty rm c) (hB : zBn y b nLy rty rm n) (hst : Cond.static y ∈ zTW) (hl : Cond.methodLink own idx y ∈ zTW)
    (hr : rm.frames + 1 ≤ (xR X).frames ∧ 8 + (nLy + 11) + rm.locals ≤ (xR X).locals ∧ u ≤ (xR X).cells ∧ v ≤ (xR X).slots) (d : decode cc pc = .ok (.invokestatic idx, 3)) (hk : zSd X Y u v (pc + 3) k) : zSd X Y u v pc (zi_c' n c k) := by
  intro ls st h t H locs lsA hR hL hv hS
  obtain ⟨bs, st', rfl, hbs, t⟩ := zpop_spec _ _ _ _ t
  obtain ⟨b8, x, hx, hP, t⟩ := zcond t
  have hb8 := Nat.le_of_ble_eq_true b8
  rw [List.append_nil] at hx
  have hbs2 : bs = (c.1 x).reverse := by rw [← hx, List.reverse_reverse]
  have hAn : (c.1 x).length = n := by rw [← hx, List.length_reverse]; exact hbs
  have hok : ∀ q ∈ c.1 x, zok Y q := fun q hq => hv q (List.mem_append_left _ (by rw [← hx] at hq; exact List.mem_reverse.mp hq))
  have hts := O.2.2.2.1
  refine zq_call (F := c.2.2 x h) (a := ((c.1 x).map zv).toArray) (rest := st'.map zv) (va_runS (Ts := zTW) (As := (c.1 x).map zv) ⟨O.1, O.2.1, rfl, O.2.2.1, hts⟩ (hM X.2.1 Y H.size x h O.2.2.2.2.2.2.1 hok hP) ⟨callB_of n hts (zGood hB.1) rfl hB.2.2.2.1 hB.2.2.2.2 (hts _ hB.2.1) (hts _ hl) hB.2.2.1 ⟨hr.1, hr.2.1⟩, hts _ hst⟩ ⟨zPc_blind, fun U hU hW => zpre O hR hS U hU hW⟩ rfl (by simp [hAn]) hL.1.1 (by rw [hbs2]; simp [zv]) (lv_room (by rw [zw_sum]; exact hb8)) d ⟨hr.2.2.1, hr.2.2.2⟩) hS (fun r h' H1 locs1 hF hrok hR1 _ _ hS1 => ?_)
  rw [zpush_map]
  refine hk _ _ _ (t r h' hF) H1 locs1 lsA hR1 hL (fun q hq => ?_) hS1
  cases r with
  | none => exact hv q (List.mem_append_right _ hq)
  | some w => exact (List.mem_cons.mp hq).elim (fun e => e ▸ hrok w rfl) (fun z => hv q (List.mem_append_right _ z))
theorem zr_cSN {α : Type} {c : zC α} {y : MethodName} {b : ByteArray} {nLy idx n : Nat} {rty : Option FieldType} {rm : Room} {host : String} (O : zOK X Y cc own) (hM : zM y b nLy rty rm c) (hB : zBn y b nLy rty rm n) (hst : Cond.static y ∈ zTW) (hl : (own, idx, y, host) ∈ zNest)
    (hr : rm.frames + 1 ≤ (xR X).frames ∧ 8 + (nLy + 11) + rm.locals ≤ (xR X).locals ∧ u ≤ (xR X).cells ∧ v ≤ (xR X).slots) (d : decode cc pc = .ok (.invokestatic idx, 3)) (hk : zSd X Y u v (pc + 3) k) : zSd X Y u v pc (zi_c' n c k) := by
  intro ls st h t H locs lsA hR hL hv hS
  obtain ⟨bs, st', rfl, hbs, t⟩ := zpop_spec _ _ _ _ t
  obtain ⟨b8, x, hx, hP, t⟩ := zcond t
  have hb8 := Nat.le_of_ble_eq_true b8
  rw [List.append_nil] at hx
  have hbs2 : bs = (c.1 x).reverse := by rw [← hx, List.reverse_reverse]
  have hAn : (c.1 x).length = n := by rw [← hx, List.length_reverse]; exact hbs
  have hok : ∀ q ∈ c.1 x, zok Y q := fun q hq => hv q (List.mem_append_left _ (by rw [← hx] at hq; exact List.mem_reverse.mp hq))
  have hts := O.2.2.2.1
  refine zq_call (F := c.2.2 x h) (a := ((c.1 x).map zv).toArray) (rest := st'.map zv) (va_runSN (Ts := zTW) (As := (c.1 x).map zv) ⟨O.1, O.2.1, rfl, O.2.2.1, hts⟩ (hM X.2.1 Y H.size x h O.2.2.2.2.2.2.1 hok hP) ⟨va_cnB n hts (zGood hB.1) rfl hB.2.2.2.1 hB.2.2.2.2 (O.2.2.2.2.2.1.1 _ hl) (hts _ hB.2.1) hB.2.2.1 ⟨hr.1, hr.2.1⟩, hts _ hst, trivial⟩ ⟨zPc_blind, fun U hU hW => zpre O hR hS U hU hW⟩ rfl (by simp [hAn]) hL.1.1 (by rw [hbs2]; simp [zv]) (lv_room (by rw [zw_sum]; exact hb8)) d ⟨hr.2.2.1, hr.2.2.2⟩) hS (fun r h' H1 locs1 hF hrok hR1 _ _ hS1 => ?_)
  rw [zpush_map]
  refine hk _ _ _ (t r h' hF) H1 locs1 lsA hR1 hL (fun q hq => ?_) hS1
  cases r with
  | none => exact hv q (List.mem_append_right _ hq)
  | some w => exact (List.mem_cons.mp hq).elim (fun e => e ▸ hrok w rfl) (fun z => hv q (List.mem_append_right _ z))
/-! contracts of a simple form, and what a call of them asks -/
/-- an int, nothing changed -/
def zcI {α : Type} (A : α → List zV) (P : α → zH → Prop) (f : α → zH → Int32) : zC α := (A, P, fun x h r h' => r = some (.inl (f x h)) ∧ h' = h)
def zi_cI {α : Type} (n : Nat) (A : α → List zV) (P : α → zH → Prop) (f : α → zH → Int32) (k : zT) : zT := fun ls st h => zpop n [] st (fun av st' => cond (Nat.ble (zw st') 8) (∃ x : α, av = A x ∧ P x h ∧ k ls (.inl (f x h) :: st') h) False)
theorem zpop_mono : ∀ (n : Nat) (acc st : List zV) (k k' : List zV → List zV → Prop), (∀ a b, k a b → k' a b) → zpop n acc st k → zpop n acc st k'
  | 0, _, _, _, _, hk, h => hk _ _ h
  | n + 1, acc, v :: st, k, k', hk, h => zpop_mono n (v :: acc) st k k' hk h
  | _ + 1, _, [], _, _, _, h => h
theorem zcond_mono {b : Bool} {A B : Prop} (h : A → B) (hc : cond b A False) : cond b B False := by
  cases b with
  | true => exact h hc
  | false => exact hc
theorem zr_cI {α : Type} {n : Nat} {A : α → List zV} {P : α → zH → Prop} {f : α → zH → Int32} (hk : zSd X Y u v pc (zi_c' n (zcI A P f) k)) : zSd X Y u v pc (zi_cI n A P f k) := by
  refine zSd_weak hk (fun ls st h t => zpop_mono _ _ _ _ _ (fun av st' hc => zcond_mono ?_ hc) t)
  rintro ⟨x, h1, h2, h3⟩
  exact ⟨x, h1, h2, fun r h' ⟨e1, e2⟩ => by subst e1; subst e2; exact h3⟩
/-- a long, nothing changed -/
def zcL {α : Type} (A : α → List zV) (P : α → zH → Prop) (f : α → zH → Int64) : zC α := (A, P, fun x h r h' => r = some (.inr (.inl (f x h))) ∧ h' = h)
def zi_cL {α : Type} (n : Nat) (A : α → List zV) (P : α → zH → Prop) (f : α → zH → Int64) (k : zT) : zT := fun ls st h => zpop n [] st (fun av st' => cond (Nat.ble (zw st') 8) (∃ x : α, av = A x ∧ P x h ∧ k ls (.inr (.inl (f x h)) :: st') h) False)
theorem zr_cL {α : Type} {n : Nat} {A : α → List zV} {P : α → zH → Prop} {f : α → zH → Int64} (hk : zSd X Y u v pc (zi_c' n (zcL A P f) k)) : zSd X Y u v pc (zi_cL n A P f k) := by
  refine zSd_weak hk (fun ls st h t => zpop_mono _ _ _ _ _ (fun av st' hc => zcond_mono ?_ hc) t)
  rintro ⟨x, h1, h2, h3⟩
  exact ⟨x, h1, h2, fun r h' ⟨e1, e2⟩ => by subst e1; subst e2; exact h3⟩
/-- nothing answered, the heap becomes g -/
def zcV {α : Type} (A : α → List zV) (P : α → zH → Prop) (g : α → zH → zH) : zC α := (A, P, fun x h r h' => r = none ∧ h' = g x h)
def zi_cV {α : Type} (n : Nat) (A : α → List zV) (P : α → zH → Prop) (g : α → zH → zH) (k : zT) : zT := fun ls st h => zpop n [] st (fun av st' => cond (Nat.ble (zw st') 8) (∃ x : α, av = A x ∧ P x h ∧ k ls st' (g x h)) False)
theorem zr_cVv {α : Type} {n : Nat} {A : α → List zV} {P : α → zH → Prop} {g : α → zH → zH} (hk : zSd X Y u v pc (zi_c' n (zcV A P g) k)) : zSd X Y u v pc (zi_cV n A P g k) := by
  refine zSd_weak hk (fun ls st h t => zpop_mono _ _ _ _ _ (fun av st' hc => zcond_mono ?_ hc) t)
  rintro ⟨x, h1, h2, h3⟩
  exact ⟨x, h1, h2, fun r h' ⟨e1, e2⟩ => by subst e1; subst e2; exact h3⟩
/-- an int, and the heap becomes g -/
def zcH {α : Type} (A : α → List zV) (P : α → zH → Prop) (f : α → zH → Int32) (g : α → zH → zH) : zC α := (A, P, fun x h r h' => r = some (.inl (f x h)) ∧ h' = g x h)
def zi_cH {α : Type} (n : Nat) (A : α → List zV) (P : α → zH → Prop) (f : α → zH → Int32) (g : α → zH → zH) (k : zT) : zT := fun ls st h => zpop n [] st (fun av st' => cond (Nat.ble (zw st') 8) (∃ x : α, av = A x ∧ P x h ∧ k ls (.inl (f x h) :: st') (g x h)) False)
theorem zr_cH {α : Type} {n : Nat} {A : α → List zV} {P : α → zH → Prop} {f : α → zH → Int32} {g : α → zH → zH} (hk : zSd X Y u v pc (zi_c' n (zcH A P f g) k)) : zSd X Y u v pc (zi_cH n A P f g k) := by
  refine zSd_weak hk (fun ls st h t => zpop_mono _ _ _ _ _ (fun av st' hc => zcond_mono ?_ hc) t)
  rintro ⟨x, h1, h2, h3⟩
  exact ⟨x, h1, h2, fun r h' ⟨e1, e2⟩ => by subst e1; subst e2; exact h3⟩
/-! ends -/
def zEnd (X : zX) (Y : zY) (rt : Option FieldType) (mc ms : Nat) (F : Option zV → zH → Prop) : Prop := (xH X).sig.returnType = rt ∧ (xH X).locks = false ∧ ∀ (H : Heap) (locs : List Loc) (g : JFrame), W X.1 X.2.1 X.2.2.1 (xR X) (xS X) (xM X) (xA X) (xB X) (xH X) (xC X) H locs mc ms (MQ (xB X) (zQc Y (xS X).heap.size F) (xA X) (xS X) mc ms (zA Y (xS X).heap.size)) g → zW X H locs mc ms g
def zi_iret (F : Option zV → zH → Prop) : zT := fun _ st h => match st with
  | [.inl x] => F (some (.inl x)) h
  | _ => False
def zi_zret (F : Option zV → zH → Prop) : zT := fun _ st h => match st with
  | [.inl x] => (x = 0 ∨ x = 1) ∧ F (some (.inl x)) h
  | _ => False
def zi_lret (F : Option zV → zH → Prop) : zT := fun _ st h => match st with
  | [.inr (.inl x)] => F (some (.inr (.inl x))) h
  | _ => False
def zi_aret (F : Option zV → zH → Prop) : zT := fun _ st h => match st with
  | [.inr (.inr x)] => F (some (.inr (.inr x))) h
  | _ => False
def zi_vret (F : Option zV → zH → Prop) : zT := fun _ st h => match st with
  | [] => F none h
  | _ => False
variable {mc ms : Nat} {F : Option zV → zH → Prop}
theorem zr_ireturn (O : zOK X Y cc own) (E : zEnd X Y (some .int) mc ms F) (hu : u ≤ mc) (hw : v ≤ ms) (d : decode cc pc = .ok (.ireturn, 1)) : zSd X Y u v pc (zi_iret F) := by
  intro ls st h t H locs lsA hR hL hv hS
  rcases st with _ | ⟨x | _, _ | ⟨_, _⟩⟩ <;> first | exact False.elim t | skip
  exact W.widen hu hw (E.2.2 _ _ _ (W.iret O.1 O.2.1 E.1 (fun T hT hW => ⟨⟨some (.inl x), h, rfl, t, fun q hq => by cases hq; trivial, by rw [hT]; exact hR⟩, hS.F hT⟩) hS.2.2 d (hlocks := E.2.1)))
theorem zr_zreturn (O : zOK X Y cc own) (E : zEnd X Y (some .boolean) mc ms F) (hu : u ≤ mc) (hw : v ≤ ms) (d : decode cc pc = .ok (.ireturn, 1)) : zSd X Y u v pc (zi_zret F) := by
  intro ls st h t H locs lsA hR hL hv hS
  rcases st with _ | ⟨x | _, _ | ⟨_, _⟩⟩ <;> first | exact False.elim t | skip
  exact W.widen hu hw (E.2.2 _ _ _ (W.zret O.1 O.2.1 E.1 (by rcases t.1 with e | e <;> rw [e] <;> rfl) (fun T hT hW => ⟨⟨some (.inl x), h, rfl, t.2, fun q hq => by cases hq; trivial, by rw [hT]; exact hR⟩, hS.F hT⟩) hS.2.2 d (hlocks := E.2.1)))
theorem zr_lreturn (O : zOK X Y cc own) (E : zEnd X Y (some .long) mc ms F) (hu : u ≤ mc) (hw : v ≤ ms) (d : decode cc pc = .ok (.lreturn, 1)) : zSd X Y u v pc (zi_lret F) := by
  intro ls st h t H locs lsA hR hL hv hS
  rcases st with _ | ⟨_ | x | _, _ | ⟨_, _⟩⟩ <;> first | exact False.elim t | skip
  exact W.widen hu hw (E.2.2 _ _ _ (W.lret O.1 O.2.1 E.1 (fun T hT hW => ⟨⟨some (.inr (.inl x)), h, rfl, t, fun q hq => by cases hq; trivial, by rw [hT]; exact hR⟩, hS.F hT⟩) hS.2.2 d (hlocks := E.2.1)))
theorem zr_areturn {rt : FieldType} (O : zOK X Y cc own) (E : zEnd X Y (some rt) mc ms F) (hrt : (∃ n, rt = .object n) ∨ ∃ t, rt = .array t) (hu : u ≤ mc) (hw : v ≤ ms) (d : decode cc pc = .ok (.areturn, 1)) : zSd X Y u v pc (zi_aret F) := by
  intro ls st h t H locs lsA hR hL hv hS
  rcases st with _ | ⟨_ | _ | x, _ | ⟨_, _⟩⟩ <;> first | exact False.elim t | skip
  exact W.widen hu hw (E.2.2 _ _ _ (W.aret O.1 O.2.1 E.1 hrt (Or.inr ⟨x.2, rfl⟩) (fun T hT hW => ⟨⟨some (.inr (.inr x)), h, rfl, t, fun q hq => by cases hq; exact (zq1 hv).1, by rw [hT]; exact hR⟩, hS.F hT⟩) hS.2.2 d (hlocks := E.2.1)))
theorem zr_return (O : zOK X Y cc own) (E : zEnd X Y none mc ms F) (hu : u ≤ mc) (hw : v ≤ ms) (d : decode cc pc = .ok (.return_, 1)) : zSd X Y u v pc (zi_vret F) := by
  intro ls st h t H locs lsA hR hL hv hS
  rcases st with _ | ⟨_, _⟩ <;> first | exact False.elim t | skip
  exact W.widen hu hw (E.2.2 _ _ _ (W.vret O.1 O.2.1 E.1 (fun T hT hW => ⟨⟨none, h, rfl, t, (fun q hq => by cases hq), by rw [hT]; exact hR⟩, hS.F hT⟩) hS.2.2 d (hlocks := E.2.1)))
end ZE
/-! a method: its contract out of its walk -/
def znl : List zV → Bool
  | [] => true
  | .inr (.inl _) :: _ => false
  | _ :: l => znl l
def zarg (av : List zV) (nL : Nat) : zL := av.map some ++ List.replicate (nL - av.length) none
theorem zarg_lv : ∀ (av : List zV) (i n : Nat), znl av = true → zlv i (av.map some ++ List.replicate n none) = lv_args i (av.map zv)
  | [], i, n, _ => by
    show zlv i (List.replicate n none) = []
    induction n generalizing i with
    | zero => rfl
    | succ n ih => exact ih (i + 1)
  | .inl x :: l, i, n, h => by
    show (i, zv (.inl x)) :: zlv (i + 1) (l.map some ++ List.replicate n none) = (i, zv (.inl x)) :: lv_args (i + 1) (l.map zv)
    rw [zarg_lv l (i + 1) n h]
  | .inr (.inr x) :: l, i, n, h => by
    show (i, zv (.inr (.inr x))) :: zlv (i + 1) (l.map some ++ List.replicate n none) = (i, zv (.inr (.inr x))) :: lv_args (i + 1) (l.map zv)
    rw [zarg_lv l (i + 1) n h]
  | .inr (.inl x) :: l, i, n, h => by cases h
theorem zarg_sl : ∀ (av : List zV), znl av = true → (lg_sl (av.map zv)).length = av.length
  | [], _ => rfl
  | .inl x :: l, h => by
    have := zarg_sl l h
    simp [lg_sl, zv, Value.category] at this ⊢
    omega
  | .inr (.inr x) :: l, h => by
    have := zarg_sl l h
    simp [lg_sl, zv, Value.category] at this ⊢
    omega
  | .inr (.inl x) :: l, h => by cases h
theorem zentry {X : zX} {Y : zY} {T : zT} {av : List zV} {nL : Nat} {h : zH} {Q : Nat} (hs : zSd X Y 0 0 0 T) (t : T (zarg av nL) [] h) (hnl : znl av = true) (hlen : av.length ≤ nL) (hml : (xC X).maxLocals = nL) (hok : ∀ q ∈ av, zok Y q) (hR : zR Y h (xS X).heap) : zW X (xS X).heap [] 0 0 (entryFrame (xM X) (av.map zv).toArray nL) := by
  rw [lg_entry_eq]
  have hl := lv_entry (av.map zv) (n := nL) (by rw [zarg_sl av hnl]; exact hlen)
  refine hs _ _ _ t _ _ _ hR ⟨?_, ?_, fun j v hj => ?_⟩ (fun q hq => by cases hq) va_S.rf
  · rw [zarg, zarg_lv av 0 _ hnl, hml]
    exact hl
  · rw [zarg, hml]
    simp
    omega
  · have hm : (some v : Option zV) ∈ zarg av nL := List.mem_of_getElem? hj
    rw [zarg] at hm
    rcases List.mem_append.mp hm with h1 | h1
    · obtain ⟨q, hq, e⟩ := List.mem_map.mp h1
      cases e
      exact hok _ hq
    · have := (List.mem_replicate.mp h1).2
      cases this
theorem zM_of {α : Type} {y : MethodName} {b : ByteArray} {nL : Nat} {rt : Option FieldType} {rm : Room} {c : zC α} (hy : plainName y.cls = true)
    (hb : ∀ (X : zX) (Y : zY) (x : α) (h : zH), c.2.1 x h → zOK X Y b y.cls → zEnd X Y rt 0 0 (c.2.2 x h) → xR X = rm → znl (c.1 x) = true ∧ (c.1 x).length ≤ nL ∧ ∃ T : zT, zSd X Y 0 0 0 T ∧ T (zarg (c.1 x) nL) [] h) : zM y b nL rt rm c := by
  intro l Y sz x h hF hok hP
  refine Met.ofW (cc := b) (maxL := nL) (ret := rt) hy rfl ?_
  intro p e s m args below meth cd s₁ B hml hv
  obtain ⟨rfl, rfl, hR, hK, hS, hlo⟩ := hv
  have hts := atoms_spec (ws := .code y b nL rt :: zTW) B.pre
  obtain ⟨hnl, hlen, T, hs, t⟩ := hb (p, l, e, rm, s, m, ((c.1 x).map zv).toArray, below, meth, cd, MQ below (zQc Y s.heap.size (c.2.2 x h)) ((c.1 x).map zv).toArray s 0 0 (zA Y s.heap.size)) Y x h hP ⟨B.exec, B.bytes, findClass_of_methodNamed B.named, fun w hw => hts w (List.mem_cons_of_mem _ hw), hK, hS, hF, hlo⟩ ⟨B.returns, B.notSynchronized, fun H locs g w => w⟩ rfl
  exact zentry (Q := 0) hs t hnl hlen hml hok hR
end
section
/-! words of the tables, by their places -/
theorem zmem {w : Cond} (i : Nat) (h : tables_1[i]? = some w) (hg : goodWord w = true) : w ∈ zTW := List.mem_filter.mpr ⟨List.mem_append_right _ (List.mem_of_getElem? h), hg⟩
theorem zmemP {w : Cond} (i : Nat) (h : (k2_sels lw_privs)[i]? = some w) (hg : goodWord w = true) : w ∈ zTW := List.mem_filter.mpr ⟨List.mem_append_left _ (List.mem_of_getElem? h), hg⟩
theorem zmemL {ws : List Cond} (ps : List Nat) (hp : ws = ps.filterMap (fun i => tables_1[i]?)) (h : ws.all goodWord = true) : ∀ w ∈ ws, w ∈ zTW := by
  intro w hw
  have h1 := List.all_eq_true.mp h w hw
  rw [hp] at hw
  obtain ⟨i, -, hi⟩ := List.mem_filterMap.mp hw
  exact zmem i hi h1
theorem zks0 {α : Type} {P : Nat → α → Prop} {l : List α} (h : ∀ (j : Nat) (b : α), l[j]? = some b → P (0 + j) b) : ∀ (j : Nat) (b : α), l[j]? = some b → P j b := fun j b hb => by have := h j b hb; rwa [Nat.zero_add] at this
theorem zSd_any {X : zX} {Y : zY} {u v pc : Nat} {I : Nat → zT} (h : ∀ n : Nat, zSd X Y u v pc (I n)) : zSd X Y u v pc (fun ls st h0 => ∃ n : Nat, I n ls st h0) := fun ls st h0 ⟨n, t⟩ => h n ls st h0 t
theorem zrm {X : zX} {rm : Room} {a b : Nat} (hR : xR X = rm) (h1 : Nat.ble a rm.frames = true) (h2 : Nat.ble b rm.locals = true) : a ≤ (xR X).frames ∧ b ≤ (xR X).locals ∧ 0 ≤ (xR X).cells ∧ 0 ≤ (xR X).slots := by
  rw [hR]
  exact ⟨Nat.le_of_ble_eq_true h1, Nat.le_of_ble_eq_true h2, Nat.zero_le _, Nat.zero_le _⟩
theorem zc_0 : zCl 0 RX1 TX1 9 tyX1 := ⟨rfl, zmemL [127, 129, 131, 133, 135, 137, 139, 141, 143] (by decide +kernel) (by decide +kernel), tyX1_ok, nmX1⟩
theorem zc_1 : zCl 1 RX2 TX2 1 tyX2 := ⟨rfl, zmemL [284] (by decide +kernel) (by decide +kernel), tyX2_ok, nmX2⟩
theorem zc_2 : zCl 2 RX3 TX3 5 tyX3 := ⟨rfl, zmemL [159, 161, 163, 165, 167] (by decide +kernel) (by decide +kernel), tyX3_ok, nmX3⟩
theorem zc_3 : zCl 3 RX4 TX4 1 tyX4 := ⟨rfl, zmemL [252] (by decide +kernel) (by decide +kernel), tyX4_ok, nmX4⟩
theorem zc_4 : zCl 4 RX5 TX5 4 tyX5 := ⟨rfl, zmemL [236, 238, 240, 242] (by decide +kernel) (by decide +kernel), tyX5_ok, nmX5⟩
theorem zc_5 : zCl 5 RX6 TX6 8 tyX6 := ⟨rfl, zmemL [77, 79, 81, 83, 85, 87, 89, 91] (by decide +kernel) (by decide +kernel), tyX6_ok, nmX6⟩
theorem zc_6 : zCl 6 RX7 TX7 3 tyX7 := ⟨rfl, zmemL [178, 180, 182] (by decide +kernel) (by decide +kernel), tyX7_ok, nmX7⟩
theorem zc_7 : zCl 7 RX8 TX8 8 tyX8 := ⟨rfl, zmemL [205, 207, 209, 211, 213, 215, 217, 219] (by decide +kernel) (by decide +kernel), tyX8_ok, nmX8⟩
theorem zc_8 : zCl 8 RX9 TX9 3 tyX9 := ⟨rfl, zmemL [266, 268, 270] (by decide +kernel) (by decide +kernel), tyX9_ok, nmX9⟩
theorem zc_9 : zCl 9 RX10 TX10 15 tyX10 := ⟨rfl, zmemL [302, 304, 306, 308, 310, 312, 314, 316, 318, 320, 322, 324, 326, 328, 330] (by decide +kernel) (by decide +kernel), tyX10_ok, nmX10⟩
theorem zc_10 : zCl 10 RX11 TX11 35 tyX11 := ⟨rfl, zmemL [1222, 1224, 1226, 1228, 1230, 1232, 1234, 1236, 1238, 1240, 1242, 1244, 1246, 1248, 1250, 1252, 1254, 1256, 1258, 1260, 1262, 1264, 1266, 1268, 1270, 1272, 1274, 1276, 1278, 1280, 1282, 1284, 1286, 1288, 1290] (by decide +kernel) (by decide +kernel), tyX11_ok, nmX11⟩
theorem tw_3 : Cond.initialized RX6 ∈ zTW := zmem 3 (by decide +kernel) rfl
theorem tw_50 : Cond.fieldLink RX6 9 (TX6 1).1 (TX6 1).2.1 (TX6 1).2.2.1 ∈ zTW := zmem 50 (by decide +kernel) rfl
theorem tw_51 : Cond.fieldLink RX6 15 (TX6 2).1 (TX6 2).2.1 (TX6 2).2.2.1 ∈ zTW := zmem 51 (by decide +kernel) rfl
theorem tw_441 : Cond.instanceMethod yX6_speedOf ∈ zTW := zmem 441 (by decide +kernel) rfl
theorem tw_442 : Cond.selects RX6 yX6_speedOf yX6_speedOf ∈ zTW := zmem 442 (by decide +kernel) rfl
theorem tw_443 : Cond.code yX6_speedOf cX6_speedOf 3 (some .int) ∈ zTW := zmem 443 (by decide +kernel) rfl
theorem bn_X6_speedOf (rm : Room) (h : rm.cells = 0 ∧ rm.slots = 0) : zBn yX6_speedOf cX6_speedOf 3 (some .int) rm 2 := ⟨tw_443, tw_3, ⟨by decide +kernel, by decide +kernel, by decide +kernel⟩, h.1, h.2⟩
theorem vw_X6_speedOf : zVw 5 yX6_speedOf := ⟨tw_441, tw_442, _, _, rfl⟩
theorem zwm : zwM := ⟨zmem 16 (by decide +kernel) rfl, zmem 776 (by decide +kernel) rfl, zmem 777 (by decide +kernel) rfl, zmem 407 (by decide +kernel) rfl, zmem 408 (by decide +kernel) rfl⟩
theorem zwc : Cond.native arraycopyName ∈ zTW ∧ Cond.static arraycopyName ∈ zTW ∧ Cond.initialized "java/lang/System" ∈ zTW := ⟨zmem 404 (by decide +kernel) rfl, zmem 403 (by decide +kernel) rfl, zmem 22 (by decide +kernel) rfl⟩
theorem wn_RX3_34 : (RX3, 34, yX10_bitIn, "SlipSecret") ∈ zNest := List.mem_of_getElem? (i := 9) (by decide +kernel)
theorem wn_RX4_21 : (RX4, 21, yX10_bitIn, "SlipSecret") ∈ zNest := List.mem_of_getElem? (i := 10) (by decide +kernel)
theorem wn_RX0_30 : (RX0, 30, yX10_bitIn, "SlipSecret") ∈ zNest := List.mem_of_getElem? (i := 11) (by decide +kernel)
theorem wn_RX1_67 : (RX1, 67, yX10_bitIn, "SlipSecret") ∈ zNest := List.mem_of_getElem? (i := 12) (by decide +kernel)
theorem wn_RX6_86 : (RX6, 86, yX10_bitIn, "SlipSecret") ∈ zNest := List.mem_of_getElem? (i := 13) (by decide +kernel)
theorem wn_RX9_39 : (RX9, 39, yX10_bitIn, "SlipSecret") ∈ zNest := List.mem_of_getElem? (i := 14) (by decide +kernel)
theorem wn_RX2_78 : (RX2, 78, yX10_bitIn, "SlipSecret") ∈ zNest := List.mem_of_getElem? (i := 15) (by decide +kernel)
theorem ws_RX10_362 : (RX10, 362, zStr[0].2.2.1, zStr[0].2.2.2) ∈ zStr := List.mem_of_getElem? (i := 0) (by decide +kernel)
theorem ws_RX8_56 : (RX8, 56, zStr[1].2.2.1, zStr[1].2.2.2) ∈ zStr := List.mem_of_getElem? (i := 1) (by decide +kernel)
theorem ws_RX8_66 : (RX8, 66, zStr[2].2.2.1, zStr[2].2.2.2) ∈ zStr := List.mem_of_getElem? (i := 2) (by decide +kernel)
theorem ws_RX8_71 : (RX8, 71, zStr[3].2.2.1, zStr[3].2.2.2) ∈ zStr := List.mem_of_getElem? (i := 3) (by decide +kernel)
theorem ws_RX8_79 : (RX8, 79, zStr[4].2.2.1, zStr[4].2.2.2) ∈ zStr := List.mem_of_getElem? (i := 4) (by decide +kernel)
theorem ws_RX8_84 : (RX8, 84, zStr[5].2.2.1, zStr[5].2.2.2) ∈ zStr := List.mem_of_getElem? (i := 5) (by decide +kernel)
theorem ws_RX8_86 : (RX8, 86, zStr[6].2.2.1, zStr[6].2.2.2) ∈ zStr := List.mem_of_getElem? (i := 6) (by decide +kernel)
theorem ws_RX8_91 : (RX8, 91, zStr[7].2.2.1, zStr[7].2.2.2) ∈ zStr := List.mem_of_getElem? (i := 7) (by decide +kernel)
theorem ws_RX10_374 : (RX10, 374, zStr[8].2.2.1, zStr[8].2.2.2) ∈ zStr := List.mem_of_getElem? (i := 8) (by decide +kernel)
theorem ws_RX10_369 : (RX10, 369, zStr[9].2.2.1, zStr[9].2.2.2) ∈ zStr := List.mem_of_getElem? (i := 9) (by decide +kernel)
theorem ws_RX11_187 : (RX11, 187, zStr[10].2.2.1, zStr[10].2.2.2) ∈ zStr := List.mem_of_getElem? (i := 10) (by decide +kernel)
theorem ws_RX11_196 : (RX11, 196, zStr[11].2.2.1, zStr[11].2.2.2) ∈ zStr := List.mem_of_getElem? (i := 11) (by decide +kernel)
theorem ws_RX11_201 : (RX11, 201, zStr[12].2.2.1, zStr[12].2.2.2) ∈ zStr := List.mem_of_getElem? (i := 12) (by decide +kernel)
theorem ws_RX11_203 : (RX11, 203, zStr[13].2.2.1, zStr[13].2.2.2) ∈ zStr := List.mem_of_getElem? (i := 13) (by decide +kernel)
theorem ws_RX11_208 : (RX11, 208, zStr[14].2.2.1, zStr[14].2.2.2) ∈ zStr := List.mem_of_getElem? (i := 14) (by decide +kernel)
theorem ws_RX11_210 : (RX11, 210, zStr[15].2.2.1, zStr[15].2.2.2) ∈ zStr := List.mem_of_getElem? (i := 15) (by decide +kernel)
theorem ws_RX11_215 : (RX11, 215, zStr[16].2.2.1, zStr[16].2.2.2) ∈ zStr := List.mem_of_getElem? (i := 16) (by decide +kernel)
end
section
theorem dX6_speedOf_0 : decode cX6_speedOf 0 = .ok (.aload_n 0, 1) := by decide +kernel
theorem dX6_speedOf_1 : decode cX6_speedOf 1 = .ok (.getfield 9, 3) := by decide +kernel
theorem dX6_speedOf_4 : decode cX6_speedOf 4 = .ok (.iload_n 1, 1) := by decide +kernel
theorem dX6_speedOf_5 : decode cX6_speedOf 5 = .ok (.iaload, 1) := by decide +kernel
theorem dX6_speedOf_6 : decode cX6_speedOf 6 = .ok (.aload_n 0, 1) := by decide +kernel
theorem dX6_speedOf_7 : decode cX6_speedOf 7 = .ok (.getfield 15, 3) := by decide +kernel
theorem dX6_speedOf_10 : decode cX6_speedOf 10 = .ok (.iload_n 1, 1) := by decide +kernel
theorem dX6_speedOf_11 : decode cX6_speedOf 11 = .ok (.iaload, 1) := by decide +kernel
theorem dX6_speedOf_12 : decode cX6_speedOf 12 = .ok (.iload_n 2, 1) := by decide +kernel
theorem dX6_speedOf_13 : decode cX6_speedOf 13 = .ok (.bipush 20, 2) := by decide +kernel
theorem dX6_speedOf_15 : decode cX6_speedOf 15 = .ok (.isub, 1) := by decide +kernel
theorem dX6_speedOf_16 : decode cX6_speedOf 16 = .ok (.imul, 1) := by decide +kernel
theorem dX6_speedOf_17 : decode cX6_speedOf 17 = .ok (.bipush 10, 2) := by decide +kernel
theorem dX6_speedOf_19 : decode cX6_speedOf 19 = .ok (.idiv, 1) := by decide +kernel
theorem dX6_speedOf_20 : decode cX6_speedOf 20 = .ok (.iadd, 1) := by decide +kernel
theorem dX6_speedOf_21 : decode cX6_speedOf 21 = .ok (.ireturn, 1) := by decide +kernel
/-! the slip's data, as numbers and functions: rings, pairs, base, drift, noise, first, second, settings -/
abbrev zD : Type := Nat × Nat × (Nat → Int32) × (Nat → Int32) × (Nat → Int32) × (Nat → Nat) × (Nat → Nat) × (Nat → Int32)
abbrev dN (S : zD) : Nat := S.1
abbrev dP (S : zD) : Nat := S.2.1
abbrev dB (S : zD) : Nat → Int32 := S.2.2.1
abbrev dD (S : zD) : Nat → Int32 := S.2.2.2.1
abbrev dZ (S : zD) : Nat → Int32 := S.2.2.2.2.1
abbrev dF (S : zD) : Nat → Nat := S.2.2.2.2.2.1
abbrev dS (S : zD) : Nat → Nat := S.2.2.2.2.2.2.1
abbrev dT (S : zD) : Nat → Int32 := S.2.2.2.2.2.2.2
/-- the slip at a holds S -/
def rpS (S : zD) (h : zH) (a : Nat) : Prop :=
  (h.1 a 0 = nI (dN S) ∧ dN S ≤ 10) ∧ (h.1 a 4 = nI (dP S) ∧ dP S ≤ 28) ∧ (∀ r, r < dN S → h.1 (a + 1) r = dB S r ∧ h.1 (a + 2) r = dD S r ∧ h.1 (a + 3) r = dZ S r) ∧ (∀ p, p < dP S → (h.1 (a + 4) p = nI (dF S p) ∧ dF S p < dN S) ∧ h.1 (a + 5) p = nI (dS S p) ∧ dS S p < dN S) ∧ ∀ k, k < 5 → h.1 (a + 6) k = dT S k
/-- speed of a ring at a heat -/
def spd (S : zD) (r : Nat) (t : Int32) : Int32 := dB S r + dD S r * (t - 20) / 10
/-- a pair's bit out of two speeds -/
def bby (x y : Int32) (a b : Nat) : Int32 := if y < x ∨ x = y ∧ a < b then 1 else 0
def ca_X6_speedOf : (zD × Nat × Nat × Int32) → List zV := fun (S, a, r, t) => [vR 15 0 a, vI (nI r), vI t]
def cp_X6_speedOf : (zD × Nat × Nat × Int32) → zH → Prop := fun (S, a, r, t) h => rpS S h a ∧ r < dN S
def cf_X6_speedOf : (zD × Nat × Nat × Int32) → zH → Int32 := fun (S, a, r, t) _ => spd S r t
theorem rc_X6_speedOf : ∀ x : (zD × Nat × Nat × Int32), ∃ (j a : Nat) (As : List zV), ca_X6_speedOf x = vR (10 + 5) j a :: As := by
  rintro ⟨S, a, r, t⟩
  exact ⟨_, _, _, rfl⟩
set_option maxHeartbeats 4000000 in
set_option maxRecDepth 100000 in
theorem m_X6_speedOf : zM yX6_speedOf cX6_speedOf 3 (some .int) ({ frames := 0, cells := 0, slots := 0, locals := 0 } : Room) (zcI ca_X6_speedOf cp_X6_speedOf cf_X6_speedOf) := by
  refine zM_of (by decide) ?_
  rintro X Y ⟨S, a, r, t⟩ h ⟨hS, hr⟩ O E hR
  have B_0 := zr_aload_n (X := X) (Y := Y) (u := 0) (v := 0) O dX6_speedOf_0 rfl (zr_gS (ci := 5) (j := 1) (off := 1) (t := 1) (n := 10) O zc_5 (by decide) rfl tw_50 dX6_speedOf_1 (zr_iload_n O dX6_speedOf_4 rfl (zr_iald O dX6_speedOf_5 (zr_aload_n O dX6_speedOf_6 rfl (zr_gS (ci := 5) (j := 2) (off := 2) (t := 1) (n := 10) O zc_5 (by decide) rfl tw_51 dX6_speedOf_7 (zr_iload_n O dX6_speedOf_10 rfl (zr_iald O dX6_speedOf_11 (zr_iload_n O dX6_speedOf_12 rfl (zr_bipush (x := (20)) O dX6_speedOf_13 (by decide) (zr_isub O dX6_speedOf_15 (zr_imul O dX6_speedOf_16 (zr_bipush (x := (10)) O dX6_speedOf_17 (by decide) (zr_idiv O dX6_speedOf_19 (zr_iadd O dX6_speedOf_20 (zr_ireturn O E (Nat.le_refl _) (Nat.le_refl _) dX6_speedOf_21)))))))))))))))
  refine ⟨rfl, Nat.le_of_ble_eq_true rfl, _, B_0, ?_⟩
  have hN := hS.1.2
  refine ⟨r, rfl, Nat.lt_of_lt_of_le hr hN, ?_⟩
  refine ⟨r, rfl, Nat.lt_of_lt_of_le hr hN, ?_⟩
  refine ⟨by decide, ?_⟩
  obtain ⟨h1, h2, h3⟩ := hS.2.2.1 r hr
  refine ⟨?_, rfl⟩
  show some (Sum.inl _) = some (Sum.inl _)
  rw [h1, h2]
  rfl
end
