-- ===== PART A: goes FIRST, ahead of the names: the tables' words, and 'selects' of the private methods out of them =====
/-- a private method of a class that the tables say can be made, by its rows of tables_1 -/
def lw_okq (q : MethodName × Nat) : Prop := (q.1.cls ≠ "java/lang/invoke/MethodHandle" ∧ q.1.cls ≠ "java/lang/invoke/VarHandle") ∧ Cond.instantiable q.1.cls q.2 ∈ tables_1 ∧ Cond.privateMethod q.1 ∈ tables_1 ∧ Cond.instanceMethod q.1 ∈ tables_1
theorem lw_p0 : lw_okq (⟨"LookTimes", "refuse", "(I)I"⟩, 14) := ⟨⟨by decide +kernel, by decide +kernel⟩, List.mem_of_getElem? (i := 22) (by decide +kernel), List.mem_of_getElem? (i := 543) (by decide +kernel), List.mem_of_getElem? (i := 544) (by decide +kernel)⟩
theorem lw_p1 : lw_okq (⟨"LookTimes", "deny", "(I)Z"⟩, 14) := ⟨⟨by decide +kernel, by decide +kernel⟩, List.mem_of_getElem? (i := 22) (by decide +kernel), List.mem_of_getElem? (i := 555) (by decide +kernel), List.mem_of_getElem? (i := 556) (by decide +kernel)⟩
theorem lw_p2 : lw_okq (⟨"LookTimes$Text", "endOfToken", "(I)I"⟩, 6) := ⟨⟨by decide +kernel, by decide +kernel⟩, List.mem_of_getElem? (i := 30) (by decide +kernel), List.mem_of_getElem? (i := 571) (by decide +kernel), List.mem_of_getElem? (i := 572) (by decide +kernel)⟩
theorem lw_p3 : lw_okq (⟨"LookTimes$Text", "keep", "(III)V"⟩, 6) := ⟨⟨by decide +kernel, by decide +kernel⟩, List.mem_of_getElem? (i := 30) (by decide +kernel), List.mem_of_getElem? (i := 584) (by decide +kernel), List.mem_of_getElem? (i := 585) (by decide +kernel)⟩
theorem lw_p4 : lw_okq (⟨"LookTimes$Text", "codeOf", "(II)I"⟩, 6) := ⟨⟨by decide +kernel, by decide +kernel⟩, List.mem_of_getElem? (i := 30) (by decide +kernel), List.mem_of_getElem? (i := 588) (by decide +kernel), List.mem_of_getElem? (i := 589) (by decide +kernel)⟩
theorem lw_p5 : lw_okq (⟨"LookTimes$Text", "wordCode", "(II)I"⟩, 6) := ⟨⟨by decide +kernel, by decide +kernel⟩, List.mem_of_getElem? (i := 30) (by decide +kernel), List.mem_of_getElem? (i := 592) (by decide +kernel), List.mem_of_getElem? (i := 593) (by decide +kernel)⟩
theorem lw_p6 : lw_okq (⟨"LookTimes$Text", "isWord", "(III)Z"⟩, 6) := ⟨⟨by decide +kernel, by decide +kernel⟩, List.mem_of_getElem? (i := 30) (by decide +kernel), List.mem_of_getElem? (i := 596) (by decide +kernel), List.mem_of_getElem? (i := 597) (by decide +kernel)⟩
theorem lw_p7 : lw_okq (⟨"LookTimes$Text", "numberCode", "(II)I"⟩, 6) := ⟨⟨by decide +kernel, by decide +kernel⟩, List.mem_of_getElem? (i := 30) (by decide +kernel), List.mem_of_getElem? (i := 641) (by decide +kernel), List.mem_of_getElem? (i := 642) (by decide +kernel)⟩
theorem lw_p8 : lw_okq (⟨"LookTimes$Parser", "parseLine", "()Z"⟩, 4) := ⟨⟨by decide +kernel, by decide +kernel⟩, List.mem_of_getElem? (i := 57) (by decide +kernel), List.mem_of_getElem? (i := 660) (by decide +kernel), List.mem_of_getElem? (i := 661) (by decide +kernel)⟩
theorem lw_p9 : lw_okq (⟨"LookTimes$Parser", "parseNewName", "()Z"⟩, 4) := ⟨⟨by decide +kernel, by decide +kernel⟩, List.mem_of_getElem? (i := 57) (by decide +kernel), List.mem_of_getElem? (i := 664) (by decide +kernel), List.mem_of_getElem? (i := 665) (by decide +kernel)⟩
theorem lw_p10 : lw_okq (⟨"LookTimes$Parser", "parseToken", "(I)Z"⟩, 4) := ⟨⟨by decide +kernel, by decide +kernel⟩, List.mem_of_getElem? (i := 57) (by decide +kernel), List.mem_of_getElem? (i := 678) (by decide +kernel), List.mem_of_getElem? (i := 679) (by decide +kernel)⟩
theorem lw_p11 : lw_okq (⟨"LookTimes$Parser", "parseExpression", "(I)Z"⟩, 4) := ⟨⟨by decide +kernel, by decide +kernel⟩, List.mem_of_getElem? (i := 57) (by decide +kernel), List.mem_of_getElem? (i := 682) (by decide +kernel), List.mem_of_getElem? (i := 683) (by decide +kernel)⟩
theorem lw_p12 : lw_okq (⟨"LookTimes$Parser", "parseSum", "(I)Z"⟩, 4) := ⟨⟨by decide +kernel, by decide +kernel⟩, List.mem_of_getElem? (i := 57) (by decide +kernel), List.mem_of_getElem? (i := 686) (by decide +kernel), List.mem_of_getElem? (i := 687) (by decide +kernel)⟩
theorem lw_p13 : lw_okq (⟨"LookTimes$Parser", "parseProduct", "(I)Z"⟩, 4) := ⟨⟨by decide +kernel, by decide +kernel⟩, List.mem_of_getElem? (i := 57) (by decide +kernel), List.mem_of_getElem? (i := 690) (by decide +kernel), List.mem_of_getElem? (i := 691) (by decide +kernel)⟩
theorem lw_p14 : lw_okq (⟨"LookTimes$Parser", "parseFactor", "(I)Z"⟩, 4) := ⟨⟨by decide +kernel, by decide +kernel⟩, List.mem_of_getElem? (i := 57) (by decide +kernel), List.mem_of_getElem? (i := 694) (by decide +kernel), List.mem_of_getElem? (i := 695) (by decide +kernel)⟩
theorem lw_p15 : lw_okq (⟨"LookTimes", "hasBabyTrial", "(II)Z"⟩, 14) := ⟨⟨by decide +kernel, by decide +kernel⟩, List.mem_of_getElem? (i := 22) (by decide +kernel), List.mem_of_getElem? (i := 803) (by decide +kernel), List.mem_of_getElem? (i := 804) (by decide +kernel)⟩
def lw_privs_1 : List (MethodName × Nat) := [(⟨"LookTimes", "refuse", "(I)I"⟩, 14), (⟨"LookTimes", "deny", "(I)Z"⟩, 14), (⟨"LookTimes$Text", "endOfToken", "(I)I"⟩, 6), (⟨"LookTimes$Text", "keep", "(III)V"⟩, 6), (⟨"LookTimes$Text", "codeOf", "(II)I"⟩, 6), (⟨"LookTimes$Text", "wordCode", "(II)I"⟩, 6), (⟨"LookTimes$Text", "isWord", "(III)Z"⟩, 6), (⟨"LookTimes$Text", "numberCode", "(II)I"⟩, 6), (⟨"LookTimes$Parser", "parseLine", "()Z"⟩, 4), (⟨"LookTimes$Parser", "parseNewName", "()Z"⟩, 4), (⟨"LookTimes$Parser", "parseToken", "(I)Z"⟩, 4), (⟨"LookTimes$Parser", "parseExpression", "(I)Z"⟩, 4), (⟨"LookTimes$Parser", "parseSum", "(I)Z"⟩, 4), (⟨"LookTimes$Parser", "parseProduct", "(I)Z"⟩, 4), (⟨"LookTimes$Parser", "parseFactor", "(I)Z"⟩, 4), (⟨"LookTimes", "hasBabyTrial", "(II)Z"⟩, 14)]
theorem lw_r1 : ∀ q ∈ lw_privs_1, lw_okq q := List.forall_mem_cons.mpr ⟨lw_p0, List.forall_mem_cons.mpr ⟨lw_p1, List.forall_mem_cons.mpr ⟨lw_p2, List.forall_mem_cons.mpr ⟨lw_p3, List.forall_mem_cons.mpr ⟨lw_p4, List.forall_mem_cons.mpr ⟨lw_p5, List.forall_mem_cons.mpr ⟨lw_p6, List.forall_mem_cons.mpr ⟨lw_p7, List.forall_mem_cons.mpr ⟨lw_p8, List.forall_mem_cons.mpr ⟨lw_p9, List.forall_mem_cons.mpr ⟨lw_p10, List.forall_mem_cons.mpr ⟨lw_p11, List.forall_mem_cons.mpr ⟨lw_p12, List.forall_mem_cons.mpr ⟨lw_p13, List.forall_mem_cons.mpr ⟨lw_p14, List.forall_mem_cons.mpr ⟨lw_p15, fun _ h => absurd h List.not_mem_nil⟩⟩⟩⟩⟩⟩⟩⟩⟩⟩⟩⟩⟩⟩⟩⟩
theorem lw_p16 : lw_okq (⟨"LookTimes$Program", "work", "(II[I)I"⟩, 9) := ⟨⟨by decide +kernel, by decide +kernel⟩, List.mem_of_getElem? (i := 63) (by decide +kernel), List.mem_of_getElem? (i := 909) (by decide +kernel), List.mem_of_getElem? (i := 910) (by decide +kernel)⟩
theorem lw_p17 : lw_okq (⟨"LookTimes$Odds", "choose", "(I)I"⟩, 9) := ⟨⟨by decide +kernel, by decide +kernel⟩, List.mem_of_getElem? (i := 326) (by decide +kernel), List.mem_of_getElem? (i := 971) (by decide +kernel), List.mem_of_getElem? (i := 972) (by decide +kernel)⟩
theorem lw_p18 : lw_okq (⟨"LookTimes$Odds", "waysOf", "(I)I"⟩, 9) := ⟨⟨by decide +kernel, by decide +kernel⟩, List.mem_of_getElem? (i := 326) (by decide +kernel), List.mem_of_getElem? (i := 975) (by decide +kernel), List.mem_of_getElem? (i := 976) (by decide +kernel)⟩
theorem lw_p19 : lw_okq (⟨"LookTimes$Odds", "gather", "(II[I)I"⟩, 9) := ⟨⟨by decide +kernel, by decide +kernel⟩, List.mem_of_getElem? (i := 326) (by decide +kernel), List.mem_of_getElem? (i := 979) (by decide +kernel), List.mem_of_getElem? (i := 980) (by decide +kernel)⟩
theorem lw_p20 : lw_okq (⟨"LookTimes$Odds", "addValue", "(I[II)V"⟩, 9) := ⟨⟨by decide +kernel, by decide +kernel⟩, List.mem_of_getElem? (i := 326) (by decide +kernel), List.mem_of_getElem? (i := 983) (by decide +kernel), List.mem_of_getElem? (i := 984) (by decide +kernel)⟩
theorem lw_p21 : lw_okq (⟨"LookTimes$Hindsight", "tryReadings", "()V"⟩, 10) := ⟨⟨by decide +kernel, by decide +kernel⟩, List.mem_of_getElem? (i := 364) (by decide +kernel), List.mem_of_getElem? (i := 1004) (by decide +kernel), List.mem_of_getElem? (i := 1005) (by decide +kernel)⟩
theorem lw_p22 : lw_okq (⟨"LookTimes$Hindsight", "oneToLeave", "(I)I"⟩, 10) := ⟨⟨by decide +kernel, by decide +kernel⟩, List.mem_of_getElem? (i := 364) (by decide +kernel), List.mem_of_getElem? (i := 1019) (by decide +kernel), List.mem_of_getElem? (i := 1020) (by decide +kernel)⟩
theorem lw_p23 : lw_okq (⟨"LookTimes$Hindsight", "twoToLeave", "(I)I"⟩, 10) := ⟨⟨by decide +kernel, by decide +kernel⟩, List.mem_of_getElem? (i := 364) (by decide +kernel), List.mem_of_getElem? (i := 1023) (by decide +kernel), List.mem_of_getElem? (i := 1024) (by decide +kernel)⟩
theorem lw_p24 : lw_okq (⟨"LookTimes$Hindsight", "threeToLeave", "(I)I"⟩, 10) := ⟨⟨by decide +kernel, by decide +kernel⟩, List.mem_of_getElem? (i := 364) (by decide +kernel), List.mem_of_getElem? (i := 1027) (by decide +kernel), List.mem_of_getElem? (i := 1028) (by decide +kernel)⟩
theorem lw_p25 : lw_okq (⟨"LookTimes$Hindsight", "noticeNone", "()V"⟩, 10) := ⟨⟨by decide +kernel, by decide +kernel⟩, List.mem_of_getElem? (i := 364) (by decide +kernel), List.mem_of_getElem? (i := 1053) (by decide +kernel), List.mem_of_getElem? (i := 1054) (by decide +kernel)⟩
theorem lw_p26 : lw_okq (⟨"LookTimes$Hindsight", "notice", "(I)V"⟩, 10) := ⟨⟨by decide +kernel, by decide +kernel⟩, List.mem_of_getElem? (i := 364) (by decide +kernel), List.mem_of_getElem? (i := 1058) (by decide +kernel), List.mem_of_getElem? (i := 1059) (by decide +kernel)⟩
theorem lw_p27 : lw_okq (⟨"LookTimes$Teller", "drawLook", "(I)I"⟩, 8) := ⟨⟨by decide +kernel, by decide +kernel⟩, List.mem_of_getElem? (i := 258) (by decide +kernel), List.mem_of_getElem? (i := 1091) (by decide +kernel), List.mem_of_getElem? (i := 1092) (by decide +kernel)⟩
theorem lw_p28 : lw_okq (⟨"LookTimes$Teller", "lot", "(I)I"⟩, 8) := ⟨⟨by decide +kernel, by decide +kernel⟩, List.mem_of_getElem? (i := 258) (by decide +kernel), List.mem_of_getElem? (i := 1095) (by decide +kernel), List.mem_of_getElem? (i := 1096) (by decide +kernel)⟩
theorem lw_p29 : lw_okq (⟨"LookTimes$Finder", "extend", "(I)V"⟩, 15) := ⟨⟨by decide +kernel, by decide +kernel⟩, List.mem_of_getElem? (i := 408) (by decide +kernel), List.mem_of_getElem? (i := 1135) (by decide +kernel), List.mem_of_getElem? (i := 1136) (by decide +kernel)⟩
theorem lw_p30 : lw_okq (⟨"LookTimes$Finder", "place", "(II)V"⟩, 15) := ⟨⟨by decide +kernel, by decide +kernel⟩, List.mem_of_getElem? (i := 408) (by decide +kernel), List.mem_of_getElem? (i := 1139) (by decide +kernel), List.mem_of_getElem? (i := 1140) (by decide +kernel)⟩
theorem lw_p31 : lw_okq (⟨"LookTimes$Finder", "weigh", "()V"⟩, 15) := ⟨⟨by decide +kernel, by decide +kernel⟩, List.mem_of_getElem? (i := 408) (by decide +kernel), List.mem_of_getElem? (i := 1145) (by decide +kernel), List.mem_of_getElem? (i := 1146) (by decide +kernel)⟩
def lw_privs_2 : List (MethodName × Nat) := [(⟨"LookTimes$Program", "work", "(II[I)I"⟩, 9), (⟨"LookTimes$Odds", "choose", "(I)I"⟩, 9), (⟨"LookTimes$Odds", "waysOf", "(I)I"⟩, 9), (⟨"LookTimes$Odds", "gather", "(II[I)I"⟩, 9), (⟨"LookTimes$Odds", "addValue", "(I[II)V"⟩, 9), (⟨"LookTimes$Hindsight", "tryReadings", "()V"⟩, 10), (⟨"LookTimes$Hindsight", "oneToLeave", "(I)I"⟩, 10), (⟨"LookTimes$Hindsight", "twoToLeave", "(I)I"⟩, 10), (⟨"LookTimes$Hindsight", "threeToLeave", "(I)I"⟩, 10), (⟨"LookTimes$Hindsight", "noticeNone", "()V"⟩, 10), (⟨"LookTimes$Hindsight", "notice", "(I)V"⟩, 10), (⟨"LookTimes$Teller", "drawLook", "(I)I"⟩, 8), (⟨"LookTimes$Teller", "lot", "(I)I"⟩, 8), (⟨"LookTimes$Finder", "extend", "(I)V"⟩, 15), (⟨"LookTimes$Finder", "place", "(II)V"⟩, 15), (⟨"LookTimes$Finder", "weigh", "()V"⟩, 15)]
theorem lw_r2 : ∀ q ∈ lw_privs_2, lw_okq q := List.forall_mem_cons.mpr ⟨lw_p16, List.forall_mem_cons.mpr ⟨lw_p17, List.forall_mem_cons.mpr ⟨lw_p18, List.forall_mem_cons.mpr ⟨lw_p19, List.forall_mem_cons.mpr ⟨lw_p20, List.forall_mem_cons.mpr ⟨lw_p21, List.forall_mem_cons.mpr ⟨lw_p22, List.forall_mem_cons.mpr ⟨lw_p23, List.forall_mem_cons.mpr ⟨lw_p24, List.forall_mem_cons.mpr ⟨lw_p25, List.forall_mem_cons.mpr ⟨lw_p26, List.forall_mem_cons.mpr ⟨lw_p27, List.forall_mem_cons.mpr ⟨lw_p28, List.forall_mem_cons.mpr ⟨lw_p29, List.forall_mem_cons.mpr ⟨lw_p30, List.forall_mem_cons.mpr ⟨lw_p31, fun _ h => absurd h List.not_mem_nil⟩⟩⟩⟩⟩⟩⟩⟩⟩⟩⟩⟩⟩⟩⟩⟩
theorem lw_p32 : lw_okq (⟨"LookTimes$Finder", "partedCouples", "()I"⟩, 15) := ⟨⟨by decide +kernel, by decide +kernel⟩, List.mem_of_getElem? (i := 408) (by decide +kernel), List.mem_of_getElem? (i := 1149) (by decide +kernel), List.mem_of_getElem? (i := 1150) (by decide +kernel)⟩
theorem lw_p33 : lw_okq (⟨"LookTimes", "offFor", "(II)I"⟩, 14) := ⟨⟨by decide +kernel, by decide +kernel⟩, List.mem_of_getElem? (i := 22) (by decide +kernel), List.mem_of_getElem? (i := 1178) (by decide +kernel), List.mem_of_getElem? (i := 1179) (by decide +kernel)⟩
theorem lw_p34 : lw_okq (⟨"LookTimes", "offOf", "(II)I"⟩, 14) := ⟨⟨by decide +kernel, by decide +kernel⟩, List.mem_of_getElem? (i := 22) (by decide +kernel), List.mem_of_getElem? (i := 1182) (by decide +kernel), List.mem_of_getElem? (i := 1183) (by decide +kernel)⟩
theorem lw_p35 : lw_okq (⟨"LookTimesModel", "deny", "(ZZ)Z"⟩, 64) := ⟨⟨by decide +kernel, by decide +kernel⟩, List.mem_of_getElem? (i := 1231) (by decide +kernel), List.mem_of_getElem? (i := 1466) (by decide +kernel), List.mem_of_getElem? (i := 1467) (by decide +kernel)⟩
theorem lw_p36 : lw_okq (⟨"LookTimesModel", "refuse", "(ZZ)I"⟩, 64) := ⟨⟨by decide +kernel, by decide +kernel⟩, List.mem_of_getElem? (i := 1231) (by decide +kernel), List.mem_of_getElem? (i := 1470) (by decide +kernel), List.mem_of_getElem? (i := 1471) (by decide +kernel)⟩
theorem lw_p37 : lw_okq (⟨"LookTimesModel", "isScreen", "(I)Z"⟩, 64) := ⟨⟨by decide +kernel, by decide +kernel⟩, List.mem_of_getElem? (i := 1231) (by decide +kernel), List.mem_of_getElem? (i := 1484) (by decide +kernel), List.mem_of_getElem? (i := 1485) (by decide +kernel)⟩
theorem lw_p38 : lw_okq (⟨"LookTimesModel", "isOdd", "(I)Z"⟩, 64) := ⟨⟨by decide +kernel, by decide +kernel⟩, List.mem_of_getElem? (i := 1231) (by decide +kernel), List.mem_of_getElem? (i := 1489) (by decide +kernel), List.mem_of_getElem? (i := 1490) (by decide +kernel)⟩
theorem lw_p39 : lw_okq (⟨"LookTimesModel", "isPlan", "(I)Z"⟩, 64) := ⟨⟨by decide +kernel, by decide +kernel⟩, List.mem_of_getElem? (i := 1231) (by decide +kernel), List.mem_of_getElem? (i := 1501) (by decide +kernel), List.mem_of_getElem? (i := 1502) (by decide +kernel)⟩
theorem lw_p40 : lw_okq (⟨"LookTimesModel", "isTrial", "(II)Z"⟩, 64) := ⟨⟨by decide +kernel, by decide +kernel⟩, List.mem_of_getElem? (i := 1231) (by decide +kernel), List.mem_of_getElem? (i := 1520) (by decide +kernel), List.mem_of_getElem? (i := 1521) (by decide +kernel)⟩
theorem lw_p41 : lw_okq (⟨"LookTimesModel", "isBaby", "(I)Z"⟩, 64) := ⟨⟨by decide +kernel, by decide +kernel⟩, List.mem_of_getElem? (i := 1231) (by decide +kernel), List.mem_of_getElem? (i := 1524) (by decide +kernel), List.mem_of_getElem? (i := 1525) (by decide +kernel)⟩
theorem lw_p42 : lw_okq (⟨"LookTimesModel", "lengthOf", "(II)I"⟩, 64) := ⟨⟨by decide +kernel, by decide +kernel⟩, List.mem_of_getElem? (i := 1231) (by decide +kernel), List.mem_of_getElem? (i := 1554) (by decide +kernel), List.mem_of_getElem? (i := 1555) (by decide +kernel)⟩
theorem lw_p43 : lw_okq (⟨"LookTimesModel", "plain", "(II)I"⟩, 64) := ⟨⟨by decide +kernel, by decide +kernel⟩, List.mem_of_getElem? (i := 1231) (by decide +kernel), List.mem_of_getElem? (i := 1558) (by decide +kernel), List.mem_of_getElem? (i := 1559) (by decide +kernel)⟩
theorem lw_p44 : lw_okq (⟨"LookTimesModel", "screenOf", "(II)I"⟩, 64) := ⟨⟨by decide +kernel, by decide +kernel⟩, List.mem_of_getElem? (i := 1231) (by decide +kernel), List.mem_of_getElem? (i := 1563) (by decide +kernel), List.mem_of_getElem? (i := 1564) (by decide +kernel)⟩
theorem lw_p45 : lw_okq (⟨"LookTimesModel", "readOf", "(II)I"⟩, 64) := ⟨⟨by decide +kernel, by decide +kernel⟩, List.mem_of_getElem? (i := 1231) (by decide +kernel), List.mem_of_getElem? (i := 1572) (by decide +kernel), List.mem_of_getElem? (i := 1573) (by decide +kernel)⟩
theorem lw_p46 : lw_okq (⟨"LookTimesModel", "trialsOf", "(I)I"⟩, 64) := ⟨⟨by decide +kernel, by decide +kernel⟩, List.mem_of_getElem? (i := 1231) (by decide +kernel), List.mem_of_getElem? (i := 1576) (by decide +kernel), List.mem_of_getElem? (i := 1577) (by decide +kernel)⟩
theorem lw_p47 : lw_okq (⟨"LookTimesModel", "feeds", "(I)V"⟩, 64) := ⟨⟨by decide +kernel, by decide +kernel⟩, List.mem_of_getElem? (i := 1231) (by decide +kernel), List.mem_of_getElem? (i := 1584) (by decide +kernel), List.mem_of_getElem? (i := 1585) (by decide +kernel)⟩
def lw_privs_3 : List (MethodName × Nat) := [(⟨"LookTimes$Finder", "partedCouples", "()I"⟩, 15), (⟨"LookTimes", "offFor", "(II)I"⟩, 14), (⟨"LookTimes", "offOf", "(II)I"⟩, 14), (⟨"LookTimesModel", "deny", "(ZZ)Z"⟩, 64), (⟨"LookTimesModel", "refuse", "(ZZ)I"⟩, 64), (⟨"LookTimesModel", "isScreen", "(I)Z"⟩, 64), (⟨"LookTimesModel", "isOdd", "(I)Z"⟩, 64), (⟨"LookTimesModel", "isPlan", "(I)Z"⟩, 64), (⟨"LookTimesModel", "isTrial", "(II)Z"⟩, 64), (⟨"LookTimesModel", "isBaby", "(I)Z"⟩, 64), (⟨"LookTimesModel", "lengthOf", "(II)I"⟩, 64), (⟨"LookTimesModel", "plain", "(II)I"⟩, 64), (⟨"LookTimesModel", "screenOf", "(II)I"⟩, 64), (⟨"LookTimesModel", "readOf", "(II)I"⟩, 64), (⟨"LookTimesModel", "trialsOf", "(I)I"⟩, 64), (⟨"LookTimesModel", "feeds", "(I)V"⟩, 64)]
theorem lw_r3 : ∀ q ∈ lw_privs_3, lw_okq q := List.forall_mem_cons.mpr ⟨lw_p32, List.forall_mem_cons.mpr ⟨lw_p33, List.forall_mem_cons.mpr ⟨lw_p34, List.forall_mem_cons.mpr ⟨lw_p35, List.forall_mem_cons.mpr ⟨lw_p36, List.forall_mem_cons.mpr ⟨lw_p37, List.forall_mem_cons.mpr ⟨lw_p38, List.forall_mem_cons.mpr ⟨lw_p39, List.forall_mem_cons.mpr ⟨lw_p40, List.forall_mem_cons.mpr ⟨lw_p41, List.forall_mem_cons.mpr ⟨lw_p42, List.forall_mem_cons.mpr ⟨lw_p43, List.forall_mem_cons.mpr ⟨lw_p44, List.forall_mem_cons.mpr ⟨lw_p45, List.forall_mem_cons.mpr ⟨lw_p46, List.forall_mem_cons.mpr ⟨lw_p47, fun _ h => absurd h List.not_mem_nil⟩⟩⟩⟩⟩⟩⟩⟩⟩⟩⟩⟩⟩⟩⟩⟩
theorem lw_p48 : lw_okq (⟨"LookTimesModel", "reads", "()V"⟩, 64) := ⟨⟨by decide +kernel, by decide +kernel⟩, List.mem_of_getElem? (i := 1231) (by decide +kernel), List.mem_of_getElem? (i := 1596) (by decide +kernel), List.mem_of_getElem? (i := 1597) (by decide +kernel)⟩
theorem lw_p49 : lw_okq (⟨"LookTimesModel", "next", "()V"⟩, 64) := ⟨⟨by decide +kernel, by decide +kernel⟩, List.mem_of_getElem? (i := 1231) (by decide +kernel), List.mem_of_getElem? (i := 1600) (by decide +kernel), List.mem_of_getElem? (i := 1601) (by decide +kernel)⟩
theorem lw_p50 : lw_okq (⟨"LookTimesModel", "between", "(III)Z"⟩, 64) := ⟨⟨by decide +kernel, by decide +kernel⟩, List.mem_of_getElem? (i := 1231) (by decide +kernel), List.mem_of_getElem? (i := 1604) (by decide +kernel), List.mem_of_getElem? (i := 1605) (by decide +kernel)⟩
theorem lw_p51 : lw_okq (⟨"LookTimesModel", "line", "()Z"⟩, 64) := ⟨⟨by decide +kernel, by decide +kernel⟩, List.mem_of_getElem? (i := 1231) (by decide +kernel), List.mem_of_getElem? (i := 1608) (by decide +kernel), List.mem_of_getElem? (i := 1609) (by decide +kernel)⟩
theorem lw_p52 : lw_okq (⟨"LookTimesModel", "isWord", "(Ljava/lang/String;)Z"⟩, 64) := ⟨⟨by decide +kernel, by decide +kernel⟩, List.mem_of_getElem? (i := 1231) (by decide +kernel), List.mem_of_getElem? (i := 1612) (by decide +kernel), List.mem_of_getElem? (i := 1613) (by decide +kernel)⟩
theorem lw_p53 : lw_okq (⟨"LookTimesModel", "passes", "(Z)Z"⟩, 64) := ⟨⟨by decide +kernel, by decide +kernel⟩, List.mem_of_getElem? (i := 1231) (by decide +kernel), List.mem_of_getElem? (i := 1625) (by decide +kernel), List.mem_of_getElem? (i := 1626) (by decide +kernel)⟩
theorem lw_p54 : lw_okq (⟨"LookTimesModel", "clause", "(I)Z"⟩, 64) := ⟨⟨by decide +kernel, by decide +kernel⟩, List.mem_of_getElem? (i := 1231) (by decide +kernel), List.mem_of_getElem? (i := 1629) (by decide +kernel), List.mem_of_getElem? (i := 1630) (by decide +kernel)⟩
theorem lw_p55 : lw_okq (⟨"LookTimesModel", "whole", "(I)Z"⟩, 64) := ⟨⟨by decide +kernel, by decide +kernel⟩, List.mem_of_getElem? (i := 1231) (by decide +kernel), List.mem_of_getElem? (i := 1633) (by decide +kernel), List.mem_of_getElem? (i := 1634) (by decide +kernel)⟩
theorem lw_p56 : lw_okq (⟨"LookTimesModel", "sum", "(I)Z"⟩, 64) := ⟨⟨by decide +kernel, by decide +kernel⟩, List.mem_of_getElem? (i := 1231) (by decide +kernel), List.mem_of_getElem? (i := 1637) (by decide +kernel), List.mem_of_getElem? (i := 1638) (by decide +kernel)⟩
theorem lw_p57 : lw_okq (⟨"LookTimesModel", "product", "(I)Z"⟩, 64) := ⟨⟨by decide +kernel, by decide +kernel⟩, List.mem_of_getElem? (i := 1231) (by decide +kernel), List.mem_of_getElem? (i := 1641) (by decide +kernel), List.mem_of_getElem? (i := 1642) (by decide +kernel)⟩
theorem lw_p58 : lw_okq (⟨"LookTimesModel", "factor", "(I)Z"⟩, 64) := ⟨⟨by decide +kernel, by decide +kernel⟩, List.mem_of_getElem? (i := 1231) (by decide +kernel), List.mem_of_getElem? (i := 1645) (by decide +kernel), List.mem_of_getElem? (i := 1646) (by decide +kernel)⟩
theorem lw_p59 : lw_okq (⟨"LookTimesModel", "isSign", "(I)Z"⟩, 64) := ⟨⟨by decide +kernel, by decide +kernel⟩, List.mem_of_getElem? (i := 1231) (by decide +kernel), List.mem_of_getElem? (i := 1649) (by decide +kernel), List.mem_of_getElem? (i := 1650) (by decide +kernel)⟩
theorem lw_p60 : lw_okq (⟨"LookTimesModel", "mark", "(I)V"⟩, 64) := ⟨⟨by decide +kernel, by decide +kernel⟩, List.mem_of_getElem? (i := 1231) (by decide +kernel), List.mem_of_getElem? (i := 1653) (by decide +kernel), List.mem_of_getElem? (i := 1654) (by decide +kernel)⟩
theorem lw_p61 : lw_okq (⟨"LookTimesModel", "nameHere", "()I"⟩, 64) := ⟨⟨by decide +kernel, by decide +kernel⟩, List.mem_of_getElem? (i := 1231) (by decide +kernel), List.mem_of_getElem? (i := 1657) (by decide +kernel), List.mem_of_getElem? (i := 1658) (by decide +kernel)⟩
theorem lw_p62 : lw_okq (⟨"LookTimesModel", "newName", "()J"⟩, 64) := ⟨⟨by decide +kernel, by decide +kernel⟩, List.mem_of_getElem? (i := 1231) (by decide +kernel), List.mem_of_getElem? (i := 1661) (by decide +kernel), List.mem_of_getElem? (i := 1662) (by decide +kernel)⟩
theorem lw_p63 : lw_okq (⟨"LookTimesModel", "isLaw", "(I)Z"⟩, 64) := ⟨⟨by decide +kernel, by decide +kernel⟩, List.mem_of_getElem? (i := 1231) (by decide +kernel), List.mem_of_getElem? (i := 1676) (by decide +kernel), List.mem_of_getElem? (i := 1677) (by decide +kernel)⟩
def lw_privs_4 : List (MethodName × Nat) := [(⟨"LookTimesModel", "reads", "()V"⟩, 64), (⟨"LookTimesModel", "next", "()V"⟩, 64), (⟨"LookTimesModel", "between", "(III)Z"⟩, 64), (⟨"LookTimesModel", "line", "()Z"⟩, 64), (⟨"LookTimesModel", "isWord", "(Ljava/lang/String;)Z"⟩, 64), (⟨"LookTimesModel", "passes", "(Z)Z"⟩, 64), (⟨"LookTimesModel", "clause", "(I)Z"⟩, 64), (⟨"LookTimesModel", "whole", "(I)Z"⟩, 64), (⟨"LookTimesModel", "sum", "(I)Z"⟩, 64), (⟨"LookTimesModel", "product", "(I)Z"⟩, 64), (⟨"LookTimesModel", "factor", "(I)Z"⟩, 64), (⟨"LookTimesModel", "isSign", "(I)Z"⟩, 64), (⟨"LookTimesModel", "mark", "(I)V"⟩, 64), (⟨"LookTimesModel", "nameHere", "()I"⟩, 64), (⟨"LookTimesModel", "newName", "()J"⟩, 64), (⟨"LookTimesModel", "isLaw", "(I)Z"⟩, 64)]
theorem lw_r4 : ∀ q ∈ lw_privs_4, lw_okq q := List.forall_mem_cons.mpr ⟨lw_p48, List.forall_mem_cons.mpr ⟨lw_p49, List.forall_mem_cons.mpr ⟨lw_p50, List.forall_mem_cons.mpr ⟨lw_p51, List.forall_mem_cons.mpr ⟨lw_p52, List.forall_mem_cons.mpr ⟨lw_p53, List.forall_mem_cons.mpr ⟨lw_p54, List.forall_mem_cons.mpr ⟨lw_p55, List.forall_mem_cons.mpr ⟨lw_p56, List.forall_mem_cons.mpr ⟨lw_p57, List.forall_mem_cons.mpr ⟨lw_p58, List.forall_mem_cons.mpr ⟨lw_p59, List.forall_mem_cons.mpr ⟨lw_p60, List.forall_mem_cons.mpr ⟨lw_p61, List.forall_mem_cons.mpr ⟨lw_p62, List.forall_mem_cons.mpr ⟨lw_p63, fun _ h => absurd h List.not_mem_nil⟩⟩⟩⟩⟩⟩⟩⟩⟩⟩⟩⟩⟩⟩⟩⟩
theorem lw_p64 : lw_okq (⟨"LookTimesModel", "laysPlan", "(I)V"⟩, 64) := ⟨⟨by decide +kernel, by decide +kernel⟩, List.mem_of_getElem? (i := 1231) (by decide +kernel), List.mem_of_getElem? (i := 1680) (by decide +kernel), List.mem_of_getElem? (i := 1681) (by decide +kernel)⟩
theorem lw_p65 : lw_okq (⟨"LookTimesModel", "saysRow", "(II)V"⟩, 64) := ⟨⟨by decide +kernel, by decide +kernel⟩, List.mem_of_getElem? (i := 1231) (by decide +kernel), List.mem_of_getElem? (i := 1684) (by decide +kernel), List.mem_of_getElem? (i := 1685) (by decide +kernel)⟩
theorem lw_p66 : lw_okq (⟨"LookTimesModel", "worked", "(I)I"⟩, 64) := ⟨⟨by decide +kernel, by decide +kernel⟩, List.mem_of_getElem? (i := 1231) (by decide +kernel), List.mem_of_getElem? (i := 1688) (by decide +kernel), List.mem_of_getElem? (i := 1689) (by decide +kernel)⟩
theorem lw_p67 : lw_okq (⟨"LookTimesModel", "outBy", "(I)I"⟩, 64) := ⟨⟨by decide +kernel, by decide +kernel⟩, List.mem_of_getElem? (i := 1231) (by decide +kernel), List.mem_of_getElem? (i := 1707) (by decide +kernel), List.mem_of_getElem? (i := 1708) (by decide +kernel)⟩
theorem lw_p68 : lw_okq (⟨"LookTimesModel", "differenceOf", "(I)I"⟩, 64) := ⟨⟨by decide +kernel, by decide +kernel⟩, List.mem_of_getElem? (i := 1231) (by decide +kernel), List.mem_of_getElem? (i := 1719) (by decide +kernel), List.mem_of_getElem? (i := 1720) (by decide +kernel)⟩
theorem lw_p69 : lw_okq (⟨"LookTimesModel", "counts", "(II)V"⟩, 64) := ⟨⟨by decide +kernel, by decide +kernel⟩, List.mem_of_getElem? (i := 1231) (by decide +kernel), List.mem_of_getElem? (i := 1727) (by decide +kernel), List.mem_of_getElem? (i := 1728) (by decide +kernel)⟩
theorem lw_p70 : lw_okq (⟨"LookTimesModel", "ofThousand", "()I"⟩, 64) := ⟨⟨by decide +kernel, by decide +kernel⟩, List.mem_of_getElem? (i := 1231) (by decide +kernel), List.mem_of_getElem? (i := 1735) (by decide +kernel), List.mem_of_getElem? (i := 1736) (by decide +kernel)⟩
theorem lw_p71 : lw_okq (⟨"LookTimesModel", "isLawOrNone", "(I)Z"⟩, 64) := ⟨⟨by decide +kernel, by decide +kernel⟩, List.mem_of_getElem? (i := 1231) (by decide +kernel), List.mem_of_getElem? (i := 1770) (by decide +kernel), List.mem_of_getElem? (i := 1771) (by decide +kernel)⟩
theorem lw_p72 : lw_okq (⟨"LookTimesModel", "draws", "(II)I"⟩, 64) := ⟨⟨by decide +kernel, by decide +kernel⟩, List.mem_of_getElem? (i := 1231) (by decide +kernel), List.mem_of_getElem? (i := 1774) (by decide +kernel), List.mem_of_getElem? (i := 1775) (by decide +kernel)⟩
theorem lw_p73 : lw_okq (⟨"LookTimesModel", "lot", "(I)I"⟩, 64) := ⟨⟨by decide +kernel, by decide +kernel⟩, List.mem_of_getElem? (i := 1231) (by decide +kernel), List.mem_of_getElem? (i := 1778) (by decide +kernel), List.mem_of_getElem? (i := 1779) (by decide +kernel)⟩
theorem lw_p74 : lw_okq (⟨"LookTimesModel", "signOf", "(II)I"⟩, 64) := ⟨⟨by decide +kernel, by decide +kernel⟩, List.mem_of_getElem? (i := 1231) (by decide +kernel), List.mem_of_getElem? (i := 1794) (by decide +kernel), List.mem_of_getElem? (i := 1795) (by decide +kernel)⟩
theorem lw_p75 : lw_okq (⟨"LookTimesModel", "rowsFrom", "(IIII)V"⟩, 64) := ⟨⟨by decide +kernel, by decide +kernel⟩, List.mem_of_getElem? (i := 1231) (by decide +kernel), List.mem_of_getElem? (i := 1805) (by decide +kernel), List.mem_of_getElem? (i := 1806) (by decide +kernel)⟩
theorem lw_p76 : lw_okq (⟨"LookTimesModel", "rates", "(I)V"⟩, 64) := ⟨⟨by decide +kernel, by decide +kernel⟩, List.mem_of_getElem? (i := 1231) (by decide +kernel), List.mem_of_getElem? (i := 1809) (by decide +kernel), List.mem_of_getElem? (i := 1810) (by decide +kernel)⟩
theorem lw_p77 : lw_okq (⟨"LookTimesModel", "offAll", "(I)I"⟩, 64) := ⟨⟨by decide +kernel, by decide +kernel⟩, List.mem_of_getElem? (i := 1231) (by decide +kernel), List.mem_of_getElem? (i := 1826) (by decide +kernel), List.mem_of_getElem? (i := 1827) (by decide +kernel)⟩
theorem lw_p78 : lw_okq (⟨"LookTimesModel", "offOf", "(II)I"⟩, 64) := ⟨⟨by decide +kernel, by decide +kernel⟩, List.mem_of_getElem? (i := 1231) (by decide +kernel), List.mem_of_getElem? (i := 1830) (by decide +kernel), List.mem_of_getElem? (i := 1831) (by decide +kernel)⟩
theorem lw_p79 : lw_okq (⟨"LookTimesModel", "leftMany", "()I"⟩, 64) := ⟨⟨by decide +kernel, by decide +kernel⟩, List.mem_of_getElem? (i := 1231) (by decide +kernel), List.mem_of_getElem? (i := 1850) (by decide +kernel), List.mem_of_getElem? (i := 1851) (by decide +kernel)⟩
def lw_privs_5 : List (MethodName × Nat) := [(⟨"LookTimesModel", "laysPlan", "(I)V"⟩, 64), (⟨"LookTimesModel", "saysRow", "(II)V"⟩, 64), (⟨"LookTimesModel", "worked", "(I)I"⟩, 64), (⟨"LookTimesModel", "outBy", "(I)I"⟩, 64), (⟨"LookTimesModel", "differenceOf", "(I)I"⟩, 64), (⟨"LookTimesModel", "counts", "(II)V"⟩, 64), (⟨"LookTimesModel", "ofThousand", "()I"⟩, 64), (⟨"LookTimesModel", "isLawOrNone", "(I)Z"⟩, 64), (⟨"LookTimesModel", "draws", "(II)I"⟩, 64), (⟨"LookTimesModel", "lot", "(I)I"⟩, 64), (⟨"LookTimesModel", "signOf", "(II)I"⟩, 64), (⟨"LookTimesModel", "rowsFrom", "(IIII)V"⟩, 64), (⟨"LookTimesModel", "rates", "(I)V"⟩, 64), (⟨"LookTimesModel", "offAll", "(I)I"⟩, 64), (⟨"LookTimesModel", "offOf", "(II)I"⟩, 64), (⟨"LookTimesModel", "leftMany", "()I"⟩, 64)]
theorem lw_r5 : ∀ q ∈ lw_privs_5, lw_okq q := List.forall_mem_cons.mpr ⟨lw_p64, List.forall_mem_cons.mpr ⟨lw_p65, List.forall_mem_cons.mpr ⟨lw_p66, List.forall_mem_cons.mpr ⟨lw_p67, List.forall_mem_cons.mpr ⟨lw_p68, List.forall_mem_cons.mpr ⟨lw_p69, List.forall_mem_cons.mpr ⟨lw_p70, List.forall_mem_cons.mpr ⟨lw_p71, List.forall_mem_cons.mpr ⟨lw_p72, List.forall_mem_cons.mpr ⟨lw_p73, List.forall_mem_cons.mpr ⟨lw_p74, List.forall_mem_cons.mpr ⟨lw_p75, List.forall_mem_cons.mpr ⟨lw_p76, List.forall_mem_cons.mpr ⟨lw_p77, List.forall_mem_cons.mpr ⟨lw_p78, List.forall_mem_cons.mpr ⟨lw_p79, fun _ h => absurd h List.not_mem_nil⟩⟩⟩⟩⟩⟩⟩⟩⟩⟩⟩⟩⟩⟩⟩⟩
theorem lw_p80 : lw_okq (⟨"LookTimesModel", "moves", "([IZ)V"⟩, 64) := ⟨⟨by decide +kernel, by decide +kernel⟩, List.mem_of_getElem? (i := 1231) (by decide +kernel), List.mem_of_getElem? (i := 1858) (by decide +kernel), List.mem_of_getElem? (i := 1859) (by decide +kernel)⟩
theorem lw_p81 : lw_okq (⟨"LookTimesModel", "move", "([I[IZ)V"⟩, 64) := ⟨⟨by decide +kernel, by decide +kernel⟩, List.mem_of_getElem? (i := 1231) (by decide +kernel), List.mem_of_getElem? (i := 1862) (by decide +kernel), List.mem_of_getElem? (i := 1863) (by decide +kernel)⟩
def lw_privs_6 : List (MethodName × Nat) := [(⟨"LookTimesModel", "moves", "([IZ)V"⟩, 64), (⟨"LookTimesModel", "move", "([I[IZ)V"⟩, 64)]
theorem lw_r6 : ∀ q ∈ lw_privs_6, lw_okq q := List.forall_mem_cons.mpr ⟨lw_p80, List.forall_mem_cons.mpr ⟨lw_p81, fun _ h => absurd h List.not_mem_nil⟩⟩
def lw_privs : List (MethodName × Nat) := lw_privs_1 ++ (lw_privs_2 ++ (lw_privs_3 ++ (lw_privs_4 ++ (lw_privs_5 ++ (lw_privs_6)))))
def lw_tbl : List Cond := k2_sels lw_privs ++ tables_1
theorem lw_privs_ok : ∀ q ∈ lw_privs, lw_okq q := by
  show ∀ q ∈ lw_privs_1 ++ (lw_privs_2 ++ (lw_privs_3 ++ (lw_privs_4 ++ (lw_privs_5 ++ (lw_privs_6))))), lw_okq q
  exact List.forall_mem_append.mpr ⟨lw_r1, List.forall_mem_append.mpr ⟨lw_r2, List.forall_mem_append.mpr ⟨lw_r3, List.forall_mem_append.mpr ⟨lw_r4, List.forall_mem_append.mpr ⟨lw_r5, lw_r6⟩⟩⟩⟩⟩
def RX0 : String := "LookTimes$Book"
def RX1 : String := "LookTimes$Finder"
def RX2 : String := "LookTimes$Hindsight"
def RX3 : String := "LookTimes$Lab"
def RX4 : String := "LookTimes$Meter"
def RX5 : String := "LookTimes$Odds"
def RX6 : String := "LookTimes$Parser"
def RX7 : String := "LookTimes$Program"
def RX8 : String := "LookTimes$Stage"
def RX9 : String := "LookTimes$Teller"
def RX10 : String := "LookTimes$Text"
def RX11 : String := "LookTimes"
def RX12 : String := "LookTimesModel"
def RJ6 : String := "java/lang/Integer"
def RJ9 : String := "java/lang/Math"
def RJ0 : String := "java/lang/String"
def RJ1 : String := "java/lang/StringLatin1"
def RJ2 : String := "java/lang/StringUTF16"
def RJ10 : String := "java/lang/System"
def RJ3 : String := "jdk/internal/util/Preconditions"
def RL : String := "LookTimesLaw"
def TX0 : u_T := fun k => match k with
  | 0 => ("LookTimes$Book", "written", "Z", false)
  | 1 => ("LookTimes$Book", "lawsCame", "Z", false)
  | 2 => ("LookTimes$Book", "w", "I", false)
  | 3 => ("LookTimes$Book", "most", "I", false)
  | 4 => ("LookTimes$Book", "least", "I", false)
  | 5 => ("LookTimes$Book", "readBy", "I", false)
  | 6 => ("LookTimes$Book", "cap", "I", false)
  | _ => ("LookTimes$Book", "babies", "I", false)
def tyX0 : Nat → FieldType := fun k => match k with
  | 0 => .boolean
  | 1 => .boolean
  | 2 => .int
  | 3 => .int
  | 4 => .int
  | 5 => .int
  | 6 => .int
  | _ => .int
theorem nmX0 : ∀ a, a < 8 → ∀ b, b < 8 → a ≠ b → (TX0 a).2.1 ≠ (TX0 b).2.1 := by decide +kernel
theorem tyX0_ok : ∀ k, k < 8 → parseFieldDescriptor (TX0 k).2.2.1 = some (tyX0 k) := by decide +kernel
def TX1 : u_T := fun k => match k with
  | 0 => ("LookTimes$Finder", "stage", "LLookTimes$Stage;", true)
  | 1 => ("LookTimes$Finder", "program", "LLookTimes$Program;", true)
  | 2 => ("LookTimes$Finder", "teller", "LLookTimes$Teller;", true)
  | 3 => ("LookTimes$Finder", "used", "[Z", true)
  | 4 => ("LookTimes$Finder", "row", "[I", true)
  | 5 => ("LookTimes$Finder", "odd", "[I", true)
  | 6 => ("LookTimes$Finder", "sums", "[I", true)
  | 7 => ("LookTimes$Finder", "oddSums", "[I", true)
  | 8 => ("LookTimes$Finder", "most", "I", false)
  | 9 => ("LookTimes$Finder", "age", "I", false)
  | 10 => ("LookTimes$Finder", "size", "I", false)
  | 11 => ("LookTimes$Finder", "enough", "I", false)
  | 12 => ("LookTimes$Finder", "best", "[I", true)
  | 13 => ("LookTimes$Finder", "bestSize", "I", false)
  | _ => ("LookTimes$Finder", "couples", "I", false)
def tyX1 : Nat → FieldType := fun k => match k with
  | 0 => .object "LookTimes$Stage"
  | 1 => .object "LookTimes$Program"
  | 2 => .object "LookTimes$Teller"
  | 3 => .array .boolean
  | 4 => .array .int
  | 5 => .array .int
  | 6 => .array .int
  | 7 => .array .int
  | 8 => .int
  | 9 => .int
  | 10 => .int
  | 11 => .int
  | 12 => .array .int
  | 13 => .int
  | _ => .int
theorem nmX1 : ∀ a, a < 15 → ∀ b, b < 15 → a ≠ b → (TX1 a).2.1 ≠ (TX1 b).2.1 := by decide +kernel
theorem tyX1_ok : ∀ k, k < 15 → parseFieldDescriptor (TX1 k).2.2.1 = some (tyX1 k) := by decide +kernel
def TX2 : u_T := fun k => match k with
  | 0 => ("LookTimes$Hindsight", "lab", "LLookTimes$Lab;", true)
  | 1 => ("LookTimes$Hindsight", "tally", "LLookTimes$Odds;", true)
  | 2 => ("LookTimes$Hindsight", "bestW", "I", false)
  | 3 => ("LookTimes$Hindsight", "bestMost", "I", false)
  | 4 => ("LookTimes$Hindsight", "bestReading", "I", false)
  | 5 => ("LookTimes$Hindsight", "bestThousand", "I", false)
  | 6 => ("LookTimes$Hindsight", "rare", "I", false)
  | 7 => ("LookTimes$Hindsight", "least", "I", false)
  | 8 => ("LookTimes$Hindsight", "greatest", "I", false)
  | _ => ("LookTimes$Hindsight", "bestShare", "I", false)
def tyX2 : Nat → FieldType := fun k => match k with
  | 0 => .object "LookTimes$Lab"
  | 1 => .object "LookTimes$Odds"
  | 2 => .int
  | 3 => .int
  | 4 => .int
  | 5 => .int
  | 6 => .int
  | 7 => .int
  | 8 => .int
  | _ => .int
theorem nmX2 : ∀ a, a < 10 → ∀ b, b < 10 → a ≠ b → (TX2 a).2.1 ≠ (TX2 b).2.1 := by decide +kernel
theorem tyX2_ok : ∀ k, k < 10 → parseFieldDescriptor (TX2 k).2.2.1 = some (tyX2 k) := by decide +kernel
def TX3 : u_T := fun k => match k with
  | 0 => ("LookTimes$Lab", "plansOf", "[I", true)
  | 1 => ("LookTimes$Lab", "houses", "[I", true)
  | 2 => ("LookTimes$Lab", "ages", "[I", true)
  | 3 => ("LookTimes$Lab", "criedFrom", "[I", true)
  | 4 => ("LookTimes$Lab", "left", "[Z", true)
  | 5 => ("LookTimes$Lab", "gazes", "[I", true)
  | 6 => ("LookTimes$Lab", "gazeSizes", "[I", true)
  | 7 => ("LookTimes$Lab", "babies", "I", false)
  | 8 => ("LookTimes$Lab", "w", "I", false)
  | 9 => ("LookTimes$Lab", "most", "I", false)
  | 10 => ("LookTimes$Lab", "least", "I", false)
  | 11 => ("LookTimes$Lab", "leaning", "I", false)
  | 12 => ("LookTimes$Lab", "readBy", "I", false)
  | _ => ("LookTimes$Lab", "cap", "I", false)
def tyX3 : Nat → FieldType := fun k => match k with
  | 0 => .array .int
  | 1 => .array .int
  | 2 => .array .int
  | 3 => .array .int
  | 4 => .array .boolean
  | 5 => .array .int
  | 6 => .array .int
  | 7 => .int
  | 8 => .int
  | 9 => .int
  | 10 => .int
  | 11 => .int
  | 12 => .int
  | _ => .int
theorem nmX3 : ∀ a, a < 14 → ∀ b, b < 14 → a ≠ b → (TX3 a).2.1 ≠ (TX3 b).2.1 := by decide +kernel
theorem tyX3_ok : ∀ k, k < 14 → parseFieldDescriptor (TX3 k).2.2.1 = some (tyX3 k) := by decide +kernel
def TX4 : u_T := fun k => match k with
  | 0 => ("LookTimes$Meter", "stage", "LLookTimes$Stage;", true)
  | 1 => ("LookTimes$Meter", "lab", "LLookTimes$Lab;", true)
  | 2 => ("LookTimes$Meter", "program", "LLookTimes$Program;", true)
  | 3 => ("LookTimes$Meter", "named", "[I", true)
  | 4 => ("LookTimes$Meter", "lengths", "[I", true)
  | 5 => ("LookTimes$Meter", "trials", "I", false)
  | 6 => ("LookTimes$Meter", "total", "I", false)
  | 7 => ("LookTimes$Meter", "longest", "I", false)
  | _ => ("LookTimes$Meter", "present", "I", false)
def tyX4 : Nat → FieldType := fun k => match k with
  | 0 => .object "LookTimes$Stage"
  | 1 => .object "LookTimes$Lab"
  | 2 => .object "LookTimes$Program"
  | 3 => .array .int
  | 4 => .array .int
  | 5 => .int
  | 6 => .int
  | 7 => .int
  | _ => .int
theorem nmX4 : ∀ a, a < 9 → ∀ b, b < 9 → a ≠ b → (TX4 a).2.1 ≠ (TX4 b).2.1 := by decide +kernel
theorem tyX4_ok : ∀ k, k < 9 → parseFieldDescriptor (TX4 k).2.2.1 = some (tyX4 k) := by decide +kernel
def TX5 : u_T := fun k => match k with
  | 0 => ("LookTimes$Odds", "lab", "LLookTimes$Lab;", true)
  | 1 => ("LookTimes$Odds", "meter", "LLookTimes$Meter;", true)
  | 2 => ("LookTimes$Odds", "differences", "[I", true)
  | 3 => ("LookTimes$Odds", "chosen", "[I", true)
  | 4 => ("LookTimes$Odds", "low", "[I", true)
  | 5 => ("LookTimes$Odds", "high", "[I", true)
  | 6 => ("LookTimes$Odds", "before", "[I", true)
  | 7 => ("LookTimes$Odds", "who", "[I", true)
  | _ => ("LookTimes$Odds", "counted", "I", false)
def tyX5 : Nat → FieldType := fun k => match k with
  | 0 => .object "LookTimes$Lab"
  | 1 => .object "LookTimes$Meter"
  | 2 => .array .int
  | 3 => .array .int
  | 4 => .array .int
  | 5 => .array .int
  | 6 => .array .int
  | 7 => .array .int
  | _ => .int
theorem nmX5 : ∀ a, a < 9 → ∀ b, b < 9 → a ≠ b → (TX5 a).2.1 ≠ (TX5 b).2.1 := by decide +kernel
theorem tyX5_ok : ∀ k, k < 9 → parseFieldDescriptor (TX5 k).2.2.1 = some (tyX5 k) := by decide +kernel
def TX6 : u_T := fun k => match k with
  | 0 => ("LookTimes$Parser", "text", "LLookTimes$Text;", true)
  | 1 => ("LookTimes$Parser", "nameTokens", "[I", true)
  | 2 => ("LookTimes$Parser", "at", "I", false)
  | _ => ("LookTimes$Parser", "draft", "LLookTimes$Program;", true)
def tyX6 : Nat → FieldType := fun k => match k with
  | 0 => .object "LookTimes$Text"
  | 1 => .array .int
  | 2 => .int
  | _ => .object "LookTimes$Program"
theorem nmX6 : ∀ a, a < 4 → ∀ b, b < 4 → a ≠ b → (TX6 a).2.1 ≠ (TX6 b).2.1 := by decide +kernel
theorem tyX6_ok : ∀ k, k < 4 → parseFieldDescriptor (TX6 k).2.2.1 = some (tyX6 k) := by decide +kernel
def TX7 : u_T := fun k => match k with
  | 0 => ("LookTimes$Program", "code", "[I", true)
  | 1 => ("LookTimes$Program", "lawStarts", "[I", true)
  | 2 => ("LookTimes$Program", "lawEnds", "[I", true)
  | 3 => ("LookTimes$Program", "clauseStarts", "[I", true)
  | 4 => ("LookTimes$Program", "clauseEnds", "[I", true)
  | 5 => ("LookTimes$Program", "stack", "[I", true)
  | 6 => ("LookTimes$Program", "size", "I", false)
  | 7 => ("LookTimes$Program", "laws", "I", false)
  | _ => ("LookTimes$Program", "clauses", "I", false)
def tyX7 : Nat → FieldType := fun k => match k with
  | 0 => .array .int
  | 1 => .array .int
  | 2 => .array .int
  | 3 => .array .int
  | 4 => .array .int
  | 5 => .array .int
  | 6 => .int
  | 7 => .int
  | _ => .int
theorem nmX7 : ∀ a, a < 9 → ∀ b, b < 9 → a ≠ b → (TX7 a).2.1 ≠ (TX7 b).2.1 := by decide +kernel
theorem tyX7_ok : ∀ k, k < 9 → parseFieldDescriptor (TX7 k).2.2.1 = some (tyX7 k) := by decide +kernel
def TX8 : u_T := fun k => match k with
  | 0 => ("LookTimes$Stage", "likes", "[I", true)
  | 1 => ("LookTimes$Stage", "firsts", "[I", true)
  | 2 => ("LookTimes$Stage", "hands", "[I", true)
  | 3 => ("LookTimes$Stage", "shown", "[I", true)
  | 4 => ("LookTimes$Stage", "kinds", "[I", true)
  | 5 => ("LookTimes$Stage", "rows", "[I", true)
  | 6 => ("LookTimes$Stage", "sizes", "[I", true)
  | 7 => ("LookTimes$Stage", "screens", "I", false)
  | _ => ("LookTimes$Stage", "plans", "I", false)
def tyX8 : Nat → FieldType := fun k => match k with
  | 0 => .array .int
  | 1 => .array .int
  | 2 => .array .int
  | 3 => .array .int
  | 4 => .array .int
  | 5 => .array .int
  | 6 => .array .int
  | 7 => .int
  | _ => .int
theorem nmX8 : ∀ a, a < 9 → ∀ b, b < 9 → a ≠ b → (TX8 a).2.1 ≠ (TX8 b).2.1 := by decide +kernel
theorem tyX8_ok : ∀ k, k < 9 → parseFieldDescriptor (TX8 k).2.2.1 = some (tyX8 k) := by decide +kernel
def TX9 : u_T := fun k => match k with
  | 0 => ("LookTimes$Teller", "stage", "LLookTimes$Stage;", true)
  | 1 => ("LookTimes$Teller", "lab", "LLookTimes$Lab;", true)
  | 2 => ("LookTimes$Teller", "program", "LLookTimes$Program;", true)
  | 3 => ("LookTimes$Teller", "named", "[I", true)
  | 4 => ("LookTimes$Teller", "x", "I", false)
  | 5 => ("LookTimes$Teller", "said", "[I", true)
  | 6 => ("LookTimes$Teller", "spreading", "I", false)
  | _ => ("LookTimes$Teller", "longer", "I", false)
def tyX9 : Nat → FieldType := fun k => match k with
  | 0 => .object "LookTimes$Stage"
  | 1 => .object "LookTimes$Lab"
  | 2 => .object "LookTimes$Program"
  | 3 => .array .int
  | 4 => .int
  | 5 => .array .int
  | 6 => .int
  | _ => .int
theorem nmX9 : ∀ a, a < 8 → ∀ b, b < 8 → a ≠ b → (TX9 a).2.1 ≠ (TX9 b).2.1 := by decide +kernel
theorem tyX9_ok : ∀ k, k < 8 → parseFieldDescriptor (TX9 k).2.2.1 = some (tyX9 k) := by decide +kernel
def TX10 : u_T := fun k => match k with
  | 0 => ("LookTimes$Text", "bytes", "[I", true)
  | 1 => ("LookTimes$Text", "codes", "[I", true)
  | 2 => ("LookTimes$Text", "starts", "[I", true)
  | 3 => ("LookTimes$Text", "ends", "[I", true)
  | 4 => ("LookTimes$Text", "tokens", "I", false)
  | _ => ("LookTimes$Text", "size", "I", false)
def tyX10 : Nat → FieldType := fun k => match k with
  | 0 => .array .int
  | 1 => .array .int
  | 2 => .array .int
  | 3 => .array .int
  | 4 => .int
  | _ => .int
theorem nmX10 : ∀ a, a < 6 → ∀ b, b < 6 → a ≠ b → (TX10 a).2.1 ≠ (TX10 b).2.1 := by decide +kernel
theorem tyX10_ok : ∀ k, k < 6 → parseFieldDescriptor (TX10 k).2.2.1 = some (tyX10 k) := by decide +kernel
def TX11 : u_T := fun k => match k with
  | 0 => ("LookTimes", "refusals", "[I", true)
  | 1 => ("LookTimes", "text", "LLookTimes$Text;", true)
  | 2 => ("LookTimes", "parser", "LLookTimes$Parser;", true)
  | 3 => ("LookTimes", "program", "LLookTimes$Program;", true)
  | 4 => ("LookTimes", "stage", "LLookTimes$Stage;", true)
  | 5 => ("LookTimes", "lab", "LLookTimes$Lab;", true)
  | 6 => ("LookTimes", "spare", "LLookTimes$Lab;", true)
  | 7 => ("LookTimes", "images", "[LLookTimes$Lab;", true)
  | 8 => ("LookTimes", "teller", "LLookTimes$Teller;", true)
  | 9 => ("LookTimes", "meter", "LLookTimes$Meter;", true)
  | 10 => ("LookTimes", "tally", "LLookTimes$Odds;", true)
  | 11 => ("LookTimes", "hindsight", "LLookTimes$Hindsight;", true)
  | 12 => ("LookTimes", "finder", "LLookTimes$Finder;", true)
  | _ => ("LookTimes", "journal", "LLookTimes$Book;", true)
def tyX11 : Nat → FieldType := fun k => match k with
  | 0 => .array .int
  | 1 => .object "LookTimes$Text"
  | 2 => .object "LookTimes$Parser"
  | 3 => .object "LookTimes$Program"
  | 4 => .object "LookTimes$Stage"
  | 5 => .object "LookTimes$Lab"
  | 6 => .object "LookTimes$Lab"
  | 7 => .array (.object "LookTimes$Lab")
  | 8 => .object "LookTimes$Teller"
  | 9 => .object "LookTimes$Meter"
  | 10 => .object "LookTimes$Odds"
  | 11 => .object "LookTimes$Hindsight"
  | 12 => .object "LookTimes$Finder"
  | _ => .object "LookTimes$Book"
theorem nmX11 : ∀ a, a < 14 → ∀ b, b < 14 → a ≠ b → (TX11 a).2.1 ≠ (TX11 b).2.1 := by decide +kernel
theorem tyX11_ok : ∀ k, k < 14 → parseFieldDescriptor (TX11 k).2.2.1 = some (tyX11 k) := by decide +kernel
def TX12 : u_T := fun k => match k with
  | 0 => ("LookTimesModel", "refused", "[I", true)
  | 1 => ("LookTimesModel", "like", "[I", true)
  | 2 => ("LookTimesModel", "first", "[I", true)
  | 3 => ("LookTimesModel", "hand", "[I", true)
  | 4 => ("LookTimesModel", "shown", "[I", true)
  | 5 => ("LookTimesModel", "kind", "[I", true)
  | 6 => ("LookTimesModel", "planMany", "[I", true)
  | 7 => ("LookTimesModel", "planRow", "[I", true)
  | 8 => ("LookTimesModel", "screens", "I", false)
  | 9 => ("LookTimesModel", "plans", "I", false)
  | 10 => ("LookTimesModel", "planOf", "[I", true)
  | 11 => ("LookTimesModel", "houseOf", "[I", true)
  | 12 => ("LookTimesModel", "ageOf", "[I", true)
  | 13 => ("LookTimesModel", "criedFrom", "[I", true)
  | 14 => ("LookTimesModel", "isLeft", "[I", true)
  | 15 => ("LookTimesModel", "gazeMany", "[I", true)
  | 16 => ("LookTimesModel", "gazes", "[I", true)
  | 17 => ("LookTimesModel", "babies", "I", false)
  | 18 => ("LookTimesModel", "w", "I", false)
  | 19 => ("LookTimesModel", "most", "I", false)
  | 20 => ("LookTimesModel", "least", "I", false)
  | 21 => ("LookTimesModel", "lean", "I", false)
  | 22 => ("LookTimesModel", "reading", "I", false)
  | 23 => ("LookTimesModel", "cap", "I", false)
  | 24 => ("LookTimesModel", "text", "[B", true)
  | 25 => ("LookTimesModel", "textMany", "I", false)
  | 26 => ("LookTimesModel", "at", "I", false)
  | 27 => ("LookTimesModel", "to", "I", false)
  | 28 => ("LookTimesModel", "faultAt", "I", false)
  | 29 => ("LookTimesModel", "marks", "[[I", true)
  | 30 => ("LookTimesModel", "begin", "[[I", true)
  | 31 => ("LookTimesModel", "many", "[[I", true)
  | 32 => ("LookTimesModel", "lawNames", "[J", true)
  | 33 => ("LookTimesModel", "laws", "[I", true)
  | 34 => ("LookTimesModel", "outs", "[I", true)
  | 35 => ("LookTimesModel", "poolMany", "[I", true)
  | 36 => ("LookTimesModel", "pile", "[I", true)
  | 37 => ("LookTimesModel", "names", "[I", true)
  | 38 => ("LookTimesModel", "words", "[Ljava/lang/String;", true)
  | 39 => ("LookTimesModel", "named", "[Ljava/lang/String;", true)
  | 40 => ("LookTimesModel", "cameSince", "Z", false)
  | 41 => ("LookTimesModel", "rowNow", "[I", true)
  | 42 => ("LookTimesModel", "said", "[I", true)
  | 43 => ("LookTimesModel", "rowMany", "I", false)
  | 44 => ("LookTimesModel", "counted", "[I", true)
  | 45 => ("LookTimesModel", "parts", "[I", true)
  | 46 => ("LookTimesModel", "turned", "[I", true)
  | 47 => ("LookTimesModel", "countedMany", "I", false)
  | 48 => ("LookTimesModel", "sumNow", "I", false)
  | 49 => ("LookTimesModel", "oddsNow", "I", false)
  | 50 => ("LookTimesModel", "spread", "I", false)
  | 51 => ("LookTimesModel", "longer", "I", false)
  | 52 => ("LookTimesModel", "lots", "J", false)
  | 53 => ("LookTimesModel", "heldMany", "[I", true)
  | 54 => ("LookTimesModel", "heldGazes", "[I", true)
  | 55 => ("LookTimesModel", "signs", "[I", true)
  | 56 => ("LookTimesModel", "bestRow", "[I", true)
  | 57 => ("LookTimesModel", "bestMany", "I", false)
  | 58 => ("LookTimesModel", "bestCouples", "I", false)
  | 59 => ("LookTimesModel", "book", "[I", true)
  | 60 => ("LookTimesModel", "hasBook", "Z", false)
  | 61 => ("LookTimesModel", "images", "[[I", true)
  | 62 => ("LookTimesModel", "hasImage", "[Z", true)
  | _ => ("LookTimesModel", "cursor", "I", false)
def tyX12 : Nat → FieldType := fun k => match k with
  | 0 => .array .int
  | 1 => .array .int
  | 2 => .array .int
  | 3 => .array .int
  | 4 => .array .int
  | 5 => .array .int
  | 6 => .array .int
  | 7 => .array .int
  | 8 => .int
  | 9 => .int
  | 10 => .array .int
  | 11 => .array .int
  | 12 => .array .int
  | 13 => .array .int
  | 14 => .array .int
  | 15 => .array .int
  | 16 => .array .int
  | 17 => .int
  | 18 => .int
  | 19 => .int
  | 20 => .int
  | 21 => .int
  | 22 => .int
  | 23 => .int
  | 24 => .array .byte
  | 25 => .int
  | 26 => .int
  | 27 => .int
  | 28 => .int
  | 29 => .array (.array .int)
  | 30 => .array (.array .int)
  | 31 => .array (.array .int)
  | 32 => .array .long
  | 33 => .array .int
  | 34 => .array .int
  | 35 => .array .int
  | 36 => .array .int
  | 37 => .array .int
  | 38 => .array (.object "java/lang/String")
  | 39 => .array (.object "java/lang/String")
  | 40 => .boolean
  | 41 => .array .int
  | 42 => .array .int
  | 43 => .int
  | 44 => .array .int
  | 45 => .array .int
  | 46 => .array .int
  | 47 => .int
  | 48 => .int
  | 49 => .int
  | 50 => .int
  | 51 => .int
  | 52 => .long
  | 53 => .array .int
  | 54 => .array .int
  | 55 => .array .int
  | 56 => .array .int
  | 57 => .int
  | 58 => .int
  | 59 => .array .int
  | 60 => .boolean
  | 61 => .array (.array .int)
  | 62 => .array .boolean
  | _ => .int
theorem nmX12 : ∀ a, a < 64 → ∀ b, b < 64 → a ≠ b → (TX12 a).2.1 ≠ (TX12 b).2.1 := by decide +kernel
theorem tyX12_ok : ∀ k, k < 64 → parseFieldDescriptor (TX12 k).2.2.1 = some (tyX12 k) := by decide +kernel
abbrev vwCl : List vw_C := [(RX0, TX0, 8), (RX1, TX1, 15), (RX2, TX2, 10), (RX3, TX3, 14), (RX4, TX4, 9), (RX5, TX5, 9), (RX6, TX6, 4), (RX7, TX7, 9), (RX8, TX8, 9), (RX9, TX9, 8), (RX10, TX10, 6), (RX11, TX11, 14), (RX12, TX12, 64)]
def am_cn (i : Nat) : String := [RX0, RX1, RX2, RX3, RX4, RX5, RX6, RX7, RX8, RX9, RX10, RX11, RX12, RJ6, RJ9, RJ0, RJ1, RJ2, RJ10, RJ3, RL].getD i ""
def am_F (ci : Nat) : u_T := (vwCl.getD ci ("", fun _ => ("", "", "", false), 0)).2.1
def am_nf (ci : Nat) : Nat := (vwCl.getD ci ("", fun _ => ("", "", "", false), 0)).2.2
def am_ty (ci : Nat) : Nat → FieldType := [tyX0, tyX1, tyX2, tyX3, tyX4, tyX5, tyX6, tyX7, tyX8, tyX9, tyX10, tyX11, tyX12].getD ci (fun _ => .int)
/-- the tables' words that hold in every state that a call comes to -/
def am_gt : List Cond := lw_tbl.filter goodWord
theorem am_gt_good : ∀ w ∈ am_gt, goodWord w = true := fun _ h => (List.mem_filter.mp h).2
theorem am_in {w : Cond} (i : Nat) (h : tables_1[i]? = some w) (hg : goodWord w = true) : w ∈ am_gt := List.mem_filter.mpr ⟨List.mem_append_right _ (List.mem_of_getElem? h), hg⟩
theorem am_in_r (ws : List Cond) (ps : List Nat) (hp : ws = ps.filterMap (fun i => tables_1[i]?)) (h : ws.all goodWord = true) : ∀ w ∈ ws, w ∈ am_gt := by
  intro w hw
  have h1 := List.all_eq_true.mp h w hw
  rw [hp] at hw
  obtain ⟨i, -, hi⟩ := List.mem_filterMap.mp hw
  exact am_in i hi h1
theorem am_in_s (ws : List Cond) (ps : List Nat) (hp : ws = ps.filterMap (fun i => (k2_sels lw_privs)[i]?)) (h : ws.all goodWord = true) : ∀ w ∈ ws, w ∈ am_gt := by
  intro w hw
  have h1 := List.all_eq_true.mp h w hw
  rw [hp] at hw
  obtain ⟨i, -, hi⟩ := List.mem_filterMap.mp hw
  exact List.mem_filter.mpr ⟨List.mem_append_left _ (List.mem_of_getElem? hi), h1⟩
set_option maxRecDepth 100000 in
theorem inX0 : ∀ w ∈ u_ws RX0 TX0 8, w ∈ am_gt := am_in_r _ [478, 480, 482, 484, 486, 488, 490, 492] (by decide +kernel) (by decide +kernel)
set_option maxRecDepth 100000 in
theorem inX1 : ∀ w ∈ u_ws RX1 TX1 15, w ∈ am_gt := am_in_r _ [431, 433, 435, 437, 439, 441, 443, 445, 447, 449, 451, 453, 455, 457, 459] (by decide +kernel) (by decide +kernel)
set_option maxRecDepth 100000 in
theorem inX2 : ∀ w ∈ u_ws RX2 TX2 10, w ∈ am_gt := am_in_r _ [386, 388, 390, 392, 394, 396, 398, 400, 402, 404] (by decide +kernel) (by decide +kernel)
set_option maxRecDepth 100000 in
theorem inX3 : ∀ w ∈ u_ws RX3 TX3 14, w ∈ am_gt := am_in_r _ [226, 228, 230, 232, 234, 236, 238, 240, 242, 244, 246, 248, 250, 252] (by decide +kernel) (by decide +kernel)
set_option maxRecDepth 100000 in
theorem inX4 : ∀ w ∈ u_ws RX4 TX4 9, w ∈ am_gt := am_in_r _ [306, 308, 310, 312, 314, 316, 318, 320, 322] (by decide +kernel) (by decide +kernel)
set_option maxRecDepth 100000 in
theorem inX5 : ∀ w ∈ u_ws RX5 TX5 9, w ∈ am_gt := am_in_r _ [344, 346, 348, 350, 352, 354, 356, 358, 360] (by decide +kernel) (by decide +kernel)
set_option maxRecDepth 100000 in
theorem inX6 : ∀ w ∈ u_ws RX6 TX6 4, w ∈ am_gt := am_in_r _ [107, 109, 111, 113] (by decide +kernel) (by decide +kernel)
set_option maxRecDepth 100000 in
theorem inX7 : ∀ w ∈ u_ws RX7 TX7 9, w ∈ am_gt := am_in_r _ [83, 85, 87, 89, 91, 93, 95, 97, 99] (by decide +kernel) (by decide +kernel)
set_option maxRecDepth 100000 in
theorem inX8 : ∀ w ∈ u_ws RX8 TX8 9, w ∈ am_gt := am_in_r _ [149, 151, 153, 155, 157, 159, 161, 163, 165] (by decide +kernel) (by decide +kernel)
set_option maxRecDepth 100000 in
theorem inX9 : ∀ w ∈ u_ws RX9 TX9 8, w ∈ am_gt := am_in_r _ [274, 276, 278, 280, 282, 284, 286, 288] (by decide +kernel) (by decide +kernel)
set_option maxRecDepth 100000 in
theorem inX10 : ∀ w ∈ u_ws RX10 TX10 6, w ∈ am_gt := am_in_r _ [42, 44, 46, 48, 50, 52] (by decide +kernel) (by decide +kernel)
set_option maxRecDepth 100000 in
theorem inX11 : ∀ w ∈ u_ws RX11 TX11 14, w ∈ am_gt := am_in_r _ [509, 511, 513, 515, 517, 519, 521, 523, 525, 527, 529, 531, 533, 535] (by decide +kernel) (by decide +kernel)
set_option maxRecDepth 100000 in
theorem inX12 : ∀ w ∈ u_ws RX12 TX12 64, w ∈ am_gt := am_in_r _ [1321, 1323, 1325, 1327, 1329, 1331, 1333, 1335, 1337, 1339, 1341, 1343, 1345, 1347, 1349, 1351, 1353, 1355, 1357, 1359, 1361, 1363, 1365, 1367, 1369, 1371, 1373, 1375, 1377, 1379, 1381, 1383, 1385, 1387, 1389, 1391, 1393, 1395, 1397, 1399, 1401, 1403, 1405, 1407, 1409, 1411, 1413, 1415, 1417, 1419, 1421, 1423, 1425, 1427, 1429, 1431, 1433, 1435, 1437, 1439, 1441, 1443, 1445, 1447] (by decide +kernel) (by decide +kernel)
def am_cok (ci : Nat) (r : vw_C) : Prop := (∀ w ∈ u_ws r.1 r.2.1 r.2.2, w ∈ am_gt) ∧ (∀ k, k < r.2.2 → parseFieldDescriptor (r.2.1 k).2.2.1 = some (am_ty ci k)) ∧ ∀ a, a < r.2.2 → ∀ b, b < r.2.2 → a ≠ b → (r.2.1 a).2.1 ≠ (r.2.1 b).2.1
theorem am_cls : ∀ (ci : Nat) (r : vw_C), vwCl[ci]? = some r → am_cok ci r
  | 0, r, h => by obtain rfl := Option.some.inj (show some (RX0, TX0, 8) = some r from h); exact ⟨inX0, tyX0_ok, nmX0⟩
  | 1, r, h => by obtain rfl := Option.some.inj (show some (RX1, TX1, 15) = some r from h); exact ⟨inX1, tyX1_ok, nmX1⟩
  | 2, r, h => by obtain rfl := Option.some.inj (show some (RX2, TX2, 10) = some r from h); exact ⟨inX2, tyX2_ok, nmX2⟩
  | 3, r, h => by obtain rfl := Option.some.inj (show some (RX3, TX3, 14) = some r from h); exact ⟨inX3, tyX3_ok, nmX3⟩
  | 4, r, h => by obtain rfl := Option.some.inj (show some (RX4, TX4, 9) = some r from h); exact ⟨inX4, tyX4_ok, nmX4⟩
  | 5, r, h => by obtain rfl := Option.some.inj (show some (RX5, TX5, 9) = some r from h); exact ⟨inX5, tyX5_ok, nmX5⟩
  | 6, r, h => by obtain rfl := Option.some.inj (show some (RX6, TX6, 4) = some r from h); exact ⟨inX6, tyX6_ok, nmX6⟩
  | 7, r, h => by obtain rfl := Option.some.inj (show some (RX7, TX7, 9) = some r from h); exact ⟨inX7, tyX7_ok, nmX7⟩
  | 8, r, h => by obtain rfl := Option.some.inj (show some (RX8, TX8, 9) = some r from h); exact ⟨inX8, tyX8_ok, nmX8⟩
  | 9, r, h => by obtain rfl := Option.some.inj (show some (RX9, TX9, 8) = some r from h); exact ⟨inX9, tyX9_ok, nmX9⟩
  | 10, r, h => by obtain rfl := Option.some.inj (show some (RX10, TX10, 6) = some r from h); exact ⟨inX10, tyX10_ok, nmX10⟩
  | 11, r, h => by obtain rfl := Option.some.inj (show some (RX11, TX11, 14) = some r from h); exact ⟨inX11, tyX11_ok, nmX11⟩
  | 12, r, h => by obtain rfl := Option.some.inj (show some (RX12, TX12, 64) = some r from h); exact ⟨inX12, tyX12_ok, nmX12⟩
  | n + 13, r, h => absurd (List.getElem?_eq_some_iff.mp h).1 (by show ¬ n + 13 < 13; omega)
abbrev cX0_init : ByteArray := prog_2_method_1_code
def yX0_init : MethodName := ⟨RX0, "<init>", "()V"⟩
abbrev m_Book_init : Nat := 0
abbrev cX0_write : ByteArray := prog_2_method_2_code
def yX0_write : MethodName := ⟨RX0, "write", "(LLookTimes$Lab;I)V"⟩
abbrev m_Book_write : Nat := 1
abbrev cX0_broken : ByteArray := prog_2_method_3_code
def yX0_broken : MethodName := ⟨RX0, "broken", "(LLookTimes$Lab;)I"⟩
abbrev m_Book_broken : Nat := 2
abbrev cX1_init : ByteArray := prog_3_method_1_code
def yX1_init : MethodName := ⟨RX1, "<init>", "(LLookTimes$Stage;LLookTimes$Program;LLookTimes$Teller;)V"⟩
abbrev m_Finder_init : Nat := 3
abbrev cX1_forget : ByteArray := prog_3_method_2_code
def yX1_forget : MethodName := ⟨RX1, "forget", "()V"⟩
abbrev m_Finder_forget : Nat := 4
abbrev cX1_find : ByteArray := prog_3_method_3_code
def yX1_find : MethodName := ⟨RX1, "find", "(II)V"⟩
abbrev m_Finder_find : Nat := 5
abbrev cX1_extend : ByteArray := prog_3_method_4_code
def yX1_extend : MethodName := ⟨RX1, "extend", "(I)V"⟩
abbrev m_Finder_extend : Nat := 6
abbrev cX1_place : ByteArray := prog_3_method_5_code
def yX1_place : MethodName := ⟨RX1, "place", "(II)V"⟩
abbrev m_Finder_place : Nat := 7
abbrev cX1_weigh : ByteArray := prog_3_method_6_code
def yX1_weigh : MethodName := ⟨RX1, "weigh", "()V"⟩
abbrev m_Finder_weigh : Nat := 8
abbrev cX1_partedCouples : ByteArray := prog_3_method_7_code
def yX1_partedCouples : MethodName := ⟨RX1, "partedCouples", "()I"⟩
abbrev m_Finder_partedCouples : Nat := 9
abbrev cX2_init : ByteArray := prog_4_method_1_code
def yX2_init : MethodName := ⟨RX2, "<init>", "(LLookTimes$Lab;LLookTimes$Odds;)V"⟩
abbrev m_Hindsight_init : Nat := 10
abbrev cX2_lookBack : ByteArray := prog_4_method_2_code
def yX2_lookBack : MethodName := ⟨RX2, "lookBack", "()V"⟩
abbrev m_Hindsight_lookBack : Nat := 11
abbrev cX2_tryReadings : ByteArray := prog_4_method_3_code
def yX2_tryReadings : MethodName := ⟨RX2, "tryReadings", "()V"⟩
abbrev m_Hindsight_tryReadings : Nat := 12
abbrev cX2_fewestToLeave : ByteArray := prog_4_method_4_code
def yX2_fewestToLeave : MethodName := ⟨RX2, "fewestToLeave", "(I)I"⟩
abbrev m_Hindsight_fewestToLeave : Nat := 13
abbrev cX2_oneToLeave : ByteArray := prog_4_method_5_code
def yX2_oneToLeave : MethodName := ⟨RX2, "oneToLeave", "(I)I"⟩
abbrev m_Hindsight_oneToLeave : Nat := 14
abbrev cX2_twoToLeave : ByteArray := prog_4_method_6_code
def yX2_twoToLeave : MethodName := ⟨RX2, "twoToLeave", "(I)I"⟩
abbrev m_Hindsight_twoToLeave : Nat := 15
abbrev cX2_threeToLeave : ByteArray := prog_4_method_7_code
def yX2_threeToLeave : MethodName := ⟨RX2, "threeToLeave", "(I)I"⟩
abbrev m_Hindsight_threeToLeave : Nat := 16
abbrev cX2_withoutEachHouse : ByteArray := prog_4_method_8_code
def yX2_withoutEachHouse : MethodName := ⟨RX2, "withoutEachHouse", "()V"⟩
abbrev m_Hindsight_withoutEachHouse : Nat := 17
abbrev cX2_leanAll : ByteArray := prog_4_method_9_code
def yX2_leanAll : MethodName := ⟨RX2, "leanAll", "(I)V"⟩
abbrev m_Hindsight_leanAll : Nat := 18
abbrev cX2_noticeNone : ByteArray := prog_4_method_10_code
def yX2_noticeNone : MethodName := ⟨RX2, "noticeNone", "()V"⟩
abbrev m_Hindsight_noticeNone : Nat := 19
abbrev cX2_notice : ByteArray := prog_4_method_11_code
def yX2_notice : MethodName := ⟨RX2, "notice", "(I)V"⟩
abbrev m_Hindsight_notice : Nat := 20
abbrev cX3_init : ByteArray := prog_5_method_1_code
def yX3_init : MethodName := ⟨RX3, "<init>", "()V"⟩
abbrev m_Lab_init : Nat := 21
abbrev cX3_take : ByteArray := prog_5_method_2_code
def yX3_take : MethodName := ⟨RX3, "take", "(LLookTimes$Lab;)V"⟩
abbrev m_Lab_take : Nat := 22
abbrev cX3_hasBaby : ByteArray := prog_5_method_3_code
def yX3_hasBaby : MethodName := ⟨RX3, "hasBaby", "(I)Z"⟩
abbrev m_Lab_hasBaby : Nat := 23
abbrev cX3_usesPlan : ByteArray := prog_5_method_4_code
def yX3_usesPlan : MethodName := ⟨RX3, "usesPlan", "(I)Z"⟩
abbrev m_Lab_usesPlan : Nat := 24
abbrev cX3_leftCount : ByteArray := prog_5_method_5_code
def yX3_leftCount : MethodName := ⟨RX3, "leftCount", "()I"⟩
abbrev m_Lab_leftCount : Nat := 25
abbrev cX3_addBaby : ByteArray := prog_5_method_6_code
def yX3_addBaby : MethodName := ⟨RX3, "addBaby", "(III)I"⟩
abbrev m_Lab_addBaby : Nat := 26
abbrev cX3_gazeSize : ByteArray := prog_5_method_7_code
def yX3_gazeSize : MethodName := ⟨RX3, "gazeSize", "(II)I"⟩
abbrev m_Lab_gazeSize : Nat := 27
abbrev cX3_gazeAt : ByteArray := prog_5_method_8_code
def yX3_gazeAt : MethodName := ⟨RX3, "gazeAt", "(III)I"⟩
abbrev m_Lab_gazeAt : Nat := 28
abbrev cX3_addLength : ByteArray := prog_5_method_9_code
def yX3_addLength : MethodName := ⟨RX3, "addLength", "(III)I"⟩
abbrev m_Lab_addLength : Nat := 29
abbrev cX3_clearGazes : ByteArray := prog_5_method_10_code
def yX3_clearGazes : MethodName := ⟨RX3, "clearGazes", "()V"⟩
abbrev m_Lab_clearGazes : Nat := 30
abbrev cX3_isCrying : ByteArray := prog_5_method_11_code
def yX3_isCrying : MethodName := ⟨RX3, "isCrying", "(II)Z"⟩
abbrev m_Lab_isCrying : Nat := 31
abbrev cX4_init : ByteArray := prog_6_method_1_code
def yX4_init : MethodName := ⟨RX4, "<init>", "(LLookTimes$Stage;LLookTimes$Lab;LLookTimes$Program;)V"⟩
abbrev m_Meter_init : Nat := 32
abbrev cX4_bareLength : ByteArray := prog_6_method_2_code
def yX4_bareLength : MethodName := ⟨RX4, "bareLength", "(II)I"⟩
abbrev m_Meter_bareLength : Nat := 33
abbrev cX4_leanedLength : ByteArray := prog_6_method_3_code
def yX4_leanedLength : MethodName := ⟨RX4, "leanedLength", "(II)I"⟩
abbrev m_Meter_leanedLength : Nat := 34
abbrev cX4_measure : ByteArray := prog_6_method_4_code
def yX4_measure : MethodName := ⟨RX4, "measure", "(I)V"⟩
abbrev m_Meter_measure : Nat := 35
abbrev cX4_clauseAgainst : ByteArray := prog_6_method_5_code
def yX4_clauseAgainst : MethodName := ⟨RX4, "clauseAgainst", "(I)I"⟩
abbrev m_Meter_clauseAgainst : Nat := 36
abbrev cX4_readingAt : ByteArray := prog_6_method_6_code
def yX4_readingAt : MethodName := ⟨RX4, "readingAt", "(I)I"⟩
abbrev m_Meter_readingAt : Nat := 37
abbrev cX4_digits : ByteArray := prog_6_method_7_code
def yX4_digits : MethodName := ⟨RX4, "digits", "(I)I"⟩
abbrev m_Meter_digits : Nat := 38
abbrev cX4_differenceOf : ByteArray := prog_6_method_8_code
def yX4_differenceOf : MethodName := ⟨RX4, "differenceOf", "(I)I"⟩
abbrev m_Meter_differenceOf : Nat := 39
abbrev cX4_settledAt : ByteArray := prog_6_method_9_code
def yX4_settledAt : MethodName := ⟨RX4, "settledAt", "()I"⟩
abbrev m_Meter_settledAt : Nat := 40
abbrev cX4_meanFresh : ByteArray := prog_6_method_10_code
def yX4_meanFresh : MethodName := ⟨RX4, "meanFresh", "(I)I"⟩
abbrev m_Meter_meanFresh : Nat := 41
abbrev cX5_init : ByteArray := prog_7_method_1_code
def yX5_init : MethodName := ⟨RX5, "<init>", "(LLookTimes$Lab;LLookTimes$Meter;)V"⟩
abbrev m_Odds_init : Nat := 42
abbrev cX5_countAll : ByteArray := prog_7_method_2_code
def yX5_countAll : MethodName := ⟨RX5, "countAll", "()V"⟩
abbrev m_Odds_countAll : Nat := 43
abbrev cX5_allBits : ByteArray := prog_7_method_3_code
def yX5_allBits : MethodName := ⟨RX5, "allBits", "()I"⟩
abbrev m_Odds_allBits : Nat := 44
abbrev cX5_houseBits : ByteArray := prog_7_method_4_code
def yX5_houseBits : MethodName := ⟨RX5, "houseBits", "(I)I"⟩
abbrev m_Odds_houseBits : Nat := 45
abbrev cX5_sumOf : ByteArray := prog_7_method_5_code
def yX5_sumOf : MethodName := ⟨RX5, "sumOf", "(I)I"⟩
abbrev m_Odds_sumOf : Nat := 46
abbrev cX5_waysWithout : ByteArray := prog_7_method_6_code
def yX5_waysWithout : MethodName := ⟨RX5, "waysWithout", "(I)I"⟩
abbrev m_Odds_waysWithout : Nat := 47
abbrev cX5_thousandWithout : ByteArray := prog_7_method_7_code
def yX5_thousandWithout : MethodName := ⟨RX5, "thousandWithout", "(I)I"⟩
abbrev m_Odds_thousandWithout : Nat := 48
abbrev cX5_choose : ByteArray := prog_7_method_8_code
def yX5_choose : MethodName := ⟨RX5, "choose", "(I)I"⟩
abbrev m_Odds_choose : Nat := 49
abbrev cX5_waysOf : ByteArray := prog_7_method_9_code
def yX5_waysOf : MethodName := ⟨RX5, "waysOf", "(I)I"⟩
abbrev m_Odds_waysOf : Nat := 50
abbrev cX5_gather : ByteArray := prog_7_method_10_code
def yX5_gather : MethodName := ⟨RX5, "gather", "(II[I)I"⟩
abbrev m_Odds_gather : Nat := 51
abbrev cX5_addValue : ByteArray := prog_7_method_11_code
def yX5_addValue : MethodName := ⟨RX5, "addValue", "(I[II)V"⟩
abbrev m_Odds_addValue : Nat := 52
abbrev cX6_init : ByteArray := prog_8_method_1_code
def yX6_init : MethodName := ⟨RX6, "<init>", "(LLookTimes$Text;)V"⟩
abbrev m_Parser_init : Nat := 53
abbrev cX6_findFault : ByteArray := prog_8_method_2_code
def yX6_findFault : MethodName := ⟨RX6, "findFault", "()I"⟩
abbrev m_Parser_findFault : Nat := 54
abbrev cX6_parseLine : ByteArray := prog_8_method_3_code
def yX6_parseLine : MethodName := ⟨RX6, "parseLine", "()Z"⟩
abbrev m_Parser_parseLine : Nat := 55
abbrev cX6_parseToken : ByteArray := prog_8_method_4_code
def yX6_parseToken : MethodName := ⟨RX6, "parseToken", "(I)Z"⟩
abbrev m_Parser_parseToken : Nat := 56
abbrev cX6_parseNewName : ByteArray := prog_8_method_5_code
def yX6_parseNewName : MethodName := ⟨RX6, "parseNewName", "()Z"⟩
abbrev m_Parser_parseNewName : Nat := 57
abbrev cX6_parseExpression : ByteArray := prog_8_method_6_code
def yX6_parseExpression : MethodName := ⟨RX6, "parseExpression", "(I)Z"⟩
abbrev m_Parser_parseExpression : Nat := 58
abbrev cX6_parseSum : ByteArray := prog_8_method_7_code
def yX6_parseSum : MethodName := ⟨RX6, "parseSum", "(I)Z"⟩
abbrev m_Parser_parseSum : Nat := 59
abbrev cX6_parseProduct : ByteArray := prog_8_method_8_code
def yX6_parseProduct : MethodName := ⟨RX6, "parseProduct", "(I)Z"⟩
abbrev m_Parser_parseProduct : Nat := 60
abbrev cX6_parseFactor : ByteArray := prog_8_method_9_code
def yX6_parseFactor : MethodName := ⟨RX6, "parseFactor", "(I)Z"⟩
abbrev m_Parser_parseFactor : Nat := 61
abbrev cX7_init : ByteArray := prog_9_method_1_code
def yX7_init : MethodName := ⟨RX7, "<init>", "()V"⟩
abbrev m_Program_init : Nat := 62
abbrev cX7_empty : ByteArray := prog_9_method_2_code
def yX7_empty : MethodName := ⟨RX7, "empty", "()V"⟩
abbrev m_Program_empty : Nat := 63
abbrev cX7_take : ByteArray := prog_9_method_3_code
def yX7_take : MethodName := ⟨RX7, "take", "(LLookTimes$Program;)V"⟩
abbrev m_Program_take : Nat := 64
abbrev cX7_hasLaw : ByteArray := prog_9_method_4_code
def yX7_hasLaw : MethodName := ⟨RX7, "hasLaw", "(I)Z"⟩
abbrev m_Program_hasLaw : Nat := 65
abbrev cX7_emit : ByteArray := prog_9_method_5_code
def yX7_emit : MethodName := ⟨RX7, "emit", "(I)V"⟩
abbrev m_Program_emit : Nat := 66
abbrev cX7_addLaw : ByteArray := prog_9_method_6_code
def yX7_addLaw : MethodName := ⟨RX7, "addLaw", "(I)V"⟩
abbrev m_Program_addLaw : Nat := 67
abbrev cX7_addClause : ByteArray := prog_9_method_7_code
def yX7_addClause : MethodName := ⟨RX7, "addClause", "(I)V"⟩
abbrev m_Program_addClause : Nat := 68
abbrev cX7_workLaw : ByteArray := prog_9_method_8_code
def yX7_workLaw : MethodName := ⟨RX7, "workLaw", "(I[I)I"⟩
abbrev m_Program_workLaw : Nat := 69
abbrev cX7_firstClause : ByteArray := prog_9_method_9_code
def yX7_firstClause : MethodName := ⟨RX7, "firstClause", "([I)I"⟩
abbrev m_Program_firstClause : Nat := 70
abbrev cX7_work : ByteArray := prog_9_method_10_code
def yX7_work : MethodName := ⟨RX7, "work", "(II[I)I"⟩
abbrev m_Program_work : Nat := 71
abbrev cX7_joinBy : ByteArray := prog_9_method_11_code
def yX7_joinBy : MethodName := ⟨RX7, "joinBy", "(III)I"⟩
abbrev m_Program_joinBy : Nat := 72
abbrev cX8_init : ByteArray := prog_10_method_1_code
def yX8_init : MethodName := ⟨RX8, "<init>", "()V"⟩
abbrev m_Stage_init : Nat := 73
abbrev cX8_hasScreen : ByteArray := prog_10_method_2_code
def yX8_hasScreen : MethodName := ⟨RX8, "hasScreen", "(I)Z"⟩
abbrev m_Stage_hasScreen : Nat := 74
abbrev cX8_hasPlan : ByteArray := prog_10_method_3_code
def yX8_hasPlan : MethodName := ⟨RX8, "hasPlan", "(I)Z"⟩
abbrev m_Stage_hasPlan : Nat := 75
abbrev cX8_hasTrial : ByteArray := prog_10_method_4_code
def yX8_hasTrial : MethodName := ⟨RX8, "hasTrial", "(II)Z"⟩
abbrev m_Stage_hasTrial : Nat := 76
abbrev cX8_isOdd : ByteArray := prog_10_method_5_code
def yX8_isOdd : MethodName := ⟨RX8, "isOdd", "(I)Z"⟩
abbrev m_Stage_isOdd : Nat := 77
abbrev cX8_screenOf : ByteArray := prog_10_method_6_code
def yX8_screenOf : MethodName := ⟨RX8, "screenOf", "(II)I"⟩
abbrev m_Stage_screenOf : Nat := 78
abbrev cX8_addScreen : ByteArray := prog_10_method_7_code
def yX8_addScreen : MethodName := ⟨RX8, "addScreen", "(IIII)I"⟩
abbrev m_Stage_addScreen : Nat := 79
abbrev cX8_addPlan : ByteArray := prog_10_method_8_code
def yX8_addPlan : MethodName := ⟨RX8, "addPlan", "()I"⟩
abbrev m_Stage_addPlan : Nat := 80
abbrev cX8_addTrial : ByteArray := prog_10_method_9_code
def yX8_addTrial : MethodName := ⟨RX8, "addTrial", "(II)I"⟩
abbrev m_Stage_addTrial : Nat := 81
abbrev cX8_sameAhead : ByteArray := prog_10_method_10_code
def yX8_sameAhead : MethodName := ⟨RX8, "sameAhead", "([III)I"⟩
abbrev m_Stage_sameAhead : Nat := 82
abbrev cX9_init : ByteArray := prog_11_method_1_code
def yX9_init : MethodName := ⟨RX9, "<init>", "(LLookTimes$Stage;LLookTimes$Lab;LLookTimes$Program;)V"⟩
abbrev m_Teller_init : Nat := 83
abbrev cX9_tellPlan : ByteArray := prog_11_method_2_code
def yX9_tellPlan : MethodName := ⟨RX9, "tellPlan", "(III)V"⟩
abbrev m_Teller_tellPlan : Nat := 84
abbrev cX9_tell : ByteArray := prog_11_method_3_code
def yX9_tell : MethodName := ⟨RX9, "tell", "(I[IIIII)I"⟩
abbrev m_Teller_tell : Nat := 85
abbrev cX9_planSign : ByteArray := prog_11_method_4_code
def yX9_planSign : MethodName := ⟨RX9, "planSign", "(III)I"⟩
abbrev m_Teller_planSign : Nat := 86
abbrev cX9_signOf : ByteArray := prog_11_method_5_code
def yX9_signOf : MethodName := ⟨RX9, "signOf", "(IIII)I"⟩
abbrev m_Teller_signOf : Nat := 87
abbrev cX9_drawWorld : ByteArray := prog_11_method_6_code
def yX9_drawWorld : MethodName := ⟨RX9, "drawWorld", "(II)I"⟩
abbrev m_Teller_drawWorld : Nat := 88
abbrev cX9_drawLook : ByteArray := prog_11_method_7_code
def yX9_drawLook : MethodName := ⟨RX9, "drawLook", "(I)I"⟩
abbrev m_Teller_drawLook : Nat := 89
abbrev cX9_lot : ByteArray := prog_11_method_8_code
def yX9_lot : MethodName := ⟨RX9, "lot", "(I)I"⟩
abbrev m_Teller_lot : Nat := 90
abbrev cX10_init : ByteArray := prog_12_method_1_code
def yX10_init : MethodName := ⟨RX10, "<init>", "()V"⟩
abbrev m_Text_init : Nat := 91
abbrev cX10_append : ByteArray := prog_12_method_2_code
def yX10_append : MethodName := ⟨RX10, "append", "(I)V"⟩
abbrev m_Text_append : Nat := 92
abbrev cX10_split : ByteArray := prog_12_method_3_code
def yX10_split : MethodName := ⟨RX10, "split", "()V"⟩
abbrev m_Text_split : Nat := 93
abbrev cX10_code : ByteArray := prog_12_method_4_code
def yX10_code : MethodName := ⟨RX10, "code", "(I)I"⟩
abbrev m_Text_code : Nat := 94
abbrev cX10_start : ByteArray := prog_12_method_5_code
def yX10_start : MethodName := ⟨RX10, "start", "(I)I"⟩
abbrev m_Text_start : Nat := 95
abbrev cX10_wordSize : ByteArray := prog_12_method_6_code
def yX10_wordSize : MethodName := ⟨RX10, "wordSize", "(I)I"⟩
abbrev m_Text_wordSize : Nat := 96
abbrev cX10_sameWords : ByteArray := prog_12_method_7_code
def yX10_sameWords : MethodName := ⟨RX10, "sameWords", "(II)Z"⟩
abbrev m_Text_sameWords : Nat := 97
abbrev cX10_keep : ByteArray := prog_12_method_8_code
def yX10_keep : MethodName := ⟨RX10, "keep", "(III)V"⟩
abbrev m_Text_keep : Nat := 98
abbrev cX10_endOfToken : ByteArray := prog_12_method_9_code
def yX10_endOfToken : MethodName := ⟨RX10, "endOfToken", "(I)I"⟩
abbrev m_Text_endOfToken : Nat := 99
abbrev cX10_codeOf : ByteArray := prog_12_method_10_code
def yX10_codeOf : MethodName := ⟨RX10, "codeOf", "(II)I"⟩
abbrev m_Text_codeOf : Nat := 100
abbrev cX10_numberCode : ByteArray := prog_12_method_11_code
def yX10_numberCode : MethodName := ⟨RX10, "numberCode", "(II)I"⟩
abbrev m_Text_numberCode : Nat := 101
abbrev cX10_wordCode : ByteArray := prog_12_method_12_code
def yX10_wordCode : MethodName := ⟨RX10, "wordCode", "(II)I"⟩
abbrev m_Text_wordCode : Nat := 102
abbrev cX10_isWord : ByteArray := prog_12_method_13_code
def yX10_isWord : MethodName := ⟨RX10, "isWord", "(III)Z"⟩
abbrev m_Text_isWord : Nat := 103
abbrev cX10_isLetter : ByteArray := prog_12_method_14_code
def yX10_isLetter : MethodName := ⟨RX10, "isLetter", "(I)Z"⟩
abbrev m_Text_isLetter : Nat := 104
abbrev cX10_isDigit : ByteArray := prog_12_method_15_code
def yX10_isDigit : MethodName := ⟨RX10, "isDigit", "(I)Z"⟩
abbrev m_Text_isDigit : Nat := 105
abbrev cX10_isSign : ByteArray := prog_12_method_16_code
def yX10_isSign : MethodName := ⟨RX10, "isSign", "(I)Z"⟩
abbrev m_Text_isSign : Nat := 106
abbrev cX11_init : ByteArray := prog_1_method_1_code
def yX11_init : MethodName := ⟨RX11, "<init>", "()V"⟩
abbrev m_L_init : Nat := 107
abbrev cX11_feed : ByteArray := prog_1_method_2_code
def yX11_feed : MethodName := ⟨RX11, "feed", "(IIIII)I"⟩
abbrev m_L_feed : Nat := 108
abbrev cX11_end : ByteArray := prog_1_method_3_code
def yX11_end : MethodName := ⟨RX11, "end", "(I)Z"⟩
abbrev m_L_end : Nat := 109
abbrev cX11_fault : ByteArray := prog_1_method_4_code
def yX11_fault : MethodName := ⟨RX11, "fault", "()I"⟩
abbrev m_L_fault : Nat := 110
abbrev cX11_laws : ByteArray := prog_1_method_5_code
def yX11_laws : MethodName := ⟨RX11, "laws", "()I"⟩
abbrev m_L_laws : Nat := 111
abbrev cX11_liked : ByteArray := prog_1_method_6_code
def yX11_liked : MethodName := ⟨RX11, "liked", "(II)Z"⟩
abbrev m_L_liked : Nat := 112
abbrev cX11_screen : ByteArray := prog_1_method_7_code
def yX11_screen : MethodName := ⟨RX11, "screen", "(IIII)I"⟩
abbrev m_L_screen : Nat := 113
abbrev cX11_on : ByteArray := prog_1_method_8_code
def yX11_on : MethodName := ⟨RX11, "on", "(II)I"⟩
abbrev m_L_on : Nat := 114
abbrev cX11_plan : ByteArray := prog_1_method_9_code
def yX11_plan : MethodName := ⟨RX11, "plan", "()I"⟩
abbrev m_L_plan : Nat := 115
abbrev cX11_trial : ByteArray := prog_1_method_10_code
def yX11_trial : MethodName := ⟨RX11, "trial", "(II)I"⟩
abbrev m_L_trial : Nat := 116
abbrev cX11_row : ByteArray := prog_1_method_11_code
def yX11_row : MethodName := ⟨RX11, "row", "(II)I"⟩
abbrev m_L_row : Nat := 117
abbrev cX11_baby : ByteArray := prog_1_method_12_code
def yX11_baby : MethodName := ⟨RX11, "baby", "(III)I"⟩
abbrev m_L_baby : Nat := 118
abbrev cX11_gaze : ByteArray := prog_1_method_13_code
def yX11_gaze : MethodName := ⟨RX11, "gaze", "(III)I"⟩
abbrev m_L_gaze : Nat := 119
abbrev cX11_cried : ByteArray := prog_1_method_14_code
def yX11_cried : MethodName := ⟨RX11, "cried", "(II)Z"⟩
abbrev m_L_cried : Nat := 120
abbrev cX11_rule : ByteArray := prog_1_method_15_code
def yX11_rule : MethodName := ⟨RX11, "rule", "(III)Z"⟩
abbrev m_L_rule : Nat := 121
abbrev cX11_lean : ByteArray := prog_1_method_16_code
def yX11_lean : MethodName := ⟨RX11, "lean", "(I)Z"⟩
abbrev m_L_lean : Nat := 122
abbrev cX11_reading : ByteArray := prog_1_method_17_code
def yX11_reading : MethodName := ⟨RX11, "reading", "(II)Z"⟩
abbrev m_L_reading : Nat := 123
abbrev cX11_length : ByteArray := prog_1_method_18_code
def yX11_length : MethodName := ⟨RX11, "length", "(II)I"⟩
abbrev m_L_length : Nat := 124
abbrev cX11_read : ByteArray := prog_1_method_19_code
def yX11_read : MethodName := ⟨RX11, "read", "(II)I"⟩
abbrev m_L_read : Nat := 125
abbrev cX11_says : ByteArray := prog_1_method_20_code
def yX11_says : MethodName := ⟨RX11, "says", "(IIII)I"⟩
abbrev m_L_says : Nat := 126
abbrev cX11_out : ByteArray := prog_1_method_21_code
def yX11_out : MethodName := ⟨RX11, "out", "(II)I"⟩
abbrev m_L_out : Nat := 127
abbrev cX11_leave : ByteArray := prog_1_method_22_code
def yX11_leave : MethodName := ⟨RX11, "leave", "(IZ)Z"⟩
abbrev m_L_leave : Nat := 128
abbrev cX11_difference : ByteArray := prog_1_method_23_code
def yX11_difference : MethodName := ⟨RX11, "difference", "(I)I"⟩
abbrev m_L_difference : Nat := 129
abbrev cX11_odds : ByteArray := prog_1_method_24_code
def yX11_odds : MethodName := ⟨RX11, "odds", "(I)I"⟩
abbrev m_L_odds : Nat := 130
abbrev cX11_after : ByteArray := prog_1_method_25_code
def yX11_after : MethodName := ⟨RX11, "after", "(I)I"⟩
abbrev m_L_after : Nat := 131
abbrev cX11_leaving : ByteArray := prog_1_method_26_code
def yX11_leaving : MethodName := ⟨RX11, "leaving", "(I)I"⟩
abbrev m_L_leaving : Nat := 132
abbrev cX11_house : ByteArray := prog_1_method_27_code
def yX11_house : MethodName := ⟨RX11, "house", "(II)I"⟩
abbrev m_L_house : Nat := 133
abbrev cX11_joined : ByteArray := prog_1_method_28_code
def yX11_joined : MethodName := ⟨RX11, "joined", "(I)I"⟩
abbrev m_L_joined : Nat := 134
abbrev cX11_span : ByteArray := prog_1_method_29_code
def yX11_span : MethodName := ⟨RX11, "span", "(II)I"⟩
abbrev m_L_span : Nat := 135
abbrev cX11_spread : ByteArray := prog_1_method_30_code
def yX11_spread : MethodName := ⟨RX11, "spread", "(II)Z"⟩
abbrev m_L_spread : Nat := 136
abbrev cX11_world : ByteArray := prog_1_method_31_code
def yX11_world : MethodName := ⟨RX11, "world", "(II)I"⟩
abbrev m_L_world : Nat := 137
abbrev cX11_worlds : ByteArray := prog_1_method_32_code
def yX11_worlds : MethodName := ⟨RX11, "worlds", "(IIII)I"⟩
abbrev m_L_worlds : Nat := 138
abbrev cX11_parts : ByteArray := prog_1_method_33_code
def yX11_parts : MethodName := ⟨RX11, "parts", "(IIII)I"⟩
abbrev m_L_parts : Nat := 139
abbrev cX11_next : ByteArray := prog_1_method_34_code
def yX11_next : MethodName := ⟨RX11, "next", "(III)I"⟩
abbrev m_L_next : Nat := 140
abbrev cX11_fresh : ByteArray := prog_1_method_35_code
def yX11_fresh : MethodName := ⟨RX11, "fresh", "(I)I"⟩
abbrev m_L_fresh : Nat := 141
abbrev cX11_settled : ByteArray := prog_1_method_36_code
def yX11_settled : MethodName := ⟨RX11, "settled", "(I)I"⟩
abbrev m_L_settled : Nat := 142
abbrev cX11_apart : ByteArray := prog_1_method_37_code
def yX11_apart : MethodName := ⟨RX11, "apart", "(II)I"⟩
abbrev m_L_apart : Nat := 143
abbrev cX11_nearest : ByteArray := prog_1_method_38_code
def yX11_nearest : MethodName := ⟨RX11, "nearest", "(I)I"⟩
abbrev m_L_nearest : Nat := 144
abbrev cX11_book : ByteArray := prog_1_method_39_code
def yX11_book : MethodName := ⟨RX11, "book", "(I)Z"⟩
abbrev m_L_book : Nat := 145
abbrev cX11_kept : ByteArray := prog_1_method_40_code
def yX11_kept : MethodName := ⟨RX11, "kept", "()I"⟩
abbrev m_L_kept : Nat := 146
abbrev cX11_image : ByteArray := prog_1_method_41_code
def yX11_image : MethodName := ⟨RX11, "image", "(I)Z"⟩
abbrev m_L_image : Nat := 147
abbrev cX11_restore : ByteArray := prog_1_method_42_code
def yX11_restore : MethodName := ⟨RX11, "restore", "(I)Z"⟩
abbrev m_L_restore : Nat := 148
abbrev cX11_status : ByteArray := prog_1_method_43_code
def yX11_status : MethodName := ⟨RX11, "status", "(I)I"⟩
abbrev m_L_status : Nat := 149
abbrev cX11_count : ByteArray := prog_1_method_44_code
def yX11_count : MethodName := ⟨RX11, "count", "(I)I"⟩
abbrev m_L_count : Nat := 150
abbrev cX11_refuse : ByteArray := prog_1_method_45_code
def yX11_refuse : MethodName := ⟨RX11, "refuse", "(I)I"⟩
abbrev m_L_refuse : Nat := 151
abbrev cX11_deny : ByteArray := prog_1_method_46_code
def yX11_deny : MethodName := ⟨RX11, "deny", "(I)Z"⟩
abbrev m_L_deny : Nat := 152
abbrev cX11_hasBabyTrial : ByteArray := prog_1_method_47_code
def yX11_hasBabyTrial : MethodName := ⟨RX11, "hasBabyTrial", "(II)Z"⟩
abbrev m_L_hasBabyTrial : Nat := 153
abbrev cX11_offFor : ByteArray := prog_1_method_48_code
def yX11_offFor : MethodName := ⟨RX11, "offFor", "(II)I"⟩
abbrev m_L_offFor : Nat := 154
abbrev cX11_offOf : ByteArray := prog_1_method_49_code
def yX11_offOf : MethodName := ⟨RX11, "offOf", "(II)I"⟩
abbrev m_L_offOf : Nat := 155
abbrev cX11_within : ByteArray := prog_1_method_50_code
def yX11_within : MethodName := ⟨RX11, "within", "(III)Z"⟩
abbrev m_L_within : Nat := 156
abbrev cX11_brought : ByteArray := prog_1_method_51_code
def yX11_brought : MethodName := ⟨RX11, "brought", "(III)I"⟩
abbrev m_L_brought : Nat := 157
abbrev cX12_init : ByteArray := prog_14_method_1_code
def yX12_init : MethodName := ⟨RX12, "<init>", "()V"⟩
abbrev m_R_init : Nat := 158
abbrev cX12_in : ByteArray := prog_14_method_2_code
def yX12_in : MethodName := ⟨RX12, "in", "(JJJ)Z"⟩
abbrev m_R_in : Nat := 159
abbrev cX12_refuse : ByteArray := prog_14_method_3_code
def yX12_refuse : MethodName := ⟨RX12, "refuse", "(ZZ)I"⟩
abbrev m_R_refuse : Nat := 160
abbrev cX12_deny : ByteArray := prog_14_method_4_code
def yX12_deny : MethodName := ⟨RX12, "deny", "(ZZ)Z"⟩
abbrev m_R_deny : Nat := 161
abbrev cX12_status : ByteArray := prog_14_method_5_code
def yX12_status : MethodName := ⟨RX12, "status", "(I)I"⟩
abbrev m_R_status : Nat := 162
abbrev cX12_liked : ByteArray := prog_14_method_6_code
def yX12_liked : MethodName := ⟨RX12, "liked", "(II)Z"⟩
abbrev m_R_liked : Nat := 163
abbrev cX12_screen : ByteArray := prog_14_method_7_code
def yX12_screen : MethodName := ⟨RX12, "screen", "(IIII)I"⟩
abbrev m_R_screen : Nat := 164
abbrev cX12_isScreen : ByteArray := prog_14_method_8_code
def yX12_isScreen : MethodName := ⟨RX12, "isScreen", "(I)Z"⟩
abbrev m_R_isScreen : Nat := 165
abbrev cX12_isOdd : ByteArray := prog_14_method_9_code
def yX12_isOdd : MethodName := ⟨RX12, "isOdd", "(I)Z"⟩
abbrev m_R_isOdd : Nat := 166
abbrev cX12_on : ByteArray := prog_14_method_10_code
def yX12_on : MethodName := ⟨RX12, "on", "(II)I"⟩
abbrev m_R_on : Nat := 167
abbrev cX12_plan : ByteArray := prog_14_method_11_code
def yX12_plan : MethodName := ⟨RX12, "plan", "()I"⟩
abbrev m_R_plan : Nat := 168
abbrev cX12_isPlan : ByteArray := prog_14_method_12_code
def yX12_isPlan : MethodName := ⟨RX12, "isPlan", "(I)Z"⟩
abbrev m_R_isPlan : Nat := 169
abbrev cX12_trial : ByteArray := prog_14_method_13_code
def yX12_trial : MethodName := ⟨RX12, "trial", "(II)I"⟩
abbrev m_R_trial : Nat := 170
abbrev cX12_row : ByteArray := prog_14_method_14_code
def yX12_row : MethodName := ⟨RX12, "row", "(II)I"⟩
abbrev m_R_row : Nat := 171
abbrev cX12_baby : ByteArray := prog_14_method_15_code
def yX12_baby : MethodName := ⟨RX12, "baby", "(III)I"⟩
abbrev m_R_baby : Nat := 172
abbrev cX12_isBaby : ByteArray := prog_14_method_16_code
def yX12_isBaby : MethodName := ⟨RX12, "isBaby", "(I)Z"⟩
abbrev m_R_isBaby : Nat := 173
abbrev cX12_isTrial : ByteArray := prog_14_method_17_code
def yX12_isTrial : MethodName := ⟨RX12, "isTrial", "(II)Z"⟩
abbrev m_R_isTrial : Nat := 174
abbrev cX12_gaze : ByteArray := prog_14_method_18_code
def yX12_gaze : MethodName := ⟨RX12, "gaze", "(III)I"⟩
abbrev m_R_gaze : Nat := 175
abbrev cX12_cried : ByteArray := prog_14_method_19_code
def yX12_cried : MethodName := ⟨RX12, "cried", "(II)Z"⟩
abbrev m_R_cried : Nat := 176
abbrev cX12_rule : ByteArray := prog_14_method_20_code
def yX12_rule : MethodName := ⟨RX12, "rule", "(III)Z"⟩
abbrev m_R_rule : Nat := 177
abbrev cX12_lean : ByteArray := prog_14_method_21_code
def yX12_lean : MethodName := ⟨RX12, "lean", "(I)Z"⟩
abbrev m_R_lean : Nat := 178
abbrev cX12_reading : ByteArray := prog_14_method_22_code
def yX12_reading : MethodName := ⟨RX12, "reading", "(II)Z"⟩
abbrev m_R_reading : Nat := 179
abbrev cX12_screenOf : ByteArray := prog_14_method_23_code
def yX12_screenOf : MethodName := ⟨RX12, "screenOf", "(II)I"⟩
abbrev m_R_screenOf : Nat := 180
abbrev cX12_plain : ByteArray := prog_14_method_24_code
def yX12_plain : MethodName := ⟨RX12, "plain", "(II)I"⟩
abbrev m_R_plain : Nat := 181
abbrev cX12_lengthOf : ByteArray := prog_14_method_25_code
def yX12_lengthOf : MethodName := ⟨RX12, "lengthOf", "(II)I"⟩
abbrev m_R_lengthOf : Nat := 182
abbrev cX12_length : ByteArray := prog_14_method_26_code
def yX12_length : MethodName := ⟨RX12, "length", "(II)I"⟩
abbrev m_R_length : Nat := 183
abbrev cX12_trialsOf : ByteArray := prog_14_method_27_code
def yX12_trialsOf : MethodName := ⟨RX12, "trialsOf", "(I)I"⟩
abbrev m_R_trialsOf : Nat := 184
abbrev cX12_readOf : ByteArray := prog_14_method_28_code
def yX12_readOf : MethodName := ⟨RX12, "readOf", "(II)I"⟩
abbrev m_R_readOf : Nat := 185
abbrev cX12_read : ByteArray := prog_14_method_29_code
def yX12_read : MethodName := ⟨RX12, "read", "(II)I"⟩
abbrev m_R_read : Nat := 186
abbrev cX12_feeds : ByteArray := prog_14_method_30_code
def yX12_feeds : MethodName := ⟨RX12, "feeds", "(I)V"⟩
abbrev m_R_feeds : Nat := 187
abbrev cX12_feed : ByteArray := prog_14_method_31_code
def yX12_feed : MethodName := ⟨RX12, "feed", "(IIIII)I"⟩
abbrev m_R_feed : Nat := 188
abbrev cX12_end : ByteArray := prog_14_method_32_code
def yX12_end : MethodName := ⟨RX12, "end", "(I)Z"⟩
abbrev m_R_end : Nat := 189
abbrev cX12_between : ByteArray := prog_14_method_33_code
def yX12_between : MethodName := ⟨RX12, "between", "(III)Z"⟩
abbrev m_R_between : Nat := 190
abbrev cX12_next : ByteArray := prog_14_method_34_code
def yX12_next : MethodName := ⟨RX12, "next", "()V"⟩
abbrev m_R_next_V : Nat := 191
abbrev cX12_passes : ByteArray := prog_14_method_35_code
def yX12_passes : MethodName := ⟨RX12, "passes", "(Z)Z"⟩
abbrev m_R_passes : Nat := 192
abbrev cX12_isWord : ByteArray := prog_14_method_36_code
def yX12_isWord : MethodName := ⟨RX12, "isWord", "(Ljava/lang/String;)Z"⟩
abbrev m_R_isWord : Nat := 193
abbrev cX12_isSign : ByteArray := prog_14_method_37_code
def yX12_isSign : MethodName := ⟨RX12, "isSign", "(I)Z"⟩
abbrev m_R_isSign : Nat := 194
abbrev cX12_nameHere : ByteArray := prog_14_method_38_code
def yX12_nameHere : MethodName := ⟨RX12, "nameHere", "()I"⟩
abbrev m_R_nameHere : Nat := 195
abbrev cX12_mark : ByteArray := prog_14_method_39_code
def yX12_mark : MethodName := ⟨RX12, "mark", "(I)V"⟩
abbrev m_R_mark : Nat := 196
abbrev cX12_factor : ByteArray := prog_14_method_40_code
def yX12_factor : MethodName := ⟨RX12, "factor", "(I)Z"⟩
abbrev m_R_factor : Nat := 197
abbrev cX12_product : ByteArray := prog_14_method_41_code
def yX12_product : MethodName := ⟨RX12, "product", "(I)Z"⟩
abbrev m_R_product : Nat := 198
abbrev cX12_sum : ByteArray := prog_14_method_42_code
def yX12_sum : MethodName := ⟨RX12, "sum", "(I)Z"⟩
abbrev m_R_sum : Nat := 199
abbrev cX12_whole : ByteArray := prog_14_method_43_code
def yX12_whole : MethodName := ⟨RX12, "whole", "(I)Z"⟩
abbrev m_R_whole : Nat := 200
abbrev cX12_clause : ByteArray := prog_14_method_44_code
def yX12_clause : MethodName := ⟨RX12, "clause", "(I)Z"⟩
abbrev m_R_clause : Nat := 201
abbrev cX12_newName : ByteArray := prog_14_method_45_code
def yX12_newName : MethodName := ⟨RX12, "newName", "()J"⟩
abbrev m_R_newName : Nat := 202
abbrev cX12_line : ByteArray := prog_14_method_46_code
def yX12_line : MethodName := ⟨RX12, "line", "()Z"⟩
abbrev m_R_line : Nat := 203
abbrev cX12_reads : ByteArray := prog_14_method_47_code
def yX12_reads : MethodName := ⟨RX12, "reads", "()V"⟩
abbrev m_R_reads : Nat := 204
abbrev cX12_fault : ByteArray := prog_14_method_48_code
def yX12_fault : MethodName := ⟨RX12, "fault", "()I"⟩
abbrev m_R_fault : Nat := 205
abbrev cX12_laws : ByteArray := prog_14_method_49_code
def yX12_laws : MethodName := ⟨RX12, "laws", "()I"⟩
abbrev m_R_laws : Nat := 206
abbrev cX12_brought : ByteArray := prog_14_method_50_code
def yX12_brought : MethodName := ⟨RX12, "brought", "(J)I"⟩
abbrev m_R_brought : Nat := 207
abbrev cX12_worked : ByteArray := prog_14_method_51_code
def yX12_worked : MethodName := ⟨RX12, "worked", "(I)I"⟩
abbrev m_R_worked : Nat := 208
abbrev cX12_isLaw : ByteArray := prog_14_method_52_code
def yX12_isLaw : MethodName := ⟨RX12, "isLaw", "(I)Z"⟩
abbrev m_R_isLaw : Nat := 209
abbrev cX12_laysPlan : ByteArray := prog_14_method_53_code
def yX12_laysPlan : MethodName := ⟨RX12, "laysPlan", "(I)V"⟩
abbrev m_R_laysPlan : Nat := 210
abbrev cX12_saysRow : ByteArray := prog_14_method_54_code
def yX12_saysRow : MethodName := ⟨RX12, "saysRow", "(II)V"⟩
abbrev m_R_saysRow : Nat := 211
abbrev cX12_says : ByteArray := prog_14_method_55_code
def yX12_says : MethodName := ⟨RX12, "says", "(IIII)I"⟩
abbrev m_R_says : Nat := 212
abbrev cX12_outBy : ByteArray := prog_14_method_56_code
def yX12_outBy : MethodName := ⟨RX12, "outBy", "(I)I"⟩
abbrev m_R_outBy : Nat := 213
abbrev cX12_out : ByteArray := prog_14_method_57_code
def yX12_out : MethodName := ⟨RX12, "out", "(II)I"⟩
abbrev m_R_out : Nat := 214
abbrev cX12_leave : ByteArray := prog_14_method_58_code
def yX12_leave : MethodName := ⟨RX12, "leave", "(IZ)Z"⟩
abbrev m_R_leave : Nat := 215
abbrev cX12_differenceOf : ByteArray := prog_14_method_59_code
def yX12_differenceOf : MethodName := ⟨RX12, "differenceOf", "(I)I"⟩
abbrev m_R_differenceOf : Nat := 216
abbrev cX12_difference : ByteArray := prog_14_method_60_code
def yX12_difference : MethodName := ⟨RX12, "difference", "(I)I"⟩
abbrev m_R_difference : Nat := 217
abbrev cX12_counts : ByteArray := prog_14_method_61_code
def yX12_counts : MethodName := ⟨RX12, "counts", "(II)V"⟩
abbrev m_R_counts : Nat := 218
abbrev cX12_ofThousand : ByteArray := prog_14_method_62_code
def yX12_ofThousand : MethodName := ⟨RX12, "ofThousand", "()I"⟩
abbrev m_R_ofThousand : Nat := 219
abbrev cX12_odds : ByteArray := prog_14_method_63_code
def yX12_odds : MethodName := ⟨RX12, "odds", "(I)I"⟩
abbrev m_R_odds : Nat := 220
abbrev cX12_after : ByteArray := prog_14_method_64_code
def yX12_after : MethodName := ⟨RX12, "after", "(I)I"⟩
abbrev m_R_after : Nat := 221
abbrev cX12_leaving : ByteArray := prog_14_method_65_code
def yX12_leaving : MethodName := ⟨RX12, "leaving", "(I)I"⟩
abbrev m_R_leaving : Nat := 222
abbrev cX12_house : ByteArray := prog_14_method_66_code
def yX12_house : MethodName := ⟨RX12, "house", "(II)I"⟩
abbrev m_R_house : Nat := 223
abbrev cX12_joined : ByteArray := prog_14_method_67_code
def yX12_joined : MethodName := ⟨RX12, "joined", "(I)I"⟩
abbrev m_R_joined : Nat := 224
abbrev cX12_span : ByteArray := prog_14_method_68_code
def yX12_span : MethodName := ⟨RX12, "span", "(II)I"⟩
abbrev m_R_span : Nat := 225
abbrev cX12_spread : ByteArray := prog_14_method_69_code
def yX12_spread : MethodName := ⟨RX12, "spread", "(II)Z"⟩
abbrev m_R_spread : Nat := 226
abbrev cX12_lot : ByteArray := prog_14_method_70_code
def yX12_lot : MethodName := ⟨RX12, "lot", "(I)I"⟩
abbrev m_R_lot : Nat := 227
abbrev cX12_draws : ByteArray := prog_14_method_71_code
def yX12_draws : MethodName := ⟨RX12, "draws", "(II)I"⟩
abbrev m_R_draws : Nat := 228
abbrev cX12_isLawOrNone : ByteArray := prog_14_method_72_code
def yX12_isLawOrNone : MethodName := ⟨RX12, "isLawOrNone", "(I)Z"⟩
abbrev m_R_isLawOrNone : Nat := 229
abbrev cX12_world : ByteArray := prog_14_method_73_code
def yX12_world : MethodName := ⟨RX12, "world", "(II)I"⟩
abbrev m_R_world : Nat := 230
abbrev cX12_worlds : ByteArray := prog_14_method_74_code
def yX12_worlds : MethodName := ⟨RX12, "worlds", "(IIII)I"⟩
abbrev m_R_worlds : Nat := 231
abbrev cX12_signOf : ByteArray := prog_14_method_75_code
def yX12_signOf : MethodName := ⟨RX12, "signOf", "(II)I"⟩
abbrev m_R_signOf : Nat := 232
abbrev cX12_parts : ByteArray := prog_14_method_76_code
def yX12_parts : MethodName := ⟨RX12, "parts", "(IIII)I"⟩
abbrev m_R_parts : Nat := 233
abbrev cX12_rates : ByteArray := prog_14_method_77_code
def yX12_rates : MethodName := ⟨RX12, "rates", "(I)V"⟩
abbrev m_R_rates : Nat := 234
abbrev cX12_rowsFrom : ByteArray := prog_14_method_78_code
def yX12_rowsFrom : MethodName := ⟨RX12, "rowsFrom", "(IIII)V"⟩
abbrev m_R_rowsFrom : Nat := 235
abbrev cX12_next_ : ByteArray := prog_14_method_79_code
def yX12_next_ : MethodName := ⟨RX12, "next", "(III)I"⟩
abbrev m_R_next_IIII : Nat := 236
abbrev cX12_fresh : ByteArray := prog_14_method_80_code
def yX12_fresh : MethodName := ⟨RX12, "fresh", "(I)I"⟩
abbrev m_R_fresh : Nat := 237
abbrev cX12_settled : ByteArray := prog_14_method_81_code
def yX12_settled : MethodName := ⟨RX12, "settled", "(I)I"⟩
abbrev m_R_settled : Nat := 238
abbrev cX12_offOf : ByteArray := prog_14_method_82_code
def yX12_offOf : MethodName := ⟨RX12, "offOf", "(II)I"⟩
abbrev m_R_offOf : Nat := 239
abbrev cX12_offAll : ByteArray := prog_14_method_83_code
def yX12_offAll : MethodName := ⟨RX12, "offAll", "(I)I"⟩
abbrev m_R_offAll : Nat := 240
abbrev cX12_apart : ByteArray := prog_14_method_84_code
def yX12_apart : MethodName := ⟨RX12, "apart", "(II)I"⟩
abbrev m_R_apart : Nat := 241
abbrev cX12_nearest : ByteArray := prog_14_method_85_code
def yX12_nearest : MethodName := ⟨RX12, "nearest", "(I)I"⟩
abbrev m_R_nearest : Nat := 242
abbrev cX12_book : ByteArray := prog_14_method_86_code
def yX12_book : MethodName := ⟨RX12, "book", "(I)Z"⟩
abbrev m_R_book : Nat := 243
abbrev cX12_leftMany : ByteArray := prog_14_method_87_code
def yX12_leftMany : MethodName := ⟨RX12, "leftMany", "()I"⟩
abbrev m_R_leftMany : Nat := 244
abbrev cX12_kept : ByteArray := prog_14_method_88_code
def yX12_kept : MethodName := ⟨RX12, "kept", "()I"⟩
abbrev m_R_kept : Nat := 245
abbrev cX12_move : ByteArray := prog_14_method_89_code
def yX12_move : MethodName := ⟨RX12, "move", "([I[IZ)V"⟩
abbrev m_R_move : Nat := 246
abbrev cX12_moves : ByteArray := prog_14_method_90_code
def yX12_moves : MethodName := ⟨RX12, "moves", "([IZ)V"⟩
abbrev m_R_moves : Nat := 247
abbrev cX12_image : ByteArray := prog_14_method_91_code
def yX12_image : MethodName := ⟨RX12, "image", "(I)Z"⟩
abbrev m_R_image : Nat := 248
abbrev cX12_restore : ByteArray := prog_14_method_92_code
def yX12_restore : MethodName := ⟨RX12, "restore", "(I)Z"⟩
abbrev m_R_restore : Nat := 249
abbrev cX12_count : ByteArray := prog_14_method_93_code
def yX12_count : MethodName := ⟨RX12, "count", "(I)I"⟩
abbrev m_R_count : Nat := 250
abbrev cJ6_compare_7cf53 : ByteArray := prog_15_method_40_code
def yJ6_compare_7cf53 : MethodName := ⟨RJ6, "compare", "(II)I"⟩
abbrev m_JI_compare : Nat := 251
abbrev cJ6_numberOfTrailingZeros_0f7a4 : ByteArray := prog_15_method_48_code
def yJ6_numberOfTrailingZeros_0f7a4 : MethodName := ⟨RJ6, "numberOfTrailingZeros", "(I)I"⟩
abbrev m_JI_numberOfTrailingZeros : Nat := 252
abbrev cJ6_bitCount_0f7a4 : ByteArray := prog_15_method_49_code
def yJ6_bitCount_0f7a4 : MethodName := ⟨RJ6, "bitCount", "(I)I"⟩
abbrev m_JI_bitCount : Nat := 253
abbrev cJ6_signum_0f7a4 : ByteArray := prog_15_method_56_code
def yJ6_signum_0f7a4 : MethodName := ⟨RJ6, "signum", "(I)I"⟩
abbrev m_JI_signum : Nat := 254
abbrev cJ0_length_8abf5 : ByteArray := prog_17_method_54_code
def yJ0_length_8abf5 : MethodName := ⟨RJ0, "length", "()I"⟩
abbrev m_JS_length : Nat := 255
abbrev cJ0_charAt_5068e : ByteArray := prog_17_method_56_code
def yJ0_charAt_5068e : MethodName := ⟨RJ0, "charAt", "(I)C"⟩
abbrev m_JS_charAt : Nat := 256
abbrev cJ0_coder_7d493 : ByteArray := prog_17_method_152_code
def yJ0_coder_7d493 : MethodName := ⟨RJ0, "coder", "()B"⟩
abbrev m_JS_coder : Nat := 257
abbrev cJ0_isLatin1_aae02 : ByteArray := prog_17_method_154_code
def yJ0_isLatin1_aae02 : MethodName := ⟨RJ0, "isLatin1", "()Z"⟩
abbrev m_JS_isLatin1 : Nat := 258
abbrev cJ0_checkIndex_df160 : ByteArray := prog_17_method_155_code
def yJ0_checkIndex_df160 : MethodName := ⟨RJ0, "checkIndex", "(II)V"⟩
abbrev m_JS_checkIndex : Nat := 259
abbrev cJ1_charAt_3b067 : ByteArray := prog_18_method_2_code
def yJ1_charAt_3b067 : MethodName := ⟨RJ1, "charAt", "([BI)C"⟩
abbrev m_J1_charAt : Nat := 260
abbrev cJ3_checkIndex_8e157 : ByteArray := prog_21_method_11_code
def yJ3_checkIndex_8e157 : MethodName := ⟨RJ3, "checkIndex", "(IILjava/util/function/BiFunction;)I"⟩
abbrev m_JP_checkIndex : Nat := 261
abbrev cL_law : ByteArray := code
def yL_law : MethodName := ⟨RL, "law", "([I)Z"⟩
abbrev m_W_law : Nat := 262
abbrev am_Q : Type := MethodName × ByteArray × Nat × Option FieldType × Nat × Nat × Nat × Nat
def am_mt_0 : List am_Q := [
  (yX0_init, cX0_init, 1, none, 2, 0, 0, 0),
  (yX0_write, cX0_write, 3, none, 0, 2, 0, 0),
  (yX0_broken, cX0_broken, 3, (some .int), 0, 1, 0, 0),
  (yX1_init, cX1_init, 4, none, 2, 3, 6, 85),
  (yX1_forget, cX1_forget, 1, none, 0, 0, 0, 0),
  (yX1_find, cX1_find, 4, none, 0, 2, 0, 0),
  (yX1_extend, cX1_extend, 3, none, 0, 1, 0, 0),
  (yX1_place, cX1_place, 8, none, 0, 2, 0, 0),
  (yX1_weigh, cX1_weigh, 2, none, 0, 0, 0, 0),
  (yX1_partedCouples, cX1_partedCouples, 7, (some .int), 0, 0, 0, 0),
  (yX2_init, cX2_init, 3, none, 2, 2, 0, 0),
  (yX2_lookBack, cX2_lookBack, 6, none, 0, 0, 0, 0),
  (yX2_tryReadings, cX2_tryReadings, 5, none, 0, 0, 0, 0),
  (yX2_fewestToLeave, cX2_fewestToLeave, 3, (some .int), 0, 1, 0, 0),
  (yX2_oneToLeave, cX2_oneToLeave, 4, (some .int), 0, 1, 0, 0),
  (yX2_twoToLeave, cX2_twoToLeave, 5, (some .int), 0, 1, 0, 0),
  (yX2_threeToLeave, cX2_threeToLeave, 6, (some .int), 0, 1, 0, 0),
  (yX2_withoutEachHouse, cX2_withoutEachHouse, 3, none, 0, 0, 0, 0),
  (yX2_leanAll, cX2_leanAll, 4, none, 0, 1, 0, 0),
  (yX2_noticeNone, cX2_noticeNone, 1, none, 0, 0, 0, 0)]
def am_mt_1 : List am_Q := [
  (yX2_notice, cX2_notice, 2, none, 0, 1, 0, 0),
  (yX3_init, cX3_init, 1, none, 2, 0, 7, 1232),
  (yX3_take, cX3_take, 3, none, 0, 1, 0, 0),
  (yX3_hasBaby, cX3_hasBaby, 2, (some .boolean), 0, 1, 0, 0),
  (yX3_usesPlan, cX3_usesPlan, 3, (some .boolean), 0, 1, 0, 0),
  (yX3_leftCount, cX3_leftCount, 3, (some .int), 0, 0, 0, 0),
  (yX3_addBaby, cX3_addBaby, 5, (some .int), 0, 3, 0, 0),
  (yX3_gazeSize, cX3_gazeSize, 3, (some .int), 0, 2, 0, 0),
  (yX3_gazeAt, cX3_gazeAt, 4, (some .int), 0, 3, 0, 0),
  (yX3_addLength, cX3_addLength, 5, (some .int), 0, 3, 0, 0),
  (yX3_clearGazes, cX3_clearGazes, 2, none, 0, 0, 0, 0),
  (yX3_isCrying, cX3_isCrying, 3, (some .boolean), 0, 2, 0, 0),
  (yX4_init, cX4_init, 4, none, 2, 3, 2, 20),
  (yX4_bareLength, cX4_bareLength, 8, (some .int), 0, 2, 0, 0),
  (yX4_leanedLength, cX4_leanedLength, 4, (some .int), 0, 2, 0, 0),
  (yX4_measure, cX4_measure, 4, none, 0, 1, 0, 0),
  (yX4_clauseAgainst, cX4_clauseAgainst, 2, (some .int), 0, 1, 0, 0),
  (yX4_readingAt, cX4_readingAt, 3, (some .int), 0, 1, 0, 0),
  (yX4_digits, cX4_digits, 3, (some .int), 1, 1, 0, 0),
  (yX4_differenceOf, cX4_differenceOf, 8, (some .int), 0, 1, 0, 0)]
def am_mt_2 : List am_Q := [
  (yX4_settledAt, cX4_settledAt, 3, (some .int), 0, 0, 0, 0),
  (yX4_meanFresh, cX4_meanFresh, 7, (some .int), 0, 1, 0, 0),
  (yX5_init, cX5_init, 3, none, 2, 2, 6, 816),
  (yX5_countAll, cX5_countAll, 3, none, 0, 0, 0, 0),
  (yX5_allBits, cX5_allBits, 3, (some .int), 0, 0, 0, 0),
  (yX5_houseBits, cX5_houseBits, 4, (some .int), 0, 1, 0, 0),
  (yX5_sumOf, cX5_sumOf, 4, (some .int), 0, 1, 0, 0),
  (yX5_waysWithout, cX5_waysWithout, 2, (some .int), 0, 1, 0, 0),
  (yX5_thousandWithout, cX5_thousandWithout, 3, (some .int), 0, 1, 0, 0),
  (yX5_choose, cX5_choose, 4, (some .int), 0, 1, 0, 0),
  (yX5_waysOf, cX5_waysOf, 8, (some .int), 0, 1, 0, 0),
  (yX5_gather, cX5_gather, 6, (some .int), 0, 3, 0, 0),
  (yX5_addValue, cX5_addValue, 7, none, 0, 3, 0, 0),
  (yX6_init, cX6_init, 2, none, 2, 1, 8, 599),
  (yX6_findFault, cX6_findFault, 2, (some .int), 0, 0, 0, 0),
  (yX6_parseLine, cX6_parseLine, 3, (some .boolean), 0, 0, 0, 0),
  (yX6_parseToken, cX6_parseToken, 2, (some .boolean), 0, 1, 0, 0),
  (yX6_parseNewName, cX6_parseNewName, 2, (some .boolean), 0, 0, 0, 0),
  (yX6_parseExpression, cX6_parseExpression, 3, (some .boolean), 0, 1, 0, 0),
  (yX6_parseSum, cX6_parseSum, 4, (some .boolean), 0, 1, 0, 0)]
def am_mt_3 : List am_Q := [
  (yX6_parseProduct, cX6_parseProduct, 4, (some .boolean), 0, 1, 0, 0),
  (yX6_parseFactor, cX6_parseFactor, 3, (some .boolean), 0, 1, 0, 0),
  (yX7_init, cX7_init, 1, none, 2, 0, 6, 584),
  (yX7_empty, cX7_empty, 1, none, 0, 0, 0, 0),
  (yX7_take, cX7_take, 2, none, 0, 1, 0, 0),
  (yX7_hasLaw, cX7_hasLaw, 2, (some .boolean), 0, 1, 0, 0),
  (yX7_emit, cX7_emit, 2, none, 0, 1, 0, 0),
  (yX7_addLaw, cX7_addLaw, 2, none, 0, 1, 0, 0),
  (yX7_addClause, cX7_addClause, 2, none, 0, 1, 0, 0),
  (yX7_workLaw, cX7_workLaw, 3, (some .int), 0, 2, 0, 0),
  (yX7_firstClause, cX7_firstClause, 3, (some .int), 0, 1, 0, 0),
  (yX7_work, cX7_work, 7, (some .int), 0, 3, 0, 0),
  (yX7_joinBy, cX7_joinBy, 5, (some .int), 1, 3, 0, 0),
  (yX8_init, cX8_init, 1, none, 2, 0, 7, 89),
  (yX8_hasScreen, cX8_hasScreen, 2, (some .boolean), 0, 1, 0, 0),
  (yX8_hasPlan, cX8_hasPlan, 2, (some .boolean), 0, 1, 0, 0),
  (yX8_hasTrial, cX8_hasTrial, 3, (some .boolean), 0, 2, 0, 0),
  (yX8_isOdd, cX8_isOdd, 2, (some .boolean), 0, 1, 0, 0),
  (yX8_screenOf, cX8_screenOf, 3, (some .int), 0, 2, 0, 0),
  (yX8_addScreen, cX8_addScreen, 5, (some .int), 0, 4, 0, 0)]
def am_mt_4 : List am_Q := [
  (yX8_addPlan, cX8_addPlan, 1, (some .int), 0, 0, 0, 0),
  (yX8_addTrial, cX8_addTrial, 3, (some .int), 0, 2, 0, 0),
  (yX8_sameAhead, cX8_sameAhead, 6, (some .int), 0, 3, 0, 0),
  (yX9_init, cX9_init, 4, none, 2, 3, 2, 20),
  (yX9_tellPlan, cX9_tellPlan, 7, none, 0, 3, 0, 0),
  (yX9_tell, cX9_tell, 9, (some .int), 0, 6, 0, 0),
  (yX9_planSign, cX9_planSign, 9, (some .int), 0, 3, 0, 0),
  (yX9_signOf, cX9_signOf, 4, (some .int), 1, 4, 0, 0),
  (yX9_drawWorld, cX9_drawWorld, 7, (some .int), 0, 2, 0, 0),
  (yX9_drawLook, cX9_drawLook, 3, (some .int), 0, 1, 0, 0),
  (yX9_lot, cX9_lot, 2, (some .int), 0, 1, 0, 0),
  (yX10_init, cX10_init, 1, none, 2, 0, 4, 2003),
  (yX10_append, cX10_append, 3, none, 0, 1, 0, 0),
  (yX10_split, cX10_split, 4, none, 0, 0, 0, 0),
  (yX10_code, cX10_code, 2, (some .int), 0, 1, 0, 0),
  (yX10_start, cX10_start, 2, (some .int), 0, 1, 0, 0),
  (yX10_wordSize, cX10_wordSize, 2, (some .int), 0, 1, 0, 0),
  (yX10_sameWords, cX10_sameWords, 5, (some .boolean), 0, 2, 0, 0),
  (yX10_keep, cX10_keep, 4, none, 0, 3, 0, 0),
  (yX10_endOfToken, cX10_endOfToken, 4, (some .int), 0, 1, 0, 0)]
def am_mt_5 : List am_Q := [
  (yX10_codeOf, cX10_codeOf, 4, (some .int), 0, 2, 0, 0),
  (yX10_numberCode, cX10_numberCode, 5, (some .int), 0, 2, 0, 0),
  (yX10_wordCode, cX10_wordCode, 4, (some .int), 0, 2, 0, 0),
  (yX10_isWord, cX10_isWord, 6, (some .boolean), 0, 3, 0, 0),
  (yX10_isLetter, cX10_isLetter, 1, (some .boolean), 1, 1, 0, 0),
  (yX10_isDigit, cX10_isDigit, 1, (some .boolean), 1, 1, 0, 0),
  (yX10_isSign, cX10_isSign, 1, (some .boolean), 1, 1, 0, 0),
  (yX11_init, cX11_init, 1, none, 2, 0, 69, 6801),
  (yX11_feed, cX11_feed, 6, (some .int), 0, 5, 0, 0),
  (yX11_end, cX11_end, 2, (some .boolean), 0, 1, 0, 0),
  (yX11_fault, cX11_fault, 1, (some .int), 0, 0, 0, 0),
  (yX11_laws, cX11_laws, 1, (some .int), 0, 0, 0, 0),
  (yX11_liked, cX11_liked, 3, (some .boolean), 0, 2, 0, 0),
  (yX11_screen, cX11_screen, 6, (some .int), 0, 4, 0, 0),
  (yX11_on, cX11_on, 3, (some .int), 0, 2, 0, 0),
  (yX11_plan, cX11_plan, 1, (some .int), 0, 0, 0, 0),
  (yX11_trial, cX11_trial, 3, (some .int), 0, 2, 0, 0),
  (yX11_row, cX11_row, 3, (some .int), 0, 2, 0, 0),
  (yX11_baby, cX11_baby, 4, (some .int), 0, 3, 0, 0),
  (yX11_gaze, cX11_gaze, 4, (some .int), 0, 3, 0, 0)]
def am_mt_6 : List am_Q := [
  (yX11_cried, cX11_cried, 3, (some .boolean), 0, 2, 0, 0),
  (yX11_rule, cX11_rule, 4, (some .boolean), 0, 3, 0, 0),
  (yX11_lean, cX11_lean, 2, (some .boolean), 0, 1, 0, 0),
  (yX11_reading, cX11_reading, 3, (some .boolean), 0, 2, 0, 0),
  (yX11_length, cX11_length, 3, (some .int), 0, 2, 0, 0),
  (yX11_read, cX11_read, 3, (some .int), 0, 2, 0, 0),
  (yX11_says, cX11_says, 5, (some .int), 0, 4, 0, 0),
  (yX11_out, cX11_out, 4, (some .int), 0, 2, 0, 0),
  (yX11_leave, cX11_leave, 3, (some .boolean), 0, 2, 0, 0),
  (yX11_difference, cX11_difference, 2, (some .int), 0, 1, 0, 0),
  (yX11_odds, cX11_odds, 2, (some .int), 0, 1, 0, 0),
  (yX11_after, cX11_after, 2, (some .int), 0, 1, 0, 0),
  (yX11_leaving, cX11_leaving, 2, (some .int), 0, 1, 0, 0),
  (yX11_house, cX11_house, 4, (some .int), 0, 2, 0, 0),
  (yX11_joined, cX11_joined, 2, (some .int), 0, 1, 0, 0),
  (yX11_span, cX11_span, 3, (some .int), 0, 2, 0, 0),
  (yX11_spread, cX11_spread, 3, (some .boolean), 0, 2, 0, 0),
  (yX11_world, cX11_world, 3, (some .int), 0, 2, 0, 0),
  (yX11_worlds, cX11_worlds, 7, (some .int), 0, 4, 0, 0),
  (yX11_parts, cX11_parts, 5, (some .int), 0, 4, 0, 0)]
def am_mt_7 : List am_Q := [
  (yX11_next, cX11_next, 4, (some .int), 0, 3, 0, 0),
  (yX11_fresh, cX11_fresh, 2, (some .int), 0, 1, 0, 0),
  (yX11_settled, cX11_settled, 2, (some .int), 0, 1, 0, 0),
  (yX11_apart, cX11_apart, 3, (some .int), 0, 2, 0, 0),
  (yX11_nearest, cX11_nearest, 6, (some .int), 0, 1, 0, 0),
  (yX11_book, cX11_book, 2, (some .boolean), 0, 1, 0, 0),
  (yX11_kept, cX11_kept, 1, (some .int), 0, 0, 0, 0),
  (yX11_image, cX11_image, 2, (some .boolean), 0, 1, 8, 1246),
  (yX11_restore, cX11_restore, 2, (some .boolean), 0, 1, 0, 0),
  (yX11_status, cX11_status, 2, (some .int), 0, 1, 0, 0),
  (yX11_count, cX11_count, 2, (some .int), 0, 1, 0, 0),
  (yX11_refuse, cX11_refuse, 2, (some .int), 0, 1, 0, 0),
  (yX11_deny, cX11_deny, 2, (some .boolean), 0, 1, 0, 0),
  (yX11_hasBabyTrial, cX11_hasBabyTrial, 3, (some .boolean), 0, 2, 0, 0),
  (yX11_offFor, cX11_offFor, 5, (some .int), 0, 2, 0, 0),
  (yX11_offOf, cX11_offOf, 7, (some .int), 0, 2, 0, 0),
  (yX11_within, cX11_within, 3, (some .boolean), 1, 3, 0, 0),
  (yX11_brought, cX11_brought, 3, (some .int), 1, 3, 0, 0),
  (yX12_init, cX12_init, 1, none, 2, 0, 48, 74432),
  (yX12_in, cX12_in, 6, (some .boolean), 1, 3, 0, 0)]
def am_mt_8 : List am_Q := [
  (yX12_refuse, cX12_refuse, 3, (some .int), 0, 2, 0, 0),
  (yX12_deny, cX12_deny, 3, (some .boolean), 0, 2, 0, 0),
  (yX12_status, cX12_status, 2, (some .int), 0, 1, 0, 0),
  (yX12_liked, cX12_liked, 3, (some .boolean), 0, 2, 0, 0),
  (yX12_screen, cX12_screen, 6, (some .int), 0, 4, 0, 0),
  (yX12_isScreen, cX12_isScreen, 2, (some .boolean), 0, 1, 0, 0),
  (yX12_isOdd, cX12_isOdd, 2, (some .boolean), 0, 1, 0, 0),
  (yX12_on, cX12_on, 3, (some .int), 0, 2, 0, 0),
  (yX12_plan, cX12_plan, 1, (some .int), 0, 0, 0, 0),
  (yX12_isPlan, cX12_isPlan, 2, (some .boolean), 0, 1, 0, 0),
  (yX12_trial, cX12_trial, 7, (some .int), 0, 2, 0, 0),
  (yX12_row, cX12_row, 3, (some .int), 0, 2, 0, 0),
  (yX12_baby, cX12_baby, 5, (some .int), 0, 3, 0, 0),
  (yX12_isBaby, cX12_isBaby, 2, (some .boolean), 0, 1, 0, 0),
  (yX12_isTrial, cX12_isTrial, 3, (some .boolean), 0, 2, 0, 0),
  (yX12_gaze, cX12_gaze, 7, (some .int), 0, 3, 0, 0),
  (yX12_cried, cX12_cried, 3, (some .boolean), 0, 2, 0, 0),
  (yX12_rule, cX12_rule, 4, (some .boolean), 0, 3, 0, 0),
  (yX12_lean, cX12_lean, 2, (some .boolean), 0, 1, 0, 0),
  (yX12_reading, cX12_reading, 3, (some .boolean), 0, 2, 0, 0)]
def am_mt_9 : List am_Q := [
  (yX12_screenOf, cX12_screenOf, 3, (some .int), 0, 2, 0, 0),
  (yX12_plain, cX12_plain, 8, (some .int), 0, 2, 0, 0),
  (yX12_lengthOf, cX12_lengthOf, 4, (some .int), 0, 2, 0, 0),
  (yX12_length, cX12_length, 3, (some .int), 0, 2, 0, 0),
  (yX12_trialsOf, cX12_trialsOf, 2, (some .int), 0, 1, 0, 0),
  (yX12_readOf, cX12_readOf, 6, (some .int), 0, 2, 0, 0),
  (yX12_read, cX12_read, 3, (some .int), 0, 2, 0, 0),
  (yX12_feeds, cX12_feeds, 3, none, 0, 1, 0, 0),
  (yX12_feed, cX12_feed, 6, (some .int), 0, 5, 0, 0),
  (yX12_end, cX12_end, 2, (some .boolean), 0, 1, 0, 0),
  (yX12_between, cX12_between, 4, (some .boolean), 0, 3, 0, 0),
  (yX12_next, cX12_next, 1, none, 0, 0, 0, 0),
  (yX12_passes, cX12_passes, 2, (some .boolean), 0, 1, 0, 0),
  (yX12_isWord, cX12_isWord, 3, (some .boolean), 0, 1, 0, 0),
  (yX12_isSign, cX12_isSign, 2, (some .boolean), 0, 1, 0, 0),
  (yX12_nameHere, cX12_nameHere, 2, (some .int), 0, 0, 0, 0),
  (yX12_mark, cX12_mark, 2, none, 0, 1, 0, 0),
  (yX12_factor, cX12_factor, 4, (some .boolean), 0, 1, 0, 0),
  (yX12_product, cX12_product, 3, (some .boolean), 0, 1, 0, 0),
  (yX12_sum, cX12_sum, 3, (some .boolean), 0, 1, 0, 0)]
def am_mt_10 : List am_Q := [
  (yX12_whole, cX12_whole, 3, (some .boolean), 0, 1, 0, 0),
  (yX12_clause, cX12_clause, 2, (some .boolean), 0, 1, 0, 0),
  (yX12_newName, cX12_newName, 4, (some .long), 0, 0, 0, 0),
  (yX12_line, cX12_line, 3, (some .boolean), 0, 0, 0, 0),
  (yX12_reads, cX12_reads, 2, none, 0, 0, 0, 0),
  (yX12_fault, cX12_fault, 1, (some .int), 0, 0, 0, 0),
  (yX12_laws, cX12_laws, 2, (some .int), 0, 0, 0, 0),
  (yX12_brought, cX12_brought, 2, (some .int), 1, 1, 0, 0),
  (yX12_worked, cX12_worked, 9, (some .int), 0, 1, 0, 0),
  (yX12_isLaw, cX12_isLaw, 2, (some .boolean), 0, 1, 0, 0),
  (yX12_laysPlan, cX12_laysPlan, 3, none, 0, 1, 0, 0),
  (yX12_saysRow, cX12_saysRow, 8, none, 0, 2, 0, 0),
  (yX12_says, cX12_says, 5, (some .int), 0, 4, 0, 0),
  (yX12_outBy, cX12_outBy, 4, (some .int), 0, 1, 0, 0),
  (yX12_out, cX12_out, 4, (some .int), 0, 2, 0, 0),
  (yX12_leave, cX12_leave, 3, (some .boolean), 0, 2, 0, 0),
  (yX12_differenceOf, cX12_differenceOf, 8, (some .int), 0, 1, 0, 0),
  (yX12_difference, cX12_difference, 2, (some .int), 0, 1, 0, 0),
  (yX12_counts, cX12_counts, 5, none, 0, 2, 0, 0),
  (yX12_ofThousand, cX12_ofThousand, 1, (some .int), 0, 0, 0, 0)]
def am_mt_11 : List am_Q := [
  (yX12_odds, cX12_odds, 2, (some .int), 0, 1, 0, 0),
  (yX12_after, cX12_after, 16, (some .int), 0, 1, 0, 0),
  (yX12_leaving, cX12_leaving, 5, (some .int), 0, 1, 0, 0),
  (yX12_house, cX12_house, 6, (some .int), 0, 2, 0, 0),
  (yX12_joined, cX12_joined, 5, (some .int), 0, 1, 0, 0),
  (yX12_span, cX12_span, 6, (some .int), 0, 2, 0, 0),
  (yX12_spread, cX12_spread, 3, (some .boolean), 0, 2, 0, 0),
  (yX12_lot, cX12_lot, 2, (some .int), 0, 1, 0, 0),
  (yX12_draws, cX12_draws, 8, (some .int), 0, 2, 0, 0),
  (yX12_isLawOrNone, cX12_isLawOrNone, 2, (some .boolean), 0, 1, 0, 0),
  (yX12_world, cX12_world, 3, (some .int), 0, 2, 0, 0),
  (yX12_worlds, cX12_worlds, 8, (some .int), 0, 4, 0, 0),
  (yX12_signOf, cX12_signOf, 8, (some .int), 0, 2, 0, 0),
  (yX12_parts, cX12_parts, 5, (some .int), 0, 4, 0, 0),
  (yX12_rates, cX12_rates, 5, none, 0, 1, 0, 0),
  (yX12_rowsFrom, cX12_rowsFrom, 6, none, 0, 4, 0, 0),
  (yX12_next_, cX12_next_, 5, (some .int), 0, 3, 0, 0),
  (yX12_fresh, cX12_fresh, 8, (some .int), 0, 1, 0, 0),
  (yX12_settled, cX12_settled, 7, (some .int), 0, 1, 0, 0),
  (yX12_offOf, cX12_offOf, 6, (some .int), 0, 2, 0, 0)]
def am_mt_12 : List am_Q := [
  (yX12_offAll, cX12_offAll, 4, (some .int), 0, 1, 0, 0),
  (yX12_apart, cX12_apart, 3, (some .int), 0, 2, 0, 0),
  (yX12_nearest, cX12_nearest, 6, (some .int), 0, 1, 0, 0),
  (yX12_book, cX12_book, 4, (some .boolean), 0, 1, 1, 6),
  (yX12_leftMany, cX12_leftMany, 3, (some .int), 0, 0, 0, 0),
  (yX12_kept, cX12_kept, 2, (some .int), 0, 0, 0, 0),
  (yX12_move, cX12_move, 5, none, 0, 3, 0, 0),
  (yX12_moves, cX12_moves, 3, none, 0, 2, 0, 0),
  (yX12_image, cX12_image, 4, (some .boolean), 0, 1, 1, 7),
  (yX12_restore, cX12_restore, 2, (some .boolean), 0, 1, 0, 0),
  (yX12_count, cX12_count, 2, (some .int), 0, 1, 0, 0),
  (yJ6_compare_7cf53, cJ6_compare_7cf53, 2, (some .int), 1, 2, 0, 0),
  (yJ6_numberOfTrailingZeros_0f7a4, cJ6_numberOfTrailingZeros_0f7a4, 2, (some .int), 1, 1, 0, 0),
  (yJ6_bitCount_0f7a4, cJ6_bitCount_0f7a4, 1, (some .int), 1, 1, 0, 0),
  (yJ6_signum_0f7a4, cJ6_signum_0f7a4, 1, (some .int), 1, 1, 0, 0),
  (yJ0_length_8abf5, cJ0_length_8abf5, 1, (some .int), 0, 0, 0, 0),
  (yJ0_charAt_5068e, cJ0_charAt_5068e, 2, (some .char), 0, 1, 0, 0),
  (yJ0_coder_7d493, cJ0_coder_7d493, 1, (some .byte), 0, 0, 0, 0),
  (yJ0_isLatin1_aae02, cJ0_isLatin1_aae02, 1, (some .boolean), 0, 0, 0, 0),
  (yJ0_checkIndex_df160, cJ0_checkIndex_df160, 2, none, 1, 2, 0, 0)]
def am_mt_13 : List am_Q := [
  (yJ1_charAt_3b067, cJ1_charAt_3b067, 2, (some .char), 1, 2, 0, 0),
  (yJ3_checkIndex_8e157, cJ3_checkIndex_8e157, 3, (some .int), 1, 3, 0, 0),
  (yL_law, cL_law, 4, (some .boolean), 1, 1, 708928, 6975464)]
def am_mt : List am_Q := am_mt_0 ++ (am_mt_1 ++ (am_mt_2 ++ (am_mt_3 ++ (am_mt_4 ++ (am_mt_5 ++ (am_mt_6 ++ (am_mt_7 ++ (am_mt_8 ++ (am_mt_9 ++ (am_mt_10 ++ (am_mt_11 ++ (am_mt_12 ++ (am_mt_13)))))))))))))
def am_wc (q : am_Q) : Cond := .code q.1 q.2.1 q.2.2.1 q.2.2.2.1
def am_wk (q : am_Q) : Cond := if q.2.2.2.2.1 = 1 then .static q.1 else .instanceMethod q.1
def am_wi (q : am_Q) : Cond := .initialized q.1.cls
def am_wz (q : am_Q) : Cond := .selects q.1.cls q.1 q.1
def am_mok (q : am_Q) : Prop := am_wc q ∈ am_gt ∧ am_wi q ∈ am_gt ∧ am_wk q ∈ am_gt ∧ (q.2.2.2.2.1 = 0 → am_wz q ∈ am_gt) ∧ (plainName q.1.cls = true ∧ q.1.cls ≠ "java/lang/invoke/MethodHandle" ∧ q.1.cls ≠ "java/lang/invoke/VarHandle" ∧ (parseMethodDescriptor q.1.desc).map (fun d => d.parameters.length) = some q.2.2.2.2.2.1 ∧ q.2.2.1 ≤ 40 ∧ (q.2.2.2.2.1 = 2 → q.1.name = "<init>" ∧ q.2.2.2.1 = none))
set_option maxRecDepth 100000 in
theorem am_wc_0 : ∀ w ∈ am_mt_0.map am_wc, w ∈ am_gt := am_in_r _ [466, 1200, 1208, 411, 724, 1133, 1137, 1141, 1147, 1151, 367, 998, 1006, 1016, 1021, 1025, 1029, 1051, 1070, 1055] rfl (by decide +kernel)
set_option maxRecDepth 100000 in
theorem am_wi_0 : ∀ w ∈ am_mt_0.map am_wi, w ∈ am_gt := am_in_r _ [12, 12, 12, 11, 11, 11, 11, 11, 11, 11, 10, 10, 10, 10, 10, 10, 10, 10, 10, 10] (by decide +kernel) (by decide +kernel)
set_option maxRecDepth 100000 in
theorem am_wk_0 : ∀ w ∈ am_mt_0.map am_wk, w ∈ am_gt := am_in_r _ [465, 1198, 1206, 410, 722, 1131, 1136, 1140, 1146, 1150, 366, 996, 1005, 1014, 1020, 1024, 1028, 1049, 1068, 1054] (by decide +kernel) (by decide +kernel)
set_option maxRecDepth 100000 in
theorem am_wzp_0 : ∀ w ∈ [Cond.selects RX0 yX0_write yX0_write, Cond.selects RX0 yX0_broken yX0_broken, Cond.selects RX1 yX1_forget yX1_forget, Cond.selects RX1 yX1_find yX1_find, Cond.selects RX2 yX2_lookBack yX2_lookBack, Cond.selects RX2 yX2_fewestToLeave yX2_fewestToLeave, Cond.selects RX2 yX2_withoutEachHouse yX2_withoutEachHouse, Cond.selects RX2 yX2_leanAll yX2_leanAll], w ∈ am_gt := am_in_r _ [1199, 1207, 723, 1132, 997, 1015, 1050, 1069] (by decide +kernel) (by decide +kernel)
set_option maxRecDepth 100000 in
theorem am_wzs_0 : ∀ w ∈ [Cond.selects RX1 yX1_extend yX1_extend, Cond.selects RX1 yX1_place yX1_place, Cond.selects RX1 yX1_weigh yX1_weigh, Cond.selects RX1 yX1_partedCouples yX1_partedCouples, Cond.selects RX2 yX2_tryReadings yX2_tryReadings, Cond.selects RX2 yX2_oneToLeave yX2_oneToLeave, Cond.selects RX2 yX2_twoToLeave yX2_twoToLeave, Cond.selects RX2 yX2_threeToLeave yX2_threeToLeave, Cond.selects RX2 yX2_noticeNone yX2_noticeNone], w ∈ am_gt := am_in_s _ [29, 30, 31, 32, 21, 22, 23, 24, 25] (by decide +kernel) (by decide +kernel)
theorem am_mok_0 : am_mok (yX0_init, cX0_init, 1, none, 2, 0, 0, 0) := ⟨am_wc_0 _ (List.mem_of_getElem? (i := 0) rfl), am_wi_0 _ (List.mem_of_getElem? (i := 0) rfl), am_wk_0 _ (List.mem_of_getElem? (i := 0) rfl), fun h => absurd h (by decide), by decide +kernel⟩
theorem am_mok_1 : am_mok (yX0_write, cX0_write, 3, none, 0, 2, 0, 0) := ⟨am_wc_0 _ (List.mem_of_getElem? (i := 1) rfl), am_wi_0 _ (List.mem_of_getElem? (i := 1) rfl), am_wk_0 _ (List.mem_of_getElem? (i := 1) rfl), fun _ => am_wzp_0 _ (List.mem_of_getElem? (i := 0) rfl), by decide +kernel⟩
theorem am_mok_2 : am_mok (yX0_broken, cX0_broken, 3, (some .int), 0, 1, 0, 0) := ⟨am_wc_0 _ (List.mem_of_getElem? (i := 2) rfl), am_wi_0 _ (List.mem_of_getElem? (i := 2) rfl), am_wk_0 _ (List.mem_of_getElem? (i := 2) rfl), fun _ => am_wzp_0 _ (List.mem_of_getElem? (i := 1) rfl), by decide +kernel⟩
theorem am_mok_3 : am_mok (yX1_init, cX1_init, 4, none, 2, 3, 6, 85) := ⟨am_wc_0 _ (List.mem_of_getElem? (i := 3) rfl), am_wi_0 _ (List.mem_of_getElem? (i := 3) rfl), am_wk_0 _ (List.mem_of_getElem? (i := 3) rfl), fun h => absurd h (by decide), by decide +kernel⟩
theorem am_mok_4 : am_mok (yX1_forget, cX1_forget, 1, none, 0, 0, 0, 0) := ⟨am_wc_0 _ (List.mem_of_getElem? (i := 4) rfl), am_wi_0 _ (List.mem_of_getElem? (i := 4) rfl), am_wk_0 _ (List.mem_of_getElem? (i := 4) rfl), fun _ => am_wzp_0 _ (List.mem_of_getElem? (i := 2) rfl), by decide +kernel⟩
theorem am_mok_5 : am_mok (yX1_find, cX1_find, 4, none, 0, 2, 0, 0) := ⟨am_wc_0 _ (List.mem_of_getElem? (i := 5) rfl), am_wi_0 _ (List.mem_of_getElem? (i := 5) rfl), am_wk_0 _ (List.mem_of_getElem? (i := 5) rfl), fun _ => am_wzp_0 _ (List.mem_of_getElem? (i := 3) rfl), by decide +kernel⟩
theorem am_mok_6 : am_mok (yX1_extend, cX1_extend, 3, none, 0, 1, 0, 0) := ⟨am_wc_0 _ (List.mem_of_getElem? (i := 6) rfl), am_wi_0 _ (List.mem_of_getElem? (i := 6) rfl), am_wk_0 _ (List.mem_of_getElem? (i := 6) rfl), fun _ => am_wzs_0 _ (List.mem_of_getElem? (i := 0) rfl), by decide +kernel⟩
theorem am_mok_7 : am_mok (yX1_place, cX1_place, 8, none, 0, 2, 0, 0) := ⟨am_wc_0 _ (List.mem_of_getElem? (i := 7) rfl), am_wi_0 _ (List.mem_of_getElem? (i := 7) rfl), am_wk_0 _ (List.mem_of_getElem? (i := 7) rfl), fun _ => am_wzs_0 _ (List.mem_of_getElem? (i := 1) rfl), by decide +kernel⟩
theorem am_mok_8 : am_mok (yX1_weigh, cX1_weigh, 2, none, 0, 0, 0, 0) := ⟨am_wc_0 _ (List.mem_of_getElem? (i := 8) rfl), am_wi_0 _ (List.mem_of_getElem? (i := 8) rfl), am_wk_0 _ (List.mem_of_getElem? (i := 8) rfl), fun _ => am_wzs_0 _ (List.mem_of_getElem? (i := 2) rfl), by decide +kernel⟩
theorem am_mok_9 : am_mok (yX1_partedCouples, cX1_partedCouples, 7, (some .int), 0, 0, 0, 0) := ⟨am_wc_0 _ (List.mem_of_getElem? (i := 9) rfl), am_wi_0 _ (List.mem_of_getElem? (i := 9) rfl), am_wk_0 _ (List.mem_of_getElem? (i := 9) rfl), fun _ => am_wzs_0 _ (List.mem_of_getElem? (i := 3) rfl), by decide +kernel⟩
theorem am_mok_10 : am_mok (yX2_init, cX2_init, 3, none, 2, 2, 0, 0) := ⟨am_wc_0 _ (List.mem_of_getElem? (i := 10) rfl), am_wi_0 _ (List.mem_of_getElem? (i := 10) rfl), am_wk_0 _ (List.mem_of_getElem? (i := 10) rfl), fun h => absurd h (by decide), by decide +kernel⟩
theorem am_mok_11 : am_mok (yX2_lookBack, cX2_lookBack, 6, none, 0, 0, 0, 0) := ⟨am_wc_0 _ (List.mem_of_getElem? (i := 11) rfl), am_wi_0 _ (List.mem_of_getElem? (i := 11) rfl), am_wk_0 _ (List.mem_of_getElem? (i := 11) rfl), fun _ => am_wzp_0 _ (List.mem_of_getElem? (i := 4) rfl), by decide +kernel⟩
theorem am_mok_12 : am_mok (yX2_tryReadings, cX2_tryReadings, 5, none, 0, 0, 0, 0) := ⟨am_wc_0 _ (List.mem_of_getElem? (i := 12) rfl), am_wi_0 _ (List.mem_of_getElem? (i := 12) rfl), am_wk_0 _ (List.mem_of_getElem? (i := 12) rfl), fun _ => am_wzs_0 _ (List.mem_of_getElem? (i := 4) rfl), by decide +kernel⟩
theorem am_mok_13 : am_mok (yX2_fewestToLeave, cX2_fewestToLeave, 3, (some .int), 0, 1, 0, 0) := ⟨am_wc_0 _ (List.mem_of_getElem? (i := 13) rfl), am_wi_0 _ (List.mem_of_getElem? (i := 13) rfl), am_wk_0 _ (List.mem_of_getElem? (i := 13) rfl), fun _ => am_wzp_0 _ (List.mem_of_getElem? (i := 5) rfl), by decide +kernel⟩
theorem am_mok_14 : am_mok (yX2_oneToLeave, cX2_oneToLeave, 4, (some .int), 0, 1, 0, 0) := ⟨am_wc_0 _ (List.mem_of_getElem? (i := 14) rfl), am_wi_0 _ (List.mem_of_getElem? (i := 14) rfl), am_wk_0 _ (List.mem_of_getElem? (i := 14) rfl), fun _ => am_wzs_0 _ (List.mem_of_getElem? (i := 5) rfl), by decide +kernel⟩
theorem am_mok_15 : am_mok (yX2_twoToLeave, cX2_twoToLeave, 5, (some .int), 0, 1, 0, 0) := ⟨am_wc_0 _ (List.mem_of_getElem? (i := 15) rfl), am_wi_0 _ (List.mem_of_getElem? (i := 15) rfl), am_wk_0 _ (List.mem_of_getElem? (i := 15) rfl), fun _ => am_wzs_0 _ (List.mem_of_getElem? (i := 6) rfl), by decide +kernel⟩
theorem am_mok_16 : am_mok (yX2_threeToLeave, cX2_threeToLeave, 6, (some .int), 0, 1, 0, 0) := ⟨am_wc_0 _ (List.mem_of_getElem? (i := 16) rfl), am_wi_0 _ (List.mem_of_getElem? (i := 16) rfl), am_wk_0 _ (List.mem_of_getElem? (i := 16) rfl), fun _ => am_wzs_0 _ (List.mem_of_getElem? (i := 7) rfl), by decide +kernel⟩
theorem am_mok_17 : am_mok (yX2_withoutEachHouse, cX2_withoutEachHouse, 3, none, 0, 0, 0, 0) := ⟨am_wc_0 _ (List.mem_of_getElem? (i := 17) rfl), am_wi_0 _ (List.mem_of_getElem? (i := 17) rfl), am_wk_0 _ (List.mem_of_getElem? (i := 17) rfl), fun _ => am_wzp_0 _ (List.mem_of_getElem? (i := 6) rfl), by decide +kernel⟩
theorem am_mok_18 : am_mok (yX2_leanAll, cX2_leanAll, 4, none, 0, 1, 0, 0) := ⟨am_wc_0 _ (List.mem_of_getElem? (i := 18) rfl), am_wi_0 _ (List.mem_of_getElem? (i := 18) rfl), am_wk_0 _ (List.mem_of_getElem? (i := 18) rfl), fun _ => am_wzp_0 _ (List.mem_of_getElem? (i := 7) rfl), by decide +kernel⟩
theorem am_mok_19 : am_mok (yX2_noticeNone, cX2_noticeNone, 1, none, 0, 0, 0, 0) := ⟨am_wc_0 _ (List.mem_of_getElem? (i := 19) rfl), am_wi_0 _ (List.mem_of_getElem? (i := 19) rfl), am_wk_0 _ (List.mem_of_getElem? (i := 19) rfl), fun _ => am_wzs_0 _ (List.mem_of_getElem? (i := 8) rfl), by decide +kernel⟩
set_option maxRecDepth 100000 in
theorem am_wc_1 : ∀ w ∈ am_mt_1.map am_wc, w ∈ am_gt := am_in_r _ [1060, 172, 1109, 809, 772, 1212, 797, 813, 854, 817, 1087, 849, 295, 845, 841, 872, 927, 878, 881, 943] rfl (by decide +kernel)
set_option maxRecDepth 100000 in
theorem am_wi_1 : ∀ w ∈ am_mt_1.map am_wi, w ∈ am_gt := am_in_r _ [10, 6, 6, 6, 6, 6, 6, 6, 6, 6, 6, 6, 8, 8, 8, 8, 8, 8, 8, 8] (by decide +kernel) (by decide +kernel)
set_option maxRecDepth 100000 in
theorem am_wk_1 : ∀ w ∈ am_mt_1.map am_wk, w ∈ am_gt := am_in_r _ [1059, 171, 1107, 807, 770, 1210, 795, 811, 852, 815, 1085, 847, 294, 843, 839, 870, 925, 876, 880, 941] (by decide +kernel) (by decide +kernel)
set_option maxRecDepth 100000 in
theorem am_wzp_1 : ∀ w ∈ [Cond.selects RX3 yX3_take yX3_take, Cond.selects RX3 yX3_hasBaby yX3_hasBaby, Cond.selects RX3 yX3_usesPlan yX3_usesPlan, Cond.selects RX3 yX3_leftCount yX3_leftCount, Cond.selects RX3 yX3_addBaby yX3_addBaby, Cond.selects RX3 yX3_gazeSize yX3_gazeSize, Cond.selects RX3 yX3_gazeAt yX3_gazeAt, Cond.selects RX3 yX3_addLength yX3_addLength, Cond.selects RX3 yX3_clearGazes yX3_clearGazes, Cond.selects RX3 yX3_isCrying yX3_isCrying, Cond.selects RX4 yX4_bareLength yX4_bareLength, Cond.selects RX4 yX4_leanedLength yX4_leanedLength, Cond.selects RX4 yX4_measure yX4_measure, Cond.selects RX4 yX4_clauseAgainst yX4_clauseAgainst, Cond.selects RX4 yX4_readingAt yX4_readingAt, Cond.selects RX4 yX4_differenceOf yX4_differenceOf], w ∈ am_gt := am_in_r _ [1108, 808, 771, 1211, 796, 812, 853, 816, 1086, 848, 844, 840, 871, 926, 877, 942] (by decide +kernel) (by decide +kernel)
set_option maxRecDepth 100000 in
theorem am_wzs_1 : ∀ w ∈ [Cond.selects RX2 yX2_notice yX2_notice], w ∈ am_gt := am_in_s _ [26] (by decide +kernel) (by decide +kernel)
theorem am_mok_20 : am_mok (yX2_notice, cX2_notice, 2, none, 0, 1, 0, 0) := ⟨am_wc_1 _ (List.mem_of_getElem? (i := 0) rfl), am_wi_1 _ (List.mem_of_getElem? (i := 0) rfl), am_wk_1 _ (List.mem_of_getElem? (i := 0) rfl), fun _ => am_wzs_1 _ (List.mem_of_getElem? (i := 0) rfl), by decide +kernel⟩
theorem am_mok_21 : am_mok (yX3_init, cX3_init, 1, none, 2, 0, 7, 1232) := ⟨am_wc_1 _ (List.mem_of_getElem? (i := 1) rfl), am_wi_1 _ (List.mem_of_getElem? (i := 1) rfl), am_wk_1 _ (List.mem_of_getElem? (i := 1) rfl), fun h => absurd h (by decide), by decide +kernel⟩
theorem am_mok_22 : am_mok (yX3_take, cX3_take, 3, none, 0, 1, 0, 0) := ⟨am_wc_1 _ (List.mem_of_getElem? (i := 2) rfl), am_wi_1 _ (List.mem_of_getElem? (i := 2) rfl), am_wk_1 _ (List.mem_of_getElem? (i := 2) rfl), fun _ => am_wzp_1 _ (List.mem_of_getElem? (i := 0) rfl), by decide +kernel⟩
theorem am_mok_23 : am_mok (yX3_hasBaby, cX3_hasBaby, 2, (some .boolean), 0, 1, 0, 0) := ⟨am_wc_1 _ (List.mem_of_getElem? (i := 3) rfl), am_wi_1 _ (List.mem_of_getElem? (i := 3) rfl), am_wk_1 _ (List.mem_of_getElem? (i := 3) rfl), fun _ => am_wzp_1 _ (List.mem_of_getElem? (i := 1) rfl), by decide +kernel⟩
theorem am_mok_24 : am_mok (yX3_usesPlan, cX3_usesPlan, 3, (some .boolean), 0, 1, 0, 0) := ⟨am_wc_1 _ (List.mem_of_getElem? (i := 4) rfl), am_wi_1 _ (List.mem_of_getElem? (i := 4) rfl), am_wk_1 _ (List.mem_of_getElem? (i := 4) rfl), fun _ => am_wzp_1 _ (List.mem_of_getElem? (i := 2) rfl), by decide +kernel⟩
theorem am_mok_25 : am_mok (yX3_leftCount, cX3_leftCount, 3, (some .int), 0, 0, 0, 0) := ⟨am_wc_1 _ (List.mem_of_getElem? (i := 5) rfl), am_wi_1 _ (List.mem_of_getElem? (i := 5) rfl), am_wk_1 _ (List.mem_of_getElem? (i := 5) rfl), fun _ => am_wzp_1 _ (List.mem_of_getElem? (i := 3) rfl), by decide +kernel⟩
theorem am_mok_26 : am_mok (yX3_addBaby, cX3_addBaby, 5, (some .int), 0, 3, 0, 0) := ⟨am_wc_1 _ (List.mem_of_getElem? (i := 6) rfl), am_wi_1 _ (List.mem_of_getElem? (i := 6) rfl), am_wk_1 _ (List.mem_of_getElem? (i := 6) rfl), fun _ => am_wzp_1 _ (List.mem_of_getElem? (i := 4) rfl), by decide +kernel⟩
theorem am_mok_27 : am_mok (yX3_gazeSize, cX3_gazeSize, 3, (some .int), 0, 2, 0, 0) := ⟨am_wc_1 _ (List.mem_of_getElem? (i := 7) rfl), am_wi_1 _ (List.mem_of_getElem? (i := 7) rfl), am_wk_1 _ (List.mem_of_getElem? (i := 7) rfl), fun _ => am_wzp_1 _ (List.mem_of_getElem? (i := 5) rfl), by decide +kernel⟩
theorem am_mok_28 : am_mok (yX3_gazeAt, cX3_gazeAt, 4, (some .int), 0, 3, 0, 0) := ⟨am_wc_1 _ (List.mem_of_getElem? (i := 8) rfl), am_wi_1 _ (List.mem_of_getElem? (i := 8) rfl), am_wk_1 _ (List.mem_of_getElem? (i := 8) rfl), fun _ => am_wzp_1 _ (List.mem_of_getElem? (i := 6) rfl), by decide +kernel⟩
theorem am_mok_29 : am_mok (yX3_addLength, cX3_addLength, 5, (some .int), 0, 3, 0, 0) := ⟨am_wc_1 _ (List.mem_of_getElem? (i := 9) rfl), am_wi_1 _ (List.mem_of_getElem? (i := 9) rfl), am_wk_1 _ (List.mem_of_getElem? (i := 9) rfl), fun _ => am_wzp_1 _ (List.mem_of_getElem? (i := 7) rfl), by decide +kernel⟩
theorem am_mok_30 : am_mok (yX3_clearGazes, cX3_clearGazes, 2, none, 0, 0, 0, 0) := ⟨am_wc_1 _ (List.mem_of_getElem? (i := 10) rfl), am_wi_1 _ (List.mem_of_getElem? (i := 10) rfl), am_wk_1 _ (List.mem_of_getElem? (i := 10) rfl), fun _ => am_wzp_1 _ (List.mem_of_getElem? (i := 8) rfl), by decide +kernel⟩
theorem am_mok_31 : am_mok (yX3_isCrying, cX3_isCrying, 3, (some .boolean), 0, 2, 0, 0) := ⟨am_wc_1 _ (List.mem_of_getElem? (i := 11) rfl), am_wi_1 _ (List.mem_of_getElem? (i := 11) rfl), am_wk_1 _ (List.mem_of_getElem? (i := 11) rfl), fun _ => am_wzp_1 _ (List.mem_of_getElem? (i := 9) rfl), by decide +kernel⟩
theorem am_mok_32 : am_mok (yX4_init, cX4_init, 4, none, 2, 3, 2, 20) := ⟨am_wc_1 _ (List.mem_of_getElem? (i := 12) rfl), am_wi_1 _ (List.mem_of_getElem? (i := 12) rfl), am_wk_1 _ (List.mem_of_getElem? (i := 12) rfl), fun h => absurd h (by decide), by decide +kernel⟩
theorem am_mok_33 : am_mok (yX4_bareLength, cX4_bareLength, 8, (some .int), 0, 2, 0, 0) := ⟨am_wc_1 _ (List.mem_of_getElem? (i := 13) rfl), am_wi_1 _ (List.mem_of_getElem? (i := 13) rfl), am_wk_1 _ (List.mem_of_getElem? (i := 13) rfl), fun _ => am_wzp_1 _ (List.mem_of_getElem? (i := 10) rfl), by decide +kernel⟩
theorem am_mok_34 : am_mok (yX4_leanedLength, cX4_leanedLength, 4, (some .int), 0, 2, 0, 0) := ⟨am_wc_1 _ (List.mem_of_getElem? (i := 14) rfl), am_wi_1 _ (List.mem_of_getElem? (i := 14) rfl), am_wk_1 _ (List.mem_of_getElem? (i := 14) rfl), fun _ => am_wzp_1 _ (List.mem_of_getElem? (i := 11) rfl), by decide +kernel⟩
theorem am_mok_35 : am_mok (yX4_measure, cX4_measure, 4, none, 0, 1, 0, 0) := ⟨am_wc_1 _ (List.mem_of_getElem? (i := 15) rfl), am_wi_1 _ (List.mem_of_getElem? (i := 15) rfl), am_wk_1 _ (List.mem_of_getElem? (i := 15) rfl), fun _ => am_wzp_1 _ (List.mem_of_getElem? (i := 12) rfl), by decide +kernel⟩
theorem am_mok_36 : am_mok (yX4_clauseAgainst, cX4_clauseAgainst, 2, (some .int), 0, 1, 0, 0) := ⟨am_wc_1 _ (List.mem_of_getElem? (i := 16) rfl), am_wi_1 _ (List.mem_of_getElem? (i := 16) rfl), am_wk_1 _ (List.mem_of_getElem? (i := 16) rfl), fun _ => am_wzp_1 _ (List.mem_of_getElem? (i := 13) rfl), by decide +kernel⟩
theorem am_mok_37 : am_mok (yX4_readingAt, cX4_readingAt, 3, (some .int), 0, 1, 0, 0) := ⟨am_wc_1 _ (List.mem_of_getElem? (i := 17) rfl), am_wi_1 _ (List.mem_of_getElem? (i := 17) rfl), am_wk_1 _ (List.mem_of_getElem? (i := 17) rfl), fun _ => am_wzp_1 _ (List.mem_of_getElem? (i := 14) rfl), by decide +kernel⟩
theorem am_mok_38 : am_mok (yX4_digits, cX4_digits, 3, (some .int), 1, 1, 0, 0) := ⟨am_wc_1 _ (List.mem_of_getElem? (i := 18) rfl), am_wi_1 _ (List.mem_of_getElem? (i := 18) rfl), am_wk_1 _ (List.mem_of_getElem? (i := 18) rfl), fun h => absurd h (by decide), by decide +kernel⟩
theorem am_mok_39 : am_mok (yX4_differenceOf, cX4_differenceOf, 8, (some .int), 0, 1, 0, 0) := ⟨am_wc_1 _ (List.mem_of_getElem? (i := 19) rfl), am_wi_1 _ (List.mem_of_getElem? (i := 19) rfl), am_wk_1 _ (List.mem_of_getElem? (i := 19) rfl), fun _ => am_wzp_1 _ (List.mem_of_getElem? (i := 15) rfl), by decide +kernel⟩
set_option maxRecDepth 100000 in
theorem am_wc_2 : ∀ w ∈ am_mt_2.map am_wc, w ∈ am_gt := am_in_r _ [1172, 1161, 329, 953, 961, 1037, 965, 969, 990, 973, 977, 981, 985, 60, 565, 662, 680, 666, 684, 688] rfl (by decide +kernel)
set_option maxRecDepth 100000 in
theorem am_wi_2 : ∀ w ∈ am_mt_2.map am_wi, w ∈ am_gt := am_in_r _ [8, 8, 9, 9, 9, 9, 9, 9, 9, 9, 9, 9, 9, 3, 3, 3, 3, 3, 3, 3] (by decide +kernel) (by decide +kernel)
set_option maxRecDepth 100000 in
theorem am_wk_2 : ∀ w ∈ am_mt_2.map am_wk, w ∈ am_gt := am_in_r _ [1170, 1159, 328, 951, 959, 1035, 963, 967, 988, 972, 976, 980, 984, 59, 563, 661, 679, 665, 683, 687] (by decide +kernel) (by decide +kernel)
set_option maxRecDepth 100000 in
theorem am_wzp_2 : ∀ w ∈ [Cond.selects RX4 yX4_settledAt yX4_settledAt, Cond.selects RX4 yX4_meanFresh yX4_meanFresh, Cond.selects RX5 yX5_countAll yX5_countAll, Cond.selects RX5 yX5_allBits yX5_allBits, Cond.selects RX5 yX5_houseBits yX5_houseBits, Cond.selects RX5 yX5_sumOf yX5_sumOf, Cond.selects RX5 yX5_waysWithout yX5_waysWithout, Cond.selects RX5 yX5_thousandWithout yX5_thousandWithout, Cond.selects RX6 yX6_findFault yX6_findFault], w ∈ am_gt := am_in_r _ [1171, 1160, 952, 960, 1036, 964, 968, 989, 564] (by decide +kernel) (by decide +kernel)
set_option maxRecDepth 100000 in
theorem am_wzs_2 : ∀ w ∈ [Cond.selects RX5 yX5_choose yX5_choose, Cond.selects RX5 yX5_waysOf yX5_waysOf, Cond.selects RX5 yX5_gather yX5_gather, Cond.selects RX5 yX5_addValue yX5_addValue, Cond.selects RX6 yX6_parseLine yX6_parseLine, Cond.selects RX6 yX6_parseToken yX6_parseToken, Cond.selects RX6 yX6_parseNewName yX6_parseNewName, Cond.selects RX6 yX6_parseExpression yX6_parseExpression, Cond.selects RX6 yX6_parseSum yX6_parseSum], w ∈ am_gt := am_in_s _ [17, 18, 19, 20, 8, 10, 9, 11, 12] (by decide +kernel) (by decide +kernel)
theorem am_mok_40 : am_mok (yX4_settledAt, cX4_settledAt, 3, (some .int), 0, 0, 0, 0) := ⟨am_wc_2 _ (List.mem_of_getElem? (i := 0) rfl), am_wi_2 _ (List.mem_of_getElem? (i := 0) rfl), am_wk_2 _ (List.mem_of_getElem? (i := 0) rfl), fun _ => am_wzp_2 _ (List.mem_of_getElem? (i := 0) rfl), by decide +kernel⟩
theorem am_mok_41 : am_mok (yX4_meanFresh, cX4_meanFresh, 7, (some .int), 0, 1, 0, 0) := ⟨am_wc_2 _ (List.mem_of_getElem? (i := 1) rfl), am_wi_2 _ (List.mem_of_getElem? (i := 1) rfl), am_wk_2 _ (List.mem_of_getElem? (i := 1) rfl), fun _ => am_wzp_2 _ (List.mem_of_getElem? (i := 1) rfl), by decide +kernel⟩
theorem am_mok_42 : am_mok (yX5_init, cX5_init, 3, none, 2, 2, 6, 816) := ⟨am_wc_2 _ (List.mem_of_getElem? (i := 2) rfl), am_wi_2 _ (List.mem_of_getElem? (i := 2) rfl), am_wk_2 _ (List.mem_of_getElem? (i := 2) rfl), fun h => absurd h (by decide), by decide +kernel⟩
theorem am_mok_43 : am_mok (yX5_countAll, cX5_countAll, 3, none, 0, 0, 0, 0) := ⟨am_wc_2 _ (List.mem_of_getElem? (i := 3) rfl), am_wi_2 _ (List.mem_of_getElem? (i := 3) rfl), am_wk_2 _ (List.mem_of_getElem? (i := 3) rfl), fun _ => am_wzp_2 _ (List.mem_of_getElem? (i := 2) rfl), by decide +kernel⟩
theorem am_mok_44 : am_mok (yX5_allBits, cX5_allBits, 3, (some .int), 0, 0, 0, 0) := ⟨am_wc_2 _ (List.mem_of_getElem? (i := 4) rfl), am_wi_2 _ (List.mem_of_getElem? (i := 4) rfl), am_wk_2 _ (List.mem_of_getElem? (i := 4) rfl), fun _ => am_wzp_2 _ (List.mem_of_getElem? (i := 3) rfl), by decide +kernel⟩
theorem am_mok_45 : am_mok (yX5_houseBits, cX5_houseBits, 4, (some .int), 0, 1, 0, 0) := ⟨am_wc_2 _ (List.mem_of_getElem? (i := 5) rfl), am_wi_2 _ (List.mem_of_getElem? (i := 5) rfl), am_wk_2 _ (List.mem_of_getElem? (i := 5) rfl), fun _ => am_wzp_2 _ (List.mem_of_getElem? (i := 4) rfl), by decide +kernel⟩
theorem am_mok_46 : am_mok (yX5_sumOf, cX5_sumOf, 4, (some .int), 0, 1, 0, 0) := ⟨am_wc_2 _ (List.mem_of_getElem? (i := 6) rfl), am_wi_2 _ (List.mem_of_getElem? (i := 6) rfl), am_wk_2 _ (List.mem_of_getElem? (i := 6) rfl), fun _ => am_wzp_2 _ (List.mem_of_getElem? (i := 5) rfl), by decide +kernel⟩
theorem am_mok_47 : am_mok (yX5_waysWithout, cX5_waysWithout, 2, (some .int), 0, 1, 0, 0) := ⟨am_wc_2 _ (List.mem_of_getElem? (i := 7) rfl), am_wi_2 _ (List.mem_of_getElem? (i := 7) rfl), am_wk_2 _ (List.mem_of_getElem? (i := 7) rfl), fun _ => am_wzp_2 _ (List.mem_of_getElem? (i := 6) rfl), by decide +kernel⟩
theorem am_mok_48 : am_mok (yX5_thousandWithout, cX5_thousandWithout, 3, (some .int), 0, 1, 0, 0) := ⟨am_wc_2 _ (List.mem_of_getElem? (i := 8) rfl), am_wi_2 _ (List.mem_of_getElem? (i := 8) rfl), am_wk_2 _ (List.mem_of_getElem? (i := 8) rfl), fun _ => am_wzp_2 _ (List.mem_of_getElem? (i := 7) rfl), by decide +kernel⟩
theorem am_mok_49 : am_mok (yX5_choose, cX5_choose, 4, (some .int), 0, 1, 0, 0) := ⟨am_wc_2 _ (List.mem_of_getElem? (i := 9) rfl), am_wi_2 _ (List.mem_of_getElem? (i := 9) rfl), am_wk_2 _ (List.mem_of_getElem? (i := 9) rfl), fun _ => am_wzs_2 _ (List.mem_of_getElem? (i := 0) rfl), by decide +kernel⟩
theorem am_mok_50 : am_mok (yX5_waysOf, cX5_waysOf, 8, (some .int), 0, 1, 0, 0) := ⟨am_wc_2 _ (List.mem_of_getElem? (i := 10) rfl), am_wi_2 _ (List.mem_of_getElem? (i := 10) rfl), am_wk_2 _ (List.mem_of_getElem? (i := 10) rfl), fun _ => am_wzs_2 _ (List.mem_of_getElem? (i := 1) rfl), by decide +kernel⟩
theorem am_mok_51 : am_mok (yX5_gather, cX5_gather, 6, (some .int), 0, 3, 0, 0) := ⟨am_wc_2 _ (List.mem_of_getElem? (i := 11) rfl), am_wi_2 _ (List.mem_of_getElem? (i := 11) rfl), am_wk_2 _ (List.mem_of_getElem? (i := 11) rfl), fun _ => am_wzs_2 _ (List.mem_of_getElem? (i := 2) rfl), by decide +kernel⟩
theorem am_mok_52 : am_mok (yX5_addValue, cX5_addValue, 7, none, 0, 3, 0, 0) := ⟨am_wc_2 _ (List.mem_of_getElem? (i := 12) rfl), am_wi_2 _ (List.mem_of_getElem? (i := 12) rfl), am_wk_2 _ (List.mem_of_getElem? (i := 12) rfl), fun _ => am_wzs_2 _ (List.mem_of_getElem? (i := 3) rfl), by decide +kernel⟩
theorem am_mok_53 : am_mok (yX6_init, cX6_init, 2, none, 2, 1, 8, 599) := ⟨am_wc_2 _ (List.mem_of_getElem? (i := 13) rfl), am_wi_2 _ (List.mem_of_getElem? (i := 13) rfl), am_wk_2 _ (List.mem_of_getElem? (i := 13) rfl), fun h => absurd h (by decide), by decide +kernel⟩
theorem am_mok_54 : am_mok (yX6_findFault, cX6_findFault, 2, (some .int), 0, 0, 0, 0) := ⟨am_wc_2 _ (List.mem_of_getElem? (i := 14) rfl), am_wi_2 _ (List.mem_of_getElem? (i := 14) rfl), am_wk_2 _ (List.mem_of_getElem? (i := 14) rfl), fun _ => am_wzp_2 _ (List.mem_of_getElem? (i := 8) rfl), by decide +kernel⟩
theorem am_mok_55 : am_mok (yX6_parseLine, cX6_parseLine, 3, (some .boolean), 0, 0, 0, 0) := ⟨am_wc_2 _ (List.mem_of_getElem? (i := 15) rfl), am_wi_2 _ (List.mem_of_getElem? (i := 15) rfl), am_wk_2 _ (List.mem_of_getElem? (i := 15) rfl), fun _ => am_wzs_2 _ (List.mem_of_getElem? (i := 4) rfl), by decide +kernel⟩
theorem am_mok_56 : am_mok (yX6_parseToken, cX6_parseToken, 2, (some .boolean), 0, 1, 0, 0) := ⟨am_wc_2 _ (List.mem_of_getElem? (i := 16) rfl), am_wi_2 _ (List.mem_of_getElem? (i := 16) rfl), am_wk_2 _ (List.mem_of_getElem? (i := 16) rfl), fun _ => am_wzs_2 _ (List.mem_of_getElem? (i := 5) rfl), by decide +kernel⟩
theorem am_mok_57 : am_mok (yX6_parseNewName, cX6_parseNewName, 2, (some .boolean), 0, 0, 0, 0) := ⟨am_wc_2 _ (List.mem_of_getElem? (i := 17) rfl), am_wi_2 _ (List.mem_of_getElem? (i := 17) rfl), am_wk_2 _ (List.mem_of_getElem? (i := 17) rfl), fun _ => am_wzs_2 _ (List.mem_of_getElem? (i := 6) rfl), by decide +kernel⟩
theorem am_mok_58 : am_mok (yX6_parseExpression, cX6_parseExpression, 3, (some .boolean), 0, 1, 0, 0) := ⟨am_wc_2 _ (List.mem_of_getElem? (i := 18) rfl), am_wi_2 _ (List.mem_of_getElem? (i := 18) rfl), am_wk_2 _ (List.mem_of_getElem? (i := 18) rfl), fun _ => am_wzs_2 _ (List.mem_of_getElem? (i := 7) rfl), by decide +kernel⟩
theorem am_mok_59 : am_mok (yX6_parseSum, cX6_parseSum, 4, (some .boolean), 0, 1, 0, 0) := ⟨am_wc_2 _ (List.mem_of_getElem? (i := 19) rfl), am_wi_2 _ (List.mem_of_getElem? (i := 19) rfl), am_wk_2 _ (List.mem_of_getElem? (i := 19) rfl), fun _ => am_wzs_2 _ (List.mem_of_getElem? (i := 8) rfl), by decide +kernel⟩
set_option maxRecDepth 100000 in
theorem am_wc_3 : ∀ w ∈ am_mt_3.map am_wc, w ∈ am_gt := am_in_r _ [692, 696, 66, 650, 717, 889, 700, 704, 708, 906, 931, 911, 914, 122, 747, 768, 784, 752, 789, 739] rfl (by decide +kernel)
set_option maxRecDepth 100000 in
theorem am_wi_3 : ∀ w ∈ am_mt_3.map am_wi, w ∈ am_gt := am_in_r _ [3, 3, 4, 4, 4, 4, 4, 4, 4, 4, 4, 4, 4, 5, 5, 5, 5, 5, 5, 5] (by decide +kernel) (by decide +kernel)
set_option maxRecDepth 100000 in
theorem am_wk_3 : ∀ w ∈ am_mt_3.map am_wk, w ∈ am_gt := am_in_r _ [691, 695, 65, 648, 715, 887, 698, 702, 706, 904, 929, 910, 913, 121, 745, 766, 782, 750, 787, 737] (by decide +kernel) (by decide +kernel)
set_option maxRecDepth 100000 in
theorem am_wzp_3 : ∀ w ∈ [Cond.selects RX7 yX7_empty yX7_empty, Cond.selects RX7 yX7_take yX7_take, Cond.selects RX7 yX7_hasLaw yX7_hasLaw, Cond.selects RX7 yX7_emit yX7_emit, Cond.selects RX7 yX7_addLaw yX7_addLaw, Cond.selects RX7 yX7_addClause yX7_addClause, Cond.selects RX7 yX7_workLaw yX7_workLaw, Cond.selects RX7 yX7_firstClause yX7_firstClause, Cond.selects RX8 yX8_hasScreen yX8_hasScreen, Cond.selects RX8 yX8_hasPlan yX8_hasPlan, Cond.selects RX8 yX8_hasTrial yX8_hasTrial, Cond.selects RX8 yX8_isOdd yX8_isOdd, Cond.selects RX8 yX8_screenOf yX8_screenOf, Cond.selects RX8 yX8_addScreen yX8_addScreen], w ∈ am_gt := am_in_r _ [649, 716, 888, 699, 703, 707, 905, 930, 746, 767, 783, 751, 788, 738] (by decide +kernel) (by decide +kernel)
set_option maxRecDepth 100000 in
theorem am_wzs_3 : ∀ w ∈ [Cond.selects RX6 yX6_parseProduct yX6_parseProduct, Cond.selects RX6 yX6_parseFactor yX6_parseFactor, Cond.selects RX7 yX7_work yX7_work], w ∈ am_gt := am_in_s _ [13, 14, 16] (by decide +kernel) (by decide +kernel)
theorem am_mok_60 : am_mok (yX6_parseProduct, cX6_parseProduct, 4, (some .boolean), 0, 1, 0, 0) := ⟨am_wc_3 _ (List.mem_of_getElem? (i := 0) rfl), am_wi_3 _ (List.mem_of_getElem? (i := 0) rfl), am_wk_3 _ (List.mem_of_getElem? (i := 0) rfl), fun _ => am_wzs_3 _ (List.mem_of_getElem? (i := 0) rfl), by decide +kernel⟩
theorem am_mok_61 : am_mok (yX6_parseFactor, cX6_parseFactor, 3, (some .boolean), 0, 1, 0, 0) := ⟨am_wc_3 _ (List.mem_of_getElem? (i := 1) rfl), am_wi_3 _ (List.mem_of_getElem? (i := 1) rfl), am_wk_3 _ (List.mem_of_getElem? (i := 1) rfl), fun _ => am_wzs_3 _ (List.mem_of_getElem? (i := 1) rfl), by decide +kernel⟩
theorem am_mok_62 : am_mok (yX7_init, cX7_init, 1, none, 2, 0, 6, 584) := ⟨am_wc_3 _ (List.mem_of_getElem? (i := 2) rfl), am_wi_3 _ (List.mem_of_getElem? (i := 2) rfl), am_wk_3 _ (List.mem_of_getElem? (i := 2) rfl), fun h => absurd h (by decide), by decide +kernel⟩
theorem am_mok_63 : am_mok (yX7_empty, cX7_empty, 1, none, 0, 0, 0, 0) := ⟨am_wc_3 _ (List.mem_of_getElem? (i := 3) rfl), am_wi_3 _ (List.mem_of_getElem? (i := 3) rfl), am_wk_3 _ (List.mem_of_getElem? (i := 3) rfl), fun _ => am_wzp_3 _ (List.mem_of_getElem? (i := 0) rfl), by decide +kernel⟩
theorem am_mok_64 : am_mok (yX7_take, cX7_take, 2, none, 0, 1, 0, 0) := ⟨am_wc_3 _ (List.mem_of_getElem? (i := 4) rfl), am_wi_3 _ (List.mem_of_getElem? (i := 4) rfl), am_wk_3 _ (List.mem_of_getElem? (i := 4) rfl), fun _ => am_wzp_3 _ (List.mem_of_getElem? (i := 1) rfl), by decide +kernel⟩
theorem am_mok_65 : am_mok (yX7_hasLaw, cX7_hasLaw, 2, (some .boolean), 0, 1, 0, 0) := ⟨am_wc_3 _ (List.mem_of_getElem? (i := 5) rfl), am_wi_3 _ (List.mem_of_getElem? (i := 5) rfl), am_wk_3 _ (List.mem_of_getElem? (i := 5) rfl), fun _ => am_wzp_3 _ (List.mem_of_getElem? (i := 2) rfl), by decide +kernel⟩
theorem am_mok_66 : am_mok (yX7_emit, cX7_emit, 2, none, 0, 1, 0, 0) := ⟨am_wc_3 _ (List.mem_of_getElem? (i := 6) rfl), am_wi_3 _ (List.mem_of_getElem? (i := 6) rfl), am_wk_3 _ (List.mem_of_getElem? (i := 6) rfl), fun _ => am_wzp_3 _ (List.mem_of_getElem? (i := 3) rfl), by decide +kernel⟩
theorem am_mok_67 : am_mok (yX7_addLaw, cX7_addLaw, 2, none, 0, 1, 0, 0) := ⟨am_wc_3 _ (List.mem_of_getElem? (i := 7) rfl), am_wi_3 _ (List.mem_of_getElem? (i := 7) rfl), am_wk_3 _ (List.mem_of_getElem? (i := 7) rfl), fun _ => am_wzp_3 _ (List.mem_of_getElem? (i := 4) rfl), by decide +kernel⟩
theorem am_mok_68 : am_mok (yX7_addClause, cX7_addClause, 2, none, 0, 1, 0, 0) := ⟨am_wc_3 _ (List.mem_of_getElem? (i := 8) rfl), am_wi_3 _ (List.mem_of_getElem? (i := 8) rfl), am_wk_3 _ (List.mem_of_getElem? (i := 8) rfl), fun _ => am_wzp_3 _ (List.mem_of_getElem? (i := 5) rfl), by decide +kernel⟩
theorem am_mok_69 : am_mok (yX7_workLaw, cX7_workLaw, 3, (some .int), 0, 2, 0, 0) := ⟨am_wc_3 _ (List.mem_of_getElem? (i := 9) rfl), am_wi_3 _ (List.mem_of_getElem? (i := 9) rfl), am_wk_3 _ (List.mem_of_getElem? (i := 9) rfl), fun _ => am_wzp_3 _ (List.mem_of_getElem? (i := 6) rfl), by decide +kernel⟩
theorem am_mok_70 : am_mok (yX7_firstClause, cX7_firstClause, 3, (some .int), 0, 1, 0, 0) := ⟨am_wc_3 _ (List.mem_of_getElem? (i := 10) rfl), am_wi_3 _ (List.mem_of_getElem? (i := 10) rfl), am_wk_3 _ (List.mem_of_getElem? (i := 10) rfl), fun _ => am_wzp_3 _ (List.mem_of_getElem? (i := 7) rfl), by decide +kernel⟩
theorem am_mok_71 : am_mok (yX7_work, cX7_work, 7, (some .int), 0, 3, 0, 0) := ⟨am_wc_3 _ (List.mem_of_getElem? (i := 11) rfl), am_wi_3 _ (List.mem_of_getElem? (i := 11) rfl), am_wk_3 _ (List.mem_of_getElem? (i := 11) rfl), fun _ => am_wzs_3 _ (List.mem_of_getElem? (i := 2) rfl), by decide +kernel⟩
theorem am_mok_72 : am_mok (yX7_joinBy, cX7_joinBy, 5, (some .int), 1, 3, 0, 0) := ⟨am_wc_3 _ (List.mem_of_getElem? (i := 12) rfl), am_wi_3 _ (List.mem_of_getElem? (i := 12) rfl), am_wk_3 _ (List.mem_of_getElem? (i := 12) rfl), fun h => absurd h (by decide), by decide +kernel⟩
theorem am_mok_73 : am_mok (yX8_init, cX8_init, 1, none, 2, 0, 7, 89) := ⟨am_wc_3 _ (List.mem_of_getElem? (i := 13) rfl), am_wi_3 _ (List.mem_of_getElem? (i := 13) rfl), am_wk_3 _ (List.mem_of_getElem? (i := 13) rfl), fun h => absurd h (by decide), by decide +kernel⟩
theorem am_mok_74 : am_mok (yX8_hasScreen, cX8_hasScreen, 2, (some .boolean), 0, 1, 0, 0) := ⟨am_wc_3 _ (List.mem_of_getElem? (i := 14) rfl), am_wi_3 _ (List.mem_of_getElem? (i := 14) rfl), am_wk_3 _ (List.mem_of_getElem? (i := 14) rfl), fun _ => am_wzp_3 _ (List.mem_of_getElem? (i := 8) rfl), by decide +kernel⟩
theorem am_mok_75 : am_mok (yX8_hasPlan, cX8_hasPlan, 2, (some .boolean), 0, 1, 0, 0) := ⟨am_wc_3 _ (List.mem_of_getElem? (i := 15) rfl), am_wi_3 _ (List.mem_of_getElem? (i := 15) rfl), am_wk_3 _ (List.mem_of_getElem? (i := 15) rfl), fun _ => am_wzp_3 _ (List.mem_of_getElem? (i := 9) rfl), by decide +kernel⟩
theorem am_mok_76 : am_mok (yX8_hasTrial, cX8_hasTrial, 3, (some .boolean), 0, 2, 0, 0) := ⟨am_wc_3 _ (List.mem_of_getElem? (i := 16) rfl), am_wi_3 _ (List.mem_of_getElem? (i := 16) rfl), am_wk_3 _ (List.mem_of_getElem? (i := 16) rfl), fun _ => am_wzp_3 _ (List.mem_of_getElem? (i := 10) rfl), by decide +kernel⟩
theorem am_mok_77 : am_mok (yX8_isOdd, cX8_isOdd, 2, (some .boolean), 0, 1, 0, 0) := ⟨am_wc_3 _ (List.mem_of_getElem? (i := 17) rfl), am_wi_3 _ (List.mem_of_getElem? (i := 17) rfl), am_wk_3 _ (List.mem_of_getElem? (i := 17) rfl), fun _ => am_wzp_3 _ (List.mem_of_getElem? (i := 11) rfl), by decide +kernel⟩
theorem am_mok_78 : am_mok (yX8_screenOf, cX8_screenOf, 3, (some .int), 0, 2, 0, 0) := ⟨am_wc_3 _ (List.mem_of_getElem? (i := 18) rfl), am_wi_3 _ (List.mem_of_getElem? (i := 18) rfl), am_wk_3 _ (List.mem_of_getElem? (i := 18) rfl), fun _ => am_wzp_3 _ (List.mem_of_getElem? (i := 12) rfl), by decide +kernel⟩
theorem am_mok_79 : am_mok (yX8_addScreen, cX8_addScreen, 5, (some .int), 0, 4, 0, 0) := ⟨am_wc_3 _ (List.mem_of_getElem? (i := 19) rfl), am_wi_3 _ (List.mem_of_getElem? (i := 19) rfl), am_wk_3 _ (List.mem_of_getElem? (i := 19) rfl), fun _ => am_wzp_3 _ (List.mem_of_getElem? (i := 13) rfl), by decide +kernel⟩
set_option maxRecDepth 100000 in
theorem am_wc_4 : ∀ w ∈ am_mt_4.map am_wc, w ∈ am_gt := am_in_r _ [760, 776, 902, 261, 893, 897, 1118, 1122, 1083, 1093, 1097, 33, 549, 569, 654, 658, 670, 674, 586, 573] rfl (by decide +kernel)
set_option maxRecDepth 100000 in
theorem am_wi_4 : ∀ w ∈ am_mt_4.map am_wi, w ∈ am_gt := am_in_r _ [5, 5, 5, 7, 7, 7, 7, 7, 7, 7, 7, 2, 2, 2, 2, 2, 2, 2, 2, 2] (by decide +kernel) (by decide +kernel)
set_option maxRecDepth 100000 in
theorem am_wk_4 : ∀ w ∈ am_mt_4.map am_wk, w ∈ am_gt := am_in_r _ [758, 774, 900, 260, 891, 895, 1116, 1121, 1081, 1092, 1096, 32, 547, 567, 652, 656, 668, 672, 585, 572] (by decide +kernel) (by decide +kernel)
set_option maxRecDepth 100000 in
theorem am_wzp_4 : ∀ w ∈ [Cond.selects RX8 yX8_addPlan yX8_addPlan, Cond.selects RX8 yX8_addTrial yX8_addTrial, Cond.selects RX8 yX8_sameAhead yX8_sameAhead, Cond.selects RX9 yX9_tellPlan yX9_tellPlan, Cond.selects RX9 yX9_tell yX9_tell, Cond.selects RX9 yX9_planSign yX9_planSign, Cond.selects RX9 yX9_drawWorld yX9_drawWorld, Cond.selects RX10 yX10_append yX10_append, Cond.selects RX10 yX10_split yX10_split, Cond.selects RX10 yX10_code yX10_code, Cond.selects RX10 yX10_start yX10_start, Cond.selects RX10 yX10_wordSize yX10_wordSize, Cond.selects RX10 yX10_sameWords yX10_sameWords], w ∈ am_gt := am_in_r _ [759, 775, 901, 892, 896, 1117, 1082, 548, 568, 653, 657, 669, 673] (by decide +kernel) (by decide +kernel)
set_option maxRecDepth 100000 in
theorem am_wzs_4 : ∀ w ∈ [Cond.selects RX9 yX9_drawLook yX9_drawLook, Cond.selects RX9 yX9_lot yX9_lot, Cond.selects RX10 yX10_keep yX10_keep, Cond.selects RX10 yX10_endOfToken yX10_endOfToken], w ∈ am_gt := am_in_s _ [27, 28, 3, 2] (by decide +kernel) (by decide +kernel)
theorem am_mok_80 : am_mok (yX8_addPlan, cX8_addPlan, 1, (some .int), 0, 0, 0, 0) := ⟨am_wc_4 _ (List.mem_of_getElem? (i := 0) rfl), am_wi_4 _ (List.mem_of_getElem? (i := 0) rfl), am_wk_4 _ (List.mem_of_getElem? (i := 0) rfl), fun _ => am_wzp_4 _ (List.mem_of_getElem? (i := 0) rfl), by decide +kernel⟩
theorem am_mok_81 : am_mok (yX8_addTrial, cX8_addTrial, 3, (some .int), 0, 2, 0, 0) := ⟨am_wc_4 _ (List.mem_of_getElem? (i := 1) rfl), am_wi_4 _ (List.mem_of_getElem? (i := 1) rfl), am_wk_4 _ (List.mem_of_getElem? (i := 1) rfl), fun _ => am_wzp_4 _ (List.mem_of_getElem? (i := 1) rfl), by decide +kernel⟩
theorem am_mok_82 : am_mok (yX8_sameAhead, cX8_sameAhead, 6, (some .int), 0, 3, 0, 0) := ⟨am_wc_4 _ (List.mem_of_getElem? (i := 2) rfl), am_wi_4 _ (List.mem_of_getElem? (i := 2) rfl), am_wk_4 _ (List.mem_of_getElem? (i := 2) rfl), fun _ => am_wzp_4 _ (List.mem_of_getElem? (i := 2) rfl), by decide +kernel⟩
theorem am_mok_83 : am_mok (yX9_init, cX9_init, 4, none, 2, 3, 2, 20) := ⟨am_wc_4 _ (List.mem_of_getElem? (i := 3) rfl), am_wi_4 _ (List.mem_of_getElem? (i := 3) rfl), am_wk_4 _ (List.mem_of_getElem? (i := 3) rfl), fun h => absurd h (by decide), by decide +kernel⟩
theorem am_mok_84 : am_mok (yX9_tellPlan, cX9_tellPlan, 7, none, 0, 3, 0, 0) := ⟨am_wc_4 _ (List.mem_of_getElem? (i := 4) rfl), am_wi_4 _ (List.mem_of_getElem? (i := 4) rfl), am_wk_4 _ (List.mem_of_getElem? (i := 4) rfl), fun _ => am_wzp_4 _ (List.mem_of_getElem? (i := 3) rfl), by decide +kernel⟩
theorem am_mok_85 : am_mok (yX9_tell, cX9_tell, 9, (some .int), 0, 6, 0, 0) := ⟨am_wc_4 _ (List.mem_of_getElem? (i := 5) rfl), am_wi_4 _ (List.mem_of_getElem? (i := 5) rfl), am_wk_4 _ (List.mem_of_getElem? (i := 5) rfl), fun _ => am_wzp_4 _ (List.mem_of_getElem? (i := 4) rfl), by decide +kernel⟩
theorem am_mok_86 : am_mok (yX9_planSign, cX9_planSign, 9, (some .int), 0, 3, 0, 0) := ⟨am_wc_4 _ (List.mem_of_getElem? (i := 6) rfl), am_wi_4 _ (List.mem_of_getElem? (i := 6) rfl), am_wk_4 _ (List.mem_of_getElem? (i := 6) rfl), fun _ => am_wzp_4 _ (List.mem_of_getElem? (i := 5) rfl), by decide +kernel⟩
theorem am_mok_87 : am_mok (yX9_signOf, cX9_signOf, 4, (some .int), 1, 4, 0, 0) := ⟨am_wc_4 _ (List.mem_of_getElem? (i := 7) rfl), am_wi_4 _ (List.mem_of_getElem? (i := 7) rfl), am_wk_4 _ (List.mem_of_getElem? (i := 7) rfl), fun h => absurd h (by decide), by decide +kernel⟩
theorem am_mok_88 : am_mok (yX9_drawWorld, cX9_drawWorld, 7, (some .int), 0, 2, 0, 0) := ⟨am_wc_4 _ (List.mem_of_getElem? (i := 8) rfl), am_wi_4 _ (List.mem_of_getElem? (i := 8) rfl), am_wk_4 _ (List.mem_of_getElem? (i := 8) rfl), fun _ => am_wzp_4 _ (List.mem_of_getElem? (i := 6) rfl), by decide +kernel⟩
theorem am_mok_89 : am_mok (yX9_drawLook, cX9_drawLook, 3, (some .int), 0, 1, 0, 0) := ⟨am_wc_4 _ (List.mem_of_getElem? (i := 9) rfl), am_wi_4 _ (List.mem_of_getElem? (i := 9) rfl), am_wk_4 _ (List.mem_of_getElem? (i := 9) rfl), fun _ => am_wzs_4 _ (List.mem_of_getElem? (i := 0) rfl), by decide +kernel⟩
theorem am_mok_90 : am_mok (yX9_lot, cX9_lot, 2, (some .int), 0, 1, 0, 0) := ⟨am_wc_4 _ (List.mem_of_getElem? (i := 10) rfl), am_wi_4 _ (List.mem_of_getElem? (i := 10) rfl), am_wk_4 _ (List.mem_of_getElem? (i := 10) rfl), fun _ => am_wzs_4 _ (List.mem_of_getElem? (i := 1) rfl), by decide +kernel⟩
theorem am_mok_91 : am_mok (yX10_init, cX10_init, 1, none, 2, 0, 4, 2003) := ⟨am_wc_4 _ (List.mem_of_getElem? (i := 11) rfl), am_wi_4 _ (List.mem_of_getElem? (i := 11) rfl), am_wk_4 _ (List.mem_of_getElem? (i := 11) rfl), fun h => absurd h (by decide), by decide +kernel⟩
theorem am_mok_92 : am_mok (yX10_append, cX10_append, 3, none, 0, 1, 0, 0) := ⟨am_wc_4 _ (List.mem_of_getElem? (i := 12) rfl), am_wi_4 _ (List.mem_of_getElem? (i := 12) rfl), am_wk_4 _ (List.mem_of_getElem? (i := 12) rfl), fun _ => am_wzp_4 _ (List.mem_of_getElem? (i := 7) rfl), by decide +kernel⟩
theorem am_mok_93 : am_mok (yX10_split, cX10_split, 4, none, 0, 0, 0, 0) := ⟨am_wc_4 _ (List.mem_of_getElem? (i := 13) rfl), am_wi_4 _ (List.mem_of_getElem? (i := 13) rfl), am_wk_4 _ (List.mem_of_getElem? (i := 13) rfl), fun _ => am_wzp_4 _ (List.mem_of_getElem? (i := 8) rfl), by decide +kernel⟩
theorem am_mok_94 : am_mok (yX10_code, cX10_code, 2, (some .int), 0, 1, 0, 0) := ⟨am_wc_4 _ (List.mem_of_getElem? (i := 14) rfl), am_wi_4 _ (List.mem_of_getElem? (i := 14) rfl), am_wk_4 _ (List.mem_of_getElem? (i := 14) rfl), fun _ => am_wzp_4 _ (List.mem_of_getElem? (i := 9) rfl), by decide +kernel⟩
theorem am_mok_95 : am_mok (yX10_start, cX10_start, 2, (some .int), 0, 1, 0, 0) := ⟨am_wc_4 _ (List.mem_of_getElem? (i := 15) rfl), am_wi_4 _ (List.mem_of_getElem? (i := 15) rfl), am_wk_4 _ (List.mem_of_getElem? (i := 15) rfl), fun _ => am_wzp_4 _ (List.mem_of_getElem? (i := 10) rfl), by decide +kernel⟩
theorem am_mok_96 : am_mok (yX10_wordSize, cX10_wordSize, 2, (some .int), 0, 1, 0, 0) := ⟨am_wc_4 _ (List.mem_of_getElem? (i := 16) rfl), am_wi_4 _ (List.mem_of_getElem? (i := 16) rfl), am_wk_4 _ (List.mem_of_getElem? (i := 16) rfl), fun _ => am_wzp_4 _ (List.mem_of_getElem? (i := 11) rfl), by decide +kernel⟩
theorem am_mok_97 : am_mok (yX10_sameWords, cX10_sameWords, 5, (some .boolean), 0, 2, 0, 0) := ⟨am_wc_4 _ (List.mem_of_getElem? (i := 17) rfl), am_wi_4 _ (List.mem_of_getElem? (i := 17) rfl), am_wk_4 _ (List.mem_of_getElem? (i := 17) rfl), fun _ => am_wzp_4 _ (List.mem_of_getElem? (i := 12) rfl), by decide +kernel⟩
theorem am_mok_98 : am_mok (yX10_keep, cX10_keep, 4, none, 0, 3, 0, 0) := ⟨am_wc_4 _ (List.mem_of_getElem? (i := 18) rfl), am_wi_4 _ (List.mem_of_getElem? (i := 18) rfl), am_wk_4 _ (List.mem_of_getElem? (i := 18) rfl), fun _ => am_wzs_4 _ (List.mem_of_getElem? (i := 2) rfl), by decide +kernel⟩
theorem am_mok_99 : am_mok (yX10_endOfToken, cX10_endOfToken, 4, (some .int), 0, 1, 0, 0) := ⟨am_wc_4 _ (List.mem_of_getElem? (i := 19) rfl), am_wi_4 _ (List.mem_of_getElem? (i := 19) rfl), am_wk_4 _ (List.mem_of_getElem? (i := 19) rfl), fun _ => am_wzs_4 _ (List.mem_of_getElem? (i := 3) rfl), by decide +kernel⟩
set_option maxRecDepth 100000 in
theorem am_wc_5 : ∀ w ∈ am_mt_5.map am_wc, w ∈ am_gt := am_in_r _ [590, 643, 594, 598, 579, 582, 576, 25, 541, 553, 561, 713, 728, 735, 743, 756, 764, 780, 793, 801] rfl (by decide +kernel)
set_option maxRecDepth 100000 in
theorem am_wi_5 : ∀ w ∈ am_mt_5.map am_wi, w ∈ am_gt := am_in_r _ [2, 2, 2, 2, 2, 2, 2, 1, 1, 1, 1, 1, 1, 1, 1, 1, 1, 1, 1, 1] (by decide +kernel) (by decide +kernel)
set_option maxRecDepth 100000 in
theorem am_wk_5 : ∀ w ∈ am_mt_5.map am_wk, w ∈ am_gt := am_in_r _ [589, 642, 593, 597, 578, 581, 575, 24, 539, 551, 559, 711, 726, 733, 741, 754, 762, 778, 791, 799] (by decide +kernel) (by decide +kernel)
set_option maxRecDepth 100000 in
theorem am_wzp_5 : ∀ w ∈ [Cond.selects RX11 yX11_feed yX11_feed, Cond.selects RX11 yX11_end yX11_end, Cond.selects RX11 yX11_fault yX11_fault, Cond.selects RX11 yX11_laws yX11_laws, Cond.selects RX11 yX11_liked yX11_liked, Cond.selects RX11 yX11_screen yX11_screen, Cond.selects RX11 yX11_on yX11_on, Cond.selects RX11 yX11_plan yX11_plan, Cond.selects RX11 yX11_trial yX11_trial, Cond.selects RX11 yX11_row yX11_row, Cond.selects RX11 yX11_baby yX11_baby, Cond.selects RX11 yX11_gaze yX11_gaze], w ∈ am_gt := am_in_r _ [540, 552, 560, 712, 727, 734, 742, 755, 763, 779, 792, 800] (by decide +kernel) (by decide +kernel)
set_option maxRecDepth 100000 in
theorem am_wzs_5 : ∀ w ∈ [Cond.selects RX10 yX10_codeOf yX10_codeOf, Cond.selects RX10 yX10_numberCode yX10_numberCode, Cond.selects RX10 yX10_wordCode yX10_wordCode, Cond.selects RX10 yX10_isWord yX10_isWord], w ∈ am_gt := am_in_s _ [4, 7, 5, 6] (by decide +kernel) (by decide +kernel)
theorem am_mok_100 : am_mok (yX10_codeOf, cX10_codeOf, 4, (some .int), 0, 2, 0, 0) := ⟨am_wc_5 _ (List.mem_of_getElem? (i := 0) rfl), am_wi_5 _ (List.mem_of_getElem? (i := 0) rfl), am_wk_5 _ (List.mem_of_getElem? (i := 0) rfl), fun _ => am_wzs_5 _ (List.mem_of_getElem? (i := 0) rfl), by decide +kernel⟩
theorem am_mok_101 : am_mok (yX10_numberCode, cX10_numberCode, 5, (some .int), 0, 2, 0, 0) := ⟨am_wc_5 _ (List.mem_of_getElem? (i := 1) rfl), am_wi_5 _ (List.mem_of_getElem? (i := 1) rfl), am_wk_5 _ (List.mem_of_getElem? (i := 1) rfl), fun _ => am_wzs_5 _ (List.mem_of_getElem? (i := 1) rfl), by decide +kernel⟩
theorem am_mok_102 : am_mok (yX10_wordCode, cX10_wordCode, 4, (some .int), 0, 2, 0, 0) := ⟨am_wc_5 _ (List.mem_of_getElem? (i := 2) rfl), am_wi_5 _ (List.mem_of_getElem? (i := 2) rfl), am_wk_5 _ (List.mem_of_getElem? (i := 2) rfl), fun _ => am_wzs_5 _ (List.mem_of_getElem? (i := 2) rfl), by decide +kernel⟩
theorem am_mok_103 : am_mok (yX10_isWord, cX10_isWord, 6, (some .boolean), 0, 3, 0, 0) := ⟨am_wc_5 _ (List.mem_of_getElem? (i := 3) rfl), am_wi_5 _ (List.mem_of_getElem? (i := 3) rfl), am_wk_5 _ (List.mem_of_getElem? (i := 3) rfl), fun _ => am_wzs_5 _ (List.mem_of_getElem? (i := 3) rfl), by decide +kernel⟩
theorem am_mok_104 : am_mok (yX10_isLetter, cX10_isLetter, 1, (some .boolean), 1, 1, 0, 0) := ⟨am_wc_5 _ (List.mem_of_getElem? (i := 4) rfl), am_wi_5 _ (List.mem_of_getElem? (i := 4) rfl), am_wk_5 _ (List.mem_of_getElem? (i := 4) rfl), fun h => absurd h (by decide), by decide +kernel⟩
theorem am_mok_105 : am_mok (yX10_isDigit, cX10_isDigit, 1, (some .boolean), 1, 1, 0, 0) := ⟨am_wc_5 _ (List.mem_of_getElem? (i := 5) rfl), am_wi_5 _ (List.mem_of_getElem? (i := 5) rfl), am_wk_5 _ (List.mem_of_getElem? (i := 5) rfl), fun h => absurd h (by decide), by decide +kernel⟩
theorem am_mok_106 : am_mok (yX10_isSign, cX10_isSign, 1, (some .boolean), 1, 1, 0, 0) := ⟨am_wc_5 _ (List.mem_of_getElem? (i := 6) rfl), am_wi_5 _ (List.mem_of_getElem? (i := 6) rfl), am_wk_5 _ (List.mem_of_getElem? (i := 6) rfl), fun h => absurd h (by decide), by decide +kernel⟩
theorem am_mok_107 : am_mok (yX11_init, cX11_init, 1, none, 2, 0, 69, 6801) := ⟨am_wc_5 _ (List.mem_of_getElem? (i := 7) rfl), am_wi_5 _ (List.mem_of_getElem? (i := 7) rfl), am_wk_5 _ (List.mem_of_getElem? (i := 7) rfl), fun h => absurd h (by decide), by decide +kernel⟩
theorem am_mok_108 : am_mok (yX11_feed, cX11_feed, 6, (some .int), 0, 5, 0, 0) := ⟨am_wc_5 _ (List.mem_of_getElem? (i := 8) rfl), am_wi_5 _ (List.mem_of_getElem? (i := 8) rfl), am_wk_5 _ (List.mem_of_getElem? (i := 8) rfl), fun _ => am_wzp_5 _ (List.mem_of_getElem? (i := 0) rfl), by decide +kernel⟩
theorem am_mok_109 : am_mok (yX11_end, cX11_end, 2, (some .boolean), 0, 1, 0, 0) := ⟨am_wc_5 _ (List.mem_of_getElem? (i := 9) rfl), am_wi_5 _ (List.mem_of_getElem? (i := 9) rfl), am_wk_5 _ (List.mem_of_getElem? (i := 9) rfl), fun _ => am_wzp_5 _ (List.mem_of_getElem? (i := 1) rfl), by decide +kernel⟩
theorem am_mok_110 : am_mok (yX11_fault, cX11_fault, 1, (some .int), 0, 0, 0, 0) := ⟨am_wc_5 _ (List.mem_of_getElem? (i := 10) rfl), am_wi_5 _ (List.mem_of_getElem? (i := 10) rfl), am_wk_5 _ (List.mem_of_getElem? (i := 10) rfl), fun _ => am_wzp_5 _ (List.mem_of_getElem? (i := 2) rfl), by decide +kernel⟩
theorem am_mok_111 : am_mok (yX11_laws, cX11_laws, 1, (some .int), 0, 0, 0, 0) := ⟨am_wc_5 _ (List.mem_of_getElem? (i := 11) rfl), am_wi_5 _ (List.mem_of_getElem? (i := 11) rfl), am_wk_5 _ (List.mem_of_getElem? (i := 11) rfl), fun _ => am_wzp_5 _ (List.mem_of_getElem? (i := 3) rfl), by decide +kernel⟩
theorem am_mok_112 : am_mok (yX11_liked, cX11_liked, 3, (some .boolean), 0, 2, 0, 0) := ⟨am_wc_5 _ (List.mem_of_getElem? (i := 12) rfl), am_wi_5 _ (List.mem_of_getElem? (i := 12) rfl), am_wk_5 _ (List.mem_of_getElem? (i := 12) rfl), fun _ => am_wzp_5 _ (List.mem_of_getElem? (i := 4) rfl), by decide +kernel⟩
theorem am_mok_113 : am_mok (yX11_screen, cX11_screen, 6, (some .int), 0, 4, 0, 0) := ⟨am_wc_5 _ (List.mem_of_getElem? (i := 13) rfl), am_wi_5 _ (List.mem_of_getElem? (i := 13) rfl), am_wk_5 _ (List.mem_of_getElem? (i := 13) rfl), fun _ => am_wzp_5 _ (List.mem_of_getElem? (i := 5) rfl), by decide +kernel⟩
theorem am_mok_114 : am_mok (yX11_on, cX11_on, 3, (some .int), 0, 2, 0, 0) := ⟨am_wc_5 _ (List.mem_of_getElem? (i := 14) rfl), am_wi_5 _ (List.mem_of_getElem? (i := 14) rfl), am_wk_5 _ (List.mem_of_getElem? (i := 14) rfl), fun _ => am_wzp_5 _ (List.mem_of_getElem? (i := 6) rfl), by decide +kernel⟩
theorem am_mok_115 : am_mok (yX11_plan, cX11_plan, 1, (some .int), 0, 0, 0, 0) := ⟨am_wc_5 _ (List.mem_of_getElem? (i := 15) rfl), am_wi_5 _ (List.mem_of_getElem? (i := 15) rfl), am_wk_5 _ (List.mem_of_getElem? (i := 15) rfl), fun _ => am_wzp_5 _ (List.mem_of_getElem? (i := 7) rfl), by decide +kernel⟩
theorem am_mok_116 : am_mok (yX11_trial, cX11_trial, 3, (some .int), 0, 2, 0, 0) := ⟨am_wc_5 _ (List.mem_of_getElem? (i := 16) rfl), am_wi_5 _ (List.mem_of_getElem? (i := 16) rfl), am_wk_5 _ (List.mem_of_getElem? (i := 16) rfl), fun _ => am_wzp_5 _ (List.mem_of_getElem? (i := 8) rfl), by decide +kernel⟩
theorem am_mok_117 : am_mok (yX11_row, cX11_row, 3, (some .int), 0, 2, 0, 0) := ⟨am_wc_5 _ (List.mem_of_getElem? (i := 17) rfl), am_wi_5 _ (List.mem_of_getElem? (i := 17) rfl), am_wk_5 _ (List.mem_of_getElem? (i := 17) rfl), fun _ => am_wzp_5 _ (List.mem_of_getElem? (i := 9) rfl), by decide +kernel⟩
theorem am_mok_118 : am_mok (yX11_baby, cX11_baby, 4, (some .int), 0, 3, 0, 0) := ⟨am_wc_5 _ (List.mem_of_getElem? (i := 18) rfl), am_wi_5 _ (List.mem_of_getElem? (i := 18) rfl), am_wk_5 _ (List.mem_of_getElem? (i := 18) rfl), fun _ => am_wzp_5 _ (List.mem_of_getElem? (i := 10) rfl), by decide +kernel⟩
theorem am_mok_119 : am_mok (yX11_gaze, cX11_gaze, 4, (some .int), 0, 3, 0, 0) := ⟨am_wc_5 _ (List.mem_of_getElem? (i := 19) rfl), am_wi_5 _ (List.mem_of_getElem? (i := 19) rfl), am_wk_5 _ (List.mem_of_getElem? (i := 19) rfl), fun _ => am_wzp_5 _ (List.mem_of_getElem? (i := 11) rfl), by decide +kernel⟩
set_option maxRecDepth 100000 in
theorem am_wc_6 : ∀ w ∈ am_mt_6.map am_wc, w ∈ am_gt := am_in_r _ [821, 825, 829, 833, 837, 868, 885, 923, 935, 939, 949, 994, 1012, 1033, 1047, 1066, 1074, 1078, 1105, 1114] rfl (by decide +kernel)
set_option maxRecDepth 100000 in
theorem am_wi_6 : ∀ w ∈ am_mt_6.map am_wi, w ∈ am_gt := am_in_r _ [1, 1, 1, 1, 1, 1, 1, 1, 1, 1, 1, 1, 1, 1, 1, 1, 1, 1, 1, 1] (by decide +kernel) (by decide +kernel)
set_option maxRecDepth 100000 in
theorem am_wk_6 : ∀ w ∈ am_mt_6.map am_wk, w ∈ am_gt := am_in_r _ [819, 823, 827, 831, 835, 866, 883, 921, 933, 937, 947, 992, 1010, 1031, 1045, 1064, 1072, 1076, 1103, 1112] (by decide +kernel) (by decide +kernel)
set_option maxRecDepth 100000 in
theorem am_wzp_6 : ∀ w ∈ [Cond.selects RX11 yX11_cried yX11_cried, Cond.selects RX11 yX11_rule yX11_rule, Cond.selects RX11 yX11_lean yX11_lean, Cond.selects RX11 yX11_reading yX11_reading, Cond.selects RX11 yX11_length yX11_length, Cond.selects RX11 yX11_read yX11_read, Cond.selects RX11 yX11_says yX11_says, Cond.selects RX11 yX11_out yX11_out, Cond.selects RX11 yX11_leave yX11_leave, Cond.selects RX11 yX11_difference yX11_difference, Cond.selects RX11 yX11_odds yX11_odds, Cond.selects RX11 yX11_after yX11_after, Cond.selects RX11 yX11_leaving yX11_leaving, Cond.selects RX11 yX11_house yX11_house, Cond.selects RX11 yX11_joined yX11_joined, Cond.selects RX11 yX11_span yX11_span, Cond.selects RX11 yX11_spread yX11_spread, Cond.selects RX11 yX11_world yX11_world, Cond.selects RX11 yX11_worlds yX11_worlds, Cond.selects RX11 yX11_parts yX11_parts], w ∈ am_gt := am_in_r _ [820, 824, 828, 832, 836, 867, 884, 922, 934, 938, 948, 993, 1011, 1032, 1046, 1065, 1073, 1077, 1104, 1113] (by decide +kernel) (by decide +kernel)
set_option maxRecDepth 100000 in
theorem am_wzs_6 : ∀ w ∈ [], w ∈ am_gt := am_in_s _ [] (by decide +kernel) (by decide +kernel)
theorem am_mok_120 : am_mok (yX11_cried, cX11_cried, 3, (some .boolean), 0, 2, 0, 0) := ⟨am_wc_6 _ (List.mem_of_getElem? (i := 0) rfl), am_wi_6 _ (List.mem_of_getElem? (i := 0) rfl), am_wk_6 _ (List.mem_of_getElem? (i := 0) rfl), fun _ => am_wzp_6 _ (List.mem_of_getElem? (i := 0) rfl), by decide +kernel⟩
theorem am_mok_121 : am_mok (yX11_rule, cX11_rule, 4, (some .boolean), 0, 3, 0, 0) := ⟨am_wc_6 _ (List.mem_of_getElem? (i := 1) rfl), am_wi_6 _ (List.mem_of_getElem? (i := 1) rfl), am_wk_6 _ (List.mem_of_getElem? (i := 1) rfl), fun _ => am_wzp_6 _ (List.mem_of_getElem? (i := 1) rfl), by decide +kernel⟩
theorem am_mok_122 : am_mok (yX11_lean, cX11_lean, 2, (some .boolean), 0, 1, 0, 0) := ⟨am_wc_6 _ (List.mem_of_getElem? (i := 2) rfl), am_wi_6 _ (List.mem_of_getElem? (i := 2) rfl), am_wk_6 _ (List.mem_of_getElem? (i := 2) rfl), fun _ => am_wzp_6 _ (List.mem_of_getElem? (i := 2) rfl), by decide +kernel⟩
theorem am_mok_123 : am_mok (yX11_reading, cX11_reading, 3, (some .boolean), 0, 2, 0, 0) := ⟨am_wc_6 _ (List.mem_of_getElem? (i := 3) rfl), am_wi_6 _ (List.mem_of_getElem? (i := 3) rfl), am_wk_6 _ (List.mem_of_getElem? (i := 3) rfl), fun _ => am_wzp_6 _ (List.mem_of_getElem? (i := 3) rfl), by decide +kernel⟩
theorem am_mok_124 : am_mok (yX11_length, cX11_length, 3, (some .int), 0, 2, 0, 0) := ⟨am_wc_6 _ (List.mem_of_getElem? (i := 4) rfl), am_wi_6 _ (List.mem_of_getElem? (i := 4) rfl), am_wk_6 _ (List.mem_of_getElem? (i := 4) rfl), fun _ => am_wzp_6 _ (List.mem_of_getElem? (i := 4) rfl), by decide +kernel⟩
theorem am_mok_125 : am_mok (yX11_read, cX11_read, 3, (some .int), 0, 2, 0, 0) := ⟨am_wc_6 _ (List.mem_of_getElem? (i := 5) rfl), am_wi_6 _ (List.mem_of_getElem? (i := 5) rfl), am_wk_6 _ (List.mem_of_getElem? (i := 5) rfl), fun _ => am_wzp_6 _ (List.mem_of_getElem? (i := 5) rfl), by decide +kernel⟩
theorem am_mok_126 : am_mok (yX11_says, cX11_says, 5, (some .int), 0, 4, 0, 0) := ⟨am_wc_6 _ (List.mem_of_getElem? (i := 6) rfl), am_wi_6 _ (List.mem_of_getElem? (i := 6) rfl), am_wk_6 _ (List.mem_of_getElem? (i := 6) rfl), fun _ => am_wzp_6 _ (List.mem_of_getElem? (i := 6) rfl), by decide +kernel⟩
theorem am_mok_127 : am_mok (yX11_out, cX11_out, 4, (some .int), 0, 2, 0, 0) := ⟨am_wc_6 _ (List.mem_of_getElem? (i := 7) rfl), am_wi_6 _ (List.mem_of_getElem? (i := 7) rfl), am_wk_6 _ (List.mem_of_getElem? (i := 7) rfl), fun _ => am_wzp_6 _ (List.mem_of_getElem? (i := 7) rfl), by decide +kernel⟩
theorem am_mok_128 : am_mok (yX11_leave, cX11_leave, 3, (some .boolean), 0, 2, 0, 0) := ⟨am_wc_6 _ (List.mem_of_getElem? (i := 8) rfl), am_wi_6 _ (List.mem_of_getElem? (i := 8) rfl), am_wk_6 _ (List.mem_of_getElem? (i := 8) rfl), fun _ => am_wzp_6 _ (List.mem_of_getElem? (i := 8) rfl), by decide +kernel⟩
theorem am_mok_129 : am_mok (yX11_difference, cX11_difference, 2, (some .int), 0, 1, 0, 0) := ⟨am_wc_6 _ (List.mem_of_getElem? (i := 9) rfl), am_wi_6 _ (List.mem_of_getElem? (i := 9) rfl), am_wk_6 _ (List.mem_of_getElem? (i := 9) rfl), fun _ => am_wzp_6 _ (List.mem_of_getElem? (i := 9) rfl), by decide +kernel⟩
theorem am_mok_130 : am_mok (yX11_odds, cX11_odds, 2, (some .int), 0, 1, 0, 0) := ⟨am_wc_6 _ (List.mem_of_getElem? (i := 10) rfl), am_wi_6 _ (List.mem_of_getElem? (i := 10) rfl), am_wk_6 _ (List.mem_of_getElem? (i := 10) rfl), fun _ => am_wzp_6 _ (List.mem_of_getElem? (i := 10) rfl), by decide +kernel⟩
theorem am_mok_131 : am_mok (yX11_after, cX11_after, 2, (some .int), 0, 1, 0, 0) := ⟨am_wc_6 _ (List.mem_of_getElem? (i := 11) rfl), am_wi_6 _ (List.mem_of_getElem? (i := 11) rfl), am_wk_6 _ (List.mem_of_getElem? (i := 11) rfl), fun _ => am_wzp_6 _ (List.mem_of_getElem? (i := 11) rfl), by decide +kernel⟩
theorem am_mok_132 : am_mok (yX11_leaving, cX11_leaving, 2, (some .int), 0, 1, 0, 0) := ⟨am_wc_6 _ (List.mem_of_getElem? (i := 12) rfl), am_wi_6 _ (List.mem_of_getElem? (i := 12) rfl), am_wk_6 _ (List.mem_of_getElem? (i := 12) rfl), fun _ => am_wzp_6 _ (List.mem_of_getElem? (i := 12) rfl), by decide +kernel⟩
theorem am_mok_133 : am_mok (yX11_house, cX11_house, 4, (some .int), 0, 2, 0, 0) := ⟨am_wc_6 _ (List.mem_of_getElem? (i := 13) rfl), am_wi_6 _ (List.mem_of_getElem? (i := 13) rfl), am_wk_6 _ (List.mem_of_getElem? (i := 13) rfl), fun _ => am_wzp_6 _ (List.mem_of_getElem? (i := 13) rfl), by decide +kernel⟩
theorem am_mok_134 : am_mok (yX11_joined, cX11_joined, 2, (some .int), 0, 1, 0, 0) := ⟨am_wc_6 _ (List.mem_of_getElem? (i := 14) rfl), am_wi_6 _ (List.mem_of_getElem? (i := 14) rfl), am_wk_6 _ (List.mem_of_getElem? (i := 14) rfl), fun _ => am_wzp_6 _ (List.mem_of_getElem? (i := 14) rfl), by decide +kernel⟩
theorem am_mok_135 : am_mok (yX11_span, cX11_span, 3, (some .int), 0, 2, 0, 0) := ⟨am_wc_6 _ (List.mem_of_getElem? (i := 15) rfl), am_wi_6 _ (List.mem_of_getElem? (i := 15) rfl), am_wk_6 _ (List.mem_of_getElem? (i := 15) rfl), fun _ => am_wzp_6 _ (List.mem_of_getElem? (i := 15) rfl), by decide +kernel⟩
theorem am_mok_136 : am_mok (yX11_spread, cX11_spread, 3, (some .boolean), 0, 2, 0, 0) := ⟨am_wc_6 _ (List.mem_of_getElem? (i := 16) rfl), am_wi_6 _ (List.mem_of_getElem? (i := 16) rfl), am_wk_6 _ (List.mem_of_getElem? (i := 16) rfl), fun _ => am_wzp_6 _ (List.mem_of_getElem? (i := 16) rfl), by decide +kernel⟩
theorem am_mok_137 : am_mok (yX11_world, cX11_world, 3, (some .int), 0, 2, 0, 0) := ⟨am_wc_6 _ (List.mem_of_getElem? (i := 17) rfl), am_wi_6 _ (List.mem_of_getElem? (i := 17) rfl), am_wk_6 _ (List.mem_of_getElem? (i := 17) rfl), fun _ => am_wzp_6 _ (List.mem_of_getElem? (i := 17) rfl), by decide +kernel⟩
theorem am_mok_138 : am_mok (yX11_worlds, cX11_worlds, 7, (some .int), 0, 4, 0, 0) := ⟨am_wc_6 _ (List.mem_of_getElem? (i := 18) rfl), am_wi_6 _ (List.mem_of_getElem? (i := 18) rfl), am_wk_6 _ (List.mem_of_getElem? (i := 18) rfl), fun _ => am_wzp_6 _ (List.mem_of_getElem? (i := 18) rfl), by decide +kernel⟩
theorem am_mok_139 : am_mok (yX11_parts, cX11_parts, 5, (some .int), 0, 4, 0, 0) := ⟨am_wc_6 _ (List.mem_of_getElem? (i := 19) rfl), am_wi_6 _ (List.mem_of_getElem? (i := 19) rfl), am_wk_6 _ (List.mem_of_getElem? (i := 19) rfl), fun _ => am_wzp_6 _ (List.mem_of_getElem? (i := 19) rfl), by decide +kernel⟩
set_option maxRecDepth 100000 in
theorem am_wc_7 : ∀ w ∈ am_mt_7.map am_wc, w ∈ am_gt := am_in_r _ [1129, 1157, 1168, 1176, 1192, 1196, 1204, 1216, 1220, 1224, 1228, 545, 557, 805, 1180, 1184, 731, 862, 1234, 1458] rfl (by decide +kernel)
set_option maxRecDepth 100000 in
theorem am_wi_7 : ∀ w ∈ am_mt_7.map am_wi, w ∈ am_gt := am_in_r _ [1, 1, 1, 1, 1, 1, 1, 1, 1, 1, 1, 1, 1, 1, 1, 1, 1, 1, 13, 13] (by decide +kernel) (by decide +kernel)
set_option maxRecDepth 100000 in
theorem am_wk_7 : ∀ w ∈ am_mt_7.map am_wk, w ∈ am_gt := am_in_r _ [1127, 1155, 1166, 1174, 1190, 1194, 1202, 1214, 1218, 1222, 1226, 544, 556, 804, 1179, 1183, 730, 861, 1233, 1457] (by decide +kernel) (by decide +kernel)
set_option maxRecDepth 100000 in
theorem am_wzp_7 : ∀ w ∈ [Cond.selects RX11 yX11_next yX11_next, Cond.selects RX11 yX11_fresh yX11_fresh, Cond.selects RX11 yX11_settled yX11_settled, Cond.selects RX11 yX11_apart yX11_apart, Cond.selects RX11 yX11_nearest yX11_nearest, Cond.selects RX11 yX11_book yX11_book, Cond.selects RX11 yX11_kept yX11_kept, Cond.selects RX11 yX11_image yX11_image, Cond.selects RX11 yX11_restore yX11_restore, Cond.selects RX11 yX11_status yX11_status, Cond.selects RX11 yX11_count yX11_count], w ∈ am_gt := am_in_r _ [1128, 1156, 1167, 1175, 1191, 1195, 1203, 1215, 1219, 1223, 1227] (by decide +kernel) (by decide +kernel)
set_option maxRecDepth 100000 in
theorem am_wzs_7 : ∀ w ∈ [Cond.selects RX11 yX11_refuse yX11_refuse, Cond.selects RX11 yX11_deny yX11_deny, Cond.selects RX11 yX11_hasBabyTrial yX11_hasBabyTrial, Cond.selects RX11 yX11_offFor yX11_offFor, Cond.selects RX11 yX11_offOf yX11_offOf], w ∈ am_gt := am_in_s _ [0, 1, 15, 33, 34] (by decide +kernel) (by decide +kernel)
theorem am_mok_140 : am_mok (yX11_next, cX11_next, 4, (some .int), 0, 3, 0, 0) := ⟨am_wc_7 _ (List.mem_of_getElem? (i := 0) rfl), am_wi_7 _ (List.mem_of_getElem? (i := 0) rfl), am_wk_7 _ (List.mem_of_getElem? (i := 0) rfl), fun _ => am_wzp_7 _ (List.mem_of_getElem? (i := 0) rfl), by decide +kernel⟩
theorem am_mok_141 : am_mok (yX11_fresh, cX11_fresh, 2, (some .int), 0, 1, 0, 0) := ⟨am_wc_7 _ (List.mem_of_getElem? (i := 1) rfl), am_wi_7 _ (List.mem_of_getElem? (i := 1) rfl), am_wk_7 _ (List.mem_of_getElem? (i := 1) rfl), fun _ => am_wzp_7 _ (List.mem_of_getElem? (i := 1) rfl), by decide +kernel⟩
theorem am_mok_142 : am_mok (yX11_settled, cX11_settled, 2, (some .int), 0, 1, 0, 0) := ⟨am_wc_7 _ (List.mem_of_getElem? (i := 2) rfl), am_wi_7 _ (List.mem_of_getElem? (i := 2) rfl), am_wk_7 _ (List.mem_of_getElem? (i := 2) rfl), fun _ => am_wzp_7 _ (List.mem_of_getElem? (i := 2) rfl), by decide +kernel⟩
theorem am_mok_143 : am_mok (yX11_apart, cX11_apart, 3, (some .int), 0, 2, 0, 0) := ⟨am_wc_7 _ (List.mem_of_getElem? (i := 3) rfl), am_wi_7 _ (List.mem_of_getElem? (i := 3) rfl), am_wk_7 _ (List.mem_of_getElem? (i := 3) rfl), fun _ => am_wzp_7 _ (List.mem_of_getElem? (i := 3) rfl), by decide +kernel⟩
theorem am_mok_144 : am_mok (yX11_nearest, cX11_nearest, 6, (some .int), 0, 1, 0, 0) := ⟨am_wc_7 _ (List.mem_of_getElem? (i := 4) rfl), am_wi_7 _ (List.mem_of_getElem? (i := 4) rfl), am_wk_7 _ (List.mem_of_getElem? (i := 4) rfl), fun _ => am_wzp_7 _ (List.mem_of_getElem? (i := 4) rfl), by decide +kernel⟩
theorem am_mok_145 : am_mok (yX11_book, cX11_book, 2, (some .boolean), 0, 1, 0, 0) := ⟨am_wc_7 _ (List.mem_of_getElem? (i := 5) rfl), am_wi_7 _ (List.mem_of_getElem? (i := 5) rfl), am_wk_7 _ (List.mem_of_getElem? (i := 5) rfl), fun _ => am_wzp_7 _ (List.mem_of_getElem? (i := 5) rfl), by decide +kernel⟩
theorem am_mok_146 : am_mok (yX11_kept, cX11_kept, 1, (some .int), 0, 0, 0, 0) := ⟨am_wc_7 _ (List.mem_of_getElem? (i := 6) rfl), am_wi_7 _ (List.mem_of_getElem? (i := 6) rfl), am_wk_7 _ (List.mem_of_getElem? (i := 6) rfl), fun _ => am_wzp_7 _ (List.mem_of_getElem? (i := 6) rfl), by decide +kernel⟩
theorem am_mok_147 : am_mok (yX11_image, cX11_image, 2, (some .boolean), 0, 1, 8, 1246) := ⟨am_wc_7 _ (List.mem_of_getElem? (i := 7) rfl), am_wi_7 _ (List.mem_of_getElem? (i := 7) rfl), am_wk_7 _ (List.mem_of_getElem? (i := 7) rfl), fun _ => am_wzp_7 _ (List.mem_of_getElem? (i := 7) rfl), by decide +kernel⟩
theorem am_mok_148 : am_mok (yX11_restore, cX11_restore, 2, (some .boolean), 0, 1, 0, 0) := ⟨am_wc_7 _ (List.mem_of_getElem? (i := 8) rfl), am_wi_7 _ (List.mem_of_getElem? (i := 8) rfl), am_wk_7 _ (List.mem_of_getElem? (i := 8) rfl), fun _ => am_wzp_7 _ (List.mem_of_getElem? (i := 8) rfl), by decide +kernel⟩
theorem am_mok_149 : am_mok (yX11_status, cX11_status, 2, (some .int), 0, 1, 0, 0) := ⟨am_wc_7 _ (List.mem_of_getElem? (i := 9) rfl), am_wi_7 _ (List.mem_of_getElem? (i := 9) rfl), am_wk_7 _ (List.mem_of_getElem? (i := 9) rfl), fun _ => am_wzp_7 _ (List.mem_of_getElem? (i := 9) rfl), by decide +kernel⟩
theorem am_mok_150 : am_mok (yX11_count, cX11_count, 2, (some .int), 0, 1, 0, 0) := ⟨am_wc_7 _ (List.mem_of_getElem? (i := 10) rfl), am_wi_7 _ (List.mem_of_getElem? (i := 10) rfl), am_wk_7 _ (List.mem_of_getElem? (i := 10) rfl), fun _ => am_wzp_7 _ (List.mem_of_getElem? (i := 10) rfl), by decide +kernel⟩
theorem am_mok_151 : am_mok (yX11_refuse, cX11_refuse, 2, (some .int), 0, 1, 0, 0) := ⟨am_wc_7 _ (List.mem_of_getElem? (i := 11) rfl), am_wi_7 _ (List.mem_of_getElem? (i := 11) rfl), am_wk_7 _ (List.mem_of_getElem? (i := 11) rfl), fun _ => am_wzs_7 _ (List.mem_of_getElem? (i := 0) rfl), by decide +kernel⟩
theorem am_mok_152 : am_mok (yX11_deny, cX11_deny, 2, (some .boolean), 0, 1, 0, 0) := ⟨am_wc_7 _ (List.mem_of_getElem? (i := 12) rfl), am_wi_7 _ (List.mem_of_getElem? (i := 12) rfl), am_wk_7 _ (List.mem_of_getElem? (i := 12) rfl), fun _ => am_wzs_7 _ (List.mem_of_getElem? (i := 1) rfl), by decide +kernel⟩
theorem am_mok_153 : am_mok (yX11_hasBabyTrial, cX11_hasBabyTrial, 3, (some .boolean), 0, 2, 0, 0) := ⟨am_wc_7 _ (List.mem_of_getElem? (i := 13) rfl), am_wi_7 _ (List.mem_of_getElem? (i := 13) rfl), am_wk_7 _ (List.mem_of_getElem? (i := 13) rfl), fun _ => am_wzs_7 _ (List.mem_of_getElem? (i := 2) rfl), by decide +kernel⟩
theorem am_mok_154 : am_mok (yX11_offFor, cX11_offFor, 5, (some .int), 0, 2, 0, 0) := ⟨am_wc_7 _ (List.mem_of_getElem? (i := 14) rfl), am_wi_7 _ (List.mem_of_getElem? (i := 14) rfl), am_wk_7 _ (List.mem_of_getElem? (i := 14) rfl), fun _ => am_wzs_7 _ (List.mem_of_getElem? (i := 3) rfl), by decide +kernel⟩
theorem am_mok_155 : am_mok (yX11_offOf, cX11_offOf, 7, (some .int), 0, 2, 0, 0) := ⟨am_wc_7 _ (List.mem_of_getElem? (i := 15) rfl), am_wi_7 _ (List.mem_of_getElem? (i := 15) rfl), am_wk_7 _ (List.mem_of_getElem? (i := 15) rfl), fun _ => am_wzs_7 _ (List.mem_of_getElem? (i := 4) rfl), by decide +kernel⟩
theorem am_mok_156 : am_mok (yX11_within, cX11_within, 3, (some .boolean), 1, 3, 0, 0) := ⟨am_wc_7 _ (List.mem_of_getElem? (i := 16) rfl), am_wi_7 _ (List.mem_of_getElem? (i := 16) rfl), am_wk_7 _ (List.mem_of_getElem? (i := 16) rfl), fun h => absurd h (by decide), by decide +kernel⟩
theorem am_mok_157 : am_mok (yX11_brought, cX11_brought, 3, (some .int), 1, 3, 0, 0) := ⟨am_wc_7 _ (List.mem_of_getElem? (i := 17) rfl), am_wi_7 _ (List.mem_of_getElem? (i := 17) rfl), am_wk_7 _ (List.mem_of_getElem? (i := 17) rfl), fun h => absurd h (by decide), by decide +kernel⟩
theorem am_mok_158 : am_mok (yX12_init, cX12_init, 1, none, 2, 0, 48, 74432) := ⟨am_wc_7 _ (List.mem_of_getElem? (i := 18) rfl), am_wi_7 _ (List.mem_of_getElem? (i := 18) rfl), am_wk_7 _ (List.mem_of_getElem? (i := 18) rfl), fun h => absurd h (by decide), by decide +kernel⟩
theorem am_mok_159 : am_mok (yX12_in, cX12_in, 6, (some .boolean), 1, 3, 0, 0) := ⟨am_wc_7 _ (List.mem_of_getElem? (i := 19) rfl), am_wi_7 _ (List.mem_of_getElem? (i := 19) rfl), am_wk_7 _ (List.mem_of_getElem? (i := 19) rfl), fun h => absurd h (by decide), by decide +kernel⟩
set_option maxRecDepth 100000 in
theorem am_wc_8 : ∀ w ∈ am_mt_8.map am_wc, w ∈ am_gt := am_in_r _ [1472, 1468, 1454, 1462, 1476, 1486, 1491, 1482, 1495, 1503, 1499, 1507, 1511, 1526, 1522, 1518, 1531, 1535, 1541, 1547] rfl (by decide +kernel)
set_option maxRecDepth 100000 in
theorem am_wi_8 : ∀ w ∈ am_mt_8.map am_wi, w ∈ am_gt := am_in_r _ [13, 13, 13, 13, 13, 13, 13, 13, 13, 13, 13, 13, 13, 13, 13, 13, 13, 13, 13, 13] (by decide +kernel) (by decide +kernel)
set_option maxRecDepth 100000 in
theorem am_wk_8 : ∀ w ∈ am_mt_8.map am_wk, w ∈ am_gt := am_in_r _ [1471, 1467, 1452, 1460, 1474, 1485, 1490, 1480, 1493, 1502, 1497, 1505, 1509, 1525, 1521, 1516, 1529, 1533, 1539, 1545] (by decide +kernel) (by decide +kernel)
set_option maxRecDepth 100000 in
theorem am_wzp_8 : ∀ w ∈ [Cond.selects RX12 yX12_status yX12_status, Cond.selects RX12 yX12_liked yX12_liked, Cond.selects RX12 yX12_screen yX12_screen, Cond.selects RX12 yX12_on yX12_on, Cond.selects RX12 yX12_plan yX12_plan, Cond.selects RX12 yX12_trial yX12_trial, Cond.selects RX12 yX12_row yX12_row, Cond.selects RX12 yX12_baby yX12_baby, Cond.selects RX12 yX12_gaze yX12_gaze, Cond.selects RX12 yX12_cried yX12_cried, Cond.selects RX12 yX12_rule yX12_rule, Cond.selects RX12 yX12_lean yX12_lean, Cond.selects RX12 yX12_reading yX12_reading], w ∈ am_gt := am_in_r _ [1453, 1461, 1475, 1481, 1494, 1498, 1506, 1510, 1517, 1530, 1534, 1540, 1546] (by decide +kernel) (by decide +kernel)
set_option maxRecDepth 100000 in
theorem am_wzs_8 : ∀ w ∈ [Cond.selects RX12 yX12_refuse yX12_refuse, Cond.selects RX12 yX12_deny yX12_deny, Cond.selects RX12 yX12_isScreen yX12_isScreen, Cond.selects RX12 yX12_isOdd yX12_isOdd, Cond.selects RX12 yX12_isPlan yX12_isPlan, Cond.selects RX12 yX12_isBaby yX12_isBaby, Cond.selects RX12 yX12_isTrial yX12_isTrial], w ∈ am_gt := am_in_s _ [36, 35, 37, 38, 39, 41, 40] (by decide +kernel) (by decide +kernel)
theorem am_mok_160 : am_mok (yX12_refuse, cX12_refuse, 3, (some .int), 0, 2, 0, 0) := ⟨am_wc_8 _ (List.mem_of_getElem? (i := 0) rfl), am_wi_8 _ (List.mem_of_getElem? (i := 0) rfl), am_wk_8 _ (List.mem_of_getElem? (i := 0) rfl), fun _ => am_wzs_8 _ (List.mem_of_getElem? (i := 0) rfl), by decide +kernel⟩
theorem am_mok_161 : am_mok (yX12_deny, cX12_deny, 3, (some .boolean), 0, 2, 0, 0) := ⟨am_wc_8 _ (List.mem_of_getElem? (i := 1) rfl), am_wi_8 _ (List.mem_of_getElem? (i := 1) rfl), am_wk_8 _ (List.mem_of_getElem? (i := 1) rfl), fun _ => am_wzs_8 _ (List.mem_of_getElem? (i := 1) rfl), by decide +kernel⟩
theorem am_mok_162 : am_mok (yX12_status, cX12_status, 2, (some .int), 0, 1, 0, 0) := ⟨am_wc_8 _ (List.mem_of_getElem? (i := 2) rfl), am_wi_8 _ (List.mem_of_getElem? (i := 2) rfl), am_wk_8 _ (List.mem_of_getElem? (i := 2) rfl), fun _ => am_wzp_8 _ (List.mem_of_getElem? (i := 0) rfl), by decide +kernel⟩
theorem am_mok_163 : am_mok (yX12_liked, cX12_liked, 3, (some .boolean), 0, 2, 0, 0) := ⟨am_wc_8 _ (List.mem_of_getElem? (i := 3) rfl), am_wi_8 _ (List.mem_of_getElem? (i := 3) rfl), am_wk_8 _ (List.mem_of_getElem? (i := 3) rfl), fun _ => am_wzp_8 _ (List.mem_of_getElem? (i := 1) rfl), by decide +kernel⟩
theorem am_mok_164 : am_mok (yX12_screen, cX12_screen, 6, (some .int), 0, 4, 0, 0) := ⟨am_wc_8 _ (List.mem_of_getElem? (i := 4) rfl), am_wi_8 _ (List.mem_of_getElem? (i := 4) rfl), am_wk_8 _ (List.mem_of_getElem? (i := 4) rfl), fun _ => am_wzp_8 _ (List.mem_of_getElem? (i := 2) rfl), by decide +kernel⟩
theorem am_mok_165 : am_mok (yX12_isScreen, cX12_isScreen, 2, (some .boolean), 0, 1, 0, 0) := ⟨am_wc_8 _ (List.mem_of_getElem? (i := 5) rfl), am_wi_8 _ (List.mem_of_getElem? (i := 5) rfl), am_wk_8 _ (List.mem_of_getElem? (i := 5) rfl), fun _ => am_wzs_8 _ (List.mem_of_getElem? (i := 2) rfl), by decide +kernel⟩
theorem am_mok_166 : am_mok (yX12_isOdd, cX12_isOdd, 2, (some .boolean), 0, 1, 0, 0) := ⟨am_wc_8 _ (List.mem_of_getElem? (i := 6) rfl), am_wi_8 _ (List.mem_of_getElem? (i := 6) rfl), am_wk_8 _ (List.mem_of_getElem? (i := 6) rfl), fun _ => am_wzs_8 _ (List.mem_of_getElem? (i := 3) rfl), by decide +kernel⟩
theorem am_mok_167 : am_mok (yX12_on, cX12_on, 3, (some .int), 0, 2, 0, 0) := ⟨am_wc_8 _ (List.mem_of_getElem? (i := 7) rfl), am_wi_8 _ (List.mem_of_getElem? (i := 7) rfl), am_wk_8 _ (List.mem_of_getElem? (i := 7) rfl), fun _ => am_wzp_8 _ (List.mem_of_getElem? (i := 3) rfl), by decide +kernel⟩
theorem am_mok_168 : am_mok (yX12_plan, cX12_plan, 1, (some .int), 0, 0, 0, 0) := ⟨am_wc_8 _ (List.mem_of_getElem? (i := 8) rfl), am_wi_8 _ (List.mem_of_getElem? (i := 8) rfl), am_wk_8 _ (List.mem_of_getElem? (i := 8) rfl), fun _ => am_wzp_8 _ (List.mem_of_getElem? (i := 4) rfl), by decide +kernel⟩
theorem am_mok_169 : am_mok (yX12_isPlan, cX12_isPlan, 2, (some .boolean), 0, 1, 0, 0) := ⟨am_wc_8 _ (List.mem_of_getElem? (i := 9) rfl), am_wi_8 _ (List.mem_of_getElem? (i := 9) rfl), am_wk_8 _ (List.mem_of_getElem? (i := 9) rfl), fun _ => am_wzs_8 _ (List.mem_of_getElem? (i := 4) rfl), by decide +kernel⟩
theorem am_mok_170 : am_mok (yX12_trial, cX12_trial, 7, (some .int), 0, 2, 0, 0) := ⟨am_wc_8 _ (List.mem_of_getElem? (i := 10) rfl), am_wi_8 _ (List.mem_of_getElem? (i := 10) rfl), am_wk_8 _ (List.mem_of_getElem? (i := 10) rfl), fun _ => am_wzp_8 _ (List.mem_of_getElem? (i := 5) rfl), by decide +kernel⟩
theorem am_mok_171 : am_mok (yX12_row, cX12_row, 3, (some .int), 0, 2, 0, 0) := ⟨am_wc_8 _ (List.mem_of_getElem? (i := 11) rfl), am_wi_8 _ (List.mem_of_getElem? (i := 11) rfl), am_wk_8 _ (List.mem_of_getElem? (i := 11) rfl), fun _ => am_wzp_8 _ (List.mem_of_getElem? (i := 6) rfl), by decide +kernel⟩
theorem am_mok_172 : am_mok (yX12_baby, cX12_baby, 5, (some .int), 0, 3, 0, 0) := ⟨am_wc_8 _ (List.mem_of_getElem? (i := 12) rfl), am_wi_8 _ (List.mem_of_getElem? (i := 12) rfl), am_wk_8 _ (List.mem_of_getElem? (i := 12) rfl), fun _ => am_wzp_8 _ (List.mem_of_getElem? (i := 7) rfl), by decide +kernel⟩
theorem am_mok_173 : am_mok (yX12_isBaby, cX12_isBaby, 2, (some .boolean), 0, 1, 0, 0) := ⟨am_wc_8 _ (List.mem_of_getElem? (i := 13) rfl), am_wi_8 _ (List.mem_of_getElem? (i := 13) rfl), am_wk_8 _ (List.mem_of_getElem? (i := 13) rfl), fun _ => am_wzs_8 _ (List.mem_of_getElem? (i := 5) rfl), by decide +kernel⟩
theorem am_mok_174 : am_mok (yX12_isTrial, cX12_isTrial, 3, (some .boolean), 0, 2, 0, 0) := ⟨am_wc_8 _ (List.mem_of_getElem? (i := 14) rfl), am_wi_8 _ (List.mem_of_getElem? (i := 14) rfl), am_wk_8 _ (List.mem_of_getElem? (i := 14) rfl), fun _ => am_wzs_8 _ (List.mem_of_getElem? (i := 6) rfl), by decide +kernel⟩
theorem am_mok_175 : am_mok (yX12_gaze, cX12_gaze, 7, (some .int), 0, 3, 0, 0) := ⟨am_wc_8 _ (List.mem_of_getElem? (i := 15) rfl), am_wi_8 _ (List.mem_of_getElem? (i := 15) rfl), am_wk_8 _ (List.mem_of_getElem? (i := 15) rfl), fun _ => am_wzp_8 _ (List.mem_of_getElem? (i := 8) rfl), by decide +kernel⟩
theorem am_mok_176 : am_mok (yX12_cried, cX12_cried, 3, (some .boolean), 0, 2, 0, 0) := ⟨am_wc_8 _ (List.mem_of_getElem? (i := 16) rfl), am_wi_8 _ (List.mem_of_getElem? (i := 16) rfl), am_wk_8 _ (List.mem_of_getElem? (i := 16) rfl), fun _ => am_wzp_8 _ (List.mem_of_getElem? (i := 9) rfl), by decide +kernel⟩
theorem am_mok_177 : am_mok (yX12_rule, cX12_rule, 4, (some .boolean), 0, 3, 0, 0) := ⟨am_wc_8 _ (List.mem_of_getElem? (i := 17) rfl), am_wi_8 _ (List.mem_of_getElem? (i := 17) rfl), am_wk_8 _ (List.mem_of_getElem? (i := 17) rfl), fun _ => am_wzp_8 _ (List.mem_of_getElem? (i := 10) rfl), by decide +kernel⟩
theorem am_mok_178 : am_mok (yX12_lean, cX12_lean, 2, (some .boolean), 0, 1, 0, 0) := ⟨am_wc_8 _ (List.mem_of_getElem? (i := 18) rfl), am_wi_8 _ (List.mem_of_getElem? (i := 18) rfl), am_wk_8 _ (List.mem_of_getElem? (i := 18) rfl), fun _ => am_wzp_8 _ (List.mem_of_getElem? (i := 11) rfl), by decide +kernel⟩
theorem am_mok_179 : am_mok (yX12_reading, cX12_reading, 3, (some .boolean), 0, 2, 0, 0) := ⟨am_wc_8 _ (List.mem_of_getElem? (i := 19) rfl), am_wi_8 _ (List.mem_of_getElem? (i := 19) rfl), am_wk_8 _ (List.mem_of_getElem? (i := 19) rfl), fun _ => am_wzp_8 _ (List.mem_of_getElem? (i := 12) rfl), by decide +kernel⟩
set_option maxRecDepth 100000 in
theorem am_wc_9 : ∀ w ∈ am_mt_9.map am_wc, w ∈ am_gt := am_in_r _ [1565, 1560, 1556, 1552, 1578, 1574, 1570, 1586, 1582, 1590, 1606, 1602, 1627, 1614, 1651, 1659, 1655, 1647, 1643, 1639] rfl (by decide +kernel)
set_option maxRecDepth 100000 in
theorem am_wi_9 : ∀ w ∈ am_mt_9.map am_wi, w ∈ am_gt := am_in_r _ [13, 13, 13, 13, 13, 13, 13, 13, 13, 13, 13, 13, 13, 13, 13, 13, 13, 13, 13, 13] (by decide +kernel) (by decide +kernel)
set_option maxRecDepth 100000 in
theorem am_wk_9 : ∀ w ∈ am_mt_9.map am_wk, w ∈ am_gt := am_in_r _ [1564, 1559, 1555, 1550, 1577, 1573, 1568, 1585, 1580, 1588, 1605, 1601, 1626, 1613, 1650, 1658, 1654, 1646, 1642, 1638] (by decide +kernel) (by decide +kernel)
set_option maxRecDepth 100000 in
theorem am_wzp_9 : ∀ w ∈ [Cond.selects RX12 yX12_length yX12_length, Cond.selects RX12 yX12_read yX12_read, Cond.selects RX12 yX12_feed yX12_feed, Cond.selects RX12 yX12_end yX12_end], w ∈ am_gt := am_in_r _ [1551, 1569, 1581, 1589] (by decide +kernel) (by decide +kernel)
set_option maxRecDepth 100000 in
theorem am_wzs_9 : ∀ w ∈ [Cond.selects RX12 yX12_screenOf yX12_screenOf, Cond.selects RX12 yX12_plain yX12_plain, Cond.selects RX12 yX12_lengthOf yX12_lengthOf, Cond.selects RX12 yX12_trialsOf yX12_trialsOf, Cond.selects RX12 yX12_readOf yX12_readOf, Cond.selects RX12 yX12_feeds yX12_feeds, Cond.selects RX12 yX12_between yX12_between, Cond.selects RX12 yX12_next yX12_next, Cond.selects RX12 yX12_passes yX12_passes, Cond.selects RX12 yX12_isWord yX12_isWord, Cond.selects RX12 yX12_isSign yX12_isSign, Cond.selects RX12 yX12_nameHere yX12_nameHere, Cond.selects RX12 yX12_mark yX12_mark, Cond.selects RX12 yX12_factor yX12_factor, Cond.selects RX12 yX12_product yX12_product, Cond.selects RX12 yX12_sum yX12_sum], w ∈ am_gt := am_in_s _ [44, 43, 42, 46, 45, 47, 50, 49, 53, 52, 59, 61, 60, 58, 57, 56] (by decide +kernel) (by decide +kernel)
theorem am_mok_180 : am_mok (yX12_screenOf, cX12_screenOf, 3, (some .int), 0, 2, 0, 0) := ⟨am_wc_9 _ (List.mem_of_getElem? (i := 0) rfl), am_wi_9 _ (List.mem_of_getElem? (i := 0) rfl), am_wk_9 _ (List.mem_of_getElem? (i := 0) rfl), fun _ => am_wzs_9 _ (List.mem_of_getElem? (i := 0) rfl), by decide +kernel⟩
theorem am_mok_181 : am_mok (yX12_plain, cX12_plain, 8, (some .int), 0, 2, 0, 0) := ⟨am_wc_9 _ (List.mem_of_getElem? (i := 1) rfl), am_wi_9 _ (List.mem_of_getElem? (i := 1) rfl), am_wk_9 _ (List.mem_of_getElem? (i := 1) rfl), fun _ => am_wzs_9 _ (List.mem_of_getElem? (i := 1) rfl), by decide +kernel⟩
theorem am_mok_182 : am_mok (yX12_lengthOf, cX12_lengthOf, 4, (some .int), 0, 2, 0, 0) := ⟨am_wc_9 _ (List.mem_of_getElem? (i := 2) rfl), am_wi_9 _ (List.mem_of_getElem? (i := 2) rfl), am_wk_9 _ (List.mem_of_getElem? (i := 2) rfl), fun _ => am_wzs_9 _ (List.mem_of_getElem? (i := 2) rfl), by decide +kernel⟩
theorem am_mok_183 : am_mok (yX12_length, cX12_length, 3, (some .int), 0, 2, 0, 0) := ⟨am_wc_9 _ (List.mem_of_getElem? (i := 3) rfl), am_wi_9 _ (List.mem_of_getElem? (i := 3) rfl), am_wk_9 _ (List.mem_of_getElem? (i := 3) rfl), fun _ => am_wzp_9 _ (List.mem_of_getElem? (i := 0) rfl), by decide +kernel⟩
theorem am_mok_184 : am_mok (yX12_trialsOf, cX12_trialsOf, 2, (some .int), 0, 1, 0, 0) := ⟨am_wc_9 _ (List.mem_of_getElem? (i := 4) rfl), am_wi_9 _ (List.mem_of_getElem? (i := 4) rfl), am_wk_9 _ (List.mem_of_getElem? (i := 4) rfl), fun _ => am_wzs_9 _ (List.mem_of_getElem? (i := 3) rfl), by decide +kernel⟩
theorem am_mok_185 : am_mok (yX12_readOf, cX12_readOf, 6, (some .int), 0, 2, 0, 0) := ⟨am_wc_9 _ (List.mem_of_getElem? (i := 5) rfl), am_wi_9 _ (List.mem_of_getElem? (i := 5) rfl), am_wk_9 _ (List.mem_of_getElem? (i := 5) rfl), fun _ => am_wzs_9 _ (List.mem_of_getElem? (i := 4) rfl), by decide +kernel⟩
theorem am_mok_186 : am_mok (yX12_read, cX12_read, 3, (some .int), 0, 2, 0, 0) := ⟨am_wc_9 _ (List.mem_of_getElem? (i := 6) rfl), am_wi_9 _ (List.mem_of_getElem? (i := 6) rfl), am_wk_9 _ (List.mem_of_getElem? (i := 6) rfl), fun _ => am_wzp_9 _ (List.mem_of_getElem? (i := 1) rfl), by decide +kernel⟩
theorem am_mok_187 : am_mok (yX12_feeds, cX12_feeds, 3, none, 0, 1, 0, 0) := ⟨am_wc_9 _ (List.mem_of_getElem? (i := 7) rfl), am_wi_9 _ (List.mem_of_getElem? (i := 7) rfl), am_wk_9 _ (List.mem_of_getElem? (i := 7) rfl), fun _ => am_wzs_9 _ (List.mem_of_getElem? (i := 5) rfl), by decide +kernel⟩
theorem am_mok_188 : am_mok (yX12_feed, cX12_feed, 6, (some .int), 0, 5, 0, 0) := ⟨am_wc_9 _ (List.mem_of_getElem? (i := 8) rfl), am_wi_9 _ (List.mem_of_getElem? (i := 8) rfl), am_wk_9 _ (List.mem_of_getElem? (i := 8) rfl), fun _ => am_wzp_9 _ (List.mem_of_getElem? (i := 2) rfl), by decide +kernel⟩
theorem am_mok_189 : am_mok (yX12_end, cX12_end, 2, (some .boolean), 0, 1, 0, 0) := ⟨am_wc_9 _ (List.mem_of_getElem? (i := 9) rfl), am_wi_9 _ (List.mem_of_getElem? (i := 9) rfl), am_wk_9 _ (List.mem_of_getElem? (i := 9) rfl), fun _ => am_wzp_9 _ (List.mem_of_getElem? (i := 3) rfl), by decide +kernel⟩
theorem am_mok_190 : am_mok (yX12_between, cX12_between, 4, (some .boolean), 0, 3, 0, 0) := ⟨am_wc_9 _ (List.mem_of_getElem? (i := 10) rfl), am_wi_9 _ (List.mem_of_getElem? (i := 10) rfl), am_wk_9 _ (List.mem_of_getElem? (i := 10) rfl), fun _ => am_wzs_9 _ (List.mem_of_getElem? (i := 6) rfl), by decide +kernel⟩
theorem am_mok_191 : am_mok (yX12_next, cX12_next, 1, none, 0, 0, 0, 0) := ⟨am_wc_9 _ (List.mem_of_getElem? (i := 11) rfl), am_wi_9 _ (List.mem_of_getElem? (i := 11) rfl), am_wk_9 _ (List.mem_of_getElem? (i := 11) rfl), fun _ => am_wzs_9 _ (List.mem_of_getElem? (i := 7) rfl), by decide +kernel⟩
theorem am_mok_192 : am_mok (yX12_passes, cX12_passes, 2, (some .boolean), 0, 1, 0, 0) := ⟨am_wc_9 _ (List.mem_of_getElem? (i := 12) rfl), am_wi_9 _ (List.mem_of_getElem? (i := 12) rfl), am_wk_9 _ (List.mem_of_getElem? (i := 12) rfl), fun _ => am_wzs_9 _ (List.mem_of_getElem? (i := 8) rfl), by decide +kernel⟩
theorem am_mok_193 : am_mok (yX12_isWord, cX12_isWord, 3, (some .boolean), 0, 1, 0, 0) := ⟨am_wc_9 _ (List.mem_of_getElem? (i := 13) rfl), am_wi_9 _ (List.mem_of_getElem? (i := 13) rfl), am_wk_9 _ (List.mem_of_getElem? (i := 13) rfl), fun _ => am_wzs_9 _ (List.mem_of_getElem? (i := 9) rfl), by decide +kernel⟩
theorem am_mok_194 : am_mok (yX12_isSign, cX12_isSign, 2, (some .boolean), 0, 1, 0, 0) := ⟨am_wc_9 _ (List.mem_of_getElem? (i := 14) rfl), am_wi_9 _ (List.mem_of_getElem? (i := 14) rfl), am_wk_9 _ (List.mem_of_getElem? (i := 14) rfl), fun _ => am_wzs_9 _ (List.mem_of_getElem? (i := 10) rfl), by decide +kernel⟩
theorem am_mok_195 : am_mok (yX12_nameHere, cX12_nameHere, 2, (some .int), 0, 0, 0, 0) := ⟨am_wc_9 _ (List.mem_of_getElem? (i := 15) rfl), am_wi_9 _ (List.mem_of_getElem? (i := 15) rfl), am_wk_9 _ (List.mem_of_getElem? (i := 15) rfl), fun _ => am_wzs_9 _ (List.mem_of_getElem? (i := 11) rfl), by decide +kernel⟩
theorem am_mok_196 : am_mok (yX12_mark, cX12_mark, 2, none, 0, 1, 0, 0) := ⟨am_wc_9 _ (List.mem_of_getElem? (i := 16) rfl), am_wi_9 _ (List.mem_of_getElem? (i := 16) rfl), am_wk_9 _ (List.mem_of_getElem? (i := 16) rfl), fun _ => am_wzs_9 _ (List.mem_of_getElem? (i := 12) rfl), by decide +kernel⟩
theorem am_mok_197 : am_mok (yX12_factor, cX12_factor, 4, (some .boolean), 0, 1, 0, 0) := ⟨am_wc_9 _ (List.mem_of_getElem? (i := 17) rfl), am_wi_9 _ (List.mem_of_getElem? (i := 17) rfl), am_wk_9 _ (List.mem_of_getElem? (i := 17) rfl), fun _ => am_wzs_9 _ (List.mem_of_getElem? (i := 13) rfl), by decide +kernel⟩
theorem am_mok_198 : am_mok (yX12_product, cX12_product, 3, (some .boolean), 0, 1, 0, 0) := ⟨am_wc_9 _ (List.mem_of_getElem? (i := 18) rfl), am_wi_9 _ (List.mem_of_getElem? (i := 18) rfl), am_wk_9 _ (List.mem_of_getElem? (i := 18) rfl), fun _ => am_wzs_9 _ (List.mem_of_getElem? (i := 14) rfl), by decide +kernel⟩
theorem am_mok_199 : am_mok (yX12_sum, cX12_sum, 3, (some .boolean), 0, 1, 0, 0) := ⟨am_wc_9 _ (List.mem_of_getElem? (i := 19) rfl), am_wi_9 _ (List.mem_of_getElem? (i := 19) rfl), am_wk_9 _ (List.mem_of_getElem? (i := 19) rfl), fun _ => am_wzs_9 _ (List.mem_of_getElem? (i := 15) rfl), by decide +kernel⟩
set_option maxRecDepth 100000 in
theorem am_wc_10 : ∀ w ∈ am_mt_10.map am_wc, w ∈ am_gt := am_in_r _ [1635, 1631, 1663, 1610, 1598, 1594, 1670, 1693, 1690, 1678, 1682, 1686, 1674, 1709, 1705, 1713, 1721, 1717, 1729, 1737] rfl (by decide +kernel)
set_option maxRecDepth 100000 in
theorem am_wi_10 : ∀ w ∈ am_mt_10.map am_wi, w ∈ am_gt := am_in_r _ [13, 13, 13, 13, 13, 13, 13, 13, 13, 13, 13, 13, 13, 13, 13, 13, 13, 13, 13, 13] (by decide +kernel) (by decide +kernel)
set_option maxRecDepth 100000 in
theorem am_wk_10 : ∀ w ∈ am_mt_10.map am_wk, w ∈ am_gt := am_in_r _ [1634, 1630, 1662, 1609, 1597, 1592, 1668, 1692, 1689, 1677, 1681, 1685, 1672, 1708, 1703, 1711, 1720, 1715, 1728, 1736] (by decide +kernel) (by decide +kernel)
set_option maxRecDepth 100000 in
theorem am_wzp_10 : ∀ w ∈ [Cond.selects RX12 yX12_fault yX12_fault, Cond.selects RX12 yX12_laws yX12_laws, Cond.selects RX12 yX12_says yX12_says, Cond.selects RX12 yX12_out yX12_out, Cond.selects RX12 yX12_leave yX12_leave, Cond.selects RX12 yX12_difference yX12_difference], w ∈ am_gt := am_in_r _ [1593, 1669, 1673, 1704, 1712, 1716] (by decide +kernel) (by decide +kernel)
set_option maxRecDepth 100000 in
theorem am_wzs_10 : ∀ w ∈ [Cond.selects RX12 yX12_whole yX12_whole, Cond.selects RX12 yX12_clause yX12_clause, Cond.selects RX12 yX12_newName yX12_newName, Cond.selects RX12 yX12_line yX12_line, Cond.selects RX12 yX12_reads yX12_reads, Cond.selects RX12 yX12_worked yX12_worked, Cond.selects RX12 yX12_isLaw yX12_isLaw, Cond.selects RX12 yX12_laysPlan yX12_laysPlan, Cond.selects RX12 yX12_saysRow yX12_saysRow, Cond.selects RX12 yX12_outBy yX12_outBy, Cond.selects RX12 yX12_differenceOf yX12_differenceOf, Cond.selects RX12 yX12_counts yX12_counts, Cond.selects RX12 yX12_ofThousand yX12_ofThousand], w ∈ am_gt := am_in_s _ [55, 54, 62, 51, 48, 66, 63, 64, 65, 67, 68, 69, 70] (by decide +kernel) (by decide +kernel)
theorem am_mok_200 : am_mok (yX12_whole, cX12_whole, 3, (some .boolean), 0, 1, 0, 0) := ⟨am_wc_10 _ (List.mem_of_getElem? (i := 0) rfl), am_wi_10 _ (List.mem_of_getElem? (i := 0) rfl), am_wk_10 _ (List.mem_of_getElem? (i := 0) rfl), fun _ => am_wzs_10 _ (List.mem_of_getElem? (i := 0) rfl), by decide +kernel⟩
theorem am_mok_201 : am_mok (yX12_clause, cX12_clause, 2, (some .boolean), 0, 1, 0, 0) := ⟨am_wc_10 _ (List.mem_of_getElem? (i := 1) rfl), am_wi_10 _ (List.mem_of_getElem? (i := 1) rfl), am_wk_10 _ (List.mem_of_getElem? (i := 1) rfl), fun _ => am_wzs_10 _ (List.mem_of_getElem? (i := 1) rfl), by decide +kernel⟩
theorem am_mok_202 : am_mok (yX12_newName, cX12_newName, 4, (some .long), 0, 0, 0, 0) := ⟨am_wc_10 _ (List.mem_of_getElem? (i := 2) rfl), am_wi_10 _ (List.mem_of_getElem? (i := 2) rfl), am_wk_10 _ (List.mem_of_getElem? (i := 2) rfl), fun _ => am_wzs_10 _ (List.mem_of_getElem? (i := 2) rfl), by decide +kernel⟩
theorem am_mok_203 : am_mok (yX12_line, cX12_line, 3, (some .boolean), 0, 0, 0, 0) := ⟨am_wc_10 _ (List.mem_of_getElem? (i := 3) rfl), am_wi_10 _ (List.mem_of_getElem? (i := 3) rfl), am_wk_10 _ (List.mem_of_getElem? (i := 3) rfl), fun _ => am_wzs_10 _ (List.mem_of_getElem? (i := 3) rfl), by decide +kernel⟩
theorem am_mok_204 : am_mok (yX12_reads, cX12_reads, 2, none, 0, 0, 0, 0) := ⟨am_wc_10 _ (List.mem_of_getElem? (i := 4) rfl), am_wi_10 _ (List.mem_of_getElem? (i := 4) rfl), am_wk_10 _ (List.mem_of_getElem? (i := 4) rfl), fun _ => am_wzs_10 _ (List.mem_of_getElem? (i := 4) rfl), by decide +kernel⟩
theorem am_mok_205 : am_mok (yX12_fault, cX12_fault, 1, (some .int), 0, 0, 0, 0) := ⟨am_wc_10 _ (List.mem_of_getElem? (i := 5) rfl), am_wi_10 _ (List.mem_of_getElem? (i := 5) rfl), am_wk_10 _ (List.mem_of_getElem? (i := 5) rfl), fun _ => am_wzp_10 _ (List.mem_of_getElem? (i := 0) rfl), by decide +kernel⟩
theorem am_mok_206 : am_mok (yX12_laws, cX12_laws, 2, (some .int), 0, 0, 0, 0) := ⟨am_wc_10 _ (List.mem_of_getElem? (i := 6) rfl), am_wi_10 _ (List.mem_of_getElem? (i := 6) rfl), am_wk_10 _ (List.mem_of_getElem? (i := 6) rfl), fun _ => am_wzp_10 _ (List.mem_of_getElem? (i := 1) rfl), by decide +kernel⟩
theorem am_mok_207 : am_mok (yX12_brought, cX12_brought, 2, (some .int), 1, 1, 0, 0) := ⟨am_wc_10 _ (List.mem_of_getElem? (i := 7) rfl), am_wi_10 _ (List.mem_of_getElem? (i := 7) rfl), am_wk_10 _ (List.mem_of_getElem? (i := 7) rfl), fun h => absurd h (by decide), by decide +kernel⟩
theorem am_mok_208 : am_mok (yX12_worked, cX12_worked, 9, (some .int), 0, 1, 0, 0) := ⟨am_wc_10 _ (List.mem_of_getElem? (i := 8) rfl), am_wi_10 _ (List.mem_of_getElem? (i := 8) rfl), am_wk_10 _ (List.mem_of_getElem? (i := 8) rfl), fun _ => am_wzs_10 _ (List.mem_of_getElem? (i := 5) rfl), by decide +kernel⟩
theorem am_mok_209 : am_mok (yX12_isLaw, cX12_isLaw, 2, (some .boolean), 0, 1, 0, 0) := ⟨am_wc_10 _ (List.mem_of_getElem? (i := 9) rfl), am_wi_10 _ (List.mem_of_getElem? (i := 9) rfl), am_wk_10 _ (List.mem_of_getElem? (i := 9) rfl), fun _ => am_wzs_10 _ (List.mem_of_getElem? (i := 6) rfl), by decide +kernel⟩
theorem am_mok_210 : am_mok (yX12_laysPlan, cX12_laysPlan, 3, none, 0, 1, 0, 0) := ⟨am_wc_10 _ (List.mem_of_getElem? (i := 10) rfl), am_wi_10 _ (List.mem_of_getElem? (i := 10) rfl), am_wk_10 _ (List.mem_of_getElem? (i := 10) rfl), fun _ => am_wzs_10 _ (List.mem_of_getElem? (i := 7) rfl), by decide +kernel⟩
theorem am_mok_211 : am_mok (yX12_saysRow, cX12_saysRow, 8, none, 0, 2, 0, 0) := ⟨am_wc_10 _ (List.mem_of_getElem? (i := 11) rfl), am_wi_10 _ (List.mem_of_getElem? (i := 11) rfl), am_wk_10 _ (List.mem_of_getElem? (i := 11) rfl), fun _ => am_wzs_10 _ (List.mem_of_getElem? (i := 8) rfl), by decide +kernel⟩
theorem am_mok_212 : am_mok (yX12_says, cX12_says, 5, (some .int), 0, 4, 0, 0) := ⟨am_wc_10 _ (List.mem_of_getElem? (i := 12) rfl), am_wi_10 _ (List.mem_of_getElem? (i := 12) rfl), am_wk_10 _ (List.mem_of_getElem? (i := 12) rfl), fun _ => am_wzp_10 _ (List.mem_of_getElem? (i := 2) rfl), by decide +kernel⟩
theorem am_mok_213 : am_mok (yX12_outBy, cX12_outBy, 4, (some .int), 0, 1, 0, 0) := ⟨am_wc_10 _ (List.mem_of_getElem? (i := 13) rfl), am_wi_10 _ (List.mem_of_getElem? (i := 13) rfl), am_wk_10 _ (List.mem_of_getElem? (i := 13) rfl), fun _ => am_wzs_10 _ (List.mem_of_getElem? (i := 9) rfl), by decide +kernel⟩
theorem am_mok_214 : am_mok (yX12_out, cX12_out, 4, (some .int), 0, 2, 0, 0) := ⟨am_wc_10 _ (List.mem_of_getElem? (i := 14) rfl), am_wi_10 _ (List.mem_of_getElem? (i := 14) rfl), am_wk_10 _ (List.mem_of_getElem? (i := 14) rfl), fun _ => am_wzp_10 _ (List.mem_of_getElem? (i := 3) rfl), by decide +kernel⟩
theorem am_mok_215 : am_mok (yX12_leave, cX12_leave, 3, (some .boolean), 0, 2, 0, 0) := ⟨am_wc_10 _ (List.mem_of_getElem? (i := 15) rfl), am_wi_10 _ (List.mem_of_getElem? (i := 15) rfl), am_wk_10 _ (List.mem_of_getElem? (i := 15) rfl), fun _ => am_wzp_10 _ (List.mem_of_getElem? (i := 4) rfl), by decide +kernel⟩
theorem am_mok_216 : am_mok (yX12_differenceOf, cX12_differenceOf, 8, (some .int), 0, 1, 0, 0) := ⟨am_wc_10 _ (List.mem_of_getElem? (i := 16) rfl), am_wi_10 _ (List.mem_of_getElem? (i := 16) rfl), am_wk_10 _ (List.mem_of_getElem? (i := 16) rfl), fun _ => am_wzs_10 _ (List.mem_of_getElem? (i := 10) rfl), by decide +kernel⟩
theorem am_mok_217 : am_mok (yX12_difference, cX12_difference, 2, (some .int), 0, 1, 0, 0) := ⟨am_wc_10 _ (List.mem_of_getElem? (i := 17) rfl), am_wi_10 _ (List.mem_of_getElem? (i := 17) rfl), am_wk_10 _ (List.mem_of_getElem? (i := 17) rfl), fun _ => am_wzp_10 _ (List.mem_of_getElem? (i := 5) rfl), by decide +kernel⟩
theorem am_mok_218 : am_mok (yX12_counts, cX12_counts, 5, none, 0, 2, 0, 0) := ⟨am_wc_10 _ (List.mem_of_getElem? (i := 18) rfl), am_wi_10 _ (List.mem_of_getElem? (i := 18) rfl), am_wk_10 _ (List.mem_of_getElem? (i := 18) rfl), fun _ => am_wzs_10 _ (List.mem_of_getElem? (i := 11) rfl), by decide +kernel⟩
theorem am_mok_219 : am_mok (yX12_ofThousand, cX12_ofThousand, 1, (some .int), 0, 0, 0, 0) := ⟨am_wc_10 _ (List.mem_of_getElem? (i := 19) rfl), am_wi_10 _ (List.mem_of_getElem? (i := 19) rfl), am_wk_10 _ (List.mem_of_getElem? (i := 19) rfl), fun _ => am_wzs_10 _ (List.mem_of_getElem? (i := 12) rfl), by decide +kernel⟩
set_option maxRecDepth 100000 in
theorem am_wc_11 : ∀ w ∈ am_mt_11.map am_wc, w ∈ am_gt := am_in_r _ [1725, 1742, 1746, 1751, 1755, 1760, 1764, 1780, 1776, 1772, 1768, 1788, 1796, 1792, 1811, 1807, 1803, 1815, 1820, 1832] rfl (by decide +kernel)
set_option maxRecDepth 100000 in
theorem am_wi_11 : ∀ w ∈ am_mt_11.map am_wi, w ∈ am_gt := am_in_r _ [13, 13, 13, 13, 13, 13, 13, 13, 13, 13, 13, 13, 13, 13, 13, 13, 13, 13, 13, 13] (by decide +kernel) (by decide +kernel)
set_option maxRecDepth 100000 in
theorem am_wk_11 : ∀ w ∈ am_mt_11.map am_wk, w ∈ am_gt := am_in_r _ [1723, 1740, 1744, 1749, 1753, 1758, 1762, 1779, 1775, 1771, 1766, 1786, 1795, 1790, 1810, 1806, 1801, 1813, 1818, 1831] (by decide +kernel) (by decide +kernel)
set_option maxRecDepth 100000 in
theorem am_wzp_11 : ∀ w ∈ [Cond.selects RX12 yX12_odds yX12_odds, Cond.selects RX12 yX12_after yX12_after, Cond.selects RX12 yX12_leaving yX12_leaving, Cond.selects RX12 yX12_house yX12_house, Cond.selects RX12 yX12_joined yX12_joined, Cond.selects RX12 yX12_span yX12_span, Cond.selects RX12 yX12_spread yX12_spread, Cond.selects RX12 yX12_world yX12_world, Cond.selects RX12 yX12_worlds yX12_worlds, Cond.selects RX12 yX12_parts yX12_parts, Cond.selects RX12 yX12_next_ yX12_next_, Cond.selects RX12 yX12_fresh yX12_fresh, Cond.selects RX12 yX12_settled yX12_settled], w ∈ am_gt := am_in_r _ [1724, 1741, 1745, 1750, 1754, 1759, 1763, 1767, 1787, 1791, 1802, 1814, 1819] (by decide +kernel) (by decide +kernel)
set_option maxRecDepth 100000 in
theorem am_wzs_11 : ∀ w ∈ [Cond.selects RX12 yX12_lot yX12_lot, Cond.selects RX12 yX12_draws yX12_draws, Cond.selects RX12 yX12_isLawOrNone yX12_isLawOrNone, Cond.selects RX12 yX12_signOf yX12_signOf, Cond.selects RX12 yX12_rates yX12_rates, Cond.selects RX12 yX12_rowsFrom yX12_rowsFrom, Cond.selects RX12 yX12_offOf yX12_offOf], w ∈ am_gt := am_in_s _ [73, 72, 71, 74, 76, 75, 78] (by decide +kernel) (by decide +kernel)
theorem am_mok_220 : am_mok (yX12_odds, cX12_odds, 2, (some .int), 0, 1, 0, 0) := ⟨am_wc_11 _ (List.mem_of_getElem? (i := 0) rfl), am_wi_11 _ (List.mem_of_getElem? (i := 0) rfl), am_wk_11 _ (List.mem_of_getElem? (i := 0) rfl), fun _ => am_wzp_11 _ (List.mem_of_getElem? (i := 0) rfl), by decide +kernel⟩
theorem am_mok_221 : am_mok (yX12_after, cX12_after, 16, (some .int), 0, 1, 0, 0) := ⟨am_wc_11 _ (List.mem_of_getElem? (i := 1) rfl), am_wi_11 _ (List.mem_of_getElem? (i := 1) rfl), am_wk_11 _ (List.mem_of_getElem? (i := 1) rfl), fun _ => am_wzp_11 _ (List.mem_of_getElem? (i := 1) rfl), by decide +kernel⟩
theorem am_mok_222 : am_mok (yX12_leaving, cX12_leaving, 5, (some .int), 0, 1, 0, 0) := ⟨am_wc_11 _ (List.mem_of_getElem? (i := 2) rfl), am_wi_11 _ (List.mem_of_getElem? (i := 2) rfl), am_wk_11 _ (List.mem_of_getElem? (i := 2) rfl), fun _ => am_wzp_11 _ (List.mem_of_getElem? (i := 2) rfl), by decide +kernel⟩
theorem am_mok_223 : am_mok (yX12_house, cX12_house, 6, (some .int), 0, 2, 0, 0) := ⟨am_wc_11 _ (List.mem_of_getElem? (i := 3) rfl), am_wi_11 _ (List.mem_of_getElem? (i := 3) rfl), am_wk_11 _ (List.mem_of_getElem? (i := 3) rfl), fun _ => am_wzp_11 _ (List.mem_of_getElem? (i := 3) rfl), by decide +kernel⟩
theorem am_mok_224 : am_mok (yX12_joined, cX12_joined, 5, (some .int), 0, 1, 0, 0) := ⟨am_wc_11 _ (List.mem_of_getElem? (i := 4) rfl), am_wi_11 _ (List.mem_of_getElem? (i := 4) rfl), am_wk_11 _ (List.mem_of_getElem? (i := 4) rfl), fun _ => am_wzp_11 _ (List.mem_of_getElem? (i := 4) rfl), by decide +kernel⟩
theorem am_mok_225 : am_mok (yX12_span, cX12_span, 6, (some .int), 0, 2, 0, 0) := ⟨am_wc_11 _ (List.mem_of_getElem? (i := 5) rfl), am_wi_11 _ (List.mem_of_getElem? (i := 5) rfl), am_wk_11 _ (List.mem_of_getElem? (i := 5) rfl), fun _ => am_wzp_11 _ (List.mem_of_getElem? (i := 5) rfl), by decide +kernel⟩
theorem am_mok_226 : am_mok (yX12_spread, cX12_spread, 3, (some .boolean), 0, 2, 0, 0) := ⟨am_wc_11 _ (List.mem_of_getElem? (i := 6) rfl), am_wi_11 _ (List.mem_of_getElem? (i := 6) rfl), am_wk_11 _ (List.mem_of_getElem? (i := 6) rfl), fun _ => am_wzp_11 _ (List.mem_of_getElem? (i := 6) rfl), by decide +kernel⟩
theorem am_mok_227 : am_mok (yX12_lot, cX12_lot, 2, (some .int), 0, 1, 0, 0) := ⟨am_wc_11 _ (List.mem_of_getElem? (i := 7) rfl), am_wi_11 _ (List.mem_of_getElem? (i := 7) rfl), am_wk_11 _ (List.mem_of_getElem? (i := 7) rfl), fun _ => am_wzs_11 _ (List.mem_of_getElem? (i := 0) rfl), by decide +kernel⟩
theorem am_mok_228 : am_mok (yX12_draws, cX12_draws, 8, (some .int), 0, 2, 0, 0) := ⟨am_wc_11 _ (List.mem_of_getElem? (i := 8) rfl), am_wi_11 _ (List.mem_of_getElem? (i := 8) rfl), am_wk_11 _ (List.mem_of_getElem? (i := 8) rfl), fun _ => am_wzs_11 _ (List.mem_of_getElem? (i := 1) rfl), by decide +kernel⟩
theorem am_mok_229 : am_mok (yX12_isLawOrNone, cX12_isLawOrNone, 2, (some .boolean), 0, 1, 0, 0) := ⟨am_wc_11 _ (List.mem_of_getElem? (i := 9) rfl), am_wi_11 _ (List.mem_of_getElem? (i := 9) rfl), am_wk_11 _ (List.mem_of_getElem? (i := 9) rfl), fun _ => am_wzs_11 _ (List.mem_of_getElem? (i := 2) rfl), by decide +kernel⟩
theorem am_mok_230 : am_mok (yX12_world, cX12_world, 3, (some .int), 0, 2, 0, 0) := ⟨am_wc_11 _ (List.mem_of_getElem? (i := 10) rfl), am_wi_11 _ (List.mem_of_getElem? (i := 10) rfl), am_wk_11 _ (List.mem_of_getElem? (i := 10) rfl), fun _ => am_wzp_11 _ (List.mem_of_getElem? (i := 7) rfl), by decide +kernel⟩
theorem am_mok_231 : am_mok (yX12_worlds, cX12_worlds, 8, (some .int), 0, 4, 0, 0) := ⟨am_wc_11 _ (List.mem_of_getElem? (i := 11) rfl), am_wi_11 _ (List.mem_of_getElem? (i := 11) rfl), am_wk_11 _ (List.mem_of_getElem? (i := 11) rfl), fun _ => am_wzp_11 _ (List.mem_of_getElem? (i := 8) rfl), by decide +kernel⟩
theorem am_mok_232 : am_mok (yX12_signOf, cX12_signOf, 8, (some .int), 0, 2, 0, 0) := ⟨am_wc_11 _ (List.mem_of_getElem? (i := 12) rfl), am_wi_11 _ (List.mem_of_getElem? (i := 12) rfl), am_wk_11 _ (List.mem_of_getElem? (i := 12) rfl), fun _ => am_wzs_11 _ (List.mem_of_getElem? (i := 3) rfl), by decide +kernel⟩
theorem am_mok_233 : am_mok (yX12_parts, cX12_parts, 5, (some .int), 0, 4, 0, 0) := ⟨am_wc_11 _ (List.mem_of_getElem? (i := 13) rfl), am_wi_11 _ (List.mem_of_getElem? (i := 13) rfl), am_wk_11 _ (List.mem_of_getElem? (i := 13) rfl), fun _ => am_wzp_11 _ (List.mem_of_getElem? (i := 9) rfl), by decide +kernel⟩
theorem am_mok_234 : am_mok (yX12_rates, cX12_rates, 5, none, 0, 1, 0, 0) := ⟨am_wc_11 _ (List.mem_of_getElem? (i := 14) rfl), am_wi_11 _ (List.mem_of_getElem? (i := 14) rfl), am_wk_11 _ (List.mem_of_getElem? (i := 14) rfl), fun _ => am_wzs_11 _ (List.mem_of_getElem? (i := 4) rfl), by decide +kernel⟩
theorem am_mok_235 : am_mok (yX12_rowsFrom, cX12_rowsFrom, 6, none, 0, 4, 0, 0) := ⟨am_wc_11 _ (List.mem_of_getElem? (i := 15) rfl), am_wi_11 _ (List.mem_of_getElem? (i := 15) rfl), am_wk_11 _ (List.mem_of_getElem? (i := 15) rfl), fun _ => am_wzs_11 _ (List.mem_of_getElem? (i := 5) rfl), by decide +kernel⟩
theorem am_mok_236 : am_mok (yX12_next_, cX12_next_, 5, (some .int), 0, 3, 0, 0) := ⟨am_wc_11 _ (List.mem_of_getElem? (i := 16) rfl), am_wi_11 _ (List.mem_of_getElem? (i := 16) rfl), am_wk_11 _ (List.mem_of_getElem? (i := 16) rfl), fun _ => am_wzp_11 _ (List.mem_of_getElem? (i := 10) rfl), by decide +kernel⟩
theorem am_mok_237 : am_mok (yX12_fresh, cX12_fresh, 8, (some .int), 0, 1, 0, 0) := ⟨am_wc_11 _ (List.mem_of_getElem? (i := 17) rfl), am_wi_11 _ (List.mem_of_getElem? (i := 17) rfl), am_wk_11 _ (List.mem_of_getElem? (i := 17) rfl), fun _ => am_wzp_11 _ (List.mem_of_getElem? (i := 11) rfl), by decide +kernel⟩
theorem am_mok_238 : am_mok (yX12_settled, cX12_settled, 7, (some .int), 0, 1, 0, 0) := ⟨am_wc_11 _ (List.mem_of_getElem? (i := 18) rfl), am_wi_11 _ (List.mem_of_getElem? (i := 18) rfl), am_wk_11 _ (List.mem_of_getElem? (i := 18) rfl), fun _ => am_wzp_11 _ (List.mem_of_getElem? (i := 12) rfl), by decide +kernel⟩
theorem am_mok_239 : am_mok (yX12_offOf, cX12_offOf, 6, (some .int), 0, 2, 0, 0) := ⟨am_wc_11 _ (List.mem_of_getElem? (i := 19) rfl), am_wi_11 _ (List.mem_of_getElem? (i := 19) rfl), am_wk_11 _ (List.mem_of_getElem? (i := 19) rfl), fun _ => am_wzs_11 _ (List.mem_of_getElem? (i := 6) rfl), by decide +kernel⟩
set_option maxRecDepth 100000 in
theorem am_wc_12 : ∀ w ∈ am_mt_12.map am_wc, w ∈ am_gt := am_in_r _ [1828, 1824, 1837, 1843, 1852, 1848, 1864, 1860, 1856, 1868, 1872, 1125, 1732, 1040, 1799, 1618, 603, 1622, 607, 615] rfl (by decide +kernel)
set_option maxRecDepth 100000 in
theorem am_wi_12 : ∀ w ∈ am_mt_12.map am_wi, w ∈ am_gt := am_in_r _ [13, 13, 13, 13, 13, 13, 13, 13, 13, 13, 13, 20, 20, 20, 20, 14, 14, 14, 14, 14] (by decide +kernel) (by decide +kernel)
set_option maxRecDepth 100000 in
theorem am_wk_12 : ∀ w ∈ am_mt_12.map am_wk, w ∈ am_gt := am_in_r _ [1827, 1822, 1835, 1841, 1851, 1846, 1863, 1859, 1854, 1866, 1870, 1124, 1731, 1039, 1798, 1616, 601, 1620, 605, 614] (by decide +kernel) (by decide +kernel)
set_option maxRecDepth 100000 in
theorem am_wzp_12 : ∀ w ∈ [Cond.selects RX12 yX12_apart yX12_apart, Cond.selects RX12 yX12_nearest yX12_nearest, Cond.selects RX12 yX12_book yX12_book, Cond.selects RX12 yX12_kept yX12_kept, Cond.selects RX12 yX12_image yX12_image, Cond.selects RX12 yX12_restore yX12_restore, Cond.selects RX12 yX12_count yX12_count, Cond.selects RJ0 yJ0_length_8abf5 yJ0_length_8abf5, Cond.selects RJ0 yJ0_charAt_5068e yJ0_charAt_5068e, Cond.selects RJ0 yJ0_coder_7d493 yJ0_coder_7d493, Cond.selects RJ0 yJ0_isLatin1_aae02 yJ0_isLatin1_aae02], w ∈ am_gt := am_in_r _ [1823, 1836, 1842, 1847, 1855, 1867, 1871, 1617, 602, 1621, 606] (by decide +kernel) (by decide +kernel)
set_option maxRecDepth 100000 in
theorem am_wzs_12 : ∀ w ∈ [Cond.selects RX12 yX12_offAll yX12_offAll, Cond.selects RX12 yX12_leftMany yX12_leftMany, Cond.selects RX12 yX12_move yX12_move, Cond.selects RX12 yX12_moves yX12_moves], w ∈ am_gt := am_in_s _ [77, 79, 81, 80] (by decide +kernel) (by decide +kernel)
theorem am_mok_240 : am_mok (yX12_offAll, cX12_offAll, 4, (some .int), 0, 1, 0, 0) := ⟨am_wc_12 _ (List.mem_of_getElem? (i := 0) rfl), am_wi_12 _ (List.mem_of_getElem? (i := 0) rfl), am_wk_12 _ (List.mem_of_getElem? (i := 0) rfl), fun _ => am_wzs_12 _ (List.mem_of_getElem? (i := 0) rfl), by decide +kernel⟩
theorem am_mok_241 : am_mok (yX12_apart, cX12_apart, 3, (some .int), 0, 2, 0, 0) := ⟨am_wc_12 _ (List.mem_of_getElem? (i := 1) rfl), am_wi_12 _ (List.mem_of_getElem? (i := 1) rfl), am_wk_12 _ (List.mem_of_getElem? (i := 1) rfl), fun _ => am_wzp_12 _ (List.mem_of_getElem? (i := 0) rfl), by decide +kernel⟩
theorem am_mok_242 : am_mok (yX12_nearest, cX12_nearest, 6, (some .int), 0, 1, 0, 0) := ⟨am_wc_12 _ (List.mem_of_getElem? (i := 2) rfl), am_wi_12 _ (List.mem_of_getElem? (i := 2) rfl), am_wk_12 _ (List.mem_of_getElem? (i := 2) rfl), fun _ => am_wzp_12 _ (List.mem_of_getElem? (i := 1) rfl), by decide +kernel⟩
theorem am_mok_243 : am_mok (yX12_book, cX12_book, 4, (some .boolean), 0, 1, 1, 6) := ⟨am_wc_12 _ (List.mem_of_getElem? (i := 3) rfl), am_wi_12 _ (List.mem_of_getElem? (i := 3) rfl), am_wk_12 _ (List.mem_of_getElem? (i := 3) rfl), fun _ => am_wzp_12 _ (List.mem_of_getElem? (i := 2) rfl), by decide +kernel⟩
theorem am_mok_244 : am_mok (yX12_leftMany, cX12_leftMany, 3, (some .int), 0, 0, 0, 0) := ⟨am_wc_12 _ (List.mem_of_getElem? (i := 4) rfl), am_wi_12 _ (List.mem_of_getElem? (i := 4) rfl), am_wk_12 _ (List.mem_of_getElem? (i := 4) rfl), fun _ => am_wzs_12 _ (List.mem_of_getElem? (i := 1) rfl), by decide +kernel⟩
theorem am_mok_245 : am_mok (yX12_kept, cX12_kept, 2, (some .int), 0, 0, 0, 0) := ⟨am_wc_12 _ (List.mem_of_getElem? (i := 5) rfl), am_wi_12 _ (List.mem_of_getElem? (i := 5) rfl), am_wk_12 _ (List.mem_of_getElem? (i := 5) rfl), fun _ => am_wzp_12 _ (List.mem_of_getElem? (i := 3) rfl), by decide +kernel⟩
theorem am_mok_246 : am_mok (yX12_move, cX12_move, 5, none, 0, 3, 0, 0) := ⟨am_wc_12 _ (List.mem_of_getElem? (i := 6) rfl), am_wi_12 _ (List.mem_of_getElem? (i := 6) rfl), am_wk_12 _ (List.mem_of_getElem? (i := 6) rfl), fun _ => am_wzs_12 _ (List.mem_of_getElem? (i := 2) rfl), by decide +kernel⟩
theorem am_mok_247 : am_mok (yX12_moves, cX12_moves, 3, none, 0, 2, 0, 0) := ⟨am_wc_12 _ (List.mem_of_getElem? (i := 7) rfl), am_wi_12 _ (List.mem_of_getElem? (i := 7) rfl), am_wk_12 _ (List.mem_of_getElem? (i := 7) rfl), fun _ => am_wzs_12 _ (List.mem_of_getElem? (i := 3) rfl), by decide +kernel⟩
theorem am_mok_248 : am_mok (yX12_image, cX12_image, 4, (some .boolean), 0, 1, 1, 7) := ⟨am_wc_12 _ (List.mem_of_getElem? (i := 8) rfl), am_wi_12 _ (List.mem_of_getElem? (i := 8) rfl), am_wk_12 _ (List.mem_of_getElem? (i := 8) rfl), fun _ => am_wzp_12 _ (List.mem_of_getElem? (i := 4) rfl), by decide +kernel⟩
theorem am_mok_249 : am_mok (yX12_restore, cX12_restore, 2, (some .boolean), 0, 1, 0, 0) := ⟨am_wc_12 _ (List.mem_of_getElem? (i := 9) rfl), am_wi_12 _ (List.mem_of_getElem? (i := 9) rfl), am_wk_12 _ (List.mem_of_getElem? (i := 9) rfl), fun _ => am_wzp_12 _ (List.mem_of_getElem? (i := 5) rfl), by decide +kernel⟩
theorem am_mok_250 : am_mok (yX12_count, cX12_count, 2, (some .int), 0, 1, 0, 0) := ⟨am_wc_12 _ (List.mem_of_getElem? (i := 10) rfl), am_wi_12 _ (List.mem_of_getElem? (i := 10) rfl), am_wk_12 _ (List.mem_of_getElem? (i := 10) rfl), fun _ => am_wzp_12 _ (List.mem_of_getElem? (i := 6) rfl), by decide +kernel⟩
theorem am_mok_251 : am_mok (yJ6_compare_7cf53, cJ6_compare_7cf53, 2, (some .int), 1, 2, 0, 0) := ⟨am_wc_12 _ (List.mem_of_getElem? (i := 11) rfl), am_wi_12 _ (List.mem_of_getElem? (i := 11) rfl), am_wk_12 _ (List.mem_of_getElem? (i := 11) rfl), fun h => absurd h (by decide), by decide +kernel⟩
theorem am_mok_252 : am_mok (yJ6_numberOfTrailingZeros_0f7a4, cJ6_numberOfTrailingZeros_0f7a4, 2, (some .int), 1, 1, 0, 0) := ⟨am_wc_12 _ (List.mem_of_getElem? (i := 12) rfl), am_wi_12 _ (List.mem_of_getElem? (i := 12) rfl), am_wk_12 _ (List.mem_of_getElem? (i := 12) rfl), fun h => absurd h (by decide), by decide +kernel⟩
theorem am_mok_253 : am_mok (yJ6_bitCount_0f7a4, cJ6_bitCount_0f7a4, 1, (some .int), 1, 1, 0, 0) := ⟨am_wc_12 _ (List.mem_of_getElem? (i := 13) rfl), am_wi_12 _ (List.mem_of_getElem? (i := 13) rfl), am_wk_12 _ (List.mem_of_getElem? (i := 13) rfl), fun h => absurd h (by decide), by decide +kernel⟩
theorem am_mok_254 : am_mok (yJ6_signum_0f7a4, cJ6_signum_0f7a4, 1, (some .int), 1, 1, 0, 0) := ⟨am_wc_12 _ (List.mem_of_getElem? (i := 14) rfl), am_wi_12 _ (List.mem_of_getElem? (i := 14) rfl), am_wk_12 _ (List.mem_of_getElem? (i := 14) rfl), fun h => absurd h (by decide), by decide +kernel⟩
theorem am_mok_255 : am_mok (yJ0_length_8abf5, cJ0_length_8abf5, 1, (some .int), 0, 0, 0, 0) := ⟨am_wc_12 _ (List.mem_of_getElem? (i := 15) rfl), am_wi_12 _ (List.mem_of_getElem? (i := 15) rfl), am_wk_12 _ (List.mem_of_getElem? (i := 15) rfl), fun _ => am_wzp_12 _ (List.mem_of_getElem? (i := 7) rfl), by decide +kernel⟩
theorem am_mok_256 : am_mok (yJ0_charAt_5068e, cJ0_charAt_5068e, 2, (some .char), 0, 1, 0, 0) := ⟨am_wc_12 _ (List.mem_of_getElem? (i := 16) rfl), am_wi_12 _ (List.mem_of_getElem? (i := 16) rfl), am_wk_12 _ (List.mem_of_getElem? (i := 16) rfl), fun _ => am_wzp_12 _ (List.mem_of_getElem? (i := 8) rfl), by decide +kernel⟩
theorem am_mok_257 : am_mok (yJ0_coder_7d493, cJ0_coder_7d493, 1, (some .byte), 0, 0, 0, 0) := ⟨am_wc_12 _ (List.mem_of_getElem? (i := 17) rfl), am_wi_12 _ (List.mem_of_getElem? (i := 17) rfl), am_wk_12 _ (List.mem_of_getElem? (i := 17) rfl), fun _ => am_wzp_12 _ (List.mem_of_getElem? (i := 9) rfl), by decide +kernel⟩
theorem am_mok_258 : am_mok (yJ0_isLatin1_aae02, cJ0_isLatin1_aae02, 1, (some .boolean), 0, 0, 0, 0) := ⟨am_wc_12 _ (List.mem_of_getElem? (i := 18) rfl), am_wi_12 _ (List.mem_of_getElem? (i := 18) rfl), am_wk_12 _ (List.mem_of_getElem? (i := 18) rfl), fun _ => am_wzp_12 _ (List.mem_of_getElem? (i := 10) rfl), by decide +kernel⟩
theorem am_mok_259 : am_mok (yJ0_checkIndex_df160, cJ0_checkIndex_df160, 2, none, 1, 2, 0, 0) := ⟨am_wc_12 _ (List.mem_of_getElem? (i := 19) rfl), am_wi_12 _ (List.mem_of_getElem? (i := 19) rfl), am_wk_12 _ (List.mem_of_getElem? (i := 19) rfl), fun h => absurd h (by decide), by decide +kernel⟩
set_option maxRecDepth 100000 in
theorem am_wc_13 : ∀ w ∈ (am_mt_13.take 2).map am_wc, w ∈ am_gt := am_in_r _ [612, 620] rfl (by decide +kernel)
set_option maxRecDepth 100000 in
theorem am_wi_13 : ∀ w ∈ (am_mt_13.take 2).map am_wi, w ∈ am_gt := am_in_r _ [15, 16] (by decide +kernel) (by decide +kernel)
set_option maxRecDepth 100000 in
theorem am_wk_13 : ∀ w ∈ (am_mt_13.take 2).map am_wk, w ∈ am_gt := am_in_r _ [611, 619] (by decide +kernel) (by decide +kernel)
set_option maxRecDepth 100000 in
theorem am_wzp_13 : ∀ w ∈ [], w ∈ am_gt := am_in_r _ [] (by decide +kernel) (by decide +kernel)
set_option maxRecDepth 100000 in
theorem am_wzs_13 : ∀ w ∈ [], w ∈ am_gt := am_in_s _ [] (by decide +kernel) (by decide +kernel)
theorem am_mok_260 : am_mok (yJ1_charAt_3b067, cJ1_charAt_3b067, 2, (some .char), 1, 2, 0, 0) := ⟨am_wc_13 _ (List.mem_of_getElem? (i := 0) rfl), am_wi_13 _ (List.mem_of_getElem? (i := 0) rfl), am_wk_13 _ (List.mem_of_getElem? (i := 0) rfl), fun h => absurd h (by decide), by decide +kernel⟩
theorem am_mok_261 : am_mok (yJ3_checkIndex_8e157, cJ3_checkIndex_8e157, 3, (some .int), 1, 3, 0, 0) := ⟨am_wc_13 _ (List.mem_of_getElem? (i := 1) rfl), am_wi_13 _ (List.mem_of_getElem? (i := 1) rfl), am_wk_13 _ (List.mem_of_getElem? (i := 1) rfl), fun h => absurd h (by decide), by decide +kernel⟩
