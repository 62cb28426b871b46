section
-- ===== PART A: goes FIRST, ahead of the names: the tables' words, and 'selects' of the private methods out of them =====
/-- a private method of a class that the tables say can be made, by its rows of tables_1 -/
def lw_okq (q : MethodName × Nat) : Prop := (q.1.cls ≠ "java/lang/invoke/MethodHandle" ∧ q.1.cls ≠ "java/lang/invoke/VarHandle") ∧ Cond.instantiable q.1.cls q.2 ∈ tables_1 ∧ Cond.privateMethod q.1 ∈ tables_1 ∧ Cond.instanceMethod q.1 ∈ tables_1
theorem lw_p0 : lw_okq (⟨"LimpCode$Tape", "byteAt", "(I)I"⟩, 7) := ⟨⟨by decide +kernel, by decide +kernel⟩, List.mem_of_getElem? (i := 30) (by decide +kernel), List.mem_of_getElem? (i := 484) (by decide +kernel), List.mem_of_getElem? (i := 485) (by decide +kernel)⟩
theorem lw_p1 : lw_okq (⟨"LimpCode$Tape", "readWord", "()V"⟩, 7) := ⟨⟨by decide +kernel, by decide +kernel⟩, List.mem_of_getElem? (i := 30) (by decide +kernel), List.mem_of_getElem? (i := 494) (by decide +kernel), List.mem_of_getElem? (i := 495) (by decide +kernel)⟩
theorem lw_p2 : lw_okq (⟨"LimpCode$Tape", "readNumber", "()V"⟩, 7) := ⟨⟨by decide +kernel, by decide +kernel⟩, List.mem_of_getElem? (i := 30) (by decide +kernel), List.mem_of_getElem? (i := 501) (by decide +kernel), List.mem_of_getElem? (i := 502) (by decide +kernel)⟩
theorem lw_p3 : lw_okq (⟨"LimpCode$SchoolReader", "readStep", "(LLimpCode$Tape;LLimpCode$School;)Z"⟩, 3) := ⟨⟨by decide +kernel, by decide +kernel⟩, List.mem_of_getElem? (i := 64) (by decide +kernel), List.mem_of_getElem? (i := 558) (by decide +kernel), List.mem_of_getElem? (i := 559) (by decide +kernel)⟩
theorem lw_p4 : lw_okq (⟨"LimpCode$SchoolReader", "refuse", "(LLimpCode$Tape;I)Z"⟩, 3) := ⟨⟨by decide +kernel, by decide +kernel⟩, List.mem_of_getElem? (i := 64) (by decide +kernel), List.mem_of_getElem? (i := 562) (by decide +kernel), List.mem_of_getElem? (i := 563) (by decide +kernel)⟩
theorem lw_p5 : lw_okq (⟨"LimpCode$SchoolReader", "readNewName", "(LLimpCode$Tape;[JI)Z"⟩, 3) := ⟨⟨by decide +kernel, by decide +kernel⟩, List.mem_of_getElem? (i := 64) (by decide +kernel), List.mem_of_getElem? (i := 567) (by decide +kernel), List.mem_of_getElem? (i := 568) (by decide +kernel)⟩
theorem lw_p6 : lw_okq (⟨"LimpCode$SchoolReader", "passWord", "(LLimpCode$Tape;Ljava/lang/String;)Z"⟩, 3) := ⟨⟨by decide +kernel, by decide +kernel⟩, List.mem_of_getElem? (i := 64) (by decide +kernel), List.mem_of_getElem? (i := 590) (by decide +kernel), List.mem_of_getElem? (i := 591) (by decide +kernel)⟩
theorem lw_p7 : lw_okq (⟨"LimpCode$SchoolReader", "passNumber", "(LLimpCode$Tape;II)Z"⟩, 3) := ⟨⟨by decide +kernel, by decide +kernel⟩, List.mem_of_getElem? (i := 64) (by decide +kernel), List.mem_of_getElem? (i := 594) (by decide +kernel), List.mem_of_getElem? (i := 595) (by decide +kernel)⟩
theorem lw_p8 : lw_okq (⟨"LimpCode$SchoolReader", "readSide", "(LLimpCode$Tape;)I"⟩, 3) := ⟨⟨by decide +kernel, by decide +kernel⟩, List.mem_of_getElem? (i := 64) (by decide +kernel), List.mem_of_getElem? (i := 599) (by decide +kernel), List.mem_of_getElem? (i := 600) (by decide +kernel)⟩
theorem lw_p9 : lw_okq (⟨"LimpCode$SchoolReader", "passSemicolon", "(LLimpCode$Tape;)Z"⟩, 3) := ⟨⟨by decide +kernel, by decide +kernel⟩, List.mem_of_getElem? (i := 64) (by decide +kernel), List.mem_of_getElem? (i := 606) (by decide +kernel), List.mem_of_getElem? (i := 607) (by decide +kernel)⟩
theorem lw_p10 : lw_okq (⟨"LimpCode$SchoolReader", "readLetter", "(LLimpCode$Tape;LLimpCode$School;)Z"⟩, 3) := ⟨⟨by decide +kernel, by decide +kernel⟩, List.mem_of_getElem? (i := 64) (by decide +kernel), List.mem_of_getElem? (i := 611) (by decide +kernel), List.mem_of_getElem? (i := 612) (by decide +kernel)⟩
theorem lw_p11 : lw_okq (⟨"LimpCode$SchoolReader", "knownName", "(LLimpCode$Tape;[JI)I"⟩, 3) := ⟨⟨by decide +kernel, by decide +kernel⟩, List.mem_of_getElem? (i := 64) (by decide +kernel), List.mem_of_getElem? (i := 615) (by decide +kernel), List.mem_of_getElem? (i := 616) (by decide +kernel)⟩
theorem lw_p12 : lw_okq (⟨"LimpCode$SchoolReader", "readEar", "(LLimpCode$Tape;LLimpCode$School;)Z"⟩, 3) := ⟨⟨by decide +kernel, by decide +kernel⟩, List.mem_of_getElem? (i := 64) (by decide +kernel), List.mem_of_getElem? (i := 632) (by decide +kernel), List.mem_of_getElem? (i := 633) (by decide +kernel)⟩
theorem lw_p13 : lw_okq (⟨"LimpCode$SchoolReader", "readBook", "(LLimpCode$Tape;LLimpCode$School;)I"⟩, 3) := ⟨⟨by decide +kernel, by decide +kernel⟩, List.mem_of_getElem? (i := 64) (by decide +kernel), List.mem_of_getElem? (i := 638) (by decide +kernel), List.mem_of_getElem? (i := 639) (by decide +kernel)⟩
theorem lw_p14 : lw_okq (⟨"LimpCode", "forgetAllOfOldSchool", "()V"⟩, 19) := ⟨⟨by decide +kernel, by decide +kernel⟩, List.mem_of_getElem? (i := 22) (by decide +kernel), List.mem_of_getElem? (i := 642) (by decide +kernel), List.mem_of_getElem? (i := 643) (by decide +kernel)⟩
theorem lw_p15 : lw_okq (⟨"LimpCode$Earnest", "walkLetter", "(LLimpCode$School;I)Z"⟩, 6) := ⟨⟨by decide +kernel, by decide +kernel⟩, List.mem_of_getElem? (i := 180) (by decide +kernel), List.mem_of_getElem? (i := 686) (by decide +kernel), List.mem_of_getElem? (i := 687) (by decide +kernel)⟩
def lw_privs_1 : List (MethodName × Nat) := [(⟨"LimpCode$Tape", "byteAt", "(I)I"⟩, 7), (⟨"LimpCode$Tape", "readWord", "()V"⟩, 7), (⟨"LimpCode$Tape", "readNumber", "()V"⟩, 7), (⟨"LimpCode$SchoolReader", "readStep", "(LLimpCode$Tape;LLimpCode$School;)Z"⟩, 3), (⟨"LimpCode$SchoolReader", "refuse", "(LLimpCode$Tape;I)Z"⟩, 3), (⟨"LimpCode$SchoolReader", "readNewName", "(LLimpCode$Tape;[JI)Z"⟩, 3), (⟨"LimpCode$SchoolReader", "passWord", "(LLimpCode$Tape;Ljava/lang/String;)Z"⟩, 3), (⟨"LimpCode$SchoolReader", "passNumber", "(LLimpCode$Tape;II)Z"⟩, 3), (⟨"LimpCode$SchoolReader", "readSide", "(LLimpCode$Tape;)I"⟩, 3), (⟨"LimpCode$SchoolReader", "passSemicolon", "(LLimpCode$Tape;)Z"⟩, 3), (⟨"LimpCode$SchoolReader", "readLetter", "(LLimpCode$Tape;LLimpCode$School;)Z"⟩, 3), (⟨"LimpCode$SchoolReader", "knownName", "(LLimpCode$Tape;[JI)I"⟩, 3), (⟨"LimpCode$SchoolReader", "readEar", "(LLimpCode$Tape;LLimpCode$School;)Z"⟩, 3), (⟨"LimpCode$SchoolReader", "readBook", "(LLimpCode$Tape;LLimpCode$School;)I"⟩, 3), (⟨"LimpCode", "forgetAllOfOldSchool", "()V"⟩, 19), (⟨"LimpCode$Earnest", "walkLetter", "(LLimpCode$School;I)Z"⟩, 6)]
theorem lw_r1 : ∀ q ∈ lw_privs_1, lw_okq q := List.forall_mem_cons.mpr ⟨lw_p0, List.forall_mem_cons.mpr ⟨lw_p1, List.forall_mem_cons.mpr ⟨lw_p2, List.forall_mem_cons.mpr ⟨lw_p3, List.forall_mem_cons.mpr ⟨lw_p4, List.forall_mem_cons.mpr ⟨lw_p5, List.forall_mem_cons.mpr ⟨lw_p6, List.forall_mem_cons.mpr ⟨lw_p7, List.forall_mem_cons.mpr ⟨lw_p8, List.forall_mem_cons.mpr ⟨lw_p9, List.forall_mem_cons.mpr ⟨lw_p10, List.forall_mem_cons.mpr ⟨lw_p11, List.forall_mem_cons.mpr ⟨lw_p12, List.forall_mem_cons.mpr ⟨lw_p13, List.forall_mem_cons.mpr ⟨lw_p14, List.forall_mem_cons.mpr ⟨lw_p15, fun _ h => absurd h List.not_mem_nil⟩⟩⟩⟩⟩⟩⟩⟩⟩⟩⟩⟩⟩⟩⟩⟩
theorem lw_p16 : lw_okq (⟨"LimpCode$Grid", "takeSteps", "(LLimpCode$School;)V"⟩, 11) := ⟨⟨by decide +kernel, by decide +kernel⟩, List.mem_of_getElem? (i := 283) (by decide +kernel), List.mem_of_getElem? (i := 752) (by decide +kernel), List.mem_of_getElem? (i := 753) (by decide +kernel)⟩
theorem lw_p17 : lw_okq (⟨"LimpCode$Bounds", "costTo", "(IIII)I"⟩, 3) := ⟨⟨by decide +kernel, by decide +kernel⟩, List.mem_of_getElem? (i := 265) (by decide +kernel), List.mem_of_getElem? (i := 762) (by decide +kernel), List.mem_of_getElem? (i := 763) (by decide +kernel)⟩
theorem lw_p18 : lw_okq (⟨"LimpCode$Bounds", "areQuiet", "(III)Z"⟩, 3) := ⟨⟨by decide +kernel, by decide +kernel⟩, List.mem_of_getElem? (i := 265) (by decide +kernel), List.mem_of_getElem? (i := 766) (by decide +kernel), List.mem_of_getElem? (i := 767) (by decide +kernel)⟩
theorem lw_p19 : lw_okq (⟨"LimpCode", "countAndLay", "(LLimpCode$Grid;II)J"⟩, 19) := ⟨⟨by decide +kernel, by decide +kernel⟩, List.mem_of_getElem? (i := 22) (by decide +kernel), List.mem_of_getElem? (i := 778) (by decide +kernel), List.mem_of_getElem? (i := 779) (by decide +kernel)⟩
theorem lw_p20 : lw_okq (⟨"LimpCode$Grid", "sumOfWays", "(III)J"⟩, 11) := ⟨⟨by decide +kernel, by decide +kernel⟩, List.mem_of_getElem? (i := 283) (by decide +kernel), List.mem_of_getElem? (i := 786) (by decide +kernel), List.mem_of_getElem? (i := 787) (by decide +kernel)⟩
theorem lw_p21 : lw_okq (⟨"LimpCode$Grid", "waysBy", "(IIII)J"⟩, 11) := ⟨⟨by decide +kernel, by decide +kernel⟩, List.mem_of_getElem? (i := 283) (by decide +kernel), List.mem_of_getElem? (i := 790) (by decide +kernel), List.mem_of_getElem? (i := 791) (by decide +kernel)⟩
theorem lw_p22 : lw_okq (⟨"LimpCode$Listener", "readOn", "(LLimpCode$School;I[III)I"⟩, 5) := ⟨⟨by decide +kernel, by decide +kernel⟩, List.mem_of_getElem? (i := 329) (by decide +kernel), List.mem_of_getElem? (i := 828) (by decide +kernel), List.mem_of_getElem? (i := 829) (by decide +kernel)⟩
theorem lw_p23 : lw_okq (⟨"LimpCode$Listener", "canBegin", "(LLimpCode$School;II)Z"⟩, 5) := ⟨⟨by decide +kernel, by decide +kernel⟩, List.mem_of_getElem? (i := 329) (by decide +kernel), List.mem_of_getElem? (i := 832) (by decide +kernel), List.mem_of_getElem? (i := 833) (by decide +kernel)⟩
theorem lw_p24 : lw_okq (⟨"LimpCode$Listener", "canBeginBy", "(LLimpCode$School;III)Z"⟩, 5) := ⟨⟨by decide +kernel, by decide +kernel⟩, List.mem_of_getElem? (i := 329) (by decide +kernel), List.mem_of_getElem? (i := 836) (by decide +kernel), List.mem_of_getElem? (i := 837) (by decide +kernel)⟩
theorem lw_p25 : lw_okq (⟨"LimpCode$Listener", "markRead", "(LLimpCode$School;II)V"⟩, 5) := ⟨⟨by decide +kernel, by decide +kernel⟩, List.mem_of_getElem? (i := 329) (by decide +kernel), List.mem_of_getElem? (i := 845) (by decide +kernel), List.mem_of_getElem? (i := 846) (by decide +kernel)⟩
theorem lw_p26 : lw_okq (⟨"LimpCode", "areUnlikeEars", "(II)Z"⟩, 19) := ⟨⟨by decide +kernel, by decide +kernel⟩, List.mem_of_getElem? (i := 22) (by decide +kernel), List.mem_of_getElem? (i := 875) (by decide +kernel), List.mem_of_getElem? (i := 876) (by decide +kernel)⟩
theorem lw_p27 : lw_okq (⟨"LimpCode", "fillDouble", "(II)V"⟩, 19) := ⟨⟨by decide +kernel, by decide +kernel⟩, List.mem_of_getElem? (i := 22) (by decide +kernel), List.mem_of_getElem? (i := 879) (by decide +kernel), List.mem_of_getElem? (i := 880) (by decide +kernel)⟩
theorem lw_p28 : lw_okq (⟨"LimpCode$SecretSearch", "begin", "()V"⟩, 4) := ⟨⟨by decide +kernel, by decide +kernel⟩, List.mem_of_getElem? (i := 352) (by decide +kernel), List.mem_of_getElem? (i := 896) (by decide +kernel), List.mem_of_getElem? (i := 897) (by decide +kernel)⟩
theorem lw_p29 : lw_okq (⟨"LimpCode$SecretSearch", "goOn", "(LLimpCode$School;LLimpCode$Grid;LLimpCode$Listener;)V"⟩, 4) := ⟨⟨by decide +kernel, by decide +kernel⟩, List.mem_of_getElem? (i := 352) (by decide +kernel), List.mem_of_getElem? (i := 906) (by decide +kernel), List.mem_of_getElem? (i := 907) (by decide +kernel)⟩
theorem lw_p30 : lw_okq (⟨"LimpCode$Listener", "readUpTo", "(LLimpCode$School;II)V"⟩, 5) := ⟨⟨by decide +kernel, by decide +kernel⟩, List.mem_of_getElem? (i := 329) (by decide +kernel), List.mem_of_getElem? (i := 917) (by decide +kernel), List.mem_of_getElem? (i := 918) (by decide +kernel)⟩
theorem lw_p31 : lw_okq (⟨"LimpCode$Deal", "countUses", "(LLimpCode$Text;)V"⟩, 4) := ⟨⟨by decide +kernel, by decide +kernel⟩, List.mem_of_getElem? (i := 371) (by decide +kernel), List.mem_of_getElem? (i := 948) (by decide +kernel), List.mem_of_getElem? (i := 949) (by decide +kernel)⟩
def lw_privs_2 : List (MethodName × Nat) := [(⟨"LimpCode$Grid", "takeSteps", "(LLimpCode$School;)V"⟩, 11), (⟨"LimpCode$Bounds", "costTo", "(IIII)I"⟩, 3), (⟨"LimpCode$Bounds", "areQuiet", "(III)Z"⟩, 3), (⟨"LimpCode", "countAndLay", "(LLimpCode$Grid;II)J"⟩, 19), (⟨"LimpCode$Grid", "sumOfWays", "(III)J"⟩, 11), (⟨"LimpCode$Grid", "waysBy", "(IIII)J"⟩, 11), (⟨"LimpCode$Listener", "readOn", "(LLimpCode$School;I[III)I"⟩, 5), (⟨"LimpCode$Listener", "canBegin", "(LLimpCode$School;II)Z"⟩, 5), (⟨"LimpCode$Listener", "canBeginBy", "(LLimpCode$School;III)Z"⟩, 5), (⟨"LimpCode$Listener", "markRead", "(LLimpCode$School;II)V"⟩, 5), (⟨"LimpCode", "areUnlikeEars", "(II)Z"⟩, 19), (⟨"LimpCode", "fillDouble", "(II)V"⟩, 19), (⟨"LimpCode$SecretSearch", "begin", "()V"⟩, 4), (⟨"LimpCode$SecretSearch", "goOn", "(LLimpCode$School;LLimpCode$Grid;LLimpCode$Listener;)V"⟩, 4), (⟨"LimpCode$Listener", "readUpTo", "(LLimpCode$School;II)V"⟩, 5), (⟨"LimpCode$Deal", "countUses", "(LLimpCode$Text;)V"⟩, 4)]
theorem lw_r2 : ∀ q ∈ lw_privs_2, lw_okq q := List.forall_mem_cons.mpr ⟨lw_p16, List.forall_mem_cons.mpr ⟨lw_p17, List.forall_mem_cons.mpr ⟨lw_p18, List.forall_mem_cons.mpr ⟨lw_p19, List.forall_mem_cons.mpr ⟨lw_p20, List.forall_mem_cons.mpr ⟨lw_p21, List.forall_mem_cons.mpr ⟨lw_p22, List.forall_mem_cons.mpr ⟨lw_p23, List.forall_mem_cons.mpr ⟨lw_p24, List.forall_mem_cons.mpr ⟨lw_p25, List.forall_mem_cons.mpr ⟨lw_p26, List.forall_mem_cons.mpr ⟨lw_p27, List.forall_mem_cons.mpr ⟨lw_p28, List.forall_mem_cons.mpr ⟨lw_p29, List.forall_mem_cons.mpr ⟨lw_p30, List.forall_mem_cons.mpr ⟨lw_p31, fun _ h => absurd h List.not_mem_nil⟩⟩⟩⟩⟩⟩⟩⟩⟩⟩⟩⟩⟩⟩⟩⟩
theorem lw_p32 : lw_okq (⟨"LimpCode$Deal", "leastOfRest", "(LLimpCode$School;I)I"⟩, 4) := ⟨⟨by decide +kernel, by decide +kernel⟩, List.mem_of_getElem? (i := 371) (by decide +kernel), List.mem_of_getElem? (i := 953) (by decide +kernel), List.mem_of_getElem? (i := 954) (by decide +kernel)⟩
theorem lw_p33 : lw_okq (⟨"LimpCode$Deal", "firstRow", "(LLimpCode$School;II)I"⟩, 4) := ⟨⟨by decide +kernel, by decide +kernel⟩, List.mem_of_getElem? (i := 371) (by decide +kernel), List.mem_of_getElem? (i := 960) (by decide +kernel), List.mem_of_getElem? (i := 961) (by decide +kernel)⟩
theorem lw_p34 : lw_okq (⟨"LimpCode", "fillMeant", "(II)Z"⟩, 19) := ⟨⟨by decide +kernel, by decide +kernel⟩, List.mem_of_getElem? (i := 22) (by decide +kernel), List.mem_of_getElem? (i := 1009) (by decide +kernel), List.mem_of_getElem? (i := 1010) (by decide +kernel)⟩
theorem lw_p35 : lw_okq (⟨"LimpCode$Grid", "drawMasks", "()V"⟩, 11) := ⟨⟨by decide +kernel, by decide +kernel⟩, List.mem_of_getElem? (i := 283) (by decide +kernel), List.mem_of_getElem? (i := 1030) (by decide +kernel), List.mem_of_getElem? (i := 1031) (by decide +kernel)⟩
theorem lw_p36 : lw_okq (⟨"LimpCode$Grid", "reachNext", "()V"⟩, 11) := ⟨⟨by decide +kernel, by decide +kernel⟩, List.mem_of_getElem? (i := 283) (by decide +kernel), List.mem_of_getElem? (i := 1034) (by decide +kernel), List.mem_of_getElem? (i := 1035) (by decide +kernel)⟩
theorem lw_p37 : lw_okq (⟨"LimpCode$Grid", "isGoneOnFrom", "(II)Z"⟩, 11) := ⟨⟨by decide +kernel, by decide +kernel⟩, List.mem_of_getElem? (i := 283) (by decide +kernel), List.mem_of_getElem? (i := 1038) (by decide +kernel), List.mem_of_getElem? (i := 1039) (by decide +kernel)⟩
theorem lw_p38 : lw_okq (⟨"LimpCodeModel", "clearWalk", "()V"⟩, 70) := ⟨⟨by decide +kernel, by decide +kernel⟩, List.mem_of_getElem? (i := 1061) (by decide +kernel), List.mem_of_getElem? (i := 1067) (by decide +kernel), List.mem_of_getElem? (i := 1068) (by decide +kernel)⟩
theorem lw_p39 : lw_okq (⟨"LimpCodeModel", "four", "(I)V"⟩, 70) := ⟨⟨by decide +kernel, by decide +kernel⟩, List.mem_of_getElem? (i := 1061) (by decide +kernel), List.mem_of_getElem? (i := 1286) (by decide +kernel), List.mem_of_getElem? (i := 1287) (by decide +kernel)⟩
theorem lw_p40 : lw_okq (⟨"LimpCodeModel", "readAll", "()V"⟩, 70) := ⟨⟨by decide +kernel, by decide +kernel⟩, List.mem_of_getElem? (i := 1061) (by decide +kernel), List.mem_of_getElem? (i := 1298) (by decide +kernel), List.mem_of_getElem? (i := 1299) (by decide +kernel)⟩
theorem lw_p41 : lw_okq (⟨"LimpCodeModel", "token", "()V"⟩, 70) := ⟨⟨by decide +kernel, by decide +kernel⟩, List.mem_of_getElem? (i := 1061) (by decide +kernel), List.mem_of_getElem? (i := 1302) (by decide +kernel), List.mem_of_getElem? (i := 1303) (by decide +kernel)⟩
theorem lw_p42 : lw_okq (⟨"LimpCodeModel", "here", "(I)I"⟩, 70) := ⟨⟨by decide +kernel, by decide +kernel⟩, List.mem_of_getElem? (i := 1061) (by decide +kernel), List.mem_of_getElem? (i := 1306) (by decide +kernel), List.mem_of_getElem? (i := 1307) (by decide +kernel)⟩
theorem lw_p43 : lw_okq (⟨"LimpCodeModel", "readLine", "()V"⟩, 70) := ⟨⟨by decide +kernel, by decide +kernel⟩, List.mem_of_getElem? (i := 1061) (by decide +kernel), List.mem_of_getElem? (i := 1316) (by decide +kernel), List.mem_of_getElem? (i := 1317) (by decide +kernel)⟩
theorem lw_p44 : lw_okq (⟨"LimpCodeModel", "isWord", "(J)Z"⟩, 70) := ⟨⟨by decide +kernel, by decide +kernel⟩, List.mem_of_getElem? (i := 1061) (by decide +kernel), List.mem_of_getElem? (i := 1321) (by decide +kernel), List.mem_of_getElem? (i := 1322) (by decide +kernel)⟩
theorem lw_p45 : lw_okq (⟨"LimpCodeModel", "readStep", "()V"⟩, 70) := ⟨⟨by decide +kernel, by decide +kernel⟩, List.mem_of_getElem? (i := 1061) (by decide +kernel), List.mem_of_getElem? (i := 1325) (by decide +kernel), List.mem_of_getElem? (i := 1326) (by decide +kernel)⟩
theorem lw_p46 : lw_okq (⟨"LimpCodeModel", "newName", "(II)V"⟩, 70) := ⟨⟨by decide +kernel, by decide +kernel⟩, List.mem_of_getElem? (i := 1061) (by decide +kernel), List.mem_of_getElem? (i := 1329) (by decide +kernel), List.mem_of_getElem? (i := 1330) (by decide +kernel)⟩
theorem lw_p47 : lw_okq (⟨"LimpCodeModel", "isName", "()Z"⟩, 70) := ⟨⟨by decide +kernel, by decide +kernel⟩, List.mem_of_getElem? (i := 1061) (by decide +kernel), List.mem_of_getElem? (i := 1333) (by decide +kernel), List.mem_of_getElem? (i := 1334) (by decide +kernel)⟩
def lw_privs_3 : List (MethodName × Nat) := [(⟨"LimpCode$Deal", "leastOfRest", "(LLimpCode$School;I)I"⟩, 4), (⟨"LimpCode$Deal", "firstRow", "(LLimpCode$School;II)I"⟩, 4), (⟨"LimpCode", "fillMeant", "(II)Z"⟩, 19), (⟨"LimpCode$Grid", "drawMasks", "()V"⟩, 11), (⟨"LimpCode$Grid", "reachNext", "()V"⟩, 11), (⟨"LimpCode$Grid", "isGoneOnFrom", "(II)Z"⟩, 11), (⟨"LimpCodeModel", "clearWalk", "()V"⟩, 70), (⟨"LimpCodeModel", "four", "(I)V"⟩, 70), (⟨"LimpCodeModel", "readAll", "()V"⟩, 70), (⟨"LimpCodeModel", "token", "()V"⟩, 70), (⟨"LimpCodeModel", "here", "(I)I"⟩, 70), (⟨"LimpCodeModel", "readLine", "()V"⟩, 70), (⟨"LimpCodeModel", "isWord", "(J)Z"⟩, 70), (⟨"LimpCodeModel", "readStep", "()V"⟩, 70), (⟨"LimpCodeModel", "newName", "(II)V"⟩, 70), (⟨"LimpCodeModel", "isName", "()Z"⟩, 70)]
theorem lw_r3 : ∀ q ∈ lw_privs_3, lw_okq q := List.forall_mem_cons.mpr ⟨lw_p32, List.forall_mem_cons.mpr ⟨lw_p33, List.forall_mem_cons.mpr ⟨lw_p34, List.forall_mem_cons.mpr ⟨lw_p35, List.forall_mem_cons.mpr ⟨lw_p36, List.forall_mem_cons.mpr ⟨lw_p37, List.forall_mem_cons.mpr ⟨lw_p38, List.forall_mem_cons.mpr ⟨lw_p39, List.forall_mem_cons.mpr ⟨lw_p40, List.forall_mem_cons.mpr ⟨lw_p41, List.forall_mem_cons.mpr ⟨lw_p42, List.forall_mem_cons.mpr ⟨lw_p43, List.forall_mem_cons.mpr ⟨lw_p44, List.forall_mem_cons.mpr ⟨lw_p45, List.forall_mem_cons.mpr ⟨lw_p46, List.forall_mem_cons.mpr ⟨lw_p47, fun _ h => absurd h List.not_mem_nil⟩⟩⟩⟩⟩⟩⟩⟩⟩⟩⟩⟩⟩⟩⟩⟩
theorem lw_p48 : lw_okq (⟨"LimpCodeModel", "wrong", "(I)V"⟩, 70) := ⟨⟨by decide +kernel, by decide +kernel⟩, List.mem_of_getElem? (i := 1061) (by decide +kernel), List.mem_of_getElem? (i := 1346) (by decide +kernel), List.mem_of_getElem? (i := 1347) (by decide +kernel)⟩
theorem lw_p49 : lw_okq (⟨"LimpCodeModel", "find", "(II)I"⟩, 70) := ⟨⟨by decide +kernel, by decide +kernel⟩, List.mem_of_getElem? (i := 1061) (by decide +kernel), List.mem_of_getElem? (i := 1350) (by decide +kernel), List.mem_of_getElem? (i := 1351) (by decide +kernel)⟩
theorem lw_p50 : lw_okq (⟨"LimpCodeModel", "toldNumber", "(JII)I"⟩, 70) := ⟨⟨by decide +kernel, by decide +kernel⟩, List.mem_of_getElem? (i := 1061) (by decide +kernel), List.mem_of_getElem? (i := 1354) (by decide +kernel), List.mem_of_getElem? (i := 1355) (by decide +kernel)⟩
theorem lw_p51 : lw_okq (⟨"LimpCodeModel", "readLetter", "()V"⟩, 70) := ⟨⟨by decide +kernel, by decide +kernel⟩, List.mem_of_getElem? (i := 1061) (by decide +kernel), List.mem_of_getElem? (i := 1358) (by decide +kernel), List.mem_of_getElem? (i := 1359) (by decide +kernel)⟩
theorem lw_p52 : lw_okq (⟨"LimpCodeModel", "old", "(II)I"⟩, 70) := ⟨⟨by decide +kernel, by decide +kernel⟩, List.mem_of_getElem? (i := 1061) (by decide +kernel), List.mem_of_getElem? (i := 1362) (by decide +kernel), List.mem_of_getElem? (i := 1363) (by decide +kernel)⟩
theorem lw_p53 : lw_okq (⟨"LimpCodeModel", "readEar", "()V"⟩, 70) := ⟨⟨by decide +kernel, by decide +kernel⟩, List.mem_of_getElem? (i := 1061) (by decide +kernel), List.mem_of_getElem? (i := 1366) (by decide +kernel), List.mem_of_getElem? (i := 1367) (by decide +kernel)⟩
theorem lw_p54 : lw_okq (⟨"LimpCodeModel", "readBook", "()V"⟩, 70) := ⟨⟨by decide +kernel, by decide +kernel⟩, List.mem_of_getElem? (i := 1061) (by decide +kernel), List.mem_of_getElem? (i := 1370) (by decide +kernel), List.mem_of_getElem? (i := 1371) (by decide +kernel)⟩
theorem lw_p55 : lw_okq (⟨"LimpCodeModel", "layLetters", "()V"⟩, 70) := ⟨⟨by decide +kernel, by decide +kernel⟩, List.mem_of_getElem? (i := 1061) (by decide +kernel), List.mem_of_getElem? (i := 1374) (by decide +kernel), List.mem_of_getElem? (i := 1375) (by decide +kernel)⟩
theorem lw_p56 : lw_okq (⟨"LimpCodeModel", "walkBy", "(II)I"⟩, 70) := ⟨⟨by decide +kernel, by decide +kernel⟩, List.mem_of_getElem? (i := 1061) (by decide +kernel), List.mem_of_getElem? (i := 1378) (by decide +kernel), List.mem_of_getElem? (i := 1379) (by decide +kernel)⟩
theorem lw_p57 : lw_okq (⟨"LimpCodeModel", "canBe", "(II)Z"⟩, 70) := ⟨⟨by decide +kernel, by decide +kernel⟩, List.mem_of_getElem? (i := 1061) (by decide +kernel), List.mem_of_getElem? (i := 1382) (by decide +kernel), List.mem_of_getElem? (i := 1383) (by decide +kernel)⟩
theorem lw_p58 : lw_okq (⟨"LimpCodeModel", "turn", "(II)I"⟩, 70) := ⟨⟨by decide +kernel, by decide +kernel⟩, List.mem_of_getElem? (i := 1061) (by decide +kernel), List.mem_of_getElem? (i := 1386) (by decide +kernel), List.mem_of_getElem? (i := 1387) (by decide +kernel)⟩
theorem lw_p59 : lw_okq (⟨"LimpCodeModel", "isStep", "(I)Z"⟩, 70) := ⟨⟨by decide +kernel, by decide +kernel⟩, List.mem_of_getElem? (i := 1061) (by decide +kernel), List.mem_of_getElem? (i := 1398) (by decide +kernel), List.mem_of_getElem? (i := 1399) (by decide +kernel)⟩
theorem lw_p60 : lw_okq (⟨"LimpCodeModel", "isEar", "(I)Z"⟩, 70) := ⟨⟨by decide +kernel, by decide +kernel⟩, List.mem_of_getElem? (i := 1061) (by decide +kernel), List.mem_of_getElem? (i := 1421) (by decide +kernel), List.mem_of_getElem? (i := 1422) (by decide +kernel)⟩
theorem lw_p61 : lw_okq (⟨"LimpCodeModel", "hears", "(II)I"⟩, 70) := ⟨⟨by decide +kernel, by decide +kernel⟩, List.mem_of_getElem? (i := 1061) (by decide +kernel), List.mem_of_getElem? (i := 1425) (by decide +kernel), List.mem_of_getElem? (i := 1426) (by decide +kernel)⟩
theorem lw_p62 : lw_okq (⟨"LimpCodeModel", "layTarget", "(II)V"⟩, 70) := ⟨⟨by decide +kernel, by decide +kernel⟩, List.mem_of_getElem? (i := 1061) (by decide +kernel), List.mem_of_getElem? (i := 1434) (by decide +kernel), List.mem_of_getElem? (i := 1435) (by decide +kernel)⟩
theorem lw_p63 : lw_okq (⟨"LimpCodeModel", "layReads", "(III)V"⟩, 70) := ⟨⟨by decide +kernel, by decide +kernel⟩, List.mem_of_getElem? (i := 1061) (by decide +kernel), List.mem_of_getElem? (i := 1438) (by decide +kernel), List.mem_of_getElem? (i := 1439) (by decide +kernel)⟩
def lw_privs_4 : List (MethodName × Nat) := [(⟨"LimpCodeModel", "wrong", "(I)V"⟩, 70), (⟨"LimpCodeModel", "find", "(II)I"⟩, 70), (⟨"LimpCodeModel", "toldNumber", "(JII)I"⟩, 70), (⟨"LimpCodeModel", "readLetter", "()V"⟩, 70), (⟨"LimpCodeModel", "old", "(II)I"⟩, 70), (⟨"LimpCodeModel", "readEar", "()V"⟩, 70), (⟨"LimpCodeModel", "readBook", "()V"⟩, 70), (⟨"LimpCodeModel", "layLetters", "()V"⟩, 70), (⟨"LimpCodeModel", "walkBy", "(II)I"⟩, 70), (⟨"LimpCodeModel", "canBe", "(II)Z"⟩, 70), (⟨"LimpCodeModel", "turn", "(II)I"⟩, 70), (⟨"LimpCodeModel", "isStep", "(I)Z"⟩, 70), (⟨"LimpCodeModel", "isEar", "(I)Z"⟩, 70), (⟨"LimpCodeModel", "hears", "(II)I"⟩, 70), (⟨"LimpCodeModel", "layTarget", "(II)V"⟩, 70), (⟨"LimpCodeModel", "layReads", "(III)V"⟩, 70)]
theorem lw_r4 : ∀ q ∈ lw_privs_4, lw_okq q := List.forall_mem_cons.mpr ⟨lw_p48, List.forall_mem_cons.mpr ⟨lw_p49, List.forall_mem_cons.mpr ⟨lw_p50, List.forall_mem_cons.mpr ⟨lw_p51, List.forall_mem_cons.mpr ⟨lw_p52, List.forall_mem_cons.mpr ⟨lw_p53, List.forall_mem_cons.mpr ⟨lw_p54, List.forall_mem_cons.mpr ⟨lw_p55, List.forall_mem_cons.mpr ⟨lw_p56, List.forall_mem_cons.mpr ⟨lw_p57, List.forall_mem_cons.mpr ⟨lw_p58, List.forall_mem_cons.mpr ⟨lw_p59, List.forall_mem_cons.mpr ⟨lw_p60, List.forall_mem_cons.mpr ⟨lw_p61, List.forall_mem_cons.mpr ⟨lw_p62, List.forall_mem_cons.mpr ⟨lw_p63, fun _ h => absurd h List.not_mem_nil⟩⟩⟩⟩⟩⟩⟩⟩⟩⟩⟩⟩⟩⟩⟩⟩
theorem lw_p64 : lw_okq (⟨"LimpCodeModel", "knows", "(II)Z"⟩, 70) := ⟨⟨by decide +kernel, by decide +kernel⟩, List.mem_of_getElem? (i := 1061) (by decide +kernel), List.mem_of_getElem? (i := 1442) (by decide +kernel), List.mem_of_getElem? (i := 1443) (by decide +kernel)⟩
theorem lw_p65 : lw_okq (⟨"LimpCodeModel", "misses", "(III)I"⟩, 70) := ⟨⟨by decide +kernel, by decide +kernel⟩, List.mem_of_getElem? (i := 1061) (by decide +kernel), List.mem_of_getElem? (i := 1446) (by decide +kernel), List.mem_of_getElem? (i := 1447) (by decide +kernel)⟩
theorem lw_p66 : lw_okq (⟨"LimpCodeModel", "leads", "(IIIII)Z"⟩, 70) := ⟨⟨by decide +kernel, by decide +kernel⟩, List.mem_of_getElem? (i := 1061) (by decide +kernel), List.mem_of_getElem? (i := 1454) (by decide +kernel), List.mem_of_getElem? (i := 1455) (by decide +kernel)⟩
theorem lw_p67 : lw_okq (⟨"LimpCodeModel", "isLetterOf", "(I)Z"⟩, 70) := ⟨⟨by decide +kernel, by decide +kernel⟩, List.mem_of_getElem? (i := 1061) (by decide +kernel), List.mem_of_getElem? (i := 1466) (by decide +kernel), List.mem_of_getElem? (i := 1467) (by decide +kernel)⟩
theorem lw_p68 : lw_okq (⟨"LimpCodeModel", "footOf", "(I)I"⟩, 70) := ⟨⟨by decide +kernel, by decide +kernel⟩, List.mem_of_getElem? (i := 1061) (by decide +kernel), List.mem_of_getElem? (i := 1474) (by decide +kernel), List.mem_of_getElem? (i := 1475) (by decide +kernel)⟩
theorem lw_p69 : lw_okq (⟨"LimpCodeModel", "timeOf", "(I)I"⟩, 70) := ⟨⟨by decide +kernel, by decide +kernel⟩, List.mem_of_getElem? (i := 1061) (by decide +kernel), List.mem_of_getElem? (i := 1478) (by decide +kernel), List.mem_of_getElem? (i := 1479) (by decide +kernel)⟩
theorem lw_p70 : lw_okq (⟨"LimpCodeModel", "areTwo", "(II)Z"⟩, 70) := ⟨⟨by decide +kernel, by decide +kernel⟩, List.mem_of_getElem? (i := 1061) (by decide +kernel), List.mem_of_getElem? (i := 1490) (by decide +kernel), List.mem_of_getElem? (i := 1491) (by decide +kernel)⟩
theorem lw_p71 : lw_okq (⟨"LimpCodeModel", "doubles", "(II)J"⟩, 70) := ⟨⟨by decide +kernel, by decide +kernel⟩, List.mem_of_getElem? (i := 1061) (by decide +kernel), List.mem_of_getElem? (i := 1494) (by decide +kernel), List.mem_of_getElem? (i := 1495) (by decide +kernel)⟩
theorem lw_p72 : lw_okq (⟨"LimpCodeModel", "layWalks", "(III)V"⟩, 70) := ⟨⟨by decide +kernel, by decide +kernel⟩, List.mem_of_getElem? (i := 1061) (by decide +kernel), List.mem_of_getElem? (i := 1498) (by decide +kernel), List.mem_of_getElem? (i := 1499) (by decide +kernel)⟩
theorem lw_p73 : lw_okq (⟨"LimpCodeModel", "laySaid", "(II)V"⟩, 70) := ⟨⟨by decide +kernel, by decide +kernel⟩, List.mem_of_getElem? (i := 1061) (by decide +kernel), List.mem_of_getElem? (i := 1502) (by decide +kernel), List.mem_of_getElem? (i := 1503) (by decide +kernel)⟩
theorem lw_p74 : lw_okq (⟨"LimpCodeModel", "goesOn", "(IIIIII)Z"⟩, 70) := ⟨⟨by decide +kernel, by decide +kernel⟩, List.mem_of_getElem? (i := 1061) (by decide +kernel), List.mem_of_getElem? (i := 1506) (by decide +kernel), List.mem_of_getElem? (i := 1507) (by decide +kernel)⟩
theorem lw_p75 : lw_okq (⟨"LimpCodeModel", "suits", "(IIII)Z"⟩, 70) := ⟨⟨by decide +kernel, by decide +kernel⟩, List.mem_of_getElem? (i := 1061) (by decide +kernel), List.mem_of_getElem? (i := 1510) (by decide +kernel), List.mem_of_getElem? (i := 1511) (by decide +kernel)⟩
theorem lw_p76 : lw_okq (⟨"LimpCodeModel", "layTried", "(IIIJ)V"⟩, 70) := ⟨⟨by decide +kernel, by decide +kernel⟩, List.mem_of_getElem? (i := 1061) (by decide +kernel), List.mem_of_getElem? (i := 1514) (by decide +kernel), List.mem_of_getElem? (i := 1515) (by decide +kernel)⟩
theorem lw_p77 : lw_okq (⟨"LimpCodeModel", "putDown", "()V"⟩, 70) := ⟨⟨by decide +kernel, by decide +kernel⟩, List.mem_of_getElem? (i := 1061) (by decide +kernel), List.mem_of_getElem? (i := 1518) (by decide +kernel), List.mem_of_getElem? (i := 1519) (by decide +kernel)⟩
theorem lw_p78 : lw_okq (⟨"LimpCodeModel", "isRead", "(II)Z"⟩, 70) := ⟨⟨by decide +kernel, by decide +kernel⟩, List.mem_of_getElem? (i := 1061) (by decide +kernel), List.mem_of_getElem? (i := 1527) (by decide +kernel), List.mem_of_getElem? (i := 1528) (by decide +kernel)⟩
theorem lw_p79 : lw_okq (⟨"LimpCodeModel", "layWhole", "(I)V"⟩, 70) := ⟨⟨by decide +kernel, by decide +kernel⟩, List.mem_of_getElem? (i := 1061) (by decide +kernel), List.mem_of_getElem? (i := 1539) (by decide +kernel), List.mem_of_getElem? (i := 1540) (by decide +kernel)⟩
def lw_privs_5 : List (MethodName × Nat) := [(⟨"LimpCodeModel", "knows", "(II)Z"⟩, 70), (⟨"LimpCodeModel", "misses", "(III)I"⟩, 70), (⟨"LimpCodeModel", "leads", "(IIIII)Z"⟩, 70), (⟨"LimpCodeModel", "isLetterOf", "(I)Z"⟩, 70), (⟨"LimpCodeModel", "footOf", "(I)I"⟩, 70), (⟨"LimpCodeModel", "timeOf", "(I)I"⟩, 70), (⟨"LimpCodeModel", "areTwo", "(II)Z"⟩, 70), (⟨"LimpCodeModel", "doubles", "(II)J"⟩, 70), (⟨"LimpCodeModel", "layWalks", "(III)V"⟩, 70), (⟨"LimpCodeModel", "laySaid", "(II)V"⟩, 70), (⟨"LimpCodeModel", "goesOn", "(IIIIII)Z"⟩, 70), (⟨"LimpCodeModel", "suits", "(IIII)Z"⟩, 70), (⟨"LimpCodeModel", "layTried", "(IIIJ)V"⟩, 70), (⟨"LimpCodeModel", "putDown", "()V"⟩, 70), (⟨"LimpCodeModel", "isRead", "(II)Z"⟩, 70), (⟨"LimpCodeModel", "layWhole", "(I)V"⟩, 70)]
theorem lw_r5 : ∀ q ∈ lw_privs_5, lw_okq q := List.forall_mem_cons.mpr ⟨lw_p64, List.forall_mem_cons.mpr ⟨lw_p65, List.forall_mem_cons.mpr ⟨lw_p66, List.forall_mem_cons.mpr ⟨lw_p67, List.forall_mem_cons.mpr ⟨lw_p68, List.forall_mem_cons.mpr ⟨lw_p69, List.forall_mem_cons.mpr ⟨lw_p70, List.forall_mem_cons.mpr ⟨lw_p71, List.forall_mem_cons.mpr ⟨lw_p72, List.forall_mem_cons.mpr ⟨lw_p73, List.forall_mem_cons.mpr ⟨lw_p74, List.forall_mem_cons.mpr ⟨lw_p75, List.forall_mem_cons.mpr ⟨lw_p76, List.forall_mem_cons.mpr ⟨lw_p77, List.forall_mem_cons.mpr ⟨lw_p78, List.forall_mem_cons.mpr ⟨lw_p79, fun _ h => absurd h List.not_mem_nil⟩⟩⟩⟩⟩⟩⟩⟩⟩⟩⟩⟩⟩⟩⟩⟩
theorem lw_p80 : lw_okq (⟨"LimpCodeModel", "mayBe", "(II)Z"⟩, 70) := ⟨⟨by decide +kernel, by decide +kernel⟩, List.mem_of_getElem? (i := 1061) (by decide +kernel), List.mem_of_getElem? (i := 1543) (by decide +kernel), List.mem_of_getElem? (i := 1544) (by decide +kernel)⟩
theorem lw_p81 : lw_okq (⟨"LimpCodeModel", "rest", "(II)I"⟩, 70) := ⟨⟨by decide +kernel, by decide +kernel⟩, List.mem_of_getElem? (i := 1061) (by decide +kernel), List.mem_of_getElem? (i := 1551) (by decide +kernel), List.mem_of_getElem? (i := 1552) (by decide +kernel)⟩
theorem lw_p82 : lw_okq (⟨"LimpCodeModel", "layMay", "(II)Z"⟩, 70) := ⟨⟨by decide +kernel, by decide +kernel⟩, List.mem_of_getElem? (i := 1061) (by decide +kernel), List.mem_of_getElem? (i := 1586) (by decide +kernel), List.mem_of_getElem? (i := 1587) (by decide +kernel)⟩
theorem lw_p83 : lw_okq (⟨"LimpCodeModel", "isSo", "(III)Z"⟩, 70) := ⟨⟨by decide +kernel, by decide +kernel⟩, List.mem_of_getElem? (i := 1061) (by decide +kernel), List.mem_of_getElem? (i := 1590) (by decide +kernel), List.mem_of_getElem? (i := 1591) (by decide +kernel)⟩
theorem lw_p84 : lw_okq (⟨"LimpCodeModel", "counts", "(II)Z"⟩, 70) := ⟨⟨by decide +kernel, by decide +kernel⟩, List.mem_of_getElem? (i := 1061) (by decide +kernel), List.mem_of_getElem? (i := 1594) (by decide +kernel), List.mem_of_getElem? (i := 1595) (by decide +kernel)⟩
theorem lw_p85 : lw_okq (⟨"LimpCodeModel", "goesTo", "(IIII)Z"⟩, 70) := ⟨⟨by decide +kernel, by decide +kernel⟩, List.mem_of_getElem? (i := 1061) (by decide +kernel), List.mem_of_getElem? (i := 1598) (by decide +kernel), List.mem_of_getElem? (i := 1599) (by decide +kernel)⟩
def lw_privs_6 : List (MethodName × Nat) := [(⟨"LimpCodeModel", "mayBe", "(II)Z"⟩, 70), (⟨"LimpCodeModel", "rest", "(II)I"⟩, 70), (⟨"LimpCodeModel", "layMay", "(II)Z"⟩, 70), (⟨"LimpCodeModel", "isSo", "(III)Z"⟩, 70), (⟨"LimpCodeModel", "counts", "(II)Z"⟩, 70), (⟨"LimpCodeModel", "goesTo", "(IIII)Z"⟩, 70)]
theorem lw_r6 : ∀ q ∈ lw_privs_6, lw_okq q := List.forall_mem_cons.mpr ⟨lw_p80, List.forall_mem_cons.mpr ⟨lw_p81, List.forall_mem_cons.mpr ⟨lw_p82, List.forall_mem_cons.mpr ⟨lw_p83, List.forall_mem_cons.mpr ⟨lw_p84, List.forall_mem_cons.mpr ⟨lw_p85, fun _ h => absurd h List.not_mem_nil⟩⟩⟩⟩⟩⟩
def lw_privs : List (MethodName × Nat) := lw_privs_1 ++ (lw_privs_2 ++ (lw_privs_3 ++ (lw_privs_4 ++ (lw_privs_5 ++ (lw_privs_6)))))
def lw_tbl : List Cond := k2_sels lw_privs ++ tables_1
theorem lw_privs_ok : ∀ q ∈ lw_privs, lw_okq q := by
  show ∀ q ∈ lw_privs_1 ++ (lw_privs_2 ++ (lw_privs_3 ++ (lw_privs_4 ++ (lw_privs_5 ++ (lw_privs_6))))), lw_okq q
  exact List.forall_mem_append.mpr ⟨lw_r1, List.forall_mem_append.mpr ⟨lw_r2, List.forall_mem_append.mpr ⟨lw_r3, List.forall_mem_append.mpr ⟨lw_r4, List.forall_mem_append.mpr ⟨lw_r5, lw_r6⟩⟩⟩⟩⟩
end
section
/-! rows of my own: arrays of arrays; new arrays whose class is known -/
def nx_o (c : ClassId) (N h i : Nat) : Cell := arrV c N (fun j => va_rf (if j < i then some (h + 1 + j) else none))
theorem nx_o_0 (c : ClassId) (N h : Nat) : nx_o c N h 0 = ({ cls := c, slots := Array.replicate N .null, vm := .none } : Cell) := by
  rw [arrV_new]
  refine congrArg (arrV c N) (funext fun j => ?_)
  simp [va_rf]
theorem nx_o_up (c : ClassId) (N h i : Nat) : (nx_o c N h i).setSlot i (.ref (h + 1 + i)) = nx_o c N h (i + 1) := by
  unfold nx_o
  rw [arrV_store]
  refine congrArg (arrV c N) (funext fun j => ?_)
  unfold updV
  by_cases e : j = i
  · subst e
    simp [va_rf]
  · rw [if_neg e]
    show va_rf (if j < i then some (h + 1 + j) else none) = _
    by_cases h1 : j < i
    · rw [if_pos h1, if_pos (Nat.lt_succ_of_lt h1)]
    · rw [if_neg h1, if_neg (by omega)]
/-- the state once the outer row and i inner rows are made -/
def nx_r (T : State) (c : ClassId) (N : Nat) (z : Cell) : Nat → State
  | 0 => T.pushCell (nx_o c N T.heap.size 0)
  | i + 1 => ((nx_r T c N z i).pushCell z).setCell T.heap.size (nx_o c N T.heap.size (i + 1))
def nx_F (T U : State) (c : ClassId) (N : Nat) (z : Cell) (i : Nat) : Prop :=
  U.heap.size = T.heap.size + 1 + i ∧ U.heap[T.heap.size]? = some (nx_o c N T.heap.size i) ∧ U.vm = T.vm ∧ U.slotsUsed = T.slotsUsed + N + i * z.slots.size ∧
  (∀ a : Nat, a < T.heap.size → U.heap[a]? = T.heap[a]?) ∧ ∀ j : Nat, j < i → U.heap[T.heap.size + 1 + j]? = some z
theorem nx_r_F (T : State) (c : ClassId) (N : Nat) (z : Cell) : ∀ i, nx_F T (nx_r T c N z i) c N z i
  | 0 => by
    refine ⟨by simp [nx_r], by simp [nx_r], rfl, by simp [nx_r, nx_o, arrV_size], fun a ha => ?_, fun j hj => absurd hj (Nat.not_lt_zero j)⟩
    exact State.heap_pushCell_of_lt _ _ ha
  | i + 1 => by
    obtain ⟨h1, h2, h3, h4, h5, h6⟩ := nx_r_F T c N z i
    have hlt : T.heap.size < (nx_r T c N z i).heap.size := by omega
    have hc : ((nx_r T c N z i).pushCell z).heap[T.heap.size]? = some (nx_o c N T.heap.size i) := by
      rw [State.heap_pushCell_of_lt (h := hlt)]
      exact h2
    refine ⟨?_, State.heap_setCell_self hc, by simp [nx_r, h3], ?_, fun a ha => ?_, fun j hj => ?_⟩
    · simp [nx_r, State.setCell, h1]
      omega
    · simp [nx_r, h4, Nat.succ_mul]
      omega
    · show (((nx_r T c N z i).pushCell z).setCell T.heap.size _).heap[a]? = _
      have ha2 : a < (nx_r T c N z i).heap.size := by omega
      rw [State.heap_setCell_other (Nat.ne_of_gt ha), State.heap_pushCell_of_lt (h := ha2)]
      exact h5 a ha
    · show (((nx_r T c N z i).pushCell z).setCell T.heap.size _).heap[T.heap.size + 1 + j]? = _
      rw [State.heap_setCell_other (show T.heap.size ≠ T.heap.size + 1 + j by omega)]
      rcases Nat.lt_or_ge j i with q | q
      · have hj2 : T.heap.size + 1 + j < (nx_r T c N z i).heap.size := by omega
        rw [State.heap_pushCell_of_lt (h := hj2)]
        exact h6 j q
      · have e : j = i := by omega
        subst e
        rw [← h1]
        exact State.heap_pushCell_size _ _
theorem nx_r_top (T : State) (f : JFrame) (c : ClassId) (N : Nat) (z : Cell) : ∀ i, nx_r (T.setTop f) c N z i = (nx_r T c N z i).setTop f
  | 0 => rfl
  | i + 1 => by simp only [nx_r, nx_r_top T f c N z i, State.heap_setTop, State.pushCell_setTop, State.setCell_setTop]
section NXW
variable {E : CtlPost} {e : Env} {d : Bool} {acts : List Action} {s : State}
theorem nx_fit {t : FieldType} (h : t.isReference = true) : fits t .null = true ∧ ∀ a : Addr, fits t (.ref a) = true := by
  cases t <;> first | (simp [FieldType.isReference] at h; done) | exact ⟨rfl, fun _ => rfl⟩
/-- the machine's making of n rows of m -/
theorem nx_make {c comp cc : ClassId} {k kc : Class} {t0 ty : FieldType} {n m : Int32} (hk : s.vm.classes[c]? = some k) (hkind : k.kind = .array comp t0) (href : t0.isReference = true)
    (hkc : s.vm.classes[comp]? = some kc) (hkindc : kc.kind = .array cc ty) (hn : ¬ n < 0) (hm : ¬ m < 0)
    (hl1 : ¬ n.toNatClampNeg > e.platform.arrayLengthLimit) (hh1 : ¬ n.toNatClampNeg * componentBytes t0 > e.platform.maxHeapBytes)
    (hl2 : ¬ m.toNatClampNeg > e.platform.arrayLengthLimit) (hh2 : ¬ m.toNatClampNeg * componentBytes ty > e.platform.maxHeapBytes) (hdf : fits ty (defaultValue ty) = true)
    (hc : s.heap.size + (1 + n.toNatClampNeg) ≤ e.platform.maxCells) (hs : s.slotsUsed + (n.toNatClampNeg + n.toNatClampNeg * m.toNatClampNeg) ≤ e.platform.maxSlots)
    {Q : Addr → Pre} (hq : ∀ d' acts', Q s.heap.size d' acts' (nx_r s c n.toNatClampNeg { cls := comp, slots := Array.replicate m.toNatClampNeg (defaultValue ty) } n.toNatClampNeg)) :
    wp (multianewarray.make c [n, m]) Q E e d acts s := by
  generalize hz : ({ cls := comp, slots := Array.replicate m.toNatClampNeg (defaultValue ty) } : Cell) = z at hq
  have hzs : z.slots.size = m.toNatClampNeg := by rw [← hz]; simp
  have hno : ([m].find? (· < 0)) = none := by simp [hm]
  have hmul : ∀ i, i < n.toNatClampNeg → i * m.toNatClampNeg + m.toNatClampNeg ≤ n.toNatClampNeg * m.toNatClampNeg := fun i hi => by
    have := Nat.mul_le_mul_right m.toNatClampNeg (show i + 1 ≤ n.toNatClampNeg from hi)
    rw [Nat.succ_mul] at this
    exact this
  rw [multianewarray.make]
  simp only [wp_bind', W.ite, hn, if_false, wp_pure', W.theClass, hk, hkind, Option.some.injEq, exists_eq_left']
  refine W.newArray_of hk hkind hl1 hh1 (by omega) (by have := Nat.zero_le (n.toNatClampNeg * m.toNatClampNeg); omega) (nx_fit href).1 fun acts1 => ?_
  simp only [hno]
  rw [ite_self, wp_bind', Std.Legacy.Range.forIn_eq_forIn_range', show ([:n.toNatClampNeg] : Std.Legacy.Range).size = n.toNatClampNeg by simp [Std.Legacy.Range.size]]
  show wp (forIn (List.range' 0 n.toNatClampNeg 1) PUnit.unit _) _ E e d acts1 _
  refine wp_forIn_inv (fun r U => ∃ i, i ≤ n.toNatClampNeg ∧ r = List.range' i (n.toNatClampNeg - i) ∧ U = nx_r s c n.toNatClampNeg z i) _ _ ⟨0, Nat.zero_le _, rfl, by show _ = s.pushCell _; rw [nx_o_0]⟩ ?_ ?_
  · rintro x r U d' acts' Q' ⟨i, hi, hr, rfl⟩ hnext
    have hlt : i < n.toNatClampNeg := by
      rcases Nat.lt_or_ge i n.toNatClampNeg with h | h
      · exact h
      · rw [show n.toNatClampNeg - i = 0 by omega] at hr
        cases hr
    rw [show n.toNatClampNeg - i = (n.toNatClampNeg - (i + 1)) + 1 by omega, List.range'_succ] at hr
    obtain ⟨rfl, hr⟩ := List.cons.inj hr
    obtain ⟨f1, f2, f3, f4, -, -⟩ := nx_r_F s c n.toNatClampNeg z x
    have hm2 := hmul x hlt
    have hlt0 : s.heap.size < (nx_r s c n.toNatClampNeg z x).heap.size := by omega
    simp only [wp_bind']
    rw [multianewarray.make]
    simp only [wp_bind', W.ite, hm, if_false, wp_pure', W.theClass, f3, hkc, hkindc, Option.some.injEq, exists_eq_left']
    refine W.newArray_of (by rw [f3]; exact hkc) hkindc hl2 hh2 (by rw [f1]; omega) (by rw [f4, hzs]; omega) hdf fun acts2 => ?_
    rw [hz]
    simp only [wp_bind', W.writeLoc, wp_pure']
    refine ⟨nx_o c n.toNatClampNeg s.heap.size x, by rw [State.heap_pushCell_of_lt (h := hlt0)]; exact f2, by simp [nx_o, arrV], by rw [nx_o, arrV_size]; exact hlt, ?_, hnext _ _ _ ⟨x + 1, hlt, hr, ?_⟩⟩
    · simp [nx_o, arrV, State.fitsSlot, State.slotType?, f3, hk, hkind, (nx_fit href).2]
    · rw [f1, nx_o_up]
      rfl
  · rintro U d' acts' ⟨i, hi, hr, rfl⟩
    have hiN : i = n.toNatClampNeg := by
      rcases Nat.lt_or_ge i n.toNatClampNeg with h | h
      · rw [show n.toNatClampNeg - i = (n.toNatClampNeg - (i + 1)) + 1 by omega, List.range'_succ] at hr
        cases hr
      · omega
    subst hiN
    simp only [wp_pure']
    exact hq _ _
end NXW
/-- the class of arrays of arrays is there -/
def nAOA (t : FieldType) (U : State) : Prop := ∃ (comp c : ClassId) (k : Class), U.vm.findClass (FieldType.array t).toString = some comp ∧ U.vm.classes[c]? = some k ∧ k.kind = .array comp (.array t) ∧ U.vm.findClass ("[" ++ (FieldType.array t).toString) = some c
theorem nAOA.of {t : FieldType} {args : Array Value} {U : State} (h : (Cond.arrayOver (.array t)).before args U = true) : nAOA t U := by
  obtain ⟨comp, c, k, h1, -, h3, h4, h5⟩ := arrayOverA_spec h
  exact ⟨comp, c, k, h1, h3, h4, h5⟩
theorem nAOA.moved {t : FieldType} {u U : State} (hvm : u.vm.Alike U.vm) (h : nAOA t u) : nAOA t U := by
  obtain ⟨comp, c, k, h1, h3, h4, h5⟩ := h
  obtain ⟨k', hk', he⟩ := hvm.2.2 _ _ h3
  exact ⟨comp, c, k', by rw [hvm.findClass]; exact h1, hk', by rw [he]; exact h4, by rw [hvm.findClass]; exact h5⟩
section NXS
variable {p : Program} {l : Launch} {e : Env} {R : Room} {s : State} {m : MethodId} {args : Array Value} {below : List Frame} {meth : Method} {c : Code} {H : Heap} {locs : List Loc} {cells slots : Nat} {Q : State → Prop}
variable {cc : ByteArray} {pc : Nat} {ls : Array Slot} {rest : List Value} {D : va_G} {cl : List vw_C} {A : Nat → Prop} {a : Nat} {tys : List (ClassId × FieldType)} {ws : va_W} {H0 : Heap}
theorem nx_stand {T : State} (X : Stand p l e R s m args below meth c T locs cells slots) (cA : ClassId) (N : Nat) (z : Cell) : ∀ i, Stand p l e R s m args below meth c (nx_r T cA N z i) locs (cells + 1 + i) (slots + N + i * z.slots.size)
  | 0 => by
    have h := X.pushed (nx_o cA N T.heap.size 0)
    rw [nx_o, arrV_size] at h
    rw [Nat.zero_mul]
    exact h
  | i + 1 => by
    have Xi := (nx_stand X cA N z i).pushed z
    obtain ⟨f1, f2, -⟩ := nx_r_F T cA N z i
    have hlt : T.heap.size < (nx_r T cA N z i).heap.size := by omega
    have hc : ((nx_r T cA N z i).pushCell z).heap[T.heap.size]? = some (nx_o cA N T.heap.size i) := by
      rw [State.heap_pushCell_of_lt (h := hlt)]
      exact f2
    have h := Xi.stored hc i (.ref (T.heap.size + 1 + i))
    rw [nx_o_up] at h
    have h2 := h.dropFresh (fun x hx => by
      rw [List.mem_singleton] at hx
      subst hx
      exact X.heapGrown)
    rw [Nat.succ_mul, ← Nat.add_assoc (slots + N)]
    exact h2
def nx_q (q N : Nat) : Nat → Option Nat := fun i => if i < N then some (q + 1 + i) else none
/-- the cells of n rows: the outer one at q, the inner ones behind it -/
def nx_w (cO cy : ClassId) (q N : Nat) (z : vp_A) : va_W := (q, .inl (cO, N, .inr (.inr (.inr (.inr (nx_q q N)))))) :: (List.range N).map (fun i => (q + 1 + i, .inl (cy, z)))
theorem nx_w_at {cO cy : ClassId} {q N : Nat} {z : vp_A} {k : Nat} {x : Nat × va_E} (h : (nx_w cO cy q N z)[k]? = some x) : x.1 = q + k ∧ ((k = 0 ∧ x = (q, .inl (cO, N, .inr (.inr (.inr (.inr (nx_q q N))))))) ∨ ∃ i, i < N ∧ k = i + 1 ∧ x = (q + 1 + i, .inl (cy, z))) := by
  cases k with
  | zero =>
    cases h
    exact ⟨rfl, Or.inl ⟨rfl, rfl⟩⟩
  | succ k =>
    have h1 : ((List.range N).map (fun i => ((q + 1 + i, .inl (cy, z)) : Nat × va_E)))[k]? = some x := h
    rw [List.getElem?_map] at h1
    rcases Nat.lt_or_ge k N with hk | hk
    · rw [List.getElem?_range hk] at h1
      cases h1
      exact ⟨by show q + 1 + k = q + (k + 1); omega, Or.inr ⟨k, hk, rfl, rfl⟩⟩
    · rw [List.getElem?_eq_none (by rw [List.length_range]; exact hk)] at h1
      cases h1
theorem nx_multi (hexec : p.tables.exec = Jvm.exec) (hb : c.code = cc) {own : String} {index : Nat} {ty : FieldType} {cO cy : ClassId} (hown : s.vm.findClass own = some m.cls) (hclink : (Cond.classLink own index ("[" ++ (FieldType.array ty).toString)).before args s = true) (hover : nAOA ty s) (harr : (Cond.arrayClass ty).before args s = true)
    (hcO : s.vm.findClass ("[" ++ (FieldType.array ty).toString) = some cO) (hcy : s.vm.findClass ("[" ++ ty.toString) = some cy)
    (hP : va_P D cl ws H) (hD : va_D A ws) (hS : va_S A H0 H locs) (hA : ∀ q, H0.size ≤ q → A q) {n k : Int32} {N' K' : Nat} {z : vp_A} (hn : ¬ n < 0) (hk : ¬ k < 0) (hN : n.toNatClampNeg = N') (hM : k.toNatClampNeg = K')
    (hb1 : N' * 4 ≤ 536870912) (hb2 : K' * componentBytes ty ≤ 536870912) (hb3 : K' ≤ 536870912) (hdf : fits ty (defaultValue ty) = true) (hcells : cells + (1 + N') ≤ R.cells) (hslots : slots + (N' + N' * K') ≤ R.slots)
    (hz : ∀ c : ClassId, vp_cell c z = arrV c K' (fun _ => defaultValue ty)) (hdg : decode cc pc = .ok (.multianewarray index 2, 4))
    (kk : ∀ (q : Nat) (H1 : Heap), va_P D cl (ws ++ nx_w cO cy q N' z) H1 → va_D A (ws ++ nx_w cO cy q N' z) → va_S A H0 H1 locs →
      W p l e R s m args below meth c H1 locs (cells + 1 + N') (slots + N' + N' * K') Q (F0 m (pc + 4) ls (.ref q :: rest))) : W p l e R s m args below meth c H locs cells slots Q (F0 m pc ls (.int k :: .int n :: rest)) := by
  subst hN
  subst hM
  intro T hT X
  subst hT
  subst hb
  have hpl : e.platform.magicAccessors = ({} : Platform).magicAccessors := by rw [X.admits.platform]
  obtain ⟨comp, cA, kA, hcomp, hkA, hkindA, hnameA⟩ := hover
  obtain ⟨comp', kC, cc2, hcomp', hkC, hkindC⟩ := Cond.arrayClass_spec harr
  have e1 : comp' = comp := Option.some.inj (hcomp'.symm.trans hcomp)
  subst e1
  have e2 : cA = cO := Option.some.inj (hnameA.symm.trans hcO)
  subst e2
  have e3 : comp' = cy := Option.some.inj (hcomp'.symm.trans hcy)
  subst e3
  obtain ⟨c0, hfc0, hcl⟩ := Cond.classLink_spec hown hclink e.platform hpl
  cases hnameA.symm.trans hfc0
  obtain ⟨hg₁, hwarm₁, hready₁⟩ := State.classEntry (e := e) X.warmed hcl
  generalize T.vm.noted m.cls index (.cls cA) = vm₁ at hg₁ hwarm₁ hready₁
  have hal : s.vm.Alike vm₁ := hwarm₁.alike
  obtain ⟨kA₁, hkA₁, heA⟩ := hal.2.2 _ _ hkA
  obtain ⟨kC₁, hkC₁, heC⟩ := hal.2.2 _ _ hkC
  have hkindA₁ : kA₁.kind = .array comp' (.array ty) := by rw [heA]; exact hkindA
  have hkindC₁ : kC₁.kind = .array cc2 ty := by rw [heC]; exact hkindC
  have X₁ := X.noted hwarm₁
  obtain ⟨hr1, hr2⟩ := X.roomAbove hcells hslots
  have XF := nx_stand X₁ cA n.toNatClampNeg ({ cls := comp', slots := Array.replicate k.toNatClampNeg (defaultValue ty) } : Cell) n.toNatClampNeg
  obtain ⟨f1, f2, f3, f4, f5, f6⟩ := nx_r_F (T.setVm vm₁) cA n.toNatClampNeg ({ cls := comp', slots := Array.replicate k.toNatClampNeg (defaultValue ty) } : Cell) n.toNatClampNeg
  rw [show ({ cls := comp', slots := Array.replicate k.toNatClampNeg (defaultValue ty) } : Cell).slots.size = k.toNatClampNeg by simp] at XF
  have hzc : ({ cls := comp', slots := Array.replicate k.toNatClampNeg (defaultValue ty) } : Cell) = vp_cell comp' z := by
    rw [hz]
    exact arrV_new comp' k.toNatClampNeg (defaultValue ty)
  generalize hF : nx_r (T.setVm vm₁) cA n.toNatClampNeg ({ cls := comp', slots := Array.replicate k.toNatClampNeg (defaultValue ty) } : Cell) n.toNatClampNeg = F at XF f1 f2 f3 f4 f5 f6
  rw [hzc] at f6
  have hsz : (T.setVm vm₁).heap.size = T.heap.size := rfl
  rw [hsz] at f1 f2 f5 f6
  have hold : ∀ x : Nat, x < T.heap.size → F.heap[x]? = T.heap[x]? := f5
  have hP1 : va_P D cl (ws ++ nx_w cA comp' T.heap.size n.toNatClampNeg z) F.heap := by
    refine (hP.kept (fun k9 x hx => hold x.1 ((hP k9 x hx).lt))).app (fun k9 x hx => ?_)
    obtain ⟨-, h | ⟨i, hi, -, h⟩⟩ := nx_w_at hx
    · obtain ⟨-, rfl⟩ := h
      show F.heap[T.heap.size]? = some (vp_cell _ _)
      rw [vp_cell_q]
      exact f2
    · subst h
      exact f6 i hi
  have hD1 : va_D A (ws ++ nx_w cA comp' T.heap.size n.toNatClampNeg z) := by
    refine hD.app ⟨fun i j x y hi hj hxy => ?_, fun k9 x hx => ?_⟩ (fun i j x y hi hj hxy => ?_)
    · have h1 := (nx_w_at hi).1
      have h2 := (nx_w_at hj).1
      omega
    · have h1 := (nx_w_at hx).1
      exact hA _ (by have := hS.1; omega)
    · have h1 := (hP i x hi).lt
      have h2 := (nx_w_at hj).1
      omega
  have hS1 : va_S A H0 F.heap locs := ⟨by have := hS.1; omega, fun x h1 h2 => (hold x (Nat.lt_of_lt_of_le h1 hS.1)).trans (hS.2.1 x h1 h2), hS.2.2⟩
  obtain ⟨t, a1, b1⟩ := kk T.heap.size F.heap hP1 hD1 hS1 F rfl XF
  refine ⟨t, ?_, b1⟩
  have hl1 : ¬ n.toNatClampNeg > e.platform.arrayLengthLimit := by rw [Launch.admits_arrayLengthLimit X.admits]; omega
  have hh1 : ¬ n.toNatClampNeg * componentBytes (.array ty) > e.platform.maxHeapBytes := by
    rw [Launch.admits_maxHeapBytes X.admits]; show ¬ n.toNatClampNeg * 4 > 536870912; omega
  have hl2 : ¬ k.toNatClampNeg > e.platform.arrayLengthLimit := by rw [Launch.admits_arrayLengthLimit X.admits]; omega
  have hh2 : ¬ k.toNatClampNeg * componentBytes ty > e.platform.maxHeapBytes := by rw [Launch.admits_maxHeapBytes X.admits]; omega
  jvm_step X.here [hexec, hdg]
  simp only [multianewarray.sem, wp_bind', W.resolveClassAt_links (State.method?_setTop (F0 m pc ls (.int k :: .int n :: rest)) X.here.top) hg₁]
  rw [W.popN, if_neg (by decide)]
  refine ⟨F0 m pc ls (.int k :: .int n :: rest), State.topJava?_setTop' (s := T.setVm vm₁) _ X.here.top, [.int n, .int k], rest, rfl, rfl, ?_⟩
  simp only [List.mapM_cons, List.mapM_nil, wp_bind', wp_pure']
  refine nx_make (k := kA₁) (kc := kC₁) (comp := comp') (cc := cc2) (t0 := .array ty) (ty := ty) hkA₁ hkindA₁ rfl hkC₁ hkindC₁ hn hk hl1 hh1 hl2 hh2 hdf (by show T.heap.size + _ ≤ _; omega) (by show T.slotsUsed + _ ≤ _; omega) (fun d' acts' => ?_)
  have eS : ((T.setTop (F0 m pc ls (.int k :: .int n :: rest))).setVm vm₁).setTop { F0 m pc ls (.int k :: .int n :: rest) with stack := rest } = (T.setVm vm₁).setTop { F0 m pc ls (.int k :: .int n :: rest) with stack := rest } := by
    show ((T.setVm vm₁).setTop _).setTop _ = _
    rw [State.setTop_setTop]
  rw [eS, nx_r_top, hF]
  simp only [wp_bind', W.mark, W.pushRef, State.topJava?_setTop' _ XF.here.top, Option.some.injEq, exists_eq_left', State.setTop_setTop, State.heap_setTop]
  intro acts
  simp [jvm, XF.here.top]
  exact a1
/-- an element of an array of arrays -/
theorem nx_aldA (hexec : p.tables.exec = Jvm.exec) (hb : c.code = cc) (hK : va_K D cl tys s) (hP : va_P D cl ws H) (q0 t0 : Nat) {cA : ClassId} {ty : FieldType} {n : Nat} {f : Nat → Option Nat} (ha : ws[q0]? = some (a, .inl (cA, n, .inr (.inr (.inr (.inr f)))))) (ht : tys[t0]? = some (cA, .array ty)) {i : Int32} (hin : vp_in i n) {v : Nat} (hv : f i.toNatClampNeg = some v) (hdg : decode cc pc = .ok (.aaload, 1))
    (kk : W p l e R s m args below meth c H locs cells slots Q (F0 m (pc + 1) ls (.ref v :: rest))) : W p l e R s m args below meth c H locs cells slots Q (F0 m pc ls (.int i :: .ref a :: rest)) := by
  have hlt : i.toNatClampNeg < n := Nat.not_le.mp fun q => hin (Or.inr q)
  exact W.aald (v := .ref v) (ty := .array ty) hexec hb (hP q0 _ ha) ((hK.2 t0 _ ht).1 n (fun j => va_rf (f j))) rfl (fun q => by cases q) (by show ¬ (i < 0 ∨ (arrV _ _ _).slots.size ≤ _); rw [arrV_size]; exact hin) (by show (arrV _ _ _).slots[_]? = _; rw [arrV_read _ _ hlt, hv]; rfl) rfl rfl hdg kk
/-- the same of an array of objects, where the element is known -/
theorem nx_aldO (hexec : p.tables.exec = Jvm.exec) (hb : c.code = cc) (hK : va_K D cl tys s) (hP : va_P D cl ws H) (q0 t0 : Nat) {cA : ClassId} {C : String} {n : Nat} {f : Nat → Option Nat} (ha : ws[q0]? = some (a, .inl (cA, n, .inr (.inr (.inr (.inr f)))))) (ht : tys[t0]? = some (cA, .object C)) {i : Int32} (hin : vp_in i n) {v : Nat} (hv : f i.toNatClampNeg = some v) (hdg : decode cc pc = .ok (.aaload, 1))
    (kk : W p l e R s m args below meth c H locs cells slots Q (F0 m (pc + 1) ls (.ref v :: rest))) : W p l e R s m args below meth c H locs cells slots Q (F0 m pc ls (.int i :: .ref a :: rest)) := by
  refine va_aldq hexec hb hK hP q0 t0 ha ht hin hdg ?_
  rw [hv]
  exact kk
/-- newarray, its class known -/
theorem nx_newa (hexec : p.tables.exec = Jvm.exec) (hb : c.code = cc) {atype : ArrayType} (harr : (Cond.arrayClass (newarray.typeOf atype)).before args s = true) {ty : FieldType} (hty : newarray.typeOf atype = ty) (hK : va_K D cl tys s) (t0 : Nat) {cA : ClassId} (ht0 : tys[t0]? = some (cA, ty)) (hP : va_P D cl ws H) (hD : va_D A ws) (hS : va_S A H0 H locs) (hA : ∀ q, H0.size ≤ q → A q)
    {n : Int32} {N' : Nat} {a0 : vp_A} (ha : ∀ cA : ClassId, vp_cell cA a0 = arrV cA N' (fun _ => defaultValue ty)) (hn : ¬ n < 0) (hN : n.toNatClampNeg = N') (hbytes : N' * componentBytes ty ≤ 536870912) (hcells : cells + 1 ≤ R.cells) (hslots : slots + N' ≤ R.slots) (hdg : decode cc pc = .ok (.newarray atype, 2))
    (kk : ∀ (q : Nat) (H1 : Heap), va_P D cl (ws ++ [(q, .inl (cA, a0))]) H1 → va_D A (ws ++ [(q, .inl (cA, a0))]) → va_S A H0 H1 locs →
      W p l e R s m args below meth c H1 locs (cells + 1) (slots + N') Q (F0 m (pc + 2) ls (.ref q :: rest))) : W p l e R s m args below meth c H locs cells slots Q (F0 m pc ls (.int n :: rest)) := by
  have hA0 := (hK.2 t0 _ ht0).2
  refine va_newa hexec hb harr hty hK hP hD hS hA ha hn hN hbytes hcells hslots hdg (fun q cB H1 hK1 hP1 hD1 hS1 => ?_)
  have h1 := (hK1.2 tys.length (cB, ty) (by rw [List.getElem?_append_right (Nat.le_refl _), Nat.sub_self]; rfl)).2
  have e1 : cB = cA := by
    subst hty
    cases atype <;> exact Option.some.inj (h1.symm.trans hA0)
  subst e1
  exact kk q H1 hP1 hD1 hS1
/-- anewarray, its class known -/
theorem nx_newq (hexec : p.tables.exec = Jvm.exec) (hb : c.code = cc) {own C : String} {index : Nat} (hown : s.vm.findClass own = some m.cls) (hclink : (Cond.classLink own index C).before args s = true) (hover : va_Nw (.arrayOver (.object C)) s) (hK : va_K D cl tys s) (t0 : Nat) {cA : ClassId} (ht0 : tys[t0]? = some (cA, .object C)) (hP : va_P D cl ws H) (hD : va_D A ws) (hS : va_S A H0 H locs) (hA : ∀ q, H0.size ≤ q → A q)
    {n : Int32} {N' : Nat} (hn : ¬ n < 0) (hN : n.toNatClampNeg = N') (hbytes : N' * 4 ≤ 536870912) (hcells : cells + 1 ≤ R.cells) (hslots : slots + N' ≤ R.slots) (hdg : decode cc pc = .ok (.anewarray index, 3))
    (kk : ∀ (q : Nat) (H1 : Heap), va_P D cl (ws ++ [(q, .inl (cA, N', .inr (.inr (.inr (.inr (fun _ => none))))))]) H1 → va_D A (ws ++ [(q, .inl (cA, N', .inr (.inr (.inr (.inr (fun _ => none))))))]) → va_S A H0 H1 locs →
      W p l e R s m args below meth c H1 locs (cells + 1) (slots + N') Q (F0 m (pc + 3) ls (.ref q :: rest))) : W p l e R s m args below meth c H locs cells slots Q (F0 m pc ls (.int n :: rest)) := by
  obtain ⟨-, -, -, -, -, hA0⟩ := (hK.2 t0 _ ht0).2
  refine va_newq hexec hb hown hclink hover hK hP hD hS hA hn hN hbytes hcells hslots hdg (fun q cB H1 hK1 hP1 hD1 hS1 => ?_)
  obtain ⟨-, -, -, -, -, h1⟩ := (hK1.2 tys.length (cB, .object C) (by rw [List.getElem?_append_right (Nat.le_refl _), Nat.sub_self]; rfl)).2
  have e1 : cB = cA := Option.some.inj (h1.symm.trans hA0)
  subst e1
  exact kk q H1 hP1 hD1 hS1
end NXS
/-- the classes of arrays, by the tables' words -/
theorem nx_cls {s : State} {args : Array Value} {ty : FieldType} (h : (Cond.arrayClass ty).before args s = true) : ∃ c : ClassId, ArrOfT s c ty ∧ s.vm.findClass ("[" ++ ty.toString) = some c := by
  obtain ⟨c, k, comp, h1, h2, h3⟩ := Cond.arrayClass_spec h
  exact ⟨c, fun N z => ⟨(fun q hq => by cases hq), k, h2, comp, h3⟩, h1⟩
theorem nx_clsO {s : State} {args : Array Value} {C : String} (h : (Cond.arrayOver (.object C)).before args s = true) : ∃ c : ClassId, ArrOfT s c (.object C) ∧ va_RA s c (.object C) := by
  obtain ⟨comp, c, k, h1, h2, h3, h4, h5⟩ := Cond.arrayOver_spec h
  exact ⟨c, fun N z => ⟨(fun q hq => by cases hq), k, h3, comp, h4⟩, k, comp, h3, h4, h1, h5⟩
theorem nx_clsA {s : State} {args : Array Value} {t : FieldType} (h : (Cond.arrayOver (.array t)).before args s = true) : ∃ c : ClassId, ArrOfT s c (.array t) ∧ va_RA s c (.array t) := by
  obtain ⟨comp, c, k, h1, h2, h3, h4, h5⟩ := arrayOverA_spec h
  exact ⟨c, fun N z => ⟨(fun q hq => by cases hq), k, h3, comp, h4⟩, h5⟩
end
section
def RX0 : String := "LimpCode$Bounds"
def TX0 : u_T := fun k => match k with
  | 0 => ("LimpCode$Bounds", "least", "[[I", true)
  | 1 => ("LimpCode$Bounds", "most", "[[I", true)
  | _ => ("LimpCode$Bounds", "narrowed", "[Z", true)
def tyX0 : Nat → FieldType := fun k => match k with
  | 0 => .array (.array .int)
  | 1 => .array (.array .int)
  | _ => .array .boolean
theorem nmX0 : ∀ a, a < 3 → ∀ b, b < 3 → a ≠ b → (TX0 a).2.1 ≠ (TX0 b).2.1 := by decide +kernel
theorem tyX0_ok : ∀ k, k < 3 → parseFieldDescriptor (TX0 k).2.2.1 = some (tyX0 k) := by decide +kernel
abbrev cX0_init : ByteArray := prog_2_method_1_code
def yX0_init : MethodName := ⟨RX0, "<init>", "()V"⟩
abbrev cX0_open : ByteArray := prog_2_method_2_code
def yX0_open : MethodName := ⟨RX0, "open", "()V"⟩
abbrev cX0_narrow : ByteArray := prog_2_method_3_code
def yX0_narrow : MethodName := ⟨RX0, "narrow", "(IIII)V"⟩
abbrev cX0_fix : ByteArray := prog_2_method_4_code
def yX0_fix : MethodName := ⟨RX0, "fix", "(I[II)V"⟩
abbrev cX0_areQuietFrom : ByteArray := prog_2_method_5_code
def yX0_areQuietFrom : MethodName := ⟨RX0, "areQuietFrom", "(I)Z"⟩
abbrev cX0_areQuiet : ByteArray := prog_2_method_6_code
def yX0_areQuiet : MethodName := ⟨RX0, "areQuiet", "(III)Z"⟩
abbrev cX0_costOf : ByteArray := prog_2_method_7_code
def yX0_costOf : MethodName := ⟨RX0, "costOf", "(LLimpCode$School;III)I"⟩
abbrev cX0_costTo : ByteArray := prog_2_method_8_code
def yX0_costTo : MethodName := ⟨RX0, "costTo", "(IIII)I"⟩
def RX1 : String := "LimpCode$Deal"
def TX1 : u_T := fun k => match k with
  | 0 => ("LimpCode$Deal", "uses", "[I", true)
  | 1 => ("LimpCode$Deal", "restUses", "[I", true)
  | 2 => ("LimpCode$Deal", "restTakes", "[I", true)
  | _ => ("LimpCode$Deal", "given", "[Z", true)
def tyX1 : Nat → FieldType := fun k => match k with
  | 0 => .array .int
  | 1 => .array .int
  | 2 => .array .int
  | _ => .array .boolean
theorem nmX1 : ∀ a, a < 4 → ∀ b, b < 4 → a ≠ b → (TX1 a).2.1 ≠ (TX1 b).2.1 := by decide +kernel
theorem tyX1_ok : ∀ k, k < 4 → parseFieldDescriptor (TX1 k).2.2.1 = some (tyX1 k) := by decide +kernel
abbrev cX1_init : ByteArray := prog_3_method_1_code
def yX1_init : MethodName := ⟨RX1, "<init>", "()V"⟩
abbrev cX1_dealRows : ByteArray := prog_3_method_2_code
def yX1_dealRows : MethodName := ⟨RX1, "dealRows", "(LLimpCode$School;LLimpCode$Text;[I)I"⟩
abbrev cX1_countUses : ByteArray := prog_3_method_3_code
def yX1_countUses : MethodName := ⟨RX1, "countUses", "(LLimpCode$Text;)V"⟩
abbrev cX1_firstRow : ByteArray := prog_3_method_4_code
def yX1_firstRow : MethodName := ⟨RX1, "firstRow", "(LLimpCode$School;II)I"⟩
abbrev cX1_leastOfRest : ByteArray := prog_3_method_5_code
def yX1_leastOfRest : MethodName := ⟨RX1, "leastOfRest", "(LLimpCode$School;I)I"⟩
abbrev cX1_sortUpwards : ByteArray := prog_3_method_6_code
def yX1_sortUpwards : MethodName := ⟨RX1, "sortUpwards", "([II)V"⟩
def RX2 : String := "LimpCode$Earnest"
def TX2 : u_T := fun k => match k with
  | 0 => ("LimpCode$Earnest", "row", "[I", true)
  | 1 => ("LimpCode$Earnest", "loud", "[I", true)
  | 2 => ("LimpCode$Earnest", "size", "I", false)
  | 3 => ("LimpCode$Earnest", "time", "I", false)
  | 4 => ("LimpCode$Earnest", "foot", "I", false)
  | _ => ("LimpCode$Earnest", "kept", "Z", false)
def tyX2 : Nat → FieldType := fun k => match k with
  | 0 => .array .int
  | 1 => .array .int
  | 2 => .int
  | 3 => .int
  | 4 => .int
  | _ => .boolean
theorem nmX2 : ∀ a, a < 6 → ∀ b, b < 6 → a ≠ b → (TX2 a).2.1 ≠ (TX2 b).2.1 := by decide +kernel
theorem tyX2_ok : ∀ k, k < 6 → parseFieldDescriptor (TX2 k).2.2.1 = some (tyX2 k) := by decide +kernel
abbrev cX2_init : ByteArray := prog_4_method_1_code
def yX2_init : MethodName := ⟨RX2, "<init>", "()V"⟩
abbrev cX2_begin : ByteArray := prog_4_method_2_code
def yX2_begin : MethodName := ⟨RX2, "begin", "(LLimpCode$School;)V"⟩
abbrev cX2_standStill : ByteArray := prog_4_method_3_code
def yX2_standStill : MethodName := ⟨RX2, "standStill", "()V"⟩
abbrev cX2_copyFrom : ByteArray := prog_4_method_4_code
def yX2_copyFrom : MethodName := ⟨RX2, "copyFrom", "(LLimpCode$Earnest;)V"⟩
abbrev cX2_walkOn : ByteArray := prog_4_method_5_code
def yX2_walkOn : MethodName := ⟨RX2, "walkOn", "(LLimpCode$School;I)Z"⟩
abbrev cX2_walkAll : ByteArray := prog_4_method_6_code
def yX2_walkAll : MethodName := ⟨RX2, "walkAll", "(LLimpCode$School;LLimpCode$Text;)Z"⟩
abbrev cX2_walkLetter : ByteArray := prog_4_method_7_code
def yX2_walkLetter : MethodName := ⟨RX2, "walkLetter", "(LLimpCode$School;I)Z"⟩
abbrev cX2_hearWalk : ByteArray := prog_4_method_8_code
def yX2_hearWalk : MethodName := ⟨RX2, "hearWalk", "(LLimpCode$School;I[I)V"⟩
abbrev cX2_takenBy : ByteArray := prog_4_method_9_code
def yX2_takenBy : MethodName := ⟨RX2, "takenBy", "(LLimpCode$School;I)I"⟩
def RX3 : String := "LimpCode$Grid"
def TX3 : u_T := fun k => match k with
  | 0 => ("LimpCode$Grid", "takes", "[I", true)
  | 1 => ("LimpCode$Grid", "after", "[[I", true)
  | 2 => ("LimpCode$Grid", "cost", "[[I", true)
  | 3 => ("LimpCode$Grid", "ways", "[[J", true)
  | 4 => ("LimpCode$Grid", "fits", "[J", true)
  | 5 => ("LimpCode$Grid", "alive", "[J", true)
  | 6 => ("LimpCode$Grid", "reached", "[J", true)
  | 7 => ("LimpCode$Grid", "reachedNext", "[J", true)
  | 8 => ("LimpCode$Grid", "count", "I", false)
  | 9 => ("LimpCode$Grid", "time", "I", false)
  | _ => ("LimpCode$Grid", "missed", "I", false)
def tyX3 : Nat → FieldType := fun k => match k with
  | 0 => .array .int
  | 1 => .array (.array .int)
  | 2 => .array (.array .int)
  | 3 => .array (.array .long)
  | 4 => .array .long
  | 5 => .array .long
  | 6 => .array .long
  | 7 => .array .long
  | 8 => .int
  | 9 => .int
  | _ => .int
theorem nmX3 : ∀ a, a < 11 → ∀ b, b < 11 → a ≠ b → (TX3 a).2.1 ≠ (TX3 b).2.1 := by decide +kernel
theorem tyX3_ok : ∀ k, k < 11 → parseFieldDescriptor (TX3 k).2.2.1 = some (tyX3 k) := by decide +kernel
abbrev cX3_init : ByteArray := prog_5_method_1_code
def yX3_init : MethodName := ⟨RX3, "<init>", "(I)V"⟩
abbrev cX3_fillSteps : ByteArray := prog_5_method_2_code
def yX3_fillSteps : MethodName := ⟨RX3, "fillSteps", "(LLimpCode$School;[ILLimpCode$Bounds;I)V"⟩
abbrev cX3_fillTimed : ByteArray := prog_5_method_3_code
def yX3_fillTimed : MethodName := ⟨RX3, "fillTimed", "(LLimpCode$School;II)V"⟩
abbrev cX3_takeSteps : ByteArray := prog_5_method_4_code
def yX3_takeSteps : MethodName := ⟨RX3, "takeSteps", "(LLimpCode$School;)V"⟩
abbrev cX3_fillLetters : ByteArray := prog_5_method_5_code
def yX3_fillLetters : MethodName := ⟨RX3, "fillLetters", "(LLimpCode$School;LLimpCode$Grid;II)V"⟩
abbrev cX3_letterCost : ByteArray := prog_5_method_6_code
def yX3_letterCost : MethodName := ⟨RX3, "letterCost", "(LLimpCode$School;LLimpCode$Grid;II)I"⟩
abbrev cX3_countWays : ByteArray := prog_5_method_7_code
def yX3_countWays : MethodName := ⟨RX3, "countWays", "(II)J"⟩
abbrev cX3_sumOfWays : ByteArray := prog_5_method_8_code
def yX3_sumOfWays : MethodName := ⟨RX3, "sumOfWays", "(III)J"⟩
abbrev cX3_waysBy : ByteArray := prog_5_method_9_code
def yX3_waysBy : MethodName := ⟨RX3, "waysBy", "(IIII)J"⟩
abbrev cX3_itemFrom : ByteArray := prog_5_method_10_code
def yX3_itemFrom : MethodName := ⟨RX3, "itemFrom", "(IIII)I"⟩
abbrev cX3_layFirst : ByteArray := prog_5_method_11_code
def yX3_layFirst : MethodName := ⟨RX3, "layFirst", "([I)I"⟩
abbrev cX3_standingAt : ByteArray := prog_5_method_12_code
def yX3_standingAt : MethodName := ⟨RX3, "standingAt", "(I)I"⟩
abbrev cX3_drawMasks : ByteArray := prog_5_method_13_code
def yX3_drawMasks : MethodName := ⟨RX3, "drawMasks", "()V"⟩
abbrev cX3_reachNext : ByteArray := prog_5_method_14_code
def yX3_reachNext : MethodName := ⟨RX3, "reachNext", "()V"⟩
abbrev cX3_isGoneOnFrom : ByteArray := prog_5_method_15_code
def yX3_isGoneOnFrom : MethodName := ⟨RX3, "isGoneOnFrom", "(II)Z"⟩
def RX4 : String := "LimpCode$Listener"
def TX4 : u_T := fun k => match k with
  | 0 => ("LimpCode$Listener", "letterSounds", "[[I", true)
  | 1 => ("LimpCode$Listener", "stepSounds", "[I", true)
  | 2 => ("LimpCode$Listener", "heardSoFar", "[I", true)
  | 3 => ("LimpCode$Listener", "read", "[J", true)
  | _ => ("LimpCode$Listener", "book", "I", false)
def tyX4 : Nat → FieldType := fun k => match k with
  | 0 => .array (.array .int)
  | 1 => .array .int
  | 2 => .array .int
  | 3 => .array .long
  | _ => .int
theorem nmX4 : ∀ a, a < 5 → ∀ b, b < 5 → a ≠ b → (TX4 a).2.1 ≠ (TX4 b).2.1 := by decide +kernel
theorem tyX4_ok : ∀ k, k < 5 → parseFieldDescriptor (TX4 k).2.2.1 = some (tyX4 k) := by decide +kernel
abbrev cX4_init : ByteArray := prog_6_method_1_code
def yX4_init : MethodName := ⟨RX4, "<init>", "()V"⟩
abbrev cX4_learn : ByteArray := prog_6_method_2_code
def yX4_learn : MethodName := ⟨RX4, "learn", "(LLimpCode$School;[II)V"⟩
abbrev cX4_soundsSame : ByteArray := prog_6_method_3_code
def yX4_soundsSame : MethodName := ⟨RX4, "soundsSame", "(LLimpCode$School;II)Z"⟩
abbrev cX4_matching : ByteArray := prog_6_method_4_code
def yX4_matching : MethodName := ⟨RX4, "matching", "([II[III)I"⟩
abbrev cX4_firstUnheard : ByteArray := prog_6_method_5_code
def yX4_firstUnheard : MethodName := ⟨RX4, "firstUnheard", "(LLimpCode$School;[II)I"⟩
abbrev cX4_readOn : ByteArray := prog_6_method_6_code
def yX4_readOn : MethodName := ⟨RX4, "readOn", "(LLimpCode$School;I[III)I"⟩
abbrev cX4_canBegin : ByteArray := prog_6_method_7_code
def yX4_canBegin : MethodName := ⟨RX4, "canBegin", "(LLimpCode$School;II)Z"⟩
abbrev cX4_canBeginBy : ByteArray := prog_6_method_8_code
def yX4_canBeginBy : MethodName := ⟨RX4, "canBeginBy", "(LLimpCode$School;III)Z"⟩
abbrev cX4_markRead : ByteArray := prog_6_method_9_code
def yX4_markRead : MethodName := ⟨RX4, "markRead", "(LLimpCode$School;II)V"⟩
abbrev cX4_hearStep : ByteArray := prog_6_method_10_code
def yX4_hearStep : MethodName := ⟨RX4, "hearStep", "(LLimpCode$School;II)V"⟩
abbrev cX4_readUpTo : ByteArray := prog_6_method_11_code
def yX4_readUpTo : MethodName := ⟨RX4, "readUpTo", "(LLimpCode$School;II)V"⟩
abbrev cX4_canReadUpTo : ByteArray := prog_6_method_12_code
def yX4_canReadUpTo : MethodName := ⟨RX4, "canReadUpTo", "(I)Z"⟩
def RX5 : String := "LimpCode$School"
def TX5 : u_T := fun k => match k with
  | 0 => ("LimpCode$School", "stepNames", "[J", true)
  | 1 => ("LimpCode$School", "takes", "[I", true)
  | 2 => ("LimpCode$School", "toldLoud", "[I", true)
  | 3 => ("LimpCode$School", "sides", "[I", true)
  | 4 => ("LimpCode$School", "letterNames", "[J", true)
  | 5 => ("LimpCode$School", "letterSizes", "[I", true)
  | 6 => ("LimpCode$School", "letterRows", "[[I", true)
  | 7 => ("LimpCode$School", "letterTakes", "[I", true)
  | 8 => ("LimpCode$School", "letterAfter", "[[I", true)
  | 9 => ("LimpCode$School", "earNames", "[J", true)
  | 10 => ("LimpCode$School", "floors", "[I", true)
  | 11 => ("LimpCode$School", "books", "[I", true)
  | 12 => ("LimpCode$School", "stepCount", "I", false)
  | 13 => ("LimpCode$School", "letterCount", "I", false)
  | _ => ("LimpCode$School", "earCount", "I", false)
def tyX5 : Nat → FieldType := fun k => match k with
  | 0 => .array .long
  | 1 => .array .int
  | 2 => .array .int
  | 3 => .array .int
  | 4 => .array .long
  | 5 => .array .int
  | 6 => .array (.array .int)
  | 7 => .array .int
  | 8 => .array (.array .int)
  | 9 => .array .long
  | 10 => .array .int
  | 11 => .array .int
  | 12 => .int
  | 13 => .int
  | _ => .int
theorem nmX5 : ∀ a, a < 15 → ∀ b, b < 15 → a ≠ b → (TX5 a).2.1 ≠ (TX5 b).2.1 := by decide +kernel
theorem tyX5_ok : ∀ k, k < 15 → parseFieldDescriptor (TX5 k).2.2.1 = some (tyX5 k) := by decide +kernel
abbrev cX5_init : ByteArray := prog_7_method_1_code
def yX5_init : MethodName := ⟨RX5, "<init>", "()V"⟩
abbrev cX5_clear : ByteArray := prog_7_method_2_code
def yX5_clear : MethodName := ⟨RX5, "clear", "()V"⟩
abbrev cX5_hasStep : ByteArray := prog_7_method_3_code
def yX5_hasStep : MethodName := ⟨RX5, "hasStep", "(I)Z"⟩
abbrev cX5_hasLetter : ByteArray := prog_7_method_4_code
def yX5_hasLetter : MethodName := ⟨RX5, "hasLetter", "(I)Z"⟩
abbrev cX5_hasEar : ByteArray := prog_7_method_5_code
def yX5_hasEar : MethodName := ⟨RX5, "hasEar", "(I)Z"⟩
abbrev cX5_footAfter : ByteArray := prog_7_method_6_code
def yX5_footAfter : MethodName := ⟨RX5, "footAfter", "(II)I"⟩
abbrev cX5_heardBelow : ByteArray := prog_7_method_7_code
def yX5_heardBelow : MethodName := ⟨RX5, "heardBelow", "(II)I"⟩
abbrev cX5_measureLetter : ByteArray := prog_7_method_8_code
def yX5_measureLetter : MethodName := ⟨RX5, "measureLetter", "(I)V"⟩
abbrev cX5_hearLetter : ByteArray := prog_7_method_9_code
def yX5_hearLetter : MethodName := ⟨RX5, "hearLetter", "(I[II[II)I"⟩
def RX6 : String := "LimpCode$SchoolReader"
def TX6 : u_T := fun k => match k with
  | 0 => ("LimpCode$SchoolReader", "fault", "I", false)
  | 1 => ("LimpCode$SchoolReader", "faultPlace", "I", false)
  | _ => ("LimpCode$SchoolReader", "number", "I", false)
def tyX6 : Nat → FieldType := fun k => match k with
  | 0 => .int
  | 1 => .int
  | _ => .int
theorem nmX6 : ∀ a, a < 3 → ∀ b, b < 3 → a ≠ b → (TX6 a).2.1 ≠ (TX6 b).2.1 := by decide +kernel
theorem tyX6_ok : ∀ k, k < 3 → parseFieldDescriptor (TX6 k).2.2.1 = some (tyX6 k) := by decide +kernel
abbrev cX6_init : ByteArray := prog_8_method_1_code
def yX6_init : MethodName := ⟨RX6, "<init>", "()V"⟩
abbrev cX6_readSchool : ByteArray := prog_8_method_2_code
def yX6_readSchool : MethodName := ⟨RX6, "readSchool", "(LLimpCode$Tape;LLimpCode$School;)Z"⟩
abbrev cX6_readStep : ByteArray := prog_8_method_3_code
def yX6_readStep : MethodName := ⟨RX6, "readStep", "(LLimpCode$Tape;LLimpCode$School;)Z"⟩
abbrev cX6_readSide : ByteArray := prog_8_method_4_code
def yX6_readSide : MethodName := ⟨RX6, "readSide", "(LLimpCode$Tape;)I"⟩
abbrev cX6_readLetter : ByteArray := prog_8_method_5_code
def yX6_readLetter : MethodName := ⟨RX6, "readLetter", "(LLimpCode$Tape;LLimpCode$School;)Z"⟩
abbrev cX6_readEar : ByteArray := prog_8_method_6_code
def yX6_readEar : MethodName := ⟨RX6, "readEar", "(LLimpCode$Tape;LLimpCode$School;)Z"⟩
abbrev cX6_readBook : ByteArray := prog_8_method_7_code
def yX6_readBook : MethodName := ⟨RX6, "readBook", "(LLimpCode$Tape;LLimpCode$School;)I"⟩
abbrev cX6_readNewName : ByteArray := prog_8_method_8_code
def yX6_readNewName : MethodName := ⟨RX6, "readNewName", "(LLimpCode$Tape;[JI)Z"⟩
abbrev cX6_knownName : ByteArray := prog_8_method_9_code
def yX6_knownName : MethodName := ⟨RX6, "knownName", "(LLimpCode$Tape;[JI)I"⟩
abbrev cX6_find : ByteArray := prog_8_method_10_code
def yX6_find : MethodName := ⟨RX6, "find", "([JIJ)I"⟩
abbrev cX6_passWord : ByteArray := prog_8_method_11_code
def yX6_passWord : MethodName := ⟨RX6, "passWord", "(LLimpCode$Tape;Ljava/lang/String;)Z"⟩
abbrev cX6_passNumber : ByteArray := prog_8_method_12_code
def yX6_passNumber : MethodName := ⟨RX6, "passNumber", "(LLimpCode$Tape;II)Z"⟩
abbrev cX6_passSemicolon : ByteArray := prog_8_method_13_code
def yX6_passSemicolon : MethodName := ⟨RX6, "passSemicolon", "(LLimpCode$Tape;)Z"⟩
abbrev cX6_refuse : ByteArray := prog_8_method_14_code
def yX6_refuse : MethodName := ⟨RX6, "refuse", "(LLimpCode$Tape;I)Z"⟩
def RX7 : String := "LimpCode$SecretSearch"
def TX7 : u_T := fun k => match k with
  | 0 => ("LimpCode$SecretSearch", "walk", "[I", true)
  | 1 => ("LimpCode$SecretSearch", "begins", "[I", true)
  | 2 => ("LimpCode$SecretSearch", "feet", "[I", true)
  | _ => ("LimpCode$SecretSearch", "size", "I", false)
def tyX7 : Nat → FieldType := fun k => match k with
  | 0 => .array .int
  | 1 => .array .int
  | 2 => .array .int
  | _ => .int
theorem nmX7 : ∀ a, a < 4 → ∀ b, b < 4 → a ≠ b → (TX7 a).2.1 ≠ (TX7 b).2.1 := by decide +kernel
theorem tyX7_ok : ∀ k, k < 4 → parseFieldDescriptor (TX7 k).2.2.1 = some (tyX7 k) := by decide +kernel
abbrev cX7_init : ByteArray := prog_9_method_1_code
def yX7_init : MethodName := ⟨RX7, "<init>", "()V"⟩
abbrev cX7_seek : ByteArray := prog_9_method_2_code
def yX7_seek : MethodName := ⟨RX7, "seek", "(LLimpCode$School;LLimpCode$Grid;LLimpCode$Listener;J)I"⟩
abbrev cX7_begin : ByteArray := prog_9_method_3_code
def yX7_begin : MethodName := ⟨RX7, "begin", "()V"⟩
abbrev cX7_goOn : ByteArray := prog_9_method_4_code
def yX7_goOn : MethodName := ⟨RX7, "goOn", "(LLimpCode$School;LLimpCode$Grid;LLimpCode$Listener;)V"⟩
abbrev cX7_copyWalk : ByteArray := prog_9_method_5_code
def yX7_copyWalk : MethodName := ⟨RX7, "copyWalk", "([I)I"⟩
def RX8 : String := "LimpCode$Sounds"
def TX8 : u_T := fun k => match k with
  | 0 => ("LimpCode$Sounds", "ears", "[I", true)
  | 1 => ("LimpCode$Sounds", "moments", "[I", true)
  | 2 => ("LimpCode$Sounds", "leasts", "[I", true)
  | 3 => ("LimpCode$Sounds", "mosts", "[I", true)
  | 4 => ("LimpCode$Sounds", "toldAt", "[I", true)
  | 5 => ("LimpCode$Sounds", "untoldAt", "[I", true)
  | _ => ("LimpCode$Sounds", "count", "I", false)
def tyX8 : Nat → FieldType := fun k => match k with
  | 0 => .array .int
  | 1 => .array .int
  | 2 => .array .int
  | 3 => .array .int
  | 4 => .array .int
  | 5 => .array .int
  | _ => .int
theorem nmX8 : ∀ a, a < 7 → ∀ b, b < 7 → a ≠ b → (TX8 a).2.1 ≠ (TX8 b).2.1 := by decide +kernel
theorem tyX8_ok : ∀ k, k < 7 → parseFieldDescriptor (TX8 k).2.2.1 = some (tyX8 k) := by decide +kernel
abbrev cX8_init : ByteArray := prog_10_method_1_code
def yX8_init : MethodName := ⟨RX8, "<init>", "()V"⟩
abbrev cX8_add : ByteArray := prog_10_method_2_code
def yX8_add : MethodName := ⟨RX8, "add", "(IIIII)I"⟩
abbrev cX8_takeBack : ByteArray := prog_10_method_3_code
def yX8_takeBack : MethodName := ⟨RX8, "takeBack", "(II)Z"⟩
abbrev cX8_narrowAsKnown : ByteArray := prog_10_method_4_code
def yX8_narrowAsKnown : MethodName := ⟨RX8, "narrowAsKnown", "(LLimpCode$Bounds;I)V"⟩
def RX9 : String := "LimpCode$Tape"
def TX9 : u_T := fun k => match k with
  | 0 => ("LimpCode$Tape", "bytes", "[B", true)
  | 1 => ("LimpCode$Tape", "size", "I", false)
  | 2 => ("LimpCode$Tape", "kind", "I", false)
  | 3 => ("LimpCode$Tape", "place", "I", false)
  | 4 => ("LimpCode$Tape", "behind", "I", false)
  | 5 => ("LimpCode$Tape", "word", "J", false)
  | _ => ("LimpCode$Tape", "number", "I", false)
def tyX9 : Nat → FieldType := fun k => match k with
  | 0 => .array .byte
  | 1 => .int
  | 2 => .int
  | 3 => .int
  | 4 => .int
  | 5 => .long
  | _ => .int
theorem nmX9 : ∀ a, a < 7 → ∀ b, b < 7 → a ≠ b → (TX9 a).2.1 ≠ (TX9 b).2.1 := by decide +kernel
theorem tyX9_ok : ∀ k, k < 7 → parseFieldDescriptor (TX9 k).2.2.1 = some (tyX9 k) := by decide +kernel
abbrev cX9_init : ByteArray := prog_11_method_1_code
def yX9_init : MethodName := ⟨RX9, "<init>", "()V"⟩
abbrev cX9_hasRoomFor : ByteArray := prog_11_method_2_code
def yX9_hasRoomFor : MethodName := ⟨RX9, "hasRoomFor", "(I)Z"⟩
abbrev cX9_put : ByteArray := prog_11_method_3_code
def yX9_put : MethodName := ⟨RX9, "put", "(I)V"⟩
abbrev cX9_rewind : ByteArray := prog_11_method_4_code
def yX9_rewind : MethodName := ⟨RX9, "rewind", "()V"⟩
abbrev cX9_readNext : ByteArray := prog_11_method_5_code
def yX9_readNext : MethodName := ⟨RX9, "readNext", "()V"⟩
abbrev cX9_readWord : ByteArray := prog_11_method_6_code
def yX9_readWord : MethodName := ⟨RX9, "readWord", "()V"⟩
abbrev cX9_readNumber : ByteArray := prog_11_method_7_code
def yX9_readNumber : MethodName := ⟨RX9, "readNumber", "()V"⟩
abbrev cX9_isAt : ByteArray := prog_11_method_8_code
def yX9_isAt : MethodName := ⟨RX9, "isAt", "(Ljava/lang/String;)Z"⟩
abbrev cX9_isAtName : ByteArray := prog_11_method_9_code
def yX9_isAtName : MethodName := ⟨RX9, "isAtName", "()Z"⟩
abbrev cX9_byteAt : ByteArray := prog_11_method_10_code
def yX9_byteAt : MethodName := ⟨RX9, "byteAt", "(I)I"⟩
abbrev cX9_isBlank : ByteArray := prog_11_method_11_code
def yX9_isBlank : MethodName := ⟨RX9, "isBlank", "(I)Z"⟩
abbrev cX9_isLetter : ByteArray := prog_11_method_12_code
def yX9_isLetter : MethodName := ⟨RX9, "isLetter", "(I)Z"⟩
abbrev cX9_isDigit : ByteArray := prog_11_method_13_code
def yX9_isDigit : MethodName := ⟨RX9, "isDigit", "(I)Z"⟩
def RX10 : String := "LimpCode$Text"
def TX10 : u_T := fun k => match k with
  | 0 => ("LimpCode$Text", "row", "[I", true)
  | 1 => ("LimpCode$Text", "size", "I", false)
  | 2 => ("LimpCode$Text", "time", "I", false)
  | _ => ("LimpCode$Text", "foot", "I", false)
def tyX10 : Nat → FieldType := fun k => match k with
  | 0 => .array .int
  | 1 => .int
  | 2 => .int
  | _ => .int
theorem nmX10 : ∀ a, a < 4 → ∀ b, b < 4 → a ≠ b → (TX10 a).2.1 ≠ (TX10 b).2.1 := by decide +kernel
theorem tyX10_ok : ∀ k, k < 4 → parseFieldDescriptor (TX10 k).2.2.1 = some (tyX10 k) := by decide +kernel
abbrev cX10_init : ByteArray := prog_12_method_1_code
def yX10_init : MethodName := ⟨RX10, "<init>", "()V"⟩
abbrev cX10_clear : ByteArray := prog_12_method_2_code
def yX10_clear : MethodName := ⟨RX10, "clear", "()V"⟩
abbrev cX10_add : ByteArray := prog_12_method_3_code
def yX10_add : MethodName := ⟨RX10, "add", "(LLimpCode$School;I)Z"⟩
abbrev cX10_hearText : ByteArray := prog_12_method_4_code
def yX10_hearText : MethodName := ⟨RX10, "hearText", "(LLimpCode$School;[II[I)V"⟩
def RX11 : String := "LimpCode"
def TX11 : u_T := fun k => match k with
  | 0 => ("LimpCode", "tape", "LLimpCode$Tape;", true)
  | 1 => ("LimpCode", "reader", "LLimpCode$SchoolReader;", true)
  | 2 => ("LimpCode", "now", "LLimpCode$School;", false)
  | 3 => ("LimpCode", "spare", "LLimpCode$School;", false)
  | 4 => ("LimpCode", "earnest", "LLimpCode$Earnest;", true)
  | 5 => ("LimpCode", "boxes", "[LLimpCode$Earnest;", true)
  | 6 => ("LimpCode", "texts", "[LLimpCode$Text;", true)
  | 7 => ("LimpCode", "sounds", "LLimpCode$Sounds;", true)
  | 8 => ("LimpCode", "bounds", "LLimpCode$Bounds;", true)
  | 9 => ("LimpCode", "steps", "LLimpCode$Grid;", true)
  | 10 => ("LimpCode", "letters", "LLimpCode$Grid;", true)
  | 11 => ("LimpCode", "listener", "LLimpCode$Listener;", true)
  | 12 => ("LimpCode", "search", "LLimpCode$SecretSearch;", true)
  | 13 => ("LimpCode", "deal", "LLimpCode$Deal;", true)
  | 14 => ("LimpCode", "firstHeard", "[I", true)
  | 15 => ("LimpCode", "secondHeard", "[I", true)
  | 16 => ("LimpCode", "lying", "[I", true)
  | 17 => ("LimpCode", "lyingSize", "I", false)
  | _ => ("LimpCode", "timeOfDay", "I", false)
def tyX11 : Nat → FieldType := fun k => match k with
  | 0 => .object "LimpCode$Tape"
  | 1 => .object "LimpCode$SchoolReader"
  | 2 => .object "LimpCode$School"
  | 3 => .object "LimpCode$School"
  | 4 => .object "LimpCode$Earnest"
  | 5 => .array (.object "LimpCode$Earnest")
  | 6 => .array (.object "LimpCode$Text")
  | 7 => .object "LimpCode$Sounds"
  | 8 => .object "LimpCode$Bounds"
  | 9 => .object "LimpCode$Grid"
  | 10 => .object "LimpCode$Grid"
  | 11 => .object "LimpCode$Listener"
  | 12 => .object "LimpCode$SecretSearch"
  | 13 => .object "LimpCode$Deal"
  | 14 => .array .int
  | 15 => .array .int
  | 16 => .array .int
  | 17 => .int
  | _ => .int
theorem nmX11 : ∀ a, a < 19 → ∀ b, b < 19 → a ≠ b → (TX11 a).2.1 ≠ (TX11 b).2.1 := by decide +kernel
theorem tyX11_ok : ∀ k, k < 19 → parseFieldDescriptor (TX11 k).2.2.1 = some (tyX11 k) := by decide +kernel
abbrev cX11_init : ByteArray := prog_1_method_1_code
def yX11_init : MethodName := ⟨RX11, "<init>", "()V"⟩
abbrev cX11_feed : ByteArray := prog_1_method_2_code
def yX11_feed : MethodName := ⟨RX11, "feed", "(IIIII)I"⟩
abbrev cX11_end : ByteArray := prog_1_method_3_code
def yX11_end : MethodName := ⟨RX11, "end", "(I)I"⟩
abbrev cX11_school : ByteArray := prog_1_method_4_code
def yX11_school : MethodName := ⟨RX11, "school", "()I"⟩
abbrev cX11_forgetAllOfOldSchool : ByteArray := prog_1_method_5_code
def yX11_forgetAllOfOldSchool : MethodName := ⟨RX11, "forgetAllOfOldSchool", "()V"⟩
abbrev cX11_fault : ByteArray := prog_1_method_6_code
def yX11_fault : MethodName := ⟨RX11, "fault", "(I)I"⟩
abbrev cX11_step : ByteArray := prog_1_method_7_code
def yX11_step : MethodName := ⟨RX11, "step", "(I)I"⟩
abbrev cX11_say : ByteArray := prog_1_method_8_code
def yX11_say : MethodName := ⟨RX11, "say", "(I)I"⟩
abbrev cX11_stop : ByteArray := prog_1_method_9_code
def yX11_stop : MethodName := ⟨RX11, "stop", "()I"⟩
abbrev cX11_heard : ByteArray := prog_1_method_10_code
def yX11_heard : MethodName := ⟨RX11, "heard", "(II)I"⟩
abbrev cX11_reads : ByteArray := prog_1_method_11_code
def yX11_reads : MethodName := ⟨RX11, "reads", "(II)J"⟩
abbrev cX11_stuck : ByteArray := prog_1_method_12_code
def yX11_stuck : MethodName := ⟨RX11, "stuck", "(I)I"⟩
abbrev cX11_alike : ByteArray := prog_1_method_13_code
def yX11_alike : MethodName := ⟨RX11, "alike", "(IIII)I"⟩
abbrev cX11_tell : ByteArray := prog_1_method_14_code
def yX11_tell : MethodName := ⟨RX11, "tell", "(II)I"⟩
abbrev cX11_hush : ByteArray := prog_1_method_15_code
def yX11_hush : MethodName := ⟨RX11, "hush", "(I)I"⟩
abbrev cX11_doubled : ByteArray := prog_1_method_16_code
def yX11_doubled : MethodName := ⟨RX11, "doubled", "(II)J"⟩
abbrev cX11_secret : ByteArray := prog_1_method_17_code
def yX11_secret : MethodName := ⟨RX11, "secret", "(III)I"⟩
abbrev cX11_fillDouble : ByteArray := prog_1_method_18_code
def yX11_fillDouble : MethodName := ⟨RX11, "fillDouble", "(II)V"⟩
abbrev cX11_lies : ByteArray := prog_1_method_19_code
def yX11_lies : MethodName := ⟨RX11, "lies", "(I)I"⟩
abbrev cX11_timed : ByteArray := prog_1_method_20_code
def yX11_timed : MethodName := ⟨RX11, "timed", "(II)J"⟩
abbrev cX11_dealt : ByteArray := prog_1_method_21_code
def yX11_dealt : MethodName := ⟨RX11, "dealt", "()I"⟩
abbrev cX11_limp : ByteArray := prog_1_method_22_code
def yX11_limp : MethodName := ⟨RX11, "limp", "(I)I"⟩
abbrev cX11_cobble : ByteArray := prog_1_method_23_code
def yX11_cobble : MethodName := ⟨RX11, "cobble", "(II)I"⟩
abbrev cX11_sound : ByteArray := prog_1_method_24_code
def yX11_sound : MethodName := ⟨RX11, "sound", "(IIII)I"⟩
abbrev cX11_untell : ByteArray := prog_1_method_25_code
def yX11_untell : MethodName := ⟨RX11, "untell", "(I)Z"⟩
abbrev cX11_later : ByteArray := prog_1_method_26_code
def yX11_later : MethodName := ⟨RX11, "later", "(I)I"⟩
abbrev cX11_meant : ByteArray := prog_1_method_27_code
def yX11_meant : MethodName := ⟨RX11, "meant", "(II)J"⟩
abbrev cX11_can : ByteArray := prog_1_method_28_code
def yX11_can : MethodName := ⟨RX11, "can", "(III)I"⟩
abbrev cX11_fillMeant : ByteArray := prog_1_method_29_code
def yX11_fillMeant : MethodName := ⟨RX11, "fillMeant", "(II)Z"⟩
abbrev cX11_image : ByteArray := prog_1_method_30_code
def yX11_image : MethodName := ⟨RX11, "image", "(I)I"⟩
abbrev cX11_back : ByteArray := prog_1_method_31_code
def yX11_back : MethodName := ⟨RX11, "back", "(I)I"⟩
abbrev cX11_about : ByteArray := prog_1_method_32_code
def yX11_about : MethodName := ⟨RX11, "about", "(I)I"⟩
abbrev cX11_countAndLay : ByteArray := prog_1_method_33_code
def yX11_countAndLay : MethodName := ⟨RX11, "countAndLay", "(LLimpCode$Grid;II)J"⟩
abbrev cX11_areUnlikeEars : ByteArray := prog_1_method_34_code
def yX11_areUnlikeEars : MethodName := ⟨RX11, "areUnlikeEars", "(II)Z"⟩
abbrev cX11_isText : ByteArray := prog_1_method_35_code
def yX11_isText : MethodName := ⟨RX11, "isText", "(I)Z"⟩
abbrev cX11_isBox : ByteArray := prog_1_method_36_code
def yX11_isBox : MethodName := ⟨RX11, "isBox", "(I)Z"⟩
abbrev cX11_commonDivisor : ByteArray := prog_1_method_37_code
def yX11_commonDivisor : MethodName := ⟨RX11, "commonDivisor", "(II)I"⟩
abbrev cX11_putStep : ByteArray := prog_1_method_38_code
def yX11_putStep : MethodName := ⟨RX11, "putStep", "([IIII)I"⟩
def RX12 : String := "LimpCodeModel"
def TX12 : u_T := fun k => match k with
  | 0 => ("LimpCodeModel", "tape", "[I", true)
  | 1 => ("LimpCodeModel", "taped", "I", false)
  | 2 => ("LimpCodeModel", "fault", "I", false)
  | 3 => ("LimpCodeModel", "faultPlace", "I", false)
  | 4 => ("LimpCodeModel", "at", "I", false)
  | 5 => ("LimpCodeModel", "size", "I", false)
  | 6 => ("LimpCodeModel", "sort", "I", false)
  | 7 => ("LimpCodeModel", "place", "I", false)
  | 8 => ("LimpCodeModel", "number", "I", false)
  | 9 => ("LimpCodeModel", "word", "J", false)
  | 10 => ("LimpCodeModel", "nName", "[J", true)
  | 11 => ("LimpCodeModel", "nTakes", "[I", true)
  | 12 => ("LimpCodeModel", "nLoud", "[I", true)
  | 13 => ("LimpCodeModel", "nKind", "[I", true)
  | 14 => ("LimpCodeModel", "nMany", "[I", true)
  | 15 => ("LimpCodeModel", "nRow", "[I", true)
  | 16 => ("LimpCodeModel", "nFloors", "[I", true)
  | 17 => ("LimpCodeModel", "nBook", "[I", true)
  | 18 => ("LimpCodeModel", "takes", "[I", true)
  | 19 => ("LimpCodeModel", "loud", "[I", true)
  | 20 => ("LimpCodeModel", "kind", "[I", true)
  | 21 => ("LimpCodeModel", "many", "[I", true)
  | 22 => ("LimpCodeModel", "row", "[I", true)
  | 23 => ("LimpCodeModel", "floors", "[I", true)
  | 24 => ("LimpCodeModel", "book", "[I", true)
  | 25 => ("LimpCodeModel", "nSteps", "I", false)
  | 26 => ("LimpCodeModel", "nLetters", "I", false)
  | 27 => ("LimpCodeModel", "nEars", "I", false)
  | 28 => ("LimpCodeModel", "steps", "I", false)
  | 29 => ("LimpCodeModel", "letters", "I", false)
  | 30 => ("LimpCodeModel", "ears", "I", false)
  | 31 => ("LimpCodeModel", "lasts", "[I", true)
  | 32 => ("LimpCodeModel", "begins", "[I", true)
  | 33 => ("LimpCodeModel", "footBehind", "[I", true)
  | 34 => ("LimpCodeModel", "walkAt", "[I", true)
  | 35 => ("LimpCodeModel", "walk", "[I", true)
  | 36 => ("LimpCodeModel", "walkMany", "I", false)
  | 37 => ("LimpCodeModel", "walkTime", "I", false)
  | 38 => ("LimpCodeModel", "foot", "I", false)
  | 39 => ("LimpCodeModel", "target", "[I", true)
  | 40 => ("LimpCodeModel", "lies", "[I", true)
  | 41 => ("LimpCodeModel", "ways", "[J", true)
  | 42 => ("LimpCodeModel", "lain", "I", false)
  | 43 => ("LimpCodeModel", "comes", "[Z", true)
  | 44 => ("LimpCodeModel", "texts", "[I", true)
  | 45 => ("LimpCodeModel", "textMany", "[I", true)
  | 46 => ("LimpCodeModel", "said", "[I", true)
  | 47 => ("LimpCodeModel", "walks", "[J", true)
  | 48 => ("LimpCodeModel", "tried", "[I", true)
  | 49 => ("LimpCodeModel", "triedMany", "I", false)
  | 50 => ("LimpCodeModel", "mayBegin", "[Z", true)
  | 51 => ("LimpCodeModel", "mayRest", "[Z", true)
  | 52 => ("LimpCodeModel", "whole", "[J", true)
  | 53 => ("LimpCodeModel", "often", "[I", true)
  | 54 => ("LimpCodeModel", "left", "[I", true)
  | 55 => ("LimpCodeModel", "weights", "[I", true)
  | 56 => ("LimpCodeModel", "soundEar", "[I", true)
  | 57 => ("LimpCodeModel", "soundAt", "[I", true)
  | 58 => ("LimpCodeModel", "soundLeast", "[I", true)
  | 59 => ("LimpCodeModel", "soundMost", "[I", true)
  | 60 => ("LimpCodeModel", "soundTold", "[I", true)
  | 61 => ("LimpCodeModel", "soundUntold", "[I", true)
  | 62 => ("LimpCodeModel", "sounds", "I", false)
  | 63 => ("LimpCodeModel", "time", "I", false)
  | 64 => ("LimpCodeModel", "isThere", "[Z", true)
  | 65 => ("LimpCodeModel", "goesThere", "[Z", true)
  | 66 => ("LimpCodeModel", "hasBox", "[Z", true)
  | 67 => ("LimpCodeModel", "boxMany", "[I", true)
  | 68 => ("LimpCodeModel", "boxLoud", "[I", true)
  | _ => ("LimpCodeModel", "boxWalk", "[I", true)
def tyX12 : Nat → FieldType := fun k => match k with
  | 0 => .array .int
  | 1 => .int
  | 2 => .int
  | 3 => .int
  | 4 => .int
  | 5 => .int
  | 6 => .int
  | 7 => .int
  | 8 => .int
  | 9 => .long
  | 10 => .array .long
  | 11 => .array .int
  | 12 => .array .int
  | 13 => .array .int
  | 14 => .array .int
  | 15 => .array .int
  | 16 => .array .int
  | 17 => .array .int
  | 18 => .array .int
  | 19 => .array .int
  | 20 => .array .int
  | 21 => .array .int
  | 22 => .array .int
  | 23 => .array .int
  | 24 => .array .int
  | 25 => .int
  | 26 => .int
  | 27 => .int
  | 28 => .int
  | 29 => .int
  | 30 => .int
  | 31 => .array .int
  | 32 => .array .int
  | 33 => .array .int
  | 34 => .array .int
  | 35 => .array .int
  | 36 => .int
  | 37 => .int
  | 38 => .int
  | 39 => .array .int
  | 40 => .array .int
  | 41 => .array .long
  | 42 => .int
  | 43 => .array .boolean
  | 44 => .array .int
  | 45 => .array .int
  | 46 => .array .int
  | 47 => .array .long
  | 48 => .array .int
  | 49 => .int
  | 50 => .array .boolean
  | 51 => .array .boolean
  | 52 => .array .long
  | 53 => .array .int
  | 54 => .array .int
  | 55 => .array .int
  | 56 => .array .int
  | 57 => .array .int
  | 58 => .array .int
  | 59 => .array .int
  | 60 => .array .int
  | 61 => .array .int
  | 62 => .int
  | 63 => .int
  | 64 => .array .boolean
  | 65 => .array .boolean
  | 66 => .array .boolean
  | 67 => .array .int
  | 68 => .array .int
  | _ => .array .int
theorem nmX12 : ∀ a, a < 70 → ∀ b, b < 70 → a ≠ b → (TX12 a).2.1 ≠ (TX12 b).2.1 := by decide +kernel
theorem tyX12_ok : ∀ k, k < 70 → parseFieldDescriptor (TX12 k).2.2.1 = some (tyX12 k) := by decide +kernel
abbrev cX12_init : ByteArray := prog_14_method_1_code
def yX12_init : MethodName := ⟨RX12, "<init>", "()V"⟩
abbrev cX12_feed : ByteArray := prog_14_method_2_code
def yX12_feed : MethodName := ⟨RX12, "feed", "(IIIII)I"⟩
abbrev cX12_four : ByteArray := prog_14_method_3_code
def yX12_four : MethodName := ⟨RX12, "four", "(I)V"⟩
abbrev cX12_end : ByteArray := prog_14_method_4_code
def yX12_end : MethodName := ⟨RX12, "end", "(I)I"⟩
abbrev cX12_here : ByteArray := prog_14_method_5_code
def yX12_here : MethodName := ⟨RX12, "here", "(I)I"⟩
abbrev cX12_isLetter : ByteArray := prog_14_method_6_code
def yX12_isLetter : MethodName := ⟨RX12, "isLetter", "(I)Z"⟩
abbrev cX12_isDigit : ByteArray := prog_14_method_7_code
def yX12_isDigit : MethodName := ⟨RX12, "isDigit", "(I)Z"⟩
abbrev cX12_token : ByteArray := prog_14_method_8_code
def yX12_token : MethodName := ⟨RX12, "token", "()V"⟩
abbrev cX12_wrong : ByteArray := prog_14_method_9_code
def yX12_wrong : MethodName := ⟨RX12, "wrong", "(I)V"⟩
abbrev cX12_isWord : ByteArray := prog_14_method_10_code
def yX12_isWord : MethodName := ⟨RX12, "isWord", "(J)Z"⟩
abbrev cX12_isName : ByteArray := prog_14_method_11_code
def yX12_isName : MethodName := ⟨RX12, "isName", "()Z"⟩
abbrev cX12_toldNumber : ByteArray := prog_14_method_12_code
def yX12_toldNumber : MethodName := ⟨RX12, "toldNumber", "(JII)I"⟩
abbrev cX12_find : ByteArray := prog_14_method_13_code
def yX12_find : MethodName := ⟨RX12, "find", "(II)I"⟩
abbrev cX12_newName : ByteArray := prog_14_method_14_code
def yX12_newName : MethodName := ⟨RX12, "newName", "(II)V"⟩
abbrev cX12_old : ByteArray := prog_14_method_15_code
def yX12_old : MethodName := ⟨RX12, "old", "(II)I"⟩
abbrev cX12_readStep : ByteArray := prog_14_method_16_code
def yX12_readStep : MethodName := ⟨RX12, "readStep", "()V"⟩
abbrev cX12_readLetter : ByteArray := prog_14_method_17_code
def yX12_readLetter : MethodName := ⟨RX12, "readLetter", "()V"⟩
abbrev cX12_readEar : ByteArray := prog_14_method_18_code
def yX12_readEar : MethodName := ⟨RX12, "readEar", "()V"⟩
abbrev cX12_readBook : ByteArray := prog_14_method_19_code
def yX12_readBook : MethodName := ⟨RX12, "readBook", "()V"⟩
abbrev cX12_readLine : ByteArray := prog_14_method_20_code
def yX12_readLine : MethodName := ⟨RX12, "readLine", "()V"⟩
abbrev cX12_readAll : ByteArray := prog_14_method_21_code
def yX12_readAll : MethodName := ⟨RX12, "readAll", "()V"⟩
abbrev cX12_school : ByteArray := prog_14_method_22_code
def yX12_school : MethodName := ⟨RX12, "school", "()I"⟩
abbrev cX12_fault : ByteArray := prog_14_method_23_code
def yX12_fault : MethodName := ⟨RX12, "fault", "(I)I"⟩
abbrev cX12_isIn : ByteArray := prog_14_method_24_code
def yX12_isIn : MethodName := ⟨RX12, "isIn", "(III)Z"⟩
abbrev cX12_isStep : ByteArray := prog_14_method_25_code
def yX12_isStep : MethodName := ⟨RX12, "isStep", "(I)Z"⟩
abbrev cX12_isLetterOf : ByteArray := prog_14_method_26_code
def yX12_isLetterOf : MethodName := ⟨RX12, "isLetterOf", "(I)Z"⟩
abbrev cX12_isEar : ByteArray := prog_14_method_27_code
def yX12_isEar : MethodName := ⟨RX12, "isEar", "(I)Z"⟩
abbrev cX12_canBe : ByteArray := prog_14_method_28_code
def yX12_canBe : MethodName := ⟨RX12, "canBe", "(II)Z"⟩
abbrev cX12_turn : ByteArray := prog_14_method_29_code
def yX12_turn : MethodName := ⟨RX12, "turn", "(II)I"⟩
abbrev cX12_layLetters : ByteArray := prog_14_method_30_code
def yX12_layLetters : MethodName := ⟨RX12, "layLetters", "()V"⟩
abbrev cX12_walkBy : ByteArray := prog_14_method_31_code
def yX12_walkBy : MethodName := ⟨RX12, "walkBy", "(II)I"⟩
abbrev cX12_hears : ByteArray := prog_14_method_32_code
def yX12_hears : MethodName := ⟨RX12, "hears", "(II)I"⟩
abbrev cX12_least : ByteArray := prog_14_method_33_code
def yX12_least : MethodName := ⟨RX12, "least", "(J)J"⟩
abbrev cX12_clearWalk : ByteArray := prog_14_method_34_code
def yX12_clearWalk : MethodName := ⟨RX12, "clearWalk", "()V"⟩
abbrev cX12_step : ByteArray := prog_14_method_35_code
def yX12_step : MethodName := ⟨RX12, "step", "(I)I"⟩
abbrev cX12_isText : ByteArray := prog_14_method_36_code
def yX12_isText : MethodName := ⟨RX12, "isText", "(I)Z"⟩
abbrev cX12_say : ByteArray := prog_14_method_37_code
def yX12_say : MethodName := ⟨RX12, "say", "(I)I"⟩
abbrev cX12_stop : ByteArray := prog_14_method_38_code
def yX12_stop : MethodName := ⟨RX12, "stop", "()I"⟩
abbrev cX12_heard : ByteArray := prog_14_method_39_code
def yX12_heard : MethodName := ⟨RX12, "heard", "(II)I"⟩
abbrev cX12_knows : ByteArray := prog_14_method_40_code
def yX12_knows : MethodName := ⟨RX12, "knows", "(II)Z"⟩
abbrev cX12_misses : ByteArray := prog_14_method_41_code
def yX12_misses : MethodName := ⟨RX12, "misses", "(III)I"⟩
abbrev cX12_layTarget : ByteArray := prog_14_method_42_code
def yX12_layTarget : MethodName := ⟨RX12, "layTarget", "(II)V"⟩
abbrev cX12_layReads : ByteArray := prog_14_method_43_code
def yX12_layReads : MethodName := ⟨RX12, "layReads", "(III)V"⟩
abbrev cX12_reads : ByteArray := prog_14_method_44_code
def yX12_reads : MethodName := ⟨RX12, "reads", "(II)J"⟩
abbrev cX12_leads : ByteArray := prog_14_method_45_code
def yX12_leads : MethodName := ⟨RX12, "leads", "(IIIII)Z"⟩
abbrev cX12_stuck : ByteArray := prog_14_method_46_code
def yX12_stuck : MethodName := ⟨RX12, "stuck", "(I)I"⟩
abbrev cX12_alike : ByteArray := prog_14_method_47_code
def yX12_alike : MethodName := ⟨RX12, "alike", "(IIII)I"⟩
abbrev cX12_timeOf : ByteArray := prog_14_method_48_code
def yX12_timeOf : MethodName := ⟨RX12, "timeOf", "(I)I"⟩
abbrev cX12_footOf : ByteArray := prog_14_method_49_code
def yX12_footOf : MethodName := ⟨RX12, "footOf", "(I)I"⟩
abbrev cX12_tell : ByteArray := prog_14_method_50_code
def yX12_tell : MethodName := ⟨RX12, "tell", "(II)I"⟩
abbrev cX12_hush : ByteArray := prog_14_method_51_code
def yX12_hush : MethodName := ⟨RX12, "hush", "(I)I"⟩
abbrev cX12_laySaid : ByteArray := prog_14_method_52_code
def yX12_laySaid : MethodName := ⟨RX12, "laySaid", "(II)V"⟩
abbrev cX12_suits : ByteArray := prog_14_method_53_code
def yX12_suits : MethodName := ⟨RX12, "suits", "(IIII)Z"⟩
abbrev cX12_goesOn : ByteArray := prog_14_method_54_code
def yX12_goesOn : MethodName := ⟨RX12, "goesOn", "(IIIIII)Z"⟩
abbrev cX12_layWalks : ByteArray := prog_14_method_55_code
def yX12_layWalks : MethodName := ⟨RX12, "layWalks", "(III)V"⟩
abbrev cX12_layTried : ByteArray := prog_14_method_56_code
def yX12_layTried : MethodName := ⟨RX12, "layTried", "(IIIJ)V"⟩
abbrev cX12_putDown : ByteArray := prog_14_method_57_code
def yX12_putDown : MethodName := ⟨RX12, "putDown", "()V"⟩
abbrev cX12_areTwo : ByteArray := prog_14_method_58_code
def yX12_areTwo : MethodName := ⟨RX12, "areTwo", "(II)Z"⟩
abbrev cX12_doubles : ByteArray := prog_14_method_59_code
def yX12_doubles : MethodName := ⟨RX12, "doubles", "(II)J"⟩
abbrev cX12_doubled : ByteArray := prog_14_method_60_code
def yX12_doubled : MethodName := ⟨RX12, "doubled", "(II)J"⟩
abbrev cX12_isRead : ByteArray := prog_14_method_61_code
def yX12_isRead : MethodName := ⟨RX12, "isRead", "(II)Z"⟩
abbrev cX12_secret : ByteArray := prog_14_method_62_code
def yX12_secret : MethodName := ⟨RX12, "secret", "(III)I"⟩
abbrev cX12_lies : ByteArray := prog_14_method_63_code
def yX12_lies : MethodName := ⟨RX12, "lies", "(I)I"⟩
abbrev cX12_mayBe : ByteArray := prog_14_method_64_code
def yX12_mayBe : MethodName := ⟨RX12, "mayBe", "(II)Z"⟩
abbrev cX12_layWhole : ByteArray := prog_14_method_65_code
def yX12_layWhole : MethodName := ⟨RX12, "layWhole", "(I)V"⟩
abbrev cX12_timed : ByteArray := prog_14_method_66_code
def yX12_timed : MethodName := ⟨RX12, "timed", "(II)J"⟩
abbrev cX12_rest : ByteArray := prog_14_method_67_code
def yX12_rest : MethodName := ⟨RX12, "rest", "(II)I"⟩
abbrev cX12_sortUp : ByteArray := prog_14_method_68_code
def yX12_sortUp : MethodName := ⟨RX12, "sortUp", "([II)V"⟩
abbrev cX12_dealt : ByteArray := prog_14_method_69_code
def yX12_dealt : MethodName := ⟨RX12, "dealt", "()I"⟩
abbrev cX12_common : ByteArray := prog_14_method_70_code
def yX12_common : MethodName := ⟨RX12, "common", "(II)I"⟩
abbrev cX12_limp : ByteArray := prog_14_method_71_code
def yX12_limp : MethodName := ⟨RX12, "limp", "(I)I"⟩
abbrev cX12_cobble : ByteArray := prog_14_method_72_code
def yX12_cobble : MethodName := ⟨RX12, "cobble", "(II)I"⟩
abbrev cX12_sound : ByteArray := prog_14_method_73_code
def yX12_sound : MethodName := ⟨RX12, "sound", "(IIII)I"⟩
abbrev cX12_untell : ByteArray := prog_14_method_74_code
def yX12_untell : MethodName := ⟨RX12, "untell", "(I)Z"⟩
abbrev cX12_later : ByteArray := prog_14_method_75_code
def yX12_later : MethodName := ⟨RX12, "later", "(I)I"⟩
abbrev cX12_counts : ByteArray := prog_14_method_76_code
def yX12_counts : MethodName := ⟨RX12, "counts", "(II)Z"⟩
abbrev cX12_isSo : ByteArray := prog_14_method_77_code
def yX12_isSo : MethodName := ⟨RX12, "isSo", "(III)Z"⟩
abbrev cX12_layMay : ByteArray := prog_14_method_78_code
def yX12_layMay : MethodName := ⟨RX12, "layMay", "(II)Z"⟩
abbrev cX12_meant : ByteArray := prog_14_method_79_code
def yX12_meant : MethodName := ⟨RX12, "meant", "(II)J"⟩
abbrev cX12_goesTo : ByteArray := prog_14_method_80_code
def yX12_goesTo : MethodName := ⟨RX12, "goesTo", "(IIII)Z"⟩
abbrev cX12_can : ByteArray := prog_14_method_81_code
def yX12_can : MethodName := ⟨RX12, "can", "(III)I"⟩
abbrev cX12_isBox : ByteArray := prog_14_method_82_code
def yX12_isBox : MethodName := ⟨RX12, "isBox", "(I)Z"⟩
abbrev cX12_image : ByteArray := prog_14_method_83_code
def yX12_image : MethodName := ⟨RX12, "image", "(I)I"⟩
abbrev cX12_back : ByteArray := prog_14_method_84_code
def yX12_back : MethodName := ⟨RX12, "back", "(I)I"⟩
abbrev cX12_about : ByteArray := prog_14_method_85_code
def yX12_about : MethodName := ⟨RX12, "about", "(I)I"⟩
def RJ9 : String := "java/lang/Math"
abbrev cJ9_abs_0f7a4 : ByteArray := prog_15_method_59_code
def yJ9_abs_0f7a4 : MethodName := ⟨RJ9, "abs", "(I)I"⟩
abbrev cJ9_max_7cf53 : ByteArray := prog_15_method_65_code
def yJ9_max_7cf53 : MethodName := ⟨RJ9, "max", "(II)I"⟩
abbrev cJ9_min_7cf53 : ByteArray := prog_15_method_69_code
def yJ9_min_7cf53 : MethodName := ⟨RJ9, "min", "(II)I"⟩
abbrev cJ9_min_f86c9 : ByteArray := prog_15_method_70_code
def yJ9_min_f86c9 : MethodName := ⟨RJ9, "min", "(JJ)J"⟩
def RJ7 : String := "java/util/Arrays"
abbrev cJ7_fill_53178 : ByteArray := prog_20_method_103_code
def yJ7_fill_53178 : MethodName := ⟨RJ7, "fill", "([II)V"⟩
def RL : String := "LimpCodeLaw"
abbrev cL_law : ByteArray := code
def yL_law : MethodName := ⟨RL, "law", "([I)Z"⟩
abbrev vwCl : List vw_C := [(RX0, TX0, 3), (RX1, TX1, 4), (RX2, TX2, 6), (RX3, TX3, 11), (RX4, TX4, 5), (RX5, TX5, 15), (RX6, TX6, 3), (RX7, TX7, 4), (RX8, TX8, 7), (RX9, TX9, 7), (RX10, TX10, 4), (RX11, TX11, 19), (RX12, TX12, 70)]
end
section

def TT : List Cond := lw_tbl.filter goodWord
theorem nx_mem {w : Cond} (i : Nat) (h : lw_tbl[i]? = some w) (hg : goodWord w = true) : w ∈ TT := List.mem_filter.mpr ⟨List.mem_of_getElem? h, hg⟩
theorem nx_mems (ws : List Cond) (ps : List Nat) (hp : ws = ps.filterMap (fun i => lw_tbl[i]?)) (hg : ws.all goodWord = true) : ∀ w ∈ ws, w ∈ TT := by
  intro w hw
  have h1 := List.all_eq_true.mp hg w hw
  rw [hp] at hw
  obtain ⟨i, -, hi⟩ := List.mem_filterMap.mp hw
  exact nx_mem i hi h1
theorem TT_in : ∀ w ∈ TT, w ∈ lw_tbl := fun w h => (List.mem_filter.mp h).1
theorem TT_good : GoodIn TT TT := fun w h => ⟨h, good_of_word (List.mem_filter.mp h).2⟩
theorem gC {w : Cond} {ws : List Cond} (h : w ∈ TT) (hg : GoodIn TT ws) : GoodIn TT (w :: ws) := fun v hv => (List.mem_cons.mp hv).elim (fun e => by rw [e]; exact TT_good w h) (hg v)
abbrev TY (kA : Nat → ClassId) : List (ClassId × FieldType) := [(kA 0, .byte), (kA 1, .int), (kA 2, .long), (kA 3, .boolean), (kA 4, .object RX2), (kA 5, .object RX10), (kA 6, .array .int), (kA 7, .array .long)]
def nNl : List (String × Nat × MethodName) := [(RX11, 11, yX9_init), (RX11, 18, yX6_init), (RX11, 25, yX5_init), (RX11, 35, yX2_init), (RX11, 50, yX10_init), (RX11, 53, yX8_init), (RX11, 60, yX0_init), (RX11, 79, yX4_init), (RX11, 86, yX7_init), (RX11, 93, yX1_init), (RX5, 83, yX11_putStep), (RX4, 93, yX11_putStep), (RX2, 77, yX11_putStep)]
def nNW (U : State) : Prop := (∀ q ∈ nNl, va_Nw (.methodLinkNest q.1 q.2.1 q.2.2 RX11) U) ∧ va_AO RX2 U ∧ va_AO RX10 U ∧ nAOA .int U ∧ nAOA .long U
theorem nNW.warm {s U : State} (hW : s.WarmedH U.vm) (h : nNW s) : nNW U := ⟨fun q hq => va_Nw.warmM hW (h.1 q hq), va_AO.moved hW.alike h.2.1, va_AO.moved hW.alike h.2.2.1, nAOA.moved hW.alike h.2.2.2.1, nAOA.moved hW.alike h.2.2.2.2⟩
theorem nNW.same {s U : State} (hW : s.vm = U.vm) (h : nNW s) : nNW U := ⟨fun q hq => va_Nw.same rfl hW (h.1 q hq), va_AO.moved (hW ▸ Vm.Alike.refl s.vm) h.2.1, va_AO.moved (hW ▸ Vm.Alike.refl s.vm) h.2.2.1, nAOA.moved (hW ▸ Vm.Alike.refl s.vm) h.2.2.2.1, nAOA.moved (hW ▸ Vm.Alike.refl s.vm) h.2.2.2.2⟩
def nPre (g : va_G) (kA : Nat → ClassId) (ws : va_W) (sz : Nat) (U : State) : Prop := U.heap.size = sz ∧ va_P g vwCl ws U.heap ∧ va_K g vwCl (TY kA) U ∧ va_D (fun _ => True) ws ∧ nNW U
def nPost (g : va_G) (kA : Nat → ClassId) (A : Nat → Prop) (ws : va_W) (t : State) : Prop := va_P g vwCl ws t.heap ∧ va_K g vwCl (TY kA) t ∧ va_D A ws
theorem nPre_blind {As : List Value} {g : va_G} {kA : Nat → ClassId} {ws : va_W} {sz : Nat} : FrameBlind (va_Pc As (nPre g kA ws sz)) := fun a U f mk q => by
  obtain ⟨h0, h1, h2, h3, h4, h5⟩ := q
  exact ⟨h0, h1, h2, va_K.moved (u := U) (U := U.calling f mk a) (Vm.Alike.refl U.vm) h3, h4, nNW.same (U := U.calling f mk a) rfl h5⟩
def rmC (k mc ms : Nat) : Room := { frames := k, cells := mc, slots := ms, locals := 40 * k }
abbrev Cx : Type := (Program × Launch × Env × Room) × (State × MethodId × Array Value × List Frame) × (Method × Code) × ((Nat → Prop) × va_G × Nat) × (State → Prop)
def xW (x : Cx) (H : Heap) (locs : List Loc) (cells slots : Nat) (f : JFrame) : Prop := W x.1.1 x.1.2.1 x.1.2.2.1 x.1.2.2.2 x.2.1.1 x.2.1.2.1 x.2.1.2.2.1 x.2.1.2.2.2 x.2.2.1.1 x.2.2.1.2 H locs cells slots x.2.2.2.2 f
def J (x : Cx) (ws : va_W) (lv : List (Nat × Value)) (cells slots pc : Nat) (st : List Value) : Prop := ∀ (H : Heap) (locs : List Loc) (ls : Array Slot), va_P x.2.2.2.1.2.1 vwCl ws H → va_D x.2.2.2.1.1 ws → va_S x.2.2.2.1.1 x.2.1.1.heap H locs → lv_has ls x.2.2.2.1.2.2 lv → xW x H locs cells slots (F0 x.2.1.2.1 pc ls st)
/-- what stands fast within a method: the machine, its code, its class, the tables' words, the classes known, the room -/
def Ok (x : Cx) (cc : ByteArray) (own : String) (kA : Nat → ClassId) (rm : Room) (nL : Nat) : Prop :=
  x.1.1.tables.exec = Jvm.exec ∧ x.2.2.1.2.code = cc ∧ x.2.2.1.2.maxLocals = x.2.2.2.1.2.2 ∧ x.2.1.1.vm.findClass own = some x.2.1.2.1.cls ∧ (∀ w ∈ TT, w.before x.2.1.2.2.1 x.2.1.1 = true) ∧
  va_K x.2.2.2.1.2.1 vwCl (TY kA) x.2.1.1 ∧ nNW x.2.1.1 ∧ (∀ q, x.2.1.1.heap.size ≤ q → x.2.2.2.1.1 q) ∧ x.1.2.2.2 = rm ∧ x.2.2.1.1.locks = false ∧ x.2.2.2.1.2.2 = nL
section JL
variable {x : Cx} {cc : ByteArray} {own : String} {kA : Nat → ClassId} {rm : Room} {nL : Nat} {ws : va_W} {lv : List (Nat × Value)} {cells slots pc : Nat} {st : List Value}
theorem Ok.ex (h : Ok x cc own kA rm nL) : x.1.1.tables.exec = Jvm.exec := h.1
theorem Ok.by (h : Ok x cc own kA rm nL) : x.2.2.1.2.code = cc := h.2.1
theorem Ok.ml (h : Ok x cc own kA rm nL) : x.2.2.1.2.maxLocals = x.2.2.2.1.2.2 := h.2.2.1
theorem Ok.ow (h : Ok x cc own kA rm nL) : x.2.1.1.vm.findClass own = some x.2.1.2.1.cls := h.2.2.2.1
theorem Ok.ts (h : Ok x cc own kA rm nL) : ∀ w ∈ TT, w.before x.2.1.2.2.1 x.2.1.1 = true := h.2.2.2.2.1
theorem Ok.kk (h : Ok x cc own kA rm nL) : va_K x.2.2.2.1.2.1 vwCl (TY kA) x.2.1.1 := h.2.2.2.2.2.1
theorem Ok.nw (h : Ok x cc own kA rm nL) : nNW x.2.1.1 := h.2.2.2.2.2.2.1
theorem Ok.aa (h : Ok x cc own kA rm nL) : ∀ q, x.2.1.1.heap.size ≤ q → x.2.2.2.1.1 q := h.2.2.2.2.2.2.2.1
theorem Ok.rr (h : Ok x cc own kA rm nL) : x.1.2.2.2 = rm := h.2.2.2.2.2.2.2.2.1
theorem Ok.lk (h : Ok x cc own kA rm nL) : x.2.2.1.1.locks = false := h.2.2.2.2.2.2.2.2.2.1
theorem Ok.nl (h : Ok x cc own kA rm nL) : x.2.2.2.1.2.2 = nL := h.2.2.2.2.2.2.2.2.2.2
theorem j_top {a b : Int32} (e : a = b) (kk : J x ws lv cells slots pc (.int b :: st)) : J x ws lv cells slots pc (.int a :: st) := e ▸ kk
theorem j_topl {a b : Int64} (e : a = b) (kk : J x ws lv cells slots pc (.long b :: st)) : J x ws lv cells slots pc (.long a :: st) := e ▸ kk
theorem j_sub (is : List Nat) {ws' : va_W} (h1 : is.filterMap (fun i => ws[i]?) = ws') (h2 : is.map (fun i => ws[i]?) = ws'.map some) (hn : va_nd is = true) (ks : List Nat) {lv' : List (Nat × Value)} (h3 : lv_pick lv ks = lv') (kk : J x ws' lv' cells slots pc st) : J x ws lv cells slots pc st :=
  fun H locs ls hP hD hS hl => kk H locs ls (hP.sub is h1) (hD.sub is hn h2) hS (lv_sub hl ks h3)
theorem j_widen {cells' slots' : Nat} (h1 : cells ≤ cells') (h2 : slots ≤ slots') (kk : J x ws lv cells' slots' pc st) : J x ws lv cells slots pc st :=
  fun H locs ls hP hD hS hl => W.widen (k := cells') (n := slots') h1 h2 (kk H locs ls hP hD hS hl)
theorem j_eqw {ws' : va_W} (e : ws = ws') (kk : J x ws' lv cells slots pc st) : J x ws lv cells slots pc st := e ▸ kk

theorem j_iload_n (h : Ok x cc own kA rm nL) {j : Fin 4} {i : Nat} {v : Int32} (k : Nat) (hi : (j : Nat) = i) (hk : lv[k]? = some (i, .int v)) (d : decode cc pc = .ok (.iload_n j, 1)) (kk : J x ws lv cells slots (pc + 1) (.int v :: st)) : J x ws lv cells slots pc (st) := fun H locs ls hP hD hS hl => lv_iload_n h.ex h.by d hi (lv_at hl k hk) (kk H locs ls hP hD hS hl)
theorem j_iload (h : Ok x cc own kA rm nL) {i : Nat} {v : Int32} (k : Nat) (hk : lv[k]? = some (i, .int v)) (d : decode cc pc = .ok (.iload i, 2)) (kk : J x ws lv cells slots (pc + 2) (.int v :: st)) : J x ws lv cells slots pc (st) := fun H locs ls hP hD hS hl => lv_iload h.ex h.by d (lv_at hl k hk) (kk H locs ls hP hD hS hl)
theorem j_lload_n (h : Ok x cc own kA rm nL) {j : Fin 4} {i : Nat} {v : Int64} (k : Nat) (hi : (j : Nat) = i) (hk : lv[k]? = some (i, .long v)) (d : decode cc pc = .ok (.lload_n j, 1)) (kk : J x ws lv cells slots (pc + 1) (.long v :: st)) : J x ws lv cells slots pc (st) := fun H locs ls hP hD hS hl => lv_lload_n h.ex h.by d hi (lv_at hl k hk) (kk H locs ls hP hD hS hl)
theorem j_lload (h : Ok x cc own kA rm nL) {i : Nat} {v : Int64} (k : Nat) (hk : lv[k]? = some (i, .long v)) (d : decode cc pc = .ok (.lload i, 2)) (kk : J x ws lv cells slots (pc + 2) (.long v :: st)) : J x ws lv cells slots pc (st) := fun H locs ls hP hD hS hl => lv_lload h.ex h.by d (lv_at hl k hk) (kk H locs ls hP hD hS hl)
theorem j_aload_n (h : Ok x cc own kA rm nL) {j : Fin 4} {i : Nat} {v : Nat} (k : Nat) (hi : (j : Nat) = i) (hk : lv[k]? = some (i, .ref v)) (d : decode cc pc = .ok (.aload_n j, 1)) (kk : J x ws lv cells slots (pc + 1) (.ref v :: st)) : J x ws lv cells slots pc (st) := fun H locs ls hP hD hS hl => lv_aload_n h.ex h.by d hi (lv_at hl k hk) (kk H locs ls hP hD hS hl)
theorem j_aload (h : Ok x cc own kA rm nL) {i : Nat} {v : Nat} (k : Nat) (hk : lv[k]? = some (i, .ref v)) (d : decode cc pc = .ok (.aload i, 2)) (kk : J x ws lv cells slots (pc + 2) (.ref v :: st)) : J x ws lv cells slots pc (st) := fun H locs ls hP hD hS hl => lv_aload h.ex h.by d (lv_at hl k hk) (kk H locs ls hP hD hS hl)
theorem j_istore_n (h : Ok x cc own kA rm nL) {j : Fin 4} {i : Nat} {v : Int32} {lv' : List (Nat × Value)} (d : decode cc pc = .ok (.istore_n j, 1)) (hi : (j : Nat) = i) (hn : i < nL) (hl' : (i, Value.int v) :: lv.filter (fun q => !(q.1 == i) && !(q.1 + 1 == i && q.2.category == 2)) = lv') (kk : J x ws lv' cells slots (pc + 1) st) : J x ws lv cells slots pc (.int v :: st) := fun H locs ls hP hD hS hl => lv_istore_n h.ex h.by d hi hl (h.nl.symm ▸ hn) hl' (fun ls hl => (kk H locs ls hP hD hS hl))
theorem j_istore (h : Ok x cc own kA rm nL) {i : Nat} {v : Int32} {lv' : List (Nat × Value)} (d : decode cc pc = .ok (.istore i, 2)) (hn : i < nL) (hl' : (i, Value.int v) :: lv.filter (fun q => !(q.1 == i) && !(q.1 + 1 == i && q.2.category == 2)) = lv') (kk : J x ws lv' cells slots (pc + 2) st) : J x ws lv cells slots pc (.int v :: st) := fun H locs ls hP hD hS hl => lv_istore h.ex h.by d hl (h.nl.symm ▸ hn) hl' (fun ls hl => (kk H locs ls hP hD hS hl))
theorem j_lstore_n (h : Ok x cc own kA rm nL) {j : Fin 4} {i : Nat} {v : Int64} {lv' : List (Nat × Value)} (d : decode cc pc = .ok (.lstore_n j, 1)) (hi : (j : Nat) = i) (hn : i + 1 < nL) (hl' : (i, Value.long v) :: lv.filter (fun q => !(q.1 == i) && (!(q.1 == i + 1) && !(q.1 + 1 == i && q.2.category == 2))) = lv') (kk : J x ws lv' cells slots (pc + 1) st) : J x ws lv cells slots pc (.long v :: st) := fun H locs ls hP hD hS hl => lv_lstore_n h.ex h.by d hi hl (h.nl.symm ▸ hn) hl' (fun ls hl => (kk H locs ls hP hD hS hl))
theorem j_lstore (h : Ok x cc own kA rm nL) {i : Nat} {v : Int64} {lv' : List (Nat × Value)} (d : decode cc pc = .ok (.lstore i, 2)) (hn : i + 1 < nL) (hl' : (i, Value.long v) :: lv.filter (fun q => !(q.1 == i) && (!(q.1 == i + 1) && !(q.1 + 1 == i && q.2.category == 2))) = lv') (kk : J x ws lv' cells slots (pc + 2) st) : J x ws lv cells slots pc (.long v :: st) := fun H locs ls hP hD hS hl => lv_lstore h.ex h.by d hl (h.nl.symm ▸ hn) hl' (fun ls hl => (kk H locs ls hP hD hS hl))
theorem j_astore_n (h : Ok x cc own kA rm nL) {j : Fin 4} {i : Nat} {v : Nat} {lv' : List (Nat × Value)} (d : decode cc pc = .ok (.astore_n j, 1)) (hi : (j : Nat) = i) (hn : i < nL) (hl' : (i, Value.ref v) :: lv.filter (fun q => !(q.1 == i) && !(q.1 + 1 == i && q.2.category == 2)) = lv') (kk : J x ws lv' cells slots (pc + 1) st) : J x ws lv cells slots pc (.ref v :: st) := fun H locs ls hP hD hS hl => lv_astore_n h.ex h.by d hi hl (h.nl.symm ▸ hn) hl' (fun ls hl => (kk H locs ls hP hD hS hl))
theorem j_astore (h : Ok x cc own kA rm nL) {i : Nat} {v : Nat} {lv' : List (Nat × Value)} (d : decode cc pc = .ok (.astore i, 2)) (hn : i < nL) (hl' : (i, Value.ref v) :: lv.filter (fun q => !(q.1 == i) && !(q.1 + 1 == i && q.2.category == 2)) = lv') (kk : J x ws lv' cells slots (pc + 2) st) : J x ws lv cells slots pc (.ref v :: st) := fun H locs ls hP hD hS hl => lv_astore h.ex h.by d hl (h.nl.symm ▸ hn) hl' (fun ls hl => (kk H locs ls hP hD hS hl))
theorem j_iinc (h : Ok x cc own kA rm nL) {i : Nat} {n : Int} {u v : Int32} {lv' : List (Nat × Value)} (d : decode cc pc = .ok (.iinc i n, 3)) (k : Nat) (hk : lv[k]? = some (i, .int u)) (hv : u + Int32.ofInt n = v) (hn : i < nL) (hl' : (i, Value.int v) :: lv.filter (fun q => !(q.1 == i) && !(q.1 + 1 == i && q.2.category == 2)) = lv') (kk : J x ws lv' cells slots (pc + 3) st) : J x ws lv cells slots pc st := fun H locs ls hP hD hS hl => lv_iinc h.ex h.by d hl hk hv (h.nl.symm ▸ hn) hl' (fun ls hl => (kk H locs ls hP hD hS hl))
theorem j_iconst (h : Ok x cc own kA rm nL) {n : Int} {v : Int32} (hv : Int32.ofInt n = v) (d : decode cc pc = .ok (.iconst n, 1)) (kk : J x ws lv cells slots (pc + 1) (.int v :: st)) : J x ws lv cells slots pc (st) := fun H locs ls hP hD hS hl => lv_iconst h.ex h.by d hv (kk H locs ls hP hD hS hl)
theorem j_bipush (h : Ok x cc own kA rm nL) {n : Int} {v : Int32} (hv : (Int8.ofInt n).toInt32 = v) (d : decode cc pc = .ok (.bipush n, 2)) (kk : J x ws lv cells slots (pc + 2) (.int v :: st)) : J x ws lv cells slots pc (st) := fun H locs ls hP hD hS hl => lv_bipush h.ex h.by d hv (kk H locs ls hP hD hS hl)
theorem j_sipush (h : Ok x cc own kA rm nL) {n : Int} {v : Int32} (hv : (Int16.ofInt n).toInt32 = v) (d : decode cc pc = .ok (.sipush n, 3)) (kk : J x ws lv cells slots (pc + 3) (.int v :: st)) : J x ws lv cells slots pc (st) := fun H locs ls hP hD hS hl => lv_sipush h.ex h.by d hv (kk H locs ls hP hD hS hl)
theorem j_lconst (h : Ok x cc own kA rm nL) {n : Fin 2} {v : Int64} (hv : Int64.ofNat (n : Nat) = v) (d : decode cc pc = .ok (.lconst n, 1)) (kk : J x ws lv cells slots (pc + 1) (.long v :: st)) : J x ws lv cells slots pc (st) := fun H locs ls hP hD hS hl => lv_lconst h.ex h.by d hv (kk H locs ls hP hD hS hl)
theorem j_ldc (h : Ok x cc own kA rm nL) {idx : Nat} {v : Int32} (t : Cond.constant own idx v ∈ TT) (d : decode cc pc = .ok (.ldc idx, 2)) (kk : J x ws lv cells slots (pc + 2) (.int v :: st)) : J x ws lv cells slots pc (st) := fun H locs ls hP hD hS hl => lv_ldc h.ex h.by h.ow (h.ts _ t) d (kk H locs ls hP hD hS hl)
theorem j_ldc2 (h : Ok x cc own kA rm nL) {idx : Nat} {v : Int64} (t : Cond.constantLong own idx v ∈ TT) (d : decode cc pc = .ok (.ldc2_w idx, 3)) (kk : J x ws lv cells slots (pc + 3) (.long v :: st)) : J x ws lv cells slots pc (st) := fun H locs ls hP hD hS hl => lv_ldc2 h.ex h.by h.ow (h.ts _ t) d (kk H locs ls hP hD hS hl)
theorem j_iadd (h : Ok x cc own kA rm nL) {a b : Int32} (d : decode cc pc = .ok (.iadd, 1)) (kk : J x ws lv cells slots (pc + 1) (.int (a + b) :: st)) : J x ws lv cells slots pc (.int b :: .int a :: st) := fun H locs ls hP hD hS hl => lv_iadd h.ex h.by d (kk H locs ls hP hD hS hl)
theorem j_isub (h : Ok x cc own kA rm nL) {a b : Int32} (d : decode cc pc = .ok (.isub, 1)) (kk : J x ws lv cells slots (pc + 1) (.int (a - b) :: st)) : J x ws lv cells slots pc (.int b :: .int a :: st) := fun H locs ls hP hD hS hl => lv_isub h.ex h.by d (kk H locs ls hP hD hS hl)
theorem j_imul (h : Ok x cc own kA rm nL) {a b : Int32} (d : decode cc pc = .ok (.imul, 1)) (kk : J x ws lv cells slots (pc + 1) (.int (a * b) :: st)) : J x ws lv cells slots pc (.int b :: .int a :: st) := fun H locs ls hP hD hS hl => lv_imul h.ex h.by d (kk H locs ls hP hD hS hl)
theorem j_iand (h : Ok x cc own kA rm nL) {a b : Int32} (d : decode cc pc = .ok (.iand, 1)) (kk : J x ws lv cells slots (pc + 1) (.int (a &&& b) :: st)) : J x ws lv cells slots pc (.int b :: .int a :: st) := fun H locs ls hP hD hS hl => lv_iand h.ex h.by d (kk H locs ls hP hD hS hl)
theorem j_ior (h : Ok x cc own kA rm nL) {a b : Int32} (d : decode cc pc = .ok (.ior, 1)) (kk : J x ws lv cells slots (pc + 1) (.int (a ||| b) :: st)) : J x ws lv cells slots pc (.int b :: .int a :: st) := fun H locs ls hP hD hS hl => lv_ior h.ex h.by d (kk H locs ls hP hD hS hl)
theorem j_ishl (h : Ok x cc own kA rm nL) {a b : Int32} (d : decode cc pc = .ok (.ishl, 1)) (kk : J x ws lv cells slots (pc + 1) (.int (a <<< (b &&& 31)) :: st)) : J x ws lv cells slots pc (.int b :: .int a :: st) := fun H locs ls hP hD hS hl => lv_ishl h.ex h.by d (kk H locs ls hP hD hS hl)
theorem j_ishr (h : Ok x cc own kA rm nL) {a b : Int32} (d : decode cc pc = .ok (.ishr, 1)) (kk : J x ws lv cells slots (pc + 1) (.int (a >>> (b &&& 31)) :: st)) : J x ws lv cells slots pc (.int b :: .int a :: st) := fun H locs ls hP hD hS hl => lv_ishr h.ex h.by d (kk H locs ls hP hD hS hl)
theorem j_idiv (h : Ok x cc own kA rm nL) {a b : Int32} (hne : ¬ b = 0) (d : decode cc pc = .ok (.idiv, 1)) (kk : J x ws lv cells slots (pc + 1) (.int (a / b) :: st)) : J x ws lv cells slots pc (.int b :: .int a :: st) := fun H locs ls hP hD hS hl => lv_idiv h.ex h.by d hne (kk H locs ls hP hD hS hl)
theorem j_irem (h : Ok x cc own kA rm nL) {a b : Int32} (hne : ¬ b = 0) (d : decode cc pc = .ok (.irem, 1)) (kk : J x ws lv cells slots (pc + 1) (.int (a - a / b * b) :: st)) : J x ws lv cells slots pc (.int b :: .int a :: st) := fun H locs ls hP hD hS hl => lv_irem h.ex h.by d hne (kk H locs ls hP hD hS hl)
theorem j_ineg (h : Ok x cc own kA rm nL) {a : Int32} (d : decode cc pc = .ok (.ineg, 1)) (kk : J x ws lv cells slots (pc + 1) (.int (-a) :: st)) : J x ws lv cells slots pc (.int a :: st) := fun H locs ls hP hD hS hl => lv_ineg h.ex h.by d (kk H locs ls hP hD hS hl)
theorem j_ladd (h : Ok x cc own kA rm nL) {a b : Int64} (d : decode cc pc = .ok (.ladd, 1)) (kk : J x ws lv cells slots (pc + 1) (.long (a + b) :: st)) : J x ws lv cells slots pc (.long b :: .long a :: st) := fun H locs ls hP hD hS hl => lv_ladd h.ex h.by d (kk H locs ls hP hD hS hl)
theorem j_lsub (h : Ok x cc own kA rm nL) {a b : Int64} (d : decode cc pc = .ok (.lsub, 1)) (kk : J x ws lv cells slots (pc + 1) (.long (a - b) :: st)) : J x ws lv cells slots pc (.long b :: .long a :: st) := fun H locs ls hP hD hS hl => lv_lsub h.ex h.by d (kk H locs ls hP hD hS hl)
theorem j_land (h : Ok x cc own kA rm nL) {a b : Int64} (d : decode cc pc = .ok (.land, 1)) (kk : J x ws lv cells slots (pc + 1) (.long (a &&& b) :: st)) : J x ws lv cells slots pc (.long b :: .long a :: st) := fun H locs ls hP hD hS hl => lv_land h.ex h.by d (kk H locs ls hP hD hS hl)
theorem j_lor (h : Ok x cc own kA rm nL) {a b : Int64} (d : decode cc pc = .ok (.lor, 1)) (kk : J x ws lv cells slots (pc + 1) (.long (a ||| b) :: st)) : J x ws lv cells slots pc (.long b :: .long a :: st) := fun H locs ls hP hD hS hl => lv_lor h.ex h.by d (kk H locs ls hP hD hS hl)
theorem j_lshl (h : Ok x cc own kA rm nL) {a : Int64} {b : Int32} (d : decode cc pc = .ok (.lshl, 1)) (kk : J x ws lv cells slots (pc + 1) (.long (a <<< (b.toInt64 &&& 63)) :: st)) : J x ws lv cells slots pc (.int b :: .long a :: st) := fun H locs ls hP hD hS hl => lv_lshl h.ex h.by d rfl (kk H locs ls hP hD hS hl)
theorem j_lshr (h : Ok x cc own kA rm nL) {a : Int64} {b : Int32} (d : decode cc pc = .ok (.lshr, 1)) (kk : J x ws lv cells slots (pc + 1) (.long (a >>> (b.toInt64 &&& 63)) :: st)) : J x ws lv cells slots pc (.int b :: .long a :: st) := fun H locs ls hP hD hS hl => lv_lshr h.ex h.by d rfl (kk H locs ls hP hD hS hl)
theorem j_i2l (h : Ok x cc own kA rm nL) {a : Int32} (d : decode cc pc = .ok (.i2l, 1)) (kk : J x ws lv cells slots (pc + 1) (.long a.toInt64 :: st)) : J x ws lv cells slots pc (.int a :: st) := fun H locs ls hP hD hS hl => lv_i2l h.ex h.by d rfl (kk H locs ls hP hD hS hl)
theorem j_i2b (h : Ok x cc own kA rm nL) {a : Int32} (d : decode cc pc = .ok (.i2b, 1)) (kk : J x ws lv cells slots (pc + 1) (.int a.toInt8.toInt32 :: st)) : J x ws lv cells slots pc (.int a :: st) := fun H locs ls hP hD hS hl => lv_i2b h.ex h.by d rfl (kk H locs ls hP hD hS hl)
theorem j_lcmp (h : Ok x cc own kA rm nL) {a b : Int64} (d : decode cc pc = .ok (.lcmp, 1)) (kk : J x ws lv cells slots (pc + 1) (.int (lg_cmp a b) :: st)) : J x ws lv cells slots pc (.long b :: .long a :: st) := fun H locs ls hP hD hS hl => W.lcmp h.ex h.by d (kk H locs ls hP hD hS hl)
theorem j_dup (h : Ok x cc own kA rm nL) {v : Value} (hv : v.category = 1) (d : decode cc pc = .ok (.dup, 1)) (kk : J x ws lv cells slots (pc + 1) (v :: v :: st)) : J x ws lv cells slots pc (v :: st) := fun H locs ls hP hD hS hl => lv_dup h.ex h.by d hv (kk H locs ls hP hD hS hl)
theorem j_pop (h : Ok x cc own kA rm nL) {v : Value} (hv : v.category = 1) (d : decode cc pc = .ok (.pop, 1)) (kk : J x ws lv cells slots (pc + 1) (st)) : J x ws lv cells slots pc (v :: st) := fun H locs ls hP hD hS hl => lv_pop h.ex h.by d hv (kk H locs ls hP hD hS hl)
theorem j_dup2 (h : Ok x cc own kA rm nL) {v w : Value} (hv : v.category = 1) (hw : w.category = 1) (d : decode cc pc = .ok (.dup2, 1)) (kk : J x ws lv cells slots (pc + 1) (v :: w :: v :: w :: st)) : J x ws lv cells slots pc (v :: w :: st) := fun H locs ls hP hD hS hl => lv_dup2_11 h.ex h.by d hv hw (kk H locs ls hP hD hS hl)
theorem j_pop2 (h : Ok x cc own kA rm nL) {v : Value} (hv : v.category = 2) (d : decode cc pc = .ok (.pop2, 1)) (kk : J x ws lv cells slots (pc + 1) (st)) : J x ws lv cells slots pc (v :: st) := fun H locs ls hP hD hS hl => lv_pop2_2 h.ex h.by d hv (kk H locs ls hP hD hS hl)
theorem j_if_eq (h : Ok x cc own kA rm nL) {a : Int32} {off : Int} (tgt : Nat) (d : decode cc pc = .ok (.ifCond .eq off, 3)) (ht : (pc : Int) + off = (tgt : Int)) (kt : a = 0 → J x ws lv cells slots tgt st) (kf : ¬ a = 0 → J x ws lv cells slots (pc + 3) st) : J x ws lv cells slots pc (.int a :: st) := fun H locs ls hP hD hS hl => lv_if_eq h.ex h.by d ht (fun q => kt q H locs ls hP hD hS hl) (fun q => kf q H locs ls hP hD hS hl)
theorem j_icmp_eq (h : Ok x cc own kA rm nL) {a b : Int32} {off : Int} (tgt : Nat) (d : decode cc pc = .ok (.if_icmp .eq off, 3)) (ht : (pc : Int) + off = (tgt : Int)) (kt : a = b → J x ws lv cells slots tgt st) (kf : ¬ a = b → J x ws lv cells slots (pc + 3) st) : J x ws lv cells slots pc (.int b :: .int a :: st) := fun H locs ls hP hD hS hl => lv_icmp_eq h.ex h.by d ht (fun q => kt q H locs ls hP hD hS hl) (fun q => kf q H locs ls hP hD hS hl)
theorem j_if_ne (h : Ok x cc own kA rm nL) {a : Int32} {off : Int} (tgt : Nat) (d : decode cc pc = .ok (.ifCond .ne off, 3)) (ht : (pc : Int) + off = (tgt : Int)) (kt : ¬ a = 0 → J x ws lv cells slots tgt st) (kf : a = 0 → J x ws lv cells slots (pc + 3) st) : J x ws lv cells slots pc (.int a :: st) := fun H locs ls hP hD hS hl => lv_if_ne h.ex h.by d ht (fun q => kt q H locs ls hP hD hS hl) (fun q => kf q H locs ls hP hD hS hl)
theorem j_icmp_ne (h : Ok x cc own kA rm nL) {a b : Int32} {off : Int} (tgt : Nat) (d : decode cc pc = .ok (.if_icmp .ne off, 3)) (ht : (pc : Int) + off = (tgt : Int)) (kt : ¬ a = b → J x ws lv cells slots tgt st) (kf : a = b → J x ws lv cells slots (pc + 3) st) : J x ws lv cells slots pc (.int b :: .int a :: st) := fun H locs ls hP hD hS hl => lv_icmp_ne h.ex h.by d ht (fun q => kt q H locs ls hP hD hS hl) (fun q => kf q H locs ls hP hD hS hl)
theorem j_if_lt (h : Ok x cc own kA rm nL) {a : Int32} {off : Int} (tgt : Nat) (d : decode cc pc = .ok (.ifCond .lt off, 3)) (ht : (pc : Int) + off = (tgt : Int)) (kt : a < 0 → J x ws lv cells slots tgt st) (kf : ¬ a < 0 → J x ws lv cells slots (pc + 3) st) : J x ws lv cells slots pc (.int a :: st) := fun H locs ls hP hD hS hl => lv_if_lt h.ex h.by d ht (fun q => kt q H locs ls hP hD hS hl) (fun q => kf q H locs ls hP hD hS hl)
theorem j_icmp_lt (h : Ok x cc own kA rm nL) {a b : Int32} {off : Int} (tgt : Nat) (d : decode cc pc = .ok (.if_icmp .lt off, 3)) (ht : (pc : Int) + off = (tgt : Int)) (kt : a < b → J x ws lv cells slots tgt st) (kf : ¬ a < b → J x ws lv cells slots (pc + 3) st) : J x ws lv cells slots pc (.int b :: .int a :: st) := fun H locs ls hP hD hS hl => lv_icmp_lt h.ex h.by d ht (fun q => kt q H locs ls hP hD hS hl) (fun q => kf q H locs ls hP hD hS hl)
theorem j_if_ge (h : Ok x cc own kA rm nL) {a : Int32} {off : Int} (tgt : Nat) (d : decode cc pc = .ok (.ifCond .ge off, 3)) (ht : (pc : Int) + off = (tgt : Int)) (kt : 0 ≤ a → J x ws lv cells slots tgt st) (kf : ¬ 0 ≤ a → J x ws lv cells slots (pc + 3) st) : J x ws lv cells slots pc (.int a :: st) := fun H locs ls hP hD hS hl => lv_if_ge h.ex h.by d ht (fun q => kt q H locs ls hP hD hS hl) (fun q => kf q H locs ls hP hD hS hl)
theorem j_icmp_ge (h : Ok x cc own kA rm nL) {a b : Int32} {off : Int} (tgt : Nat) (d : decode cc pc = .ok (.if_icmp .ge off, 3)) (ht : (pc : Int) + off = (tgt : Int)) (kt : b ≤ a → J x ws lv cells slots tgt st) (kf : ¬ b ≤ a → J x ws lv cells slots (pc + 3) st) : J x ws lv cells slots pc (.int b :: .int a :: st) := fun H locs ls hP hD hS hl => lv_icmp_ge h.ex h.by d ht (fun q => kt q H locs ls hP hD hS hl) (fun q => kf q H locs ls hP hD hS hl)
theorem j_if_gt (h : Ok x cc own kA rm nL) {a : Int32} {off : Int} (tgt : Nat) (d : decode cc pc = .ok (.ifCond .gt off, 3)) (ht : (pc : Int) + off = (tgt : Int)) (kt : 0 < a → J x ws lv cells slots tgt st) (kf : ¬ 0 < a → J x ws lv cells slots (pc + 3) st) : J x ws lv cells slots pc (.int a :: st) := fun H locs ls hP hD hS hl => lv_if_gt h.ex h.by d ht (fun q => kt q H locs ls hP hD hS hl) (fun q => kf q H locs ls hP hD hS hl)
theorem j_icmp_gt (h : Ok x cc own kA rm nL) {a b : Int32} {off : Int} (tgt : Nat) (d : decode cc pc = .ok (.if_icmp .gt off, 3)) (ht : (pc : Int) + off = (tgt : Int)) (kt : b < a → J x ws lv cells slots tgt st) (kf : ¬ b < a → J x ws lv cells slots (pc + 3) st) : J x ws lv cells slots pc (.int b :: .int a :: st) := fun H locs ls hP hD hS hl => lv_icmp_gt h.ex h.by d ht (fun q => kt q H locs ls hP hD hS hl) (fun q => kf q H locs ls hP hD hS hl)
theorem j_if_le (h : Ok x cc own kA rm nL) {a : Int32} {off : Int} (tgt : Nat) (d : decode cc pc = .ok (.ifCond .le off, 3)) (ht : (pc : Int) + off = (tgt : Int)) (kt : a ≤ 0 → J x ws lv cells slots tgt st) (kf : ¬ a ≤ 0 → J x ws lv cells slots (pc + 3) st) : J x ws lv cells slots pc (.int a :: st) := fun H locs ls hP hD hS hl => lv_if_le h.ex h.by d ht (fun q => kt q H locs ls hP hD hS hl) (fun q => kf q H locs ls hP hD hS hl)
theorem j_icmp_le (h : Ok x cc own kA rm nL) {a b : Int32} {off : Int} (tgt : Nat) (d : decode cc pc = .ok (.if_icmp .le off, 3)) (ht : (pc : Int) + off = (tgt : Int)) (kt : a ≤ b → J x ws lv cells slots tgt st) (kf : ¬ a ≤ b → J x ws lv cells slots (pc + 3) st) : J x ws lv cells slots pc (.int b :: .int a :: st) := fun H locs ls hP hD hS hl => lv_icmp_le h.ex h.by d ht (fun q => kt q H locs ls hP hD hS hl) (fun q => kf q H locs ls hP hD hS hl)
theorem j_goto (h : Ok x cc own kA rm nL) {off : Int} (tgt : Nat) (d : decode cc pc = .ok (.goto off, 3)) (ht : (pc : Int) + off = (tgt : Int)) (kk : J x ws lv cells slots tgt st) : J x ws lv cells slots pc st := fun H locs ls hP hD hS hl => lv_goto h.ex h.by d ht (kk H locs ls hP hD hS hl)
theorem j_tabOut (h : Ok x cc own kA rm nL) {dflt lo hi : Int} {offs : Array Int} {len : Nat} {a : Int32} (tgt : Nat) (d : decode cc pc = .ok (.tableswitch dflt lo hi offs, len)) (hh : a.toInt < lo ∨ hi < a.toInt) (ht : (pc : Int) + dflt = (tgt : Int)) (kk : J x ws lv cells slots tgt st) : J x ws lv cells slots pc (.int a :: st) := fun H locs ls hP hD hS hl => lv_tableOut h.ex h.by d hh ht (kk H locs ls hP hD hS hl)
theorem j_tabIn (h : Ok x cc own kA rm nL) {dflt lo hi : Int} {offs : Array Int} {len : Nat} {a : Int32} {off : Int} (tgt : Nat) (d : decode cc pc = .ok (.tableswitch dflt lo hi offs, len)) (h1 : ¬ a.toInt < lo) (h2 : ¬ hi < a.toInt) (ho : offs[(a.toInt - lo).toNat]? = some off) (ht : (pc : Int) + off = (tgt : Int)) (kk : J x ws lv cells slots tgt st) : J x ws lv cells slots pc (.int a :: st) := fun H locs ls hP hD hS hl => lv_tableIn h.ex h.by d h1 h2 ho ht (kk H locs ls hP hD hS hl)
theorem j_get (h : Ok x cc own kA rm nL) {C : String} {T : u_T} {N ci idx a : Nat} {fs : List Value} {v : Value} (hin : ∀ w ∈ u_ws C T N, w ∈ TT) (q0 : Nat) (he : ws[q0]? = some (a, .inr (ci, fs))) (hc : vwCl[ci]? = some (C, T, N)) (k : Nat) (hk : k < N) (t : Cond.fieldLink own idx (T k).1 (T k).2.1 (T k).2.2.1 ∈ TT) (hv : fs[k]? = some v) (d : decode cc pc = .ok (.getfield idx, 3)) (kk : J x ws lv cells slots (pc + 3) (v :: st)) : J x ws lv cells slots pc (.ref a :: st) := fun H locs ls hP hD hS hl => va_get h.ex h.by h.ts hin h.ow h.kk hP q0 he hc k hk (h.ts _ t) (fun _ h9 => h9) hv d (kk H locs ls hP hD hS hl)
theorem j_put (h : Ok x cc own kA rm nL) {C : String} {T : u_T} {N ci idx a : Nat} {fs : List Value} {v : Value} {ws' : va_W} (hin : ∀ w ∈ u_ws C T N, w ∈ TT) (ty0 : Nat → FieldType) (hty : ∀ k, k < N → parseFieldDescriptor (T k).2.2.1 = some (ty0 k)) (hnm : ∀ a, a < N → ∀ b, b < N → a ≠ b → (T a).2.1 ≠ (T b).2.1) (q0 : Nat) (he : ws[q0]? = some (a, .inr (ci, fs))) (hc : vwCl[ci]? = some (C, T, N)) (k : Nat) (hk : k < N) (t : Cond.fieldLink own idx (T k).1 (T k).2.1 (T k).2.2.1 ∈ TT) (hfin : (T k).2.2.2 = false) (hn : narrow (ty0 k) v = v) (hfit : fits (ty0 k) v = true) (hlen : k < fs.length) (d : decode cc pc = .ok (.putfield idx, 3)) (hw : ws.set q0 (a, .inr (ci, fs.set k v)) = ws') (kk : J x ws' lv cells slots (pc + 3) st) : J x ws lv cells slots pc (v :: .ref a :: st) := fun H locs ls hP hD hS hl => va_put (ty := ty0 k) h.ex h.by h.ts hin ty0 hty hnm h.ow h.kk hP hD hS q0 he hc k hk (h.ts _ t) (fun _ h9 => h9) hfin (hty k hk) hn hfit hlen d (fun H locs hP hD hS => kk H locs ls (hw ▸ hP) (hw ▸ hD) hS hl)
theorem j_putF (h : Ok x cc own kA rm nL) {C : String} {T : u_T} {N ci idx a : Nat} {fs : List Value} {v : Value} {ws' : va_W} (hin : ∀ w ∈ u_ws C T N, w ∈ TT) (ty0 : Nat → FieldType) (hty : ∀ k, k < N → parseFieldDescriptor (T k).2.2.1 = some (ty0 k)) (hnm : ∀ a, a < N → ∀ b, b < N → a ≠ b → (T a).2.1 ≠ (T b).2.1) (q0 : Nat) (he : ws[q0]? = some (a, .inr (ci, fs))) (hc : vwCl[ci]? = some (C, T, N)) (k : Nat) (hk : k < N) (t : Cond.fieldLink own idx (T k).1 (T k).2.1 (T k).2.2.1 ∈ TT) (hfin : (T k).2.2.2 = true) (hin2 : x.2.2.1.1.name = "<init>") (hdecl : (T k).1 = own) (hn : narrow (ty0 k) v = v) (hfit : fits (ty0 k) v = true) (hlen : k < fs.length) (d : decode cc pc = .ok (.putfield idx, 3)) (hw : ws.set q0 (a, .inr (ci, fs.set k v)) = ws') (kk : J x ws' lv cells slots (pc + 3) st) : J x ws lv cells slots pc (v :: .ref a :: st) := fun H locs ls hP hD hS hl => va_putF (ty := ty0 k) h.ex h.by h.ts hin ty0 hty hnm h.ow h.kk hP hD hS q0 he hc k hk (h.ts _ t) (fun _ h9 => h9) hfin hin2 hdecl (hty k hk) hn hfit hlen d (fun H locs hP hD hS => kk H locs ls (hw ▸ hP) (hw ▸ hD) hS hl)
theorem nx_ix {i : Int32} {k n : Nat} (hi : i = nI k) (hk : k < n) (hn : n < 2147483648) : vp_in i n ∧ i.toNatClampNeg = k := by
  subst hi
  exact ⟨vp_in_nI hk hn, nI_clamp (Nat.lt_trans hk hn)⟩
theorem j_iald (h : Ok x cc own kA rm nL) (q0 : Nat) {a n : Nat} {f : Nat → Int32} {i : Int32} (ha : ws[q0]? = some (a, .inl (kA 1, n, .inl f))) (k : Nat) (hi : i = nI k) (hk : k < n) (hn : n < 2147483648) (d : decode cc pc = .ok (.iaload, 1)) (kk : J x ws lv cells slots (pc + 1) (.int (f k) :: st)) : J x ws lv cells slots pc (.int i :: .ref a :: st) := fun H locs ls hP hD hS hl => by
  have h2 := nx_ix hi hk hn
  refine va_iald h.ex h.by h.kk hP q0 1 ha rfl h2.1 d ?_
  rw [h2.2]
  exact kk H locs ls hP hD hS hl
theorem j_bald (h : Ok x cc own kA rm nL) (q0 : Nat) {a n : Nat} {f : Nat → Int32} {i : Int32} (ha : ws[q0]? = some (a, .inl (kA 0, n, .inl f))) (k : Nat) (hi : i = nI k) (hk : k < n) (hn : n < 2147483648) (d : decode cc pc = .ok (.baload, 1)) (kk : J x ws lv cells slots (pc + 1) (.int (f k) :: st)) : J x ws lv cells slots pc (.int i :: .ref a :: st) := fun H locs ls hP hD hS hl => by
  have h2 := nx_ix hi hk hn
  refine va_bald h.ex h.by h.kk hP q0 0 ha rfl h2.1 d ?_
  rw [h2.2]
  exact kk H locs ls hP hD hS hl
theorem j_zald (h : Ok x cc own kA rm nL) (q0 : Nat) {a n : Nat} {f : Nat → Int32} {i : Int32} (ha : ws[q0]? = some (a, .inl (kA 3, n, .inl f))) (k : Nat) (hi : i = nI k) (hk : k < n) (hn : n < 2147483648) (d : decode cc pc = .ok (.baload, 1)) (kk : J x ws lv cells slots (pc + 1) (.int (f k) :: st)) : J x ws lv cells slots pc (.int i :: .ref a :: st) := fun H locs ls hP hD hS hl => by
  have h2 := nx_ix hi hk hn
  refine va_zald h.ex h.by h.kk hP q0 3 ha rfl h2.1 d ?_
  rw [h2.2]
  exact kk H locs ls hP hD hS hl
theorem j_lald (h : Ok x cc own kA rm nL) (q0 : Nat) {a n : Nat} {f : Nat → Int64} {i : Int32} (ha : ws[q0]? = some (a, .inl (kA 2, n, .inr (.inl f)))) (k : Nat) (hi : i = nI k) (hk : k < n) (hn : n < 2147483648) (d : decode cc pc = .ok (.laload, 1)) (kk : J x ws lv cells slots (pc + 1) (.long (f k) :: st)) : J x ws lv cells slots pc (.int i :: .ref a :: st) := fun H locs ls hP hD hS hl => by
  have h2 := nx_ix hi hk hn
  refine va_lald h.ex h.by h.kk hP q0 2 ha rfl h2.1 d ?_
  rw [h2.2]
  exact kk H locs ls hP hD hS hl
theorem j_iast (h : Ok x cc own kA rm nL) (q0 : Nat) {a n : Nat} {f : Nat → Int32} {i : Int32} {v : Int32} {ws' : va_W} (ha : ws[q0]? = some (a, .inl (kA 1, n, .inl f))) (k : Nat) (hi : i = nI k) (hk : k < n) (hn : n < 2147483648) (d : decode cc pc = .ok (.iastore, 1)) (hw : ws.set q0 (a, .inl (kA 1, n, .inl (upd f k v))) = ws') (kk : J x ws' lv cells slots (pc + 1) st) : J x ws lv cells slots pc (.int v :: .int i :: .ref a :: st) := fun H locs ls hP hD hS hl => by
  have h2 := nx_ix hi hk hn
  subst hw
  refine va_iast h.ex h.by h.kk hP hD hS q0 1 ha rfl h2.1 d (fun H locs hP hD hS => ?_)
  rw [h2.2] at hP hD
  exact kk H locs ls hP hD hS hl
theorem j_bast (h : Ok x cc own kA rm nL) (q0 : Nat) {a n : Nat} {f : Nat → Int32} {i : Int32} {v : Int32} {ws' : va_W} (ha : ws[q0]? = some (a, .inl (kA 0, n, .inl f))) (k : Nat) (hi : i = nI k) (hk : k < n) (hn : n < 2147483648) (d : decode cc pc = .ok (.bastore, 1)) (hw : ws.set q0 (a, .inl (kA 0, n, .inl (upd f k (vp_nar .byte v)))) = ws') (kk : J x ws' lv cells slots (pc + 1) st) : J x ws lv cells slots pc (.int v :: .int i :: .ref a :: st) := fun H locs ls hP hD hS hl => by
  have h2 := nx_ix hi hk hn
  subst hw
  refine va_bast h.ex h.by h.kk hP hD hS q0 0 ha rfl h2.1 d (fun H locs hP hD hS => ?_)
  rw [h2.2] at hP hD
  exact kk H locs ls hP hD hS hl
theorem j_zast (h : Ok x cc own kA rm nL) (q0 : Nat) {a n : Nat} {f : Nat → Int32} {i : Int32} {v : Int32} {ws' : va_W} (ha : ws[q0]? = some (a, .inl (kA 3, n, .inl f))) (k : Nat) (hi : i = nI k) (hk : k < n) (hn : n < 2147483648) (d : decode cc pc = .ok (.bastore, 1)) (hw : ws.set q0 (a, .inl (kA 3, n, .inl (upd f k (vp_nar .boolean v)))) = ws') (kk : J x ws' lv cells slots (pc + 1) st) : J x ws lv cells slots pc (.int v :: .int i :: .ref a :: st) := fun H locs ls hP hD hS hl => by
  have h2 := nx_ix hi hk hn
  subst hw
  refine va_zast h.ex h.by h.kk hP hD hS q0 3 ha rfl h2.1 d (fun H locs hP hD hS => ?_)
  rw [h2.2] at hP hD
  exact kk H locs ls hP hD hS hl
theorem j_last (h : Ok x cc own kA rm nL) (q0 : Nat) {a n : Nat} {f : Nat → Int64} {i : Int32} {v : Int64} {ws' : va_W} (ha : ws[q0]? = some (a, .inl (kA 2, n, .inr (.inl f)))) (k : Nat) (hi : i = nI k) (hk : k < n) (hn : n < 2147483648) (d : decode cc pc = .ok (.lastore, 1)) (hw : ws.set q0 (a, .inl (kA 2, n, .inr (.inl (vp_updL f k v)))) = ws') (kk : J x ws' lv cells slots (pc + 1) st) : J x ws lv cells slots pc (.long v :: .int i :: .ref a :: st) := fun H locs ls hP hD hS hl => by
  have h2 := nx_ix hi hk hn
  subst hw
  refine va_last h.ex h.by h.kk hP hD hS q0 2 ha rfl h2.1 d (fun H locs hP hD hS => ?_)
  rw [h2.2] at hP hD
  exact kk H locs ls hP hD hS hl
theorem j_alen (h : Ok x cc own kA rm nL) (q0 t0 : Nat) {a : Nat} {cA : ClassId} {y : vp_A} {ty : FieldType} (ha : ws[q0]? = some (a, .inl (cA, y))) (ht : (TY kA)[t0]? = some (cA, ty)) {v : Int32} (hv : Int32.ofNat y.1 = v) (d : decode cc pc = .ok (.arraylength, 1)) (kk : J x ws lv cells slots (pc + 1) (.int v :: st)) : J x ws lv cells slots pc (.ref a :: st) := fun H locs ls hP hD hS hl => va_alen h.ex h.by h.kk hP q0 t0 ha ht hv d (kk H locs ls hP hD hS hl)
theorem j_aldA (h : Ok x cc own kA rm nL) (q0 t0 : Nat) {a n v : Nat} {cA : ClassId} {ty : FieldType} {f : Nat → Option Nat} {i : Int32} (ha : ws[q0]? = some (a, .inl (cA, n, .inr (.inr (.inr (.inr f)))))) (ht : (TY kA)[t0]? = some (cA, .array ty)) (k : Nat) (hi : i = nI k) (hk : k < n) (hn : n < 2147483648) (hv : f k = some v) (d : decode cc pc = .ok (.aaload, 1)) (kk : J x ws lv cells slots (pc + 1) (.ref v :: st)) : J x ws lv cells slots pc (.int i :: .ref a :: st) := fun H locs ls hP hD hS hl => nx_aldA h.ex h.by h.kk hP q0 t0 ha ht (nx_ix hi hk hn).1 (by rw [(nx_ix hi hk hn).2]; exact hv) d (kk H locs ls hP hD hS hl)
theorem j_aldO (h : Ok x cc own kA rm nL) (q0 t0 : Nat) {a n v : Nat} {cA : ClassId} {C : String} {f : Nat → Option Nat} {i : Int32} (ha : ws[q0]? = some (a, .inl (cA, n, .inr (.inr (.inr (.inr f)))))) (ht : (TY kA)[t0]? = some (cA, .object C)) (k : Nat) (hi : i = nI k) (hk : k < n) (hn : n < 2147483648) (hv : f k = some v) (d : decode cc pc = .ok (.aaload, 1)) (kk : J x ws lv cells slots (pc + 1) (.ref v :: st)) : J x ws lv cells slots pc (.int i :: .ref a :: st) := fun H locs ls hP hD hS hl => nx_aldO h.ex h.by h.kk hP q0 t0 ha ht (nx_ix hi hk hn).1 (by rw [(nx_ix hi hk hn).2]; exact hv) d (kk H locs ls hP hD hS hl)
theorem j_astq (h : Ok x cc own kA rm nL) (q0 t0 qk ci : Nat) {a n v : Nat} {cA : ClassId} {r : vw_C} {vs : List Value} {f : Nat → Option Nat} {i : Int32} {ws' : va_W} (ha : ws[q0]? = some (a, .inl (cA, n, .inr (.inr (.inr (.inr f)))))) (ht : (TY kA)[t0]? = some (cA, .object r.1)) (hv : ws[qk]? = some (v, .inr (ci, vs))) (hc : vwCl[ci]? = some r) (k : Nat) (hi : i = nI k) (hk : k < n) (hn : n < 2147483648) (d : decode cc pc = .ok (.aastore, 1)) (hw : ws.set q0 (a, .inl (cA, n, .inr (.inr (.inr (.inr (va_up f k (some v))))))) = ws') (kk : J x ws' lv cells slots (pc + 1) st) : J x ws lv cells slots pc (.ref v :: .int i :: .ref a :: st) := fun H locs ls hP hD hS hl => by
  have h2 := nx_ix hi hk hn
  subst hw
  refine va_astq h.ex h.by h.kk hP hD hS q0 t0 qk ci ha ht hv hc h2.1 d (fun H locs hP hD hS => ?_)
  rw [h2.2] at hP hD
  exact kk H locs ls hP hD hS hl
theorem j_new (h : Ok x cc own kA rm nL) {C : String} {T : u_T} {N ci idx : Nat} {fs : List Value} (hin : ∀ w ∈ u_ws C T N, w ∈ TT) (ty : Nat → FieldType) (hty : ∀ k, k < N → parseFieldDescriptor (T k).2.2.1 = some (ty k)) (t1 : Cond.classLink own idx C ∈ TT) (t2 : Cond.instantiable C N ∈ TT) (t3 : Cond.initialized C ∈ TT) (hc : vwCl[ci]? = some (C, T, N)) (hfs : ∀ j, j < N → defaultValue (ty j) = vp_V fs j) (hcells : cells + 1 ≤ rm.cells) (hslots : slots + N ≤ rm.slots) (d : decode cc pc = .ok (.new idx, 3)) (kk : ∀ q : Nat, J x (ws ++ [(q, .inr (ci, fs))]) lv (cells + 1) (slots + N) (pc + 3) (.ref q :: st)) : J x ws lv cells slots pc st := fun H locs ls hP hD hS hl => va_new h.ex h.by h.ts hin ty hty h.ow (h.ts _ t1) (h.ts _ t2) (h.ts _ t3) h.kk hP hD hS h.aa hc hfs (h.rr ▸ hcells) (h.rr ▸ hslots) d (fun q H1 hP hD hS => kk q H1 locs ls hP hD hS hl)
theorem j_newa (h : Ok x cc own kA rm nL) {atype : ArrayType} {ty : FieldType} (t : Cond.arrayClass (newarray.typeOf atype) ∈ TT) (hty : newarray.typeOf atype = ty) (t0 : Nat) {cA : ClassId} (ht0 : (TY kA)[t0]? = some (cA, ty)) {n : Int32} {N' : Nat} {a0 : vp_A} (ha : ∀ cA : ClassId, vp_cell cA a0 = arrV cA N' (fun _ => defaultValue ty)) (hn : n = nI N') (hN : N' < 67108864) (hbytes : N' * componentBytes ty ≤ 536870912) (hcells : cells + 1 ≤ rm.cells) (hslots : slots + N' ≤ rm.slots) (d : decode cc pc = .ok (.newarray atype, 2)) (kk : ∀ q : Nat, J x (ws ++ [(q, .inl (cA, a0))]) lv (cells + 1) (slots + N') (pc + 2) (.ref q :: st)) : J x ws lv cells slots pc (.int n :: st) := fun H locs ls hP hD hS hl => by
  subst hn
  exact nx_newa h.ex h.by (h.ts _ t) hty h.kk t0 ht0 hP hD hS h.aa ha (nI_pos (by omega)) (nI_clamp (by omega)) hbytes (h.rr ▸ hcells) (h.rr ▸ hslots) d (fun q H1 hP hD hS => kk q H1 locs ls hP hD hS hl)
theorem j_newq (h : Ok x cc own kA rm nL) {C : String} {idx : Nat} (t : Cond.classLink own idx C ∈ TT) (hover : va_AO C x.2.1.1) (t0 : Nat) {cA : ClassId} (ht0 : (TY kA)[t0]? = some (cA, .object C)) {n : Int32} {N' : Nat} (hn : n = nI N') (hN : N' < 67108864) (hcells : cells + 1 ≤ rm.cells) (hslots : slots + N' ≤ rm.slots) (d : decode cc pc = .ok (.anewarray idx, 3)) (kk : ∀ q : Nat, J x (ws ++ [(q, .inl (cA, N', .inr (.inr (.inr (.inr (fun _ => none))))))]) lv (cells + 1) (slots + N') (pc + 3) (.ref q :: st)) : J x ws lv cells slots pc (.int n :: st) := fun H locs ls hP hD hS hl => by
  subst hn
  exact nx_newq h.ex h.by h.ow (h.ts _ t) hover h.kk t0 ht0 hP hD hS h.aa (nI_pos (by omega)) (nI_clamp (by omega)) (by omega) (h.rr ▸ hcells) (h.rr ▸ hslots) d (fun q H1 hP hD hS => kk q H1 locs ls hP hD hS hl)
theorem j_multi (h : Ok x cc own kA rm nL) {idx : Nat} {ty : FieldType} {cO cy : ClassId} (t : Cond.classLink own idx ("[" ++ (FieldType.array ty).toString) ∈ TT) (hover : nAOA ty x.2.1.1) (t2 : Cond.arrayClass ty ∈ TT) (hcO : x.2.1.1.vm.findClass ("[" ++ (FieldType.array ty).toString) = some cO) (hcy : x.2.1.1.vm.findClass ("[" ++ ty.toString) = some cy) {n k : Int32} {N' K' : Nat} {z : vp_A} (hn : n = nI N') (hk : k = nI K') (hN : N' < 67108864) (hM : K' < 67108864) (hb2 : K' * componentBytes ty ≤ 536870912) (hdf : fits ty (defaultValue ty) = true) (hcells : cells + (1 + N') ≤ rm.cells) (hslots : slots + (N' + N' * K') ≤ rm.slots) (hz : ∀ c : ClassId, vp_cell c z = arrV c K' (fun _ => defaultValue ty)) (d : decode cc pc = .ok (.multianewarray idx 2, 4)) (kk : ∀ q : Nat, J x (ws ++ nx_w cO cy q N' z) lv (cells + 1 + N') (slots + N' + N' * K') (pc + 4) (.ref q :: st)) : J x ws lv cells slots pc (.int k :: .int n :: st) := fun H locs ls hP hD hS hl => by
  subst hn
  subst hk
  exact nx_multi h.ex h.by h.ow (h.ts _ t) hover (h.ts _ t2) hcO hcy hP hD hS h.aa (nI_pos (by omega)) (nI_pos (by omega)) (nI_clamp (by omega)) (nI_clamp (by omega)) (by omega) hb2 (by omega) hdf (h.rr ▸ hcells) (h.rr ▸ hslots) hz d (fun q H1 hP hD hS => kk q H1 locs ls hP hD hS hl)
theorem j_objInit (h : Ok x cc own kA rm nL) {idx a : Nat} (t1 : Cond.methodLink own idx objectInit ∈ TT) (t2 : Cond.instanceMethod objectInit ∈ TT) (t3 : Cond.code objectInit ⟨#[0xb1]⟩ 1 none ∈ TT) (hr : 1 ≤ rm.frames) (hr2 : 20 ≤ rm.locals) (hst : (st.map fun v => v.category).sum ≤ 8) (d : decode cc pc = .ok (.invokespecial idx, 3)) (kk : J x ws lv cells slots (pc + 3) st) : J x ws lv cells slots pc (.ref a :: st) := fun H locs ls hP hD hS hl => W.objInit h.ex h.by h.ow (h.ts _ t1) (h.ts _ t2) (h.ts _ t3) rfl (h.ml.symm ▸ hl.1) rfl d (h.rr ▸ hr) (by rw [h.rr]; have := lv_room (m := x.2.1.2.1) (pc := pc) (ls := ls) (rest := .ref a :: st) hst; exact Nat.le_trans (Nat.add_le_add_right this 12) hr2) (kk H locs ls hP hD hS hl)
end JL
end
section
def CtI (l : Launch) (y : MethodName) (cc : ByteArray) (n : Nat) (r : Option FieldType) (k mc ms : Nat) (g : va_G) (kA : Nat → ClassId) (As : List Value) (ws : va_W) {S : Type} (post : Int32 → S → Prop) (w1 : S → va_W) : Prop := ∀ sz : Nat, Met l y (.code y cc n r :: TT) (rmC k mc ms) (va_Pc As (nPre g kA ws sz)) (va_Qi post (fun u t => nPost g kA (va_A ws sz) (w1 u) t) (va_A ws sz)) mc ms (va_A ws sz)
def RetI (x : Cx) (kA : Nat → ClassId) (r : Option FieldType) {S : Type} (post : Int32 → S → Prop) (w1 : S → va_W) (mc ms : Nat) : Prop := x.2.2.2.2 = MQ x.2.1.2.2.2 (va_Qi post (fun u t => nPost x.2.2.2.1.2.1 kA x.2.2.2.1.1 (w1 u) t) x.2.2.2.1.1) x.2.1.2.2.1 x.2.1.1 mc ms x.2.2.2.1.1 ∧ x.2.2.1.1.sig.returnType = r
theorem nx_startI {l : Launch} {y : MethodName} {cc : ByteArray} {n : Nat} {r : Option FieldType} {k mc ms : Nat} {g : va_G} {kA : Nat → ClassId} {As : List Value} {ws : va_W} {S : Type} {post : Int32 → S → Prop} {w1 : S → va_W} (hy : plainName y.cls = true) (hn : (lg_sl As).length ≤ n)
    (body : ∀ x : Cx, x.2.2.1.1.name = y.name → Ok x cc y.cls kA (rmC k mc ms) n → RetI x kA r post w1 mc ms → J x ws (lv_args 0 As) 0 0 0 []) : CtI l y cc n r k mc ms g kA As ws post w1 := by
  intro sz
  refine Met.ofW (cc := cc) (maxL := n) (ret := r) hy rfl ?_
  intro p e s m args below meth c s₁ B hml hv
  obtain ⟨rfl, hsz, hP, hK, hD0, hN⟩ := hv
  subst hsz
  have hts := atoms_spec (ws := .code y cc n r :: TT) B.pre
  have hD := hD0.self (sz := s.heap.size)
  have J0 := body ((p, l, e, rmC k mc ms), (s, m, As.toArray, below), (meth, c), (va_A ws s.heap.size, g, n), MQ below (va_Qi post (fun u t => nPost g kA (va_A ws s.heap.size) (w1 u) t) (va_A ws s.heap.size)) As.toArray s mc ms (va_A ws s.heap.size)) (name_of_methodNamed B.named B.method).1 ⟨B.exec, B.bytes, hml, findClass_of_methodNamed B.named, fun w h => hts w (List.mem_cons_of_mem _ h), hK, hN, fun q h => Or.inr h, rfl, B.notSynchronized, rfl⟩ ⟨rfl, B.returns⟩
  have hl := lv_entry As (n := n) hn
  rw [lg_entry_eq]
  exact J0 s.heap [] _ hP hD va_S.rf hl
def CtL (l : Launch) (y : MethodName) (cc : ByteArray) (n : Nat) (r : Option FieldType) (k mc ms : Nat) (g : va_G) (kA : Nat → ClassId) (As : List Value) (ws : va_W) {S : Type} (post : Int64 → S → Prop) (w1 : S → va_W) : Prop := ∀ sz : Nat, Met l y (.code y cc n r :: TT) (rmC k mc ms) (va_Pc As (nPre g kA ws sz)) (va_Ql post (fun u t => nPost g kA (va_A ws sz) (w1 u) t) (va_A ws sz)) mc ms (va_A ws sz)
def RetL (x : Cx) (kA : Nat → ClassId) (r : Option FieldType) {S : Type} (post : Int64 → S → Prop) (w1 : S → va_W) (mc ms : Nat) : Prop := x.2.2.2.2 = MQ x.2.1.2.2.2 (va_Ql post (fun u t => nPost x.2.2.2.1.2.1 kA x.2.2.2.1.1 (w1 u) t) x.2.2.2.1.1) x.2.1.2.2.1 x.2.1.1 mc ms x.2.2.2.1.1 ∧ x.2.2.1.1.sig.returnType = r
theorem nx_startL {l : Launch} {y : MethodName} {cc : ByteArray} {n : Nat} {r : Option FieldType} {k mc ms : Nat} {g : va_G} {kA : Nat → ClassId} {As : List Value} {ws : va_W} {S : Type} {post : Int64 → S → Prop} {w1 : S → va_W} (hy : plainName y.cls = true) (hn : (lg_sl As).length ≤ n)
    (body : ∀ x : Cx, x.2.2.1.1.name = y.name → Ok x cc y.cls kA (rmC k mc ms) n → RetL x kA r post w1 mc ms → J x ws (lv_args 0 As) 0 0 0 []) : CtL l y cc n r k mc ms g kA As ws post w1 := by
  intro sz
  refine Met.ofW (cc := cc) (maxL := n) (ret := r) hy rfl ?_
  intro p e s m args below meth c s₁ B hml hv
  obtain ⟨rfl, hsz, hP, hK, hD0, hN⟩ := hv
  subst hsz
  have hts := atoms_spec (ws := .code y cc n r :: TT) B.pre
  have hD := hD0.self (sz := s.heap.size)
  have J0 := body ((p, l, e, rmC k mc ms), (s, m, As.toArray, below), (meth, c), (va_A ws s.heap.size, g, n), MQ below (va_Ql post (fun u t => nPost g kA (va_A ws s.heap.size) (w1 u) t) (va_A ws s.heap.size)) As.toArray s mc ms (va_A ws s.heap.size)) (name_of_methodNamed B.named B.method).1 ⟨B.exec, B.bytes, hml, findClass_of_methodNamed B.named, fun w h => hts w (List.mem_cons_of_mem _ h), hK, hN, fun q h => Or.inr h, rfl, B.notSynchronized, rfl⟩ ⟨rfl, B.returns⟩
  have hl := lv_entry As (n := n) hn
  rw [lg_entry_eq]
  exact J0 s.heap [] _ hP hD va_S.rf hl
def CtV (l : Launch) (y : MethodName) (cc : ByteArray) (n : Nat) (r : Option FieldType) (k mc ms : Nat) (g : va_G) (kA : Nat → ClassId) (As : List Value) (ws : va_W) {S : Type} (post : S → Prop) (w1 : S → va_W) : Prop := ∀ sz : Nat, Met l y (.code y cc n r :: TT) (rmC k mc ms) (va_Pc As (nPre g kA ws sz)) (va_Qv post (fun u t => nPost g kA (va_A ws sz) (w1 u) t) (va_A ws sz)) mc ms (va_A ws sz)
def RetV (x : Cx) (kA : Nat → ClassId) (r : Option FieldType) {S : Type} (post : S → Prop) (w1 : S → va_W) (mc ms : Nat) : Prop := x.2.2.2.2 = MQ x.2.1.2.2.2 (va_Qv post (fun u t => nPost x.2.2.2.1.2.1 kA x.2.2.2.1.1 (w1 u) t) x.2.2.2.1.1) x.2.1.2.2.1 x.2.1.1 mc ms x.2.2.2.1.1 ∧ x.2.2.1.1.sig.returnType = r
theorem nx_startV {l : Launch} {y : MethodName} {cc : ByteArray} {n : Nat} {r : Option FieldType} {k mc ms : Nat} {g : va_G} {kA : Nat → ClassId} {As : List Value} {ws : va_W} {S : Type} {post : S → Prop} {w1 : S → va_W} (hy : plainName y.cls = true) (hn : (lg_sl As).length ≤ n)
    (body : ∀ x : Cx, x.2.2.1.1.name = y.name → Ok x cc y.cls kA (rmC k mc ms) n → RetV x kA r post w1 mc ms → J x ws (lv_args 0 As) 0 0 0 []) : CtV l y cc n r k mc ms g kA As ws post w1 := by
  intro sz
  refine Met.ofW (cc := cc) (maxL := n) (ret := r) hy rfl ?_
  intro p e s m args below meth c s₁ B hml hv
  obtain ⟨rfl, hsz, hP, hK, hD0, hN⟩ := hv
  subst hsz
  have hts := atoms_spec (ws := .code y cc n r :: TT) B.pre
  have hD := hD0.self (sz := s.heap.size)
  have J0 := body ((p, l, e, rmC k mc ms), (s, m, As.toArray, below), (meth, c), (va_A ws s.heap.size, g, n), MQ below (va_Qv post (fun u t => nPost g kA (va_A ws s.heap.size) (w1 u) t) (va_A ws s.heap.size)) As.toArray s mc ms (va_A ws s.heap.size)) (name_of_methodNamed B.named B.method).1 ⟨B.exec, B.bytes, hml, findClass_of_methodNamed B.named, fun w h => hts w (List.mem_cons_of_mem _ h), hK, hN, fun q h => Or.inr h, rfl, B.notSynchronized, rfl⟩ ⟨rfl, B.returns⟩
  have hl := lv_entry As (n := n) hn
  rw [lg_entry_eq]
  exact J0 s.heap [] _ hP hD va_S.rf hl
section JC
variable {x : Cx} {cc : ByteArray} {own : String} {kA : Nat → ClassId} {rm : Room} {nL : Nat} {ws : va_W} {lv : List (Nat × Value)} {cells slots pc : Nat} {st : List Value}
theorem j_iret (h : Ok x cc own kA rm nL) {S : Type} {post : Int32 → S → Prop} {w1 : S → va_W} {mc ms : Nat} {v : Int32} (hq : RetI x kA (some .int) post w1 mc ms)  (d : decode cc pc = .ok (.ireturn, 1)) (u : S) (is : List Nat) (h1 : is.filterMap (fun i => ws[i]?) = w1 u) (h2 : is.map (fun i => ws[i]?) = (w1 u).map some) (hn : va_nd is = true) (hp : post v u) (hc : cells ≤ mc) (hs : slots ≤ ms) : J x ws lv cells slots pc [.int v] := by
  intro H locs ls hP hD hS hl
  unfold xW
  rw [hq.1]
  refine W.widen (k := mc) (n := ms) hc hs ?_
  exact W.iret h.ex h.by hq.2  (fun t ht hW => ⟨⟨v, u, rfl, hp, by rw [ht]; exact hP.sub is h1, va_K.moved hW.alike h.kk, hD.sub is hn h2⟩, hS.F ht⟩) hS.2.2 d h.lk
theorem j_zret (h : Ok x cc own kA rm nL) {S : Type} {post : Int32 → S → Prop} {w1 : S → va_W} {mc ms : Nat} {v : Int32} (hq : RetI x kA (some .boolean) post w1 mc ms) (hz : narrow .boolean (.int v) = .int v) (d : decode cc pc = .ok (.ireturn, 1)) (u : S) (is : List Nat) (h1 : is.filterMap (fun i => ws[i]?) = w1 u) (h2 : is.map (fun i => ws[i]?) = (w1 u).map some) (hn : va_nd is = true) (hp : post v u) (hc : cells ≤ mc) (hs : slots ≤ ms) : J x ws lv cells slots pc [.int v] := by
  intro H locs ls hP hD hS hl
  unfold xW
  rw [hq.1]
  refine W.widen (k := mc) (n := ms) hc hs ?_
  exact W.zret h.ex h.by hq.2 hz (fun t ht hW => ⟨⟨v, u, rfl, hp, by rw [ht]; exact hP.sub is h1, va_K.moved hW.alike h.kk, hD.sub is hn h2⟩, hS.F ht⟩) hS.2.2 d h.lk
theorem j_lret (h : Ok x cc own kA rm nL) {S : Type} {post : Int64 → S → Prop} {w1 : S → va_W} {mc ms : Nat} {v : Int64} (hq : RetL x kA (some .long) post w1 mc ms)  (d : decode cc pc = .ok (.lreturn, 1)) (u : S) (is : List Nat) (h1 : is.filterMap (fun i => ws[i]?) = w1 u) (h2 : is.map (fun i => ws[i]?) = (w1 u).map some) (hn : va_nd is = true) (hp : post v u) (hc : cells ≤ mc) (hs : slots ≤ ms) : J x ws lv cells slots pc [.long v] := by
  intro H locs ls hP hD hS hl
  unfold xW
  rw [hq.1]
  refine W.widen (k := mc) (n := ms) hc hs ?_
  exact W.lret h.ex h.by hq.2  (fun t ht hW => ⟨⟨v, u, rfl, hp, by rw [ht]; exact hP.sub is h1, va_K.moved hW.alike h.kk, hD.sub is hn h2⟩, hS.F ht⟩) hS.2.2 d h.lk
theorem j_vret (h : Ok x cc own kA rm nL) {S : Type} {post : S → Prop} {w1 : S → va_W} {mc ms : Nat}  (hq : RetV x kA none post w1 mc ms)  (d : decode cc pc = .ok (.return_, 1)) (u : S) (is : List Nat) (h1 : is.filterMap (fun i => ws[i]?) = w1 u) (h2 : is.map (fun i => ws[i]?) = (w1 u).map some) (hn : va_nd is = true) (hp : post u) (hc : cells ≤ mc) (hs : slots ≤ ms) : J x ws lv cells slots pc [] := by
  intro H locs ls hP hD hS hl
  unfold xW
  rw [hq.1]
  refine W.widen (k := mc) (n := ms) hc hs ?_
  exact W.vret h.ex h.by hq.2  (fun t ht hW => ⟨⟨u, rfl, hp, by rw [ht]; exact hP.sub is h1, va_K.moved hW.alike h.kk, hD.sub is hn h2⟩, hS.F ht⟩) hS.2.2 d h.lk
theorem j_afterI (h : Ok x cc own kA rm nL) {S : Type} {post : Int32 → S → Prop} {w1 : S → va_W} {mc ms : Nat} {wc : va_W} {rest : List Value} {aa : Array Value} {H : Heap} {locs : List Loc} {ls : Array Slot} (hP : va_P x.2.2.2.1.2.1 vwCl ws H) (hD : va_D x.2.2.2.1.1 ws) (hS : va_S x.2.2.2.1.1 x.2.1.1.heap H locs) (hl : lv_has ls x.2.2.2.1.2.2 lv)
    (hr : va_Run x.1.1 x.1.2.1 x.1.2.2.1 x.1.2.2.2 x.2.1.1 x.2.1.2.1 x.2.1.2.2.1 x.2.1.2.2.2 x.2.2.1.1 x.2.2.1.2 H locs cells slots mc ms (F0 x.2.1.2.1 pc ls st) rest (va_Qi post (fun u t => nPost x.2.2.2.1.2.1 kA (va_A wc H.size) (w1 u) t) (va_A wc H.size) aa) (va_A wc H.size)) (isC isR : List Nat) {wr : va_W} (hC : isC.map (fun i => ws[i]?) = wc.map some) (hR : isR.map (fun i => ws[i]?) = wr.map some) (hn : va_nd isR = true) (hdis : ∀ i ∈ isR, i ∉ isC)
    (kk : ∀ (r : Int32) (u : S), post r u → J x (wr ++ w1 u) lv (cells + mc) (slots + ms) (pc + 3) (.int r :: rest)) : xW x H locs cells slots (F0 x.2.1.2.1 pc ls st) := by
  have hFc := va_free (wc := wc) hD hS h.aa isC hC
  refine va_calli hr hS (fun q _ h => hFc q h) hFc (fun r u t H1 locs1 ht hvm hw hB hz1 hk1 hS1 => ?_)
  obtain ⟨hP1, hK1, hD1⟩ := hB
  rw [ht] at hP1
  obtain ⟨a, b⟩ := va_join hP hD isC isR hC hR hn hdis hk1 hFc hP1 hD1
  exact kk r u hw H1 locs1 ls a b hS1 hl
theorem j_callVi (h : Ok x cc own kA rm nL) {S : Type} {post : Int32 → S → Prop} {w1 : S → va_W} {y : MethodName} {bc : ByteArray} {n k mc ms idx : Nat} {rt : Option FieldType} {wc : va_W} {As rest : List Value} {a ci q0 N : Nat} {C : String} {T : u_T} {fs : List Value} (hM : CtI x.1.2.1 y bc n rt k mc ms x.2.2.2.1.2.1 kA (.ref a :: As) wc post w1) (t1 : Cond.methodLink own idx y ∈ TT) (t2 : Cond.instanceMethod y ∈ TT) (t3 : Cond.selects C y y ∈ TT) (t4 : Cond.initialized C ∈ TT) (t5 : Cond.code y bc n rt ∈ TT)
    (hd : y.cls = C ∧ y.cls ≠ "java/lang/invoke/MethodHandle" ∧ y.cls ≠ "java/lang/invoke/VarHandle" ∧ (parseMethodDescriptor y.desc).map (fun d => d.parameters.length) = some As.length) (hRm : k + 1 ≤ rm.frames ∧ 8 + (n + 11) + 40 * k ≤ rm.locals) (hrc : wc[q0]? = some (a, .inr (ci, fs))) (hcl : vwCl[ci]? = some (C, T, N)) (isC isR : List Nat) {wr : va_W} (hCf : isC.filterMap (fun i => ws[i]?) = wc) (hnC : va_nd isC = true) (hC : isC.map (fun i => ws[i]?) = wc.map some) (hR : isR.map (fun i => ws[i]?) = wr.map some) (hn : va_nd isR = true) (hdis : ∀ i ∈ isR, i ∉ isC) (hst : (rest.map fun v => v.category).sum ≤ 8) (hstk : st = As.reverse ++ .ref a :: rest) (hf : cells + mc ≤ rm.cells ∧ slots + ms ≤ rm.slots) (d : decode cc pc = .ok (.invokevirtual idx, 3))
    (kk : ∀ (r : Int32) (u : S), post r u → J x (wr ++ w1 u) lv (cells + mc) (slots + ms) (pc + 3) (.int r :: rest)) : J x ws lv cells slots pc st := fun H locs ls hP hD hS hl => by
  refine j_afterI h hP hD hS hl (va_runV (As := As) (rest := rest) (nL := x.2.2.2.1.2.2) ⟨h.ex, h.by, h.ml, h.ow, h.ts⟩ (hM H.size) (cwV As.length h.ts (gC t1 (gC t2 (gC t3 (gC t4 (gC t5 TT_good))))) rfl rfl rfl hd (by rw [h.rr]; exact hRm)) ⟨nPre_blind, va_recv h.kk (hP.sub isC hCf) hcl hrc, fun U hU hW => ⟨rfl, by rw [hU], by rw [hU]; exact hP.sub isC hCf, va_K.moved hW.alike h.kk, (hD.sub isC hnC hC).weaken (fun _ _ _ _ => trivial), nNW.warm hW h.nw⟩⟩ rfl rfl hl.1 hstk (lv_room hst) d (by rw [h.rr]; exact hf)) isC isR hC hR hn hdis kk
theorem j_callSi (h : Ok x cc own kA rm nL) {S : Type} {post : Int32 → S → Prop} {w1 : S → va_W} {y : MethodName} {bc : ByteArray} {n k mc ms idx : Nat} {rt : Option FieldType} {wc : va_W} {As rest : List Value} (hM : CtI x.1.2.1 y bc n rt k mc ms x.2.2.2.1.2.1 kA As wc post w1) (t1 : Cond.methodLink own idx y ∈ TT) (t2 : Cond.static y ∈ TT) (t4 : Cond.initialized y.cls ∈ TT) (t5 : Cond.code y bc n rt ∈ TT)
    (hd : y.cls ≠ "java/lang/invoke/MethodHandle" ∧ y.cls ≠ "java/lang/invoke/VarHandle" ∧ (parseMethodDescriptor y.desc).map (fun d => d.parameters.length) = some As.length) (hRm : k + 1 ≤ rm.frames ∧ 8 + (n + 11) + 40 * k ≤ rm.locals) (isC isR : List Nat) {wr : va_W} (hCf : isC.filterMap (fun i => ws[i]?) = wc) (hnC : va_nd isC = true) (hC : isC.map (fun i => ws[i]?) = wc.map some) (hR : isR.map (fun i => ws[i]?) = wr.map some) (hn : va_nd isR = true) (hdis : ∀ i ∈ isR, i ∉ isC) (hst : (rest.map fun v => v.category).sum ≤ 8) (hstk : st = As.reverse ++ rest) (hf : cells + mc ≤ rm.cells ∧ slots + ms ≤ rm.slots) (d : decode cc pc = .ok (.invokestatic idx, 3))
    (kk : ∀ (r : Int32) (u : S), post r u → J x (wr ++ w1 u) lv (cells + mc) (slots + ms) (pc + 3) (.int r :: rest)) : J x ws lv cells slots pc st := fun H locs ls hP hD hS hl => by
  refine j_afterI h hP hD hS hl (va_runS (As := As) (rest := rest) (nL := x.2.2.2.1.2.2) ⟨h.ex, h.by, h.ml, h.ow, h.ts⟩ (hM H.size) (va_cwS As.length h.ts (gC t1 (gC t2 (gC t4 (gC t5 TT_good)))) rfl rfl rfl hd (by rw [h.rr]; exact hRm)) ⟨nPre_blind, fun U hU hW => ⟨rfl, by rw [hU], by rw [hU]; exact hP.sub isC hCf, va_K.moved hW.alike h.kk, (hD.sub isC hnC hC).weaken (fun _ _ _ _ => trivial), nNW.warm hW h.nw⟩⟩ rfl rfl hl.1 hstk (lv_room hst) d (by rw [h.rr]; exact hf)) isC isR hC hR hn hdis kk
theorem j_afterL (h : Ok x cc own kA rm nL) {S : Type} {post : Int64 → S → Prop} {w1 : S → va_W} {mc ms : Nat} {wc : va_W} {rest : List Value} {aa : Array Value} {H : Heap} {locs : List Loc} {ls : Array Slot} (hP : va_P x.2.2.2.1.2.1 vwCl ws H) (hD : va_D x.2.2.2.1.1 ws) (hS : va_S x.2.2.2.1.1 x.2.1.1.heap H locs) (hl : lv_has ls x.2.2.2.1.2.2 lv)
    (hr : va_Run x.1.1 x.1.2.1 x.1.2.2.1 x.1.2.2.2 x.2.1.1 x.2.1.2.1 x.2.1.2.2.1 x.2.1.2.2.2 x.2.2.1.1 x.2.2.1.2 H locs cells slots mc ms (F0 x.2.1.2.1 pc ls st) rest (va_Ql post (fun u t => nPost x.2.2.2.1.2.1 kA (va_A wc H.size) (w1 u) t) (va_A wc H.size) aa) (va_A wc H.size)) (isC isR : List Nat) {wr : va_W} (hC : isC.map (fun i => ws[i]?) = wc.map some) (hR : isR.map (fun i => ws[i]?) = wr.map some) (hn : va_nd isR = true) (hdis : ∀ i ∈ isR, i ∉ isC)
    (kk : ∀ (r : Int64) (u : S), post r u → J x (wr ++ w1 u) lv (cells + mc) (slots + ms) (pc + 3) (.long r :: rest)) : xW x H locs cells slots (F0 x.2.1.2.1 pc ls st) := by
  have hFc := va_free (wc := wc) hD hS h.aa isC hC
  refine va_calll hr hS (fun q _ h => hFc q h) hFc (fun r u t H1 locs1 ht hvm hw hB hz1 hk1 hS1 => ?_)
  obtain ⟨hP1, hK1, hD1⟩ := hB
  rw [ht] at hP1
  obtain ⟨a, b⟩ := va_join hP hD isC isR hC hR hn hdis hk1 hFc hP1 hD1
  exact kk r u hw H1 locs1 ls a b hS1 hl
theorem j_callVl (h : Ok x cc own kA rm nL) {S : Type} {post : Int64 → S → Prop} {w1 : S → va_W} {y : MethodName} {bc : ByteArray} {n k mc ms idx : Nat} {rt : Option FieldType} {wc : va_W} {As rest : List Value} {a ci q0 N : Nat} {C : String} {T : u_T} {fs : List Value} (hM : CtL x.1.2.1 y bc n rt k mc ms x.2.2.2.1.2.1 kA (.ref a :: As) wc post w1) (t1 : Cond.methodLink own idx y ∈ TT) (t2 : Cond.instanceMethod y ∈ TT) (t3 : Cond.selects C y y ∈ TT) (t4 : Cond.initialized C ∈ TT) (t5 : Cond.code y bc n rt ∈ TT)
    (hd : y.cls = C ∧ y.cls ≠ "java/lang/invoke/MethodHandle" ∧ y.cls ≠ "java/lang/invoke/VarHandle" ∧ (parseMethodDescriptor y.desc).map (fun d => d.parameters.length) = some As.length) (hRm : k + 1 ≤ rm.frames ∧ 8 + (n + 11) + 40 * k ≤ rm.locals) (hrc : wc[q0]? = some (a, .inr (ci, fs))) (hcl : vwCl[ci]? = some (C, T, N)) (isC isR : List Nat) {wr : va_W} (hCf : isC.filterMap (fun i => ws[i]?) = wc) (hnC : va_nd isC = true) (hC : isC.map (fun i => ws[i]?) = wc.map some) (hR : isR.map (fun i => ws[i]?) = wr.map some) (hn : va_nd isR = true) (hdis : ∀ i ∈ isR, i ∉ isC) (hst : (rest.map fun v => v.category).sum ≤ 8) (hstk : st = As.reverse ++ .ref a :: rest) (hf : cells + mc ≤ rm.cells ∧ slots + ms ≤ rm.slots) (d : decode cc pc = .ok (.invokevirtual idx, 3))
    (kk : ∀ (r : Int64) (u : S), post r u → J x (wr ++ w1 u) lv (cells + mc) (slots + ms) (pc + 3) (.long r :: rest)) : J x ws lv cells slots pc st := fun H locs ls hP hD hS hl => by
  refine j_afterL h hP hD hS hl (va_runV (As := As) (rest := rest) (nL := x.2.2.2.1.2.2) ⟨h.ex, h.by, h.ml, h.ow, h.ts⟩ (hM H.size) (cwV As.length h.ts (gC t1 (gC t2 (gC t3 (gC t4 (gC t5 TT_good))))) rfl rfl rfl hd (by rw [h.rr]; exact hRm)) ⟨nPre_blind, va_recv h.kk (hP.sub isC hCf) hcl hrc, fun U hU hW => ⟨rfl, by rw [hU], by rw [hU]; exact hP.sub isC hCf, va_K.moved hW.alike h.kk, (hD.sub isC hnC hC).weaken (fun _ _ _ _ => trivial), nNW.warm hW h.nw⟩⟩ rfl rfl hl.1 hstk (lv_room hst) d (by rw [h.rr]; exact hf)) isC isR hC hR hn hdis kk
theorem j_callSl (h : Ok x cc own kA rm nL) {S : Type} {post : Int64 → S → Prop} {w1 : S → va_W} {y : MethodName} {bc : ByteArray} {n k mc ms idx : Nat} {rt : Option FieldType} {wc : va_W} {As rest : List Value} (hM : CtL x.1.2.1 y bc n rt k mc ms x.2.2.2.1.2.1 kA As wc post w1) (t1 : Cond.methodLink own idx y ∈ TT) (t2 : Cond.static y ∈ TT) (t4 : Cond.initialized y.cls ∈ TT) (t5 : Cond.code y bc n rt ∈ TT)
    (hd : y.cls ≠ "java/lang/invoke/MethodHandle" ∧ y.cls ≠ "java/lang/invoke/VarHandle" ∧ (parseMethodDescriptor y.desc).map (fun d => d.parameters.length) = some As.length) (hRm : k + 1 ≤ rm.frames ∧ 8 + (n + 11) + 40 * k ≤ rm.locals) (isC isR : List Nat) {wr : va_W} (hCf : isC.filterMap (fun i => ws[i]?) = wc) (hnC : va_nd isC = true) (hC : isC.map (fun i => ws[i]?) = wc.map some) (hR : isR.map (fun i => ws[i]?) = wr.map some) (hn : va_nd isR = true) (hdis : ∀ i ∈ isR, i ∉ isC) (hst : (rest.map fun v => v.category).sum ≤ 8) (hstk : st = As.reverse ++ rest) (hf : cells + mc ≤ rm.cells ∧ slots + ms ≤ rm.slots) (d : decode cc pc = .ok (.invokestatic idx, 3))
    (kk : ∀ (r : Int64) (u : S), post r u → J x (wr ++ w1 u) lv (cells + mc) (slots + ms) (pc + 3) (.long r :: rest)) : J x ws lv cells slots pc st := fun H locs ls hP hD hS hl => by
  refine j_afterL h hP hD hS hl (va_runS (As := As) (rest := rest) (nL := x.2.2.2.1.2.2) ⟨h.ex, h.by, h.ml, h.ow, h.ts⟩ (hM H.size) (va_cwS As.length h.ts (gC t1 (gC t2 (gC t4 (gC t5 TT_good)))) rfl rfl rfl hd (by rw [h.rr]; exact hRm)) ⟨nPre_blind, fun U hU hW => ⟨rfl, by rw [hU], by rw [hU]; exact hP.sub isC hCf, va_K.moved hW.alike h.kk, (hD.sub isC hnC hC).weaken (fun _ _ _ _ => trivial), nNW.warm hW h.nw⟩⟩ rfl rfl hl.1 hstk (lv_room hst) d (by rw [h.rr]; exact hf)) isC isR hC hR hn hdis kk
theorem j_afterV (h : Ok x cc own kA rm nL) {S : Type} {post : S → Prop} {w1 : S → va_W} {mc ms : Nat} {wc : va_W} {rest : List Value} {aa : Array Value} {H : Heap} {locs : List Loc} {ls : Array Slot} (hP : va_P x.2.2.2.1.2.1 vwCl ws H) (hD : va_D x.2.2.2.1.1 ws) (hS : va_S x.2.2.2.1.1 x.2.1.1.heap H locs) (hl : lv_has ls x.2.2.2.1.2.2 lv)
    (hr : va_Run x.1.1 x.1.2.1 x.1.2.2.1 x.1.2.2.2 x.2.1.1 x.2.1.2.1 x.2.1.2.2.1 x.2.1.2.2.2 x.2.2.1.1 x.2.2.1.2 H locs cells slots mc ms (F0 x.2.1.2.1 pc ls st) rest (va_Qv post (fun u t => nPost x.2.2.2.1.2.1 kA (va_A wc H.size) (w1 u) t) (va_A wc H.size) aa) (va_A wc H.size)) (isC isR : List Nat) {wr : va_W} (hC : isC.map (fun i => ws[i]?) = wc.map some) (hR : isR.map (fun i => ws[i]?) = wr.map some) (hn : va_nd isR = true) (hdis : ∀ i ∈ isR, i ∉ isC)
    (kk : ∀ (u : S), post u → J x (wr ++ w1 u) lv (cells + mc) (slots + ms) (pc + 3) rest) : xW x H locs cells slots (F0 x.2.1.2.1 pc ls st) := by
  have hFc := va_free (wc := wc) hD hS h.aa isC hC
  refine va_callv hr hS (fun q _ h => hFc q h) hFc (fun u t H1 locs1 ht hvm hw hB hz1 hk1 hS1 => ?_)
  obtain ⟨hP1, hK1, hD1⟩ := hB
  rw [ht] at hP1
  obtain ⟨a, b⟩ := va_join hP hD isC isR hC hR hn hdis hk1 hFc hP1 hD1
  exact kk u hw H1 locs1 ls a b hS1 hl
theorem j_callVv (h : Ok x cc own kA rm nL) {S : Type} {post : S → Prop} {w1 : S → va_W} {y : MethodName} {bc : ByteArray} {n k mc ms idx : Nat} {rt : Option FieldType} {wc : va_W} {As rest : List Value} {a ci q0 N : Nat} {C : String} {T : u_T} {fs : List Value} (hM : CtV x.1.2.1 y bc n rt k mc ms x.2.2.2.1.2.1 kA (.ref a :: As) wc post w1) (t1 : Cond.methodLink own idx y ∈ TT) (t2 : Cond.instanceMethod y ∈ TT) (t3 : Cond.selects C y y ∈ TT) (t4 : Cond.initialized C ∈ TT) (t5 : Cond.code y bc n rt ∈ TT)
    (hd : y.cls = C ∧ y.cls ≠ "java/lang/invoke/MethodHandle" ∧ y.cls ≠ "java/lang/invoke/VarHandle" ∧ (parseMethodDescriptor y.desc).map (fun d => d.parameters.length) = some As.length) (hRm : k + 1 ≤ rm.frames ∧ 8 + (n + 11) + 40 * k ≤ rm.locals) (hrc : wc[q0]? = some (a, .inr (ci, fs))) (hcl : vwCl[ci]? = some (C, T, N)) (isC isR : List Nat) {wr : va_W} (hCf : isC.filterMap (fun i => ws[i]?) = wc) (hnC : va_nd isC = true) (hC : isC.map (fun i => ws[i]?) = wc.map some) (hR : isR.map (fun i => ws[i]?) = wr.map some) (hn : va_nd isR = true) (hdis : ∀ i ∈ isR, i ∉ isC) (hst : (rest.map fun v => v.category).sum ≤ 8) (hstk : st = As.reverse ++ .ref a :: rest) (hf : cells + mc ≤ rm.cells ∧ slots + ms ≤ rm.slots) (d : decode cc pc = .ok (.invokevirtual idx, 3))
    (kk : ∀ (u : S), post u → J x (wr ++ w1 u) lv (cells + mc) (slots + ms) (pc + 3) rest) : J x ws lv cells slots pc st := fun H locs ls hP hD hS hl => by
  refine j_afterV h hP hD hS hl (va_runV (As := As) (rest := rest) (nL := x.2.2.2.1.2.2) ⟨h.ex, h.by, h.ml, h.ow, h.ts⟩ (hM H.size) (cwV As.length h.ts (gC t1 (gC t2 (gC t3 (gC t4 (gC t5 TT_good))))) rfl rfl rfl hd (by rw [h.rr]; exact hRm)) ⟨nPre_blind, va_recv h.kk (hP.sub isC hCf) hcl hrc, fun U hU hW => ⟨rfl, by rw [hU], by rw [hU]; exact hP.sub isC hCf, va_K.moved hW.alike h.kk, (hD.sub isC hnC hC).weaken (fun _ _ _ _ => trivial), nNW.warm hW h.nw⟩⟩ rfl rfl hl.1 hstk (lv_room hst) d (by rw [h.rr]; exact hf)) isC isR hC hR hn hdis kk
theorem j_callSv (h : Ok x cc own kA rm nL) {S : Type} {post : S → Prop} {w1 : S → va_W} {y : MethodName} {bc : ByteArray} {n k mc ms idx : Nat} {rt : Option FieldType} {wc : va_W} {As rest : List Value} (hM : CtV x.1.2.1 y bc n rt k mc ms x.2.2.2.1.2.1 kA As wc post w1) (t1 : Cond.methodLink own idx y ∈ TT) (t2 : Cond.static y ∈ TT) (t4 : Cond.initialized y.cls ∈ TT) (t5 : Cond.code y bc n rt ∈ TT)
    (hd : y.cls ≠ "java/lang/invoke/MethodHandle" ∧ y.cls ≠ "java/lang/invoke/VarHandle" ∧ (parseMethodDescriptor y.desc).map (fun d => d.parameters.length) = some As.length) (hRm : k + 1 ≤ rm.frames ∧ 8 + (n + 11) + 40 * k ≤ rm.locals) (isC isR : List Nat) {wr : va_W} (hCf : isC.filterMap (fun i => ws[i]?) = wc) (hnC : va_nd isC = true) (hC : isC.map (fun i => ws[i]?) = wc.map some) (hR : isR.map (fun i => ws[i]?) = wr.map some) (hn : va_nd isR = true) (hdis : ∀ i ∈ isR, i ∉ isC) (hst : (rest.map fun v => v.category).sum ≤ 8) (hstk : st = As.reverse ++ rest) (hf : cells + mc ≤ rm.cells ∧ slots + ms ≤ rm.slots) (d : decode cc pc = .ok (.invokestatic idx, 3))
    (kk : ∀ (u : S), post u → J x (wr ++ w1 u) lv (cells + mc) (slots + ms) (pc + 3) rest) : J x ws lv cells slots pc st := fun H locs ls hP hD hS hl => by
  refine j_afterV h hP hD hS hl (va_runS (As := As) (rest := rest) (nL := x.2.2.2.1.2.2) ⟨h.ex, h.by, h.ml, h.ow, h.ts⟩ (hM H.size) (va_cwS As.length h.ts (gC t1 (gC t2 (gC t4 (gC t5 TT_good)))) rfl rfl rfl hd (by rw [h.rr]; exact hRm)) ⟨nPre_blind, fun U hU hW => ⟨rfl, by rw [hU], by rw [hU]; exact hP.sub isC hCf, va_K.moved hW.alike h.kk, (hD.sub isC hnC hC).weaken (fun _ _ _ _ => trivial), nNW.warm hW h.nw⟩⟩ rfl rfl hl.1 hstk (lv_room hst) d (by rw [h.rr]; exact hf)) isC isR hC hR hn hdis kk
theorem j_callI (h : Ok x cc own kA rm nL) {S : Type} {post : S → Prop} {w1 : S → va_W} {y : MethodName} {bc : ByteArray} {n k mc ms idx : Nat} {rt : Option FieldType} {wc : va_W} {As rest : List Value} {a : Nat} (hM : CtV x.1.2.1 y bc n none k mc ms x.2.2.2.1.2.1 kA (.ref a :: As) wc post w1) (t1 : Cond.methodLink own idx y ∈ TT) (t2 : Cond.instanceMethod y ∈ TT) (t4 : Cond.initialized y.cls ∈ TT) (t5 : Cond.code y bc n none ∈ TT) (hy : y.name = "<init>")
    (hd : y.cls ≠ "java/lang/invoke/MethodHandle" ∧ y.cls ≠ "java/lang/invoke/VarHandle" ∧ (parseMethodDescriptor y.desc).map (fun d => d.parameters.length) = some As.length) (hRm : k + 1 ≤ rm.frames ∧ 8 + (n + 11) + 40 * k ≤ rm.locals) (isC isR : List Nat) {wr : va_W} (hCf : isC.filterMap (fun i => ws[i]?) = wc) (hnC : va_nd isC = true) (hC : isC.map (fun i => ws[i]?) = wc.map some) (hR : isR.map (fun i => ws[i]?) = wr.map some) (hn : va_nd isR = true) (hdis : ∀ i ∈ isR, i ∉ isC) (hst : (rest.map fun v => v.category).sum ≤ 8) (hstk : st = As.reverse ++ .ref a :: rest) (hf : cells + mc ≤ rm.cells ∧ slots + ms ≤ rm.slots) (d : decode cc pc = .ok (.invokespecial idx, 3))
    (kk : ∀ (u : S), post u → J x (wr ++ w1 u) lv (cells + mc) (slots + ms) (pc + 3) rest) : J x ws lv cells slots pc st := fun H locs ls hP hD hS hl => by
  refine j_afterV h hP hD hS hl (va_runI (As := As) (rest := rest) (nL := x.2.2.2.1.2.2) ⟨h.ex, h.by, h.ml, h.ow, h.ts⟩ (hM H.size) (cwI As.length h.ts (gC t5 TT_good) rfl rfl rfl (h.ts _ t4) (h.ts _ t1) (h.ts _ t2) hy hd (by rw [h.rr]; exact hRm)) ⟨nPre_blind, fun U hU hW => ⟨rfl, by rw [hU], by rw [hU]; exact hP.sub isC hCf, va_K.moved hW.alike h.kk, (hD.sub isC hnC hC).weaken (fun _ _ _ _ => trivial), nNW.warm hW h.nw⟩⟩ rfl rfl hl.1 hstk (lv_room hst) d (by rw [h.rr]; exact hf)) isC isR hC hR hn hdis kk
theorem j_callIN (h : Ok x cc own kA rm nL) {S : Type} {post : S → Prop} {w1 : S → va_W} {y : MethodName} {bc : ByteArray} {n k mc ms idx : Nat} {rt : Option FieldType} {wc : va_W} {As rest : List Value} {a : Nat} (hM : CtV x.1.2.1 y bc n none k mc ms x.2.2.2.1.2.1 kA (.ref a :: As) wc post w1) (t1 : (own, idx, y) ∈ nNl) (t2 : Cond.instanceMethod y ∈ TT) (t4 : Cond.initialized y.cls ∈ TT) (t5 : Cond.code y bc n none ∈ TT) (hy : y.name = "<init>")
    (hd : y.cls ≠ "java/lang/invoke/MethodHandle" ∧ y.cls ≠ "java/lang/invoke/VarHandle" ∧ (parseMethodDescriptor y.desc).map (fun d => d.parameters.length) = some As.length) (hRm : k + 1 ≤ rm.frames ∧ 8 + (n + 11) + 40 * k ≤ rm.locals) (isC isR : List Nat) {wr : va_W} (hCf : isC.filterMap (fun i => ws[i]?) = wc) (hnC : va_nd isC = true) (hC : isC.map (fun i => ws[i]?) = wc.map some) (hR : isR.map (fun i => ws[i]?) = wr.map some) (hn : va_nd isR = true) (hdis : ∀ i ∈ isR, i ∉ isC) (hst : (rest.map fun v => v.category).sum ≤ 8) (hstk : st = As.reverse ++ .ref a :: rest) (hf : cells + mc ≤ rm.cells ∧ slots + ms ≤ rm.slots) (d : decode cc pc = .ok (.invokespecial idx, 3))
    (kk : ∀ (u : S), post u → J x (wr ++ w1 u) lv (cells + mc) (slots + ms) (pc + 3) rest) : J x ws lv cells slots pc st := fun H locs ls hP hD hS hl => by
  refine j_afterV h hP hD hS hl (va_runIN (As := As) (rest := rest) (nL := x.2.2.2.1.2.2) (host := RX11) ⟨h.ex, h.by, h.ml, h.ow, h.ts⟩ (hM H.size) ⟨va_cnB As.length h.ts (gC t5 TT_good) rfl rfl rfl (h.nw.1 _ t1) (h.ts _ t4) hd (by rw [h.rr]; exact hRm), hy, h.ts _ t2⟩ ⟨nPre_blind, fun U hU hW => ⟨rfl, by rw [hU], by rw [hU]; exact hP.sub isC hCf, va_K.moved hW.alike h.kk, (hD.sub isC hnC hC).weaken (fun _ _ _ _ => trivial), nNW.warm hW h.nw⟩⟩ rfl rfl hl.1 hstk (lv_room hst) d (by rw [h.rr]; exact hf)) isC isR hC hR hn hdis kk
theorem j_copyi (h : Ok x cc own kA rm nL) {idx : Nat} (t1 : Cond.methodLink own idx arraycopyName ∈ TT) (t2 : Cond.native arraycopyName ∈ TT) (t3 : Cond.static arraycopyName ∈ TT) (t4 : Cond.initialized "java/lang/System" ∈ TT) (q0 q1 : Nat) {a a0 n0 n1 : Nat} {f g : Nat → Int32} {ws' : va_W} (ha0 : ws[q0]? = some (a0, .inl (kA 1, n0, .inl f))) (ha1 : ws[q1]? = some (a, .inl (kA 1, n1, .inl g))) {sp dp n : Int32} (sp' dp' n' : Nat) (h1 : sp = nI sp') (h2 : dp = nI dp') (h3 : n = nI n') (h4 : sp' + n' ≤ n0) (h5 : dp' + n' ≤ n1) (hn0 : n0 < 2147483648) (hn1 : n1 < 2147483648) (hfr : 1 ≤ rm.frames) (hlo : 40 ≤ rm.locals) (hst : (st.map fun v => v.category).sum ≤ 8) (d : decode cc pc = .ok (.invokestatic idx, 3)) (hw : ws.set q1 (a, .inl (kA 1, n1, .inl (va_cpy f g sp' dp' n'))) = ws') (kk : J x ws' lv cells slots (pc + 3) st) : J x ws lv cells slots pc (.int n :: .int dp :: .ref a :: .int sp :: .ref a0 :: st) := fun H locs ls hP hD hS hl => by
  subst h1
  subst h2
  subst h3
  subst hw
  have e1 : (nI sp').toNatClampNeg = sp' := nI_clamp (by omega)
  have e2 : (nI dp').toNatClampNeg = dp' := nI_clamp (by omega)
  have e3 : (nI n').toNatClampNeg = n' := nI_clamp (by omega)
  refine va_copyi h.ex h.by (h.ml.trans hl.1.symm) h.ow (h.ts _ t1) (h.ts _ t2) (h.ts _ t3) (h.ts _ t4) h.kk hP hD hS q0 q1 1 1 ha0 ha1 rfl rfl rfl (nI_pos (by omega)) (nI_pos (by omega)) (nI_pos (by omega)) (by rw [e1, e3]; exact h4) (by rw [e2, e3]; exact h5) (fun _ _ => rfl) (h.rr ▸ hfr) (by rw [h.rr]; exact Nat.le_trans (Nat.add_le_add_right hst _) (Nat.le_trans (by decide) hlo)) d (fun H locs hP hD hS => ?_)
  rw [e1, e2, e3] at hP hD
  exact kk H locs ls hP hD hS hl
theorem j_mmax (h : Ok x cc own kA rm nL) {idx : Nat} {a b : Int32} (t1 : Cond.methodLink own idx Lib.Math.max.name ∈ TT) (t2 : Cond.static Lib.Math.max.name ∈ TT) (t3 : Cond.initialized "java/lang/Math" ∈ TT) (t4 : Cond.code Lib.Math.max.name Lib.Math.max.code 2 (some .int) ∈ TT) (hfr : 1 ≤ rm.frames) (hlo : 40 ≤ rm.locals) (hst : (st.map fun v => v.category).sum ≤ 8) (hc : cells ≤ rm.cells) (hs : slots ≤ rm.slots) (d : decode cc pc = .ok (.invokestatic idx, 3)) (kk : J x ws lv cells slots (pc + 3) (.int (if a < b then b else a) :: st)) : J x ws lv cells slots pc (.int b :: .int a :: st) := fun H locs ls hP hD hS hl => va_mmax h.ex h.by (h.ml.trans hl.1.symm) h.ow (h.ts _ t1) (h.ts _ t2) (h.ts _ t3) (h.ts _ t4) (h.rr ▸ hfr) (by rw [h.rr]; exact Nat.le_trans (Nat.add_le_add_right hst _) (Nat.le_trans (by decide) hlo)) (h.rr ▸ hc) (h.rr ▸ hs) d (kk H locs ls hP hD hS hl)
theorem j_mmin (h : Ok x cc own kA rm nL) {idx : Nat} {a b : Int32} (t1 : Cond.methodLink own idx Lib.Math.min.name ∈ TT) (t2 : Cond.static Lib.Math.min.name ∈ TT) (t3 : Cond.initialized "java/lang/Math" ∈ TT) (t4 : Cond.code Lib.Math.min.name Lib.Math.min.code 2 (some .int) ∈ TT) (hfr : 1 ≤ rm.frames) (hlo : 40 ≤ rm.locals) (hst : (st.map fun v => v.category).sum ≤ 8) (hc : cells ≤ rm.cells) (hs : slots ≤ rm.slots) (d : decode cc pc = .ok (.invokestatic idx, 3)) (kk : J x ws lv cells slots (pc + 3) (.int (if b < a then b else a) :: st)) : J x ws lv cells slots pc (.int b :: .int a :: st) := fun H locs ls hP hD hS hl => va_mmin h.ex h.by (h.ml.trans hl.1.symm) h.ow (h.ts _ t1) (h.ts _ t2) (h.ts _ t3) (h.ts _ t4) (h.rr ▸ hfr) (by rw [h.rr]; exact Nat.le_trans (Nat.add_le_add_right hst _) (Nat.le_trans (by decide) hlo)) (h.rr ▸ hc) (h.rr ▸ hs) d (kk H locs ls hP hD hS hl)
theorem j_mabs (h : Ok x cc own kA rm nL) {idx : Nat} {a : Int32} (t1 : Cond.methodLink own idx Lib.Math.abs.name ∈ TT) (t2 : Cond.static Lib.Math.abs.name ∈ TT) (t3 : Cond.initialized "java/lang/Math" ∈ TT) (t4 : Cond.code Lib.Math.abs.name Lib.Math.abs.code 1 (some .int) ∈ TT) (hfr : 1 ≤ rm.frames) (hlo : 40 ≤ rm.locals) (hst : (st.map fun v => v.category).sum ≤ 8) (hc : cells ≤ rm.cells) (hs : slots ≤ rm.slots) (d : decode cc pc = .ok (.invokestatic idx, 3)) (kk : J x ws lv cells slots (pc + 3) (.int (if 0 ≤ a then a else 0 - a) :: st)) : J x ws lv cells slots pc (.int a :: st) := fun H locs ls hP hD hS hl => va_mabs h.ex h.by (h.ml.trans hl.1.symm) h.ow (h.ts _ t1) (h.ts _ t2) (h.ts _ t3) (h.ts _ t4) (h.rr ▸ hfr) (by rw [h.rr]; exact Nat.le_trans (Nat.add_le_add_right hst _) (Nat.le_trans (by decide) hlo)) (h.rr ▸ hc) (h.rr ▸ hs) d (kk H locs ls hP hD hS hl)
end JC
end
section
theorem nx_defN {N : Nat} {ty : Nat → FieldType} {fs : List Value} (h : (List.range N).map (fun j => defaultValue (ty j)) = (List.range N).map (fun j => vp_V fs j)) : ∀ j, j < N → defaultValue (ty j) = vp_V fs j := fun j hj => List.map_inj_left.mp h j (List.mem_range.mpr hj)
theorem nx_def3 {ty : Nat → FieldType} {fs : List Value} (h : (List.range 3).map (fun j => defaultValue (ty j)) = (List.range 3).map (fun j => vp_V fs j)) : ∀ j, j < 3 → defaultValue (ty j) = vp_V fs j := nx_defN h
theorem nx_def4 {ty : Nat → FieldType} {fs : List Value} (h : (List.range 4).map (fun j => defaultValue (ty j)) = (List.range 4).map (fun j => vp_V fs j)) : ∀ j, j < 4 → defaultValue (ty j) = vp_V fs j := nx_defN h
theorem nx_def5 {ty : Nat → FieldType} {fs : List Value} (h : (List.range 5).map (fun j => defaultValue (ty j)) = (List.range 5).map (fun j => vp_V fs j)) : ∀ j, j < 5 → defaultValue (ty j) = vp_V fs j := nx_defN h
theorem nx_def6 {ty : Nat → FieldType} {fs : List Value} (h : (List.range 6).map (fun j => defaultValue (ty j)) = (List.range 6).map (fun j => vp_V fs j)) : ∀ j, j < 6 → defaultValue (ty j) = vp_V fs j := nx_defN h
theorem nx_def7 {ty : Nat → FieldType} {fs : List Value} (h : (List.range 7).map (fun j => defaultValue (ty j)) = (List.range 7).map (fun j => vp_V fs j)) : ∀ j, j < 7 → defaultValue (ty j) = vp_V fs j := nx_defN h
theorem nx_def11 {ty : Nat → FieldType} {fs : List Value} (h : (List.range 11).map (fun j => defaultValue (ty j)) = (List.range 11).map (fun j => vp_V fs j)) : ∀ j, j < 11 → defaultValue (ty j) = vp_V fs j := nx_defN h
theorem nx_def15 {ty : Nat → FieldType} {fs : List Value} (h : (List.range 15).map (fun j => defaultValue (ty j)) = (List.range 15).map (fun j => vp_V fs j)) : ∀ j, j < 15 → defaultValue (ty j) = vp_V fs j := nx_defN h
theorem nx_def19 {ty : Nat → FieldType} {fs : List Value} (h : (List.range 19).map (fun j => defaultValue (ty j)) = (List.range 19).map (fun j => vp_V fs j)) : ∀ j, j < 19 → defaultValue (ty j) = vp_V fs j := nx_defN h
theorem nx_def70 {ty : Nat → FieldType} {fs : List Value} (h : (List.range 70).map (fun j => defaultValue (ty j)) = (List.range 70).map (fun j => vp_V fs j)) : ∀ j, j < 70 → defaultValue (ty j) = vp_V fs j := nx_defN h
theorem dX9_init_0 : decode cX9_init 0 = .ok (.aload_n 0, 1) := by decide +kernel
theorem dX9_init_1 : decode cX9_init 1 = .ok (.invokespecial 3, 3) := by decide +kernel
theorem tw_120 : Cond.methodLink RX9 3 objectInit ∈ TT := nx_mem 120 (by decide +kernel) (by decide +kernel)
theorem tw_113 : Cond.instanceMethod objectInit ∈ TT := nx_mem 113 (by decide +kernel) (by decide +kernel)
theorem tw_114 : Cond.code objectInit ⟨#[0xb1]⟩ 1 none ∈ TT := nx_mem 114 (by decide +kernel) (by decide +kernel)
theorem dX9_init_4 : decode cX9_init 4 = .ok (.aload_n 0, 1) := by decide +kernel
theorem dX9_init_5 : decode cX9_init 5 = .ok (.sipush 1600, 3) := by decide +kernel
theorem dX9_init_8 : decode cX9_init 8 = .ok (.newarray .byte, 2) := by decide +kernel
theorem tw_148 : Cond.arrayClass .byte ∈ TT := nx_mem 148 (by decide +kernel) (by decide +kernel)
theorem dX9_init_10 : decode cX9_init 10 = .ok (.putfield 9, 3) := by decide +kernel
theorem iw_X9 : ∀ w ∈ u_ws RX9 TX9 7, w ∈ TT := nx_mems _ [133, 135, 137, 139, 141, 143, 145] (by decide +kernel) (by decide +kernel)
theorem tw_121 : Cond.fieldLink RX9 9 "LimpCode$Tape" "bytes" "[B" ∈ TT := nx_mem 121 (by decide +kernel) (by decide +kernel)
theorem dX9_init_13 : decode cX9_init 13 = .ok (.return_, 1) := by decide +kernel
theorem dX9_hasRoomFor_0 : decode cX9_hasRoomFor 0 = .ok (.aload_n 0, 1) := by decide +kernel
theorem dX9_hasRoomFor_1 : decode cX9_hasRoomFor 1 = .ok (.getfield 15, 3) := by decide +kernel
theorem tw_122 : Cond.fieldLink RX9 15 "LimpCode$Tape" "size" "I" ∈ TT := nx_mem 122 (by decide +kernel) (by decide +kernel)
theorem dX9_hasRoomFor_4 : decode cX9_hasRoomFor 4 = .ok (.iload_n 1, 1) := by decide +kernel
theorem dX9_hasRoomFor_5 : decode cX9_hasRoomFor 5 = .ok (.iadd, 1) := by decide +kernel
theorem dX9_hasRoomFor_6 : decode cX9_hasRoomFor 6 = .ok (.aload_n 0, 1) := by decide +kernel
theorem dX9_hasRoomFor_7 : decode cX9_hasRoomFor 7 = .ok (.getfield 9, 3) := by decide +kernel
theorem dX9_hasRoomFor_10 : decode cX9_hasRoomFor 10 = .ok (.arraylength, 1) := by decide +kernel
theorem dX9_hasRoomFor_11 : decode cX9_hasRoomFor 11 = .ok (.if_icmp .gt 7, 3) := by decide +kernel
theorem dX9_hasRoomFor_14 : decode cX9_hasRoomFor 14 = .ok (.iconst 1, 1) := by decide +kernel
theorem dX9_hasRoomFor_15 : decode cX9_hasRoomFor 15 = .ok (.goto 4, 3) := by decide +kernel
theorem dX9_hasRoomFor_19 : decode cX9_hasRoomFor 19 = .ok (.ireturn, 1) := by decide +kernel
set_option maxHeartbeats 4000000 in
set_option maxRecDepth 100000 in
theorem c_X9_init (l : Launch) (g : va_G) (kA : Nat → ClassId) (h0 : Nat)  : CtV l yX9_init cX9_init 1 (none) 1 1 1600 g kA [.ref h0] [(h0, .inr (9, [.null, .int 0, .int 0, .int 0, .int 0, .long 0, .int 0]))] (S := Nat) (fun (b0 : Nat) => True) (fun (b0 : Nat) => [(h0, .inr (9, [.ref b0, .int 0, .int 0, .int 0, .int 0, .long 0, .int 0])), (b0, .inl (kA 0, 1600, .inl (fun _ => 0)))]) := by
  refine nx_startV (by decide +kernel) (Nat.le_of_ble_eq_true rfl) ?_
  intro x hnm h hq
  have h : Ok x cX9_init RX9 kA (rmC 1 1 1600) 1 := h
  show J x [(h0, .inr (9, [.null, .int 0, .int 0, .int 0, .int 0, .long 0, .int 0]))] [(0, .ref h0)] 0 0 0 []
  refine j_aload_n h 0 rfl rfl dX9_init_0 ?_
  refine j_objInit h tw_120 tw_113 tw_114 (Nat.le_of_ble_eq_true rfl) (Nat.le_of_ble_eq_true rfl) (Nat.le_of_ble_eq_true rfl) dX9_init_1 ?_
  refine j_aload_n h 0 rfl rfl dX9_init_4 ?_
  refine j_sipush (v := 1600) h (by decide) dX9_init_5 ?_
  refine j_newa (atype := .byte) (a0 := (1600, .inl (fun _ => 0))) h tw_148 rfl 0 rfl (fun _ => rfl) (by decide) (by decide) (by decide) (Nat.le_of_ble_eq_true rfl) (Nat.le_of_ble_eq_true rfl) dX9_init_8 (fun q1 => ?_)
  show J x [(h0, .inr (9, [.null, .int 0, .int 0, .int 0, .int 0, .long 0, .int 0])), (q1, .inl (kA 0, 1600, .inl (fun _ => 0)))] [(0, .ref h0)] 1 1600 10 [.ref q1, .ref h0]
  refine j_putF (ws' := [(h0, .inr (9, [.ref q1, .int 0, .int 0, .int 0, .int 0, .long 0, .int 0])), (q1, .inl (kA 0, 1600, .inl (fun _ => 0)))]) h iw_X9 tyX9 tyX9_ok nmX9 0 rfl rfl 0 (by decide) tw_121 rfl hnm rfl rfl rfl (Nat.le_of_ble_eq_true rfl) dX9_init_10 rfl ?_
  exact j_vret h hq dX9_init_13 q1 [0, 1] rfl rfl (by decide) trivial (Nat.le_of_ble_eq_true rfl) (Nat.le_of_ble_eq_true rfl)
set_option maxHeartbeats 4000000 in
set_option maxRecDepth 100000 in
theorem c_X9_hasRoomFor (l : Launch) (g : va_G) (kA : Nat → ClassId) (h0 : Nat) (b0 : Nat) (f : Nat → Int32) (k1 : Int32) (k2 : Int32) (k3 : Int32) (k4 : Int64) (k5 : Int32)  : CtI l yX9_hasRoomFor cX9_hasRoomFor 2 (some .boolean) 1 0 0 g kA [.ref h0, .int 20] [(h0, .inr (9, [.ref b0, .int 0, .int k1, .int k2, .int k3, .long k4, .int k5])), (b0, .inl (kA 0, 1600, .inl f))] (S := Unit) (fun (r : Int32) (_ : Unit) => r = 1) (fun (_ : Unit) => [(h0, .inr (9, [.ref b0, .int 0, .int k1, .int k2, .int k3, .long k4, .int k5])), (b0, .inl (kA 0, 1600, .inl f))]) := by
  refine nx_startI (by decide +kernel) (Nat.le_of_ble_eq_true rfl) ?_
  intro x hnm h hq
  have h : Ok x cX9_hasRoomFor RX9 kA (rmC 1 0 0) 2 := h
  show J x [(h0, .inr (9, [.ref b0, .int 0, .int k1, .int k2, .int k3, .long k4, .int k5])), (b0, .inl (kA 0, 1600, .inl f))] [(0, .ref h0), (1, .int 20)] 0 0 0 []
  refine j_aload_n h 0 rfl rfl dX9_hasRoomFor_0 ?_
  refine j_get h iw_X9 0 rfl rfl 1 (by decide) tw_122 rfl dX9_hasRoomFor_1 ?_
  refine j_iload_n h 1 rfl rfl dX9_hasRoomFor_4 ?_
  refine j_iadd h dX9_hasRoomFor_5 ?_
  refine j_top (b := 20) (by decide) ?_
  refine j_aload_n h 0 rfl rfl dX9_hasRoomFor_6 ?_
  refine j_get h iw_X9 0 rfl rfl 0 (by decide) tw_121 rfl dX9_hasRoomFor_7 ?_
  refine j_alen (v := 1600) h 1 0 rfl rfl rfl dX9_hasRoomFor_10 ?_
  refine j_icmp_gt h 18 dX9_hasRoomFor_11 (by decide) (fun q => absurd q (by decide)) (fun _ => ?_)
  refine j_iconst (v := 1) h (by decide) dX9_hasRoomFor_14 ?_
  refine j_goto h 19 dX9_hasRoomFor_15 (by decide) ?_
  exact j_zret h hq rfl dX9_hasRoomFor_19 () [0, 1] rfl rfl (by decide) (by first | rfl | simp only [↓reduceIte]) (Nat.le_of_ble_eq_true rfl) (Nat.le_of_ble_eq_true rfl)
end
section
theorem dX6_init_0 : decode cX6_init 0 = .ok (.aload_n 0, 1) := by decide +kernel
theorem dX6_init_1 : decode cX6_init 1 = .ok (.invokespecial 3, 3) := by decide +kernel
theorem tw_154 : Cond.methodLink RX6 3 objectInit ∈ TT := nx_mem 154 (by decide +kernel) (by decide +kernel)
theorem dX6_init_4 : decode cX6_init 4 = .ok (.aload_n 0, 1) := by decide +kernel
theorem dX6_init_5 : decode cX6_init 5 = .ok (.iconst (-1), 1) := by decide +kernel
theorem dX6_init_6 : decode cX6_init 6 = .ok (.putfield 9, 3) := by decide +kernel
theorem iw_X6 : ∀ w ∈ u_ws RX6 TX6 3, w ∈ TT := nx_mems _ [160, 162, 164] (by decide +kernel) (by decide +kernel)
theorem tw_157 : Cond.fieldLink RX6 9 "LimpCode$SchoolReader" "faultPlace" "I" ∈ TT := nx_mem 157 (by decide +kernel) (by decide +kernel)
theorem dX6_init_9 : decode cX6_init 9 = .ok (.return_, 1) := by decide +kernel
theorem dX5_init_0 : decode cX5_init 0 = .ok (.aload_n 0, 1) := by decide +kernel
theorem dX5_init_1 : decode cX5_init 1 = .ok (.invokespecial 3, 3) := by decide +kernel
theorem tw_172 : Cond.methodLink RX5 3 objectInit ∈ TT := nx_mem 172 (by decide +kernel) (by decide +kernel)
theorem dX5_init_4 : decode cX5_init 4 = .ok (.aload_n 0, 1) := by decide +kernel
theorem dX5_init_5 : decode cX5_init 5 = .ok (.bipush 6, 2) := by decide +kernel
theorem dX5_init_7 : decode cX5_init 7 = .ok (.newarray .long, 2) := by decide +kernel
theorem tw_263 : Cond.arrayClass .long ∈ TT := nx_mem 263 (by decide +kernel) (by decide +kernel)
theorem dX5_init_9 : decode cX5_init 9 = .ok (.putfield 9, 3) := by decide +kernel
theorem iw_X5 : ∀ w ∈ u_ws RX5 TX5 15, w ∈ TT := nx_mems _ [232, 234, 236, 238, 240, 242, 244, 246, 248, 250, 252, 254, 256, 258, 260] (by decide +kernel) (by decide +kernel)
theorem tw_175 : Cond.fieldLink RX5 9 "LimpCode$School" "stepNames" "[J" ∈ TT := nx_mem 175 (by decide +kernel) (by decide +kernel)
theorem dX5_init_12 : decode cX5_init 12 = .ok (.aload_n 0, 1) := by decide +kernel
theorem dX5_init_13 : decode cX5_init 13 = .ok (.bipush 6, 2) := by decide +kernel
theorem dX5_init_15 : decode cX5_init 15 = .ok (.newarray .int, 2) := by decide +kernel
theorem tw_264 : Cond.arrayClass .int ∈ TT := nx_mem 264 (by decide +kernel) (by decide +kernel)
theorem dX5_init_17 : decode cX5_init 17 = .ok (.putfield 15, 3) := by decide +kernel
theorem tw_177 : Cond.fieldLink RX5 15 "LimpCode$School" "takes" "[I" ∈ TT := nx_mem 177 (by decide +kernel) (by decide +kernel)
theorem dX5_init_20 : decode cX5_init 20 = .ok (.aload_n 0, 1) := by decide +kernel
theorem dX5_init_21 : decode cX5_init 21 = .ok (.bipush 6, 2) := by decide +kernel
theorem dX5_init_23 : decode cX5_init 23 = .ok (.newarray .int, 2) := by decide +kernel
theorem dX5_init_25 : decode cX5_init 25 = .ok (.putfield 19, 3) := by decide +kernel
theorem tw_182 : Cond.fieldLink RX5 19 "LimpCode$School" "toldLoud" "[I" ∈ TT := nx_mem 182 (by decide +kernel) (by decide +kernel)
theorem dX5_init_28 : decode cX5_init 28 = .ok (.aload_n 0, 1) := by decide +kernel
theorem dX5_init_29 : decode cX5_init 29 = .ok (.bipush 6, 2) := by decide +kernel
theorem dX5_init_31 : decode cX5_init 31 = .ok (.newarray .int, 2) := by decide +kernel
theorem dX5_init_33 : decode cX5_init 33 = .ok (.putfield 22, 3) := by decide +kernel
theorem tw_185 : Cond.fieldLink RX5 22 "LimpCode$School" "sides" "[I" ∈ TT := nx_mem 185 (by decide +kernel) (by decide +kernel)
theorem dX5_init_36 : decode cX5_init 36 = .ok (.aload_n 0, 1) := by decide +kernel
theorem dX5_init_37 : decode cX5_init 37 = .ok (.bipush 10, 2) := by decide +kernel
theorem dX5_init_39 : decode cX5_init 39 = .ok (.newarray .long, 2) := by decide +kernel
theorem dX5_init_41 : decode cX5_init 41 = .ok (.putfield 25, 3) := by decide +kernel
theorem tw_189 : Cond.fieldLink RX5 25 "LimpCode$School" "letterNames" "[J" ∈ TT := nx_mem 189 (by decide +kernel) (by decide +kernel)
theorem dX5_init_44 : decode cX5_init 44 = .ok (.aload_n 0, 1) := by decide +kernel
theorem dX5_init_45 : decode cX5_init 45 = .ok (.bipush 10, 2) := by decide +kernel
theorem dX5_init_47 : decode cX5_init 47 = .ok (.newarray .int, 2) := by decide +kernel
theorem dX5_init_49 : decode cX5_init 49 = .ok (.putfield 28, 3) := by decide +kernel
theorem tw_191 : Cond.fieldLink RX5 28 "LimpCode$School" "letterSizes" "[I" ∈ TT := nx_mem 191 (by decide +kernel) (by decide +kernel)
theorem dX5_init_52 : decode cX5_init 52 = .ok (.aload_n 0, 1) := by decide +kernel
theorem dX5_init_53 : decode cX5_init 53 = .ok (.bipush 10, 2) := by decide +kernel
theorem dX5_init_55 : decode cX5_init 55 = .ok (.iconst 5, 1) := by decide +kernel
theorem dX5_init_56 : decode cX5_init 56 = .ok (.multianewarray 31 2, 4) := by decide +kernel
theorem tw_173 : Cond.classLink RX5 31 "[[I" ∈ TT := nx_mem 173 (by decide +kernel) (by decide +kernel)
theorem dX5_init_60 : decode cX5_init 60 = .ok (.putfield 33, 3) := by decide +kernel
theorem tw_195 : Cond.fieldLink RX5 33 "LimpCode$School" "letterRows" "[[I" ∈ TT := nx_mem 195 (by decide +kernel) (by decide +kernel)
theorem dX5_init_63 : decode cX5_init 63 = .ok (.aload_n 0, 1) := by decide +kernel
theorem dX5_init_64 : decode cX5_init 64 = .ok (.bipush 10, 2) := by decide +kernel
theorem dX5_init_66 : decode cX5_init 66 = .ok (.newarray .int, 2) := by decide +kernel
theorem dX5_init_68 : decode cX5_init 68 = .ok (.putfield 36, 3) := by decide +kernel
theorem tw_199 : Cond.fieldLink RX5 36 "LimpCode$School" "letterTakes" "[I" ∈ TT := nx_mem 199 (by decide +kernel) (by decide +kernel)
theorem dX5_init_71 : decode cX5_init 71 = .ok (.aload_n 0, 1) := by decide +kernel
theorem dX5_init_72 : decode cX5_init 72 = .ok (.bipush 10, 2) := by decide +kernel
theorem dX5_init_74 : decode cX5_init 74 = .ok (.iconst 2, 1) := by decide +kernel
theorem dX5_init_75 : decode cX5_init 75 = .ok (.multianewarray 31 2, 4) := by decide +kernel
theorem dX5_init_79 : decode cX5_init 79 = .ok (.putfield 39, 3) := by decide +kernel
theorem tw_204 : Cond.fieldLink RX5 39 "LimpCode$School" "letterAfter" "[[I" ∈ TT := nx_mem 204 (by decide +kernel) (by decide +kernel)
theorem dX5_init_82 : decode cX5_init 82 = .ok (.aload_n 0, 1) := by decide +kernel
theorem dX5_init_83 : decode cX5_init 83 = .ok (.iconst 4, 1) := by decide +kernel
theorem dX5_init_84 : decode cX5_init 84 = .ok (.newarray .long, 2) := by decide +kernel
theorem dX5_init_86 : decode cX5_init 86 = .ok (.putfield 42, 3) := by decide +kernel
theorem tw_209 : Cond.fieldLink RX5 42 "LimpCode$School" "earNames" "[J" ∈ TT := nx_mem 209 (by decide +kernel) (by decide +kernel)
theorem dX5_init_89 : decode cX5_init 89 = .ok (.aload_n 0, 1) := by decide +kernel
theorem dX5_init_90 : decode cX5_init 90 = .ok (.iconst 4, 1) := by decide +kernel
theorem dX5_init_91 : decode cX5_init 91 = .ok (.newarray .int, 2) := by decide +kernel
theorem dX5_init_93 : decode cX5_init 93 = .ok (.putfield 45, 3) := by decide +kernel
theorem tw_211 : Cond.fieldLink RX5 45 "LimpCode$School" "floors" "[I" ∈ TT := nx_mem 211 (by decide +kernel) (by decide +kernel)
theorem dX5_init_96 : decode cX5_init 96 = .ok (.aload_n 0, 1) := by decide +kernel
theorem dX5_init_97 : decode cX5_init 97 = .ok (.iconst 4, 1) := by decide +kernel
theorem dX5_init_98 : decode cX5_init 98 = .ok (.newarray .int, 2) := by decide +kernel
theorem dX5_init_100 : decode cX5_init 100 = .ok (.putfield 48, 3) := by decide +kernel
theorem tw_213 : Cond.fieldLink RX5 48 "LimpCode$School" "books" "[I" ∈ TT := nx_mem 213 (by decide +kernel) (by decide +kernel)
theorem dX5_init_103 : decode cX5_init 103 = .ok (.return_, 1) := by decide +kernel
theorem dX2_init_0 : decode cX2_init 0 = .ok (.aload_n 0, 1) := by decide +kernel
theorem dX2_init_1 : decode cX2_init 1 = .ok (.invokespecial 3, 3) := by decide +kernel
theorem tw_270 : Cond.methodLink RX2 3 objectInit ∈ TT := nx_mem 270 (by decide +kernel) (by decide +kernel)
theorem dX2_init_4 : decode cX2_init 4 = .ok (.aload_n 0, 1) := by decide +kernel
theorem dX2_init_5 : decode cX2_init 5 = .ok (.bipush 60, 2) := by decide +kernel
theorem dX2_init_7 : decode cX2_init 7 = .ok (.newarray .int, 2) := by decide +kernel
theorem dX2_init_9 : decode cX2_init 9 = .ok (.putfield 9, 3) := by decide +kernel
theorem iw_X2 : ∀ w ∈ u_ws RX2 TX2 6, w ∈ TT := nx_mems _ [281, 283, 285, 287, 289, 291] (by decide +kernel) (by decide +kernel)
theorem tw_271 : Cond.fieldLink RX2 9 "LimpCode$Earnest" "row" "[I" ∈ TT := nx_mem 271 (by decide +kernel) (by decide +kernel)
theorem dX2_init_12 : decode cX2_init 12 = .ok (.aload_n 0, 1) := by decide +kernel
theorem dX2_init_13 : decode cX2_init 13 = .ok (.bipush 6, 2) := by decide +kernel
theorem dX2_init_15 : decode cX2_init 15 = .ok (.newarray .int, 2) := by decide +kernel
theorem dX2_init_17 : decode cX2_init 17 = .ok (.putfield 15, 3) := by decide +kernel
theorem tw_272 : Cond.fieldLink RX2 15 "LimpCode$Earnest" "loud" "[I" ∈ TT := nx_mem 272 (by decide +kernel) (by decide +kernel)
theorem dX2_init_20 : decode cX2_init 20 = .ok (.return_, 1) := by decide +kernel
theorem dX10_init_0 : decode cX10_init 0 = .ok (.aload_n 0, 1) := by decide +kernel
theorem dX10_init_1 : decode cX10_init 1 = .ok (.invokespecial 3, 3) := by decide +kernel
theorem tw_301 : Cond.methodLink RX10 3 objectInit ∈ TT := nx_mem 301 (by decide +kernel) (by decide +kernel)
theorem dX10_init_4 : decode cX10_init 4 = .ok (.aload_n 0, 1) := by decide +kernel
theorem dX10_init_5 : decode cX10_init 5 = .ok (.bipush 60, 2) := by decide +kernel
theorem dX10_init_7 : decode cX10_init 7 = .ok (.newarray .int, 2) := by decide +kernel
theorem dX10_init_9 : decode cX10_init 9 = .ok (.putfield 9, 3) := by decide +kernel
theorem iw_X10 : ∀ w ∈ u_ws RX10 TX10 4, w ∈ TT := nx_mems _ [312, 314, 316, 318] (by decide +kernel) (by decide +kernel)
theorem tw_302 : Cond.fieldLink RX10 9 "LimpCode$Text" "row" "[I" ∈ TT := nx_mem 302 (by decide +kernel) (by decide +kernel)
theorem dX10_init_12 : decode cX10_init 12 = .ok (.return_, 1) := by decide +kernel
theorem dX8_init_0 : decode cX8_init 0 = .ok (.aload_n 0, 1) := by decide +kernel
theorem dX8_init_1 : decode cX8_init 1 = .ok (.invokespecial 3, 3) := by decide +kernel
theorem tw_326 : Cond.methodLink RX8 3 objectInit ∈ TT := nx_mem 326 (by decide +kernel) (by decide +kernel)
theorem dX8_init_4 : decode cX8_init 4 = .ok (.aload_n 0, 1) := by decide +kernel
theorem dX8_init_5 : decode cX8_init 5 = .ok (.bipush 30, 2) := by decide +kernel
theorem dX8_init_7 : decode cX8_init 7 = .ok (.newarray .int, 2) := by decide +kernel
theorem dX8_init_9 : decode cX8_init 9 = .ok (.putfield 9, 3) := by decide +kernel
theorem iw_X8 : ∀ w ∈ u_ws RX8 TX8 7, w ∈ TT := nx_mems _ [335, 337, 339, 341, 343, 345, 347] (by decide +kernel) (by decide +kernel)
theorem tw_327 : Cond.fieldLink RX8 9 "LimpCode$Sounds" "ears" "[I" ∈ TT := nx_mem 327 (by decide +kernel) (by decide +kernel)
theorem dX8_init_12 : decode cX8_init 12 = .ok (.aload_n 0, 1) := by decide +kernel
theorem dX8_init_13 : decode cX8_init 13 = .ok (.bipush 30, 2) := by decide +kernel
theorem dX8_init_15 : decode cX8_init 15 = .ok (.newarray .int, 2) := by decide +kernel
theorem dX8_init_17 : decode cX8_init 17 = .ok (.putfield 15, 3) := by decide +kernel
theorem tw_328 : Cond.fieldLink RX8 15 "LimpCode$Sounds" "moments" "[I" ∈ TT := nx_mem 328 (by decide +kernel) (by decide +kernel)
theorem dX8_init_20 : decode cX8_init 20 = .ok (.aload_n 0, 1) := by decide +kernel
theorem dX8_init_21 : decode cX8_init 21 = .ok (.bipush 30, 2) := by decide +kernel
theorem dX8_init_23 : decode cX8_init 23 = .ok (.newarray .int, 2) := by decide +kernel
theorem dX8_init_25 : decode cX8_init 25 = .ok (.putfield 18, 3) := by decide +kernel
theorem tw_329 : Cond.fieldLink RX8 18 "LimpCode$Sounds" "leasts" "[I" ∈ TT := nx_mem 329 (by decide +kernel) (by decide +kernel)
theorem dX8_init_28 : decode cX8_init 28 = .ok (.aload_n 0, 1) := by decide +kernel
theorem dX8_init_29 : decode cX8_init 29 = .ok (.bipush 30, 2) := by decide +kernel
theorem dX8_init_31 : decode cX8_init 31 = .ok (.newarray .int, 2) := by decide +kernel
theorem dX8_init_33 : decode cX8_init 33 = .ok (.putfield 21, 3) := by decide +kernel
theorem tw_330 : Cond.fieldLink RX8 21 "LimpCode$Sounds" "mosts" "[I" ∈ TT := nx_mem 330 (by decide +kernel) (by decide +kernel)
theorem dX8_init_36 : decode cX8_init 36 = .ok (.aload_n 0, 1) := by decide +kernel
theorem dX8_init_37 : decode cX8_init 37 = .ok (.bipush 30, 2) := by decide +kernel
theorem dX8_init_39 : decode cX8_init 39 = .ok (.newarray .int, 2) := by decide +kernel
theorem dX8_init_41 : decode cX8_init 41 = .ok (.putfield 24, 3) := by decide +kernel
theorem tw_331 : Cond.fieldLink RX8 24 "LimpCode$Sounds" "toldAt" "[I" ∈ TT := nx_mem 331 (by decide +kernel) (by decide +kernel)
theorem dX8_init_44 : decode cX8_init 44 = .ok (.aload_n 0, 1) := by decide +kernel
theorem dX8_init_45 : decode cX8_init 45 = .ok (.bipush 30, 2) := by decide +kernel
theorem dX8_init_47 : decode cX8_init 47 = .ok (.newarray .int, 2) := by decide +kernel
theorem dX8_init_49 : decode cX8_init 49 = .ok (.putfield 27, 3) := by decide +kernel
theorem tw_332 : Cond.fieldLink RX8 27 "LimpCode$Sounds" "untoldAt" "[I" ∈ TT := nx_mem 332 (by decide +kernel) (by decide +kernel)
theorem dX8_init_52 : decode cX8_init 52 = .ok (.return_, 1) := by decide +kernel
theorem dX0_init_0 : decode cX0_init 0 = .ok (.aload_n 0, 1) := by decide +kernel
theorem dX0_init_1 : decode cX0_init 1 = .ok (.invokespecial 3, 3) := by decide +kernel
theorem tw_355 : Cond.methodLink RX0 3 objectInit ∈ TT := nx_mem 355 (by decide +kernel) (by decide +kernel)
theorem dX0_init_4 : decode cX0_init 4 = .ok (.aload_n 0, 1) := by decide +kernel
theorem dX0_init_5 : decode cX0_init 5 = .ok (.iconst 4, 1) := by decide +kernel
theorem dX0_init_6 : decode cX0_init 6 = .ok (.bipush 60, 2) := by decide +kernel
theorem dX0_init_8 : decode cX0_init 8 = .ok (.multianewarray 9 2, 4) := by decide +kernel
theorem tw_356 : Cond.classLink RX0 9 "[[I" ∈ TT := nx_mem 356 (by decide +kernel) (by decide +kernel)
theorem dX0_init_12 : decode cX0_init 12 = .ok (.putfield 11, 3) := by decide +kernel
theorem iw_X0 : ∀ w ∈ u_ws RX0 TX0 3, w ∈ TT := nx_mems _ [360, 362, 364] (by decide +kernel) (by decide +kernel)
theorem tw_357 : Cond.fieldLink RX0 11 "LimpCode$Bounds" "least" "[[I" ∈ TT := nx_mem 357 (by decide +kernel) (by decide +kernel)
theorem dX0_init_15 : decode cX0_init 15 = .ok (.aload_n 0, 1) := by decide +kernel
theorem dX0_init_16 : decode cX0_init 16 = .ok (.iconst 4, 1) := by decide +kernel
theorem dX0_init_17 : decode cX0_init 17 = .ok (.bipush 60, 2) := by decide +kernel
theorem dX0_init_19 : decode cX0_init 19 = .ok (.multianewarray 9 2, 4) := by decide +kernel
theorem dX0_init_23 : decode cX0_init 23 = .ok (.putfield 16, 3) := by decide +kernel
theorem tw_358 : Cond.fieldLink RX0 16 "LimpCode$Bounds" "most" "[[I" ∈ TT := nx_mem 358 (by decide +kernel) (by decide +kernel)
theorem dX0_init_26 : decode cX0_init 26 = .ok (.aload_n 0, 1) := by decide +kernel
theorem dX0_init_27 : decode cX0_init 27 = .ok (.iconst 4, 1) := by decide +kernel
theorem dX0_init_28 : decode cX0_init 28 = .ok (.newarray .boolean, 2) := by decide +kernel
theorem tw_367 : Cond.arrayClass .boolean ∈ TT := nx_mem 367 (by decide +kernel) (by decide +kernel)
theorem dX0_init_30 : decode cX0_init 30 = .ok (.putfield 19, 3) := by decide +kernel
theorem tw_359 : Cond.fieldLink RX0 19 "LimpCode$Bounds" "narrowed" "[Z" ∈ TT := nx_mem 359 (by decide +kernel) (by decide +kernel)
theorem dX0_init_33 : decode cX0_init 33 = .ok (.return_, 1) := by decide +kernel
theorem dX4_init_0 : decode cX4_init 0 = .ok (.aload_n 0, 1) := by decide +kernel
theorem dX4_init_1 : decode cX4_init 1 = .ok (.invokespecial 3, 3) := by decide +kernel
theorem tw_419 : Cond.methodLink RX4 3 objectInit ∈ TT := nx_mem 419 (by decide +kernel) (by decide +kernel)
theorem dX4_init_4 : decode cX4_init 4 = .ok (.aload_n 0, 1) := by decide +kernel
theorem dX4_init_5 : decode cX4_init 5 = .ok (.bipush 10, 2) := by decide +kernel
theorem dX4_init_7 : decode cX4_init 7 = .ok (.bipush 45, 2) := by decide +kernel
theorem dX4_init_9 : decode cX4_init 9 = .ok (.multianewarray 11 2, 4) := by decide +kernel
theorem tw_420 : Cond.classLink RX4 11 "[[I" ∈ TT := nx_mem 420 (by decide +kernel) (by decide +kernel)
theorem dX4_init_13 : decode cX4_init 13 = .ok (.putfield 13, 3) := by decide +kernel
theorem iw_X4 : ∀ w ∈ u_ws RX4 TX4 5, w ∈ TT := nx_mems _ [426, 428, 430, 432, 434] (by decide +kernel) (by decide +kernel)
theorem tw_421 : Cond.fieldLink RX4 13 "LimpCode$Listener" "letterSounds" "[[I" ∈ TT := nx_mem 421 (by decide +kernel) (by decide +kernel)
theorem dX4_init_16 : decode cX4_init 16 = .ok (.aload_n 0, 1) := by decide +kernel
theorem dX4_init_17 : decode cX4_init 17 = .ok (.bipush 6, 2) := by decide +kernel
theorem dX4_init_19 : decode cX4_init 19 = .ok (.newarray .int, 2) := by decide +kernel
theorem dX4_init_21 : decode cX4_init 21 = .ok (.putfield 16, 3) := by decide +kernel
theorem tw_422 : Cond.fieldLink RX4 16 "LimpCode$Listener" "stepSounds" "[I" ∈ TT := nx_mem 422 (by decide +kernel) (by decide +kernel)
theorem dX4_init_24 : decode cX4_init 24 = .ok (.aload_n 0, 1) := by decide +kernel
theorem dX4_init_25 : decode cX4_init 25 = .ok (.bipush 60, 2) := by decide +kernel
theorem dX4_init_27 : decode cX4_init 27 = .ok (.newarray .int, 2) := by decide +kernel
theorem dX4_init_29 : decode cX4_init 29 = .ok (.putfield 20, 3) := by decide +kernel
theorem tw_423 : Cond.fieldLink RX4 20 "LimpCode$Listener" "heardSoFar" "[I" ∈ TT := nx_mem 423 (by decide +kernel) (by decide +kernel)
theorem dX4_init_32 : decode cX4_init 32 = .ok (.aload_n 0, 1) := by decide +kernel
theorem dX4_init_33 : decode cX4_init 33 = .ok (.iconst 2, 1) := by decide +kernel
theorem dX4_init_34 : decode cX4_init 34 = .ok (.newarray .long, 2) := by decide +kernel
theorem dX4_init_36 : decode cX4_init 36 = .ok (.putfield 23, 3) := by decide +kernel
theorem tw_424 : Cond.fieldLink RX4 23 "LimpCode$Listener" "read" "[J" ∈ TT := nx_mem 424 (by decide +kernel) (by decide +kernel)
theorem dX4_init_39 : decode cX4_init 39 = .ok (.return_, 1) := by decide +kernel
theorem dX7_init_0 : decode cX7_init 0 = .ok (.aload_n 0, 1) := by decide +kernel
theorem dX7_init_1 : decode cX7_init 1 = .ok (.invokespecial 3, 3) := by decide +kernel
theorem tw_442 : Cond.methodLink RX7 3 objectInit ∈ TT := nx_mem 442 (by decide +kernel) (by decide +kernel)
theorem dX7_init_4 : decode cX7_init 4 = .ok (.aload_n 0, 1) := by decide +kernel
theorem dX7_init_5 : decode cX7_init 5 = .ok (.bipush 61, 2) := by decide +kernel
theorem dX7_init_7 : decode cX7_init 7 = .ok (.newarray .int, 2) := by decide +kernel
theorem dX7_init_9 : decode cX7_init 9 = .ok (.putfield 9, 3) := by decide +kernel
theorem iw_X7 : ∀ w ∈ u_ws RX7 TX7 4, w ∈ TT := nx_mems _ [447, 449, 451, 453] (by decide +kernel) (by decide +kernel)
theorem tw_443 : Cond.fieldLink RX7 9 "LimpCode$SecretSearch" "walk" "[I" ∈ TT := nx_mem 443 (by decide +kernel) (by decide +kernel)
theorem dX7_init_12 : decode cX7_init 12 = .ok (.aload_n 0, 1) := by decide +kernel
theorem dX7_init_13 : decode cX7_init 13 = .ok (.bipush 61, 2) := by decide +kernel
theorem dX7_init_15 : decode cX7_init 15 = .ok (.newarray .int, 2) := by decide +kernel
theorem dX7_init_17 : decode cX7_init 17 = .ok (.putfield 15, 3) := by decide +kernel
theorem tw_444 : Cond.fieldLink RX7 15 "LimpCode$SecretSearch" "begins" "[I" ∈ TT := nx_mem 444 (by decide +kernel) (by decide +kernel)
theorem dX7_init_20 : decode cX7_init 20 = .ok (.aload_n 0, 1) := by decide +kernel
theorem dX7_init_21 : decode cX7_init 21 = .ok (.bipush 61, 2) := by decide +kernel
theorem dX7_init_23 : decode cX7_init 23 = .ok (.newarray .int, 2) := by decide +kernel
theorem dX7_init_25 : decode cX7_init 25 = .ok (.putfield 18, 3) := by decide +kernel
theorem tw_445 : Cond.fieldLink RX7 18 "LimpCode$SecretSearch" "feet" "[I" ∈ TT := nx_mem 445 (by decide +kernel) (by decide +kernel)
theorem dX7_init_28 : decode cX7_init 28 = .ok (.return_, 1) := by decide +kernel
theorem dX1_init_0 : decode cX1_init 0 = .ok (.aload_n 0, 1) := by decide +kernel
theorem dX1_init_1 : decode cX1_init 1 = .ok (.invokespecial 3, 3) := by decide +kernel
theorem tw_461 : Cond.methodLink RX1 3 objectInit ∈ TT := nx_mem 461 (by decide +kernel) (by decide +kernel)
theorem dX1_init_4 : decode cX1_init 4 = .ok (.aload_n 0, 1) := by decide +kernel
theorem dX1_init_5 : decode cX1_init 5 = .ok (.bipush 10, 2) := by decide +kernel
theorem dX1_init_7 : decode cX1_init 7 = .ok (.newarray .int, 2) := by decide +kernel
theorem dX1_init_9 : decode cX1_init 9 = .ok (.putfield 9, 3) := by decide +kernel
theorem iw_X1 : ∀ w ∈ u_ws RX1 TX1 4, w ∈ TT := nx_mems _ [466, 468, 470, 472] (by decide +kernel) (by decide +kernel)
theorem tw_462 : Cond.fieldLink RX1 9 "LimpCode$Deal" "uses" "[I" ∈ TT := nx_mem 462 (by decide +kernel) (by decide +kernel)
theorem dX1_init_12 : decode cX1_init 12 = .ok (.aload_n 0, 1) := by decide +kernel
theorem dX1_init_13 : decode cX1_init 13 = .ok (.bipush 10, 2) := by decide +kernel
theorem dX1_init_15 : decode cX1_init 15 = .ok (.newarray .int, 2) := by decide +kernel
theorem dX1_init_17 : decode cX1_init 17 = .ok (.putfield 15, 3) := by decide +kernel
theorem tw_463 : Cond.fieldLink RX1 15 "LimpCode$Deal" "restUses" "[I" ∈ TT := nx_mem 463 (by decide +kernel) (by decide +kernel)
theorem dX1_init_20 : decode cX1_init 20 = .ok (.aload_n 0, 1) := by decide +kernel
theorem dX1_init_21 : decode cX1_init 21 = .ok (.bipush 10, 2) := by decide +kernel
theorem dX1_init_23 : decode cX1_init 23 = .ok (.newarray .int, 2) := by decide +kernel
theorem dX1_init_25 : decode cX1_init 25 = .ok (.putfield 18, 3) := by decide +kernel
theorem tw_464 : Cond.fieldLink RX1 18 "LimpCode$Deal" "restTakes" "[I" ∈ TT := nx_mem 464 (by decide +kernel) (by decide +kernel)
theorem dX1_init_28 : decode cX1_init 28 = .ok (.aload_n 0, 1) := by decide +kernel
theorem dX1_init_29 : decode cX1_init 29 = .ok (.bipush 10, 2) := by decide +kernel
theorem dX1_init_31 : decode cX1_init 31 = .ok (.newarray .boolean, 2) := by decide +kernel
theorem dX1_init_33 : decode cX1_init 33 = .ok (.putfield 21, 3) := by decide +kernel
theorem tw_465 : Cond.fieldLink RX1 21 "LimpCode$Deal" "given" "[Z" ∈ TT := nx_mem 465 (by decide +kernel) (by decide +kernel)
theorem dX1_init_36 : decode cX1_init 36 = .ok (.return_, 1) := by decide +kernel
theorem dX3_init_0 : decode cX3_init 0 = .ok (.aload_n 0, 1) := by decide +kernel
theorem dX3_init_1 : decode cX3_init 1 = .ok (.invokespecial 3, 3) := by decide +kernel
theorem tw_373 : Cond.methodLink RX3 3 objectInit ∈ TT := nx_mem 373 (by decide +kernel) (by decide +kernel)
theorem dX3_init_4 : decode cX3_init 4 = .ok (.aload_n 0, 1) := by decide +kernel
theorem dX3_init_5 : decode cX3_init 5 = .ok (.bipush 8, 2) := by decide +kernel
theorem dX3_init_7 : decode cX3_init 7 = .ok (.bipush 61, 2) := by decide +kernel
theorem dX3_init_9 : decode cX3_init 9 = .ok (.multianewarray 9 2, 4) := by decide +kernel
theorem tw_374 : Cond.classLink RX3 9 "[[J" ∈ TT := nx_mem 374 (by decide +kernel) (by decide +kernel)
theorem dX3_init_13 : decode cX3_init 13 = .ok (.putfield 11, 3) := by decide +kernel
theorem iw_X3 : ∀ w ∈ u_ws RX3 TX3 11, w ∈ TT := nx_mems _ [391, 393, 395, 397, 399, 401, 403, 405, 407, 409, 411] (by decide +kernel) (by decide +kernel)
theorem tw_382 : Cond.fieldLink RX3 11 "LimpCode$Grid" "ways" "[[J" ∈ TT := nx_mem 382 (by decide +kernel) (by decide +kernel)
theorem dX3_init_16 : decode cX3_init 16 = .ok (.aload_n 0, 1) := by decide +kernel
theorem dX3_init_17 : decode cX3_init 17 = .ok (.iconst 2, 1) := by decide +kernel
theorem dX3_init_18 : decode cX3_init 18 = .ok (.newarray .long, 2) := by decide +kernel
theorem dX3_init_20 : decode cX3_init 20 = .ok (.putfield 16, 3) := by decide +kernel
theorem tw_384 : Cond.fieldLink RX3 16 "LimpCode$Grid" "alive" "[J" ∈ TT := nx_mem 384 (by decide +kernel) (by decide +kernel)
theorem dX3_init_23 : decode cX3_init 23 = .ok (.aload_n 0, 1) := by decide +kernel
theorem dX3_init_24 : decode cX3_init 24 = .ok (.iconst 2, 1) := by decide +kernel
theorem dX3_init_25 : decode cX3_init 25 = .ok (.newarray .long, 2) := by decide +kernel
theorem dX3_init_27 : decode cX3_init 27 = .ok (.putfield 20, 3) := by decide +kernel
theorem tw_385 : Cond.fieldLink RX3 20 "LimpCode$Grid" "reached" "[J" ∈ TT := nx_mem 385 (by decide +kernel) (by decide +kernel)
theorem dX3_init_30 : decode cX3_init 30 = .ok (.aload_n 0, 1) := by decide +kernel
theorem dX3_init_31 : decode cX3_init 31 = .ok (.iconst 2, 1) := by decide +kernel
theorem dX3_init_32 : decode cX3_init 32 = .ok (.newarray .long, 2) := by decide +kernel
theorem dX3_init_34 : decode cX3_init 34 = .ok (.putfield 23, 3) := by decide +kernel
theorem tw_386 : Cond.fieldLink RX3 23 "LimpCode$Grid" "reachedNext" "[J" ∈ TT := nx_mem 386 (by decide +kernel) (by decide +kernel)
theorem dX3_init_37 : decode cX3_init 37 = .ok (.aload_n 0, 1) := by decide +kernel
theorem dX3_init_38 : decode cX3_init 38 = .ok (.iload_n 1, 1) := by decide +kernel
theorem dX3_init_39 : decode cX3_init 39 = .ok (.newarray .int, 2) := by decide +kernel
theorem dX3_init_41 : decode cX3_init 41 = .ok (.putfield 26, 3) := by decide +kernel
theorem tw_377 : Cond.fieldLink RX3 26 "LimpCode$Grid" "takes" "[I" ∈ TT := nx_mem 377 (by decide +kernel) (by decide +kernel)
theorem dX3_init_44 : decode cX3_init 44 = .ok (.aload_n 0, 1) := by decide +kernel
theorem dX3_init_45 : decode cX3_init 45 = .ok (.iload_n 1, 1) := by decide +kernel
theorem dX3_init_46 : decode cX3_init 46 = .ok (.iconst 2, 1) := by decide +kernel
theorem dX3_init_47 : decode cX3_init 47 = .ok (.multianewarray 30 2, 4) := by decide +kernel
theorem tw_376 : Cond.classLink RX3 30 "[[I" ∈ TT := nx_mem 376 (by decide +kernel) (by decide +kernel)
theorem dX3_init_51 : decode cX3_init 51 = .ok (.putfield 32, 3) := by decide +kernel
theorem tw_379 : Cond.fieldLink RX3 32 "LimpCode$Grid" "after" "[[I" ∈ TT := nx_mem 379 (by decide +kernel) (by decide +kernel)
theorem dX3_init_54 : decode cX3_init 54 = .ok (.aload_n 0, 1) := by decide +kernel
theorem dX3_init_55 : decode cX3_init 55 = .ok (.iload_n 1, 1) := by decide +kernel
theorem dX3_init_56 : decode cX3_init 56 = .ok (.bipush 60, 2) := by decide +kernel
theorem dX3_init_58 : decode cX3_init 58 = .ok (.multianewarray 30 2, 4) := by decide +kernel
theorem dX3_init_62 : decode cX3_init 62 = .ok (.putfield 35, 3) := by decide +kernel
theorem tw_381 : Cond.fieldLink RX3 35 "LimpCode$Grid" "cost" "[[I" ∈ TT := nx_mem 381 (by decide +kernel) (by decide +kernel)
theorem dX3_init_65 : decode cX3_init 65 = .ok (.aload_n 0, 1) := by decide +kernel
theorem dX3_init_66 : decode cX3_init 66 = .ok (.iload_n 1, 1) := by decide +kernel
theorem dX3_init_67 : decode cX3_init 67 = .ok (.newarray .long, 2) := by decide +kernel
theorem dX3_init_69 : decode cX3_init 69 = .ok (.putfield 38, 3) := by decide +kernel
theorem tw_383 : Cond.fieldLink RX3 38 "LimpCode$Grid" "fits" "[J" ∈ TT := nx_mem 383 (by decide +kernel) (by decide +kernel)
theorem dX3_init_72 : decode cX3_init 72 = .ok (.return_, 1) := by decide +kernel
set_option maxHeartbeats 4000000 in
set_option maxRecDepth 100000 in
theorem c_X6_init (l : Launch) (g : va_G) (kA : Nat → ClassId) (h0 : Nat)  : CtV l yX6_init cX6_init 1 (none) 1 0 0 g kA [.ref h0] [(h0, .inr (6, [.int 0, .int 0, .int 0]))] (S := Unit) (fun (_ : Unit) => True) (fun (_ : Unit) => [(h0, .inr (6, [.int 0, .int (-1), .int 0]))]) := by
  refine nx_startV (by decide +kernel) (Nat.le_of_ble_eq_true rfl) ?_
  intro x hnm h hq
  have h : Ok x cX6_init RX6 kA (rmC 1 0 0) 1 := h
  show J x [(h0, .inr (6, [.int 0, .int 0, .int 0]))] [(0, .ref h0)] 0 0 0 []
  refine j_aload_n h 0 rfl rfl dX6_init_0 ?_
  refine j_objInit h tw_154 tw_113 tw_114 (Nat.le_of_ble_eq_true rfl) (Nat.le_of_ble_eq_true rfl) (Nat.le_of_ble_eq_true rfl) dX6_init_1 ?_
  refine j_aload_n h 0 rfl rfl dX6_init_4 ?_
  refine j_iconst (v := (-1)) h (by decide) dX6_init_5 ?_
  refine j_put (ws' := [(h0, .inr (6, [.int 0, .int (-1), .int 0]))]) h iw_X6 tyX6 tyX6_ok nmX6 0 rfl rfl 1 (by decide) tw_157 rfl rfl rfl (Nat.le_of_ble_eq_true rfl) dX6_init_6 rfl ?_
  exact j_vret h hq dX6_init_9 () [0] rfl rfl (by decide) trivial (Nat.le_of_ble_eq_true rfl) (Nat.le_of_ble_eq_true rfl)
set_option maxHeartbeats 4000000 in
set_option maxRecDepth 100000 in
theorem c_X5_init (l : Launch) (g : va_G) (kA : Nat → ClassId) (h0 : Nat)  : CtV l yX5_init cX5_init 1 (none) 1 32 156 g kA [.ref h0] [(h0, .inr (5, [.null, .null, .null, .null, .null, .null, .null, .null, .null, .null, .null, .null, .int 0, .int 0, .int 0]))] (S := Nat × Nat × Nat × Nat × Nat × Nat × Nat × Nat × Nat × Nat × Nat × Nat) (fun ((a0, a1, a2, a3, a4, a5, a6, a7, a8, a9, a10, a11) : Nat × Nat × Nat × Nat × Nat × Nat × Nat × Nat × Nat × Nat × Nat × Nat) => True) (fun ((a0, a1, a2, a3, a4, a5, a6, a7, a8, a9, a10, a11) : Nat × Nat × Nat × Nat × Nat × Nat × Nat × Nat × Nat × Nat × Nat × Nat) => [(h0, .inr (5, [.ref a0, .ref a1, .ref a2, .ref a3, .ref a4, .ref a5, .ref a6, .ref a7, .ref a8, .ref a9, .ref a10, .ref a11, .int 0, .int 0, .int 0])), (a2, .inl (kA 1, 6, .inl (fun _ => 0)))]) := by
  refine nx_startV (by decide +kernel) (Nat.le_of_ble_eq_true rfl) ?_
  intro x hnm h hq
  have h : Ok x cX5_init RX5 kA (rmC 1 32 156) 1 := h
  show J x [(h0, .inr (5, [.null, .null, .null, .null, .null, .null, .null, .null, .null, .null, .null, .null, .int 0, .int 0, .int 0]))] [(0, .ref h0)] 0 0 0 []
  refine j_aload_n h 0 rfl rfl dX5_init_0 ?_
  refine j_objInit h tw_172 tw_113 tw_114 (Nat.le_of_ble_eq_true rfl) (Nat.le_of_ble_eq_true rfl) (Nat.le_of_ble_eq_true rfl) dX5_init_1 ?_
  refine j_aload_n h 0 rfl rfl dX5_init_4 ?_
  refine j_bipush (v := 6) h (by decide) dX5_init_5 ?_
  refine j_newa (atype := .long) (a0 := (6, .inr (.inl (fun _ => 0)))) h tw_263 rfl 2 rfl (fun _ => rfl) (by decide) (by decide) (by decide) (Nat.le_of_ble_eq_true rfl) (Nat.le_of_ble_eq_true rfl) dX5_init_7 (fun q2 => ?_)
  show J x [(h0, .inr (5, [.null, .null, .null, .null, .null, .null, .null, .null, .null, .null, .null, .null, .int 0, .int 0, .int 0])), (q2, .inl (kA 2, 6, .inr (.inl (fun _ => 0))))] [(0, .ref h0)] 1 6 9 [.ref q2, .ref h0]
  refine j_putF (ws' := [(h0, .inr (5, [.ref q2, .null, .null, .null, .null, .null, .null, .null, .null, .null, .null, .null, .int 0, .int 0, .int 0])), (q2, .inl (kA 2, 6, .inr (.inl (fun _ => 0))))]) h iw_X5 tyX5 tyX5_ok nmX5 0 rfl rfl 0 (by decide) tw_175 rfl hnm rfl rfl rfl (Nat.le_of_ble_eq_true rfl) dX5_init_9 rfl ?_
  refine j_aload_n h 0 rfl rfl dX5_init_12 ?_
  refine j_bipush (v := 6) h (by decide) dX5_init_13 ?_
  refine j_newa (atype := .int) (a0 := (6, .inl (fun _ => 0))) h tw_264 rfl 1 rfl (fun _ => rfl) (by decide) (by decide) (by decide) (Nat.le_of_ble_eq_true rfl) (Nat.le_of_ble_eq_true rfl) dX5_init_15 (fun q3 => ?_)
  show J x [(h0, .inr (5, [.ref q2, .null, .null, .null, .null, .null, .null, .null, .null, .null, .null, .null, .int 0, .int 0, .int 0])), (q2, .inl (kA 2, 6, .inr (.inl (fun _ => 0)))), (q3, .inl (kA 1, 6, .inl (fun _ => 0)))] [(0, .ref h0)] 2 12 17 [.ref q3, .ref h0]
  refine j_putF (ws' := [(h0, .inr (5, [.ref q2, .ref q3, .null, .null, .null, .null, .null, .null, .null, .null, .null, .null, .int 0, .int 0, .int 0])), (q2, .inl (kA 2, 6, .inr (.inl (fun _ => 0)))), (q3, .inl (kA 1, 6, .inl (fun _ => 0)))]) h iw_X5 tyX5 tyX5_ok nmX5 0 rfl rfl 1 (by decide) tw_177 rfl hnm rfl rfl rfl (Nat.le_of_ble_eq_true rfl) dX5_init_17 rfl ?_
  refine j_aload_n h 0 rfl rfl dX5_init_20 ?_
  refine j_bipush (v := 6) h (by decide) dX5_init_21 ?_
  refine j_newa (atype := .int) (a0 := (6, .inl (fun _ => 0))) h tw_264 rfl 1 rfl (fun _ => rfl) (by decide) (by decide) (by decide) (Nat.le_of_ble_eq_true rfl) (Nat.le_of_ble_eq_true rfl) dX5_init_23 (fun q4 => ?_)
  show J x [(h0, .inr (5, [.ref q2, .ref q3, .null, .null, .null, .null, .null, .null, .null, .null, .null, .null, .int 0, .int 0, .int 0])), (q2, .inl (kA 2, 6, .inr (.inl (fun _ => 0)))), (q3, .inl (kA 1, 6, .inl (fun _ => 0))), (q4, .inl (kA 1, 6, .inl (fun _ => 0)))] [(0, .ref h0)] 3 18 25 [.ref q4, .ref h0]
  refine j_putF (ws' := [(h0, .inr (5, [.ref q2, .ref q3, .ref q4, .null, .null, .null, .null, .null, .null, .null, .null, .null, .int 0, .int 0, .int 0])), (q2, .inl (kA 2, 6, .inr (.inl (fun _ => 0)))), (q3, .inl (kA 1, 6, .inl (fun _ => 0))), (q4, .inl (kA 1, 6, .inl (fun _ => 0)))]) h iw_X5 tyX5 tyX5_ok nmX5 0 rfl rfl 2 (by decide) tw_182 rfl hnm rfl rfl rfl (Nat.le_of_ble_eq_true rfl) dX5_init_25 rfl ?_
  refine j_aload_n h 0 rfl rfl dX5_init_28 ?_
  refine j_bipush (v := 6) h (by decide) dX5_init_29 ?_
  refine j_newa (atype := .int) (a0 := (6, .inl (fun _ => 0))) h tw_264 rfl 1 rfl (fun _ => rfl) (by decide) (by decide) (by decide) (Nat.le_of_ble_eq_true rfl) (Nat.le_of_ble_eq_true rfl) dX5_init_31 (fun q5 => ?_)
  show J x [(h0, .inr (5, [.ref q2, .ref q3, .ref q4, .null, .null, .null, .null, .null, .null, .null, .null, .null, .int 0, .int 0, .int 0])), (q2, .inl (kA 2, 6, .inr (.inl (fun _ => 0)))), (q3, .inl (kA 1, 6, .inl (fun _ => 0))), (q4, .inl (kA 1, 6, .inl (fun _ => 0))), (q5, .inl (kA 1, 6, .inl (fun _ => 0)))] [(0, .ref h0)] 4 24 33 [.ref q5, .ref h0]
  refine j_putF (ws' := [(h0, .inr (5, [.ref q2, .ref q3, .ref q4, .ref q5, .null, .null, .null, .null, .null, .null, .null, .null, .int 0, .int 0, .int 0])), (q2, .inl (kA 2, 6, .inr (.inl (fun _ => 0)))), (q3, .inl (kA 1, 6, .inl (fun _ => 0))), (q4, .inl (kA 1, 6, .inl (fun _ => 0))), (q5, .inl (kA 1, 6, .inl (fun _ => 0)))]) h iw_X5 tyX5 tyX5_ok nmX5 0 rfl rfl 3 (by decide) tw_185 rfl hnm rfl rfl rfl (Nat.le_of_ble_eq_true rfl) dX5_init_33 rfl ?_
  refine j_aload_n h 0 rfl rfl dX5_init_36 ?_
  refine j_bipush (v := 10) h (by decide) dX5_init_37 ?_
  refine j_newa (atype := .long) (a0 := (10, .inr (.inl (fun _ => 0)))) h tw_263 rfl 2 rfl (fun _ => rfl) (by decide) (by decide) (by decide) (Nat.le_of_ble_eq_true rfl) (Nat.le_of_ble_eq_true rfl) dX5_init_39 (fun q6 => ?_)
  show J x [(h0, .inr (5, [.ref q2, .ref q3, .ref q4, .ref q5, .null, .null, .null, .null, .null, .null, .null, .null, .int 0, .int 0, .int 0])), (q2, .inl (kA 2, 6, .inr (.inl (fun _ => 0)))), (q3, .inl (kA 1, 6, .inl (fun _ => 0))), (q4, .inl (kA 1, 6, .inl (fun _ => 0))), (q5, .inl (kA 1, 6, .inl (fun _ => 0))), (q6, .inl (kA 2, 10, .inr (.inl (fun _ => 0))))] [(0, .ref h0)] 5 34 41 [.ref q6, .ref h0]
  refine j_putF (ws' := [(h0, .inr (5, [.ref q2, .ref q3, .ref q4, .ref q5, .ref q6, .null, .null, .null, .null, .null, .null, .null, .int 0, .int 0, .int 0])), (q2, .inl (kA 2, 6, .inr (.inl (fun _ => 0)))), (q3, .inl (kA 1, 6, .inl (fun _ => 0))), (q4, .inl (kA 1, 6, .inl (fun _ => 0))), (q5, .inl (kA 1, 6, .inl (fun _ => 0))), (q6, .inl (kA 2, 10, .inr (.inl (fun _ => 0))))]) h iw_X5 tyX5 tyX5_ok nmX5 0 rfl rfl 4 (by decide) tw_189 rfl hnm rfl rfl rfl (Nat.le_of_ble_eq_true rfl) dX5_init_41 rfl ?_
  refine j_aload_n h 0 rfl rfl dX5_init_44 ?_
  refine j_bipush (v := 10) h (by decide) dX5_init_45 ?_
  refine j_newa (atype := .int) (a0 := (10, .inl (fun _ => 0))) h tw_264 rfl 1 rfl (fun _ => rfl) (by decide) (by decide) (by decide) (Nat.le_of_ble_eq_true rfl) (Nat.le_of_ble_eq_true rfl) dX5_init_47 (fun q7 => ?_)
  show J x [(h0, .inr (5, [.ref q2, .ref q3, .ref q4, .ref q5, .ref q6, .null, .null, .null, .null, .null, .null, .null, .int 0, .int 0, .int 0])), (q2, .inl (kA 2, 6, .inr (.inl (fun _ => 0)))), (q3, .inl (kA 1, 6, .inl (fun _ => 0))), (q4, .inl (kA 1, 6, .inl (fun _ => 0))), (q5, .inl (kA 1, 6, .inl (fun _ => 0))), (q6, .inl (kA 2, 10, .inr (.inl (fun _ => 0)))), (q7, .inl (kA 1, 10, .inl (fun _ => 0)))] [(0, .ref h0)] 6 44 49 [.ref q7, .ref h0]
  refine j_putF (ws' := [(h0, .inr (5, [.ref q2, .ref q3, .ref q4, .ref q5, .ref q6, .ref q7, .null, .null, .null, .null, .null, .null, .int 0, .int 0, .int 0])), (q2, .inl (kA 2, 6, .inr (.inl (fun _ => 0)))), (q3, .inl (kA 1, 6, .inl (fun _ => 0))), (q4, .inl (kA 1, 6, .inl (fun _ => 0))), (q5, .inl (kA 1, 6, .inl (fun _ => 0))), (q6, .inl (kA 2, 10, .inr (.inl (fun _ => 0)))), (q7, .inl (kA 1, 10, .inl (fun _ => 0)))]) h iw_X5 tyX5 tyX5_ok nmX5 0 rfl rfl 5 (by decide) tw_191 rfl hnm rfl rfl rfl (Nat.le_of_ble_eq_true rfl) dX5_init_49 rfl ?_
  refine j_aload_n h 0 rfl rfl dX5_init_52 ?_
  refine j_bipush (v := 10) h (by decide) dX5_init_53 ?_
  refine j_iconst (v := 5) h (by decide) dX5_init_55 ?_
  refine j_multi (ty := .int) (cO := kA 6) (cy := kA 1) (N' := 10) (K' := 5) (z := (5, .inl (fun _ => 0))) h tw_173 h.nw.2.2.2.1 tw_264 (h.kk.2 6 _ rfl).2 (h.kk.2 1 _ rfl).2 (by decide) (by decide) (by decide) (by decide) (by decide) rfl (Nat.le_of_ble_eq_true rfl) (Nat.le_of_ble_eq_true rfl) (fun _ => rfl) dX5_init_56 (fun q8 => ?_)
  refine j_sub [0, 1, 2, 3, 4, 5, 6, 7] (ws' := [(h0, .inr (5, [.ref q2, .ref q3, .ref q4, .ref q5, .ref q6, .ref q7, .null, .null, .null, .null, .null, .null, .int 0, .int 0, .int 0])), (q2, .inl (kA 2, 6, .inr (.inl (fun _ => 0)))), (q3, .inl (kA 1, 6, .inl (fun _ => 0))), (q4, .inl (kA 1, 6, .inl (fun _ => 0))), (q5, .inl (kA 1, 6, .inl (fun _ => 0))), (q6, .inl (kA 2, 10, .inr (.inl (fun _ => 0)))), (q7, .inl (kA 1, 10, .inl (fun _ => 0))), (q8, .inl (kA 6, 10, .inr (.inr (.inr (.inr (nx_q q8 10))))))]) rfl rfl (by decide) [0] (lv' := [(0, .ref h0)]) rfl ?_
  show J x [(h0, .inr (5, [.ref q2, .ref q3, .ref q4, .ref q5, .ref q6, .ref q7, .null, .null, .null, .null, .null, .null, .int 0, .int 0, .int 0])), (q2, .inl (kA 2, 6, .inr (.inl (fun _ => 0)))), (q3, .inl (kA 1, 6, .inl (fun _ => 0))), (q4, .inl (kA 1, 6, .inl (fun _ => 0))), (q5, .inl (kA 1, 6, .inl (fun _ => 0))), (q6, .inl (kA 2, 10, .inr (.inl (fun _ => 0)))), (q7, .inl (kA 1, 10, .inl (fun _ => 0))), (q8, .inl (kA 6, 10, .inr (.inr (.inr (.inr (nx_q q8 10))))))] [(0, .ref h0)] 17 104 60 [.ref q8, .ref h0]
  refine j_putF (ws' := [(h0, .inr (5, [.ref q2, .ref q3, .ref q4, .ref q5, .ref q6, .ref q7, .ref q8, .null, .null, .null, .null, .null, .int 0, .int 0, .int 0])), (q2, .inl (kA 2, 6, .inr (.inl (fun _ => 0)))), (q3, .inl (kA 1, 6, .inl (fun _ => 0))), (q4, .inl (kA 1, 6, .inl (fun _ => 0))), (q5, .inl (kA 1, 6, .inl (fun _ => 0))), (q6, .inl (kA 2, 10, .inr (.inl (fun _ => 0)))), (q7, .inl (kA 1, 10, .inl (fun _ => 0))), (q8, .inl (kA 6, 10, .inr (.inr (.inr (.inr (nx_q q8 10))))))]) h iw_X5 tyX5 tyX5_ok nmX5 0 rfl rfl 6 (by decide) tw_195 rfl hnm rfl rfl rfl (Nat.le_of_ble_eq_true rfl) dX5_init_60 rfl ?_
  refine j_aload_n h 0 rfl rfl dX5_init_63 ?_
  refine j_bipush (v := 10) h (by decide) dX5_init_64 ?_
  refine j_newa (atype := .int) (a0 := (10, .inl (fun _ => 0))) h tw_264 rfl 1 rfl (fun _ => rfl) (by decide) (by decide) (by decide) (Nat.le_of_ble_eq_true rfl) (Nat.le_of_ble_eq_true rfl) dX5_init_66 (fun q9 => ?_)
  show J x [(h0, .inr (5, [.ref q2, .ref q3, .ref q4, .ref q5, .ref q6, .ref q7, .ref q8, .null, .null, .null, .null, .null, .int 0, .int 0, .int 0])), (q2, .inl (kA 2, 6, .inr (.inl (fun _ => 0)))), (q3, .inl (kA 1, 6, .inl (fun _ => 0))), (q4, .inl (kA 1, 6, .inl (fun _ => 0))), (q5, .inl (kA 1, 6, .inl (fun _ => 0))), (q6, .inl (kA 2, 10, .inr (.inl (fun _ => 0)))), (q7, .inl (kA 1, 10, .inl (fun _ => 0))), (q8, .inl (kA 6, 10, .inr (.inr (.inr (.inr (nx_q q8 10)))))), (q9, .inl (kA 1, 10, .inl (fun _ => 0)))] [(0, .ref h0)] 18 114 68 [.ref q9, .ref h0]
  refine j_putF (ws' := [(h0, .inr (5, [.ref q2, .ref q3, .ref q4, .ref q5, .ref q6, .ref q7, .ref q8, .ref q9, .null, .null, .null, .null, .int 0, .int 0, .int 0])), (q2, .inl (kA 2, 6, .inr (.inl (fun _ => 0)))), (q3, .inl (kA 1, 6, .inl (fun _ => 0))), (q4, .inl (kA 1, 6, .inl (fun _ => 0))), (q5, .inl (kA 1, 6, .inl (fun _ => 0))), (q6, .inl (kA 2, 10, .inr (.inl (fun _ => 0)))), (q7, .inl (kA 1, 10, .inl (fun _ => 0))), (q8, .inl (kA 6, 10, .inr (.inr (.inr (.inr (nx_q q8 10)))))), (q9, .inl (kA 1, 10, .inl (fun _ => 0)))]) h iw_X5 tyX5 tyX5_ok nmX5 0 rfl rfl 7 (by decide) tw_199 rfl hnm rfl rfl rfl (Nat.le_of_ble_eq_true rfl) dX5_init_68 rfl ?_
  refine j_aload_n h 0 rfl rfl dX5_init_71 ?_
  refine j_bipush (v := 10) h (by decide) dX5_init_72 ?_
  refine j_iconst (v := 2) h (by decide) dX5_init_74 ?_
  refine j_multi (ty := .int) (cO := kA 6) (cy := kA 1) (N' := 10) (K' := 2) (z := (2, .inl (fun _ => 0))) h tw_173 h.nw.2.2.2.1 tw_264 (h.kk.2 6 _ rfl).2 (h.kk.2 1 _ rfl).2 (by decide) (by decide) (by decide) (by decide) (by decide) rfl (Nat.le_of_ble_eq_true rfl) (Nat.le_of_ble_eq_true rfl) (fun _ => rfl) dX5_init_75 (fun q10 => ?_)
  refine j_sub [0, 1, 2, 3, 4, 5, 6, 7, 8, 9] (ws' := [(h0, .inr (5, [.ref q2, .ref q3, .ref q4, .ref q5, .ref q6, .ref q7, .ref q8, .ref q9, .null, .null, .null, .null, .int 0, .int 0, .int 0])), (q2, .inl (kA 2, 6, .inr (.inl (fun _ => 0)))), (q3, .inl (kA 1, 6, .inl (fun _ => 0))), (q4, .inl (kA 1, 6, .inl (fun _ => 0))), (q5, .inl (kA 1, 6, .inl (fun _ => 0))), (q6, .inl (kA 2, 10, .inr (.inl (fun _ => 0)))), (q7, .inl (kA 1, 10, .inl (fun _ => 0))), (q8, .inl (kA 6, 10, .inr (.inr (.inr (.inr (nx_q q8 10)))))), (q9, .inl (kA 1, 10, .inl (fun _ => 0))), (q10, .inl (kA 6, 10, .inr (.inr (.inr (.inr (nx_q q10 10))))))]) rfl rfl (by decide) [0] (lv' := [(0, .ref h0)]) rfl ?_
  show J x [(h0, .inr (5, [.ref q2, .ref q3, .ref q4, .ref q5, .ref q6, .ref q7, .ref q8, .ref q9, .null, .null, .null, .null, .int 0, .int 0, .int 0])), (q2, .inl (kA 2, 6, .inr (.inl (fun _ => 0)))), (q3, .inl (kA 1, 6, .inl (fun _ => 0))), (q4, .inl (kA 1, 6, .inl (fun _ => 0))), (q5, .inl (kA 1, 6, .inl (fun _ => 0))), (q6, .inl (kA 2, 10, .inr (.inl (fun _ => 0)))), (q7, .inl (kA 1, 10, .inl (fun _ => 0))), (q8, .inl (kA 6, 10, .inr (.inr (.inr (.inr (nx_q q8 10)))))), (q9, .inl (kA 1, 10, .inl (fun _ => 0))), (q10, .inl (kA 6, 10, .inr (.inr (.inr (.inr (nx_q q10 10))))))] [(0, .ref h0)] 29 144 79 [.ref q10, .ref h0]
  refine j_putF (ws' := [(h0, .inr (5, [.ref q2, .ref q3, .ref q4, .ref q5, .ref q6, .ref q7, .ref q8, .ref q9, .ref q10, .null, .null, .null, .int 0, .int 0, .int 0])), (q2, .inl (kA 2, 6, .inr (.inl (fun _ => 0)))), (q3, .inl (kA 1, 6, .inl (fun _ => 0))), (q4, .inl (kA 1, 6, .inl (fun _ => 0))), (q5, .inl (kA 1, 6, .inl (fun _ => 0))), (q6, .inl (kA 2, 10, .inr (.inl (fun _ => 0)))), (q7, .inl (kA 1, 10, .inl (fun _ => 0))), (q8, .inl (kA 6, 10, .inr (.inr (.inr (.inr (nx_q q8 10)))))), (q9, .inl (kA 1, 10, .inl (fun _ => 0))), (q10, .inl (kA 6, 10, .inr (.inr (.inr (.inr (nx_q q10 10))))))]) h iw_X5 tyX5 tyX5_ok nmX5 0 rfl rfl 8 (by decide) tw_204 rfl hnm rfl rfl rfl (Nat.le_of_ble_eq_true rfl) dX5_init_79 rfl ?_
  refine j_aload_n h 0 rfl rfl dX5_init_82 ?_
  refine j_iconst (v := 4) h (by decide) dX5_init_83 ?_
  refine j_newa (atype := .long) (a0 := (4, .inr (.inl (fun _ => 0)))) h tw_263 rfl 2 rfl (fun _ => rfl) (by decide) (by decide) (by decide) (Nat.le_of_ble_eq_true rfl) (Nat.le_of_ble_eq_true rfl) dX5_init_84 (fun q11 => ?_)
  show J x [(h0, .inr (5, [.ref q2, .ref q3, .ref q4, .ref q5, .ref q6, .ref q7, .ref q8, .ref q9, .ref q10, .null, .null, .null, .int 0, .int 0, .int 0])), (q2, .inl (kA 2, 6, .inr (.inl (fun _ => 0)))), (q3, .inl (kA 1, 6, .inl (fun _ => 0))), (q4, .inl (kA 1, 6, .inl (fun _ => 0))), (q5, .inl (kA 1, 6, .inl (fun _ => 0))), (q6, .inl (kA 2, 10, .inr (.inl (fun _ => 0)))), (q7, .inl (kA 1, 10, .inl (fun _ => 0))), (q8, .inl (kA 6, 10, .inr (.inr (.inr (.inr (nx_q q8 10)))))), (q9, .inl (kA 1, 10, .inl (fun _ => 0))), (q10, .inl (kA 6, 10, .inr (.inr (.inr (.inr (nx_q q10 10)))))), (q11, .inl (kA 2, 4, .inr (.inl (fun _ => 0))))] [(0, .ref h0)] 30 148 86 [.ref q11, .ref h0]
  refine j_putF (ws' := [(h0, .inr (5, [.ref q2, .ref q3, .ref q4, .ref q5, .ref q6, .ref q7, .ref q8, .ref q9, .ref q10, .ref q11, .null, .null, .int 0, .int 0, .int 0])), (q2, .inl (kA 2, 6, .inr (.inl (fun _ => 0)))), (q3, .inl (kA 1, 6, .inl (fun _ => 0))), (q4, .inl (kA 1, 6, .inl (fun _ => 0))), (q5, .inl (kA 1, 6, .inl (fun _ => 0))), (q6, .inl (kA 2, 10, .inr (.inl (fun _ => 0)))), (q7, .inl (kA 1, 10, .inl (fun _ => 0))), (q8, .inl (kA 6, 10, .inr (.inr (.inr (.inr (nx_q q8 10)))))), (q9, .inl (kA 1, 10, .inl (fun _ => 0))), (q10, .inl (kA 6, 10, .inr (.inr (.inr (.inr (nx_q q10 10)))))), (q11, .inl (kA 2, 4, .inr (.inl (fun _ => 0))))]) h iw_X5 tyX5 tyX5_ok nmX5 0 rfl rfl 9 (by decide) tw_209 rfl hnm rfl rfl rfl (Nat.le_of_ble_eq_true rfl) dX5_init_86 rfl ?_
  refine j_aload_n h 0 rfl rfl dX5_init_89 ?_
  refine j_iconst (v := 4) h (by decide) dX5_init_90 ?_
  refine j_newa (atype := .int) (a0 := (4, .inl (fun _ => 0))) h tw_264 rfl 1 rfl (fun _ => rfl) (by decide) (by decide) (by decide) (Nat.le_of_ble_eq_true rfl) (Nat.le_of_ble_eq_true rfl) dX5_init_91 (fun q12 => ?_)
  show J x [(h0, .inr (5, [.ref q2, .ref q3, .ref q4, .ref q5, .ref q6, .ref q7, .ref q8, .ref q9, .ref q10, .ref q11, .null, .null, .int 0, .int 0, .int 0])), (q2, .inl (kA 2, 6, .inr (.inl (fun _ => 0)))), (q3, .inl (kA 1, 6, .inl (fun _ => 0))), (q4, .inl (kA 1, 6, .inl (fun _ => 0))), (q5, .inl (kA 1, 6, .inl (fun _ => 0))), (q6, .inl (kA 2, 10, .inr (.inl (fun _ => 0)))), (q7, .inl (kA 1, 10, .inl (fun _ => 0))), (q8, .inl (kA 6, 10, .inr (.inr (.inr (.inr (nx_q q8 10)))))), (q9, .inl (kA 1, 10, .inl (fun _ => 0))), (q10, .inl (kA 6, 10, .inr (.inr (.inr (.inr (nx_q q10 10)))))), (q11, .inl (kA 2, 4, .inr (.inl (fun _ => 0)))), (q12, .inl (kA 1, 4, .inl (fun _ => 0)))] [(0, .ref h0)] 31 152 93 [.ref q12, .ref h0]
  refine j_putF (ws' := [(h0, .inr (5, [.ref q2, .ref q3, .ref q4, .ref q5, .ref q6, .ref q7, .ref q8, .ref q9, .ref q10, .ref q11, .ref q12, .null, .int 0, .int 0, .int 0])), (q2, .inl (kA 2, 6, .inr (.inl (fun _ => 0)))), (q3, .inl (kA 1, 6, .inl (fun _ => 0))), (q4, .inl (kA 1, 6, .inl (fun _ => 0))), (q5, .inl (kA 1, 6, .inl (fun _ => 0))), (q6, .inl (kA 2, 10, .inr (.inl (fun _ => 0)))), (q7, .inl (kA 1, 10, .inl (fun _ => 0))), (q8, .inl (kA 6, 10, .inr (.inr (.inr (.inr (nx_q q8 10)))))), (q9, .inl (kA 1, 10, .inl (fun _ => 0))), (q10, .inl (kA 6, 10, .inr (.inr (.inr (.inr (nx_q q10 10)))))), (q11, .inl (kA 2, 4, .inr (.inl (fun _ => 0)))), (q12, .inl (kA 1, 4, .inl (fun _ => 0)))]) h iw_X5 tyX5 tyX5_ok nmX5 0 rfl rfl 10 (by decide) tw_211 rfl hnm rfl rfl rfl (Nat.le_of_ble_eq_true rfl) dX5_init_93 rfl ?_
  refine j_aload_n h 0 rfl rfl dX5_init_96 ?_
  refine j_iconst (v := 4) h (by decide) dX5_init_97 ?_
  refine j_newa (atype := .int) (a0 := (4, .inl (fun _ => 0))) h tw_264 rfl 1 rfl (fun _ => rfl) (by decide) (by decide) (by decide) (Nat.le_of_ble_eq_true rfl) (Nat.le_of_ble_eq_true rfl) dX5_init_98 (fun q13 => ?_)
  show J x [(h0, .inr (5, [.ref q2, .ref q3, .ref q4, .ref q5, .ref q6, .ref q7, .ref q8, .ref q9, .ref q10, .ref q11, .ref q12, .null, .int 0, .int 0, .int 0])), (q2, .inl (kA 2, 6, .inr (.inl (fun _ => 0)))), (q3, .inl (kA 1, 6, .inl (fun _ => 0))), (q4, .inl (kA 1, 6, .inl (fun _ => 0))), (q5, .inl (kA 1, 6, .inl (fun _ => 0))), (q6, .inl (kA 2, 10, .inr (.inl (fun _ => 0)))), (q7, .inl (kA 1, 10, .inl (fun _ => 0))), (q8, .inl (kA 6, 10, .inr (.inr (.inr (.inr (nx_q q8 10)))))), (q9, .inl (kA 1, 10, .inl (fun _ => 0))), (q10, .inl (kA 6, 10, .inr (.inr (.inr (.inr (nx_q q10 10)))))), (q11, .inl (kA 2, 4, .inr (.inl (fun _ => 0)))), (q12, .inl (kA 1, 4, .inl (fun _ => 0))), (q13, .inl (kA 1, 4, .inl (fun _ => 0)))] [(0, .ref h0)] 32 156 100 [.ref q13, .ref h0]
  refine j_putF (ws' := [(h0, .inr (5, [.ref q2, .ref q3, .ref q4, .ref q5, .ref q6, .ref q7, .ref q8, .ref q9, .ref q10, .ref q11, .ref q12, .ref q13, .int 0, .int 0, .int 0])), (q2, .inl (kA 2, 6, .inr (.inl (fun _ => 0)))), (q3, .inl (kA 1, 6, .inl (fun _ => 0))), (q4, .inl (kA 1, 6, .inl (fun _ => 0))), (q5, .inl (kA 1, 6, .inl (fun _ => 0))), (q6, .inl (kA 2, 10, .inr (.inl (fun _ => 0)))), (q7, .inl (kA 1, 10, .inl (fun _ => 0))), (q8, .inl (kA 6, 10, .inr (.inr (.inr (.inr (nx_q q8 10)))))), (q9, .inl (kA 1, 10, .inl (fun _ => 0))), (q10, .inl (kA 6, 10, .inr (.inr (.inr (.inr (nx_q q10 10)))))), (q11, .inl (kA 2, 4, .inr (.inl (fun _ => 0)))), (q12, .inl (kA 1, 4, .inl (fun _ => 0))), (q13, .inl (kA 1, 4, .inl (fun _ => 0)))]) h iw_X5 tyX5 tyX5_ok nmX5 0 rfl rfl 11 (by decide) tw_213 rfl hnm rfl rfl rfl (Nat.le_of_ble_eq_true rfl) dX5_init_100 rfl ?_
  exact j_vret h hq dX5_init_103 (q2, q3, q4, q5, q6, q7, q8, q9, q10, q11, q12, q13) [0, 3] rfl rfl (by decide) trivial (Nat.le_of_ble_eq_true rfl) (Nat.le_of_ble_eq_true rfl)
set_option maxHeartbeats 4000000 in
set_option maxRecDepth 100000 in
theorem c_X2_init (l : Launch) (g : va_G) (kA : Nat → ClassId) (h0 : Nat)  : CtV l yX2_init cX2_init 1 (none) 1 2 66 g kA [.ref h0] [(h0, .inr (2, [.null, .null, .int 0, .int 0, .int 0, .int 0]))] (S := Nat × Nat) (fun ((a0, a1) : Nat × Nat) => True) (fun ((a0, a1) : Nat × Nat) => [(h0, .inr (2, [.ref a0, .ref a1, .int 0, .int 0, .int 0, .int 0])), (a0, .inl (kA 1, 60, .inl (fun _ => 0))), (a1, .inl (kA 1, 6, .inl (fun _ => 0)))]) := by
  refine nx_startV (by decide +kernel) (Nat.le_of_ble_eq_true rfl) ?_
  intro x hnm h hq
  have h : Ok x cX2_init RX2 kA (rmC 1 2 66) 1 := h
  show J x [(h0, .inr (2, [.null, .null, .int 0, .int 0, .int 0, .int 0]))] [(0, .ref h0)] 0 0 0 []
  refine j_aload_n h 0 rfl rfl dX2_init_0 ?_
  refine j_objInit h tw_270 tw_113 tw_114 (Nat.le_of_ble_eq_true rfl) (Nat.le_of_ble_eq_true rfl) (Nat.le_of_ble_eq_true rfl) dX2_init_1 ?_
  refine j_aload_n h 0 rfl rfl dX2_init_4 ?_
  refine j_bipush (v := 60) h (by decide) dX2_init_5 ?_
  refine j_newa (atype := .int) (a0 := (60, .inl (fun _ => 0))) h tw_264 rfl 1 rfl (fun _ => rfl) (by decide) (by decide) (by decide) (Nat.le_of_ble_eq_true rfl) (Nat.le_of_ble_eq_true rfl) dX2_init_7 (fun q14 => ?_)
  show J x [(h0, .inr (2, [.null, .null, .int 0, .int 0, .int 0, .int 0])), (q14, .inl (kA 1, 60, .inl (fun _ => 0)))] [(0, .ref h0)] 1 60 9 [.ref q14, .ref h0]
  refine j_putF (ws' := [(h0, .inr (2, [.ref q14, .null, .int 0, .int 0, .int 0, .int 0])), (q14, .inl (kA 1, 60, .inl (fun _ => 0)))]) h iw_X2 tyX2 tyX2_ok nmX2 0 rfl rfl 0 (by decide) tw_271 rfl hnm rfl rfl rfl (Nat.le_of_ble_eq_true rfl) dX2_init_9 rfl ?_
  refine j_aload_n h 0 rfl rfl dX2_init_12 ?_
  refine j_bipush (v := 6) h (by decide) dX2_init_13 ?_
  refine j_newa (atype := .int) (a0 := (6, .inl (fun _ => 0))) h tw_264 rfl 1 rfl (fun _ => rfl) (by decide) (by decide) (by decide) (Nat.le_of_ble_eq_true rfl) (Nat.le_of_ble_eq_true rfl) dX2_init_15 (fun q15 => ?_)
  show J x [(h0, .inr (2, [.ref q14, .null, .int 0, .int 0, .int 0, .int 0])), (q14, .inl (kA 1, 60, .inl (fun _ => 0))), (q15, .inl (kA 1, 6, .inl (fun _ => 0)))] [(0, .ref h0)] 2 66 17 [.ref q15, .ref h0]
  refine j_putF (ws' := [(h0, .inr (2, [.ref q14, .ref q15, .int 0, .int 0, .int 0, .int 0])), (q14, .inl (kA 1, 60, .inl (fun _ => 0))), (q15, .inl (kA 1, 6, .inl (fun _ => 0)))]) h iw_X2 tyX2 tyX2_ok nmX2 0 rfl rfl 1 (by decide) tw_272 rfl hnm rfl rfl rfl (Nat.le_of_ble_eq_true rfl) dX2_init_17 rfl ?_
  exact j_vret h hq dX2_init_20 (q14, q15) [0, 1, 2] rfl rfl (by decide) trivial (Nat.le_of_ble_eq_true rfl) (Nat.le_of_ble_eq_true rfl)
set_option maxHeartbeats 4000000 in
set_option maxRecDepth 100000 in
theorem c_X10_init (l : Launch) (g : va_G) (kA : Nat → ClassId) (h0 : Nat)  : CtV l yX10_init cX10_init 1 (none) 1 1 60 g kA [.ref h0] [(h0, .inr (10, [.null, .int 0, .int 0, .int 0]))] (S := Nat) (fun (a0 : Nat) => True) (fun (a0 : Nat) => [(h0, .inr (10, [.ref a0, .int 0, .int 0, .int 0]))]) := by
  refine nx_startV (by decide +kernel) (Nat.le_of_ble_eq_true rfl) ?_
  intro x hnm h hq
  have h : Ok x cX10_init RX10 kA (rmC 1 1 60) 1 := h
  show J x [(h0, .inr (10, [.null, .int 0, .int 0, .int 0]))] [(0, .ref h0)] 0 0 0 []
  refine j_aload_n h 0 rfl rfl dX10_init_0 ?_
  refine j_objInit h tw_301 tw_113 tw_114 (Nat.le_of_ble_eq_true rfl) (Nat.le_of_ble_eq_true rfl) (Nat.le_of_ble_eq_true rfl) dX10_init_1 ?_
  refine j_aload_n h 0 rfl rfl dX10_init_4 ?_
  refine j_bipush (v := 60) h (by decide) dX10_init_5 ?_
  refine j_newa (atype := .int) (a0 := (60, .inl (fun _ => 0))) h tw_264 rfl 1 rfl (fun _ => rfl) (by decide) (by decide) (by decide) (Nat.le_of_ble_eq_true rfl) (Nat.le_of_ble_eq_true rfl) dX10_init_7 (fun q16 => ?_)
  show J x [(h0, .inr (10, [.null, .int 0, .int 0, .int 0])), (q16, .inl (kA 1, 60, .inl (fun _ => 0)))] [(0, .ref h0)] 1 60 9 [.ref q16, .ref h0]
  refine j_putF (ws' := [(h0, .inr (10, [.ref q16, .int 0, .int 0, .int 0])), (q16, .inl (kA 1, 60, .inl (fun _ => 0)))]) h iw_X10 tyX10 tyX10_ok nmX10 0 rfl rfl 0 (by decide) tw_302 rfl hnm rfl rfl rfl (Nat.le_of_ble_eq_true rfl) dX10_init_9 rfl ?_
  exact j_vret h hq dX10_init_12 q16 [0] rfl rfl (by decide) trivial (Nat.le_of_ble_eq_true rfl) (Nat.le_of_ble_eq_true rfl)
set_option maxHeartbeats 4000000 in
set_option maxRecDepth 100000 in
theorem c_X8_init (l : Launch) (g : va_G) (kA : Nat → ClassId) (h0 : Nat)  : CtV l yX8_init cX8_init 1 (none) 1 6 180 g kA [.ref h0] [(h0, .inr (8, [.null, .null, .null, .null, .null, .null, .int 0]))] (S := Nat × Nat × Nat × Nat × Nat × Nat) (fun ((a0, a1, a2, a3, a4, a5) : Nat × Nat × Nat × Nat × Nat × Nat) => True) (fun ((a0, a1, a2, a3, a4, a5) : Nat × Nat × Nat × Nat × Nat × Nat) => [(h0, .inr (8, [.ref a0, .ref a1, .ref a2, .ref a3, .ref a4, .ref a5, .int 0]))]) := by
  refine nx_startV (by decide +kernel) (Nat.le_of_ble_eq_true rfl) ?_
  intro x hnm h hq
  have h : Ok x cX8_init RX8 kA (rmC 1 6 180) 1 := h
  show J x [(h0, .inr (8, [.null, .null, .null, .null, .null, .null, .int 0]))] [(0, .ref h0)] 0 0 0 []
  refine j_aload_n h 0 rfl rfl dX8_init_0 ?_
  refine j_objInit h tw_326 tw_113 tw_114 (Nat.le_of_ble_eq_true rfl) (Nat.le_of_ble_eq_true rfl) (Nat.le_of_ble_eq_true rfl) dX8_init_1 ?_
  refine j_aload_n h 0 rfl rfl dX8_init_4 ?_
  refine j_bipush (v := 30) h (by decide) dX8_init_5 ?_
  refine j_newa (atype := .int) (a0 := (30, .inl (fun _ => 0))) h tw_264 rfl 1 rfl (fun _ => rfl) (by decide) (by decide) (by decide) (Nat.le_of_ble_eq_true rfl) (Nat.le_of_ble_eq_true rfl) dX8_init_7 (fun q17 => ?_)
  show J x [(h0, .inr (8, [.null, .null, .null, .null, .null, .null, .int 0])), (q17, .inl (kA 1, 30, .inl (fun _ => 0)))] [(0, .ref h0)] 1 30 9 [.ref q17, .ref h0]
  refine j_putF (ws' := [(h0, .inr (8, [.ref q17, .null, .null, .null, .null, .null, .int 0])), (q17, .inl (kA 1, 30, .inl (fun _ => 0)))]) h iw_X8 tyX8 tyX8_ok nmX8 0 rfl rfl 0 (by decide) tw_327 rfl hnm rfl rfl rfl (Nat.le_of_ble_eq_true rfl) dX8_init_9 rfl ?_
  refine j_aload_n h 0 rfl rfl dX8_init_12 ?_
  refine j_bipush (v := 30) h (by decide) dX8_init_13 ?_
  refine j_newa (atype := .int) (a0 := (30, .inl (fun _ => 0))) h tw_264 rfl 1 rfl (fun _ => rfl) (by decide) (by decide) (by decide) (Nat.le_of_ble_eq_true rfl) (Nat.le_of_ble_eq_true rfl) dX8_init_15 (fun q18 => ?_)
  show J x [(h0, .inr (8, [.ref q17, .null, .null, .null, .null, .null, .int 0])), (q17, .inl (kA 1, 30, .inl (fun _ => 0))), (q18, .inl (kA 1, 30, .inl (fun _ => 0)))] [(0, .ref h0)] 2 60 17 [.ref q18, .ref h0]
  refine j_putF (ws' := [(h0, .inr (8, [.ref q17, .ref q18, .null, .null, .null, .null, .int 0])), (q17, .inl (kA 1, 30, .inl (fun _ => 0))), (q18, .inl (kA 1, 30, .inl (fun _ => 0)))]) h iw_X8 tyX8 tyX8_ok nmX8 0 rfl rfl 1 (by decide) tw_328 rfl hnm rfl rfl rfl (Nat.le_of_ble_eq_true rfl) dX8_init_17 rfl ?_
  refine j_aload_n h 0 rfl rfl dX8_init_20 ?_
  refine j_bipush (v := 30) h (by decide) dX8_init_21 ?_
  refine j_newa (atype := .int) (a0 := (30, .inl (fun _ => 0))) h tw_264 rfl 1 rfl (fun _ => rfl) (by decide) (by decide) (by decide) (Nat.le_of_ble_eq_true rfl) (Nat.le_of_ble_eq_true rfl) dX8_init_23 (fun q19 => ?_)
  show J x [(h0, .inr (8, [.ref q17, .ref q18, .null, .null, .null, .null, .int 0])), (q17, .inl (kA 1, 30, .inl (fun _ => 0))), (q18, .inl (kA 1, 30, .inl (fun _ => 0))), (q19, .inl (kA 1, 30, .inl (fun _ => 0)))] [(0, .ref h0)] 3 90 25 [.ref q19, .ref h0]
  refine j_putF (ws' := [(h0, .inr (8, [.ref q17, .ref q18, .ref q19, .null, .null, .null, .int 0])), (q17, .inl (kA 1, 30, .inl (fun _ => 0))), (q18, .inl (kA 1, 30, .inl (fun _ => 0))), (q19, .inl (kA 1, 30, .inl (fun _ => 0)))]) h iw_X8 tyX8 tyX8_ok nmX8 0 rfl rfl 2 (by decide) tw_329 rfl hnm rfl rfl rfl (Nat.le_of_ble_eq_true rfl) dX8_init_25 rfl ?_
  refine j_aload_n h 0 rfl rfl dX8_init_28 ?_
  refine j_bipush (v := 30) h (by decide) dX8_init_29 ?_
  refine j_newa (atype := .int) (a0 := (30, .inl (fun _ => 0))) h tw_264 rfl 1 rfl (fun _ => rfl) (by decide) (by decide) (by decide) (Nat.le_of_ble_eq_true rfl) (Nat.le_of_ble_eq_true rfl) dX8_init_31 (fun q20 => ?_)
  show J x [(h0, .inr (8, [.ref q17, .ref q18, .ref q19, .null, .null, .null, .int 0])), (q17, .inl (kA 1, 30, .inl (fun _ => 0))), (q18, .inl (kA 1, 30, .inl (fun _ => 0))), (q19, .inl (kA 1, 30, .inl (fun _ => 0))), (q20, .inl (kA 1, 30, .inl (fun _ => 0)))] [(0, .ref h0)] 4 120 33 [.ref q20, .ref h0]
  refine j_putF (ws' := [(h0, .inr (8, [.ref q17, .ref q18, .ref q19, .ref q20, .null, .null, .int 0])), (q17, .inl (kA 1, 30, .inl (fun _ => 0))), (q18, .inl (kA 1, 30, .inl (fun _ => 0))), (q19, .inl (kA 1, 30, .inl (fun _ => 0))), (q20, .inl (kA 1, 30, .inl (fun _ => 0)))]) h iw_X8 tyX8 tyX8_ok nmX8 0 rfl rfl 3 (by decide) tw_330 rfl hnm rfl rfl rfl (Nat.le_of_ble_eq_true rfl) dX8_init_33 rfl ?_
  refine j_aload_n h 0 rfl rfl dX8_init_36 ?_
  refine j_bipush (v := 30) h (by decide) dX8_init_37 ?_
  refine j_newa (atype := .int) (a0 := (30, .inl (fun _ => 0))) h tw_264 rfl 1 rfl (fun _ => rfl) (by decide) (by decide) (by decide) (Nat.le_of_ble_eq_true rfl) (Nat.le_of_ble_eq_true rfl) dX8_init_39 (fun q21 => ?_)
  show J x [(h0, .inr (8, [.ref q17, .ref q18, .ref q19, .ref q20, .null, .null, .int 0])), (q17, .inl (kA 1, 30, .inl (fun _ => 0))), (q18, .inl (kA 1, 30, .inl (fun _ => 0))), (q19, .inl (kA 1, 30, .inl (fun _ => 0))), (q20, .inl (kA 1, 30, .inl (fun _ => 0))), (q21, .inl (kA 1, 30, .inl (fun _ => 0)))] [(0, .ref h0)] 5 150 41 [.ref q21, .ref h0]
  refine j_putF (ws' := [(h0, .inr (8, [.ref q17, .ref q18, .ref q19, .ref q20, .ref q21, .null, .int 0])), (q17, .inl (kA 1, 30, .inl (fun _ => 0))), (q18, .inl (kA 1, 30, .inl (fun _ => 0))), (q19, .inl (kA 1, 30, .inl (fun _ => 0))), (q20, .inl (kA 1, 30, .inl (fun _ => 0))), (q21, .inl (kA 1, 30, .inl (fun _ => 0)))]) h iw_X8 tyX8 tyX8_ok nmX8 0 rfl rfl 4 (by decide) tw_331 rfl hnm rfl rfl rfl (Nat.le_of_ble_eq_true rfl) dX8_init_41 rfl ?_
  refine j_aload_n h 0 rfl rfl dX8_init_44 ?_
  refine j_bipush (v := 30) h (by decide) dX8_init_45 ?_
  refine j_newa (atype := .int) (a0 := (30, .inl (fun _ => 0))) h tw_264 rfl 1 rfl (fun _ => rfl) (by decide) (by decide) (by decide) (Nat.le_of_ble_eq_true rfl) (Nat.le_of_ble_eq_true rfl) dX8_init_47 (fun q22 => ?_)
  show J x [(h0, .inr (8, [.ref q17, .ref q18, .ref q19, .ref q20, .ref q21, .null, .int 0])), (q17, .inl (kA 1, 30, .inl (fun _ => 0))), (q18, .inl (kA 1, 30, .inl (fun _ => 0))), (q19, .inl (kA 1, 30, .inl (fun _ => 0))), (q20, .inl (kA 1, 30, .inl (fun _ => 0))), (q21, .inl (kA 1, 30, .inl (fun _ => 0))), (q22, .inl (kA 1, 30, .inl (fun _ => 0)))] [(0, .ref h0)] 6 180 49 [.ref q22, .ref h0]
  refine j_putF (ws' := [(h0, .inr (8, [.ref q17, .ref q18, .ref q19, .ref q20, .ref q21, .ref q22, .int 0])), (q17, .inl (kA 1, 30, .inl (fun _ => 0))), (q18, .inl (kA 1, 30, .inl (fun _ => 0))), (q19, .inl (kA 1, 30, .inl (fun _ => 0))), (q20, .inl (kA 1, 30, .inl (fun _ => 0))), (q21, .inl (kA 1, 30, .inl (fun _ => 0))), (q22, .inl (kA 1, 30, .inl (fun _ => 0)))]) h iw_X8 tyX8 tyX8_ok nmX8 0 rfl rfl 5 (by decide) tw_332 rfl hnm rfl rfl rfl (Nat.le_of_ble_eq_true rfl) dX8_init_49 rfl ?_
  exact j_vret h hq dX8_init_52 (q17, q18, q19, q20, q21, q22) [0] rfl rfl (by decide) trivial (Nat.le_of_ble_eq_true rfl) (Nat.le_of_ble_eq_true rfl)
set_option maxHeartbeats 4000000 in
set_option maxRecDepth 100000 in
theorem c_X0_init (l : Launch) (g : va_G) (kA : Nat → ClassId) (h0 : Nat)  : CtV l yX0_init cX0_init 1 (none) 1 11 492 g kA [.ref h0] [(h0, .inr (0, [.null, .null, .null]))] (S := Nat × Nat × Nat) (fun ((a0, a1, a2) : Nat × Nat × Nat) => True) (fun ((a0, a1, a2) : Nat × Nat × Nat) => [(h0, .inr (0, [.ref a0, .ref a1, .ref a2])), (a2, .inl (kA 3, 4, .inl (fun _ => 0)))]) := by
  refine nx_startV (by decide +kernel) (Nat.le_of_ble_eq_true rfl) ?_
  intro x hnm h hq
  have h : Ok x cX0_init RX0 kA (rmC 1 11 492) 1 := h
  show J x [(h0, .inr (0, [.null, .null, .null]))] [(0, .ref h0)] 0 0 0 []
  refine j_aload_n h 0 rfl rfl dX0_init_0 ?_
  refine j_objInit h tw_355 tw_113 tw_114 (Nat.le_of_ble_eq_true rfl) (Nat.le_of_ble_eq_true rfl) (Nat.le_of_ble_eq_true rfl) dX0_init_1 ?_
  refine j_aload_n h 0 rfl rfl dX0_init_4 ?_
  refine j_iconst (v := 4) h (by decide) dX0_init_5 ?_
  refine j_bipush (v := 60) h (by decide) dX0_init_6 ?_
  refine j_multi (ty := .int) (cO := kA 6) (cy := kA 1) (N' := 4) (K' := 60) (z := (60, .inl (fun _ => 0))) h tw_356 h.nw.2.2.2.1 tw_264 (h.kk.2 6 _ rfl).2 (h.kk.2 1 _ rfl).2 (by decide) (by decide) (by decide) (by decide) (by decide) rfl (Nat.le_of_ble_eq_true rfl) (Nat.le_of_ble_eq_true rfl) (fun _ => rfl) dX0_init_8 (fun q23 => ?_)
  refine j_sub [0, 1] (ws' := [(h0, .inr (0, [.null, .null, .null])), (q23, .inl (kA 6, 4, .inr (.inr (.inr (.inr (nx_q q23 4))))))]) rfl rfl (by decide) [0] (lv' := [(0, .ref h0)]) rfl ?_
  show J x [(h0, .inr (0, [.null, .null, .null])), (q23, .inl (kA 6, 4, .inr (.inr (.inr (.inr (nx_q q23 4))))))] [(0, .ref h0)] 5 244 12 [.ref q23, .ref h0]
  refine j_putF (ws' := [(h0, .inr (0, [.ref q23, .null, .null])), (q23, .inl (kA 6, 4, .inr (.inr (.inr (.inr (nx_q q23 4))))))]) h iw_X0 tyX0 tyX0_ok nmX0 0 rfl rfl 0 (by decide) tw_357 rfl hnm rfl rfl rfl (Nat.le_of_ble_eq_true rfl) dX0_init_12 rfl ?_
  refine j_aload_n h 0 rfl rfl dX0_init_15 ?_
  refine j_iconst (v := 4) h (by decide) dX0_init_16 ?_
  refine j_bipush (v := 60) h (by decide) dX0_init_17 ?_
  refine j_multi (ty := .int) (cO := kA 6) (cy := kA 1) (N' := 4) (K' := 60) (z := (60, .inl (fun _ => 0))) h tw_356 h.nw.2.2.2.1 tw_264 (h.kk.2 6 _ rfl).2 (h.kk.2 1 _ rfl).2 (by decide) (by decide) (by decide) (by decide) (by decide) rfl (Nat.le_of_ble_eq_true rfl) (Nat.le_of_ble_eq_true rfl) (fun _ => rfl) dX0_init_19 (fun q24 => ?_)
  refine j_sub [0, 1, 2] (ws' := [(h0, .inr (0, [.ref q23, .null, .null])), (q23, .inl (kA 6, 4, .inr (.inr (.inr (.inr (nx_q q23 4)))))), (q24, .inl (kA 6, 4, .inr (.inr (.inr (.inr (nx_q q24 4))))))]) rfl rfl (by decide) [0] (lv' := [(0, .ref h0)]) rfl ?_
  show J x [(h0, .inr (0, [.ref q23, .null, .null])), (q23, .inl (kA 6, 4, .inr (.inr (.inr (.inr (nx_q q23 4)))))), (q24, .inl (kA 6, 4, .inr (.inr (.inr (.inr (nx_q q24 4))))))] [(0, .ref h0)] 10 488 23 [.ref q24, .ref h0]
  refine j_putF (ws' := [(h0, .inr (0, [.ref q23, .ref q24, .null])), (q23, .inl (kA 6, 4, .inr (.inr (.inr (.inr (nx_q q23 4)))))), (q24, .inl (kA 6, 4, .inr (.inr (.inr (.inr (nx_q q24 4))))))]) h iw_X0 tyX0 tyX0_ok nmX0 0 rfl rfl 1 (by decide) tw_358 rfl hnm rfl rfl rfl (Nat.le_of_ble_eq_true rfl) dX0_init_23 rfl ?_
  refine j_aload_n h 0 rfl rfl dX0_init_26 ?_
  refine j_iconst (v := 4) h (by decide) dX0_init_27 ?_
  refine j_newa (atype := .boolean) (a0 := (4, .inl (fun _ => 0))) h tw_367 rfl 3 rfl (fun _ => rfl) (by decide) (by decide) (by decide) (Nat.le_of_ble_eq_true rfl) (Nat.le_of_ble_eq_true rfl) dX0_init_28 (fun q25 => ?_)
  show J x [(h0, .inr (0, [.ref q23, .ref q24, .null])), (q23, .inl (kA 6, 4, .inr (.inr (.inr (.inr (nx_q q23 4)))))), (q24, .inl (kA 6, 4, .inr (.inr (.inr (.inr (nx_q q24 4)))))), (q25, .inl (kA 3, 4, .inl (fun _ => 0)))] [(0, .ref h0)] 11 492 30 [.ref q25, .ref h0]
  refine j_putF (ws' := [(h0, .inr (0, [.ref q23, .ref q24, .ref q25])), (q23, .inl (kA 6, 4, .inr (.inr (.inr (.inr (nx_q q23 4)))))), (q24, .inl (kA 6, 4, .inr (.inr (.inr (.inr (nx_q q24 4)))))), (q25, .inl (kA 3, 4, .inl (fun _ => 0)))]) h iw_X0 tyX0 tyX0_ok nmX0 0 rfl rfl 2 (by decide) tw_359 rfl hnm rfl rfl rfl (Nat.le_of_ble_eq_true rfl) dX0_init_30 rfl ?_
  exact j_vret h hq dX0_init_33 (q23, q24, q25) [0, 3] rfl rfl (by decide) trivial (Nat.le_of_ble_eq_true rfl) (Nat.le_of_ble_eq_true rfl)
set_option maxHeartbeats 4000000 in
set_option maxRecDepth 100000 in
theorem c_X4_init (l : Launch) (g : va_G) (kA : Nat → ClassId) (h0 : Nat)  : CtV l yX4_init cX4_init 1 (none) 1 14 528 g kA [.ref h0] [(h0, .inr (4, [.null, .null, .null, .null, .int 0]))] (S := Nat × Nat × Nat × Nat) (fun ((a0, a1, a2, a3) : Nat × Nat × Nat × Nat) => True) (fun ((a0, a1, a2, a3) : Nat × Nat × Nat × Nat) => [(h0, .inr (4, [.ref a0, .ref a1, .ref a2, .ref a3, .int 0]))]) := by
  refine nx_startV (by decide +kernel) (Nat.le_of_ble_eq_true rfl) ?_
  intro x hnm h hq
  have h : Ok x cX4_init RX4 kA (rmC 1 14 528) 1 := h
  show J x [(h0, .inr (4, [.null, .null, .null, .null, .int 0]))] [(0, .ref h0)] 0 0 0 []
  refine j_aload_n h 0 rfl rfl dX4_init_0 ?_
  refine j_objInit h tw_419 tw_113 tw_114 (Nat.le_of_ble_eq_true rfl) (Nat.le_of_ble_eq_true rfl) (Nat.le_of_ble_eq_true rfl) dX4_init_1 ?_
  refine j_aload_n h 0 rfl rfl dX4_init_4 ?_
  refine j_bipush (v := 10) h (by decide) dX4_init_5 ?_
  refine j_bipush (v := 45) h (by decide) dX4_init_7 ?_
  refine j_multi (ty := .int) (cO := kA 6) (cy := kA 1) (N' := 10) (K' := 45) (z := (45, .inl (fun _ => 0))) h tw_420 h.nw.2.2.2.1 tw_264 (h.kk.2 6 _ rfl).2 (h.kk.2 1 _ rfl).2 (by decide) (by decide) (by decide) (by decide) (by decide) rfl (Nat.le_of_ble_eq_true rfl) (Nat.le_of_ble_eq_true rfl) (fun _ => rfl) dX4_init_9 (fun q26 => ?_)
  refine j_sub [0, 1] (ws' := [(h0, .inr (4, [.null, .null, .null, .null, .int 0])), (q26, .inl (kA 6, 10, .inr (.inr (.inr (.inr (nx_q q26 10))))))]) rfl rfl (by decide) [0] (lv' := [(0, .ref h0)]) rfl ?_
  show J x [(h0, .inr (4, [.null, .null, .null, .null, .int 0])), (q26, .inl (kA 6, 10, .inr (.inr (.inr (.inr (nx_q q26 10))))))] [(0, .ref h0)] 11 460 13 [.ref q26, .ref h0]
  refine j_putF (ws' := [(h0, .inr (4, [.ref q26, .null, .null, .null, .int 0])), (q26, .inl (kA 6, 10, .inr (.inr (.inr (.inr (nx_q q26 10))))))]) h iw_X4 tyX4 tyX4_ok nmX4 0 rfl rfl 0 (by decide) tw_421 rfl hnm rfl rfl rfl (Nat.le_of_ble_eq_true rfl) dX4_init_13 rfl ?_
  refine j_aload_n h 0 rfl rfl dX4_init_16 ?_
  refine j_bipush (v := 6) h (by decide) dX4_init_17 ?_
  refine j_newa (atype := .int) (a0 := (6, .inl (fun _ => 0))) h tw_264 rfl 1 rfl (fun _ => rfl) (by decide) (by decide) (by decide) (Nat.le_of_ble_eq_true rfl) (Nat.le_of_ble_eq_true rfl) dX4_init_19 (fun q27 => ?_)
  show J x [(h0, .inr (4, [.ref q26, .null, .null, .null, .int 0])), (q26, .inl (kA 6, 10, .inr (.inr (.inr (.inr (nx_q q26 10)))))), (q27, .inl (kA 1, 6, .inl (fun _ => 0)))] [(0, .ref h0)] 12 466 21 [.ref q27, .ref h0]
  refine j_putF (ws' := [(h0, .inr (4, [.ref q26, .ref q27, .null, .null, .int 0])), (q26, .inl (kA 6, 10, .inr (.inr (.inr (.inr (nx_q q26 10)))))), (q27, .inl (kA 1, 6, .inl (fun _ => 0)))]) h iw_X4 tyX4 tyX4_ok nmX4 0 rfl rfl 1 (by decide) tw_422 rfl hnm rfl rfl rfl (Nat.le_of_ble_eq_true rfl) dX4_init_21 rfl ?_
  refine j_aload_n h 0 rfl rfl dX4_init_24 ?_
  refine j_bipush (v := 60) h (by decide) dX4_init_25 ?_
  refine j_newa (atype := .int) (a0 := (60, .inl (fun _ => 0))) h tw_264 rfl 1 rfl (fun _ => rfl) (by decide) (by decide) (by decide) (Nat.le_of_ble_eq_true rfl) (Nat.le_of_ble_eq_true rfl) dX4_init_27 (fun q28 => ?_)
  show J x [(h0, .inr (4, [.ref q26, .ref q27, .null, .null, .int 0])), (q26, .inl (kA 6, 10, .inr (.inr (.inr (.inr (nx_q q26 10)))))), (q27, .inl (kA 1, 6, .inl (fun _ => 0))), (q28, .inl (kA 1, 60, .inl (fun _ => 0)))] [(0, .ref h0)] 13 526 29 [.ref q28, .ref h0]
  refine j_putF (ws' := [(h0, .inr (4, [.ref q26, .ref q27, .ref q28, .null, .int 0])), (q26, .inl (kA 6, 10, .inr (.inr (.inr (.inr (nx_q q26 10)))))), (q27, .inl (kA 1, 6, .inl (fun _ => 0))), (q28, .inl (kA 1, 60, .inl (fun _ => 0)))]) h iw_X4 tyX4 tyX4_ok nmX4 0 rfl rfl 2 (by decide) tw_423 rfl hnm rfl rfl rfl (Nat.le_of_ble_eq_true rfl) dX4_init_29 rfl ?_
  refine j_aload_n h 0 rfl rfl dX4_init_32 ?_
  refine j_iconst (v := 2) h (by decide) dX4_init_33 ?_
  refine j_newa (atype := .long) (a0 := (2, .inr (.inl (fun _ => 0)))) h tw_263 rfl 2 rfl (fun _ => rfl) (by decide) (by decide) (by decide) (Nat.le_of_ble_eq_true rfl) (Nat.le_of_ble_eq_true rfl) dX4_init_34 (fun q29 => ?_)
  show J x [(h0, .inr (4, [.ref q26, .ref q27, .ref q28, .null, .int 0])), (q26, .inl (kA 6, 10, .inr (.inr (.inr (.inr (nx_q q26 10)))))), (q27, .inl (kA 1, 6, .inl (fun _ => 0))), (q28, .inl (kA 1, 60, .inl (fun _ => 0))), (q29, .inl (kA 2, 2, .inr (.inl (fun _ => 0))))] [(0, .ref h0)] 14 528 36 [.ref q29, .ref h0]
  refine j_putF (ws' := [(h0, .inr (4, [.ref q26, .ref q27, .ref q28, .ref q29, .int 0])), (q26, .inl (kA 6, 10, .inr (.inr (.inr (.inr (nx_q q26 10)))))), (q27, .inl (kA 1, 6, .inl (fun _ => 0))), (q28, .inl (kA 1, 60, .inl (fun _ => 0))), (q29, .inl (kA 2, 2, .inr (.inl (fun _ => 0))))]) h iw_X4 tyX4 tyX4_ok nmX4 0 rfl rfl 3 (by decide) tw_424 rfl hnm rfl rfl rfl (Nat.le_of_ble_eq_true rfl) dX4_init_36 rfl ?_
  exact j_vret h hq dX4_init_39 (q26, q27, q28, q29) [0] rfl rfl (by decide) trivial (Nat.le_of_ble_eq_true rfl) (Nat.le_of_ble_eq_true rfl)
set_option maxHeartbeats 4000000 in
set_option maxRecDepth 100000 in
theorem c_X7_init (l : Launch) (g : va_G) (kA : Nat → ClassId) (h0 : Nat)  : CtV l yX7_init cX7_init 1 (none) 1 3 183 g kA [.ref h0] [(h0, .inr (7, [.null, .null, .null, .int 0]))] (S := Nat × Nat × Nat) (fun ((a0, a1, a2) : Nat × Nat × Nat) => True) (fun ((a0, a1, a2) : Nat × Nat × Nat) => [(h0, .inr (7, [.ref a0, .ref a1, .ref a2, .int 0]))]) := by
  refine nx_startV (by decide +kernel) (Nat.le_of_ble_eq_true rfl) ?_
  intro x hnm h hq
  have h : Ok x cX7_init RX7 kA (rmC 1 3 183) 1 := h
  show J x [(h0, .inr (7, [.null, .null, .null, .int 0]))] [(0, .ref h0)] 0 0 0 []
  refine j_aload_n h 0 rfl rfl dX7_init_0 ?_
  refine j_objInit h tw_442 tw_113 tw_114 (Nat.le_of_ble_eq_true rfl) (Nat.le_of_ble_eq_true rfl) (Nat.le_of_ble_eq_true rfl) dX7_init_1 ?_
  refine j_aload_n h 0 rfl rfl dX7_init_4 ?_
  refine j_bipush (v := 61) h (by decide) dX7_init_5 ?_
  refine j_newa (atype := .int) (a0 := (61, .inl (fun _ => 0))) h tw_264 rfl 1 rfl (fun _ => rfl) (by decide) (by decide) (by decide) (Nat.le_of_ble_eq_true rfl) (Nat.le_of_ble_eq_true rfl) dX7_init_7 (fun q30 => ?_)
  show J x [(h0, .inr (7, [.null, .null, .null, .int 0])), (q30, .inl (kA 1, 61, .inl (fun _ => 0)))] [(0, .ref h0)] 1 61 9 [.ref q30, .ref h0]
  refine j_putF (ws' := [(h0, .inr (7, [.ref q30, .null, .null, .int 0])), (q30, .inl (kA 1, 61, .inl (fun _ => 0)))]) h iw_X7 tyX7 tyX7_ok nmX7 0 rfl rfl 0 (by decide) tw_443 rfl hnm rfl rfl rfl (Nat.le_of_ble_eq_true rfl) dX7_init_9 rfl ?_
  refine j_aload_n h 0 rfl rfl dX7_init_12 ?_
  refine j_bipush (v := 61) h (by decide) dX7_init_13 ?_
  refine j_newa (atype := .int) (a0 := (61, .inl (fun _ => 0))) h tw_264 rfl 1 rfl (fun _ => rfl) (by decide) (by decide) (by decide) (Nat.le_of_ble_eq_true rfl) (Nat.le_of_ble_eq_true rfl) dX7_init_15 (fun q31 => ?_)
  show J x [(h0, .inr (7, [.ref q30, .null, .null, .int 0])), (q30, .inl (kA 1, 61, .inl (fun _ => 0))), (q31, .inl (kA 1, 61, .inl (fun _ => 0)))] [(0, .ref h0)] 2 122 17 [.ref q31, .ref h0]
  refine j_putF (ws' := [(h0, .inr (7, [.ref q30, .ref q31, .null, .int 0])), (q30, .inl (kA 1, 61, .inl (fun _ => 0))), (q31, .inl (kA 1, 61, .inl (fun _ => 0)))]) h iw_X7 tyX7 tyX7_ok nmX7 0 rfl rfl 1 (by decide) tw_444 rfl hnm rfl rfl rfl (Nat.le_of_ble_eq_true rfl) dX7_init_17 rfl ?_
  refine j_aload_n h 0 rfl rfl dX7_init_20 ?_
  refine j_bipush (v := 61) h (by decide) dX7_init_21 ?_
  refine j_newa (atype := .int) (a0 := (61, .inl (fun _ => 0))) h tw_264 rfl 1 rfl (fun _ => rfl) (by decide) (by decide) (by decide) (Nat.le_of_ble_eq_true rfl) (Nat.le_of_ble_eq_true rfl) dX7_init_23 (fun q32 => ?_)
  show J x [(h0, .inr (7, [.ref q30, .ref q31, .null, .int 0])), (q30, .inl (kA 1, 61, .inl (fun _ => 0))), (q31, .inl (kA 1, 61, .inl (fun _ => 0))), (q32, .inl (kA 1, 61, .inl (fun _ => 0)))] [(0, .ref h0)] 3 183 25 [.ref q32, .ref h0]
  refine j_putF (ws' := [(h0, .inr (7, [.ref q30, .ref q31, .ref q32, .int 0])), (q30, .inl (kA 1, 61, .inl (fun _ => 0))), (q31, .inl (kA 1, 61, .inl (fun _ => 0))), (q32, .inl (kA 1, 61, .inl (fun _ => 0)))]) h iw_X7 tyX7 tyX7_ok nmX7 0 rfl rfl 2 (by decide) tw_445 rfl hnm rfl rfl rfl (Nat.le_of_ble_eq_true rfl) dX7_init_25 rfl ?_
  exact j_vret h hq dX7_init_28 (q30, q31, q32) [0] rfl rfl (by decide) trivial (Nat.le_of_ble_eq_true rfl) (Nat.le_of_ble_eq_true rfl)
set_option maxHeartbeats 4000000 in
set_option maxRecDepth 100000 in
theorem c_X1_init (l : Launch) (g : va_G) (kA : Nat → ClassId) (h0 : Nat)  : CtV l yX1_init cX1_init 1 (none) 1 4 40 g kA [.ref h0] [(h0, .inr (1, [.null, .null, .null, .null]))] (S := Nat × Nat × Nat × Nat) (fun ((a0, a1, a2, a3) : Nat × Nat × Nat × Nat) => True) (fun ((a0, a1, a2, a3) : Nat × Nat × Nat × Nat) => [(h0, .inr (1, [.ref a0, .ref a1, .ref a2, .ref a3])), (a0, .inl (kA 1, 10, .inl (fun _ => 0))), (a3, .inl (kA 3, 10, .inl (fun _ => 0)))]) := by
  refine nx_startV (by decide +kernel) (Nat.le_of_ble_eq_true rfl) ?_
  intro x hnm h hq
  have h : Ok x cX1_init RX1 kA (rmC 1 4 40) 1 := h
  show J x [(h0, .inr (1, [.null, .null, .null, .null]))] [(0, .ref h0)] 0 0 0 []
  refine j_aload_n h 0 rfl rfl dX1_init_0 ?_
  refine j_objInit h tw_461 tw_113 tw_114 (Nat.le_of_ble_eq_true rfl) (Nat.le_of_ble_eq_true rfl) (Nat.le_of_ble_eq_true rfl) dX1_init_1 ?_
  refine j_aload_n h 0 rfl rfl dX1_init_4 ?_
  refine j_bipush (v := 10) h (by decide) dX1_init_5 ?_
  refine j_newa (atype := .int) (a0 := (10, .inl (fun _ => 0))) h tw_264 rfl 1 rfl (fun _ => rfl) (by decide) (by decide) (by decide) (Nat.le_of_ble_eq_true rfl) (Nat.le_of_ble_eq_true rfl) dX1_init_7 (fun q33 => ?_)
  show J x [(h0, .inr (1, [.null, .null, .null, .null])), (q33, .inl (kA 1, 10, .inl (fun _ => 0)))] [(0, .ref h0)] 1 10 9 [.ref q33, .ref h0]
  refine j_putF (ws' := [(h0, .inr (1, [.ref q33, .null, .null, .null])), (q33, .inl (kA 1, 10, .inl (fun _ => 0)))]) h iw_X1 tyX1 tyX1_ok nmX1 0 rfl rfl 0 (by decide) tw_462 rfl hnm rfl rfl rfl (Nat.le_of_ble_eq_true rfl) dX1_init_9 rfl ?_
  refine j_aload_n h 0 rfl rfl dX1_init_12 ?_
  refine j_bipush (v := 10) h (by decide) dX1_init_13 ?_
  refine j_newa (atype := .int) (a0 := (10, .inl (fun _ => 0))) h tw_264 rfl 1 rfl (fun _ => rfl) (by decide) (by decide) (by decide) (Nat.le_of_ble_eq_true rfl) (Nat.le_of_ble_eq_true rfl) dX1_init_15 (fun q34 => ?_)
  show J x [(h0, .inr (1, [.ref q33, .null, .null, .null])), (q33, .inl (kA 1, 10, .inl (fun _ => 0))), (q34, .inl (kA 1, 10, .inl (fun _ => 0)))] [(0, .ref h0)] 2 20 17 [.ref q34, .ref h0]
  refine j_putF (ws' := [(h0, .inr (1, [.ref q33, .ref q34, .null, .null])), (q33, .inl (kA 1, 10, .inl (fun _ => 0))), (q34, .inl (kA 1, 10, .inl (fun _ => 0)))]) h iw_X1 tyX1 tyX1_ok nmX1 0 rfl rfl 1 (by decide) tw_463 rfl hnm rfl rfl rfl (Nat.le_of_ble_eq_true rfl) dX1_init_17 rfl ?_
  refine j_aload_n h 0 rfl rfl dX1_init_20 ?_
  refine j_bipush (v := 10) h (by decide) dX1_init_21 ?_
  refine j_newa (atype := .int) (a0 := (10, .inl (fun _ => 0))) h tw_264 rfl 1 rfl (fun _ => rfl) (by decide) (by decide) (by decide) (Nat.le_of_ble_eq_true rfl) (Nat.le_of_ble_eq_true rfl) dX1_init_23 (fun q35 => ?_)
  show J x [(h0, .inr (1, [.ref q33, .ref q34, .null, .null])), (q33, .inl (kA 1, 10, .inl (fun _ => 0))), (q34, .inl (kA 1, 10, .inl (fun _ => 0))), (q35, .inl (kA 1, 10, .inl (fun _ => 0)))] [(0, .ref h0)] 3 30 25 [.ref q35, .ref h0]
  refine j_putF (ws' := [(h0, .inr (1, [.ref q33, .ref q34, .ref q35, .null])), (q33, .inl (kA 1, 10, .inl (fun _ => 0))), (q34, .inl (kA 1, 10, .inl (fun _ => 0))), (q35, .inl (kA 1, 10, .inl (fun _ => 0)))]) h iw_X1 tyX1 tyX1_ok nmX1 0 rfl rfl 2 (by decide) tw_464 rfl hnm rfl rfl rfl (Nat.le_of_ble_eq_true rfl) dX1_init_25 rfl ?_
  refine j_aload_n h 0 rfl rfl dX1_init_28 ?_
  refine j_bipush (v := 10) h (by decide) dX1_init_29 ?_
  refine j_newa (atype := .boolean) (a0 := (10, .inl (fun _ => 0))) h tw_367 rfl 3 rfl (fun _ => rfl) (by decide) (by decide) (by decide) (Nat.le_of_ble_eq_true rfl) (Nat.le_of_ble_eq_true rfl) dX1_init_31 (fun q36 => ?_)
  show J x [(h0, .inr (1, [.ref q33, .ref q34, .ref q35, .null])), (q33, .inl (kA 1, 10, .inl (fun _ => 0))), (q34, .inl (kA 1, 10, .inl (fun _ => 0))), (q35, .inl (kA 1, 10, .inl (fun _ => 0))), (q36, .inl (kA 3, 10, .inl (fun _ => 0)))] [(0, .ref h0)] 4 40 33 [.ref q36, .ref h0]
  refine j_putF (ws' := [(h0, .inr (1, [.ref q33, .ref q34, .ref q35, .ref q36])), (q33, .inl (kA 1, 10, .inl (fun _ => 0))), (q34, .inl (kA 1, 10, .inl (fun _ => 0))), (q35, .inl (kA 1, 10, .inl (fun _ => 0))), (q36, .inl (kA 3, 10, .inl (fun _ => 0)))]) h iw_X1 tyX1 tyX1_ok nmX1 0 rfl rfl 3 (by decide) tw_465 rfl hnm rfl rfl rfl (Nat.le_of_ble_eq_true rfl) dX1_init_33 rfl ?_
  exact j_vret h hq dX1_init_36 (q33, q34, q35, q36) [0, 1, 4] rfl rfl (by decide) trivial (Nat.le_of_ble_eq_true rfl) (Nat.le_of_ble_eq_true rfl)
set_option maxHeartbeats 4000000 in
set_option maxRecDepth 100000 in
theorem c_X3_init6 (l : Launch) (g : va_G) (kA : Nat → ClassId) (h0 : Nat)  : CtV l yX3_init cX3_init 2 (none) 1 28 898 g kA [.ref h0, .int 6] [(h0, .inr (3, [.null, .null, .null, .null, .null, .null, .null, .null, .int 0, .int 0, .int 0]))] (S := Nat × Nat × Nat × Nat × Nat × Nat × Nat × Nat) (fun ((a0, a1, a2, a3, a4, a5, a6, a7) : Nat × Nat × Nat × Nat × Nat × Nat × Nat × Nat) => True) (fun ((a0, a1, a2, a3, a4, a5, a6, a7) : Nat × Nat × Nat × Nat × Nat × Nat × Nat × Nat) => [(h0, .inr (3, [.ref a0, .ref a1, .ref a2, .ref a3, .ref a4, .ref a5, .ref a6, .ref a7, .int 0, .int 0, .int 0]))]) := by
  refine nx_startV (by decide +kernel) (Nat.le_of_ble_eq_true rfl) ?_
  intro x hnm h hq
  have h : Ok x cX3_init RX3 kA (rmC 1 28 898) 2 := h
  show J x [(h0, .inr (3, [.null, .null, .null, .null, .null, .null, .null, .null, .int 0, .int 0, .int 0]))] [(0, .ref h0), (1, .int 6)] 0 0 0 []
  refine j_aload_n h 0 rfl rfl dX3_init_0 ?_
  refine j_objInit h tw_373 tw_113 tw_114 (Nat.le_of_ble_eq_true rfl) (Nat.le_of_ble_eq_true rfl) (Nat.le_of_ble_eq_true rfl) dX3_init_1 ?_
  refine j_aload_n h 0 rfl rfl dX3_init_4 ?_
  refine j_bipush (v := 8) h (by decide) dX3_init_5 ?_
  refine j_bipush (v := 61) h (by decide) dX3_init_7 ?_
  refine j_multi (ty := .long) (cO := kA 7) (cy := kA 2) (N' := 8) (K' := 61) (z := (61, .inr (.inl (fun _ => 0)))) h tw_374 h.nw.2.2.2.2 tw_263 (h.kk.2 7 _ rfl).2 (h.kk.2 2 _ rfl).2 (by decide) (by decide) (by decide) (by decide) (by decide) rfl (Nat.le_of_ble_eq_true rfl) (Nat.le_of_ble_eq_true rfl) (fun _ => rfl) dX3_init_9 (fun q37 => ?_)
  refine j_sub [0, 1, 2, 3] (ws' := [(h0, .inr (3, [.null, .null, .null, .null, .null, .null, .null, .null, .int 0, .int 0, .int 0])), (q37, .inl (kA 7, 8, .inr (.inr (.inr (.inr (nx_q q37 8)))))), ((q37 + 1 + 0), .inl (kA 2, 61, .inr (.inl (fun _ => 0)))), ((q37 + 1 + 1), .inl (kA 2, 61, .inr (.inl (fun _ => 0))))]) rfl rfl (by decide) [0, 1] (lv' := [(0, .ref h0), (1, .int 6)]) rfl ?_
  show J x [(h0, .inr (3, [.null, .null, .null, .null, .null, .null, .null, .null, .int 0, .int 0, .int 0])), (q37, .inl (kA 7, 8, .inr (.inr (.inr (.inr (nx_q q37 8)))))), ((q37 + 1 + 0), .inl (kA 2, 61, .inr (.inl (fun _ => 0)))), ((q37 + 1 + 1), .inl (kA 2, 61, .inr (.inl (fun _ => 0))))] [(0, .ref h0), (1, .int 6)] 9 496 13 [.ref q37, .ref h0]
  refine j_putF (ws' := [(h0, .inr (3, [.null, .null, .null, .ref q37, .null, .null, .null, .null, .int 0, .int 0, .int 0])), (q37, .inl (kA 7, 8, .inr (.inr (.inr (.inr (nx_q q37 8)))))), ((q37 + 1 + 0), .inl (kA 2, 61, .inr (.inl (fun _ => 0)))), ((q37 + 1 + 1), .inl (kA 2, 61, .inr (.inl (fun _ => 0))))]) h iw_X3 tyX3 tyX3_ok nmX3 0 rfl rfl 3 (by decide) tw_382 rfl hnm rfl rfl rfl (Nat.le_of_ble_eq_true rfl) dX3_init_13 rfl ?_
  refine j_aload_n h 0 rfl rfl dX3_init_16 ?_
  refine j_iconst (v := 2) h (by decide) dX3_init_17 ?_
  refine j_newa (atype := .long) (a0 := (2, .inr (.inl (fun _ => 0)))) h tw_263 rfl 2 rfl (fun _ => rfl) (by decide) (by decide) (by decide) (Nat.le_of_ble_eq_true rfl) (Nat.le_of_ble_eq_true rfl) dX3_init_18 (fun q38 => ?_)
  show J x [(h0, .inr (3, [.null, .null, .null, .ref q37, .null, .null, .null, .null, .int 0, .int 0, .int 0])), (q37, .inl (kA 7, 8, .inr (.inr (.inr (.inr (nx_q q37 8)))))), ((q37 + 1 + 0), .inl (kA 2, 61, .inr (.inl (fun _ => 0)))), ((q37 + 1 + 1), .inl (kA 2, 61, .inr (.inl (fun _ => 0)))), (q38, .inl (kA 2, 2, .inr (.inl (fun _ => 0))))] [(0, .ref h0), (1, .int 6)] 10 498 20 [.ref q38, .ref h0]
  refine j_putF (ws' := [(h0, .inr (3, [.null, .null, .null, .ref q37, .null, .ref q38, .null, .null, .int 0, .int 0, .int 0])), (q37, .inl (kA 7, 8, .inr (.inr (.inr (.inr (nx_q q37 8)))))), ((q37 + 1 + 0), .inl (kA 2, 61, .inr (.inl (fun _ => 0)))), ((q37 + 1 + 1), .inl (kA 2, 61, .inr (.inl (fun _ => 0)))), (q38, .inl (kA 2, 2, .inr (.inl (fun _ => 0))))]) h iw_X3 tyX3 tyX3_ok nmX3 0 rfl rfl 5 (by decide) tw_384 rfl hnm rfl rfl rfl (Nat.le_of_ble_eq_true rfl) dX3_init_20 rfl ?_
  refine j_aload_n h 0 rfl rfl dX3_init_23 ?_
  refine j_iconst (v := 2) h (by decide) dX3_init_24 ?_
  refine j_newa (atype := .long) (a0 := (2, .inr (.inl (fun _ => 0)))) h tw_263 rfl 2 rfl (fun _ => rfl) (by decide) (by decide) (by decide) (Nat.le_of_ble_eq_true rfl) (Nat.le_of_ble_eq_true rfl) dX3_init_25 (fun q39 => ?_)
  show J x [(h0, .inr (3, [.null, .null, .null, .ref q37, .null, .ref q38, .null, .null, .int 0, .int 0, .int 0])), (q37, .inl (kA 7, 8, .inr (.inr (.inr (.inr (nx_q q37 8)))))), ((q37 + 1 + 0), .inl (kA 2, 61, .inr (.inl (fun _ => 0)))), ((q37 + 1 + 1), .inl (kA 2, 61, .inr (.inl (fun _ => 0)))), (q38, .inl (kA 2, 2, .inr (.inl (fun _ => 0)))), (q39, .inl (kA 2, 2, .inr (.inl (fun _ => 0))))] [(0, .ref h0), (1, .int 6)] 11 500 27 [.ref q39, .ref h0]
  refine j_putF (ws' := [(h0, .inr (3, [.null, .null, .null, .ref q37, .null, .ref q38, .ref q39, .null, .int 0, .int 0, .int 0])), (q37, .inl (kA 7, 8, .inr (.inr (.inr (.inr (nx_q q37 8)))))), ((q37 + 1 + 0), .inl (kA 2, 61, .inr (.inl (fun _ => 0)))), ((q37 + 1 + 1), .inl (kA 2, 61, .inr (.inl (fun _ => 0)))), (q38, .inl (kA 2, 2, .inr (.inl (fun _ => 0)))), (q39, .inl (kA 2, 2, .inr (.inl (fun _ => 0))))]) h iw_X3 tyX3 tyX3_ok nmX3 0 rfl rfl 6 (by decide) tw_385 rfl hnm rfl rfl rfl (Nat.le_of_ble_eq_true rfl) dX3_init_27 rfl ?_
  refine j_aload_n h 0 rfl rfl dX3_init_30 ?_
  refine j_iconst (v := 2) h (by decide) dX3_init_31 ?_
  refine j_newa (atype := .long) (a0 := (2, .inr (.inl (fun _ => 0)))) h tw_263 rfl 2 rfl (fun _ => rfl) (by decide) (by decide) (by decide) (Nat.le_of_ble_eq_true rfl) (Nat.le_of_ble_eq_true rfl) dX3_init_32 (fun q40 => ?_)
  show J x [(h0, .inr (3, [.null, .null, .null, .ref q37, .null, .ref q38, .ref q39, .null, .int 0, .int 0, .int 0])), (q37, .inl (kA 7, 8, .inr (.inr (.inr (.inr (nx_q q37 8)))))), ((q37 + 1 + 0), .inl (kA 2, 61, .inr (.inl (fun _ => 0)))), ((q37 + 1 + 1), .inl (kA 2, 61, .inr (.inl (fun _ => 0)))), (q38, .inl (kA 2, 2, .inr (.inl (fun _ => 0)))), (q39, .inl (kA 2, 2, .inr (.inl (fun _ => 0)))), (q40, .inl (kA 2, 2, .inr (.inl (fun _ => 0))))] [(0, .ref h0), (1, .int 6)] 12 502 34 [.ref q40, .ref h0]
  refine j_putF (ws' := [(h0, .inr (3, [.null, .null, .null, .ref q37, .null, .ref q38, .ref q39, .ref q40, .int 0, .int 0, .int 0])), (q37, .inl (kA 7, 8, .inr (.inr (.inr (.inr (nx_q q37 8)))))), ((q37 + 1 + 0), .inl (kA 2, 61, .inr (.inl (fun _ => 0)))), ((q37 + 1 + 1), .inl (kA 2, 61, .inr (.inl (fun _ => 0)))), (q38, .inl (kA 2, 2, .inr (.inl (fun _ => 0)))), (q39, .inl (kA 2, 2, .inr (.inl (fun _ => 0)))), (q40, .inl (kA 2, 2, .inr (.inl (fun _ => 0))))]) h iw_X3 tyX3 tyX3_ok nmX3 0 rfl rfl 7 (by decide) tw_386 rfl hnm rfl rfl rfl (Nat.le_of_ble_eq_true rfl) dX3_init_34 rfl ?_
  refine j_aload_n h 0 rfl rfl dX3_init_37 ?_
  refine j_iload_n h 1 rfl rfl dX3_init_38 ?_
  refine j_newa (atype := .int) (a0 := (6, .inl (fun _ => 0))) h tw_264 rfl 1 rfl (fun _ => rfl) (by decide) (by decide) (by decide) (Nat.le_of_ble_eq_true rfl) (Nat.le_of_ble_eq_true rfl) dX3_init_39 (fun q41 => ?_)
  show J x [(h0, .inr (3, [.null, .null, .null, .ref q37, .null, .ref q38, .ref q39, .ref q40, .int 0, .int 0, .int 0])), (q37, .inl (kA 7, 8, .inr (.inr (.inr (.inr (nx_q q37 8)))))), ((q37 + 1 + 0), .inl (kA 2, 61, .inr (.inl (fun _ => 0)))), ((q37 + 1 + 1), .inl (kA 2, 61, .inr (.inl (fun _ => 0)))), (q38, .inl (kA 2, 2, .inr (.inl (fun _ => 0)))), (q39, .inl (kA 2, 2, .inr (.inl (fun _ => 0)))), (q40, .inl (kA 2, 2, .inr (.inl (fun _ => 0)))), (q41, .inl (kA 1, 6, .inl (fun _ => 0)))] [(0, .ref h0), (1, .int 6)] 13 508 41 [.ref q41, .ref h0]
  refine j_putF (ws' := [(h0, .inr (3, [.ref q41, .null, .null, .ref q37, .null, .ref q38, .ref q39, .ref q40, .int 0, .int 0, .int 0])), (q37, .inl (kA 7, 8, .inr (.inr (.inr (.inr (nx_q q37 8)))))), ((q37 + 1 + 0), .inl (kA 2, 61, .inr (.inl (fun _ => 0)))), ((q37 + 1 + 1), .inl (kA 2, 61, .inr (.inl (fun _ => 0)))), (q38, .inl (kA 2, 2, .inr (.inl (fun _ => 0)))), (q39, .inl (kA 2, 2, .inr (.inl (fun _ => 0)))), (q40, .inl (kA 2, 2, .inr (.inl (fun _ => 0)))), (q41, .inl (kA 1, 6, .inl (fun _ => 0)))]) h iw_X3 tyX3 tyX3_ok nmX3 0 rfl rfl 0 (by decide) tw_377 rfl hnm rfl rfl rfl (Nat.le_of_ble_eq_true rfl) dX3_init_41 rfl ?_
  refine j_aload_n h 0 rfl rfl dX3_init_44 ?_
  refine j_iload_n h 1 rfl rfl dX3_init_45 ?_
  refine j_iconst (v := 2) h (by decide) dX3_init_46 ?_
  refine j_multi (ty := .int) (cO := kA 6) (cy := kA 1) (N' := 6) (K' := 2) (z := (2, .inl (fun _ => 0))) h tw_376 h.nw.2.2.2.1 tw_264 (h.kk.2 6 _ rfl).2 (h.kk.2 1 _ rfl).2 (by decide) (by decide) (by decide) (by decide) (by decide) rfl (Nat.le_of_ble_eq_true rfl) (Nat.le_of_ble_eq_true rfl) (fun _ => rfl) dX3_init_47 (fun q42 => ?_)
  refine j_sub [0, 1, 2, 3, 4, 5, 6, 7, 8] (ws' := [(h0, .inr (3, [.ref q41, .null, .null, .ref q37, .null, .ref q38, .ref q39, .ref q40, .int 0, .int 0, .int 0])), (q37, .inl (kA 7, 8, .inr (.inr (.inr (.inr (nx_q q37 8)))))), ((q37 + 1 + 0), .inl (kA 2, 61, .inr (.inl (fun _ => 0)))), ((q37 + 1 + 1), .inl (kA 2, 61, .inr (.inl (fun _ => 0)))), (q38, .inl (kA 2, 2, .inr (.inl (fun _ => 0)))), (q39, .inl (kA 2, 2, .inr (.inl (fun _ => 0)))), (q40, .inl (kA 2, 2, .inr (.inl (fun _ => 0)))), (q41, .inl (kA 1, 6, .inl (fun _ => 0))), (q42, .inl (kA 6, 6, .inr (.inr (.inr (.inr (nx_q q42 6))))))]) rfl rfl (by decide) [0, 1] (lv' := [(0, .ref h0), (1, .int 6)]) rfl ?_
  show J x [(h0, .inr (3, [.ref q41, .null, .null, .ref q37, .null, .ref q38, .ref q39, .ref q40, .int 0, .int 0, .int 0])), (q37, .inl (kA 7, 8, .inr (.inr (.inr (.inr (nx_q q37 8)))))), ((q37 + 1 + 0), .inl (kA 2, 61, .inr (.inl (fun _ => 0)))), ((q37 + 1 + 1), .inl (kA 2, 61, .inr (.inl (fun _ => 0)))), (q38, .inl (kA 2, 2, .inr (.inl (fun _ => 0)))), (q39, .inl (kA 2, 2, .inr (.inl (fun _ => 0)))), (q40, .inl (kA 2, 2, .inr (.inl (fun _ => 0)))), (q41, .inl (kA 1, 6, .inl (fun _ => 0))), (q42, .inl (kA 6, 6, .inr (.inr (.inr (.inr (nx_q q42 6))))))] [(0, .ref h0), (1, .int 6)] 20 526 51 [.ref q42, .ref h0]
  refine j_putF (ws' := [(h0, .inr (3, [.ref q41, .ref q42, .null, .ref q37, .null, .ref q38, .ref q39, .ref q40, .int 0, .int 0, .int 0])), (q37, .inl (kA 7, 8, .inr (.inr (.inr (.inr (nx_q q37 8)))))), ((q37 + 1 + 0), .inl (kA 2, 61, .inr (.inl (fun _ => 0)))), ((q37 + 1 + 1), .inl (kA 2, 61, .inr (.inl (fun _ => 0)))), (q38, .inl (kA 2, 2, .inr (.inl (fun _ => 0)))), (q39, .inl (kA 2, 2, .inr (.inl (fun _ => 0)))), (q40, .inl (kA 2, 2, .inr (.inl (fun _ => 0)))), (q41, .inl (kA 1, 6, .inl (fun _ => 0))), (q42, .inl (kA 6, 6, .inr (.inr (.inr (.inr (nx_q q42 6))))))]) h iw_X3 tyX3 tyX3_ok nmX3 0 rfl rfl 1 (by decide) tw_379 rfl hnm rfl rfl rfl (Nat.le_of_ble_eq_true rfl) dX3_init_51 rfl ?_
  refine j_aload_n h 0 rfl rfl dX3_init_54 ?_
  refine j_iload_n h 1 rfl rfl dX3_init_55 ?_
  refine j_bipush (v := 60) h (by decide) dX3_init_56 ?_
  refine j_multi (ty := .int) (cO := kA 6) (cy := kA 1) (N' := 6) (K' := 60) (z := (60, .inl (fun _ => 0))) h tw_376 h.nw.2.2.2.1 tw_264 (h.kk.2 6 _ rfl).2 (h.kk.2 1 _ rfl).2 (by decide) (by decide) (by decide) (by decide) (by decide) rfl (Nat.le_of_ble_eq_true rfl) (Nat.le_of_ble_eq_true rfl) (fun _ => rfl) dX3_init_58 (fun q43 => ?_)
  refine j_sub [0, 1, 2, 3, 4, 5, 6, 7, 8, 9] (ws' := [(h0, .inr (3, [.ref q41, .ref q42, .null, .ref q37, .null, .ref q38, .ref q39, .ref q40, .int 0, .int 0, .int 0])), (q37, .inl (kA 7, 8, .inr (.inr (.inr (.inr (nx_q q37 8)))))), ((q37 + 1 + 0), .inl (kA 2, 61, .inr (.inl (fun _ => 0)))), ((q37 + 1 + 1), .inl (kA 2, 61, .inr (.inl (fun _ => 0)))), (q38, .inl (kA 2, 2, .inr (.inl (fun _ => 0)))), (q39, .inl (kA 2, 2, .inr (.inl (fun _ => 0)))), (q40, .inl (kA 2, 2, .inr (.inl (fun _ => 0)))), (q41, .inl (kA 1, 6, .inl (fun _ => 0))), (q42, .inl (kA 6, 6, .inr (.inr (.inr (.inr (nx_q q42 6)))))), (q43, .inl (kA 6, 6, .inr (.inr (.inr (.inr (nx_q q43 6))))))]) rfl rfl (by decide) [0, 1] (lv' := [(0, .ref h0), (1, .int 6)]) rfl ?_
  show J x [(h0, .inr (3, [.ref q41, .ref q42, .null, .ref q37, .null, .ref q38, .ref q39, .ref q40, .int 0, .int 0, .int 0])), (q37, .inl (kA 7, 8, .inr (.inr (.inr (.inr (nx_q q37 8)))))), ((q37 + 1 + 0), .inl (kA 2, 61, .inr (.inl (fun _ => 0)))), ((q37 + 1 + 1), .inl (kA 2, 61, .inr (.inl (fun _ => 0)))), (q38, .inl (kA 2, 2, .inr (.inl (fun _ => 0)))), (q39, .inl (kA 2, 2, .inr (.inl (fun _ => 0)))), (q40, .inl (kA 2, 2, .inr (.inl (fun _ => 0)))), (q41, .inl (kA 1, 6, .inl (fun _ => 0))), (q42, .inl (kA 6, 6, .inr (.inr (.inr (.inr (nx_q q42 6)))))), (q43, .inl (kA 6, 6, .inr (.inr (.inr (.inr (nx_q q43 6))))))] [(0, .ref h0), (1, .int 6)] 27 892 62 [.ref q43, .ref h0]
  refine j_putF (ws' := [(h0, .inr (3, [.ref q41, .ref q42, .ref q43, .ref q37, .null, .ref q38, .ref q39, .ref q40, .int 0, .int 0, .int 0])), (q37, .inl (kA 7, 8, .inr (.inr (.inr (.inr (nx_q q37 8)))))), ((q37 + 1 + 0), .inl (kA 2, 61, .inr (.inl (fun _ => 0)))), ((q37 + 1 + 1), .inl (kA 2, 61, .inr (.inl (fun _ => 0)))), (q38, .inl (kA 2, 2, .inr (.inl (fun _ => 0)))), (q39, .inl (kA 2, 2, .inr (.inl (fun _ => 0)))), (q40, .inl (kA 2, 2, .inr (.inl (fun _ => 0)))), (q41, .inl (kA 1, 6, .inl (fun _ => 0))), (q42, .inl (kA 6, 6, .inr (.inr (.inr (.inr (nx_q q42 6)))))), (q43, .inl (kA 6, 6, .inr (.inr (.inr (.inr (nx_q q43 6))))))]) h iw_X3 tyX3 tyX3_ok nmX3 0 rfl rfl 2 (by decide) tw_381 rfl hnm rfl rfl rfl (Nat.le_of_ble_eq_true rfl) dX3_init_62 rfl ?_
  refine j_aload_n h 0 rfl rfl dX3_init_65 ?_
  refine j_iload_n h 1 rfl rfl dX3_init_66 ?_
  refine j_newa (atype := .long) (a0 := (6, .inr (.inl (fun _ => 0)))) h tw_263 rfl 2 rfl (fun _ => rfl) (by decide) (by decide) (by decide) (Nat.le_of_ble_eq_true rfl) (Nat.le_of_ble_eq_true rfl) dX3_init_67 (fun q44 => ?_)
  show J x [(h0, .inr (3, [.ref q41, .ref q42, .ref q43, .ref q37, .null, .ref q38, .ref q39, .ref q40, .int 0, .int 0, .int 0])), (q37, .inl (kA 7, 8, .inr (.inr (.inr (.inr (nx_q q37 8)))))), ((q37 + 1 + 0), .inl (kA 2, 61, .inr (.inl (fun _ => 0)))), ((q37 + 1 + 1), .inl (kA 2, 61, .inr (.inl (fun _ => 0)))), (q38, .inl (kA 2, 2, .inr (.inl (fun _ => 0)))), (q39, .inl (kA 2, 2, .inr (.inl (fun _ => 0)))), (q40, .inl (kA 2, 2, .inr (.inl (fun _ => 0)))), (q41, .inl (kA 1, 6, .inl (fun _ => 0))), (q42, .inl (kA 6, 6, .inr (.inr (.inr (.inr (nx_q q42 6)))))), (q43, .inl (kA 6, 6, .inr (.inr (.inr (.inr (nx_q q43 6)))))), (q44, .inl (kA 2, 6, .inr (.inl (fun _ => 0))))] [(0, .ref h0), (1, .int 6)] 28 898 69 [.ref q44, .ref h0]
  refine j_putF (ws' := [(h0, .inr (3, [.ref q41, .ref q42, .ref q43, .ref q37, .ref q44, .ref q38, .ref q39, .ref q40, .int 0, .int 0, .int 0])), (q37, .inl (kA 7, 8, .inr (.inr (.inr (.inr (nx_q q37 8)))))), ((q37 + 1 + 0), .inl (kA 2, 61, .inr (.inl (fun _ => 0)))), ((q37 + 1 + 1), .inl (kA 2, 61, .inr (.inl (fun _ => 0)))), (q38, .inl (kA 2, 2, .inr (.inl (fun _ => 0)))), (q39, .inl (kA 2, 2, .inr (.inl (fun _ => 0)))), (q40, .inl (kA 2, 2, .inr (.inl (fun _ => 0)))), (q41, .inl (kA 1, 6, .inl (fun _ => 0))), (q42, .inl (kA 6, 6, .inr (.inr (.inr (.inr (nx_q q42 6)))))), (q43, .inl (kA 6, 6, .inr (.inr (.inr (.inr (nx_q q43 6)))))), (q44, .inl (kA 2, 6, .inr (.inl (fun _ => 0))))]) h iw_X3 tyX3 tyX3_ok nmX3 0 rfl rfl 4 (by decide) tw_383 rfl hnm rfl rfl rfl (Nat.le_of_ble_eq_true rfl) dX3_init_69 rfl ?_
  exact j_vret h hq dX3_init_72 (q41, q42, q43, q37, q44, q38, q39, q40) [0] rfl rfl (by decide) trivial (Nat.le_of_ble_eq_true rfl) (Nat.le_of_ble_eq_true rfl)
set_option maxHeartbeats 4000000 in
set_option maxRecDepth 100000 in
theorem c_X3_init10 (l : Launch) (g : va_G) (kA : Nat → ClassId) (h0 : Nat)  : CtV l yX3_init cX3_init 2 (none) 1 36 1162 g kA [.ref h0, .int 10] [(h0, .inr (3, [.null, .null, .null, .null, .null, .null, .null, .null, .int 0, .int 0, .int 0]))] (S := Nat × Nat × Nat × Nat × Nat × Nat × Nat × Nat) (fun ((a0, a1, a2, a3, a4, a5, a6, a7) : Nat × Nat × Nat × Nat × Nat × Nat × Nat × Nat) => True) (fun ((a0, a1, a2, a3, a4, a5, a6, a7) : Nat × Nat × Nat × Nat × Nat × Nat × Nat × Nat) => [(h0, .inr (3, [.ref a0, .ref a1, .ref a2, .ref a3, .ref a4, .ref a5, .ref a6, .ref a7, .int 0, .int 0, .int 0])), (a3, .inl (kA 7, 8, .inr (.inr (.inr (.inr (nx_q a3 8)))))), ((a3 + 1 + 0), .inl (kA 2, 61, .inr (.inl (fun _ => 0)))), ((a3 + 1 + 1), .inl (kA 2, 61, .inr (.inl (fun _ => 0)))), (a5, .inl (kA 2, 2, .inr (.inl (fun _ => 0)))), (a6, .inl (kA 2, 2, .inr (.inl (fun _ => 0)))), (a7, .inl (kA 2, 2, .inr (.inl (fun _ => 0))))]) := by
  refine nx_startV (by decide +kernel) (Nat.le_of_ble_eq_true rfl) ?_
  intro x hnm h hq
  have h : Ok x cX3_init RX3 kA (rmC 1 36 1162) 2 := h
  show J x [(h0, .inr (3, [.null, .null, .null, .null, .null, .null, .null, .null, .int 0, .int 0, .int 0]))] [(0, .ref h0), (1, .int 10)] 0 0 0 []
  refine j_aload_n h 0 rfl rfl dX3_init_0 ?_
  refine j_objInit h tw_373 tw_113 tw_114 (Nat.le_of_ble_eq_true rfl) (Nat.le_of_ble_eq_true rfl) (Nat.le_of_ble_eq_true rfl) dX3_init_1 ?_
  refine j_aload_n h 0 rfl rfl dX3_init_4 ?_
  refine j_bipush (v := 8) h (by decide) dX3_init_5 ?_
  refine j_bipush (v := 61) h (by decide) dX3_init_7 ?_
  refine j_multi (ty := .long) (cO := kA 7) (cy := kA 2) (N' := 8) (K' := 61) (z := (61, .inr (.inl (fun _ => 0)))) h tw_374 h.nw.2.2.2.2 tw_263 (h.kk.2 7 _ rfl).2 (h.kk.2 2 _ rfl).2 (by decide) (by decide) (by decide) (by decide) (by decide) rfl (Nat.le_of_ble_eq_true rfl) (Nat.le_of_ble_eq_true rfl) (fun _ => rfl) dX3_init_9 (fun q45 => ?_)
  refine j_sub [0, 1, 2, 3] (ws' := [(h0, .inr (3, [.null, .null, .null, .null, .null, .null, .null, .null, .int 0, .int 0, .int 0])), (q45, .inl (kA 7, 8, .inr (.inr (.inr (.inr (nx_q q45 8)))))), ((q45 + 1 + 0), .inl (kA 2, 61, .inr (.inl (fun _ => 0)))), ((q45 + 1 + 1), .inl (kA 2, 61, .inr (.inl (fun _ => 0))))]) rfl rfl (by decide) [0, 1] (lv' := [(0, .ref h0), (1, .int 10)]) rfl ?_
  show J x [(h0, .inr (3, [.null, .null, .null, .null, .null, .null, .null, .null, .int 0, .int 0, .int 0])), (q45, .inl (kA 7, 8, .inr (.inr (.inr (.inr (nx_q q45 8)))))), ((q45 + 1 + 0), .inl (kA 2, 61, .inr (.inl (fun _ => 0)))), ((q45 + 1 + 1), .inl (kA 2, 61, .inr (.inl (fun _ => 0))))] [(0, .ref h0), (1, .int 10)] 9 496 13 [.ref q45, .ref h0]
  refine j_putF (ws' := [(h0, .inr (3, [.null, .null, .null, .ref q45, .null, .null, .null, .null, .int 0, .int 0, .int 0])), (q45, .inl (kA 7, 8, .inr (.inr (.inr (.inr (nx_q q45 8)))))), ((q45 + 1 + 0), .inl (kA 2, 61, .inr (.inl (fun _ => 0)))), ((q45 + 1 + 1), .inl (kA 2, 61, .inr (.inl (fun _ => 0))))]) h iw_X3 tyX3 tyX3_ok nmX3 0 rfl rfl 3 (by decide) tw_382 rfl hnm rfl rfl rfl (Nat.le_of_ble_eq_true rfl) dX3_init_13 rfl ?_
  refine j_aload_n h 0 rfl rfl dX3_init_16 ?_
  refine j_iconst (v := 2) h (by decide) dX3_init_17 ?_
  refine j_newa (atype := .long) (a0 := (2, .inr (.inl (fun _ => 0)))) h tw_263 rfl 2 rfl (fun _ => rfl) (by decide) (by decide) (by decide) (Nat.le_of_ble_eq_true rfl) (Nat.le_of_ble_eq_true rfl) dX3_init_18 (fun q46 => ?_)
  show J x [(h0, .inr (3, [.null, .null, .null, .ref q45, .null, .null, .null, .null, .int 0, .int 0, .int 0])), (q45, .inl (kA 7, 8, .inr (.inr (.inr (.inr (nx_q q45 8)))))), ((q45 + 1 + 0), .inl (kA 2, 61, .inr (.inl (fun _ => 0)))), ((q45 + 1 + 1), .inl (kA 2, 61, .inr (.inl (fun _ => 0)))), (q46, .inl (kA 2, 2, .inr (.inl (fun _ => 0))))] [(0, .ref h0), (1, .int 10)] 10 498 20 [.ref q46, .ref h0]
  refine j_putF (ws' := [(h0, .inr (3, [.null, .null, .null, .ref q45, .null, .ref q46, .null, .null, .int 0, .int 0, .int 0])), (q45, .inl (kA 7, 8, .inr (.inr (.inr (.inr (nx_q q45 8)))))), ((q45 + 1 + 0), .inl (kA 2, 61, .inr (.inl (fun _ => 0)))), ((q45 + 1 + 1), .inl (kA 2, 61, .inr (.inl (fun _ => 0)))), (q46, .inl (kA 2, 2, .inr (.inl (fun _ => 0))))]) h iw_X3 tyX3 tyX3_ok nmX3 0 rfl rfl 5 (by decide) tw_384 rfl hnm rfl rfl rfl (Nat.le_of_ble_eq_true rfl) dX3_init_20 rfl ?_
  refine j_aload_n h 0 rfl rfl dX3_init_23 ?_
  refine j_iconst (v := 2) h (by decide) dX3_init_24 ?_
  refine j_newa (atype := .long) (a0 := (2, .inr (.inl (fun _ => 0)))) h tw_263 rfl 2 rfl (fun _ => rfl) (by decide) (by decide) (by decide) (Nat.le_of_ble_eq_true rfl) (Nat.le_of_ble_eq_true rfl) dX3_init_25 (fun q47 => ?_)
  show J x [(h0, .inr (3, [.null, .null, .null, .ref q45, .null, .ref q46, .null, .null, .int 0, .int 0, .int 0])), (q45, .inl (kA 7, 8, .inr (.inr (.inr (.inr (nx_q q45 8)))))), ((q45 + 1 + 0), .inl (kA 2, 61, .inr (.inl (fun _ => 0)))), ((q45 + 1 + 1), .inl (kA 2, 61, .inr (.inl (fun _ => 0)))), (q46, .inl (kA 2, 2, .inr (.inl (fun _ => 0)))), (q47, .inl (kA 2, 2, .inr (.inl (fun _ => 0))))] [(0, .ref h0), (1, .int 10)] 11 500 27 [.ref q47, .ref h0]
  refine j_putF (ws' := [(h0, .inr (3, [.null, .null, .null, .ref q45, .null, .ref q46, .ref q47, .null, .int 0, .int 0, .int 0])), (q45, .inl (kA 7, 8, .inr (.inr (.inr (.inr (nx_q q45 8)))))), ((q45 + 1 + 0), .inl (kA 2, 61, .inr (.inl (fun _ => 0)))), ((q45 + 1 + 1), .inl (kA 2, 61, .inr (.inl (fun _ => 0)))), (q46, .inl (kA 2, 2, .inr (.inl (fun _ => 0)))), (q47, .inl (kA 2, 2, .inr (.inl (fun _ => 0))))]) h iw_X3 tyX3 tyX3_ok nmX3 0 rfl rfl 6 (by decide) tw_385 rfl hnm rfl rfl rfl (Nat.le_of_ble_eq_true rfl) dX3_init_27 rfl ?_
  refine j_aload_n h 0 rfl rfl dX3_init_30 ?_
  refine j_iconst (v := 2) h (by decide) dX3_init_31 ?_
  refine j_newa (atype := .long) (a0 := (2, .inr (.inl (fun _ => 0)))) h tw_263 rfl 2 rfl (fun _ => rfl) (by decide) (by decide) (by decide) (Nat.le_of_ble_eq_true rfl) (Nat.le_of_ble_eq_true rfl) dX3_init_32 (fun q48 => ?_)
  show J x [(h0, .inr (3, [.null, .null, .null, .ref q45, .null, .ref q46, .ref q47, .null, .int 0, .int 0, .int 0])), (q45, .inl (kA 7, 8, .inr (.inr (.inr (.inr (nx_q q45 8)))))), ((q45 + 1 + 0), .inl (kA 2, 61, .inr (.inl (fun _ => 0)))), ((q45 + 1 + 1), .inl (kA 2, 61, .inr (.inl (fun _ => 0)))), (q46, .inl (kA 2, 2, .inr (.inl (fun _ => 0)))), (q47, .inl (kA 2, 2, .inr (.inl (fun _ => 0)))), (q48, .inl (kA 2, 2, .inr (.inl (fun _ => 0))))] [(0, .ref h0), (1, .int 10)] 12 502 34 [.ref q48, .ref h0]
  refine j_putF (ws' := [(h0, .inr (3, [.null, .null, .null, .ref q45, .null, .ref q46, .ref q47, .ref q48, .int 0, .int 0, .int 0])), (q45, .inl (kA 7, 8, .inr (.inr (.inr (.inr (nx_q q45 8)))))), ((q45 + 1 + 0), .inl (kA 2, 61, .inr (.inl (fun _ => 0)))), ((q45 + 1 + 1), .inl (kA 2, 61, .inr (.inl (fun _ => 0)))), (q46, .inl (kA 2, 2, .inr (.inl (fun _ => 0)))), (q47, .inl (kA 2, 2, .inr (.inl (fun _ => 0)))), (q48, .inl (kA 2, 2, .inr (.inl (fun _ => 0))))]) h iw_X3 tyX3 tyX3_ok nmX3 0 rfl rfl 7 (by decide) tw_386 rfl hnm rfl rfl rfl (Nat.le_of_ble_eq_true rfl) dX3_init_34 rfl ?_
  refine j_aload_n h 0 rfl rfl dX3_init_37 ?_
  refine j_iload_n h 1 rfl rfl dX3_init_38 ?_
  refine j_newa (atype := .int) (a0 := (10, .inl (fun _ => 0))) h tw_264 rfl 1 rfl (fun _ => rfl) (by decide) (by decide) (by decide) (Nat.le_of_ble_eq_true rfl) (Nat.le_of_ble_eq_true rfl) dX3_init_39 (fun q49 => ?_)
  show J x [(h0, .inr (3, [.null, .null, .null, .ref q45, .null, .ref q46, .ref q47, .ref q48, .int 0, .int 0, .int 0])), (q45, .inl (kA 7, 8, .inr (.inr (.inr (.inr (nx_q q45 8)))))), ((q45 + 1 + 0), .inl (kA 2, 61, .inr (.inl (fun _ => 0)))), ((q45 + 1 + 1), .inl (kA 2, 61, .inr (.inl (fun _ => 0)))), (q46, .inl (kA 2, 2, .inr (.inl (fun _ => 0)))), (q47, .inl (kA 2, 2, .inr (.inl (fun _ => 0)))), (q48, .inl (kA 2, 2, .inr (.inl (fun _ => 0)))), (q49, .inl (kA 1, 10, .inl (fun _ => 0)))] [(0, .ref h0), (1, .int 10)] 13 512 41 [.ref q49, .ref h0]
  refine j_putF (ws' := [(h0, .inr (3, [.ref q49, .null, .null, .ref q45, .null, .ref q46, .ref q47, .ref q48, .int 0, .int 0, .int 0])), (q45, .inl (kA 7, 8, .inr (.inr (.inr (.inr (nx_q q45 8)))))), ((q45 + 1 + 0), .inl (kA 2, 61, .inr (.inl (fun _ => 0)))), ((q45 + 1 + 1), .inl (kA 2, 61, .inr (.inl (fun _ => 0)))), (q46, .inl (kA 2, 2, .inr (.inl (fun _ => 0)))), (q47, .inl (kA 2, 2, .inr (.inl (fun _ => 0)))), (q48, .inl (kA 2, 2, .inr (.inl (fun _ => 0)))), (q49, .inl (kA 1, 10, .inl (fun _ => 0)))]) h iw_X3 tyX3 tyX3_ok nmX3 0 rfl rfl 0 (by decide) tw_377 rfl hnm rfl rfl rfl (Nat.le_of_ble_eq_true rfl) dX3_init_41 rfl ?_
  refine j_aload_n h 0 rfl rfl dX3_init_44 ?_
  refine j_iload_n h 1 rfl rfl dX3_init_45 ?_
  refine j_iconst (v := 2) h (by decide) dX3_init_46 ?_
  refine j_multi (ty := .int) (cO := kA 6) (cy := kA 1) (N' := 10) (K' := 2) (z := (2, .inl (fun _ => 0))) h tw_376 h.nw.2.2.2.1 tw_264 (h.kk.2 6 _ rfl).2 (h.kk.2 1 _ rfl).2 (by decide) (by decide) (by decide) (by decide) (by decide) rfl (Nat.le_of_ble_eq_true rfl) (Nat.le_of_ble_eq_true rfl) (fun _ => rfl) dX3_init_47 (fun q50 => ?_)
  refine j_sub [0, 1, 2, 3, 4, 5, 6, 7, 8] (ws' := [(h0, .inr (3, [.ref q49, .null, .null, .ref q45, .null, .ref q46, .ref q47, .ref q48, .int 0, .int 0, .int 0])), (q45, .inl (kA 7, 8, .inr (.inr (.inr (.inr (nx_q q45 8)))))), ((q45 + 1 + 0), .inl (kA 2, 61, .inr (.inl (fun _ => 0)))), ((q45 + 1 + 1), .inl (kA 2, 61, .inr (.inl (fun _ => 0)))), (q46, .inl (kA 2, 2, .inr (.inl (fun _ => 0)))), (q47, .inl (kA 2, 2, .inr (.inl (fun _ => 0)))), (q48, .inl (kA 2, 2, .inr (.inl (fun _ => 0)))), (q49, .inl (kA 1, 10, .inl (fun _ => 0))), (q50, .inl (kA 6, 10, .inr (.inr (.inr (.inr (nx_q q50 10))))))]) rfl rfl (by decide) [0, 1] (lv' := [(0, .ref h0), (1, .int 10)]) rfl ?_
  show J x [(h0, .inr (3, [.ref q49, .null, .null, .ref q45, .null, .ref q46, .ref q47, .ref q48, .int 0, .int 0, .int 0])), (q45, .inl (kA 7, 8, .inr (.inr (.inr (.inr (nx_q q45 8)))))), ((q45 + 1 + 0), .inl (kA 2, 61, .inr (.inl (fun _ => 0)))), ((q45 + 1 + 1), .inl (kA 2, 61, .inr (.inl (fun _ => 0)))), (q46, .inl (kA 2, 2, .inr (.inl (fun _ => 0)))), (q47, .inl (kA 2, 2, .inr (.inl (fun _ => 0)))), (q48, .inl (kA 2, 2, .inr (.inl (fun _ => 0)))), (q49, .inl (kA 1, 10, .inl (fun _ => 0))), (q50, .inl (kA 6, 10, .inr (.inr (.inr (.inr (nx_q q50 10))))))] [(0, .ref h0), (1, .int 10)] 24 542 51 [.ref q50, .ref h0]
  refine j_putF (ws' := [(h0, .inr (3, [.ref q49, .ref q50, .null, .ref q45, .null, .ref q46, .ref q47, .ref q48, .int 0, .int 0, .int 0])), (q45, .inl (kA 7, 8, .inr (.inr (.inr (.inr (nx_q q45 8)))))), ((q45 + 1 + 0), .inl (kA 2, 61, .inr (.inl (fun _ => 0)))), ((q45 + 1 + 1), .inl (kA 2, 61, .inr (.inl (fun _ => 0)))), (q46, .inl (kA 2, 2, .inr (.inl (fun _ => 0)))), (q47, .inl (kA 2, 2, .inr (.inl (fun _ => 0)))), (q48, .inl (kA 2, 2, .inr (.inl (fun _ => 0)))), (q49, .inl (kA 1, 10, .inl (fun _ => 0))), (q50, .inl (kA 6, 10, .inr (.inr (.inr (.inr (nx_q q50 10))))))]) h iw_X3 tyX3 tyX3_ok nmX3 0 rfl rfl 1 (by decide) tw_379 rfl hnm rfl rfl rfl (Nat.le_of_ble_eq_true rfl) dX3_init_51 rfl ?_
  refine j_aload_n h 0 rfl rfl dX3_init_54 ?_
  refine j_iload_n h 1 rfl rfl dX3_init_55 ?_
  refine j_bipush (v := 60) h (by decide) dX3_init_56 ?_
  refine j_multi (ty := .int) (cO := kA 6) (cy := kA 1) (N' := 10) (K' := 60) (z := (60, .inl (fun _ => 0))) h tw_376 h.nw.2.2.2.1 tw_264 (h.kk.2 6 _ rfl).2 (h.kk.2 1 _ rfl).2 (by decide) (by decide) (by decide) (by decide) (by decide) rfl (Nat.le_of_ble_eq_true rfl) (Nat.le_of_ble_eq_true rfl) (fun _ => rfl) dX3_init_58 (fun q51 => ?_)
  refine j_sub [0, 1, 2, 3, 4, 5, 6, 7, 8, 9] (ws' := [(h0, .inr (3, [.ref q49, .ref q50, .null, .ref q45, .null, .ref q46, .ref q47, .ref q48, .int 0, .int 0, .int 0])), (q45, .inl (kA 7, 8, .inr (.inr (.inr (.inr (nx_q q45 8)))))), ((q45 + 1 + 0), .inl (kA 2, 61, .inr (.inl (fun _ => 0)))), ((q45 + 1 + 1), .inl (kA 2, 61, .inr (.inl (fun _ => 0)))), (q46, .inl (kA 2, 2, .inr (.inl (fun _ => 0)))), (q47, .inl (kA 2, 2, .inr (.inl (fun _ => 0)))), (q48, .inl (kA 2, 2, .inr (.inl (fun _ => 0)))), (q49, .inl (kA 1, 10, .inl (fun _ => 0))), (q50, .inl (kA 6, 10, .inr (.inr (.inr (.inr (nx_q q50 10)))))), (q51, .inl (kA 6, 10, .inr (.inr (.inr (.inr (nx_q q51 10))))))]) rfl rfl (by decide) [0, 1] (lv' := [(0, .ref h0), (1, .int 10)]) rfl ?_
  show J x [(h0, .inr (3, [.ref q49, .ref q50, .null, .ref q45, .null, .ref q46, .ref q47, .ref q48, .int 0, .int 0, .int 0])), (q45, .inl (kA 7, 8, .inr (.inr (.inr (.inr (nx_q q45 8)))))), ((q45 + 1 + 0), .inl (kA 2, 61, .inr (.inl (fun _ => 0)))), ((q45 + 1 + 1), .inl (kA 2, 61, .inr (.inl (fun _ => 0)))), (q46, .inl (kA 2, 2, .inr (.inl (fun _ => 0)))), (q47, .inl (kA 2, 2, .inr (.inl (fun _ => 0)))), (q48, .inl (kA 2, 2, .inr (.inl (fun _ => 0)))), (q49, .inl (kA 1, 10, .inl (fun _ => 0))), (q50, .inl (kA 6, 10, .inr (.inr (.inr (.inr (nx_q q50 10)))))), (q51, .inl (kA 6, 10, .inr (.inr (.inr (.inr (nx_q q51 10))))))] [(0, .ref h0), (1, .int 10)] 35 1152 62 [.ref q51, .ref h0]
  refine j_putF (ws' := [(h0, .inr (3, [.ref q49, .ref q50, .ref q51, .ref q45, .null, .ref q46, .ref q47, .ref q48, .int 0, .int 0, .int 0])), (q45, .inl (kA 7, 8, .inr (.inr (.inr (.inr (nx_q q45 8)))))), ((q45 + 1 + 0), .inl (kA 2, 61, .inr (.inl (fun _ => 0)))), ((q45 + 1 + 1), .inl (kA 2, 61, .inr (.inl (fun _ => 0)))), (q46, .inl (kA 2, 2, .inr (.inl (fun _ => 0)))), (q47, .inl (kA 2, 2, .inr (.inl (fun _ => 0)))), (q48, .inl (kA 2, 2, .inr (.inl (fun _ => 0)))), (q49, .inl (kA 1, 10, .inl (fun _ => 0))), (q50, .inl (kA 6, 10, .inr (.inr (.inr (.inr (nx_q q50 10)))))), (q51, .inl (kA 6, 10, .inr (.inr (.inr (.inr (nx_q q51 10))))))]) h iw_X3 tyX3 tyX3_ok nmX3 0 rfl rfl 2 (by decide) tw_381 rfl hnm rfl rfl rfl (Nat.le_of_ble_eq_true rfl) dX3_init_62 rfl ?_
  refine j_aload_n h 0 rfl rfl dX3_init_65 ?_
  refine j_iload_n h 1 rfl rfl dX3_init_66 ?_
  refine j_newa (atype := .long) (a0 := (10, .inr (.inl (fun _ => 0)))) h tw_263 rfl 2 rfl (fun _ => rfl) (by decide) (by decide) (by decide) (Nat.le_of_ble_eq_true rfl) (Nat.le_of_ble_eq_true rfl) dX3_init_67 (fun q52 => ?_)
  show J x [(h0, .inr (3, [.ref q49, .ref q50, .ref q51, .ref q45, .null, .ref q46, .ref q47, .ref q48, .int 0, .int 0, .int 0])), (q45, .inl (kA 7, 8, .inr (.inr (.inr (.inr (nx_q q45 8)))))), ((q45 + 1 + 0), .inl (kA 2, 61, .inr (.inl (fun _ => 0)))), ((q45 + 1 + 1), .inl (kA 2, 61, .inr (.inl (fun _ => 0)))), (q46, .inl (kA 2, 2, .inr (.inl (fun _ => 0)))), (q47, .inl (kA 2, 2, .inr (.inl (fun _ => 0)))), (q48, .inl (kA 2, 2, .inr (.inl (fun _ => 0)))), (q49, .inl (kA 1, 10, .inl (fun _ => 0))), (q50, .inl (kA 6, 10, .inr (.inr (.inr (.inr (nx_q q50 10)))))), (q51, .inl (kA 6, 10, .inr (.inr (.inr (.inr (nx_q q51 10)))))), (q52, .inl (kA 2, 10, .inr (.inl (fun _ => 0))))] [(0, .ref h0), (1, .int 10)] 36 1162 69 [.ref q52, .ref h0]
  refine j_putF (ws' := [(h0, .inr (3, [.ref q49, .ref q50, .ref q51, .ref q45, .ref q52, .ref q46, .ref q47, .ref q48, .int 0, .int 0, .int 0])), (q45, .inl (kA 7, 8, .inr (.inr (.inr (.inr (nx_q q45 8)))))), ((q45 + 1 + 0), .inl (kA 2, 61, .inr (.inl (fun _ => 0)))), ((q45 + 1 + 1), .inl (kA 2, 61, .inr (.inl (fun _ => 0)))), (q46, .inl (kA 2, 2, .inr (.inl (fun _ => 0)))), (q47, .inl (kA 2, 2, .inr (.inl (fun _ => 0)))), (q48, .inl (kA 2, 2, .inr (.inl (fun _ => 0)))), (q49, .inl (kA 1, 10, .inl (fun _ => 0))), (q50, .inl (kA 6, 10, .inr (.inr (.inr (.inr (nx_q q50 10)))))), (q51, .inl (kA 6, 10, .inr (.inr (.inr (.inr (nx_q q51 10)))))), (q52, .inl (kA 2, 10, .inr (.inl (fun _ => 0))))]) h iw_X3 tyX3 tyX3_ok nmX3 0 rfl rfl 4 (by decide) tw_383 rfl hnm rfl rfl rfl (Nat.le_of_ble_eq_true rfl) dX3_init_69 rfl ?_
  exact j_vret h hq dX3_init_72 (q49, q50, q51, q45, q52, q46, q47, q48) [0, 1, 2, 3, 4, 5, 6] rfl rfl (by decide) trivial (Nat.le_of_ble_eq_true rfl) (Nat.le_of_ble_eq_true rfl)
end
section
theorem dX11_init_0 : decode cX11_init 0 = .ok (.aload_n 0, 1) := by decide +kernel
theorem dX11_init_1 : decode cX11_init 1 = .ok (.invokespecial 3, 3) := by decide +kernel
theorem tw_112 : Cond.methodLink RX11 3 objectInit ∈ TT := nx_mem 112 (by decide +kernel) (by decide +kernel)
theorem dX11_init_4 : decode cX11_init 4 = .ok (.aload_n 0, 1) := by decide +kernel
theorem dX11_init_5 : decode cX11_init 5 = .ok (.new 9, 3) := by decide +kernel
theorem tw_115 : Cond.classLink RX11 9 RX9 ∈ TT := nx_mem 115 (by decide +kernel) (by decide +kernel)
theorem tw_116 : Cond.instantiable RX9 7 ∈ TT := nx_mem 116 (by decide +kernel) (by decide +kernel)
theorem tw_88 : Cond.initialized RX9 ∈ TT := nx_mem 88 (by decide +kernel) (by decide +kernel)
theorem dX11_init_8 : decode cX11_init 8 = .ok (.dup, 1) := by decide +kernel
theorem dX11_init_9 : decode cX11_init 9 = .ok (.invokespecial 11, 3) := by decide +kernel
theorem tw_118 : Cond.instanceMethod yX9_init ∈ TT := nx_mem 118 (by decide +kernel) (by decide +kernel)
theorem tw_119 : Cond.code yX9_init cX9_init 1 none ∈ TT := nx_mem 119 (by decide +kernel) (by decide +kernel)
theorem dX11_init_12 : decode cX11_init 12 = .ok (.putfield 12, 3) := by decide +kernel
theorem iw_X11 : ∀ w ∈ u_ws RX11 TX11 19, w ∈ TT := nx_mems _ [494, 496, 498, 500, 502, 504, 506, 508, 510, 512, 514, 516, 518, 520, 522, 524, 526, 528, 530] (by decide +kernel) (by decide +kernel)
theorem tw_475 : Cond.fieldLink RX11 12 "LimpCode" "tape" "LLimpCode$Tape;" ∈ TT := nx_mem 475 (by decide +kernel) (by decide +kernel)
theorem dX11_init_15 : decode cX11_init 15 = .ok (.aload_n 0, 1) := by decide +kernel
theorem dX11_init_16 : decode cX11_init 16 = .ok (.new 16, 3) := by decide +kernel
theorem tw_149 : Cond.classLink RX11 16 RX6 ∈ TT := nx_mem 149 (by decide +kernel) (by decide +kernel)
theorem tw_150 : Cond.instantiable RX6 3 ∈ TT := nx_mem 150 (by decide +kernel) (by decide +kernel)
theorem tw_89 : Cond.initialized RX6 ∈ TT := nx_mem 89 (by decide +kernel) (by decide +kernel)
theorem dX11_init_19 : decode cX11_init 19 = .ok (.dup, 1) := by decide +kernel
theorem dX11_init_20 : decode cX11_init 20 = .ok (.invokespecial 18, 3) := by decide +kernel
theorem tw_152 : Cond.instanceMethod yX6_init ∈ TT := nx_mem 152 (by decide +kernel) (by decide +kernel)
theorem tw_153 : Cond.code yX6_init cX6_init 1 none ∈ TT := nx_mem 153 (by decide +kernel) (by decide +kernel)
theorem dX11_init_23 : decode cX11_init 23 = .ok (.putfield 19, 3) := by decide +kernel
theorem tw_476 : Cond.fieldLink RX11 19 "LimpCode" "reader" "LLimpCode$SchoolReader;" ∈ TT := nx_mem 476 (by decide +kernel) (by decide +kernel)
theorem dX11_init_26 : decode cX11_init 26 = .ok (.aload_n 0, 1) := by decide +kernel
theorem dX11_init_27 : decode cX11_init 27 = .ok (.new 23, 3) := by decide +kernel
theorem tw_167 : Cond.classLink RX11 23 RX5 ∈ TT := nx_mem 167 (by decide +kernel) (by decide +kernel)
theorem tw_168 : Cond.instantiable RX5 15 ∈ TT := nx_mem 168 (by decide +kernel) (by decide +kernel)
theorem tw_90 : Cond.initialized RX5 ∈ TT := nx_mem 90 (by decide +kernel) (by decide +kernel)
theorem dX11_init_30 : decode cX11_init 30 = .ok (.dup, 1) := by decide +kernel
theorem dX11_init_31 : decode cX11_init 31 = .ok (.invokespecial 25, 3) := by decide +kernel
theorem tw_170 : Cond.instanceMethod yX5_init ∈ TT := nx_mem 170 (by decide +kernel) (by decide +kernel)
theorem tw_171 : Cond.code yX5_init cX5_init 1 none ∈ TT := nx_mem 171 (by decide +kernel) (by decide +kernel)
theorem dX11_init_34 : decode cX11_init 34 = .ok (.putfield 26, 3) := by decide +kernel
theorem tw_477 : Cond.fieldLink RX11 26 "LimpCode" "now" "LLimpCode$School;" ∈ TT := nx_mem 477 (by decide +kernel) (by decide +kernel)
theorem dX11_init_37 : decode cX11_init 37 = .ok (.aload_n 0, 1) := by decide +kernel
theorem dX11_init_38 : decode cX11_init 38 = .ok (.new 23, 3) := by decide +kernel
theorem dX11_init_41 : decode cX11_init 41 = .ok (.dup, 1) := by decide +kernel
theorem dX11_init_42 : decode cX11_init 42 = .ok (.invokespecial 25, 3) := by decide +kernel
theorem dX11_init_45 : decode cX11_init 45 = .ok (.putfield 30, 3) := by decide +kernel
theorem tw_478 : Cond.fieldLink RX11 30 "LimpCode" "spare" "LLimpCode$School;" ∈ TT := nx_mem 478 (by decide +kernel) (by decide +kernel)
theorem dX11_init_48 : decode cX11_init 48 = .ok (.aload_n 0, 1) := by decide +kernel
theorem dX11_init_49 : decode cX11_init 49 = .ok (.new 33, 3) := by decide +kernel
theorem tw_265 : Cond.classLink RX11 33 RX2 ∈ TT := nx_mem 265 (by decide +kernel) (by decide +kernel)
theorem tw_266 : Cond.instantiable RX2 6 ∈ TT := nx_mem 266 (by decide +kernel) (by decide +kernel)
theorem tw_91 : Cond.initialized RX2 ∈ TT := nx_mem 91 (by decide +kernel) (by decide +kernel)
theorem dX11_init_52 : decode cX11_init 52 = .ok (.dup, 1) := by decide +kernel
theorem dX11_init_53 : decode cX11_init 53 = .ok (.invokespecial 35, 3) := by decide +kernel
theorem tw_268 : Cond.instanceMethod yX2_init ∈ TT := nx_mem 268 (by decide +kernel) (by decide +kernel)
theorem tw_269 : Cond.code yX2_init cX2_init 1 none ∈ TT := nx_mem 269 (by decide +kernel) (by decide +kernel)
theorem dX11_init_56 : decode cX11_init 56 = .ok (.putfield 36, 3) := by decide +kernel
theorem tw_479 : Cond.fieldLink RX11 36 "LimpCode" "earnest" "LLimpCode$Earnest;" ∈ TT := nx_mem 479 (by decide +kernel) (by decide +kernel)
theorem dX11_init_59 : decode cX11_init 59 = .ok (.aload_n 0, 1) := by decide +kernel
theorem dX11_init_60 : decode cX11_init 60 = .ok (.iconst 3, 1) := by decide +kernel
theorem dX11_init_61 : decode cX11_init 61 = .ok (.anewarray 33, 3) := by decide +kernel
theorem dX11_init_64 : decode cX11_init 64 = .ok (.putfield 40, 3) := by decide +kernel
theorem tw_480 : Cond.fieldLink RX11 40 "LimpCode" "boxes" "[LLimpCode$Earnest;" ∈ TT := nx_mem 480 (by decide +kernel) (by decide +kernel)
theorem dX11_init_67 : decode cX11_init 67 = .ok (.iconst 0, 1) := by decide +kernel
theorem dX11_init_68 : decode cX11_init 68 = .ok (.istore_n 1, 1) := by decide +kernel
theorem dX11_init_69 : decode cX11_init 69 = .ok (.iload_n 1, 1) := by decide +kernel
theorem dX11_init_70 : decode cX11_init 70 = .ok (.iconst 3, 1) := by decide +kernel
theorem dX11_init_71 : decode cX11_init 71 = .ok (.if_icmp .ge 22, 3) := by decide +kernel
theorem dX11_init_74 : decode cX11_init 74 = .ok (.aload_n 0, 1) := by decide +kernel
theorem dX11_init_75 : decode cX11_init 75 = .ok (.getfield 40, 3) := by decide +kernel
theorem dX11_init_78 : decode cX11_init 78 = .ok (.iload_n 1, 1) := by decide +kernel
theorem dX11_init_79 : decode cX11_init 79 = .ok (.new 33, 3) := by decide +kernel
theorem dX11_init_82 : decode cX11_init 82 = .ok (.dup, 1) := by decide +kernel
theorem dX11_init_83 : decode cX11_init 83 = .ok (.invokespecial 35, 3) := by decide +kernel
theorem dX11_init_86 : decode cX11_init 86 = .ok (.aastore, 1) := by decide +kernel
theorem dX11_init_87 : decode cX11_init 87 = .ok (.iinc 1 1, 3) := by decide +kernel
theorem dX11_init_90 : decode cX11_init 90 = .ok (.goto (-21), 3) := by decide +kernel
theorem dX11_init_93 : decode cX11_init 93 = .ok (.aload_n 0, 1) := by decide +kernel
theorem dX11_init_94 : decode cX11_init 94 = .ok (.iconst 2, 1) := by decide +kernel
theorem dX11_init_95 : decode cX11_init 95 = .ok (.anewarray 44, 3) := by decide +kernel
theorem tw_295 : Cond.classLink RX11 44 RX10 ∈ TT := nx_mem 295 (by decide +kernel) (by decide +kernel)
theorem dX11_init_98 : decode cX11_init 98 = .ok (.putfield 46, 3) := by decide +kernel
theorem tw_481 : Cond.fieldLink RX11 46 "LimpCode" "texts" "[LLimpCode$Text;" ∈ TT := nx_mem 481 (by decide +kernel) (by decide +kernel)
theorem dX11_init_101 : decode cX11_init 101 = .ok (.iconst 0, 1) := by decide +kernel
theorem dX11_init_102 : decode cX11_init 102 = .ok (.istore_n 1, 1) := by decide +kernel
theorem dX11_init_103 : decode cX11_init 103 = .ok (.iload_n 1, 1) := by decide +kernel
theorem dX11_init_104 : decode cX11_init 104 = .ok (.iconst 2, 1) := by decide +kernel
theorem dX11_init_105 : decode cX11_init 105 = .ok (.if_icmp .ge 22, 3) := by decide +kernel
theorem dX11_init_108 : decode cX11_init 108 = .ok (.aload_n 0, 1) := by decide +kernel
theorem dX11_init_109 : decode cX11_init 109 = .ok (.getfield 46, 3) := by decide +kernel
theorem dX11_init_112 : decode cX11_init 112 = .ok (.iload_n 1, 1) := by decide +kernel
theorem dX11_init_113 : decode cX11_init 113 = .ok (.new 44, 3) := by decide +kernel
theorem tw_297 : Cond.instantiable RX10 4 ∈ TT := nx_mem 297 (by decide +kernel) (by decide +kernel)
theorem tw_92 : Cond.initialized RX10 ∈ TT := nx_mem 92 (by decide +kernel) (by decide +kernel)
theorem dX11_init_116 : decode cX11_init 116 = .ok (.dup, 1) := by decide +kernel
theorem dX11_init_117 : decode cX11_init 117 = .ok (.invokespecial 50, 3) := by decide +kernel
theorem tw_299 : Cond.instanceMethod yX10_init ∈ TT := nx_mem 299 (by decide +kernel) (by decide +kernel)
theorem tw_300 : Cond.code yX10_init cX10_init 1 none ∈ TT := nx_mem 300 (by decide +kernel) (by decide +kernel)
theorem dX11_init_120 : decode cX11_init 120 = .ok (.aastore, 1) := by decide +kernel
theorem dX11_init_121 : decode cX11_init 121 = .ok (.iinc 1 1, 3) := by decide +kernel
theorem dX11_init_124 : decode cX11_init 124 = .ok (.goto (-21), 3) := by decide +kernel
theorem dX11_init_127 : decode cX11_init 127 = .ok (.aload_n 0, 1) := by decide +kernel
theorem dX11_init_128 : decode cX11_init 128 = .ok (.new 51, 3) := by decide +kernel
theorem tw_321 : Cond.classLink RX11 51 RX8 ∈ TT := nx_mem 321 (by decide +kernel) (by decide +kernel)
theorem tw_322 : Cond.instantiable RX8 7 ∈ TT := nx_mem 322 (by decide +kernel) (by decide +kernel)
theorem tw_93 : Cond.initialized RX8 ∈ TT := nx_mem 93 (by decide +kernel) (by decide +kernel)
theorem dX11_init_131 : decode cX11_init 131 = .ok (.dup, 1) := by decide +kernel
theorem dX11_init_132 : decode cX11_init 132 = .ok (.invokespecial 53, 3) := by decide +kernel
theorem tw_324 : Cond.instanceMethod yX8_init ∈ TT := nx_mem 324 (by decide +kernel) (by decide +kernel)
theorem tw_325 : Cond.code yX8_init cX8_init 1 none ∈ TT := nx_mem 325 (by decide +kernel) (by decide +kernel)
theorem dX11_init_135 : decode cX11_init 135 = .ok (.putfield 54, 3) := by decide +kernel
theorem tw_482 : Cond.fieldLink RX11 54 "LimpCode" "sounds" "LLimpCode$Sounds;" ∈ TT := nx_mem 482 (by decide +kernel) (by decide +kernel)
theorem dX11_init_138 : decode cX11_init 138 = .ok (.aload_n 0, 1) := by decide +kernel
theorem dX11_init_139 : decode cX11_init 139 = .ok (.new 58, 3) := by decide +kernel
theorem tw_350 : Cond.classLink RX11 58 RX0 ∈ TT := nx_mem 350 (by decide +kernel) (by decide +kernel)
theorem tw_351 : Cond.instantiable RX0 3 ∈ TT := nx_mem 351 (by decide +kernel) (by decide +kernel)
theorem tw_94 : Cond.initialized RX0 ∈ TT := nx_mem 94 (by decide +kernel) (by decide +kernel)
theorem dX11_init_142 : decode cX11_init 142 = .ok (.dup, 1) := by decide +kernel
theorem dX11_init_143 : decode cX11_init 143 = .ok (.invokespecial 60, 3) := by decide +kernel
theorem tw_353 : Cond.instanceMethod yX0_init ∈ TT := nx_mem 353 (by decide +kernel) (by decide +kernel)
theorem tw_354 : Cond.code yX0_init cX0_init 1 none ∈ TT := nx_mem 354 (by decide +kernel) (by decide +kernel)
theorem dX11_init_146 : decode cX11_init 146 = .ok (.putfield 61, 3) := by decide +kernel
theorem tw_483 : Cond.fieldLink RX11 61 "LimpCode" "bounds" "LLimpCode$Bounds;" ∈ TT := nx_mem 483 (by decide +kernel) (by decide +kernel)
theorem dX11_init_149 : decode cX11_init 149 = .ok (.aload_n 0, 1) := by decide +kernel
theorem dX11_init_150 : decode cX11_init 150 = .ok (.new 65, 3) := by decide +kernel
theorem tw_368 : Cond.classLink RX11 65 RX3 ∈ TT := nx_mem 368 (by decide +kernel) (by decide +kernel)
theorem tw_369 : Cond.instantiable RX3 11 ∈ TT := nx_mem 369 (by decide +kernel) (by decide +kernel)
theorem tw_95 : Cond.initialized RX3 ∈ TT := nx_mem 95 (by decide +kernel) (by decide +kernel)
theorem dX11_init_153 : decode cX11_init 153 = .ok (.dup, 1) := by decide +kernel
theorem dX11_init_154 : decode cX11_init 154 = .ok (.bipush 6, 2) := by decide +kernel
theorem dX11_init_156 : decode cX11_init 156 = .ok (.invokespecial 67, 3) := by decide +kernel
theorem tw_370 : Cond.methodLink RX11 67 yX3_init ∈ TT := nx_mem 370 (by decide +kernel) (by decide +kernel)
theorem tw_371 : Cond.instanceMethod yX3_init ∈ TT := nx_mem 371 (by decide +kernel) (by decide +kernel)
theorem tw_372 : Cond.code yX3_init cX3_init 2 none ∈ TT := nx_mem 372 (by decide +kernel) (by decide +kernel)
theorem dX11_init_159 : decode cX11_init 159 = .ok (.putfield 70, 3) := by decide +kernel
theorem tw_484 : Cond.fieldLink RX11 70 "LimpCode" "steps" "LLimpCode$Grid;" ∈ TT := nx_mem 484 (by decide +kernel) (by decide +kernel)
theorem dX11_init_162 : decode cX11_init 162 = .ok (.aload_n 0, 1) := by decide +kernel
theorem dX11_init_163 : decode cX11_init 163 = .ok (.new 65, 3) := by decide +kernel
theorem dX11_init_166 : decode cX11_init 166 = .ok (.dup, 1) := by decide +kernel
theorem dX11_init_167 : decode cX11_init 167 = .ok (.bipush 10, 2) := by decide +kernel
theorem dX11_init_169 : decode cX11_init 169 = .ok (.invokespecial 67, 3) := by decide +kernel
theorem dX11_init_172 : decode cX11_init 172 = .ok (.putfield 74, 3) := by decide +kernel
theorem tw_485 : Cond.fieldLink RX11 74 "LimpCode" "letters" "LLimpCode$Grid;" ∈ TT := nx_mem 485 (by decide +kernel) (by decide +kernel)
theorem dX11_init_175 : decode cX11_init 175 = .ok (.aload_n 0, 1) := by decide +kernel
theorem dX11_init_176 : decode cX11_init 176 = .ok (.new 77, 3) := by decide +kernel
theorem tw_414 : Cond.classLink RX11 77 RX4 ∈ TT := nx_mem 414 (by decide +kernel) (by decide +kernel)
theorem tw_415 : Cond.instantiable RX4 5 ∈ TT := nx_mem 415 (by decide +kernel) (by decide +kernel)
theorem tw_96 : Cond.initialized RX4 ∈ TT := nx_mem 96 (by decide +kernel) (by decide +kernel)
theorem dX11_init_179 : decode cX11_init 179 = .ok (.dup, 1) := by decide +kernel
theorem dX11_init_180 : decode cX11_init 180 = .ok (.invokespecial 79, 3) := by decide +kernel
theorem tw_417 : Cond.instanceMethod yX4_init ∈ TT := nx_mem 417 (by decide +kernel) (by decide +kernel)
theorem tw_418 : Cond.code yX4_init cX4_init 1 none ∈ TT := nx_mem 418 (by decide +kernel) (by decide +kernel)
theorem dX11_init_183 : decode cX11_init 183 = .ok (.putfield 80, 3) := by decide +kernel
theorem tw_486 : Cond.fieldLink RX11 80 "LimpCode" "listener" "LLimpCode$Listener;" ∈ TT := nx_mem 486 (by decide +kernel) (by decide +kernel)
theorem dX11_init_186 : decode cX11_init 186 = .ok (.aload_n 0, 1) := by decide +kernel
theorem dX11_init_187 : decode cX11_init 187 = .ok (.new 84, 3) := by decide +kernel
theorem tw_437 : Cond.classLink RX11 84 RX7 ∈ TT := nx_mem 437 (by decide +kernel) (by decide +kernel)
theorem tw_438 : Cond.instantiable RX7 4 ∈ TT := nx_mem 438 (by decide +kernel) (by decide +kernel)
theorem tw_97 : Cond.initialized RX7 ∈ TT := nx_mem 97 (by decide +kernel) (by decide +kernel)
theorem dX11_init_190 : decode cX11_init 190 = .ok (.dup, 1) := by decide +kernel
theorem dX11_init_191 : decode cX11_init 191 = .ok (.invokespecial 86, 3) := by decide +kernel
theorem tw_440 : Cond.instanceMethod yX7_init ∈ TT := nx_mem 440 (by decide +kernel) (by decide +kernel)
theorem tw_441 : Cond.code yX7_init cX7_init 1 none ∈ TT := nx_mem 441 (by decide +kernel) (by decide +kernel)
theorem dX11_init_194 : decode cX11_init 194 = .ok (.putfield 87, 3) := by decide +kernel
theorem tw_487 : Cond.fieldLink RX11 87 "LimpCode" "search" "LLimpCode$SecretSearch;" ∈ TT := nx_mem 487 (by decide +kernel) (by decide +kernel)
theorem dX11_init_197 : decode cX11_init 197 = .ok (.aload_n 0, 1) := by decide +kernel
theorem dX11_init_198 : decode cX11_init 198 = .ok (.new 91, 3) := by decide +kernel
theorem tw_456 : Cond.classLink RX11 91 RX1 ∈ TT := nx_mem 456 (by decide +kernel) (by decide +kernel)
theorem tw_457 : Cond.instantiable RX1 4 ∈ TT := nx_mem 457 (by decide +kernel) (by decide +kernel)
theorem tw_98 : Cond.initialized RX1 ∈ TT := nx_mem 98 (by decide +kernel) (by decide +kernel)
theorem dX11_init_201 : decode cX11_init 201 = .ok (.dup, 1) := by decide +kernel
theorem dX11_init_202 : decode cX11_init 202 = .ok (.invokespecial 93, 3) := by decide +kernel
theorem tw_459 : Cond.instanceMethod yX1_init ∈ TT := nx_mem 459 (by decide +kernel) (by decide +kernel)
theorem tw_460 : Cond.code yX1_init cX1_init 1 none ∈ TT := nx_mem 460 (by decide +kernel) (by decide +kernel)
theorem dX11_init_205 : decode cX11_init 205 = .ok (.putfield 94, 3) := by decide +kernel
theorem tw_488 : Cond.fieldLink RX11 94 "LimpCode" "deal" "LLimpCode$Deal;" ∈ TT := nx_mem 488 (by decide +kernel) (by decide +kernel)
theorem dX11_init_208 : decode cX11_init 208 = .ok (.aload_n 0, 1) := by decide +kernel
theorem dX11_init_209 : decode cX11_init 209 = .ok (.bipush 60, 2) := by decide +kernel
theorem dX11_init_211 : decode cX11_init 211 = .ok (.newarray .int, 2) := by decide +kernel
theorem dX11_init_213 : decode cX11_init 213 = .ok (.putfield 98, 3) := by decide +kernel
theorem tw_489 : Cond.fieldLink RX11 98 "LimpCode" "firstHeard" "[I" ∈ TT := nx_mem 489 (by decide +kernel) (by decide +kernel)
theorem dX11_init_216 : decode cX11_init 216 = .ok (.aload_n 0, 1) := by decide +kernel
theorem dX11_init_217 : decode cX11_init 217 = .ok (.bipush 60, 2) := by decide +kernel
theorem dX11_init_219 : decode cX11_init 219 = .ok (.newarray .int, 2) := by decide +kernel
theorem dX11_init_221 : decode cX11_init 221 = .ok (.putfield 102, 3) := by decide +kernel
theorem tw_490 : Cond.fieldLink RX11 102 "LimpCode" "secondHeard" "[I" ∈ TT := nx_mem 490 (by decide +kernel) (by decide +kernel)
theorem dX11_init_224 : decode cX11_init 224 = .ok (.aload_n 0, 1) := by decide +kernel
theorem dX11_init_225 : decode cX11_init 225 = .ok (.bipush 60, 2) := by decide +kernel
theorem dX11_init_227 : decode cX11_init 227 = .ok (.newarray .int, 2) := by decide +kernel
theorem dX11_init_229 : decode cX11_init 229 = .ok (.putfield 105, 3) := by decide +kernel
theorem tw_491 : Cond.fieldLink RX11 105 "LimpCode" "lying" "[I" ∈ TT := nx_mem 491 (by decide +kernel) (by decide +kernel)
theorem dX11_init_232 : decode cX11_init 232 = .ok (.return_, 1) := by decide +kernel
set_option maxHeartbeats 4000000 in
set_option maxRecDepth 100000 in
theorem c_X11_init (l : Launch) (g : va_G) (kA : Nat → ClassId) (h0 : Nat)  : CtV l yX11_init cX11_init 2 (none) 2 199 6081 g kA [.ref h0] [(h0, .inr (11, [.null, .null, .null, .null, .null, .null, .null, .null, .null, .null, .null, .null, .null, .null, .null, .null, .null, .int 0, .int 0]))] (S := (Nat → Nat)) (fun (u : (Nat → Nat)) => True) (fun (u : (Nat → Nat)) => ((h0, .inr (11, [.ref (u 0), .ref (u 1), .ref (u 2), .ref (u 3), .ref (u 4), .ref (u 5), .ref (u 6), .ref (u 7), .ref (u 8), .ref (u 9), .ref (u 10), .ref (u 11), .ref (u 12), .ref (u 13), .ref (u 14), .ref (u 15), .ref (u 16), .int 0, .int 0])) :: ((u 0), .inr (9, [.ref (u 17), .int 0, .int 0, .int 0, .int 0, .long 0, .int 0])) :: ((u 17), .inl (kA 0, 1600, .inl (fun _ => 0))) :: ((u 1), .inr (6, [.int 0, .int (-1), .int 0])) :: ((u 2), .inr (5, [.ref (u 18), .ref (u 19), .ref (u 20), .ref (u 21), .ref (u 22), .ref (u 23), .ref (u 24), .ref (u 25), .ref (u 26), .ref (u 27), .ref (u 28), .ref (u 29), .int 0, .int 0, .int 0])) :: ((u 3), .inr (5, [.ref (u 30), .ref (u 31), .ref (u 32), .ref (u 33), .ref (u 34), .ref (u 35), .ref (u 36), .ref (u 37), .ref (u 38), .ref (u 39), .ref (u 40), .ref (u 41), .int 0, .int 0, .int 0])) :: ((u 32), .inl (kA 1, 6, .inl (fun _ => 0))) :: ((u 4), .inr (2, [.ref (u 42), .ref (u 43), .int 0, .int 0, .int 0, .int 0])) :: ((u 42), .inl (kA 1, 60, .inl (fun _ => 0))) :: ((u 43), .inl (kA 1, 6, .inl (fun _ => 0))) :: ((u 5), .inl (kA 4, 3, .inr (.inr (.inr (.inr (va_up (va_up (va_up (fun _ => none) 0 (some (u 44))) 1 (some (u 45))) 2 (some (u 46)))))))) :: ((u 44), .inr (2, [.ref (u 47), .ref (u 48), .int 0, .int 0, .int 0, .int 0])) :: ((u 47), .inl (kA 1, 60, .inl (fun _ => 0))) :: ((u 48), .inl (kA 1, 6, .inl (fun _ => 0))) :: ((u 45), .inr (2, [.ref (u 49), .ref (u 50), .int 0, .int 0, .int 0, .int 0])) :: ((u 49), .inl (kA 1, 60, .inl (fun _ => 0))) :: ((u 50), .inl (kA 1, 6, .inl (fun _ => 0))) :: ((u 46), .inr (2, [.ref (u 51), .ref (u 52), .int 0, .int 0, .int 0, .int 0])) :: ((u 51), .inl (kA 1, 60, .inl (fun _ => 0))) :: ((u 52), .inl (kA 1, 6, .inl (fun _ => 0))) :: ((u 6), .inl (kA 5, 2, .inr (.inr (.inr (.inr (va_up (va_up (fun _ => none) 0 (some (u 53))) 1 (some (u 54)))))))) :: ((u 53), .inr (10, [.ref (u 55), .int 0, .int 0, .int 0])) :: ((u 54), .inr (10, [.ref (u 56), .int 0, .int 0, .int 0])) :: ((u 7), .inr (8, [.ref (u 57), .ref (u 58), .ref (u 59), .ref (u 60), .ref (u 61), .ref (u 62), .int 0])) :: ((u 8), .inr (0, [.ref (u 63), .ref (u 64), .ref (u 65)])) :: ((u 65), .inl (kA 3, 4, .inl (fun _ => 0))) :: ((u 9), .inr (3, [.ref (u 66), .ref (u 67), .ref (u 68), .ref (u 69), .ref (u 70), .ref (u 71), .ref (u 72), .ref (u 73), .int 0, .int 0, .int 0])) :: ((u 10), .inr (3, [.ref (u 74), .ref (u 75), .ref (u 76), .ref (u 77), .ref (u 78), .ref (u 79), .ref (u 80), .ref (u 81), .int 0, .int 0, .int 0])) :: ((u 77), .inl (kA 7, 8, .inr (.inr (.inr (.inr (nx_q (u 77) 8)))))) :: (((u 77) + 1 + 0), .inl (kA 2, 61, .inr (.inl (fun _ => 0)))) :: (((u 77) + 1 + 1), .inl (kA 2, 61, .inr (.inl (fun _ => 0)))) :: ((u 79), .inl (kA 2, 2, .inr (.inl (fun _ => 0)))) :: ((u 80), .inl (kA 2, 2, .inr (.inl (fun _ => 0)))) :: ((u 81), .inl (kA 2, 2, .inr (.inl (fun _ => 0)))) :: ((u 13), .inr (1, [.ref (u 82), .ref (u 83), .ref (u 84), .ref (u 85)])) :: ((u 82), .inl (kA 1, 10, .inl (fun _ => 0))) :: ((u 85), .inl (kA 3, 10, .inl (fun _ => 0))) :: [])) := by
  refine nx_startV (by decide +kernel) (Nat.le_of_ble_eq_true rfl) ?_
  intro x hnm h hq
  have h : Ok x cX11_init RX11 kA (rmC 2 199 6081) 2 := h
  show J x [(h0, .inr (11, [.null, .null, .null, .null, .null, .null, .null, .null, .null, .null, .null, .null, .null, .null, .null, .null, .null, .int 0, .int 0]))] [(0, .ref h0)] 0 0 0 []
  refine j_aload_n h 0 rfl rfl dX11_init_0 ?_
  refine j_objInit h tw_112 tw_113 tw_114 (Nat.le_of_ble_eq_true rfl) (Nat.le_of_ble_eq_true rfl) (Nat.le_of_ble_eq_true rfl) dX11_init_1 ?_
  refine j_aload_n h 0 rfl rfl dX11_init_4 ?_
  refine j_new (ci := 9) (fs := [.null, .int 0, .int 0, .int 0, .int 0, .long 0, .int 0]) h iw_X9 tyX9 tyX9_ok tw_115 tw_116 tw_88 rfl (nx_def7 rfl) (Nat.le_of_ble_eq_true rfl) (Nat.le_of_ble_eq_true rfl) dX11_init_5 (fun q53 => ?_)
  show J x [(h0, .inr (11, [.null, .null, .null, .null, .null, .null, .null, .null, .null, .null, .null, .null, .null, .null, .null, .null, .null, .int 0, .int 0])), (q53, .inr (9, [.null, .int 0, .int 0, .int 0, .int 0, .long 0, .int 0]))] [(0, .ref h0)] 1 7 8 [.ref q53, .ref h0]
  refine j_dup h rfl dX11_init_8 ?_
  refine j_callIN (rt := none) (isC := [1]) (isR := [0]) (wc := [(q53, .inr (9, [.null, .int 0, .int 0, .int 0, .int 0, .long 0, .int 0]))]) (wr := [(h0, .inr (11, [.null, .null, .null, .null, .null, .null, .null, .null, .null, .null, .null, .null, .null, .null, .null, .null, .null, .int 0, .int 0]))]) (rest := [.ref q53, .ref h0]) (As := []) h (c_X9_init _ _ kA q53 ) (by decide) tw_118 tw_88 tw_119 rfl (by decide +kernel) ⟨Nat.le_of_ble_eq_true rfl, Nat.le_of_ble_eq_true rfl⟩ rfl (by decide) rfl rfl (by decide) (by decide) (Nat.le_of_ble_eq_true rfl) rfl ⟨Nat.le_of_ble_eq_true rfl, Nat.le_of_ble_eq_true rfl⟩ dX11_init_9 ?_
  rintro q54 e55
  show J x [(h0, .inr (11, [.null, .null, .null, .null, .null, .null, .null, .null, .null, .null, .null, .null, .null, .null, .null, .null, .null, .int 0, .int 0])), (q53, .inr (9, [.ref q54, .int 0, .int 0, .int 0, .int 0, .long 0, .int 0])), (q54, .inl (kA 0, 1600, .inl (fun _ => 0)))] [(0, .ref h0)] 2 1607 12 [.ref q53, .ref h0]
  refine j_putF (ws' := [(h0, .inr (11, [.ref q53, .null, .null, .null, .null, .null, .null, .null, .null, .null, .null, .null, .null, .null, .null, .null, .null, .int 0, .int 0])), (q53, .inr (9, [.ref q54, .int 0, .int 0, .int 0, .int 0, .long 0, .int 0])), (q54, .inl (kA 0, 1600, .inl (fun _ => 0)))]) h iw_X11 tyX11 tyX11_ok nmX11 0 rfl rfl 0 (by decide) tw_475 rfl hnm rfl rfl rfl (Nat.le_of_ble_eq_true rfl) dX11_init_12 rfl ?_
  refine j_aload_n h 0 rfl rfl dX11_init_15 ?_
  refine j_new (ci := 6) (fs := [.int 0, .int 0, .int 0]) h iw_X6 tyX6 tyX6_ok tw_149 tw_150 tw_89 rfl (nx_def3 rfl) (Nat.le_of_ble_eq_true rfl) (Nat.le_of_ble_eq_true rfl) dX11_init_16 (fun q56 => ?_)
  show J x [(h0, .inr (11, [.ref q53, .null, .null, .null, .null, .null, .null, .null, .null, .null, .null, .null, .null, .null, .null, .null, .null, .int 0, .int 0])), (q53, .inr (9, [.ref q54, .int 0, .int 0, .int 0, .int 0, .long 0, .int 0])), (q54, .inl (kA 0, 1600, .inl (fun _ => 0))), (q56, .inr (6, [.int 0, .int 0, .int 0]))] [(0, .ref h0)] 3 1610 19 [.ref q56, .ref h0]
  refine j_dup h rfl dX11_init_19 ?_
  refine j_callIN (rt := none) (isC := [3]) (isR := [0, 1, 2]) (wc := [(q56, .inr (6, [.int 0, .int 0, .int 0]))]) (wr := [(h0, .inr (11, [.ref q53, .null, .null, .null, .null, .null, .null, .null, .null, .null, .null, .null, .null, .null, .null, .null, .null, .int 0, .int 0])), (q53, .inr (9, [.ref q54, .int 0, .int 0, .int 0, .int 0, .long 0, .int 0])), (q54, .inl (kA 0, 1600, .inl (fun _ => 0)))]) (rest := [.ref q56, .ref h0]) (As := []) h (c_X6_init _ _ kA q56 ) (by decide) tw_152 tw_89 tw_153 rfl (by decide +kernel) ⟨Nat.le_of_ble_eq_true rfl, Nat.le_of_ble_eq_true rfl⟩ rfl (by decide) rfl rfl (by decide) (by decide) (Nat.le_of_ble_eq_true rfl) rfl ⟨Nat.le_of_ble_eq_true rfl, Nat.le_of_ble_eq_true rfl⟩ dX11_init_20 ?_
  rintro _ e57
  show J x [(h0, .inr (11, [.ref q53, .null, .null, .null, .null, .null, .null, .null, .null, .null, .null, .null, .null, .null, .null, .null, .null, .int 0, .int 0])), (q53, .inr (9, [.ref q54, .int 0, .int 0, .int 0, .int 0, .long 0, .int 0])), (q54, .inl (kA 0, 1600, .inl (fun _ => 0))), (q56, .inr (6, [.int 0, .int (-1), .int 0]))] [(0, .ref h0)] 3 1610 23 [.ref q56, .ref h0]
  refine j_putF (ws' := [(h0, .inr (11, [.ref q53, .ref q56, .null, .null, .null, .null, .null, .null, .null, .null, .null, .null, .null, .null, .null, .null, .null, .int 0, .int 0])), (q53, .inr (9, [.ref q54, .int 0, .int 0, .int 0, .int 0, .long 0, .int 0])), (q54, .inl (kA 0, 1600, .inl (fun _ => 0))), (q56, .inr (6, [.int 0, .int (-1), .int 0]))]) h iw_X11 tyX11 tyX11_ok nmX11 0 rfl rfl 1 (by decide) tw_476 rfl hnm rfl rfl rfl (Nat.le_of_ble_eq_true rfl) dX11_init_23 rfl ?_
  refine j_aload_n h 0 rfl rfl dX11_init_26 ?_
  refine j_new (ci := 5) (fs := [.null, .null, .null, .null, .null, .null, .null, .null, .null, .null, .null, .null, .int 0, .int 0, .int 0]) h iw_X5 tyX5 tyX5_ok tw_167 tw_168 tw_90 rfl (nx_def15 rfl) (Nat.le_of_ble_eq_true rfl) (Nat.le_of_ble_eq_true rfl) dX11_init_27 (fun q58 => ?_)
  show J x [(h0, .inr (11, [.ref q53, .ref q56, .null, .null, .null, .null, .null, .null, .null, .null, .null, .null, .null, .null, .null, .null, .null, .int 0, .int 0])), (q53, .inr (9, [.ref q54, .int 0, .int 0, .int 0, .int 0, .long 0, .int 0])), (q54, .inl (kA 0, 1600, .inl (fun _ => 0))), (q56, .inr (6, [.int 0, .int (-1), .int 0])), (q58, .inr (5, [.null, .null, .null, .null, .null, .null, .null, .null, .null, .null, .null, .null, .int 0, .int 0, .int 0]))] [(0, .ref h0)] 4 1625 30 [.ref q58, .ref h0]
  refine j_dup h rfl dX11_init_30 ?_
  refine j_callIN (rt := none) (isC := [4]) (isR := [0, 1, 2, 3]) (wc := [(q58, .inr (5, [.null, .null, .null, .null, .null, .null, .null, .null, .null, .null, .null, .null, .int 0, .int 0, .int 0]))]) (wr := [(h0, .inr (11, [.ref q53, .ref q56, .null, .null, .null, .null, .null, .null, .null, .null, .null, .null, .null, .null, .null, .null, .null, .int 0, .int 0])), (q53, .inr (9, [.ref q54, .int 0, .int 0, .int 0, .int 0, .long 0, .int 0])), (q54, .inl (kA 0, 1600, .inl (fun _ => 0))), (q56, .inr (6, [.int 0, .int (-1), .int 0]))]) (rest := [.ref q58, .ref h0]) (As := []) h (c_X5_init _ _ kA q58 ) (by decide) tw_170 tw_90 tw_171 rfl (by decide +kernel) ⟨Nat.le_of_ble_eq_true rfl, Nat.le_of_ble_eq_true rfl⟩ rfl (by decide) rfl rfl (by decide) (by decide) (Nat.le_of_ble_eq_true rfl) rfl ⟨Nat.le_of_ble_eq_true rfl, Nat.le_of_ble_eq_true rfl⟩ dX11_init_31 ?_
  rintro ⟨q59, q60, q61, q62, q63, q64, q65, q66, q67, q68, q69, q70⟩ e71
  show J x [(h0, .inr (11, [.ref q53, .ref q56, .null, .null, .null, .null, .null, .null, .null, .null, .null, .null, .null, .null, .null, .null, .null, .int 0, .int 0])), (q53, .inr (9, [.ref q54, .int 0, .int 0, .int 0, .int 0, .long 0, .int 0])), (q54, .inl (kA 0, 1600, .inl (fun _ => 0))), (q56, .inr (6, [.int 0, .int (-1), .int 0])), (q58, .inr (5, [.ref q59, .ref q60, .ref q61, .ref q62, .ref q63, .ref q64, .ref q65, .ref q66, .ref q67, .ref q68, .ref q69, .ref q70, .int 0, .int 0, .int 0])), (q61, .inl (kA 1, 6, .inl (fun _ => 0)))] [(0, .ref h0)] 36 1781 34 [.ref q58, .ref h0]
  refine j_put (ws' := [(h0, .inr (11, [.ref q53, .ref q56, .ref q58, .null, .null, .null, .null, .null, .null, .null, .null, .null, .null, .null, .null, .null, .null, .int 0, .int 0])), (q53, .inr (9, [.ref q54, .int 0, .int 0, .int 0, .int 0, .long 0, .int 0])), (q54, .inl (kA 0, 1600, .inl (fun _ => 0))), (q56, .inr (6, [.int 0, .int (-1), .int 0])), (q58, .inr (5, [.ref q59, .ref q60, .ref q61, .ref q62, .ref q63, .ref q64, .ref q65, .ref q66, .ref q67, .ref q68, .ref q69, .ref q70, .int 0, .int 0, .int 0])), (q61, .inl (kA 1, 6, .inl (fun _ => 0)))]) h iw_X11 tyX11 tyX11_ok nmX11 0 rfl rfl 2 (by decide) tw_477 rfl rfl rfl (Nat.le_of_ble_eq_true rfl) dX11_init_34 rfl ?_
  refine j_aload_n h 0 rfl rfl dX11_init_37 ?_
  refine j_new (ci := 5) (fs := [.null, .null, .null, .null, .null, .null, .null, .null, .null, .null, .null, .null, .int 0, .int 0, .int 0]) h iw_X5 tyX5 tyX5_ok tw_167 tw_168 tw_90 rfl (nx_def15 rfl) (Nat.le_of_ble_eq_true rfl) (Nat.le_of_ble_eq_true rfl) dX11_init_38 (fun q72 => ?_)
  show J x [(h0, .inr (11, [.ref q53, .ref q56, .ref q58, .null, .null, .null, .null, .null, .null, .null, .null, .null, .null, .null, .null, .null, .null, .int 0, .int 0])), (q53, .inr (9, [.ref q54, .int 0, .int 0, .int 0, .int 0, .long 0, .int 0])), (q54, .inl (kA 0, 1600, .inl (fun _ => 0))), (q56, .inr (6, [.int 0, .int (-1), .int 0])), (q58, .inr (5, [.ref q59, .ref q60, .ref q61, .ref q62, .ref q63, .ref q64, .ref q65, .ref q66, .ref q67, .ref q68, .ref q69, .ref q70, .int 0, .int 0, .int 0])), (q61, .inl (kA 1, 6, .inl (fun _ => 0))), (q72, .inr (5, [.null, .null, .null, .null, .null, .null, .null, .null, .null, .null, .null, .null, .int 0, .int 0, .int 0]))] [(0, .ref h0)] 37 1796 41 [.ref q72, .ref h0]
  refine j_dup h rfl dX11_init_41 ?_
  refine j_callIN (rt := none) (isC := [6]) (isR := [0, 1, 2, 3, 4, 5]) (wc := [(q72, .inr (5, [.null, .null, .null, .null, .null, .null, .null, .null, .null, .null, .null, .null, .int 0, .int 0, .int 0]))]) (wr := [(h0, .inr (11, [.ref q53, .ref q56, .ref q58, .null, .null, .null, .null, .null, .null, .null, .null, .null, .null, .null, .null, .null, .null, .int 0, .int 0])), (q53, .inr (9, [.ref q54, .int 0, .int 0, .int 0, .int 0, .long 0, .int 0])), (q54, .inl (kA 0, 1600, .inl (fun _ => 0))), (q56, .inr (6, [.int 0, .int (-1), .int 0])), (q58, .inr (5, [.ref q59, .ref q60, .ref q61, .ref q62, .ref q63, .ref q64, .ref q65, .ref q66, .ref q67, .ref q68, .ref q69, .ref q70, .int 0, .int 0, .int 0])), (q61, .inl (kA 1, 6, .inl (fun _ => 0)))]) (rest := [.ref q72, .ref h0]) (As := []) h (c_X5_init _ _ kA q72 ) (by decide) tw_170 tw_90 tw_171 rfl (by decide +kernel) ⟨Nat.le_of_ble_eq_true rfl, Nat.le_of_ble_eq_true rfl⟩ rfl (by decide) rfl rfl (by decide) (by decide) (Nat.le_of_ble_eq_true rfl) rfl ⟨Nat.le_of_ble_eq_true rfl, Nat.le_of_ble_eq_true rfl⟩ dX11_init_42 ?_
  rintro ⟨q73, q74, q75, q76, q77, q78, q79, q80, q81, q82, q83, q84⟩ e85
  show J x [(h0, .inr (11, [.ref q53, .ref q56, .ref q58, .null, .null, .null, .null, .null, .null, .null, .null, .null, .null, .null, .null, .null, .null, .int 0, .int 0])), (q53, .inr (9, [.ref q54, .int 0, .int 0, .int 0, .int 0, .long 0, .int 0])), (q54, .inl (kA 0, 1600, .inl (fun _ => 0))), (q56, .inr (6, [.int 0, .int (-1), .int 0])), (q58, .inr (5, [.ref q59, .ref q60, .ref q61, .ref q62, .ref q63, .ref q64, .ref q65, .ref q66, .ref q67, .ref q68, .ref q69, .ref q70, .int 0, .int 0, .int 0])), (q61, .inl (kA 1, 6, .inl (fun _ => 0))), (q72, .inr (5, [.ref q73, .ref q74, .ref q75, .ref q76, .ref q77, .ref q78, .ref q79, .ref q80, .ref q81, .ref q82, .ref q83, .ref q84, .int 0, .int 0, .int 0])), (q75, .inl (kA 1, 6, .inl (fun _ => 0)))] [(0, .ref h0)] 69 1952 45 [.ref q72, .ref h0]
  refine j_put (ws' := [(h0, .inr (11, [.ref q53, .ref q56, .ref q58, .ref q72, .null, .null, .null, .null, .null, .null, .null, .null, .null, .null, .null, .null, .null, .int 0, .int 0])), (q53, .inr (9, [.ref q54, .int 0, .int 0, .int 0, .int 0, .long 0, .int 0])), (q54, .inl (kA 0, 1600, .inl (fun _ => 0))), (q56, .inr (6, [.int 0, .int (-1), .int 0])), (q58, .inr (5, [.ref q59, .ref q60, .ref q61, .ref q62, .ref q63, .ref q64, .ref q65, .ref q66, .ref q67, .ref q68, .ref q69, .ref q70, .int 0, .int 0, .int 0])), (q61, .inl (kA 1, 6, .inl (fun _ => 0))), (q72, .inr (5, [.ref q73, .ref q74, .ref q75, .ref q76, .ref q77, .ref q78, .ref q79, .ref q80, .ref q81, .ref q82, .ref q83, .ref q84, .int 0, .int 0, .int 0])), (q75, .inl (kA 1, 6, .inl (fun _ => 0)))]) h iw_X11 tyX11 tyX11_ok nmX11 0 rfl rfl 3 (by decide) tw_478 rfl rfl rfl (Nat.le_of_ble_eq_true rfl) dX11_init_45 rfl ?_
  refine j_aload_n h 0 rfl rfl dX11_init_48 ?_
  refine j_new (ci := 2) (fs := [.null, .null, .int 0, .int 0, .int 0, .int 0]) h iw_X2 tyX2 tyX2_ok tw_265 tw_266 tw_91 rfl (nx_def6 rfl) (Nat.le_of_ble_eq_true rfl) (Nat.le_of_ble_eq_true rfl) dX11_init_49 (fun q86 => ?_)
  show J x [(h0, .inr (11, [.ref q53, .ref q56, .ref q58, .ref q72, .null, .null, .null, .null, .null, .null, .null, .null, .null, .null, .null, .null, .null, .int 0, .int 0])), (q53, .inr (9, [.ref q54, .int 0, .int 0, .int 0, .int 0, .long 0, .int 0])), (q54, .inl (kA 0, 1600, .inl (fun _ => 0))), (q56, .inr (6, [.int 0, .int (-1), .int 0])), (q58, .inr (5, [.ref q59, .ref q60, .ref q61, .ref q62, .ref q63, .ref q64, .ref q65, .ref q66, .ref q67, .ref q68, .ref q69, .ref q70, .int 0, .int 0, .int 0])), (q61, .inl (kA 1, 6, .inl (fun _ => 0))), (q72, .inr (5, [.ref q73, .ref q74, .ref q75, .ref q76, .ref q77, .ref q78, .ref q79, .ref q80, .ref q81, .ref q82, .ref q83, .ref q84, .int 0, .int 0, .int 0])), (q75, .inl (kA 1, 6, .inl (fun _ => 0))), (q86, .inr (2, [.null, .null, .int 0, .int 0, .int 0, .int 0]))] [(0, .ref h0)] 70 1958 52 [.ref q86, .ref h0]
  refine j_dup h rfl dX11_init_52 ?_
  refine j_callIN (rt := none) (isC := [8]) (isR := [0, 1, 2, 3, 4, 5, 6, 7]) (wc := [(q86, .inr (2, [.null, .null, .int 0, .int 0, .int 0, .int 0]))]) (wr := [(h0, .inr (11, [.ref q53, .ref q56, .ref q58, .ref q72, .null, .null, .null, .null, .null, .null, .null, .null, .null, .null, .null, .null, .null, .int 0, .int 0])), (q53, .inr (9, [.ref q54, .int 0, .int 0, .int 0, .int 0, .long 0, .int 0])), (q54, .inl (kA 0, 1600, .inl (fun _ => 0))), (q56, .inr (6, [.int 0, .int (-1), .int 0])), (q58, .inr (5, [.ref q59, .ref q60, .ref q61, .ref q62, .ref q63, .ref q64, .ref q65, .ref q66, .ref q67, .ref q68, .ref q69, .ref q70, .int 0, .int 0, .int 0])), (q61, .inl (kA 1, 6, .inl (fun _ => 0))), (q72, .inr (5, [.ref q73, .ref q74, .ref q75, .ref q76, .ref q77, .ref q78, .ref q79, .ref q80, .ref q81, .ref q82, .ref q83, .ref q84, .int 0, .int 0, .int 0])), (q75, .inl (kA 1, 6, .inl (fun _ => 0)))]) (rest := [.ref q86, .ref h0]) (As := []) h (c_X2_init _ _ kA q86 ) (by decide) tw_268 tw_91 tw_269 rfl (by decide +kernel) ⟨Nat.le_of_ble_eq_true rfl, Nat.le_of_ble_eq_true rfl⟩ rfl (by decide) rfl rfl (by decide) (by decide) (Nat.le_of_ble_eq_true rfl) rfl ⟨Nat.le_of_ble_eq_true rfl, Nat.le_of_ble_eq_true rfl⟩ dX11_init_53 ?_
  rintro ⟨q87, q88⟩ e89
  show J x [(h0, .inr (11, [.ref q53, .ref q56, .ref q58, .ref q72, .null, .null, .null, .null, .null, .null, .null, .null, .null, .null, .null, .null, .null, .int 0, .int 0])), (q53, .inr (9, [.ref q54, .int 0, .int 0, .int 0, .int 0, .long 0, .int 0])), (q54, .inl (kA 0, 1600, .inl (fun _ => 0))), (q56, .inr (6, [.int 0, .int (-1), .int 0])), (q58, .inr (5, [.ref q59, .ref q60, .ref q61, .ref q62, .ref q63, .ref q64, .ref q65, .ref q66, .ref q67, .ref q68, .ref q69, .ref q70, .int 0, .int 0, .int 0])), (q61, .inl (kA 1, 6, .inl (fun _ => 0))), (q72, .inr (5, [.ref q73, .ref q74, .ref q75, .ref q76, .ref q77, .ref q78, .ref q79, .ref q80, .ref q81, .ref q82, .ref q83, .ref q84, .int 0, .int 0, .int 0])), (q75, .inl (kA 1, 6, .inl (fun _ => 0))), (q86, .inr (2, [.ref q87, .ref q88, .int 0, .int 0, .int 0, .int 0])), (q87, .inl (kA 1, 60, .inl (fun _ => 0))), (q88, .inl (kA 1, 6, .inl (fun _ => 0)))] [(0, .ref h0)] 72 2024 56 [.ref q86, .ref h0]
  refine j_putF (ws' := [(h0, .inr (11, [.ref q53, .ref q56, .ref q58, .ref q72, .ref q86, .null, .null, .null, .null, .null, .null, .null, .null, .null, .null, .null, .null, .int 0, .int 0])), (q53, .inr (9, [.ref q54, .int 0, .int 0, .int 0, .int 0, .long 0, .int 0])), (q54, .inl (kA 0, 1600, .inl (fun _ => 0))), (q56, .inr (6, [.int 0, .int (-1), .int 0])), (q58, .inr (5, [.ref q59, .ref q60, .ref q61, .ref q62, .ref q63, .ref q64, .ref q65, .ref q66, .ref q67, .ref q68, .ref q69, .ref q70, .int 0, .int 0, .int 0])), (q61, .inl (kA 1, 6, .inl (fun _ => 0))), (q72, .inr (5, [.ref q73, .ref q74, .ref q75, .ref q76, .ref q77, .ref q78, .ref q79, .ref q80, .ref q81, .ref q82, .ref q83, .ref q84, .int 0, .int 0, .int 0])), (q75, .inl (kA 1, 6, .inl (fun _ => 0))), (q86, .inr (2, [.ref q87, .ref q88, .int 0, .int 0, .int 0, .int 0])), (q87, .inl (kA 1, 60, .inl (fun _ => 0))), (q88, .inl (kA 1, 6, .inl (fun _ => 0)))]) h iw_X11 tyX11 tyX11_ok nmX11 0 rfl rfl 4 (by decide) tw_479 rfl hnm rfl rfl rfl (Nat.le_of_ble_eq_true rfl) dX11_init_56 rfl ?_
  refine j_aload_n h 0 rfl rfl dX11_init_59 ?_
  refine j_iconst (v := 3) h (by decide) dX11_init_60 ?_
  refine j_newq h tw_265 h.nw.2.1 4 rfl (N' := 3) (by decide) (by decide) (Nat.le_of_ble_eq_true rfl) (Nat.le_of_ble_eq_true rfl) dX11_init_61 (fun q90 => ?_)
  show J x [(h0, .inr (11, [.ref q53, .ref q56, .ref q58, .ref q72, .ref q86, .null, .null, .null, .null, .null, .null, .null, .null, .null, .null, .null, .null, .int 0, .int 0])), (q53, .inr (9, [.ref q54, .int 0, .int 0, .int 0, .int 0, .long 0, .int 0])), (q54, .inl (kA 0, 1600, .inl (fun _ => 0))), (q56, .inr (6, [.int 0, .int (-1), .int 0])), (q58, .inr (5, [.ref q59, .ref q60, .ref q61, .ref q62, .ref q63, .ref q64, .ref q65, .ref q66, .ref q67, .ref q68, .ref q69, .ref q70, .int 0, .int 0, .int 0])), (q61, .inl (kA 1, 6, .inl (fun _ => 0))), (q72, .inr (5, [.ref q73, .ref q74, .ref q75, .ref q76, .ref q77, .ref q78, .ref q79, .ref q80, .ref q81, .ref q82, .ref q83, .ref q84, .int 0, .int 0, .int 0])), (q75, .inl (kA 1, 6, .inl (fun _ => 0))), (q86, .inr (2, [.ref q87, .ref q88, .int 0, .int 0, .int 0, .int 0])), (q87, .inl (kA 1, 60, .inl (fun _ => 0))), (q88, .inl (kA 1, 6, .inl (fun _ => 0))), (q90, .inl (kA 4, 3, .inr (.inr (.inr (.inr (fun _ => none))))))] [(0, .ref h0)] 73 2027 64 [.ref q90, .ref h0]
  refine j_putF (ws' := [(h0, .inr (11, [.ref q53, .ref q56, .ref q58, .ref q72, .ref q86, .ref q90, .null, .null, .null, .null, .null, .null, .null, .null, .null, .null, .null, .int 0, .int 0])), (q53, .inr (9, [.ref q54, .int 0, .int 0, .int 0, .int 0, .long 0, .int 0])), (q54, .inl (kA 0, 1600, .inl (fun _ => 0))), (q56, .inr (6, [.int 0, .int (-1), .int 0])), (q58, .inr (5, [.ref q59, .ref q60, .ref q61, .ref q62, .ref q63, .ref q64, .ref q65, .ref q66, .ref q67, .ref q68, .ref q69, .ref q70, .int 0, .int 0, .int 0])), (q61, .inl (kA 1, 6, .inl (fun _ => 0))), (q72, .inr (5, [.ref q73, .ref q74, .ref q75, .ref q76, .ref q77, .ref q78, .ref q79, .ref q80, .ref q81, .ref q82, .ref q83, .ref q84, .int 0, .int 0, .int 0])), (q75, .inl (kA 1, 6, .inl (fun _ => 0))), (q86, .inr (2, [.ref q87, .ref q88, .int 0, .int 0, .int 0, .int 0])), (q87, .inl (kA 1, 60, .inl (fun _ => 0))), (q88, .inl (kA 1, 6, .inl (fun _ => 0))), (q90, .inl (kA 4, 3, .inr (.inr (.inr (.inr (fun _ => none))))))]) h iw_X11 tyX11 tyX11_ok nmX11 0 rfl rfl 5 (by decide) tw_480 rfl hnm rfl rfl rfl (Nat.le_of_ble_eq_true rfl) dX11_init_64 rfl ?_
  refine j_iconst (v := 0) h (by decide) dX11_init_67 ?_
  refine j_istore_n (lv' := [(1, .int 0), (0, .ref h0)]) h dX11_init_68 rfl (by decide) rfl ?_
  refine j_iload_n h 0 rfl rfl dX11_init_69 ?_
  refine j_iconst (v := 3) h (by decide) dX11_init_70 ?_
  refine j_icmp_ge h 93 dX11_init_71 (by decide) (fun q => absurd q (by decide)) (fun _ => ?_)
  refine j_aload_n h 1 rfl rfl dX11_init_74 ?_
  refine j_get h iw_X11 0 rfl rfl 5 (by decide) tw_480 rfl dX11_init_75 ?_
  refine j_iload_n h 0 rfl rfl dX11_init_78 ?_
  refine j_new (ci := 2) (fs := [.null, .null, .int 0, .int 0, .int 0, .int 0]) h iw_X2 tyX2 tyX2_ok tw_265 tw_266 tw_91 rfl (nx_def6 rfl) (Nat.le_of_ble_eq_true rfl) (Nat.le_of_ble_eq_true rfl) dX11_init_79 (fun q91 => ?_)
  show J x [(h0, .inr (11, [.ref q53, .ref q56, .ref q58, .ref q72, .ref q86, .ref q90, .null, .null, .null, .null, .null, .null, .null, .null, .null, .null, .null, .int 0, .int 0])), (q53, .inr (9, [.ref q54, .int 0, .int 0, .int 0, .int 0, .long 0, .int 0])), (q54, .inl (kA 0, 1600, .inl (fun _ => 0))), (q56, .inr (6, [.int 0, .int (-1), .int 0])), (q58, .inr (5, [.ref q59, .ref q60, .ref q61, .ref q62, .ref q63, .ref q64, .ref q65, .ref q66, .ref q67, .ref q68, .ref q69, .ref q70, .int 0, .int 0, .int 0])), (q61, .inl (kA 1, 6, .inl (fun _ => 0))), (q72, .inr (5, [.ref q73, .ref q74, .ref q75, .ref q76, .ref q77, .ref q78, .ref q79, .ref q80, .ref q81, .ref q82, .ref q83, .ref q84, .int 0, .int 0, .int 0])), (q75, .inl (kA 1, 6, .inl (fun _ => 0))), (q86, .inr (2, [.ref q87, .ref q88, .int 0, .int 0, .int 0, .int 0])), (q87, .inl (kA 1, 60, .inl (fun _ => 0))), (q88, .inl (kA 1, 6, .inl (fun _ => 0))), (q90, .inl (kA 4, 3, .inr (.inr (.inr (.inr (fun _ => none)))))), (q91, .inr (2, [.null, .null, .int 0, .int 0, .int 0, .int 0]))] [(1, .int 0), (0, .ref h0)] 74 2033 82 [.ref q91, .int 0, .ref q90]
  refine j_dup h rfl dX11_init_82 ?_
  refine j_callIN (rt := none) (isC := [12]) (isR := [0, 1, 2, 3, 4, 5, 6, 7, 8, 9, 10, 11]) (wc := [(q91, .inr (2, [.null, .null, .int 0, .int 0, .int 0, .int 0]))]) (wr := [(h0, .inr (11, [.ref q53, .ref q56, .ref q58, .ref q72, .ref q86, .ref q90, .null, .null, .null, .null, .null, .null, .null, .null, .null, .null, .null, .int 0, .int 0])), (q53, .inr (9, [.ref q54, .int 0, .int 0, .int 0, .int 0, .long 0, .int 0])), (q54, .inl (kA 0, 1600, .inl (fun _ => 0))), (q56, .inr (6, [.int 0, .int (-1), .int 0])), (q58, .inr (5, [.ref q59, .ref q60, .ref q61, .ref q62, .ref q63, .ref q64, .ref q65, .ref q66, .ref q67, .ref q68, .ref q69, .ref q70, .int 0, .int 0, .int 0])), (q61, .inl (kA 1, 6, .inl (fun _ => 0))), (q72, .inr (5, [.ref q73, .ref q74, .ref q75, .ref q76, .ref q77, .ref q78, .ref q79, .ref q80, .ref q81, .ref q82, .ref q83, .ref q84, .int 0, .int 0, .int 0])), (q75, .inl (kA 1, 6, .inl (fun _ => 0))), (q86, .inr (2, [.ref q87, .ref q88, .int 0, .int 0, .int 0, .int 0])), (q87, .inl (kA 1, 60, .inl (fun _ => 0))), (q88, .inl (kA 1, 6, .inl (fun _ => 0))), (q90, .inl (kA 4, 3, .inr (.inr (.inr (.inr (fun _ => none))))))]) (rest := [.ref q91, .int 0, .ref q90]) (As := []) h (c_X2_init _ _ kA q91 ) (by decide) tw_268 tw_91 tw_269 rfl (by decide +kernel) ⟨Nat.le_of_ble_eq_true rfl, Nat.le_of_ble_eq_true rfl⟩ rfl (by decide) rfl rfl (by decide) (by decide) (Nat.le_of_ble_eq_true rfl) rfl ⟨Nat.le_of_ble_eq_true rfl, Nat.le_of_ble_eq_true rfl⟩ dX11_init_83 ?_
  rintro ⟨q92, q93⟩ e94
  show J x [(h0, .inr (11, [.ref q53, .ref q56, .ref q58, .ref q72, .ref q86, .ref q90, .null, .null, .null, .null, .null, .null, .null, .null, .null, .null, .null, .int 0, .int 0])), (q53, .inr (9, [.ref q54, .int 0, .int 0, .int 0, .int 0, .long 0, .int 0])), (q54, .inl (kA 0, 1600, .inl (fun _ => 0))), (q56, .inr (6, [.int 0, .int (-1), .int 0])), (q58, .inr (5, [.ref q59, .ref q60, .ref q61, .ref q62, .ref q63, .ref q64, .ref q65, .ref q66, .ref q67, .ref q68, .ref q69, .ref q70, .int 0, .int 0, .int 0])), (q61, .inl (kA 1, 6, .inl (fun _ => 0))), (q72, .inr (5, [.ref q73, .ref q74, .ref q75, .ref q76, .ref q77, .ref q78, .ref q79, .ref q80, .ref q81, .ref q82, .ref q83, .ref q84, .int 0, .int 0, .int 0])), (q75, .inl (kA 1, 6, .inl (fun _ => 0))), (q86, .inr (2, [.ref q87, .ref q88, .int 0, .int 0, .int 0, .int 0])), (q87, .inl (kA 1, 60, .inl (fun _ => 0))), (q88, .inl (kA 1, 6, .inl (fun _ => 0))), (q90, .inl (kA 4, 3, .inr (.inr (.inr (.inr (fun _ => none)))))), (q91, .inr (2, [.ref q92, .ref q93, .int 0, .int 0, .int 0, .int 0])), (q92, .inl (kA 1, 60, .inl (fun _ => 0))), (q93, .inl (kA 1, 6, .inl (fun _ => 0)))] [(1, .int 0), (0, .ref h0)] 76 2099 86 [.ref q91, .int 0, .ref q90]
  refine j_astq (ws' := [(h0, .inr (11, [.ref q53, .ref q56, .ref q58, .ref q72, .ref q86, .ref q90, .null, .null, .null, .null, .null, .null, .null, .null, .null, .null, .null, .int 0, .int 0])), (q53, .inr (9, [.ref q54, .int 0, .int 0, .int 0, .int 0, .long 0, .int 0])), (q54, .inl (kA 0, 1600, .inl (fun _ => 0))), (q56, .inr (6, [.int 0, .int (-1), .int 0])), (q58, .inr (5, [.ref q59, .ref q60, .ref q61, .ref q62, .ref q63, .ref q64, .ref q65, .ref q66, .ref q67, .ref q68, .ref q69, .ref q70, .int 0, .int 0, .int 0])), (q61, .inl (kA 1, 6, .inl (fun _ => 0))), (q72, .inr (5, [.ref q73, .ref q74, .ref q75, .ref q76, .ref q77, .ref q78, .ref q79, .ref q80, .ref q81, .ref q82, .ref q83, .ref q84, .int 0, .int 0, .int 0])), (q75, .inl (kA 1, 6, .inl (fun _ => 0))), (q86, .inr (2, [.ref q87, .ref q88, .int 0, .int 0, .int 0, .int 0])), (q87, .inl (kA 1, 60, .inl (fun _ => 0))), (q88, .inl (kA 1, 6, .inl (fun _ => 0))), (q90, .inl (kA 4, 3, .inr (.inr (.inr (.inr (va_up (fun _ => none) 0 (some q91))))))), (q91, .inr (2, [.ref q92, .ref q93, .int 0, .int 0, .int 0, .int 0])), (q92, .inl (kA 1, 60, .inl (fun _ => 0))), (q93, .inl (kA 1, 6, .inl (fun _ => 0)))]) h 11 4 12 2 rfl rfl rfl rfl 0 (by decide) (by decide) (by decide) dX11_init_86 rfl ?_
  refine j_iinc (v := 1) (lv' := [(1, .int 1), (0, .ref h0)]) h dX11_init_87 0 rfl (by decide) (by decide) rfl ?_
  refine j_goto h 69 dX11_init_90 (by decide) ?_
  refine j_iload_n h 0 rfl rfl dX11_init_69 ?_
  refine j_iconst (v := 3) h (by decide) dX11_init_70 ?_
  refine j_icmp_ge h 93 dX11_init_71 (by decide) (fun q => absurd q (by decide)) (fun _ => ?_)
  refine j_aload_n h 1 rfl rfl dX11_init_74 ?_
  refine j_get h iw_X11 0 rfl rfl 5 (by decide) tw_480 rfl dX11_init_75 ?_
  refine j_iload_n h 0 rfl rfl dX11_init_78 ?_
  refine j_new (ci := 2) (fs := [.null, .null, .int 0, .int 0, .int 0, .int 0]) h iw_X2 tyX2 tyX2_ok tw_265 tw_266 tw_91 rfl (nx_def6 rfl) (Nat.le_of_ble_eq_true rfl) (Nat.le_of_ble_eq_true rfl) dX11_init_79 (fun q95 => ?_)
  show J x [(h0, .inr (11, [.ref q53, .ref q56, .ref q58, .ref q72, .ref q86, .ref q90, .null, .null, .null, .null, .null, .null, .null, .null, .null, .null, .null, .int 0, .int 0])), (q53, .inr (9, [.ref q54, .int 0, .int 0, .int 0, .int 0, .long 0, .int 0])), (q54, .inl (kA 0, 1600, .inl (fun _ => 0))), (q56, .inr (6, [.int 0, .int (-1), .int 0])), (q58, .inr (5, [.ref q59, .ref q60, .ref q61, .ref q62, .ref q63, .ref q64, .ref q65, .ref q66, .ref q67, .ref q68, .ref q69, .ref q70, .int 0, .int 0, .int 0])), (q61, .inl (kA 1, 6, .inl (fun _ => 0))), (q72, .inr (5, [.ref q73, .ref q74, .ref q75, .ref q76, .ref q77, .ref q78, .ref q79, .ref q80, .ref q81, .ref q82, .ref q83, .ref q84, .int 0, .int 0, .int 0])), (q75, .inl (kA 1, 6, .inl (fun _ => 0))), (q86, .inr (2, [.ref q87, .ref q88, .int 0, .int 0, .int 0, .int 0])), (q87, .inl (kA 1, 60, .inl (fun _ => 0))), (q88, .inl (kA 1, 6, .inl (fun _ => 0))), (q90, .inl (kA 4, 3, .inr (.inr (.inr (.inr (va_up (fun _ => none) 0 (some q91))))))), (q91, .inr (2, [.ref q92, .ref q93, .int 0, .int 0, .int 0, .int 0])), (q92, .inl (kA 1, 60, .inl (fun _ => 0))), (q93, .inl (kA 1, 6, .inl (fun _ => 0))), (q95, .inr (2, [.null, .null, .int 0, .int 0, .int 0, .int 0]))] [(1, .int 1), (0, .ref h0)] 77 2105 82 [.ref q95, .int 1, .ref q90]
  refine j_dup h rfl dX11_init_82 ?_
  refine j_callIN (rt := none) (isC := [15]) (isR := [0, 1, 2, 3, 4, 5, 6, 7, 8, 9, 10, 11, 12, 13, 14]) (wc := [(q95, .inr (2, [.null, .null, .int 0, .int 0, .int 0, .int 0]))]) (wr := [(h0, .inr (11, [.ref q53, .ref q56, .ref q58, .ref q72, .ref q86, .ref q90, .null, .null, .null, .null, .null, .null, .null, .null, .null, .null, .null, .int 0, .int 0])), (q53, .inr (9, [.ref q54, .int 0, .int 0, .int 0, .int 0, .long 0, .int 0])), (q54, .inl (kA 0, 1600, .inl (fun _ => 0))), (q56, .inr (6, [.int 0, .int (-1), .int 0])), (q58, .inr (5, [.ref q59, .ref q60, .ref q61, .ref q62, .ref q63, .ref q64, .ref q65, .ref q66, .ref q67, .ref q68, .ref q69, .ref q70, .int 0, .int 0, .int 0])), (q61, .inl (kA 1, 6, .inl (fun _ => 0))), (q72, .inr (5, [.ref q73, .ref q74, .ref q75, .ref q76, .ref q77, .ref q78, .ref q79, .ref q80, .ref q81, .ref q82, .ref q83, .ref q84, .int 0, .int 0, .int 0])), (q75, .inl (kA 1, 6, .inl (fun _ => 0))), (q86, .inr (2, [.ref q87, .ref q88, .int 0, .int 0, .int 0, .int 0])), (q87, .inl (kA 1, 60, .inl (fun _ => 0))), (q88, .inl (kA 1, 6, .inl (fun _ => 0))), (q90, .inl (kA 4, 3, .inr (.inr (.inr (.inr (va_up (fun _ => none) 0 (some q91))))))), (q91, .inr (2, [.ref q92, .ref q93, .int 0, .int 0, .int 0, .int 0])), (q92, .inl (kA 1, 60, .inl (fun _ => 0))), (q93, .inl (kA 1, 6, .inl (fun _ => 0)))]) (rest := [.ref q95, .int 1, .ref q90]) (As := []) h (c_X2_init _ _ kA q95 ) (by decide) tw_268 tw_91 tw_269 rfl (by decide +kernel) ⟨Nat.le_of_ble_eq_true rfl, Nat.le_of_ble_eq_true rfl⟩ rfl (by decide) rfl rfl (by decide) (by decide) (Nat.le_of_ble_eq_true rfl) rfl ⟨Nat.le_of_ble_eq_true rfl, Nat.le_of_ble_eq_true rfl⟩ dX11_init_83 ?_
  rintro ⟨q96, q97⟩ e98
  show J x [(h0, .inr (11, [.ref q53, .ref q56, .ref q58, .ref q72, .ref q86, .ref q90, .null, .null, .null, .null, .null, .null, .null, .null, .null, .null, .null, .int 0, .int 0])), (q53, .inr (9, [.ref q54, .int 0, .int 0, .int 0, .int 0, .long 0, .int 0])), (q54, .inl (kA 0, 1600, .inl (fun _ => 0))), (q56, .inr (6, [.int 0, .int (-1), .int 0])), (q58, .inr (5, [.ref q59, .ref q60, .ref q61, .ref q62, .ref q63, .ref q64, .ref q65, .ref q66, .ref q67, .ref q68, .ref q69, .ref q70, .int 0, .int 0, .int 0])), (q61, .inl (kA 1, 6, .inl (fun _ => 0))), (q72, .inr (5, [.ref q73, .ref q74, .ref q75, .ref q76, .ref q77, .ref q78, .ref q79, .ref q80, .ref q81, .ref q82, .ref q83, .ref q84, .int 0, .int 0, .int 0])), (q75, .inl (kA 1, 6, .inl (fun _ => 0))), (q86, .inr (2, [.ref q87, .ref q88, .int 0, .int 0, .int 0, .int 0])), (q87, .inl (kA 1, 60, .inl (fun _ => 0))), (q88, .inl (kA 1, 6, .inl (fun _ => 0))), (q90, .inl (kA 4, 3, .inr (.inr (.inr (.inr (va_up (fun _ => none) 0 (some q91))))))), (q91, .inr (2, [.ref q92, .ref q93, .int 0, .int 0, .int 0, .int 0])), (q92, .inl (kA 1, 60, .inl (fun _ => 0))), (q93, .inl (kA 1, 6, .inl (fun _ => 0))), (q95, .inr (2, [.ref q96, .ref q97, .int 0, .int 0, .int 0, .int 0])), (q96, .inl (kA 1, 60, .inl (fun _ => 0))), (q97, .inl (kA 1, 6, .inl (fun _ => 0)))] [(1, .int 1), (0, .ref h0)] 79 2171 86 [.ref q95, .int 1, .ref q90]
  refine j_astq (ws' := [(h0, .inr (11, [.ref q53, .ref q56, .ref q58, .ref q72, .ref q86, .ref q90, .null, .null, .null, .null, .null, .null, .null, .null, .null, .null, .null, .int 0, .int 0])), (q53, .inr (9, [.ref q54, .int 0, .int 0, .int 0, .int 0, .long 0, .int 0])), (q54, .inl (kA 0, 1600, .inl (fun _ => 0))), (q56, .inr (6, [.int 0, .int (-1), .int 0])), (q58, .inr (5, [.ref q59, .ref q60, .ref q61, .ref q62, .ref q63, .ref q64, .ref q65, .ref q66, .ref q67, .ref q68, .ref q69, .ref q70, .int 0, .int 0, .int 0])), (q61, .inl (kA 1, 6, .inl (fun _ => 0))), (q72, .inr (5, [.ref q73, .ref q74, .ref q75, .ref q76, .ref q77, .ref q78, .ref q79, .ref q80, .ref q81, .ref q82, .ref q83, .ref q84, .int 0, .int 0, .int 0])), (q75, .inl (kA 1, 6, .inl (fun _ => 0))), (q86, .inr (2, [.ref q87, .ref q88, .int 0, .int 0, .int 0, .int 0])), (q87, .inl (kA 1, 60, .inl (fun _ => 0))), (q88, .inl (kA 1, 6, .inl (fun _ => 0))), (q90, .inl (kA 4, 3, .inr (.inr (.inr (.inr (va_up (va_up (fun _ => none) 0 (some q91)) 1 (some q95))))))), (q91, .inr (2, [.ref q92, .ref q93, .int 0, .int 0, .int 0, .int 0])), (q92, .inl (kA 1, 60, .inl (fun _ => 0))), (q93, .inl (kA 1, 6, .inl (fun _ => 0))), (q95, .inr (2, [.ref q96, .ref q97, .int 0, .int 0, .int 0, .int 0])), (q96, .inl (kA 1, 60, .inl (fun _ => 0))), (q97, .inl (kA 1, 6, .inl (fun _ => 0)))]) h 11 4 15 2 rfl rfl rfl rfl 1 (by decide) (by decide) (by decide) dX11_init_86 rfl ?_
  refine j_iinc (v := 2) (lv' := [(1, .int 2), (0, .ref h0)]) h dX11_init_87 0 rfl (by decide) (by decide) rfl ?_
  refine j_goto h 69 dX11_init_90 (by decide) ?_
  refine j_iload_n h 0 rfl rfl dX11_init_69 ?_
  refine j_iconst (v := 3) h (by decide) dX11_init_70 ?_
  refine j_icmp_ge h 93 dX11_init_71 (by decide) (fun q => absurd q (by decide)) (fun _ => ?_)
  refine j_aload_n h 1 rfl rfl dX11_init_74 ?_
  refine j_get h iw_X11 0 rfl rfl 5 (by decide) tw_480 rfl dX11_init_75 ?_
  refine j_iload_n h 0 rfl rfl dX11_init_78 ?_
  refine j_new (ci := 2) (fs := [.null, .null, .int 0, .int 0, .int 0, .int 0]) h iw_X2 tyX2 tyX2_ok tw_265 tw_266 tw_91 rfl (nx_def6 rfl) (Nat.le_of_ble_eq_true rfl) (Nat.le_of_ble_eq_true rfl) dX11_init_79 (fun q99 => ?_)
  show J x [(h0, .inr (11, [.ref q53, .ref q56, .ref q58, .ref q72, .ref q86, .ref q90, .null, .null, .null, .null, .null, .null, .null, .null, .null, .null, .null, .int 0, .int 0])), (q53, .inr (9, [.ref q54, .int 0, .int 0, .int 0, .int 0, .long 0, .int 0])), (q54, .inl (kA 0, 1600, .inl (fun _ => 0))), (q56, .inr (6, [.int 0, .int (-1), .int 0])), (q58, .inr (5, [.ref q59, .ref q60, .ref q61, .ref q62, .ref q63, .ref q64, .ref q65, .ref q66, .ref q67, .ref q68, .ref q69, .ref q70, .int 0, .int 0, .int 0])), (q61, .inl (kA 1, 6, .inl (fun _ => 0))), (q72, .inr (5, [.ref q73, .ref q74, .ref q75, .ref q76, .ref q77, .ref q78, .ref q79, .ref q80, .ref q81, .ref q82, .ref q83, .ref q84, .int 0, .int 0, .int 0])), (q75, .inl (kA 1, 6, .inl (fun _ => 0))), (q86, .inr (2, [.ref q87, .ref q88, .int 0, .int 0, .int 0, .int 0])), (q87, .inl (kA 1, 60, .inl (fun _ => 0))), (q88, .inl (kA 1, 6, .inl (fun _ => 0))), (q90, .inl (kA 4, 3, .inr (.inr (.inr (.inr (va_up (va_up (fun _ => none) 0 (some q91)) 1 (some q95))))))), (q91, .inr (2, [.ref q92, .ref q93, .int 0, .int 0, .int 0, .int 0])), (q92, .inl (kA 1, 60, .inl (fun _ => 0))), (q93, .inl (kA 1, 6, .inl (fun _ => 0))), (q95, .inr (2, [.ref q96, .ref q97, .int 0, .int 0, .int 0, .int 0])), (q96, .inl (kA 1, 60, .inl (fun _ => 0))), (q97, .inl (kA 1, 6, .inl (fun _ => 0))), (q99, .inr (2, [.null, .null, .int 0, .int 0, .int 0, .int 0]))] [(1, .int 2), (0, .ref h0)] 80 2177 82 [.ref q99, .int 2, .ref q90]
  refine j_dup h rfl dX11_init_82 ?_
  refine j_callIN (rt := none) (isC := [18]) (isR := [0, 1, 2, 3, 4, 5, 6, 7, 8, 9, 10, 11, 12, 13, 14, 15, 16, 17]) (wc := [(q99, .inr (2, [.null, .null, .int 0, .int 0, .int 0, .int 0]))]) (wr := [(h0, .inr (11, [.ref q53, .ref q56, .ref q58, .ref q72, .ref q86, .ref q90, .null, .null, .null, .null, .null, .null, .null, .null, .null, .null, .null, .int 0, .int 0])), (q53, .inr (9, [.ref q54, .int 0, .int 0, .int 0, .int 0, .long 0, .int 0])), (q54, .inl (kA 0, 1600, .inl (fun _ => 0))), (q56, .inr (6, [.int 0, .int (-1), .int 0])), (q58, .inr (5, [.ref q59, .ref q60, .ref q61, .ref q62, .ref q63, .ref q64, .ref q65, .ref q66, .ref q67, .ref q68, .ref q69, .ref q70, .int 0, .int 0, .int 0])), (q61, .inl (kA 1, 6, .inl (fun _ => 0))), (q72, .inr (5, [.ref q73, .ref q74, .ref q75, .ref q76, .ref q77, .ref q78, .ref q79, .ref q80, .ref q81, .ref q82, .ref q83, .ref q84, .int 0, .int 0, .int 0])), (q75, .inl (kA 1, 6, .inl (fun _ => 0))), (q86, .inr (2, [.ref q87, .ref q88, .int 0, .int 0, .int 0, .int 0])), (q87, .inl (kA 1, 60, .inl (fun _ => 0))), (q88, .inl (kA 1, 6, .inl (fun _ => 0))), (q90, .inl (kA 4, 3, .inr (.inr (.inr (.inr (va_up (va_up (fun _ => none) 0 (some q91)) 1 (some q95))))))), (q91, .inr (2, [.ref q92, .ref q93, .int 0, .int 0, .int 0, .int 0])), (q92, .inl (kA 1, 60, .inl (fun _ => 0))), (q93, .inl (kA 1, 6, .inl (fun _ => 0))), (q95, .inr (2, [.ref q96, .ref q97, .int 0, .int 0, .int 0, .int 0])), (q96, .inl (kA 1, 60, .inl (fun _ => 0))), (q97, .inl (kA 1, 6, .inl (fun _ => 0)))]) (rest := [.ref q99, .int 2, .ref q90]) (As := []) h (c_X2_init _ _ kA q99 ) (by decide) tw_268 tw_91 tw_269 rfl (by decide +kernel) ⟨Nat.le_of_ble_eq_true rfl, Nat.le_of_ble_eq_true rfl⟩ rfl (by decide) rfl rfl (by decide) (by decide) (Nat.le_of_ble_eq_true rfl) rfl ⟨Nat.le_of_ble_eq_true rfl, Nat.le_of_ble_eq_true rfl⟩ dX11_init_83 ?_
  rintro ⟨q100, q101⟩ e102
  show J x ((h0, .inr (11, [.ref q53, .ref q56, .ref q58, .ref q72, .ref q86, .ref q90, .null, .null, .null, .null, .null, .null, .null, .null, .null, .null, .null, .int 0, .int 0])) :: (q53, .inr (9, [.ref q54, .int 0, .int 0, .int 0, .int 0, .long 0, .int 0])) :: (q54, .inl (kA 0, 1600, .inl (fun _ => 0))) :: (q56, .inr (6, [.int 0, .int (-1), .int 0])) :: (q58, .inr (5, [.ref q59, .ref q60, .ref q61, .ref q62, .ref q63, .ref q64, .ref q65, .ref q66, .ref q67, .ref q68, .ref q69, .ref q70, .int 0, .int 0, .int 0])) :: (q61, .inl (kA 1, 6, .inl (fun _ => 0))) :: (q72, .inr (5, [.ref q73, .ref q74, .ref q75, .ref q76, .ref q77, .ref q78, .ref q79, .ref q80, .ref q81, .ref q82, .ref q83, .ref q84, .int 0, .int 0, .int 0])) :: (q75, .inl (kA 1, 6, .inl (fun _ => 0))) :: (q86, .inr (2, [.ref q87, .ref q88, .int 0, .int 0, .int 0, .int 0])) :: (q87, .inl (kA 1, 60, .inl (fun _ => 0))) :: (q88, .inl (kA 1, 6, .inl (fun _ => 0))) :: (q90, .inl (kA 4, 3, .inr (.inr (.inr (.inr (va_up (va_up (fun _ => none) 0 (some q91)) 1 (some q95))))))) :: (q91, .inr (2, [.ref q92, .ref q93, .int 0, .int 0, .int 0, .int 0])) :: (q92, .inl (kA 1, 60, .inl (fun _ => 0))) :: (q93, .inl (kA 1, 6, .inl (fun _ => 0))) :: (q95, .inr (2, [.ref q96, .ref q97, .int 0, .int 0, .int 0, .int 0])) :: (q96, .inl (kA 1, 60, .inl (fun _ => 0))) :: (q97, .inl (kA 1, 6, .inl (fun _ => 0))) :: (q99, .inr (2, [.ref q100, .ref q101, .int 0, .int 0, .int 0, .int 0])) :: (q100, .inl (kA 1, 60, .inl (fun _ => 0))) :: (q101, .inl (kA 1, 6, .inl (fun _ => 0))) :: []) [(1, .int 2), (0, .ref h0)] 82 2243 86 [.ref q99, .int 2, .ref q90]
  refine j_astq (ws' := ((h0, .inr (11, [.ref q53, .ref q56, .ref q58, .ref q72, .ref q86, .ref q90, .null, .null, .null, .null, .null, .null, .null, .null, .null, .null, .null, .int 0, .int 0])) :: (q53, .inr (9, [.ref q54, .int 0, .int 0, .int 0, .int 0, .long 0, .int 0])) :: (q54, .inl (kA 0, 1600, .inl (fun _ => 0))) :: (q56, .inr (6, [.int 0, .int (-1), .int 0])) :: (q58, .inr (5, [.ref q59, .ref q60, .ref q61, .ref q62, .ref q63, .ref q64, .ref q65, .ref q66, .ref q67, .ref q68, .ref q69, .ref q70, .int 0, .int 0, .int 0])) :: (q61, .inl (kA 1, 6, .inl (fun _ => 0))) :: (q72, .inr (5, [.ref q73, .ref q74, .ref q75, .ref q76, .ref q77, .ref q78, .ref q79, .ref q80, .ref q81, .ref q82, .ref q83, .ref q84, .int 0, .int 0, .int 0])) :: (q75, .inl (kA 1, 6, .inl (fun _ => 0))) :: (q86, .inr (2, [.ref q87, .ref q88, .int 0, .int 0, .int 0, .int 0])) :: (q87, .inl (kA 1, 60, .inl (fun _ => 0))) :: (q88, .inl (kA 1, 6, .inl (fun _ => 0))) :: (q90, .inl (kA 4, 3, .inr (.inr (.inr (.inr (va_up (va_up (va_up (fun _ => none) 0 (some q91)) 1 (some q95)) 2 (some q99))))))) :: (q91, .inr (2, [.ref q92, .ref q93, .int 0, .int 0, .int 0, .int 0])) :: (q92, .inl (kA 1, 60, .inl (fun _ => 0))) :: (q93, .inl (kA 1, 6, .inl (fun _ => 0))) :: (q95, .inr (2, [.ref q96, .ref q97, .int 0, .int 0, .int 0, .int 0])) :: (q96, .inl (kA 1, 60, .inl (fun _ => 0))) :: (q97, .inl (kA 1, 6, .inl (fun _ => 0))) :: (q99, .inr (2, [.ref q100, .ref q101, .int 0, .int 0, .int 0, .int 0])) :: (q100, .inl (kA 1, 60, .inl (fun _ => 0))) :: (q101, .inl (kA 1, 6, .inl (fun _ => 0))) :: [])) h 11 4 18 2 rfl rfl rfl rfl 2 (by decide) (by decide) (by decide) dX11_init_86 rfl ?_
  refine j_iinc (v := 3) (lv' := [(1, .int 3), (0, .ref h0)]) h dX11_init_87 0 rfl (by decide) (by decide) rfl ?_
  refine j_goto h 69 dX11_init_90 (by decide) ?_
  refine j_iload_n h 0 rfl rfl dX11_init_69 ?_
  refine j_iconst (v := 3) h (by decide) dX11_init_70 ?_
  refine j_icmp_ge h 93 dX11_init_71 (by decide) (fun _ => ?_) (fun q => absurd (by decide) q)
  refine j_aload_n h 1 rfl rfl dX11_init_93 ?_
  refine j_iconst (v := 2) h (by decide) dX11_init_94 ?_
  refine j_newq h tw_295 h.nw.2.2.1 5 rfl (N' := 2) (by decide) (by decide) (Nat.le_of_ble_eq_true rfl) (Nat.le_of_ble_eq_true rfl) dX11_init_95 (fun q103 => ?_)
  show J x ((h0, .inr (11, [.ref q53, .ref q56, .ref q58, .ref q72, .ref q86, .ref q90, .null, .null, .null, .null, .null, .null, .null, .null, .null, .null, .null, .int 0, .int 0])) :: (q53, .inr (9, [.ref q54, .int 0, .int 0, .int 0, .int 0, .long 0, .int 0])) :: (q54, .inl (kA 0, 1600, .inl (fun _ => 0))) :: (q56, .inr (6, [.int 0, .int (-1), .int 0])) :: (q58, .inr (5, [.ref q59, .ref q60, .ref q61, .ref q62, .ref q63, .ref q64, .ref q65, .ref q66, .ref q67, .ref q68, .ref q69, .ref q70, .int 0, .int 0, .int 0])) :: (q61, .inl (kA 1, 6, .inl (fun _ => 0))) :: (q72, .inr (5, [.ref q73, .ref q74, .ref q75, .ref q76, .ref q77, .ref q78, .ref q79, .ref q80, .ref q81, .ref q82, .ref q83, .ref q84, .int 0, .int 0, .int 0])) :: (q75, .inl (kA 1, 6, .inl (fun _ => 0))) :: (q86, .inr (2, [.ref q87, .ref q88, .int 0, .int 0, .int 0, .int 0])) :: (q87, .inl (kA 1, 60, .inl (fun _ => 0))) :: (q88, .inl (kA 1, 6, .inl (fun _ => 0))) :: (q90, .inl (kA 4, 3, .inr (.inr (.inr (.inr (va_up (va_up (va_up (fun _ => none) 0 (some q91)) 1 (some q95)) 2 (some q99))))))) :: (q91, .inr (2, [.ref q92, .ref q93, .int 0, .int 0, .int 0, .int 0])) :: (q92, .inl (kA 1, 60, .inl (fun _ => 0))) :: (q93, .inl (kA 1, 6, .inl (fun _ => 0))) :: (q95, .inr (2, [.ref q96, .ref q97, .int 0, .int 0, .int 0, .int 0])) :: (q96, .inl (kA 1, 60, .inl (fun _ => 0))) :: (q97, .inl (kA 1, 6, .inl (fun _ => 0))) :: (q99, .inr (2, [.ref q100, .ref q101, .int 0, .int 0, .int 0, .int 0])) :: (q100, .inl (kA 1, 60, .inl (fun _ => 0))) :: (q101, .inl (kA 1, 6, .inl (fun _ => 0))) :: (q103, .inl (kA 5, 2, .inr (.inr (.inr (.inr (fun _ => none)))))) :: []) [(1, .int 3), (0, .ref h0)] 83 2245 98 [.ref q103, .ref h0]
  refine j_putF (ws' := ((h0, .inr (11, [.ref q53, .ref q56, .ref q58, .ref q72, .ref q86, .ref q90, .ref q103, .null, .null, .null, .null, .null, .null, .null, .null, .null, .null, .int 0, .int 0])) :: (q53, .inr (9, [.ref q54, .int 0, .int 0, .int 0, .int 0, .long 0, .int 0])) :: (q54, .inl (kA 0, 1600, .inl (fun _ => 0))) :: (q56, .inr (6, [.int 0, .int (-1), .int 0])) :: (q58, .inr (5, [.ref q59, .ref q60, .ref q61, .ref q62, .ref q63, .ref q64, .ref q65, .ref q66, .ref q67, .ref q68, .ref q69, .ref q70, .int 0, .int 0, .int 0])) :: (q61, .inl (kA 1, 6, .inl (fun _ => 0))) :: (q72, .inr (5, [.ref q73, .ref q74, .ref q75, .ref q76, .ref q77, .ref q78, .ref q79, .ref q80, .ref q81, .ref q82, .ref q83, .ref q84, .int 0, .int 0, .int 0])) :: (q75, .inl (kA 1, 6, .inl (fun _ => 0))) :: (q86, .inr (2, [.ref q87, .ref q88, .int 0, .int 0, .int 0, .int 0])) :: (q87, .inl (kA 1, 60, .inl (fun _ => 0))) :: (q88, .inl (kA 1, 6, .inl (fun _ => 0))) :: (q90, .inl (kA 4, 3, .inr (.inr (.inr (.inr (va_up (va_up (va_up (fun _ => none) 0 (some q91)) 1 (some q95)) 2 (some q99))))))) :: (q91, .inr (2, [.ref q92, .ref q93, .int 0, .int 0, .int 0, .int 0])) :: (q92, .inl (kA 1, 60, .inl (fun _ => 0))) :: (q93, .inl (kA 1, 6, .inl (fun _ => 0))) :: (q95, .inr (2, [.ref q96, .ref q97, .int 0, .int 0, .int 0, .int 0])) :: (q96, .inl (kA 1, 60, .inl (fun _ => 0))) :: (q97, .inl (kA 1, 6, .inl (fun _ => 0))) :: (q99, .inr (2, [.ref q100, .ref q101, .int 0, .int 0, .int 0, .int 0])) :: (q100, .inl (kA 1, 60, .inl (fun _ => 0))) :: (q101, .inl (kA 1, 6, .inl (fun _ => 0))) :: (q103, .inl (kA 5, 2, .inr (.inr (.inr (.inr (fun _ => none)))))) :: [])) h iw_X11 tyX11 tyX11_ok nmX11 0 rfl rfl 6 (by decide) tw_481 rfl hnm rfl rfl rfl (Nat.le_of_ble_eq_true rfl) dX11_init_98 rfl ?_
  refine j_iconst (v := 0) h (by decide) dX11_init_101 ?_
  refine j_istore_n (lv' := [(1, .int 0), (0, .ref h0)]) h dX11_init_102 rfl (by decide) rfl ?_
  refine j_iload_n h 0 rfl rfl dX11_init_103 ?_
  refine j_iconst (v := 2) h (by decide) dX11_init_104 ?_
  refine j_icmp_ge h 127 dX11_init_105 (by decide) (fun q => absurd q (by decide)) (fun _ => ?_)
  refine j_aload_n h 1 rfl rfl dX11_init_108 ?_
  refine j_get h iw_X11 0 rfl rfl 6 (by decide) tw_481 rfl dX11_init_109 ?_
  refine j_iload_n h 0 rfl rfl dX11_init_112 ?_
  refine j_new (ci := 10) (fs := [.null, .int 0, .int 0, .int 0]) h iw_X10 tyX10 tyX10_ok tw_295 tw_297 tw_92 rfl (nx_def4 rfl) (Nat.le_of_ble_eq_true rfl) (Nat.le_of_ble_eq_true rfl) dX11_init_113 (fun q104 => ?_)
  show J x ((h0, .inr (11, [.ref q53, .ref q56, .ref q58, .ref q72, .ref q86, .ref q90, .ref q103, .null, .null, .null, .null, .null, .null, .null, .null, .null, .null, .int 0, .int 0])) :: (q53, .inr (9, [.ref q54, .int 0, .int 0, .int 0, .int 0, .long 0, .int 0])) :: (q54, .inl (kA 0, 1600, .inl (fun _ => 0))) :: (q56, .inr (6, [.int 0, .int (-1), .int 0])) :: (q58, .inr (5, [.ref q59, .ref q60, .ref q61, .ref q62, .ref q63, .ref q64, .ref q65, .ref q66, .ref q67, .ref q68, .ref q69, .ref q70, .int 0, .int 0, .int 0])) :: (q61, .inl (kA 1, 6, .inl (fun _ => 0))) :: (q72, .inr (5, [.ref q73, .ref q74, .ref q75, .ref q76, .ref q77, .ref q78, .ref q79, .ref q80, .ref q81, .ref q82, .ref q83, .ref q84, .int 0, .int 0, .int 0])) :: (q75, .inl (kA 1, 6, .inl (fun _ => 0))) :: (q86, .inr (2, [.ref q87, .ref q88, .int 0, .int 0, .int 0, .int 0])) :: (q87, .inl (kA 1, 60, .inl (fun _ => 0))) :: (q88, .inl (kA 1, 6, .inl (fun _ => 0))) :: (q90, .inl (kA 4, 3, .inr (.inr (.inr (.inr (va_up (va_up (va_up (fun _ => none) 0 (some q91)) 1 (some q95)) 2 (some q99))))))) :: (q91, .inr (2, [.ref q92, .ref q93, .int 0, .int 0, .int 0, .int 0])) :: (q92, .inl (kA 1, 60, .inl (fun _ => 0))) :: (q93, .inl (kA 1, 6, .inl (fun _ => 0))) :: (q95, .inr (2, [.ref q96, .ref q97, .int 0, .int 0, .int 0, .int 0])) :: (q96, .inl (kA 1, 60, .inl (fun _ => 0))) :: (q97, .inl (kA 1, 6, .inl (fun _ => 0))) :: (q99, .inr (2, [.ref q100, .ref q101, .int 0, .int 0, .int 0, .int 0])) :: (q100, .inl (kA 1, 60, .inl (fun _ => 0))) :: (q101, .inl (kA 1, 6, .inl (fun _ => 0))) :: (q103, .inl (kA 5, 2, .inr (.inr (.inr (.inr (fun _ => none)))))) :: (q104, .inr (10, [.null, .int 0, .int 0, .int 0])) :: []) [(1, .int 0), (0, .ref h0)] 84 2249 116 [.ref q104, .int 0, .ref q103]
  refine j_dup h rfl dX11_init_116 ?_
  refine j_callIN (rt := none) (isC := [22]) (isR := [0, 1, 2, 3, 4, 5, 6, 7, 8, 9, 10, 11, 12, 13, 14, 15, 16, 17, 18, 19, 20, 21]) (wc := [(q104, .inr (10, [.null, .int 0, .int 0, .int 0]))]) (wr := ((h0, .inr (11, [.ref q53, .ref q56, .ref q58, .ref q72, .ref q86, .ref q90, .ref q103, .null, .null, .null, .null, .null, .null, .null, .null, .null, .null, .int 0, .int 0])) :: (q53, .inr (9, [.ref q54, .int 0, .int 0, .int 0, .int 0, .long 0, .int 0])) :: (q54, .inl (kA 0, 1600, .inl (fun _ => 0))) :: (q56, .inr (6, [.int 0, .int (-1), .int 0])) :: (q58, .inr (5, [.ref q59, .ref q60, .ref q61, .ref q62, .ref q63, .ref q64, .ref q65, .ref q66, .ref q67, .ref q68, .ref q69, .ref q70, .int 0, .int 0, .int 0])) :: (q61, .inl (kA 1, 6, .inl (fun _ => 0))) :: (q72, .inr (5, [.ref q73, .ref q74, .ref q75, .ref q76, .ref q77, .ref q78, .ref q79, .ref q80, .ref q81, .ref q82, .ref q83, .ref q84, .int 0, .int 0, .int 0])) :: (q75, .inl (kA 1, 6, .inl (fun _ => 0))) :: (q86, .inr (2, [.ref q87, .ref q88, .int 0, .int 0, .int 0, .int 0])) :: (q87, .inl (kA 1, 60, .inl (fun _ => 0))) :: (q88, .inl (kA 1, 6, .inl (fun _ => 0))) :: (q90, .inl (kA 4, 3, .inr (.inr (.inr (.inr (va_up (va_up (va_up (fun _ => none) 0 (some q91)) 1 (some q95)) 2 (some q99))))))) :: (q91, .inr (2, [.ref q92, .ref q93, .int 0, .int 0, .int 0, .int 0])) :: (q92, .inl (kA 1, 60, .inl (fun _ => 0))) :: (q93, .inl (kA 1, 6, .inl (fun _ => 0))) :: (q95, .inr (2, [.ref q96, .ref q97, .int 0, .int 0, .int 0, .int 0])) :: (q96, .inl (kA 1, 60, .inl (fun _ => 0))) :: (q97, .inl (kA 1, 6, .inl (fun _ => 0))) :: (q99, .inr (2, [.ref q100, .ref q101, .int 0, .int 0, .int 0, .int 0])) :: (q100, .inl (kA 1, 60, .inl (fun _ => 0))) :: (q101, .inl (kA 1, 6, .inl (fun _ => 0))) :: (q103, .inl (kA 5, 2, .inr (.inr (.inr (.inr (fun _ => none)))))) :: [])) (rest := [.ref q104, .int 0, .ref q103]) (As := []) h (c_X10_init _ _ kA q104 ) (by decide) tw_299 tw_92 tw_300 rfl (by decide +kernel) ⟨Nat.le_of_ble_eq_true rfl, Nat.le_of_ble_eq_true rfl⟩ rfl (by decide) rfl rfl (by decide) (by decide) (Nat.le_of_ble_eq_true rfl) rfl ⟨Nat.le_of_ble_eq_true rfl, Nat.le_of_ble_eq_true rfl⟩ dX11_init_117 ?_
  rintro q105 e106
  show J x ((h0, .inr (11, [.ref q53, .ref q56, .ref q58, .ref q72, .ref q86, .ref q90, .ref q103, .null, .null, .null, .null, .null, .null, .null, .null, .null, .null, .int 0, .int 0])) :: (q53, .inr (9, [.ref q54, .int 0, .int 0, .int 0, .int 0, .long 0, .int 0])) :: (q54, .inl (kA 0, 1600, .inl (fun _ => 0))) :: (q56, .inr (6, [.int 0, .int (-1), .int 0])) :: (q58, .inr (5, [.ref q59, .ref q60, .ref q61, .ref q62, .ref q63, .ref q64, .ref q65, .ref q66, .ref q67, .ref q68, .ref q69, .ref q70, .int 0, .int 0, .int 0])) :: (q61, .inl (kA 1, 6, .inl (fun _ => 0))) :: (q72, .inr (5, [.ref q73, .ref q74, .ref q75, .ref q76, .ref q77, .ref q78, .ref q79, .ref q80, .ref q81, .ref q82, .ref q83, .ref q84, .int 0, .int 0, .int 0])) :: (q75, .inl (kA 1, 6, .inl (fun _ => 0))) :: (q86, .inr (2, [.ref q87, .ref q88, .int 0, .int 0, .int 0, .int 0])) :: (q87, .inl (kA 1, 60, .inl (fun _ => 0))) :: (q88, .inl (kA 1, 6, .inl (fun _ => 0))) :: (q90, .inl (kA 4, 3, .inr (.inr (.inr (.inr (va_up (va_up (va_up (fun _ => none) 0 (some q91)) 1 (some q95)) 2 (some q99))))))) :: (q91, .inr (2, [.ref q92, .ref q93, .int 0, .int 0, .int 0, .int 0])) :: (q92, .inl (kA 1, 60, .inl (fun _ => 0))) :: (q93, .inl (kA 1, 6, .inl (fun _ => 0))) :: (q95, .inr (2, [.ref q96, .ref q97, .int 0, .int 0, .int 0, .int 0])) :: (q96, .inl (kA 1, 60, .inl (fun _ => 0))) :: (q97, .inl (kA 1, 6, .inl (fun _ => 0))) :: (q99, .inr (2, [.ref q100, .ref q101, .int 0, .int 0, .int 0, .int 0])) :: (q100, .inl (kA 1, 60, .inl (fun _ => 0))) :: (q101, .inl (kA 1, 6, .inl (fun _ => 0))) :: (q103, .inl (kA 5, 2, .inr (.inr (.inr (.inr (fun _ => none)))))) :: (q104, .inr (10, [.ref q105, .int 0, .int 0, .int 0])) :: []) [(1, .int 0), (0, .ref h0)] 85 2309 120 [.ref q104, .int 0, .ref q103]
  refine j_astq (ws' := ((h0, .inr (11, [.ref q53, .ref q56, .ref q58, .ref q72, .ref q86, .ref q90, .ref q103, .null, .null, .null, .null, .null, .null, .null, .null, .null, .null, .int 0, .int 0])) :: (q53, .inr (9, [.ref q54, .int 0, .int 0, .int 0, .int 0, .long 0, .int 0])) :: (q54, .inl (kA 0, 1600, .inl (fun _ => 0))) :: (q56, .inr (6, [.int 0, .int (-1), .int 0])) :: (q58, .inr (5, [.ref q59, .ref q60, .ref q61, .ref q62, .ref q63, .ref q64, .ref q65, .ref q66, .ref q67, .ref q68, .ref q69, .ref q70, .int 0, .int 0, .int 0])) :: (q61, .inl (kA 1, 6, .inl (fun _ => 0))) :: (q72, .inr (5, [.ref q73, .ref q74, .ref q75, .ref q76, .ref q77, .ref q78, .ref q79, .ref q80, .ref q81, .ref q82, .ref q83, .ref q84, .int 0, .int 0, .int 0])) :: (q75, .inl (kA 1, 6, .inl (fun _ => 0))) :: (q86, .inr (2, [.ref q87, .ref q88, .int 0, .int 0, .int 0, .int 0])) :: (q87, .inl (kA 1, 60, .inl (fun _ => 0))) :: (q88, .inl (kA 1, 6, .inl (fun _ => 0))) :: (q90, .inl (kA 4, 3, .inr (.inr (.inr (.inr (va_up (va_up (va_up (fun _ => none) 0 (some q91)) 1 (some q95)) 2 (some q99))))))) :: (q91, .inr (2, [.ref q92, .ref q93, .int 0, .int 0, .int 0, .int 0])) :: (q92, .inl (kA 1, 60, .inl (fun _ => 0))) :: (q93, .inl (kA 1, 6, .inl (fun _ => 0))) :: (q95, .inr (2, [.ref q96, .ref q97, .int 0, .int 0, .int 0, .int 0])) :: (q96, .inl (kA 1, 60, .inl (fun _ => 0))) :: (q97, .inl (kA 1, 6, .inl (fun _ => 0))) :: (q99, .inr (2, [.ref q100, .ref q101, .int 0, .int 0, .int 0, .int 0])) :: (q100, .inl (kA 1, 60, .inl (fun _ => 0))) :: (q101, .inl (kA 1, 6, .inl (fun _ => 0))) :: (q103, .inl (kA 5, 2, .inr (.inr (.inr (.inr (va_up (fun _ => none) 0 (some q104))))))) :: (q104, .inr (10, [.ref q105, .int 0, .int 0, .int 0])) :: [])) h 21 5 22 10 rfl rfl rfl rfl 0 (by decide) (by decide) (by decide) dX11_init_120 rfl ?_
  refine j_iinc (v := 1) (lv' := [(1, .int 1), (0, .ref h0)]) h dX11_init_121 0 rfl (by decide) (by decide) rfl ?_
  refine j_goto h 103 dX11_init_124 (by decide) ?_
  refine j_iload_n h 0 rfl rfl dX11_init_103 ?_
  refine j_iconst (v := 2) h (by decide) dX11_init_104 ?_
  refine j_icmp_ge h 127 dX11_init_105 (by decide) (fun q => absurd q (by decide)) (fun _ => ?_)
  refine j_aload_n h 1 rfl rfl dX11_init_108 ?_
  refine j_get h iw_X11 0 rfl rfl 6 (by decide) tw_481 rfl dX11_init_109 ?_
  refine j_iload_n h 0 rfl rfl dX11_init_112 ?_
  refine j_new (ci := 10) (fs := [.null, .int 0, .int 0, .int 0]) h iw_X10 tyX10 tyX10_ok tw_295 tw_297 tw_92 rfl (nx_def4 rfl) (Nat.le_of_ble_eq_true rfl) (Nat.le_of_ble_eq_true rfl) dX11_init_113 (fun q107 => ?_)
  show J x ((h0, .inr (11, [.ref q53, .ref q56, .ref q58, .ref q72, .ref q86, .ref q90, .ref q103, .null, .null, .null, .null, .null, .null, .null, .null, .null, .null, .int 0, .int 0])) :: (q53, .inr (9, [.ref q54, .int 0, .int 0, .int 0, .int 0, .long 0, .int 0])) :: (q54, .inl (kA 0, 1600, .inl (fun _ => 0))) :: (q56, .inr (6, [.int 0, .int (-1), .int 0])) :: (q58, .inr (5, [.ref q59, .ref q60, .ref q61, .ref q62, .ref q63, .ref q64, .ref q65, .ref q66, .ref q67, .ref q68, .ref q69, .ref q70, .int 0, .int 0, .int 0])) :: (q61, .inl (kA 1, 6, .inl (fun _ => 0))) :: (q72, .inr (5, [.ref q73, .ref q74, .ref q75, .ref q76, .ref q77, .ref q78, .ref q79, .ref q80, .ref q81, .ref q82, .ref q83, .ref q84, .int 0, .int 0, .int 0])) :: (q75, .inl (kA 1, 6, .inl (fun _ => 0))) :: (q86, .inr (2, [.ref q87, .ref q88, .int 0, .int 0, .int 0, .int 0])) :: (q87, .inl (kA 1, 60, .inl (fun _ => 0))) :: (q88, .inl (kA 1, 6, .inl (fun _ => 0))) :: (q90, .inl (kA 4, 3, .inr (.inr (.inr (.inr (va_up (va_up (va_up (fun _ => none) 0 (some q91)) 1 (some q95)) 2 (some q99))))))) :: (q91, .inr (2, [.ref q92, .ref q93, .int 0, .int 0, .int 0, .int 0])) :: (q92, .inl (kA 1, 60, .inl (fun _ => 0))) :: (q93, .inl (kA 1, 6, .inl (fun _ => 0))) :: (q95, .inr (2, [.ref q96, .ref q97, .int 0, .int 0, .int 0, .int 0])) :: (q96, .inl (kA 1, 60, .inl (fun _ => 0))) :: (q97, .inl (kA 1, 6, .inl (fun _ => 0))) :: (q99, .inr (2, [.ref q100, .ref q101, .int 0, .int 0, .int 0, .int 0])) :: (q100, .inl (kA 1, 60, .inl (fun _ => 0))) :: (q101, .inl (kA 1, 6, .inl (fun _ => 0))) :: (q103, .inl (kA 5, 2, .inr (.inr (.inr (.inr (va_up (fun _ => none) 0 (some q104))))))) :: (q104, .inr (10, [.ref q105, .int 0, .int 0, .int 0])) :: (q107, .inr (10, [.null, .int 0, .int 0, .int 0])) :: []) [(1, .int 1), (0, .ref h0)] 86 2313 116 [.ref q107, .int 1, .ref q103]
  refine j_dup h rfl dX11_init_116 ?_
  refine j_callIN (rt := none) (isC := [23]) (isR := [0, 1, 2, 3, 4, 5, 6, 7, 8, 9, 10, 11, 12, 13, 14, 15, 16, 17, 18, 19, 20, 21, 22]) (wc := [(q107, .inr (10, [.null, .int 0, .int 0, .int 0]))]) (wr := ((h0, .inr (11, [.ref q53, .ref q56, .ref q58, .ref q72, .ref q86, .ref q90, .ref q103, .null, .null, .null, .null, .null, .null, .null, .null, .null, .null, .int 0, .int 0])) :: (q53, .inr (9, [.ref q54, .int 0, .int 0, .int 0, .int 0, .long 0, .int 0])) :: (q54, .inl (kA 0, 1600, .inl (fun _ => 0))) :: (q56, .inr (6, [.int 0, .int (-1), .int 0])) :: (q58, .inr (5, [.ref q59, .ref q60, .ref q61, .ref q62, .ref q63, .ref q64, .ref q65, .ref q66, .ref q67, .ref q68, .ref q69, .ref q70, .int 0, .int 0, .int 0])) :: (q61, .inl (kA 1, 6, .inl (fun _ => 0))) :: (q72, .inr (5, [.ref q73, .ref q74, .ref q75, .ref q76, .ref q77, .ref q78, .ref q79, .ref q80, .ref q81, .ref q82, .ref q83, .ref q84, .int 0, .int 0, .int 0])) :: (q75, .inl (kA 1, 6, .inl (fun _ => 0))) :: (q86, .inr (2, [.ref q87, .ref q88, .int 0, .int 0, .int 0, .int 0])) :: (q87, .inl (kA 1, 60, .inl (fun _ => 0))) :: (q88, .inl (kA 1, 6, .inl (fun _ => 0))) :: (q90, .inl (kA 4, 3, .inr (.inr (.inr (.inr (va_up (va_up (va_up (fun _ => none) 0 (some q91)) 1 (some q95)) 2 (some q99))))))) :: (q91, .inr (2, [.ref q92, .ref q93, .int 0, .int 0, .int 0, .int 0])) :: (q92, .inl (kA 1, 60, .inl (fun _ => 0))) :: (q93, .inl (kA 1, 6, .inl (fun _ => 0))) :: (q95, .inr (2, [.ref q96, .ref q97, .int 0, .int 0, .int 0, .int 0])) :: (q96, .inl (kA 1, 60, .inl (fun _ => 0))) :: (q97, .inl (kA 1, 6, .inl (fun _ => 0))) :: (q99, .inr (2, [.ref q100, .ref q101, .int 0, .int 0, .int 0, .int 0])) :: (q100, .inl (kA 1, 60, .inl (fun _ => 0))) :: (q101, .inl (kA 1, 6, .inl (fun _ => 0))) :: (q103, .inl (kA 5, 2, .inr (.inr (.inr (.inr (va_up (fun _ => none) 0 (some q104))))))) :: (q104, .inr (10, [.ref q105, .int 0, .int 0, .int 0])) :: [])) (rest := [.ref q107, .int 1, .ref q103]) (As := []) h (c_X10_init _ _ kA q107 ) (by decide) tw_299 tw_92 tw_300 rfl (by decide +kernel) ⟨Nat.le_of_ble_eq_true rfl, Nat.le_of_ble_eq_true rfl⟩ rfl (by decide) rfl rfl (by decide) (by decide) (Nat.le_of_ble_eq_true rfl) rfl ⟨Nat.le_of_ble_eq_true rfl, Nat.le_of_ble_eq_true rfl⟩ dX11_init_117 ?_
  rintro q108 e109
  show J x ((h0, .inr (11, [.ref q53, .ref q56, .ref q58, .ref q72, .ref q86, .ref q90, .ref q103, .null, .null, .null, .null, .null, .null, .null, .null, .null, .null, .int 0, .int 0])) :: (q53, .inr (9, [.ref q54, .int 0, .int 0, .int 0, .int 0, .long 0, .int 0])) :: (q54, .inl (kA 0, 1600, .inl (fun _ => 0))) :: (q56, .inr (6, [.int 0, .int (-1), .int 0])) :: (q58, .inr (5, [.ref q59, .ref q60, .ref q61, .ref q62, .ref q63, .ref q64, .ref q65, .ref q66, .ref q67, .ref q68, .ref q69, .ref q70, .int 0, .int 0, .int 0])) :: (q61, .inl (kA 1, 6, .inl (fun _ => 0))) :: (q72, .inr (5, [.ref q73, .ref q74, .ref q75, .ref q76, .ref q77, .ref q78, .ref q79, .ref q80, .ref q81, .ref q82, .ref q83, .ref q84, .int 0, .int 0, .int 0])) :: (q75, .inl (kA 1, 6, .inl (fun _ => 0))) :: (q86, .inr (2, [.ref q87, .ref q88, .int 0, .int 0, .int 0, .int 0])) :: (q87, .inl (kA 1, 60, .inl (fun _ => 0))) :: (q88, .inl (kA 1, 6, .inl (fun _ => 0))) :: (q90, .inl (kA 4, 3, .inr (.inr (.inr (.inr (va_up (va_up (va_up (fun _ => none) 0 (some q91)) 1 (some q95)) 2 (some q99))))))) :: (q91, .inr (2, [.ref q92, .ref q93, .int 0, .int 0, .int 0, .int 0])) :: (q92, .inl (kA 1, 60, .inl (fun _ => 0))) :: (q93, .inl (kA 1, 6, .inl (fun _ => 0))) :: (q95, .inr (2, [.ref q96, .ref q97, .int 0, .int 0, .int 0, .int 0])) :: (q96, .inl (kA 1, 60, .inl (fun _ => 0))) :: (q97, .inl (kA 1, 6, .inl (fun _ => 0))) :: (q99, .inr (2, [.ref q100, .ref q101, .int 0, .int 0, .int 0, .int 0])) :: (q100, .inl (kA 1, 60, .inl (fun _ => 0))) :: (q101, .inl (kA 1, 6, .inl (fun _ => 0))) :: (q103, .inl (kA 5, 2, .inr (.inr (.inr (.inr (va_up (fun _ => none) 0 (some q104))))))) :: (q104, .inr (10, [.ref q105, .int 0, .int 0, .int 0])) :: (q107, .inr (10, [.ref q108, .int 0, .int 0, .int 0])) :: []) [(1, .int 1), (0, .ref h0)] 87 2373 120 [.ref q107, .int 1, .ref q103]
  refine j_astq (ws' := ((h0, .inr (11, [.ref q53, .ref q56, .ref q58, .ref q72, .ref q86, .ref q90, .ref q103, .null, .null, .null, .null, .null, .null, .null, .null, .null, .null, .int 0, .int 0])) :: (q53, .inr (9, [.ref q54, .int 0, .int 0, .int 0, .int 0, .long 0, .int 0])) :: (q54, .inl (kA 0, 1600, .inl (fun _ => 0))) :: (q56, .inr (6, [.int 0, .int (-1), .int 0])) :: (q58, .inr (5, [.ref q59, .ref q60, .ref q61, .ref q62, .ref q63, .ref q64, .ref q65, .ref q66, .ref q67, .ref q68, .ref q69, .ref q70, .int 0, .int 0, .int 0])) :: (q61, .inl (kA 1, 6, .inl (fun _ => 0))) :: (q72, .inr (5, [.ref q73, .ref q74, .ref q75, .ref q76, .ref q77, .ref q78, .ref q79, .ref q80, .ref q81, .ref q82, .ref q83, .ref q84, .int 0, .int 0, .int 0])) :: (q75, .inl (kA 1, 6, .inl (fun _ => 0))) :: (q86, .inr (2, [.ref q87, .ref q88, .int 0, .int 0, .int 0, .int 0])) :: (q87, .inl (kA 1, 60, .inl (fun _ => 0))) :: (q88, .inl (kA 1, 6, .inl (fun _ => 0))) :: (q90, .inl (kA 4, 3, .inr (.inr (.inr (.inr (va_up (va_up (va_up (fun _ => none) 0 (some q91)) 1 (some q95)) 2 (some q99))))))) :: (q91, .inr (2, [.ref q92, .ref q93, .int 0, .int 0, .int 0, .int 0])) :: (q92, .inl (kA 1, 60, .inl (fun _ => 0))) :: (q93, .inl (kA 1, 6, .inl (fun _ => 0))) :: (q95, .inr (2, [.ref q96, .ref q97, .int 0, .int 0, .int 0, .int 0])) :: (q96, .inl (kA 1, 60, .inl (fun _ => 0))) :: (q97, .inl (kA 1, 6, .inl (fun _ => 0))) :: (q99, .inr (2, [.ref q100, .ref q101, .int 0, .int 0, .int 0, .int 0])) :: (q100, .inl (kA 1, 60, .inl (fun _ => 0))) :: (q101, .inl (kA 1, 6, .inl (fun _ => 0))) :: (q103, .inl (kA 5, 2, .inr (.inr (.inr (.inr (va_up (va_up (fun _ => none) 0 (some q104)) 1 (some q107))))))) :: (q104, .inr (10, [.ref q105, .int 0, .int 0, .int 0])) :: (q107, .inr (10, [.ref q108, .int 0, .int 0, .int 0])) :: [])) h 21 5 23 10 rfl rfl rfl rfl 1 (by decide) (by decide) (by decide) dX11_init_120 rfl ?_
  refine j_iinc (v := 2) (lv' := [(1, .int 2), (0, .ref h0)]) h dX11_init_121 0 rfl (by decide) (by decide) rfl ?_
  refine j_goto h 103 dX11_init_124 (by decide) ?_
  refine j_iload_n h 0 rfl rfl dX11_init_103 ?_
  refine j_iconst (v := 2) h (by decide) dX11_init_104 ?_
  refine j_icmp_ge h 127 dX11_init_105 (by decide) (fun _ => ?_) (fun q => absurd (by decide) q)
  refine j_aload_n h 1 rfl rfl dX11_init_127 ?_
  refine j_new (ci := 8) (fs := [.null, .null, .null, .null, .null, .null, .int 0]) h iw_X8 tyX8 tyX8_ok tw_321 tw_322 tw_93 rfl (nx_def7 rfl) (Nat.le_of_ble_eq_true rfl) (Nat.le_of_ble_eq_true rfl) dX11_init_128 (fun q110 => ?_)
  show J x ((h0, .inr (11, [.ref q53, .ref q56, .ref q58, .ref q72, .ref q86, .ref q90, .ref q103, .null, .null, .null, .null, .null, .null, .null, .null, .null, .null, .int 0, .int 0])) :: (q53, .inr (9, [.ref q54, .int 0, .int 0, .int 0, .int 0, .long 0, .int 0])) :: (q54, .inl (kA 0, 1600, .inl (fun _ => 0))) :: (q56, .inr (6, [.int 0, .int (-1), .int 0])) :: (q58, .inr (5, [.ref q59, .ref q60, .ref q61, .ref q62, .ref q63, .ref q64, .ref q65, .ref q66, .ref q67, .ref q68, .ref q69, .ref q70, .int 0, .int 0, .int 0])) :: (q61, .inl (kA 1, 6, .inl (fun _ => 0))) :: (q72, .inr (5, [.ref q73, .ref q74, .ref q75, .ref q76, .ref q77, .ref q78, .ref q79, .ref q80, .ref q81, .ref q82, .ref q83, .ref q84, .int 0, .int 0, .int 0])) :: (q75, .inl (kA 1, 6, .inl (fun _ => 0))) :: (q86, .inr (2, [.ref q87, .ref q88, .int 0, .int 0, .int 0, .int 0])) :: (q87, .inl (kA 1, 60, .inl (fun _ => 0))) :: (q88, .inl (kA 1, 6, .inl (fun _ => 0))) :: (q90, .inl (kA 4, 3, .inr (.inr (.inr (.inr (va_up (va_up (va_up (fun _ => none) 0 (some q91)) 1 (some q95)) 2 (some q99))))))) :: (q91, .inr (2, [.ref q92, .ref q93, .int 0, .int 0, .int 0, .int 0])) :: (q92, .inl (kA 1, 60, .inl (fun _ => 0))) :: (q93, .inl (kA 1, 6, .inl (fun _ => 0))) :: (q95, .inr (2, [.ref q96, .ref q97, .int 0, .int 0, .int 0, .int 0])) :: (q96, .inl (kA 1, 60, .inl (fun _ => 0))) :: (q97, .inl (kA 1, 6, .inl (fun _ => 0))) :: (q99, .inr (2, [.ref q100, .ref q101, .int 0, .int 0, .int 0, .int 0])) :: (q100, .inl (kA 1, 60, .inl (fun _ => 0))) :: (q101, .inl (kA 1, 6, .inl (fun _ => 0))) :: (q103, .inl (kA 5, 2, .inr (.inr (.inr (.inr (va_up (va_up (fun _ => none) 0 (some q104)) 1 (some q107))))))) :: (q104, .inr (10, [.ref q105, .int 0, .int 0, .int 0])) :: (q107, .inr (10, [.ref q108, .int 0, .int 0, .int 0])) :: (q110, .inr (8, [.null, .null, .null, .null, .null, .null, .int 0])) :: []) [(1, .int 2), (0, .ref h0)] 88 2380 131 [.ref q110, .ref h0]
  refine j_dup h rfl dX11_init_131 ?_
  refine j_callIN (rt := none) (isC := [24]) (isR := [0, 1, 2, 3, 4, 5, 6, 7, 8, 9, 10, 11, 12, 13, 14, 15, 16, 17, 18, 19, 20, 21, 22, 23]) (wc := [(q110, .inr (8, [.null, .null, .null, .null, .null, .null, .int 0]))]) (wr := ((h0, .inr (11, [.ref q53, .ref q56, .ref q58, .ref q72, .ref q86, .ref q90, .ref q103, .null, .null, .null, .null, .null, .null, .null, .null, .null, .null, .int 0, .int 0])) :: (q53, .inr (9, [.ref q54, .int 0, .int 0, .int 0, .int 0, .long 0, .int 0])) :: (q54, .inl (kA 0, 1600, .inl (fun _ => 0))) :: (q56, .inr (6, [.int 0, .int (-1), .int 0])) :: (q58, .inr (5, [.ref q59, .ref q60, .ref q61, .ref q62, .ref q63, .ref q64, .ref q65, .ref q66, .ref q67, .ref q68, .ref q69, .ref q70, .int 0, .int 0, .int 0])) :: (q61, .inl (kA 1, 6, .inl (fun _ => 0))) :: (q72, .inr (5, [.ref q73, .ref q74, .ref q75, .ref q76, .ref q77, .ref q78, .ref q79, .ref q80, .ref q81, .ref q82, .ref q83, .ref q84, .int 0, .int 0, .int 0])) :: (q75, .inl (kA 1, 6, .inl (fun _ => 0))) :: (q86, .inr (2, [.ref q87, .ref q88, .int 0, .int 0, .int 0, .int 0])) :: (q87, .inl (kA 1, 60, .inl (fun _ => 0))) :: (q88, .inl (kA 1, 6, .inl (fun _ => 0))) :: (q90, .inl (kA 4, 3, .inr (.inr (.inr (.inr (va_up (va_up (va_up (fun _ => none) 0 (some q91)) 1 (some q95)) 2 (some q99))))))) :: (q91, .inr (2, [.ref q92, .ref q93, .int 0, .int 0, .int 0, .int 0])) :: (q92, .inl (kA 1, 60, .inl (fun _ => 0))) :: (q93, .inl (kA 1, 6, .inl (fun _ => 0))) :: (q95, .inr (2, [.ref q96, .ref q97, .int 0, .int 0, .int 0, .int 0])) :: (q96, .inl (kA 1, 60, .inl (fun _ => 0))) :: (q97, .inl (kA 1, 6, .inl (fun _ => 0))) :: (q99, .inr (2, [.ref q100, .ref q101, .int 0, .int 0, .int 0, .int 0])) :: (q100, .inl (kA 1, 60, .inl (fun _ => 0))) :: (q101, .inl (kA 1, 6, .inl (fun _ => 0))) :: (q103, .inl (kA 5, 2, .inr (.inr (.inr (.inr (va_up (va_up (fun _ => none) 0 (some q104)) 1 (some q107))))))) :: (q104, .inr (10, [.ref q105, .int 0, .int 0, .int 0])) :: (q107, .inr (10, [.ref q108, .int 0, .int 0, .int 0])) :: [])) (rest := [.ref q110, .ref h0]) (As := []) h (c_X8_init _ _ kA q110 ) (by decide) tw_324 tw_93 tw_325 rfl (by decide +kernel) ⟨Nat.le_of_ble_eq_true rfl, Nat.le_of_ble_eq_true rfl⟩ rfl (by decide) rfl rfl (by decide) (by decide) (Nat.le_of_ble_eq_true rfl) rfl ⟨Nat.le_of_ble_eq_true rfl, Nat.le_of_ble_eq_true rfl⟩ dX11_init_132 ?_
  rintro ⟨q111, q112, q113, q114, q115, q116⟩ e117
  show J x ((h0, .inr (11, [.ref q53, .ref q56, .ref q58, .ref q72, .ref q86, .ref q90, .ref q103, .null, .null, .null, .null, .null, .null, .null, .null, .null, .null, .int 0, .int 0])) :: (q53, .inr (9, [.ref q54, .int 0, .int 0, .int 0, .int 0, .long 0, .int 0])) :: (q54, .inl (kA 0, 1600, .inl (fun _ => 0))) :: (q56, .inr (6, [.int 0, .int (-1), .int 0])) :: (q58, .inr (5, [.ref q59, .ref q60, .ref q61, .ref q62, .ref q63, .ref q64, .ref q65, .ref q66, .ref q67, .ref q68, .ref q69, .ref q70, .int 0, .int 0, .int 0])) :: (q61, .inl (kA 1, 6, .inl (fun _ => 0))) :: (q72, .inr (5, [.ref q73, .ref q74, .ref q75, .ref q76, .ref q77, .ref q78, .ref q79, .ref q80, .ref q81, .ref q82, .ref q83, .ref q84, .int 0, .int 0, .int 0])) :: (q75, .inl (kA 1, 6, .inl (fun _ => 0))) :: (q86, .inr (2, [.ref q87, .ref q88, .int 0, .int 0, .int 0, .int 0])) :: (q87, .inl (kA 1, 60, .inl (fun _ => 0))) :: (q88, .inl (kA 1, 6, .inl (fun _ => 0))) :: (q90, .inl (kA 4, 3, .inr (.inr (.inr (.inr (va_up (va_up (va_up (fun _ => none) 0 (some q91)) 1 (some q95)) 2 (some q99))))))) :: (q91, .inr (2, [.ref q92, .ref q93, .int 0, .int 0, .int 0, .int 0])) :: (q92, .inl (kA 1, 60, .inl (fun _ => 0))) :: (q93, .inl (kA 1, 6, .inl (fun _ => 0))) :: (q95, .inr (2, [.ref q96, .ref q97, .int 0, .int 0, .int 0, .int 0])) :: (q96, .inl (kA 1, 60, .inl (fun _ => 0))) :: (q97, .inl (kA 1, 6, .inl (fun _ => 0))) :: (q99, .inr (2, [.ref q100, .ref q101, .int 0, .int 0, .int 0, .int 0])) :: (q100, .inl (kA 1, 60, .inl (fun _ => 0))) :: (q101, .inl (kA 1, 6, .inl (fun _ => 0))) :: (q103, .inl (kA 5, 2, .inr (.inr (.inr (.inr (va_up (va_up (fun _ => none) 0 (some q104)) 1 (some q107))))))) :: (q104, .inr (10, [.ref q105, .int 0, .int 0, .int 0])) :: (q107, .inr (10, [.ref q108, .int 0, .int 0, .int 0])) :: (q110, .inr (8, [.ref q111, .ref q112, .ref q113, .ref q114, .ref q115, .ref q116, .int 0])) :: []) [(1, .int 2), (0, .ref h0)] 94 2560 135 [.ref q110, .ref h0]
  refine j_putF (ws' := ((h0, .inr (11, [.ref q53, .ref q56, .ref q58, .ref q72, .ref q86, .ref q90, .ref q103, .ref q110, .null, .null, .null, .null, .null, .null, .null, .null, .null, .int 0, .int 0])) :: (q53, .inr (9, [.ref q54, .int 0, .int 0, .int 0, .int 0, .long 0, .int 0])) :: (q54, .inl (kA 0, 1600, .inl (fun _ => 0))) :: (q56, .inr (6, [.int 0, .int (-1), .int 0])) :: (q58, .inr (5, [.ref q59, .ref q60, .ref q61, .ref q62, .ref q63, .ref q64, .ref q65, .ref q66, .ref q67, .ref q68, .ref q69, .ref q70, .int 0, .int 0, .int 0])) :: (q61, .inl (kA 1, 6, .inl (fun _ => 0))) :: (q72, .inr (5, [.ref q73, .ref q74, .ref q75, .ref q76, .ref q77, .ref q78, .ref q79, .ref q80, .ref q81, .ref q82, .ref q83, .ref q84, .int 0, .int 0, .int 0])) :: (q75, .inl (kA 1, 6, .inl (fun _ => 0))) :: (q86, .inr (2, [.ref q87, .ref q88, .int 0, .int 0, .int 0, .int 0])) :: (q87, .inl (kA 1, 60, .inl (fun _ => 0))) :: (q88, .inl (kA 1, 6, .inl (fun _ => 0))) :: (q90, .inl (kA 4, 3, .inr (.inr (.inr (.inr (va_up (va_up (va_up (fun _ => none) 0 (some q91)) 1 (some q95)) 2 (some q99))))))) :: (q91, .inr (2, [.ref q92, .ref q93, .int 0, .int 0, .int 0, .int 0])) :: (q92, .inl (kA 1, 60, .inl (fun _ => 0))) :: (q93, .inl (kA 1, 6, .inl (fun _ => 0))) :: (q95, .inr (2, [.ref q96, .ref q97, .int 0, .int 0, .int 0, .int 0])) :: (q96, .inl (kA 1, 60, .inl (fun _ => 0))) :: (q97, .inl (kA 1, 6, .inl (fun _ => 0))) :: (q99, .inr (2, [.ref q100, .ref q101, .int 0, .int 0, .int 0, .int 0])) :: (q100, .inl (kA 1, 60, .inl (fun _ => 0))) :: (q101, .inl (kA 1, 6, .inl (fun _ => 0))) :: (q103, .inl (kA 5, 2, .inr (.inr (.inr (.inr (va_up (va_up (fun _ => none) 0 (some q104)) 1 (some q107))))))) :: (q104, .inr (10, [.ref q105, .int 0, .int 0, .int 0])) :: (q107, .inr (10, [.ref q108, .int 0, .int 0, .int 0])) :: (q110, .inr (8, [.ref q111, .ref q112, .ref q113, .ref q114, .ref q115, .ref q116, .int 0])) :: [])) h iw_X11 tyX11 tyX11_ok nmX11 0 rfl rfl 7 (by decide) tw_482 rfl hnm rfl rfl rfl (Nat.le_of_ble_eq_true rfl) dX11_init_135 rfl ?_
  refine j_aload_n h 1 rfl rfl dX11_init_138 ?_
  refine j_new (ci := 0) (fs := [.null, .null, .null]) h iw_X0 tyX0 tyX0_ok tw_350 tw_351 tw_94 rfl (nx_def3 rfl) (Nat.le_of_ble_eq_true rfl) (Nat.le_of_ble_eq_true rfl) dX11_init_139 (fun q118 => ?_)
  show J x ((h0, .inr (11, [.ref q53, .ref q56, .ref q58, .ref q72, .ref q86, .ref q90, .ref q103, .ref q110, .null, .null, .null, .null, .null, .null, .null, .null, .null, .int 0, .int 0])) :: (q53, .inr (9, [.ref q54, .int 0, .int 0, .int 0, .int 0, .long 0, .int 0])) :: (q54, .inl (kA 0, 1600, .inl (fun _ => 0))) :: (q56, .inr (6, [.int 0, .int (-1), .int 0])) :: (q58, .inr (5, [.ref q59, .ref q60, .ref q61, .ref q62, .ref q63, .ref q64, .ref q65, .ref q66, .ref q67, .ref q68, .ref q69, .ref q70, .int 0, .int 0, .int 0])) :: (q61, .inl (kA 1, 6, .inl (fun _ => 0))) :: (q72, .inr (5, [.ref q73, .ref q74, .ref q75, .ref q76, .ref q77, .ref q78, .ref q79, .ref q80, .ref q81, .ref q82, .ref q83, .ref q84, .int 0, .int 0, .int 0])) :: (q75, .inl (kA 1, 6, .inl (fun _ => 0))) :: (q86, .inr (2, [.ref q87, .ref q88, .int 0, .int 0, .int 0, .int 0])) :: (q87, .inl (kA 1, 60, .inl (fun _ => 0))) :: (q88, .inl (kA 1, 6, .inl (fun _ => 0))) :: (q90, .inl (kA 4, 3, .inr (.inr (.inr (.inr (va_up (va_up (va_up (fun _ => none) 0 (some q91)) 1 (some q95)) 2 (some q99))))))) :: (q91, .inr (2, [.ref q92, .ref q93, .int 0, .int 0, .int 0, .int 0])) :: (q92, .inl (kA 1, 60, .inl (fun _ => 0))) :: (q93, .inl (kA 1, 6, .inl (fun _ => 0))) :: (q95, .inr (2, [.ref q96, .ref q97, .int 0, .int 0, .int 0, .int 0])) :: (q96, .inl (kA 1, 60, .inl (fun _ => 0))) :: (q97, .inl (kA 1, 6, .inl (fun _ => 0))) :: (q99, .inr (2, [.ref q100, .ref q101, .int 0, .int 0, .int 0, .int 0])) :: (q100, .inl (kA 1, 60, .inl (fun _ => 0))) :: (q101, .inl (kA 1, 6, .inl (fun _ => 0))) :: (q103, .inl (kA 5, 2, .inr (.inr (.inr (.inr (va_up (va_up (fun _ => none) 0 (some q104)) 1 (some q107))))))) :: (q104, .inr (10, [.ref q105, .int 0, .int 0, .int 0])) :: (q107, .inr (10, [.ref q108, .int 0, .int 0, .int 0])) :: (q110, .inr (8, [.ref q111, .ref q112, .ref q113, .ref q114, .ref q115, .ref q116, .int 0])) :: (q118, .inr (0, [.null, .null, .null])) :: []) [(1, .int 2), (0, .ref h0)] 95 2563 142 [.ref q118, .ref h0]
  refine j_dup h rfl dX11_init_142 ?_
  refine j_callIN (rt := none) (isC := [25]) (isR := [0, 1, 2, 3, 4, 5, 6, 7, 8, 9, 10, 11, 12, 13, 14, 15, 16, 17, 18, 19, 20, 21, 22, 23, 24]) (wc := [(q118, .inr (0, [.null, .null, .null]))]) (wr := ((h0, .inr (11, [.ref q53, .ref q56, .ref q58, .ref q72, .ref q86, .ref q90, .ref q103, .ref q110, .null, .null, .null, .null, .null, .null, .null, .null, .null, .int 0, .int 0])) :: (q53, .inr (9, [.ref q54, .int 0, .int 0, .int 0, .int 0, .long 0, .int 0])) :: (q54, .inl (kA 0, 1600, .inl (fun _ => 0))) :: (q56, .inr (6, [.int 0, .int (-1), .int 0])) :: (q58, .inr (5, [.ref q59, .ref q60, .ref q61, .ref q62, .ref q63, .ref q64, .ref q65, .ref q66, .ref q67, .ref q68, .ref q69, .ref q70, .int 0, .int 0, .int 0])) :: (q61, .inl (kA 1, 6, .inl (fun _ => 0))) :: (q72, .inr (5, [.ref q73, .ref q74, .ref q75, .ref q76, .ref q77, .ref q78, .ref q79, .ref q80, .ref q81, .ref q82, .ref q83, .ref q84, .int 0, .int 0, .int 0])) :: (q75, .inl (kA 1, 6, .inl (fun _ => 0))) :: (q86, .inr (2, [.ref q87, .ref q88, .int 0, .int 0, .int 0, .int 0])) :: (q87, .inl (kA 1, 60, .inl (fun _ => 0))) :: (q88, .inl (kA 1, 6, .inl (fun _ => 0))) :: (q90, .inl (kA 4, 3, .inr (.inr (.inr (.inr (va_up (va_up (va_up (fun _ => none) 0 (some q91)) 1 (some q95)) 2 (some q99))))))) :: (q91, .inr (2, [.ref q92, .ref q93, .int 0, .int 0, .int 0, .int 0])) :: (q92, .inl (kA 1, 60, .inl (fun _ => 0))) :: (q93, .inl (kA 1, 6, .inl (fun _ => 0))) :: (q95, .inr (2, [.ref q96, .ref q97, .int 0, .int 0, .int 0, .int 0])) :: (q96, .inl (kA 1, 60, .inl (fun _ => 0))) :: (q97, .inl (kA 1, 6, .inl (fun _ => 0))) :: (q99, .inr (2, [.ref q100, .ref q101, .int 0, .int 0, .int 0, .int 0])) :: (q100, .inl (kA 1, 60, .inl (fun _ => 0))) :: (q101, .inl (kA 1, 6, .inl (fun _ => 0))) :: (q103, .inl (kA 5, 2, .inr (.inr (.inr (.inr (va_up (va_up (fun _ => none) 0 (some q104)) 1 (some q107))))))) :: (q104, .inr (10, [.ref q105, .int 0, .int 0, .int 0])) :: (q107, .inr (10, [.ref q108, .int 0, .int 0, .int 0])) :: (q110, .inr (8, [.ref q111, .ref q112, .ref q113, .ref q114, .ref q115, .ref q116, .int 0])) :: [])) (rest := [.ref q118, .ref h0]) (As := []) h (c_X0_init _ _ kA q118 ) (by decide) tw_353 tw_94 tw_354 rfl (by decide +kernel) ⟨Nat.le_of_ble_eq_true rfl, Nat.le_of_ble_eq_true rfl⟩ rfl (by decide) rfl rfl (by decide) (by decide) (Nat.le_of_ble_eq_true rfl) rfl ⟨Nat.le_of_ble_eq_true rfl, Nat.le_of_ble_eq_true rfl⟩ dX11_init_143 ?_
  rintro ⟨q119, q120, q121⟩ e122
  show J x ((h0, .inr (11, [.ref q53, .ref q56, .ref q58, .ref q72, .ref q86, .ref q90, .ref q103, .ref q110, .null, .null, .null, .null, .null, .null, .null, .null, .null, .int 0, .int 0])) :: (q53, .inr (9, [.ref q54, .int 0, .int 0, .int 0, .int 0, .long 0, .int 0])) :: (q54, .inl (kA 0, 1600, .inl (fun _ => 0))) :: (q56, .inr (6, [.int 0, .int (-1), .int 0])) :: (q58, .inr (5, [.ref q59, .ref q60, .ref q61, .ref q62, .ref q63, .ref q64, .ref q65, .ref q66, .ref q67, .ref q68, .ref q69, .ref q70, .int 0, .int 0, .int 0])) :: (q61, .inl (kA 1, 6, .inl (fun _ => 0))) :: (q72, .inr (5, [.ref q73, .ref q74, .ref q75, .ref q76, .ref q77, .ref q78, .ref q79, .ref q80, .ref q81, .ref q82, .ref q83, .ref q84, .int 0, .int 0, .int 0])) :: (q75, .inl (kA 1, 6, .inl (fun _ => 0))) :: (q86, .inr (2, [.ref q87, .ref q88, .int 0, .int 0, .int 0, .int 0])) :: (q87, .inl (kA 1, 60, .inl (fun _ => 0))) :: (q88, .inl (kA 1, 6, .inl (fun _ => 0))) :: (q90, .inl (kA 4, 3, .inr (.inr (.inr (.inr (va_up (va_up (va_up (fun _ => none) 0 (some q91)) 1 (some q95)) 2 (some q99))))))) :: (q91, .inr (2, [.ref q92, .ref q93, .int 0, .int 0, .int 0, .int 0])) :: (q92, .inl (kA 1, 60, .inl (fun _ => 0))) :: (q93, .inl (kA 1, 6, .inl (fun _ => 0))) :: (q95, .inr (2, [.ref q96, .ref q97, .int 0, .int 0, .int 0, .int 0])) :: (q96, .inl (kA 1, 60, .inl (fun _ => 0))) :: (q97, .inl (kA 1, 6, .inl (fun _ => 0))) :: (q99, .inr (2, [.ref q100, .ref q101, .int 0, .int 0, .int 0, .int 0])) :: (q100, .inl (kA 1, 60, .inl (fun _ => 0))) :: (q101, .inl (kA 1, 6, .inl (fun _ => 0))) :: (q103, .inl (kA 5, 2, .inr (.inr (.inr (.inr (va_up (va_up (fun _ => none) 0 (some q104)) 1 (some q107))))))) :: (q104, .inr (10, [.ref q105, .int 0, .int 0, .int 0])) :: (q107, .inr (10, [.ref q108, .int 0, .int 0, .int 0])) :: (q110, .inr (8, [.ref q111, .ref q112, .ref q113, .ref q114, .ref q115, .ref q116, .int 0])) :: (q118, .inr (0, [.ref q119, .ref q120, .ref q121])) :: (q121, .inl (kA 3, 4, .inl (fun _ => 0))) :: []) [(1, .int 2), (0, .ref h0)] 106 3055 146 [.ref q118, .ref h0]
  refine j_putF (ws' := ((h0, .inr (11, [.ref q53, .ref q56, .ref q58, .ref q72, .ref q86, .ref q90, .ref q103, .ref q110, .ref q118, .null, .null, .null, .null, .null, .null, .null, .null, .int 0, .int 0])) :: (q53, .inr (9, [.ref q54, .int 0, .int 0, .int 0, .int 0, .long 0, .int 0])) :: (q54, .inl (kA 0, 1600, .inl (fun _ => 0))) :: (q56, .inr (6, [.int 0, .int (-1), .int 0])) :: (q58, .inr (5, [.ref q59, .ref q60, .ref q61, .ref q62, .ref q63, .ref q64, .ref q65, .ref q66, .ref q67, .ref q68, .ref q69, .ref q70, .int 0, .int 0, .int 0])) :: (q61, .inl (kA 1, 6, .inl (fun _ => 0))) :: (q72, .inr (5, [.ref q73, .ref q74, .ref q75, .ref q76, .ref q77, .ref q78, .ref q79, .ref q80, .ref q81, .ref q82, .ref q83, .ref q84, .int 0, .int 0, .int 0])) :: (q75, .inl (kA 1, 6, .inl (fun _ => 0))) :: (q86, .inr (2, [.ref q87, .ref q88, .int 0, .int 0, .int 0, .int 0])) :: (q87, .inl (kA 1, 60, .inl (fun _ => 0))) :: (q88, .inl (kA 1, 6, .inl (fun _ => 0))) :: (q90, .inl (kA 4, 3, .inr (.inr (.inr (.inr (va_up (va_up (va_up (fun _ => none) 0 (some q91)) 1 (some q95)) 2 (some q99))))))) :: (q91, .inr (2, [.ref q92, .ref q93, .int 0, .int 0, .int 0, .int 0])) :: (q92, .inl (kA 1, 60, .inl (fun _ => 0))) :: (q93, .inl (kA 1, 6, .inl (fun _ => 0))) :: (q95, .inr (2, [.ref q96, .ref q97, .int 0, .int 0, .int 0, .int 0])) :: (q96, .inl (kA 1, 60, .inl (fun _ => 0))) :: (q97, .inl (kA 1, 6, .inl (fun _ => 0))) :: (q99, .inr (2, [.ref q100, .ref q101, .int 0, .int 0, .int 0, .int 0])) :: (q100, .inl (kA 1, 60, .inl (fun _ => 0))) :: (q101, .inl (kA 1, 6, .inl (fun _ => 0))) :: (q103, .inl (kA 5, 2, .inr (.inr (.inr (.inr (va_up (va_up (fun _ => none) 0 (some q104)) 1 (some q107))))))) :: (q104, .inr (10, [.ref q105, .int 0, .int 0, .int 0])) :: (q107, .inr (10, [.ref q108, .int 0, .int 0, .int 0])) :: (q110, .inr (8, [.ref q111, .ref q112, .ref q113, .ref q114, .ref q115, .ref q116, .int 0])) :: (q118, .inr (0, [.ref q119, .ref q120, .ref q121])) :: (q121, .inl (kA 3, 4, .inl (fun _ => 0))) :: [])) h iw_X11 tyX11 tyX11_ok nmX11 0 rfl rfl 8 (by decide) tw_483 rfl hnm rfl rfl rfl (Nat.le_of_ble_eq_true rfl) dX11_init_146 rfl ?_
  refine j_aload_n h 1 rfl rfl dX11_init_149 ?_
  refine j_new (ci := 3) (fs := [.null, .null, .null, .null, .null, .null, .null, .null, .int 0, .int 0, .int 0]) h iw_X3 tyX3 tyX3_ok tw_368 tw_369 tw_95 rfl (nx_def11 rfl) (Nat.le_of_ble_eq_true rfl) (Nat.le_of_ble_eq_true rfl) dX11_init_150 (fun q123 => ?_)
  show J x ((h0, .inr (11, [.ref q53, .ref q56, .ref q58, .ref q72, .ref q86, .ref q90, .ref q103, .ref q110, .ref q118, .null, .null, .null, .null, .null, .null, .null, .null, .int 0, .int 0])) :: (q53, .inr (9, [.ref q54, .int 0, .int 0, .int 0, .int 0, .long 0, .int 0])) :: (q54, .inl (kA 0, 1600, .inl (fun _ => 0))) :: (q56, .inr (6, [.int 0, .int (-1), .int 0])) :: (q58, .inr (5, [.ref q59, .ref q60, .ref q61, .ref q62, .ref q63, .ref q64, .ref q65, .ref q66, .ref q67, .ref q68, .ref q69, .ref q70, .int 0, .int 0, .int 0])) :: (q61, .inl (kA 1, 6, .inl (fun _ => 0))) :: (q72, .inr (5, [.ref q73, .ref q74, .ref q75, .ref q76, .ref q77, .ref q78, .ref q79, .ref q80, .ref q81, .ref q82, .ref q83, .ref q84, .int 0, .int 0, .int 0])) :: (q75, .inl (kA 1, 6, .inl (fun _ => 0))) :: (q86, .inr (2, [.ref q87, .ref q88, .int 0, .int 0, .int 0, .int 0])) :: (q87, .inl (kA 1, 60, .inl (fun _ => 0))) :: (q88, .inl (kA 1, 6, .inl (fun _ => 0))) :: (q90, .inl (kA 4, 3, .inr (.inr (.inr (.inr (va_up (va_up (va_up (fun _ => none) 0 (some q91)) 1 (some q95)) 2 (some q99))))))) :: (q91, .inr (2, [.ref q92, .ref q93, .int 0, .int 0, .int 0, .int 0])) :: (q92, .inl (kA 1, 60, .inl (fun _ => 0))) :: (q93, .inl (kA 1, 6, .inl (fun _ => 0))) :: (q95, .inr (2, [.ref q96, .ref q97, .int 0, .int 0, .int 0, .int 0])) :: (q96, .inl (kA 1, 60, .inl (fun _ => 0))) :: (q97, .inl (kA 1, 6, .inl (fun _ => 0))) :: (q99, .inr (2, [.ref q100, .ref q101, .int 0, .int 0, .int 0, .int 0])) :: (q100, .inl (kA 1, 60, .inl (fun _ => 0))) :: (q101, .inl (kA 1, 6, .inl (fun _ => 0))) :: (q103, .inl (kA 5, 2, .inr (.inr (.inr (.inr (va_up (va_up (fun _ => none) 0 (some q104)) 1 (some q107))))))) :: (q104, .inr (10, [.ref q105, .int 0, .int 0, .int 0])) :: (q107, .inr (10, [.ref q108, .int 0, .int 0, .int 0])) :: (q110, .inr (8, [.ref q111, .ref q112, .ref q113, .ref q114, .ref q115, .ref q116, .int 0])) :: (q118, .inr (0, [.ref q119, .ref q120, .ref q121])) :: (q121, .inl (kA 3, 4, .inl (fun _ => 0))) :: (q123, .inr (3, [.null, .null, .null, .null, .null, .null, .null, .null, .int 0, .int 0, .int 0])) :: []) [(1, .int 2), (0, .ref h0)] 107 3066 153 [.ref q123, .ref h0]
  refine j_dup h rfl dX11_init_153 ?_
  refine j_bipush (v := 6) h (by decide) dX11_init_154 ?_
  refine j_callI (rt := none) (isC := [27]) (isR := [0, 1, 2, 3, 4, 5, 6, 7, 8, 9, 10, 11, 12, 13, 14, 15, 16, 17, 18, 19, 20, 21, 22, 23, 24, 25, 26]) (wc := [(q123, .inr (3, [.null, .null, .null, .null, .null, .null, .null, .null, .int 0, .int 0, .int 0]))]) (wr := ((h0, .inr (11, [.ref q53, .ref q56, .ref q58, .ref q72, .ref q86, .ref q90, .ref q103, .ref q110, .ref q118, .null, .null, .null, .null, .null, .null, .null, .null, .int 0, .int 0])) :: (q53, .inr (9, [.ref q54, .int 0, .int 0, .int 0, .int 0, .long 0, .int 0])) :: (q54, .inl (kA 0, 1600, .inl (fun _ => 0))) :: (q56, .inr (6, [.int 0, .int (-1), .int 0])) :: (q58, .inr (5, [.ref q59, .ref q60, .ref q61, .ref q62, .ref q63, .ref q64, .ref q65, .ref q66, .ref q67, .ref q68, .ref q69, .ref q70, .int 0, .int 0, .int 0])) :: (q61, .inl (kA 1, 6, .inl (fun _ => 0))) :: (q72, .inr (5, [.ref q73, .ref q74, .ref q75, .ref q76, .ref q77, .ref q78, .ref q79, .ref q80, .ref q81, .ref q82, .ref q83, .ref q84, .int 0, .int 0, .int 0])) :: (q75, .inl (kA 1, 6, .inl (fun _ => 0))) :: (q86, .inr (2, [.ref q87, .ref q88, .int 0, .int 0, .int 0, .int 0])) :: (q87, .inl (kA 1, 60, .inl (fun _ => 0))) :: (q88, .inl (kA 1, 6, .inl (fun _ => 0))) :: (q90, .inl (kA 4, 3, .inr (.inr (.inr (.inr (va_up (va_up (va_up (fun _ => none) 0 (some q91)) 1 (some q95)) 2 (some q99))))))) :: (q91, .inr (2, [.ref q92, .ref q93, .int 0, .int 0, .int 0, .int 0])) :: (q92, .inl (kA 1, 60, .inl (fun _ => 0))) :: (q93, .inl (kA 1, 6, .inl (fun _ => 0))) :: (q95, .inr (2, [.ref q96, .ref q97, .int 0, .int 0, .int 0, .int 0])) :: (q96, .inl (kA 1, 60, .inl (fun _ => 0))) :: (q97, .inl (kA 1, 6, .inl (fun _ => 0))) :: (q99, .inr (2, [.ref q100, .ref q101, .int 0, .int 0, .int 0, .int 0])) :: (q100, .inl (kA 1, 60, .inl (fun _ => 0))) :: (q101, .inl (kA 1, 6, .inl (fun _ => 0))) :: (q103, .inl (kA 5, 2, .inr (.inr (.inr (.inr (va_up (va_up (fun _ => none) 0 (some q104)) 1 (some q107))))))) :: (q104, .inr (10, [.ref q105, .int 0, .int 0, .int 0])) :: (q107, .inr (10, [.ref q108, .int 0, .int 0, .int 0])) :: (q110, .inr (8, [.ref q111, .ref q112, .ref q113, .ref q114, .ref q115, .ref q116, .int 0])) :: (q118, .inr (0, [.ref q119, .ref q120, .ref q121])) :: (q121, .inl (kA 3, 4, .inl (fun _ => 0))) :: [])) (rest := [.ref q123, .ref h0]) (As := [.int 6]) h (c_X3_init6 _ _ kA q123 ) tw_370 tw_371 tw_95 tw_372 rfl (by decide +kernel) ⟨Nat.le_of_ble_eq_true rfl, Nat.le_of_ble_eq_true rfl⟩ rfl (by decide) rfl rfl (by decide) (by decide) (Nat.le_of_ble_eq_true rfl) rfl ⟨Nat.le_of_ble_eq_true rfl, Nat.le_of_ble_eq_true rfl⟩ dX11_init_156 ?_
  rintro ⟨q124, q125, q126, q127, q128, q129, q130, q131⟩ e132
  show J x ((h0, .inr (11, [.ref q53, .ref q56, .ref q58, .ref q72, .ref q86, .ref q90, .ref q103, .ref q110, .ref q118, .null, .null, .null, .null, .null, .null, .null, .null, .int 0, .int 0])) :: (q53, .inr (9, [.ref q54, .int 0, .int 0, .int 0, .int 0, .long 0, .int 0])) :: (q54, .inl (kA 0, 1600, .inl (fun _ => 0))) :: (q56, .inr (6, [.int 0, .int (-1), .int 0])) :: (q58, .inr (5, [.ref q59, .ref q60, .ref q61, .ref q62, .ref q63, .ref q64, .ref q65, .ref q66, .ref q67, .ref q68, .ref q69, .ref q70, .int 0, .int 0, .int 0])) :: (q61, .inl (kA 1, 6, .inl (fun _ => 0))) :: (q72, .inr (5, [.ref q73, .ref q74, .ref q75, .ref q76, .ref q77, .ref q78, .ref q79, .ref q80, .ref q81, .ref q82, .ref q83, .ref q84, .int 0, .int 0, .int 0])) :: (q75, .inl (kA 1, 6, .inl (fun _ => 0))) :: (q86, .inr (2, [.ref q87, .ref q88, .int 0, .int 0, .int 0, .int 0])) :: (q87, .inl (kA 1, 60, .inl (fun _ => 0))) :: (q88, .inl (kA 1, 6, .inl (fun _ => 0))) :: (q90, .inl (kA 4, 3, .inr (.inr (.inr (.inr (va_up (va_up (va_up (fun _ => none) 0 (some q91)) 1 (some q95)) 2 (some q99))))))) :: (q91, .inr (2, [.ref q92, .ref q93, .int 0, .int 0, .int 0, .int 0])) :: (q92, .inl (kA 1, 60, .inl (fun _ => 0))) :: (q93, .inl (kA 1, 6, .inl (fun _ => 0))) :: (q95, .inr (2, [.ref q96, .ref q97, .int 0, .int 0, .int 0, .int 0])) :: (q96, .inl (kA 1, 60, .inl (fun _ => 0))) :: (q97, .inl (kA 1, 6, .inl (fun _ => 0))) :: (q99, .inr (2, [.ref q100, .ref q101, .int 0, .int 0, .int 0, .int 0])) :: (q100, .inl (kA 1, 60, .inl (fun _ => 0))) :: (q101, .inl (kA 1, 6, .inl (fun _ => 0))) :: (q103, .inl (kA 5, 2, .inr (.inr (.inr (.inr (va_up (va_up (fun _ => none) 0 (some q104)) 1 (some q107))))))) :: (q104, .inr (10, [.ref q105, .int 0, .int 0, .int 0])) :: (q107, .inr (10, [.ref q108, .int 0, .int 0, .int 0])) :: (q110, .inr (8, [.ref q111, .ref q112, .ref q113, .ref q114, .ref q115, .ref q116, .int 0])) :: (q118, .inr (0, [.ref q119, .ref q120, .ref q121])) :: (q121, .inl (kA 3, 4, .inl (fun _ => 0))) :: (q123, .inr (3, [.ref q124, .ref q125, .ref q126, .ref q127, .ref q128, .ref q129, .ref q130, .ref q131, .int 0, .int 0, .int 0])) :: []) [(1, .int 2), (0, .ref h0)] 135 3964 159 [.ref q123, .ref h0]
  refine j_putF (ws' := ((h0, .inr (11, [.ref q53, .ref q56, .ref q58, .ref q72, .ref q86, .ref q90, .ref q103, .ref q110, .ref q118, .ref q123, .null, .null, .null, .null, .null, .null, .null, .int 0, .int 0])) :: (q53, .inr (9, [.ref q54, .int 0, .int 0, .int 0, .int 0, .long 0, .int 0])) :: (q54, .inl (kA 0, 1600, .inl (fun _ => 0))) :: (q56, .inr (6, [.int 0, .int (-1), .int 0])) :: (q58, .inr (5, [.ref q59, .ref q60, .ref q61, .ref q62, .ref q63, .ref q64, .ref q65, .ref q66, .ref q67, .ref q68, .ref q69, .ref q70, .int 0, .int 0, .int 0])) :: (q61, .inl (kA 1, 6, .inl (fun _ => 0))) :: (q72, .inr (5, [.ref q73, .ref q74, .ref q75, .ref q76, .ref q77, .ref q78, .ref q79, .ref q80, .ref q81, .ref q82, .ref q83, .ref q84, .int 0, .int 0, .int 0])) :: (q75, .inl (kA 1, 6, .inl (fun _ => 0))) :: (q86, .inr (2, [.ref q87, .ref q88, .int 0, .int 0, .int 0, .int 0])) :: (q87, .inl (kA 1, 60, .inl (fun _ => 0))) :: (q88, .inl (kA 1, 6, .inl (fun _ => 0))) :: (q90, .inl (kA 4, 3, .inr (.inr (.inr (.inr (va_up (va_up (va_up (fun _ => none) 0 (some q91)) 1 (some q95)) 2 (some q99))))))) :: (q91, .inr (2, [.ref q92, .ref q93, .int 0, .int 0, .int 0, .int 0])) :: (q92, .inl (kA 1, 60, .inl (fun _ => 0))) :: (q93, .inl (kA 1, 6, .inl (fun _ => 0))) :: (q95, .inr (2, [.ref q96, .ref q97, .int 0, .int 0, .int 0, .int 0])) :: (q96, .inl (kA 1, 60, .inl (fun _ => 0))) :: (q97, .inl (kA 1, 6, .inl (fun _ => 0))) :: (q99, .inr (2, [.ref q100, .ref q101, .int 0, .int 0, .int 0, .int 0])) :: (q100, .inl (kA 1, 60, .inl (fun _ => 0))) :: (q101, .inl (kA 1, 6, .inl (fun _ => 0))) :: (q103, .inl (kA 5, 2, .inr (.inr (.inr (.inr (va_up (va_up (fun _ => none) 0 (some q104)) 1 (some q107))))))) :: (q104, .inr (10, [.ref q105, .int 0, .int 0, .int 0])) :: (q107, .inr (10, [.ref q108, .int 0, .int 0, .int 0])) :: (q110, .inr (8, [.ref q111, .ref q112, .ref q113, .ref q114, .ref q115, .ref q116, .int 0])) :: (q118, .inr (0, [.ref q119, .ref q120, .ref q121])) :: (q121, .inl (kA 3, 4, .inl (fun _ => 0))) :: (q123, .inr (3, [.ref q124, .ref q125, .ref q126, .ref q127, .ref q128, .ref q129, .ref q130, .ref q131, .int 0, .int 0, .int 0])) :: [])) h iw_X11 tyX11 tyX11_ok nmX11 0 rfl rfl 9 (by decide) tw_484 rfl hnm rfl rfl rfl (Nat.le_of_ble_eq_true rfl) dX11_init_159 rfl ?_
  refine j_aload_n h 1 rfl rfl dX11_init_162 ?_
  refine j_new (ci := 3) (fs := [.null, .null, .null, .null, .null, .null, .null, .null, .int 0, .int 0, .int 0]) h iw_X3 tyX3 tyX3_ok tw_368 tw_369 tw_95 rfl (nx_def11 rfl) (Nat.le_of_ble_eq_true rfl) (Nat.le_of_ble_eq_true rfl) dX11_init_163 (fun q133 => ?_)
  show J x ((h0, .inr (11, [.ref q53, .ref q56, .ref q58, .ref q72, .ref q86, .ref q90, .ref q103, .ref q110, .ref q118, .ref q123, .null, .null, .null, .null, .null, .null, .null, .int 0, .int 0])) :: (q53, .inr (9, [.ref q54, .int 0, .int 0, .int 0, .int 0, .long 0, .int 0])) :: (q54, .inl (kA 0, 1600, .inl (fun _ => 0))) :: (q56, .inr (6, [.int 0, .int (-1), .int 0])) :: (q58, .inr (5, [.ref q59, .ref q60, .ref q61, .ref q62, .ref q63, .ref q64, .ref q65, .ref q66, .ref q67, .ref q68, .ref q69, .ref q70, .int 0, .int 0, .int 0])) :: (q61, .inl (kA 1, 6, .inl (fun _ => 0))) :: (q72, .inr (5, [.ref q73, .ref q74, .ref q75, .ref q76, .ref q77, .ref q78, .ref q79, .ref q80, .ref q81, .ref q82, .ref q83, .ref q84, .int 0, .int 0, .int 0])) :: (q75, .inl (kA 1, 6, .inl (fun _ => 0))) :: (q86, .inr (2, [.ref q87, .ref q88, .int 0, .int 0, .int 0, .int 0])) :: (q87, .inl (kA 1, 60, .inl (fun _ => 0))) :: (q88, .inl (kA 1, 6, .inl (fun _ => 0))) :: (q90, .inl (kA 4, 3, .inr (.inr (.inr (.inr (va_up (va_up (va_up (fun _ => none) 0 (some q91)) 1 (some q95)) 2 (some q99))))))) :: (q91, .inr (2, [.ref q92, .ref q93, .int 0, .int 0, .int 0, .int 0])) :: (q92, .inl (kA 1, 60, .inl (fun _ => 0))) :: (q93, .inl (kA 1, 6, .inl (fun _ => 0))) :: (q95, .inr (2, [.ref q96, .ref q97, .int 0, .int 0, .int 0, .int 0])) :: (q96, .inl (kA 1, 60, .inl (fun _ => 0))) :: (q97, .inl (kA 1, 6, .inl (fun _ => 0))) :: (q99, .inr (2, [.ref q100, .ref q101, .int 0, .int 0, .int 0, .int 0])) :: (q100, .inl (kA 1, 60, .inl (fun _ => 0))) :: (q101, .inl (kA 1, 6, .inl (fun _ => 0))) :: (q103, .inl (kA 5, 2, .inr (.inr (.inr (.inr (va_up (va_up (fun _ => none) 0 (some q104)) 1 (some q107))))))) :: (q104, .inr (10, [.ref q105, .int 0, .int 0, .int 0])) :: (q107, .inr (10, [.ref q108, .int 0, .int 0, .int 0])) :: (q110, .inr (8, [.ref q111, .ref q112, .ref q113, .ref q114, .ref q115, .ref q116, .int 0])) :: (q118, .inr (0, [.ref q119, .ref q120, .ref q121])) :: (q121, .inl (kA 3, 4, .inl (fun _ => 0))) :: (q123, .inr (3, [.ref q124, .ref q125, .ref q126, .ref q127, .ref q128, .ref q129, .ref q130, .ref q131, .int 0, .int 0, .int 0])) :: (q133, .inr (3, [.null, .null, .null, .null, .null, .null, .null, .null, .int 0, .int 0, .int 0])) :: []) [(1, .int 2), (0, .ref h0)] 136 3975 166 [.ref q133, .ref h0]
  refine j_dup h rfl dX11_init_166 ?_
  refine j_bipush (v := 10) h (by decide) dX11_init_167 ?_
  refine j_callI (rt := none) (isC := [28]) (isR := [0, 1, 2, 3, 4, 5, 6, 7, 8, 9, 10, 11, 12, 13, 14, 15, 16, 17, 18, 19, 20, 21, 22, 23, 24, 25, 26, 27]) (wc := [(q133, .inr (3, [.null, .null, .null, .null, .null, .null, .null, .null, .int 0, .int 0, .int 0]))]) (wr := ((h0, .inr (11, [.ref q53, .ref q56, .ref q58, .ref q72, .ref q86, .ref q90, .ref q103, .ref q110, .ref q118, .ref q123, .null, .null, .null, .null, .null, .null, .null, .int 0, .int 0])) :: (q53, .inr (9, [.ref q54, .int 0, .int 0, .int 0, .int 0, .long 0, .int 0])) :: (q54, .inl (kA 0, 1600, .inl (fun _ => 0))) :: (q56, .inr (6, [.int 0, .int (-1), .int 0])) :: (q58, .inr (5, [.ref q59, .ref q60, .ref q61, .ref q62, .ref q63, .ref q64, .ref q65, .ref q66, .ref q67, .ref q68, .ref q69, .ref q70, .int 0, .int 0, .int 0])) :: (q61, .inl (kA 1, 6, .inl (fun _ => 0))) :: (q72, .inr (5, [.ref q73, .ref q74, .ref q75, .ref q76, .ref q77, .ref q78, .ref q79, .ref q80, .ref q81, .ref q82, .ref q83, .ref q84, .int 0, .int 0, .int 0])) :: (q75, .inl (kA 1, 6, .inl (fun _ => 0))) :: (q86, .inr (2, [.ref q87, .ref q88, .int 0, .int 0, .int 0, .int 0])) :: (q87, .inl (kA 1, 60, .inl (fun _ => 0))) :: (q88, .inl (kA 1, 6, .inl (fun _ => 0))) :: (q90, .inl (kA 4, 3, .inr (.inr (.inr (.inr (va_up (va_up (va_up (fun _ => none) 0 (some q91)) 1 (some q95)) 2 (some q99))))))) :: (q91, .inr (2, [.ref q92, .ref q93, .int 0, .int 0, .int 0, .int 0])) :: (q92, .inl (kA 1, 60, .inl (fun _ => 0))) :: (q93, .inl (kA 1, 6, .inl (fun _ => 0))) :: (q95, .inr (2, [.ref q96, .ref q97, .int 0, .int 0, .int 0, .int 0])) :: (q96, .inl (kA 1, 60, .inl (fun _ => 0))) :: (q97, .inl (kA 1, 6, .inl (fun _ => 0))) :: (q99, .inr (2, [.ref q100, .ref q101, .int 0, .int 0, .int 0, .int 0])) :: (q100, .inl (kA 1, 60, .inl (fun _ => 0))) :: (q101, .inl (kA 1, 6, .inl (fun _ => 0))) :: (q103, .inl (kA 5, 2, .inr (.inr (.inr (.inr (va_up (va_up (fun _ => none) 0 (some q104)) 1 (some q107))))))) :: (q104, .inr (10, [.ref q105, .int 0, .int 0, .int 0])) :: (q107, .inr (10, [.ref q108, .int 0, .int 0, .int 0])) :: (q110, .inr (8, [.ref q111, .ref q112, .ref q113, .ref q114, .ref q115, .ref q116, .int 0])) :: (q118, .inr (0, [.ref q119, .ref q120, .ref q121])) :: (q121, .inl (kA 3, 4, .inl (fun _ => 0))) :: (q123, .inr (3, [.ref q124, .ref q125, .ref q126, .ref q127, .ref q128, .ref q129, .ref q130, .ref q131, .int 0, .int 0, .int 0])) :: [])) (rest := [.ref q133, .ref h0]) (As := [.int 10]) h (c_X3_init10 _ _ kA q133 ) tw_370 tw_371 tw_95 tw_372 rfl (by decide +kernel) ⟨Nat.le_of_ble_eq_true rfl, Nat.le_of_ble_eq_true rfl⟩ rfl (by decide) rfl rfl (by decide) (by decide) (Nat.le_of_ble_eq_true rfl) rfl ⟨Nat.le_of_ble_eq_true rfl, Nat.le_of_ble_eq_true rfl⟩ dX11_init_169 ?_
  rintro ⟨q134, q135, q136, q137, q138, q139, q140, q141⟩ e142
  show J x ((h0, .inr (11, [.ref q53, .ref q56, .ref q58, .ref q72, .ref q86, .ref q90, .ref q103, .ref q110, .ref q118, .ref q123, .null, .null, .null, .null, .null, .null, .null, .int 0, .int 0])) :: (q53, .inr (9, [.ref q54, .int 0, .int 0, .int 0, .int 0, .long 0, .int 0])) :: (q54, .inl (kA 0, 1600, .inl (fun _ => 0))) :: (q56, .inr (6, [.int 0, .int (-1), .int 0])) :: (q58, .inr (5, [.ref q59, .ref q60, .ref q61, .ref q62, .ref q63, .ref q64, .ref q65, .ref q66, .ref q67, .ref q68, .ref q69, .ref q70, .int 0, .int 0, .int 0])) :: (q61, .inl (kA 1, 6, .inl (fun _ => 0))) :: (q72, .inr (5, [.ref q73, .ref q74, .ref q75, .ref q76, .ref q77, .ref q78, .ref q79, .ref q80, .ref q81, .ref q82, .ref q83, .ref q84, .int 0, .int 0, .int 0])) :: (q75, .inl (kA 1, 6, .inl (fun _ => 0))) :: (q86, .inr (2, [.ref q87, .ref q88, .int 0, .int 0, .int 0, .int 0])) :: (q87, .inl (kA 1, 60, .inl (fun _ => 0))) :: (q88, .inl (kA 1, 6, .inl (fun _ => 0))) :: (q90, .inl (kA 4, 3, .inr (.inr (.inr (.inr (va_up (va_up (va_up (fun _ => none) 0 (some q91)) 1 (some q95)) 2 (some q99))))))) :: (q91, .inr (2, [.ref q92, .ref q93, .int 0, .int 0, .int 0, .int 0])) :: (q92, .inl (kA 1, 60, .inl (fun _ => 0))) :: (q93, .inl (kA 1, 6, .inl (fun _ => 0))) :: (q95, .inr (2, [.ref q96, .ref q97, .int 0, .int 0, .int 0, .int 0])) :: (q96, .inl (kA 1, 60, .inl (fun _ => 0))) :: (q97, .inl (kA 1, 6, .inl (fun _ => 0))) :: (q99, .inr (2, [.ref q100, .ref q101, .int 0, .int 0, .int 0, .int 0])) :: (q100, .inl (kA 1, 60, .inl (fun _ => 0))) :: (q101, .inl (kA 1, 6, .inl (fun _ => 0))) :: (q103, .inl (kA 5, 2, .inr (.inr (.inr (.inr (va_up (va_up (fun _ => none) 0 (some q104)) 1 (some q107))))))) :: (q104, .inr (10, [.ref q105, .int 0, .int 0, .int 0])) :: (q107, .inr (10, [.ref q108, .int 0, .int 0, .int 0])) :: (q110, .inr (8, [.ref q111, .ref q112, .ref q113, .ref q114, .ref q115, .ref q116, .int 0])) :: (q118, .inr (0, [.ref q119, .ref q120, .ref q121])) :: (q121, .inl (kA 3, 4, .inl (fun _ => 0))) :: (q123, .inr (3, [.ref q124, .ref q125, .ref q126, .ref q127, .ref q128, .ref q129, .ref q130, .ref q131, .int 0, .int 0, .int 0])) :: (q133, .inr (3, [.ref q134, .ref q135, .ref q136, .ref q137, .ref q138, .ref q139, .ref q140, .ref q141, .int 0, .int 0, .int 0])) :: (q137, .inl (kA 7, 8, .inr (.inr (.inr (.inr (nx_q q137 8)))))) :: ((q137 + 1 + 0), .inl (kA 2, 61, .inr (.inl (fun _ => 0)))) :: ((q137 + 1 + 1), .inl (kA 2, 61, .inr (.inl (fun _ => 0)))) :: (q139, .inl (kA 2, 2, .inr (.inl (fun _ => 0)))) :: (q140, .inl (kA 2, 2, .inr (.inl (fun _ => 0)))) :: (q141, .inl (kA 2, 2, .inr (.inl (fun _ => 0)))) :: []) [(1, .int 2), (0, .ref h0)] 172 5137 172 [.ref q133, .ref h0]
  refine j_putF (ws' := ((h0, .inr (11, [.ref q53, .ref q56, .ref q58, .ref q72, .ref q86, .ref q90, .ref q103, .ref q110, .ref q118, .ref q123, .ref q133, .null, .null, .null, .null, .null, .null, .int 0, .int 0])) :: (q53, .inr (9, [.ref q54, .int 0, .int 0, .int 0, .int 0, .long 0, .int 0])) :: (q54, .inl (kA 0, 1600, .inl (fun _ => 0))) :: (q56, .inr (6, [.int 0, .int (-1), .int 0])) :: (q58, .inr (5, [.ref q59, .ref q60, .ref q61, .ref q62, .ref q63, .ref q64, .ref q65, .ref q66, .ref q67, .ref q68, .ref q69, .ref q70, .int 0, .int 0, .int 0])) :: (q61, .inl (kA 1, 6, .inl (fun _ => 0))) :: (q72, .inr (5, [.ref q73, .ref q74, .ref q75, .ref q76, .ref q77, .ref q78, .ref q79, .ref q80, .ref q81, .ref q82, .ref q83, .ref q84, .int 0, .int 0, .int 0])) :: (q75, .inl (kA 1, 6, .inl (fun _ => 0))) :: (q86, .inr (2, [.ref q87, .ref q88, .int 0, .int 0, .int 0, .int 0])) :: (q87, .inl (kA 1, 60, .inl (fun _ => 0))) :: (q88, .inl (kA 1, 6, .inl (fun _ => 0))) :: (q90, .inl (kA 4, 3, .inr (.inr (.inr (.inr (va_up (va_up (va_up (fun _ => none) 0 (some q91)) 1 (some q95)) 2 (some q99))))))) :: (q91, .inr (2, [.ref q92, .ref q93, .int 0, .int 0, .int 0, .int 0])) :: (q92, .inl (kA 1, 60, .inl (fun _ => 0))) :: (q93, .inl (kA 1, 6, .inl (fun _ => 0))) :: (q95, .inr (2, [.ref q96, .ref q97, .int 0, .int 0, .int 0, .int 0])) :: (q96, .inl (kA 1, 60, .inl (fun _ => 0))) :: (q97, .inl (kA 1, 6, .inl (fun _ => 0))) :: (q99, .inr (2, [.ref q100, .ref q101, .int 0, .int 0, .int 0, .int 0])) :: (q100, .inl (kA 1, 60, .inl (fun _ => 0))) :: (q101, .inl (kA 1, 6, .inl (fun _ => 0))) :: (q103, .inl (kA 5, 2, .inr (.inr (.inr (.inr (va_up (va_up (fun _ => none) 0 (some q104)) 1 (some q107))))))) :: (q104, .inr (10, [.ref q105, .int 0, .int 0, .int 0])) :: (q107, .inr (10, [.ref q108, .int 0, .int 0, .int 0])) :: (q110, .inr (8, [.ref q111, .ref q112, .ref q113, .ref q114, .ref q115, .ref q116, .int 0])) :: (q118, .inr (0, [.ref q119, .ref q120, .ref q121])) :: (q121, .inl (kA 3, 4, .inl (fun _ => 0))) :: (q123, .inr (3, [.ref q124, .ref q125, .ref q126, .ref q127, .ref q128, .ref q129, .ref q130, .ref q131, .int 0, .int 0, .int 0])) :: (q133, .inr (3, [.ref q134, .ref q135, .ref q136, .ref q137, .ref q138, .ref q139, .ref q140, .ref q141, .int 0, .int 0, .int 0])) :: (q137, .inl (kA 7, 8, .inr (.inr (.inr (.inr (nx_q q137 8)))))) :: ((q137 + 1 + 0), .inl (kA 2, 61, .inr (.inl (fun _ => 0)))) :: ((q137 + 1 + 1), .inl (kA 2, 61, .inr (.inl (fun _ => 0)))) :: (q139, .inl (kA 2, 2, .inr (.inl (fun _ => 0)))) :: (q140, .inl (kA 2, 2, .inr (.inl (fun _ => 0)))) :: (q141, .inl (kA 2, 2, .inr (.inl (fun _ => 0)))) :: [])) h iw_X11 tyX11 tyX11_ok nmX11 0 rfl rfl 10 (by decide) tw_485 rfl hnm rfl rfl rfl (Nat.le_of_ble_eq_true rfl) dX11_init_172 rfl ?_
  refine j_aload_n h 1 rfl rfl dX11_init_175 ?_
  refine j_new (ci := 4) (fs := [.null, .null, .null, .null, .int 0]) h iw_X4 tyX4 tyX4_ok tw_414 tw_415 tw_96 rfl (nx_def5 rfl) (Nat.le_of_ble_eq_true rfl) (Nat.le_of_ble_eq_true rfl) dX11_init_176 (fun q143 => ?_)
  show J x ((h0, .inr (11, [.ref q53, .ref q56, .ref q58, .ref q72, .ref q86, .ref q90, .ref q103, .ref q110, .ref q118, .ref q123, .ref q133, .null, .null, .null, .null, .null, .null, .int 0, .int 0])) :: (q53, .inr (9, [.ref q54, .int 0, .int 0, .int 0, .int 0, .long 0, .int 0])) :: (q54, .inl (kA 0, 1600, .inl (fun _ => 0))) :: (q56, .inr (6, [.int 0, .int (-1), .int 0])) :: (q58, .inr (5, [.ref q59, .ref q60, .ref q61, .ref q62, .ref q63, .ref q64, .ref q65, .ref q66, .ref q67, .ref q68, .ref q69, .ref q70, .int 0, .int 0, .int 0])) :: (q61, .inl (kA 1, 6, .inl (fun _ => 0))) :: (q72, .inr (5, [.ref q73, .ref q74, .ref q75, .ref q76, .ref q77, .ref q78, .ref q79, .ref q80, .ref q81, .ref q82, .ref q83, .ref q84, .int 0, .int 0, .int 0])) :: (q75, .inl (kA 1, 6, .inl (fun _ => 0))) :: (q86, .inr (2, [.ref q87, .ref q88, .int 0, .int 0, .int 0, .int 0])) :: (q87, .inl (kA 1, 60, .inl (fun _ => 0))) :: (q88, .inl (kA 1, 6, .inl (fun _ => 0))) :: (q90, .inl (kA 4, 3, .inr (.inr (.inr (.inr (va_up (va_up (va_up (fun _ => none) 0 (some q91)) 1 (some q95)) 2 (some q99))))))) :: (q91, .inr (2, [.ref q92, .ref q93, .int 0, .int 0, .int 0, .int 0])) :: (q92, .inl (kA 1, 60, .inl (fun _ => 0))) :: (q93, .inl (kA 1, 6, .inl (fun _ => 0))) :: (q95, .inr (2, [.ref q96, .ref q97, .int 0, .int 0, .int 0, .int 0])) :: (q96, .inl (kA 1, 60, .inl (fun _ => 0))) :: (q97, .inl (kA 1, 6, .inl (fun _ => 0))) :: (q99, .inr (2, [.ref q100, .ref q101, .int 0, .int 0, .int 0, .int 0])) :: (q100, .inl (kA 1, 60, .inl (fun _ => 0))) :: (q101, .inl (kA 1, 6, .inl (fun _ => 0))) :: (q103, .inl (kA 5, 2, .inr (.inr (.inr (.inr (va_up (va_up (fun _ => none) 0 (some q104)) 1 (some q107))))))) :: (q104, .inr (10, [.ref q105, .int 0, .int 0, .int 0])) :: (q107, .inr (10, [.ref q108, .int 0, .int 0, .int 0])) :: (q110, .inr (8, [.ref q111, .ref q112, .ref q113, .ref q114, .ref q115, .ref q116, .int 0])) :: (q118, .inr (0, [.ref q119, .ref q120, .ref q121])) :: (q121, .inl (kA 3, 4, .inl (fun _ => 0))) :: (q123, .inr (3, [.ref q124, .ref q125, .ref q126, .ref q127, .ref q128, .ref q129, .ref q130, .ref q131, .int 0, .int 0, .int 0])) :: (q133, .inr (3, [.ref q134, .ref q135, .ref q136, .ref q137, .ref q138, .ref q139, .ref q140, .ref q141, .int 0, .int 0, .int 0])) :: (q137, .inl (kA 7, 8, .inr (.inr (.inr (.inr (nx_q q137 8)))))) :: ((q137 + 1 + 0), .inl (kA 2, 61, .inr (.inl (fun _ => 0)))) :: ((q137 + 1 + 1), .inl (kA 2, 61, .inr (.inl (fun _ => 0)))) :: (q139, .inl (kA 2, 2, .inr (.inl (fun _ => 0)))) :: (q140, .inl (kA 2, 2, .inr (.inl (fun _ => 0)))) :: (q141, .inl (kA 2, 2, .inr (.inl (fun _ => 0)))) :: (q143, .inr (4, [.null, .null, .null, .null, .int 0])) :: []) [(1, .int 2), (0, .ref h0)] 173 5142 179 [.ref q143, .ref h0]
  refine j_dup h rfl dX11_init_179 ?_
  refine j_callIN (rt := none) (isC := [35]) (isR := [0, 1, 2, 3, 4, 5, 6, 7, 8, 9, 10, 11, 12, 13, 14, 15, 16, 17, 18, 19, 20, 21, 22, 23, 24, 25, 26, 27, 28, 29, 30, 31, 32, 33, 34]) (wc := [(q143, .inr (4, [.null, .null, .null, .null, .int 0]))]) (wr := ((h0, .inr (11, [.ref q53, .ref q56, .ref q58, .ref q72, .ref q86, .ref q90, .ref q103, .ref q110, .ref q118, .ref q123, .ref q133, .null, .null, .null, .null, .null, .null, .int 0, .int 0])) :: (q53, .inr (9, [.ref q54, .int 0, .int 0, .int 0, .int 0, .long 0, .int 0])) :: (q54, .inl (kA 0, 1600, .inl (fun _ => 0))) :: (q56, .inr (6, [.int 0, .int (-1), .int 0])) :: (q58, .inr (5, [.ref q59, .ref q60, .ref q61, .ref q62, .ref q63, .ref q64, .ref q65, .ref q66, .ref q67, .ref q68, .ref q69, .ref q70, .int 0, .int 0, .int 0])) :: (q61, .inl (kA 1, 6, .inl (fun _ => 0))) :: (q72, .inr (5, [.ref q73, .ref q74, .ref q75, .ref q76, .ref q77, .ref q78, .ref q79, .ref q80, .ref q81, .ref q82, .ref q83, .ref q84, .int 0, .int 0, .int 0])) :: (q75, .inl (kA 1, 6, .inl (fun _ => 0))) :: (q86, .inr (2, [.ref q87, .ref q88, .int 0, .int 0, .int 0, .int 0])) :: (q87, .inl (kA 1, 60, .inl (fun _ => 0))) :: (q88, .inl (kA 1, 6, .inl (fun _ => 0))) :: (q90, .inl (kA 4, 3, .inr (.inr (.inr (.inr (va_up (va_up (va_up (fun _ => none) 0 (some q91)) 1 (some q95)) 2 (some q99))))))) :: (q91, .inr (2, [.ref q92, .ref q93, .int 0, .int 0, .int 0, .int 0])) :: (q92, .inl (kA 1, 60, .inl (fun _ => 0))) :: (q93, .inl (kA 1, 6, .inl (fun _ => 0))) :: (q95, .inr (2, [.ref q96, .ref q97, .int 0, .int 0, .int 0, .int 0])) :: (q96, .inl (kA 1, 60, .inl (fun _ => 0))) :: (q97, .inl (kA 1, 6, .inl (fun _ => 0))) :: (q99, .inr (2, [.ref q100, .ref q101, .int 0, .int 0, .int 0, .int 0])) :: (q100, .inl (kA 1, 60, .inl (fun _ => 0))) :: (q101, .inl (kA 1, 6, .inl (fun _ => 0))) :: (q103, .inl (kA 5, 2, .inr (.inr (.inr (.inr (va_up (va_up (fun _ => none) 0 (some q104)) 1 (some q107))))))) :: (q104, .inr (10, [.ref q105, .int 0, .int 0, .int 0])) :: (q107, .inr (10, [.ref q108, .int 0, .int 0, .int 0])) :: (q110, .inr (8, [.ref q111, .ref q112, .ref q113, .ref q114, .ref q115, .ref q116, .int 0])) :: (q118, .inr (0, [.ref q119, .ref q120, .ref q121])) :: (q121, .inl (kA 3, 4, .inl (fun _ => 0))) :: (q123, .inr (3, [.ref q124, .ref q125, .ref q126, .ref q127, .ref q128, .ref q129, .ref q130, .ref q131, .int 0, .int 0, .int 0])) :: (q133, .inr (3, [.ref q134, .ref q135, .ref q136, .ref q137, .ref q138, .ref q139, .ref q140, .ref q141, .int 0, .int 0, .int 0])) :: (q137, .inl (kA 7, 8, .inr (.inr (.inr (.inr (nx_q q137 8)))))) :: ((q137 + 1 + 0), .inl (kA 2, 61, .inr (.inl (fun _ => 0)))) :: ((q137 + 1 + 1), .inl (kA 2, 61, .inr (.inl (fun _ => 0)))) :: (q139, .inl (kA 2, 2, .inr (.inl (fun _ => 0)))) :: (q140, .inl (kA 2, 2, .inr (.inl (fun _ => 0)))) :: (q141, .inl (kA 2, 2, .inr (.inl (fun _ => 0)))) :: [])) (rest := [.ref q143, .ref h0]) (As := []) h (c_X4_init _ _ kA q143 ) (by decide) tw_417 tw_96 tw_418 rfl (by decide +kernel) ⟨Nat.le_of_ble_eq_true rfl, Nat.le_of_ble_eq_true rfl⟩ rfl (by decide) rfl rfl (by decide) (by decide) (Nat.le_of_ble_eq_true rfl) rfl ⟨Nat.le_of_ble_eq_true rfl, Nat.le_of_ble_eq_true rfl⟩ dX11_init_180 ?_
  rintro ⟨q144, q145, q146, q147⟩ e148
  show J x ((h0, .inr (11, [.ref q53, .ref q56, .ref q58, .ref q72, .ref q86, .ref q90, .ref q103, .ref q110, .ref q118, .ref q123, .ref q133, .null, .null, .null, .null, .null, .null, .int 0, .int 0])) :: (q53, .inr (9, [.ref q54, .int 0, .int 0, .int 0, .int 0, .long 0, .int 0])) :: (q54, .inl (kA 0, 1600, .inl (fun _ => 0))) :: (q56, .inr (6, [.int 0, .int (-1), .int 0])) :: (q58, .inr (5, [.ref q59, .ref q60, .ref q61, .ref q62, .ref q63, .ref q64, .ref q65, .ref q66, .ref q67, .ref q68, .ref q69, .ref q70, .int 0, .int 0, .int 0])) :: (q61, .inl (kA 1, 6, .inl (fun _ => 0))) :: (q72, .inr (5, [.ref q73, .ref q74, .ref q75, .ref q76, .ref q77, .ref q78, .ref q79, .ref q80, .ref q81, .ref q82, .ref q83, .ref q84, .int 0, .int 0, .int 0])) :: (q75, .inl (kA 1, 6, .inl (fun _ => 0))) :: (q86, .inr (2, [.ref q87, .ref q88, .int 0, .int 0, .int 0, .int 0])) :: (q87, .inl (kA 1, 60, .inl (fun _ => 0))) :: (q88, .inl (kA 1, 6, .inl (fun _ => 0))) :: (q90, .inl (kA 4, 3, .inr (.inr (.inr (.inr (va_up (va_up (va_up (fun _ => none) 0 (some q91)) 1 (some q95)) 2 (some q99))))))) :: (q91, .inr (2, [.ref q92, .ref q93, .int 0, .int 0, .int 0, .int 0])) :: (q92, .inl (kA 1, 60, .inl (fun _ => 0))) :: (q93, .inl (kA 1, 6, .inl (fun _ => 0))) :: (q95, .inr (2, [.ref q96, .ref q97, .int 0, .int 0, .int 0, .int 0])) :: (q96, .inl (kA 1, 60, .inl (fun _ => 0))) :: (q97, .inl (kA 1, 6, .inl (fun _ => 0))) :: (q99, .inr (2, [.ref q100, .ref q101, .int 0, .int 0, .int 0, .int 0])) :: (q100, .inl (kA 1, 60, .inl (fun _ => 0))) :: (q101, .inl (kA 1, 6, .inl (fun _ => 0))) :: (q103, .inl (kA 5, 2, .inr (.inr (.inr (.inr (va_up (va_up (fun _ => none) 0 (some q104)) 1 (some q107))))))) :: (q104, .inr (10, [.ref q105, .int 0, .int 0, .int 0])) :: (q107, .inr (10, [.ref q108, .int 0, .int 0, .int 0])) :: (q110, .inr (8, [.ref q111, .ref q112, .ref q113, .ref q114, .ref q115, .ref q116, .int 0])) :: (q118, .inr (0, [.ref q119, .ref q120, .ref q121])) :: (q121, .inl (kA 3, 4, .inl (fun _ => 0))) :: (q123, .inr (3, [.ref q124, .ref q125, .ref q126, .ref q127, .ref q128, .ref q129, .ref q130, .ref q131, .int 0, .int 0, .int 0])) :: (q133, .inr (3, [.ref q134, .ref q135, .ref q136, .ref q137, .ref q138, .ref q139, .ref q140, .ref q141, .int 0, .int 0, .int 0])) :: (q137, .inl (kA 7, 8, .inr (.inr (.inr (.inr (nx_q q137 8)))))) :: ((q137 + 1 + 0), .inl (kA 2, 61, .inr (.inl (fun _ => 0)))) :: ((q137 + 1 + 1), .inl (kA 2, 61, .inr (.inl (fun _ => 0)))) :: (q139, .inl (kA 2, 2, .inr (.inl (fun _ => 0)))) :: (q140, .inl (kA 2, 2, .inr (.inl (fun _ => 0)))) :: (q141, .inl (kA 2, 2, .inr (.inl (fun _ => 0)))) :: (q143, .inr (4, [.ref q144, .ref q145, .ref q146, .ref q147, .int 0])) :: []) [(1, .int 2), (0, .ref h0)] 187 5670 183 [.ref q143, .ref h0]
  refine j_putF (ws' := ((h0, .inr (11, [.ref q53, .ref q56, .ref q58, .ref q72, .ref q86, .ref q90, .ref q103, .ref q110, .ref q118, .ref q123, .ref q133, .ref q143, .null, .null, .null, .null, .null, .int 0, .int 0])) :: (q53, .inr (9, [.ref q54, .int 0, .int 0, .int 0, .int 0, .long 0, .int 0])) :: (q54, .inl (kA 0, 1600, .inl (fun _ => 0))) :: (q56, .inr (6, [.int 0, .int (-1), .int 0])) :: (q58, .inr (5, [.ref q59, .ref q60, .ref q61, .ref q62, .ref q63, .ref q64, .ref q65, .ref q66, .ref q67, .ref q68, .ref q69, .ref q70, .int 0, .int 0, .int 0])) :: (q61, .inl (kA 1, 6, .inl (fun _ => 0))) :: (q72, .inr (5, [.ref q73, .ref q74, .ref q75, .ref q76, .ref q77, .ref q78, .ref q79, .ref q80, .ref q81, .ref q82, .ref q83, .ref q84, .int 0, .int 0, .int 0])) :: (q75, .inl (kA 1, 6, .inl (fun _ => 0))) :: (q86, .inr (2, [.ref q87, .ref q88, .int 0, .int 0, .int 0, .int 0])) :: (q87, .inl (kA 1, 60, .inl (fun _ => 0))) :: (q88, .inl (kA 1, 6, .inl (fun _ => 0))) :: (q90, .inl (kA 4, 3, .inr (.inr (.inr (.inr (va_up (va_up (va_up (fun _ => none) 0 (some q91)) 1 (some q95)) 2 (some q99))))))) :: (q91, .inr (2, [.ref q92, .ref q93, .int 0, .int 0, .int 0, .int 0])) :: (q92, .inl (kA 1, 60, .inl (fun _ => 0))) :: (q93, .inl (kA 1, 6, .inl (fun _ => 0))) :: (q95, .inr (2, [.ref q96, .ref q97, .int 0, .int 0, .int 0, .int 0])) :: (q96, .inl (kA 1, 60, .inl (fun _ => 0))) :: (q97, .inl (kA 1, 6, .inl (fun _ => 0))) :: (q99, .inr (2, [.ref q100, .ref q101, .int 0, .int 0, .int 0, .int 0])) :: (q100, .inl (kA 1, 60, .inl (fun _ => 0))) :: (q101, .inl (kA 1, 6, .inl (fun _ => 0))) :: (q103, .inl (kA 5, 2, .inr (.inr (.inr (.inr (va_up (va_up (fun _ => none) 0 (some q104)) 1 (some q107))))))) :: (q104, .inr (10, [.ref q105, .int 0, .int 0, .int 0])) :: (q107, .inr (10, [.ref q108, .int 0, .int 0, .int 0])) :: (q110, .inr (8, [.ref q111, .ref q112, .ref q113, .ref q114, .ref q115, .ref q116, .int 0])) :: (q118, .inr (0, [.ref q119, .ref q120, .ref q121])) :: (q121, .inl (kA 3, 4, .inl (fun _ => 0))) :: (q123, .inr (3, [.ref q124, .ref q125, .ref q126, .ref q127, .ref q128, .ref q129, .ref q130, .ref q131, .int 0, .int 0, .int 0])) :: (q133, .inr (3, [.ref q134, .ref q135, .ref q136, .ref q137, .ref q138, .ref q139, .ref q140, .ref q141, .int 0, .int 0, .int 0])) :: (q137, .inl (kA 7, 8, .inr (.inr (.inr (.inr (nx_q q137 8)))))) :: ((q137 + 1 + 0), .inl (kA 2, 61, .inr (.inl (fun _ => 0)))) :: ((q137 + 1 + 1), .inl (kA 2, 61, .inr (.inl (fun _ => 0)))) :: (q139, .inl (kA 2, 2, .inr (.inl (fun _ => 0)))) :: (q140, .inl (kA 2, 2, .inr (.inl (fun _ => 0)))) :: (q141, .inl (kA 2, 2, .inr (.inl (fun _ => 0)))) :: (q143, .inr (4, [.ref q144, .ref q145, .ref q146, .ref q147, .int 0])) :: [])) h iw_X11 tyX11 tyX11_ok nmX11 0 rfl rfl 11 (by decide) tw_486 rfl hnm rfl rfl rfl (Nat.le_of_ble_eq_true rfl) dX11_init_183 rfl ?_
  refine j_aload_n h 1 rfl rfl dX11_init_186 ?_
  refine j_new (ci := 7) (fs := [.null, .null, .null, .int 0]) h iw_X7 tyX7 tyX7_ok tw_437 tw_438 tw_97 rfl (nx_def4 rfl) (Nat.le_of_ble_eq_true rfl) (Nat.le_of_ble_eq_true rfl) dX11_init_187 (fun q149 => ?_)
  show J x ((h0, .inr (11, [.ref q53, .ref q56, .ref q58, .ref q72, .ref q86, .ref q90, .ref q103, .ref q110, .ref q118, .ref q123, .ref q133, .ref q143, .null, .null, .null, .null, .null, .int 0, .int 0])) :: (q53, .inr (9, [.ref q54, .int 0, .int 0, .int 0, .int 0, .long 0, .int 0])) :: (q54, .inl (kA 0, 1600, .inl (fun _ => 0))) :: (q56, .inr (6, [.int 0, .int (-1), .int 0])) :: (q58, .inr (5, [.ref q59, .ref q60, .ref q61, .ref q62, .ref q63, .ref q64, .ref q65, .ref q66, .ref q67, .ref q68, .ref q69, .ref q70, .int 0, .int 0, .int 0])) :: (q61, .inl (kA 1, 6, .inl (fun _ => 0))) :: (q72, .inr (5, [.ref q73, .ref q74, .ref q75, .ref q76, .ref q77, .ref q78, .ref q79, .ref q80, .ref q81, .ref q82, .ref q83, .ref q84, .int 0, .int 0, .int 0])) :: (q75, .inl (kA 1, 6, .inl (fun _ => 0))) :: (q86, .inr (2, [.ref q87, .ref q88, .int 0, .int 0, .int 0, .int 0])) :: (q87, .inl (kA 1, 60, .inl (fun _ => 0))) :: (q88, .inl (kA 1, 6, .inl (fun _ => 0))) :: (q90, .inl (kA 4, 3, .inr (.inr (.inr (.inr (va_up (va_up (va_up (fun _ => none) 0 (some q91)) 1 (some q95)) 2 (some q99))))))) :: (q91, .inr (2, [.ref q92, .ref q93, .int 0, .int 0, .int 0, .int 0])) :: (q92, .inl (kA 1, 60, .inl (fun _ => 0))) :: (q93, .inl (kA 1, 6, .inl (fun _ => 0))) :: (q95, .inr (2, [.ref q96, .ref q97, .int 0, .int 0, .int 0, .int 0])) :: (q96, .inl (kA 1, 60, .inl (fun _ => 0))) :: (q97, .inl (kA 1, 6, .inl (fun _ => 0))) :: (q99, .inr (2, [.ref q100, .ref q101, .int 0, .int 0, .int 0, .int 0])) :: (q100, .inl (kA 1, 60, .inl (fun _ => 0))) :: (q101, .inl (kA 1, 6, .inl (fun _ => 0))) :: (q103, .inl (kA 5, 2, .inr (.inr (.inr (.inr (va_up (va_up (fun _ => none) 0 (some q104)) 1 (some q107))))))) :: (q104, .inr (10, [.ref q105, .int 0, .int 0, .int 0])) :: (q107, .inr (10, [.ref q108, .int 0, .int 0, .int 0])) :: (q110, .inr (8, [.ref q111, .ref q112, .ref q113, .ref q114, .ref q115, .ref q116, .int 0])) :: (q118, .inr (0, [.ref q119, .ref q120, .ref q121])) :: (q121, .inl (kA 3, 4, .inl (fun _ => 0))) :: (q123, .inr (3, [.ref q124, .ref q125, .ref q126, .ref q127, .ref q128, .ref q129, .ref q130, .ref q131, .int 0, .int 0, .int 0])) :: (q133, .inr (3, [.ref q134, .ref q135, .ref q136, .ref q137, .ref q138, .ref q139, .ref q140, .ref q141, .int 0, .int 0, .int 0])) :: (q137, .inl (kA 7, 8, .inr (.inr (.inr (.inr (nx_q q137 8)))))) :: ((q137 + 1 + 0), .inl (kA 2, 61, .inr (.inl (fun _ => 0)))) :: ((q137 + 1 + 1), .inl (kA 2, 61, .inr (.inl (fun _ => 0)))) :: (q139, .inl (kA 2, 2, .inr (.inl (fun _ => 0)))) :: (q140, .inl (kA 2, 2, .inr (.inl (fun _ => 0)))) :: (q141, .inl (kA 2, 2, .inr (.inl (fun _ => 0)))) :: (q143, .inr (4, [.ref q144, .ref q145, .ref q146, .ref q147, .int 0])) :: (q149, .inr (7, [.null, .null, .null, .int 0])) :: []) [(1, .int 2), (0, .ref h0)] 188 5674 190 [.ref q149, .ref h0]
  refine j_dup h rfl dX11_init_190 ?_
  refine j_callIN (rt := none) (isC := [36]) (isR := [0, 1, 2, 3, 4, 5, 6, 7, 8, 9, 10, 11, 12, 13, 14, 15, 16, 17, 18, 19, 20, 21, 22, 23, 24, 25, 26, 27, 28, 29, 30, 31, 32, 33, 34, 35]) (wc := [(q149, .inr (7, [.null, .null, .null, .int 0]))]) (wr := ((h0, .inr (11, [.ref q53, .ref q56, .ref q58, .ref q72, .ref q86, .ref q90, .ref q103, .ref q110, .ref q118, .ref q123, .ref q133, .ref q143, .null, .null, .null, .null, .null, .int 0, .int 0])) :: (q53, .inr (9, [.ref q54, .int 0, .int 0, .int 0, .int 0, .long 0, .int 0])) :: (q54, .inl (kA 0, 1600, .inl (fun _ => 0))) :: (q56, .inr (6, [.int 0, .int (-1), .int 0])) :: (q58, .inr (5, [.ref q59, .ref q60, .ref q61, .ref q62, .ref q63, .ref q64, .ref q65, .ref q66, .ref q67, .ref q68, .ref q69, .ref q70, .int 0, .int 0, .int 0])) :: (q61, .inl (kA 1, 6, .inl (fun _ => 0))) :: (q72, .inr (5, [.ref q73, .ref q74, .ref q75, .ref q76, .ref q77, .ref q78, .ref q79, .ref q80, .ref q81, .ref q82, .ref q83, .ref q84, .int 0, .int 0, .int 0])) :: (q75, .inl (kA 1, 6, .inl (fun _ => 0))) :: (q86, .inr (2, [.ref q87, .ref q88, .int 0, .int 0, .int 0, .int 0])) :: (q87, .inl (kA 1, 60, .inl (fun _ => 0))) :: (q88, .inl (kA 1, 6, .inl (fun _ => 0))) :: (q90, .inl (kA 4, 3, .inr (.inr (.inr (.inr (va_up (va_up (va_up (fun _ => none) 0 (some q91)) 1 (some q95)) 2 (some q99))))))) :: (q91, .inr (2, [.ref q92, .ref q93, .int 0, .int 0, .int 0, .int 0])) :: (q92, .inl (kA 1, 60, .inl (fun _ => 0))) :: (q93, .inl (kA 1, 6, .inl (fun _ => 0))) :: (q95, .inr (2, [.ref q96, .ref q97, .int 0, .int 0, .int 0, .int 0])) :: (q96, .inl (kA 1, 60, .inl (fun _ => 0))) :: (q97, .inl (kA 1, 6, .inl (fun _ => 0))) :: (q99, .inr (2, [.ref q100, .ref q101, .int 0, .int 0, .int 0, .int 0])) :: (q100, .inl (kA 1, 60, .inl (fun _ => 0))) :: (q101, .inl (kA 1, 6, .inl (fun _ => 0))) :: (q103, .inl (kA 5, 2, .inr (.inr (.inr (.inr (va_up (va_up (fun _ => none) 0 (some q104)) 1 (some q107))))))) :: (q104, .inr (10, [.ref q105, .int 0, .int 0, .int 0])) :: (q107, .inr (10, [.ref q108, .int 0, .int 0, .int 0])) :: (q110, .inr (8, [.ref q111, .ref q112, .ref q113, .ref q114, .ref q115, .ref q116, .int 0])) :: (q118, .inr (0, [.ref q119, .ref q120, .ref q121])) :: (q121, .inl (kA 3, 4, .inl (fun _ => 0))) :: (q123, .inr (3, [.ref q124, .ref q125, .ref q126, .ref q127, .ref q128, .ref q129, .ref q130, .ref q131, .int 0, .int 0, .int 0])) :: (q133, .inr (3, [.ref q134, .ref q135, .ref q136, .ref q137, .ref q138, .ref q139, .ref q140, .ref q141, .int 0, .int 0, .int 0])) :: (q137, .inl (kA 7, 8, .inr (.inr (.inr (.inr (nx_q q137 8)))))) :: ((q137 + 1 + 0), .inl (kA 2, 61, .inr (.inl (fun _ => 0)))) :: ((q137 + 1 + 1), .inl (kA 2, 61, .inr (.inl (fun _ => 0)))) :: (q139, .inl (kA 2, 2, .inr (.inl (fun _ => 0)))) :: (q140, .inl (kA 2, 2, .inr (.inl (fun _ => 0)))) :: (q141, .inl (kA 2, 2, .inr (.inl (fun _ => 0)))) :: (q143, .inr (4, [.ref q144, .ref q145, .ref q146, .ref q147, .int 0])) :: [])) (rest := [.ref q149, .ref h0]) (As := []) h (c_X7_init _ _ kA q149 ) (by decide) tw_440 tw_97 tw_441 rfl (by decide +kernel) ⟨Nat.le_of_ble_eq_true rfl, Nat.le_of_ble_eq_true rfl⟩ rfl (by decide) rfl rfl (by decide) (by decide) (Nat.le_of_ble_eq_true rfl) rfl ⟨Nat.le_of_ble_eq_true rfl, Nat.le_of_ble_eq_true rfl⟩ dX11_init_191 ?_
  rintro ⟨q150, q151, q152⟩ e153
  show J x ((h0, .inr (11, [.ref q53, .ref q56, .ref q58, .ref q72, .ref q86, .ref q90, .ref q103, .ref q110, .ref q118, .ref q123, .ref q133, .ref q143, .null, .null, .null, .null, .null, .int 0, .int 0])) :: (q53, .inr (9, [.ref q54, .int 0, .int 0, .int 0, .int 0, .long 0, .int 0])) :: (q54, .inl (kA 0, 1600, .inl (fun _ => 0))) :: (q56, .inr (6, [.int 0, .int (-1), .int 0])) :: (q58, .inr (5, [.ref q59, .ref q60, .ref q61, .ref q62, .ref q63, .ref q64, .ref q65, .ref q66, .ref q67, .ref q68, .ref q69, .ref q70, .int 0, .int 0, .int 0])) :: (q61, .inl (kA 1, 6, .inl (fun _ => 0))) :: (q72, .inr (5, [.ref q73, .ref q74, .ref q75, .ref q76, .ref q77, .ref q78, .ref q79, .ref q80, .ref q81, .ref q82, .ref q83, .ref q84, .int 0, .int 0, .int 0])) :: (q75, .inl (kA 1, 6, .inl (fun _ => 0))) :: (q86, .inr (2, [.ref q87, .ref q88, .int 0, .int 0, .int 0, .int 0])) :: (q87, .inl (kA 1, 60, .inl (fun _ => 0))) :: (q88, .inl (kA 1, 6, .inl (fun _ => 0))) :: (q90, .inl (kA 4, 3, .inr (.inr (.inr (.inr (va_up (va_up (va_up (fun _ => none) 0 (some q91)) 1 (some q95)) 2 (some q99))))))) :: (q91, .inr (2, [.ref q92, .ref q93, .int 0, .int 0, .int 0, .int 0])) :: (q92, .inl (kA 1, 60, .inl (fun _ => 0))) :: (q93, .inl (kA 1, 6, .inl (fun _ => 0))) :: (q95, .inr (2, [.ref q96, .ref q97, .int 0, .int 0, .int 0, .int 0])) :: (q96, .inl (kA 1, 60, .inl (fun _ => 0))) :: (q97, .inl (kA 1, 6, .inl (fun _ => 0))) :: (q99, .inr (2, [.ref q100, .ref q101, .int 0, .int 0, .int 0, .int 0])) :: (q100, .inl (kA 1, 60, .inl (fun _ => 0))) :: (q101, .inl (kA 1, 6, .inl (fun _ => 0))) :: (q103, .inl (kA 5, 2, .inr (.inr (.inr (.inr (va_up (va_up (fun _ => none) 0 (some q104)) 1 (some q107))))))) :: (q104, .inr (10, [.ref q105, .int 0, .int 0, .int 0])) :: (q107, .inr (10, [.ref q108, .int 0, .int 0, .int 0])) :: (q110, .inr (8, [.ref q111, .ref q112, .ref q113, .ref q114, .ref q115, .ref q116, .int 0])) :: (q118, .inr (0, [.ref q119, .ref q120, .ref q121])) :: (q121, .inl (kA 3, 4, .inl (fun _ => 0))) :: (q123, .inr (3, [.ref q124, .ref q125, .ref q126, .ref q127, .ref q128, .ref q129, .ref q130, .ref q131, .int 0, .int 0, .int 0])) :: (q133, .inr (3, [.ref q134, .ref q135, .ref q136, .ref q137, .ref q138, .ref q139, .ref q140, .ref q141, .int 0, .int 0, .int 0])) :: (q137, .inl (kA 7, 8, .inr (.inr (.inr (.inr (nx_q q137 8)))))) :: ((q137 + 1 + 0), .inl (kA 2, 61, .inr (.inl (fun _ => 0)))) :: ((q137 + 1 + 1), .inl (kA 2, 61, .inr (.inl (fun _ => 0)))) :: (q139, .inl (kA 2, 2, .inr (.inl (fun _ => 0)))) :: (q140, .inl (kA 2, 2, .inr (.inl (fun _ => 0)))) :: (q141, .inl (kA 2, 2, .inr (.inl (fun _ => 0)))) :: (q143, .inr (4, [.ref q144, .ref q145, .ref q146, .ref q147, .int 0])) :: (q149, .inr (7, [.ref q150, .ref q151, .ref q152, .int 0])) :: []) [(1, .int 2), (0, .ref h0)] 191 5857 194 [.ref q149, .ref h0]
  refine j_putF (ws' := ((h0, .inr (11, [.ref q53, .ref q56, .ref q58, .ref q72, .ref q86, .ref q90, .ref q103, .ref q110, .ref q118, .ref q123, .ref q133, .ref q143, .ref q149, .null, .null, .null, .null, .int 0, .int 0])) :: (q53, .inr (9, [.ref q54, .int 0, .int 0, .int 0, .int 0, .long 0, .int 0])) :: (q54, .inl (kA 0, 1600, .inl (fun _ => 0))) :: (q56, .inr (6, [.int 0, .int (-1), .int 0])) :: (q58, .inr (5, [.ref q59, .ref q60, .ref q61, .ref q62, .ref q63, .ref q64, .ref q65, .ref q66, .ref q67, .ref q68, .ref q69, .ref q70, .int 0, .int 0, .int 0])) :: (q61, .inl (kA 1, 6, .inl (fun _ => 0))) :: (q72, .inr (5, [.ref q73, .ref q74, .ref q75, .ref q76, .ref q77, .ref q78, .ref q79, .ref q80, .ref q81, .ref q82, .ref q83, .ref q84, .int 0, .int 0, .int 0])) :: (q75, .inl (kA 1, 6, .inl (fun _ => 0))) :: (q86, .inr (2, [.ref q87, .ref q88, .int 0, .int 0, .int 0, .int 0])) :: (q87, .inl (kA 1, 60, .inl (fun _ => 0))) :: (q88, .inl (kA 1, 6, .inl (fun _ => 0))) :: (q90, .inl (kA 4, 3, .inr (.inr (.inr (.inr (va_up (va_up (va_up (fun _ => none) 0 (some q91)) 1 (some q95)) 2 (some q99))))))) :: (q91, .inr (2, [.ref q92, .ref q93, .int 0, .int 0, .int 0, .int 0])) :: (q92, .inl (kA 1, 60, .inl (fun _ => 0))) :: (q93, .inl (kA 1, 6, .inl (fun _ => 0))) :: (q95, .inr (2, [.ref q96, .ref q97, .int 0, .int 0, .int 0, .int 0])) :: (q96, .inl (kA 1, 60, .inl (fun _ => 0))) :: (q97, .inl (kA 1, 6, .inl (fun _ => 0))) :: (q99, .inr (2, [.ref q100, .ref q101, .int 0, .int 0, .int 0, .int 0])) :: (q100, .inl (kA 1, 60, .inl (fun _ => 0))) :: (q101, .inl (kA 1, 6, .inl (fun _ => 0))) :: (q103, .inl (kA 5, 2, .inr (.inr (.inr (.inr (va_up (va_up (fun _ => none) 0 (some q104)) 1 (some q107))))))) :: (q104, .inr (10, [.ref q105, .int 0, .int 0, .int 0])) :: (q107, .inr (10, [.ref q108, .int 0, .int 0, .int 0])) :: (q110, .inr (8, [.ref q111, .ref q112, .ref q113, .ref q114, .ref q115, .ref q116, .int 0])) :: (q118, .inr (0, [.ref q119, .ref q120, .ref q121])) :: (q121, .inl (kA 3, 4, .inl (fun _ => 0))) :: (q123, .inr (3, [.ref q124, .ref q125, .ref q126, .ref q127, .ref q128, .ref q129, .ref q130, .ref q131, .int 0, .int 0, .int 0])) :: (q133, .inr (3, [.ref q134, .ref q135, .ref q136, .ref q137, .ref q138, .ref q139, .ref q140, .ref q141, .int 0, .int 0, .int 0])) :: (q137, .inl (kA 7, 8, .inr (.inr (.inr (.inr (nx_q q137 8)))))) :: ((q137 + 1 + 0), .inl (kA 2, 61, .inr (.inl (fun _ => 0)))) :: ((q137 + 1 + 1), .inl (kA 2, 61, .inr (.inl (fun _ => 0)))) :: (q139, .inl (kA 2, 2, .inr (.inl (fun _ => 0)))) :: (q140, .inl (kA 2, 2, .inr (.inl (fun _ => 0)))) :: (q141, .inl (kA 2, 2, .inr (.inl (fun _ => 0)))) :: (q143, .inr (4, [.ref q144, .ref q145, .ref q146, .ref q147, .int 0])) :: (q149, .inr (7, [.ref q150, .ref q151, .ref q152, .int 0])) :: [])) h iw_X11 tyX11 tyX11_ok nmX11 0 rfl rfl 12 (by decide) tw_487 rfl hnm rfl rfl rfl (Nat.le_of_ble_eq_true rfl) dX11_init_194 rfl ?_
  refine j_aload_n h 1 rfl rfl dX11_init_197 ?_
  refine j_new (ci := 1) (fs := [.null, .null, .null, .null]) h iw_X1 tyX1 tyX1_ok tw_456 tw_457 tw_98 rfl (nx_def4 rfl) (Nat.le_of_ble_eq_true rfl) (Nat.le_of_ble_eq_true rfl) dX11_init_198 (fun q154 => ?_)
  show J x ((h0, .inr (11, [.ref q53, .ref q56, .ref q58, .ref q72, .ref q86, .ref q90, .ref q103, .ref q110, .ref q118, .ref q123, .ref q133, .ref q143, .ref q149, .null, .null, .null, .null, .int 0, .int 0])) :: (q53, .inr (9, [.ref q54, .int 0, .int 0, .int 0, .int 0, .long 0, .int 0])) :: (q54, .inl (kA 0, 1600, .inl (fun _ => 0))) :: (q56, .inr (6, [.int 0, .int (-1), .int 0])) :: (q58, .inr (5, [.ref q59, .ref q60, .ref q61, .ref q62, .ref q63, .ref q64, .ref q65, .ref q66, .ref q67, .ref q68, .ref q69, .ref q70, .int 0, .int 0, .int 0])) :: (q61, .inl (kA 1, 6, .inl (fun _ => 0))) :: (q72, .inr (5, [.ref q73, .ref q74, .ref q75, .ref q76, .ref q77, .ref q78, .ref q79, .ref q80, .ref q81, .ref q82, .ref q83, .ref q84, .int 0, .int 0, .int 0])) :: (q75, .inl (kA 1, 6, .inl (fun _ => 0))) :: (q86, .inr (2, [.ref q87, .ref q88, .int 0, .int 0, .int 0, .int 0])) :: (q87, .inl (kA 1, 60, .inl (fun _ => 0))) :: (q88, .inl (kA 1, 6, .inl (fun _ => 0))) :: (q90, .inl (kA 4, 3, .inr (.inr (.inr (.inr (va_up (va_up (va_up (fun _ => none) 0 (some q91)) 1 (some q95)) 2 (some q99))))))) :: (q91, .inr (2, [.ref q92, .ref q93, .int 0, .int 0, .int 0, .int 0])) :: (q92, .inl (kA 1, 60, .inl (fun _ => 0))) :: (q93, .inl (kA 1, 6, .inl (fun _ => 0))) :: (q95, .inr (2, [.ref q96, .ref q97, .int 0, .int 0, .int 0, .int 0])) :: (q96, .inl (kA 1, 60, .inl (fun _ => 0))) :: (q97, .inl (kA 1, 6, .inl (fun _ => 0))) :: (q99, .inr (2, [.ref q100, .ref q101, .int 0, .int 0, .int 0, .int 0])) :: (q100, .inl (kA 1, 60, .inl (fun _ => 0))) :: (q101, .inl (kA 1, 6, .inl (fun _ => 0))) :: (q103, .inl (kA 5, 2, .inr (.inr (.inr (.inr (va_up (va_up (fun _ => none) 0 (some q104)) 1 (some q107))))))) :: (q104, .inr (10, [.ref q105, .int 0, .int 0, .int 0])) :: (q107, .inr (10, [.ref q108, .int 0, .int 0, .int 0])) :: (q110, .inr (8, [.ref q111, .ref q112, .ref q113, .ref q114, .ref q115, .ref q116, .int 0])) :: (q118, .inr (0, [.ref q119, .ref q120, .ref q121])) :: (q121, .inl (kA 3, 4, .inl (fun _ => 0))) :: (q123, .inr (3, [.ref q124, .ref q125, .ref q126, .ref q127, .ref q128, .ref q129, .ref q130, .ref q131, .int 0, .int 0, .int 0])) :: (q133, .inr (3, [.ref q134, .ref q135, .ref q136, .ref q137, .ref q138, .ref q139, .ref q140, .ref q141, .int 0, .int 0, .int 0])) :: (q137, .inl (kA 7, 8, .inr (.inr (.inr (.inr (nx_q q137 8)))))) :: ((q137 + 1 + 0), .inl (kA 2, 61, .inr (.inl (fun _ => 0)))) :: ((q137 + 1 + 1), .inl (kA 2, 61, .inr (.inl (fun _ => 0)))) :: (q139, .inl (kA 2, 2, .inr (.inl (fun _ => 0)))) :: (q140, .inl (kA 2, 2, .inr (.inl (fun _ => 0)))) :: (q141, .inl (kA 2, 2, .inr (.inl (fun _ => 0)))) :: (q143, .inr (4, [.ref q144, .ref q145, .ref q146, .ref q147, .int 0])) :: (q149, .inr (7, [.ref q150, .ref q151, .ref q152, .int 0])) :: (q154, .inr (1, [.null, .null, .null, .null])) :: []) [(1, .int 2), (0, .ref h0)] 192 5861 201 [.ref q154, .ref h0]
  refine j_dup h rfl dX11_init_201 ?_
  refine j_callIN (rt := none) (isC := [37]) (isR := [0, 1, 2, 3, 4, 5, 6, 7, 8, 9, 10, 11, 12, 13, 14, 15, 16, 17, 18, 19, 20, 21, 22, 23, 24, 25, 26, 27, 28, 29, 30, 31, 32, 33, 34, 35, 36]) (wc := [(q154, .inr (1, [.null, .null, .null, .null]))]) (wr := ((h0, .inr (11, [.ref q53, .ref q56, .ref q58, .ref q72, .ref q86, .ref q90, .ref q103, .ref q110, .ref q118, .ref q123, .ref q133, .ref q143, .ref q149, .null, .null, .null, .null, .int 0, .int 0])) :: (q53, .inr (9, [.ref q54, .int 0, .int 0, .int 0, .int 0, .long 0, .int 0])) :: (q54, .inl (kA 0, 1600, .inl (fun _ => 0))) :: (q56, .inr (6, [.int 0, .int (-1), .int 0])) :: (q58, .inr (5, [.ref q59, .ref q60, .ref q61, .ref q62, .ref q63, .ref q64, .ref q65, .ref q66, .ref q67, .ref q68, .ref q69, .ref q70, .int 0, .int 0, .int 0])) :: (q61, .inl (kA 1, 6, .inl (fun _ => 0))) :: (q72, .inr (5, [.ref q73, .ref q74, .ref q75, .ref q76, .ref q77, .ref q78, .ref q79, .ref q80, .ref q81, .ref q82, .ref q83, .ref q84, .int 0, .int 0, .int 0])) :: (q75, .inl (kA 1, 6, .inl (fun _ => 0))) :: (q86, .inr (2, [.ref q87, .ref q88, .int 0, .int 0, .int 0, .int 0])) :: (q87, .inl (kA 1, 60, .inl (fun _ => 0))) :: (q88, .inl (kA 1, 6, .inl (fun _ => 0))) :: (q90, .inl (kA 4, 3, .inr (.inr (.inr (.inr (va_up (va_up (va_up (fun _ => none) 0 (some q91)) 1 (some q95)) 2 (some q99))))))) :: (q91, .inr (2, [.ref q92, .ref q93, .int 0, .int 0, .int 0, .int 0])) :: (q92, .inl (kA 1, 60, .inl (fun _ => 0))) :: (q93, .inl (kA 1, 6, .inl (fun _ => 0))) :: (q95, .inr (2, [.ref q96, .ref q97, .int 0, .int 0, .int 0, .int 0])) :: (q96, .inl (kA 1, 60, .inl (fun _ => 0))) :: (q97, .inl (kA 1, 6, .inl (fun _ => 0))) :: (q99, .inr (2, [.ref q100, .ref q101, .int 0, .int 0, .int 0, .int 0])) :: (q100, .inl (kA 1, 60, .inl (fun _ => 0))) :: (q101, .inl (kA 1, 6, .inl (fun _ => 0))) :: (q103, .inl (kA 5, 2, .inr (.inr (.inr (.inr (va_up (va_up (fun _ => none) 0 (some q104)) 1 (some q107))))))) :: (q104, .inr (10, [.ref q105, .int 0, .int 0, .int 0])) :: (q107, .inr (10, [.ref q108, .int 0, .int 0, .int 0])) :: (q110, .inr (8, [.ref q111, .ref q112, .ref q113, .ref q114, .ref q115, .ref q116, .int 0])) :: (q118, .inr (0, [.ref q119, .ref q120, .ref q121])) :: (q121, .inl (kA 3, 4, .inl (fun _ => 0))) :: (q123, .inr (3, [.ref q124, .ref q125, .ref q126, .ref q127, .ref q128, .ref q129, .ref q130, .ref q131, .int 0, .int 0, .int 0])) :: (q133, .inr (3, [.ref q134, .ref q135, .ref q136, .ref q137, .ref q138, .ref q139, .ref q140, .ref q141, .int 0, .int 0, .int 0])) :: (q137, .inl (kA 7, 8, .inr (.inr (.inr (.inr (nx_q q137 8)))))) :: ((q137 + 1 + 0), .inl (kA 2, 61, .inr (.inl (fun _ => 0)))) :: ((q137 + 1 + 1), .inl (kA 2, 61, .inr (.inl (fun _ => 0)))) :: (q139, .inl (kA 2, 2, .inr (.inl (fun _ => 0)))) :: (q140, .inl (kA 2, 2, .inr (.inl (fun _ => 0)))) :: (q141, .inl (kA 2, 2, .inr (.inl (fun _ => 0)))) :: (q143, .inr (4, [.ref q144, .ref q145, .ref q146, .ref q147, .int 0])) :: (q149, .inr (7, [.ref q150, .ref q151, .ref q152, .int 0])) :: [])) (rest := [.ref q154, .ref h0]) (As := []) h (c_X1_init _ _ kA q154 ) (by decide) tw_459 tw_98 tw_460 rfl (by decide +kernel) ⟨Nat.le_of_ble_eq_true rfl, Nat.le_of_ble_eq_true rfl⟩ rfl (by decide) rfl rfl (by decide) (by decide) (Nat.le_of_ble_eq_true rfl) rfl ⟨Nat.le_of_ble_eq_true rfl, Nat.le_of_ble_eq_true rfl⟩ dX11_init_202 ?_
  rintro ⟨q155, q156, q157, q158⟩ e159
  show J x ((h0, .inr (11, [.ref q53, .ref q56, .ref q58, .ref q72, .ref q86, .ref q90, .ref q103, .ref q110, .ref q118, .ref q123, .ref q133, .ref q143, .ref q149, .null, .null, .null, .null, .int 0, .int 0])) :: (q53, .inr (9, [.ref q54, .int 0, .int 0, .int 0, .int 0, .long 0, .int 0])) :: (q54, .inl (kA 0, 1600, .inl (fun _ => 0))) :: (q56, .inr (6, [.int 0, .int (-1), .int 0])) :: (q58, .inr (5, [.ref q59, .ref q60, .ref q61, .ref q62, .ref q63, .ref q64, .ref q65, .ref q66, .ref q67, .ref q68, .ref q69, .ref q70, .int 0, .int 0, .int 0])) :: (q61, .inl (kA 1, 6, .inl (fun _ => 0))) :: (q72, .inr (5, [.ref q73, .ref q74, .ref q75, .ref q76, .ref q77, .ref q78, .ref q79, .ref q80, .ref q81, .ref q82, .ref q83, .ref q84, .int 0, .int 0, .int 0])) :: (q75, .inl (kA 1, 6, .inl (fun _ => 0))) :: (q86, .inr (2, [.ref q87, .ref q88, .int 0, .int 0, .int 0, .int 0])) :: (q87, .inl (kA 1, 60, .inl (fun _ => 0))) :: (q88, .inl (kA 1, 6, .inl (fun _ => 0))) :: (q90, .inl (kA 4, 3, .inr (.inr (.inr (.inr (va_up (va_up (va_up (fun _ => none) 0 (some q91)) 1 (some q95)) 2 (some q99))))))) :: (q91, .inr (2, [.ref q92, .ref q93, .int 0, .int 0, .int 0, .int 0])) :: (q92, .inl (kA 1, 60, .inl (fun _ => 0))) :: (q93, .inl (kA 1, 6, .inl (fun _ => 0))) :: (q95, .inr (2, [.ref q96, .ref q97, .int 0, .int 0, .int 0, .int 0])) :: (q96, .inl (kA 1, 60, .inl (fun _ => 0))) :: (q97, .inl (kA 1, 6, .inl (fun _ => 0))) :: (q99, .inr (2, [.ref q100, .ref q101, .int 0, .int 0, .int 0, .int 0])) :: (q100, .inl (kA 1, 60, .inl (fun _ => 0))) :: (q101, .inl (kA 1, 6, .inl (fun _ => 0))) :: (q103, .inl (kA 5, 2, .inr (.inr (.inr (.inr (va_up (va_up (fun _ => none) 0 (some q104)) 1 (some q107))))))) :: (q104, .inr (10, [.ref q105, .int 0, .int 0, .int 0])) :: (q107, .inr (10, [.ref q108, .int 0, .int 0, .int 0])) :: (q110, .inr (8, [.ref q111, .ref q112, .ref q113, .ref q114, .ref q115, .ref q116, .int 0])) :: (q118, .inr (0, [.ref q119, .ref q120, .ref q121])) :: (q121, .inl (kA 3, 4, .inl (fun _ => 0))) :: (q123, .inr (3, [.ref q124, .ref q125, .ref q126, .ref q127, .ref q128, .ref q129, .ref q130, .ref q131, .int 0, .int 0, .int 0])) :: (q133, .inr (3, [.ref q134, .ref q135, .ref q136, .ref q137, .ref q138, .ref q139, .ref q140, .ref q141, .int 0, .int 0, .int 0])) :: (q137, .inl (kA 7, 8, .inr (.inr (.inr (.inr (nx_q q137 8)))))) :: ((q137 + 1 + 0), .inl (kA 2, 61, .inr (.inl (fun _ => 0)))) :: ((q137 + 1 + 1), .inl (kA 2, 61, .inr (.inl (fun _ => 0)))) :: (q139, .inl (kA 2, 2, .inr (.inl (fun _ => 0)))) :: (q140, .inl (kA 2, 2, .inr (.inl (fun _ => 0)))) :: (q141, .inl (kA 2, 2, .inr (.inl (fun _ => 0)))) :: (q143, .inr (4, [.ref q144, .ref q145, .ref q146, .ref q147, .int 0])) :: (q149, .inr (7, [.ref q150, .ref q151, .ref q152, .int 0])) :: (q154, .inr (1, [.ref q155, .ref q156, .ref q157, .ref q158])) :: (q155, .inl (kA 1, 10, .inl (fun _ => 0))) :: (q158, .inl (kA 3, 10, .inl (fun _ => 0))) :: []) [(1, .int 2), (0, .ref h0)] 196 5901 205 [.ref q154, .ref h0]
  refine j_putF (ws' := ((h0, .inr (11, [.ref q53, .ref q56, .ref q58, .ref q72, .ref q86, .ref q90, .ref q103, .ref q110, .ref q118, .ref q123, .ref q133, .ref q143, .ref q149, .ref q154, .null, .null, .null, .int 0, .int 0])) :: (q53, .inr (9, [.ref q54, .int 0, .int 0, .int 0, .int 0, .long 0, .int 0])) :: (q54, .inl (kA 0, 1600, .inl (fun _ => 0))) :: (q56, .inr (6, [.int 0, .int (-1), .int 0])) :: (q58, .inr (5, [.ref q59, .ref q60, .ref q61, .ref q62, .ref q63, .ref q64, .ref q65, .ref q66, .ref q67, .ref q68, .ref q69, .ref q70, .int 0, .int 0, .int 0])) :: (q61, .inl (kA 1, 6, .inl (fun _ => 0))) :: (q72, .inr (5, [.ref q73, .ref q74, .ref q75, .ref q76, .ref q77, .ref q78, .ref q79, .ref q80, .ref q81, .ref q82, .ref q83, .ref q84, .int 0, .int 0, .int 0])) :: (q75, .inl (kA 1, 6, .inl (fun _ => 0))) :: (q86, .inr (2, [.ref q87, .ref q88, .int 0, .int 0, .int 0, .int 0])) :: (q87, .inl (kA 1, 60, .inl (fun _ => 0))) :: (q88, .inl (kA 1, 6, .inl (fun _ => 0))) :: (q90, .inl (kA 4, 3, .inr (.inr (.inr (.inr (va_up (va_up (va_up (fun _ => none) 0 (some q91)) 1 (some q95)) 2 (some q99))))))) :: (q91, .inr (2, [.ref q92, .ref q93, .int 0, .int 0, .int 0, .int 0])) :: (q92, .inl (kA 1, 60, .inl (fun _ => 0))) :: (q93, .inl (kA 1, 6, .inl (fun _ => 0))) :: (q95, .inr (2, [.ref q96, .ref q97, .int 0, .int 0, .int 0, .int 0])) :: (q96, .inl (kA 1, 60, .inl (fun _ => 0))) :: (q97, .inl (kA 1, 6, .inl (fun _ => 0))) :: (q99, .inr (2, [.ref q100, .ref q101, .int 0, .int 0, .int 0, .int 0])) :: (q100, .inl (kA 1, 60, .inl (fun _ => 0))) :: (q101, .inl (kA 1, 6, .inl (fun _ => 0))) :: (q103, .inl (kA 5, 2, .inr (.inr (.inr (.inr (va_up (va_up (fun _ => none) 0 (some q104)) 1 (some q107))))))) :: (q104, .inr (10, [.ref q105, .int 0, .int 0, .int 0])) :: (q107, .inr (10, [.ref q108, .int 0, .int 0, .int 0])) :: (q110, .inr (8, [.ref q111, .ref q112, .ref q113, .ref q114, .ref q115, .ref q116, .int 0])) :: (q118, .inr (0, [.ref q119, .ref q120, .ref q121])) :: (q121, .inl (kA 3, 4, .inl (fun _ => 0))) :: (q123, .inr (3, [.ref q124, .ref q125, .ref q126, .ref q127, .ref q128, .ref q129, .ref q130, .ref q131, .int 0, .int 0, .int 0])) :: (q133, .inr (3, [.ref q134, .ref q135, .ref q136, .ref q137, .ref q138, .ref q139, .ref q140, .ref q141, .int 0, .int 0, .int 0])) :: (q137, .inl (kA 7, 8, .inr (.inr (.inr (.inr (nx_q q137 8)))))) :: ((q137 + 1 + 0), .inl (kA 2, 61, .inr (.inl (fun _ => 0)))) :: ((q137 + 1 + 1), .inl (kA 2, 61, .inr (.inl (fun _ => 0)))) :: (q139, .inl (kA 2, 2, .inr (.inl (fun _ => 0)))) :: (q140, .inl (kA 2, 2, .inr (.inl (fun _ => 0)))) :: (q141, .inl (kA 2, 2, .inr (.inl (fun _ => 0)))) :: (q143, .inr (4, [.ref q144, .ref q145, .ref q146, .ref q147, .int 0])) :: (q149, .inr (7, [.ref q150, .ref q151, .ref q152, .int 0])) :: (q154, .inr (1, [.ref q155, .ref q156, .ref q157, .ref q158])) :: (q155, .inl (kA 1, 10, .inl (fun _ => 0))) :: (q158, .inl (kA 3, 10, .inl (fun _ => 0))) :: [])) h iw_X11 tyX11 tyX11_ok nmX11 0 rfl rfl 13 (by decide) tw_488 rfl hnm rfl rfl rfl (Nat.le_of_ble_eq_true rfl) dX11_init_205 rfl ?_
  refine j_aload_n h 1 rfl rfl dX11_init_208 ?_
  refine j_bipush (v := 60) h (by decide) dX11_init_209 ?_
  refine j_newa (atype := .int) (a0 := (60, .inl (fun _ => 0))) h tw_264 rfl 1 rfl (fun _ => rfl) (by decide) (by decide) (by decide) (Nat.le_of_ble_eq_true rfl) (Nat.le_of_ble_eq_true rfl) dX11_init_211 (fun q160 => ?_)
  show J x ((h0, .inr (11, [.ref q53, .ref q56, .ref q58, .ref q72, .ref q86, .ref q90, .ref q103, .ref q110, .ref q118, .ref q123, .ref q133, .ref q143, .ref q149, .ref q154, .null, .null, .null, .int 0, .int 0])) :: (q53, .inr (9, [.ref q54, .int 0, .int 0, .int 0, .int 0, .long 0, .int 0])) :: (q54, .inl (kA 0, 1600, .inl (fun _ => 0))) :: (q56, .inr (6, [.int 0, .int (-1), .int 0])) :: (q58, .inr (5, [.ref q59, .ref q60, .ref q61, .ref q62, .ref q63, .ref q64, .ref q65, .ref q66, .ref q67, .ref q68, .ref q69, .ref q70, .int 0, .int 0, .int 0])) :: (q61, .inl (kA 1, 6, .inl (fun _ => 0))) :: (q72, .inr (5, [.ref q73, .ref q74, .ref q75, .ref q76, .ref q77, .ref q78, .ref q79, .ref q80, .ref q81, .ref q82, .ref q83, .ref q84, .int 0, .int 0, .int 0])) :: (q75, .inl (kA 1, 6, .inl (fun _ => 0))) :: (q86, .inr (2, [.ref q87, .ref q88, .int 0, .int 0, .int 0, .int 0])) :: (q87, .inl (kA 1, 60, .inl (fun _ => 0))) :: (q88, .inl (kA 1, 6, .inl (fun _ => 0))) :: (q90, .inl (kA 4, 3, .inr (.inr (.inr (.inr (va_up (va_up (va_up (fun _ => none) 0 (some q91)) 1 (some q95)) 2 (some q99))))))) :: (q91, .inr (2, [.ref q92, .ref q93, .int 0, .int 0, .int 0, .int 0])) :: (q92, .inl (kA 1, 60, .inl (fun _ => 0))) :: (q93, .inl (kA 1, 6, .inl (fun _ => 0))) :: (q95, .inr (2, [.ref q96, .ref q97, .int 0, .int 0, .int 0, .int 0])) :: (q96, .inl (kA 1, 60, .inl (fun _ => 0))) :: (q97, .inl (kA 1, 6, .inl (fun _ => 0))) :: (q99, .inr (2, [.ref q100, .ref q101, .int 0, .int 0, .int 0, .int 0])) :: (q100, .inl (kA 1, 60, .inl (fun _ => 0))) :: (q101, .inl (kA 1, 6, .inl (fun _ => 0))) :: (q103, .inl (kA 5, 2, .inr (.inr (.inr (.inr (va_up (va_up (fun _ => none) 0 (some q104)) 1 (some q107))))))) :: (q104, .inr (10, [.ref q105, .int 0, .int 0, .int 0])) :: (q107, .inr (10, [.ref q108, .int 0, .int 0, .int 0])) :: (q110, .inr (8, [.ref q111, .ref q112, .ref q113, .ref q114, .ref q115, .ref q116, .int 0])) :: (q118, .inr (0, [.ref q119, .ref q120, .ref q121])) :: (q121, .inl (kA 3, 4, .inl (fun _ => 0))) :: (q123, .inr (3, [.ref q124, .ref q125, .ref q126, .ref q127, .ref q128, .ref q129, .ref q130, .ref q131, .int 0, .int 0, .int 0])) :: (q133, .inr (3, [.ref q134, .ref q135, .ref q136, .ref q137, .ref q138, .ref q139, .ref q140, .ref q141, .int 0, .int 0, .int 0])) :: (q137, .inl (kA 7, 8, .inr (.inr (.inr (.inr (nx_q q137 8)))))) :: ((q137 + 1 + 0), .inl (kA 2, 61, .inr (.inl (fun _ => 0)))) :: ((q137 + 1 + 1), .inl (kA 2, 61, .inr (.inl (fun _ => 0)))) :: (q139, .inl (kA 2, 2, .inr (.inl (fun _ => 0)))) :: (q140, .inl (kA 2, 2, .inr (.inl (fun _ => 0)))) :: (q141, .inl (kA 2, 2, .inr (.inl (fun _ => 0)))) :: (q143, .inr (4, [.ref q144, .ref q145, .ref q146, .ref q147, .int 0])) :: (q149, .inr (7, [.ref q150, .ref q151, .ref q152, .int 0])) :: (q154, .inr (1, [.ref q155, .ref q156, .ref q157, .ref q158])) :: (q155, .inl (kA 1, 10, .inl (fun _ => 0))) :: (q158, .inl (kA 3, 10, .inl (fun _ => 0))) :: (q160, .inl (kA 1, 60, .inl (fun _ => 0))) :: []) [(1, .int 2), (0, .ref h0)] 197 5961 213 [.ref q160, .ref h0]
  refine j_putF (ws' := ((h0, .inr (11, [.ref q53, .ref q56, .ref q58, .ref q72, .ref q86, .ref q90, .ref q103, .ref q110, .ref q118, .ref q123, .ref q133, .ref q143, .ref q149, .ref q154, .ref q160, .null, .null, .int 0, .int 0])) :: (q53, .inr (9, [.ref q54, .int 0, .int 0, .int 0, .int 0, .long 0, .int 0])) :: (q54, .inl (kA 0, 1600, .inl (fun _ => 0))) :: (q56, .inr (6, [.int 0, .int (-1), .int 0])) :: (q58, .inr (5, [.ref q59, .ref q60, .ref q61, .ref q62, .ref q63, .ref q64, .ref q65, .ref q66, .ref q67, .ref q68, .ref q69, .ref q70, .int 0, .int 0, .int 0])) :: (q61, .inl (kA 1, 6, .inl (fun _ => 0))) :: (q72, .inr (5, [.ref q73, .ref q74, .ref q75, .ref q76, .ref q77, .ref q78, .ref q79, .ref q80, .ref q81, .ref q82, .ref q83, .ref q84, .int 0, .int 0, .int 0])) :: (q75, .inl (kA 1, 6, .inl (fun _ => 0))) :: (q86, .inr (2, [.ref q87, .ref q88, .int 0, .int 0, .int 0, .int 0])) :: (q87, .inl (kA 1, 60, .inl (fun _ => 0))) :: (q88, .inl (kA 1, 6, .inl (fun _ => 0))) :: (q90, .inl (kA 4, 3, .inr (.inr (.inr (.inr (va_up (va_up (va_up (fun _ => none) 0 (some q91)) 1 (some q95)) 2 (some q99))))))) :: (q91, .inr (2, [.ref q92, .ref q93, .int 0, .int 0, .int 0, .int 0])) :: (q92, .inl (kA 1, 60, .inl (fun _ => 0))) :: (q93, .inl (kA 1, 6, .inl (fun _ => 0))) :: (q95, .inr (2, [.ref q96, .ref q97, .int 0, .int 0, .int 0, .int 0])) :: (q96, .inl (kA 1, 60, .inl (fun _ => 0))) :: (q97, .inl (kA 1, 6, .inl (fun _ => 0))) :: (q99, .inr (2, [.ref q100, .ref q101, .int 0, .int 0, .int 0, .int 0])) :: (q100, .inl (kA 1, 60, .inl (fun _ => 0))) :: (q101, .inl (kA 1, 6, .inl (fun _ => 0))) :: (q103, .inl (kA 5, 2, .inr (.inr (.inr (.inr (va_up (va_up (fun _ => none) 0 (some q104)) 1 (some q107))))))) :: (q104, .inr (10, [.ref q105, .int 0, .int 0, .int 0])) :: (q107, .inr (10, [.ref q108, .int 0, .int 0, .int 0])) :: (q110, .inr (8, [.ref q111, .ref q112, .ref q113, .ref q114, .ref q115, .ref q116, .int 0])) :: (q118, .inr (0, [.ref q119, .ref q120, .ref q121])) :: (q121, .inl (kA 3, 4, .inl (fun _ => 0))) :: (q123, .inr (3, [.ref q124, .ref q125, .ref q126, .ref q127, .ref q128, .ref q129, .ref q130, .ref q131, .int 0, .int 0, .int 0])) :: (q133, .inr (3, [.ref q134, .ref q135, .ref q136, .ref q137, .ref q138, .ref q139, .ref q140, .ref q141, .int 0, .int 0, .int 0])) :: (q137, .inl (kA 7, 8, .inr (.inr (.inr (.inr (nx_q q137 8)))))) :: ((q137 + 1 + 0), .inl (kA 2, 61, .inr (.inl (fun _ => 0)))) :: ((q137 + 1 + 1), .inl (kA 2, 61, .inr (.inl (fun _ => 0)))) :: (q139, .inl (kA 2, 2, .inr (.inl (fun _ => 0)))) :: (q140, .inl (kA 2, 2, .inr (.inl (fun _ => 0)))) :: (q141, .inl (kA 2, 2, .inr (.inl (fun _ => 0)))) :: (q143, .inr (4, [.ref q144, .ref q145, .ref q146, .ref q147, .int 0])) :: (q149, .inr (7, [.ref q150, .ref q151, .ref q152, .int 0])) :: (q154, .inr (1, [.ref q155, .ref q156, .ref q157, .ref q158])) :: (q155, .inl (kA 1, 10, .inl (fun _ => 0))) :: (q158, .inl (kA 3, 10, .inl (fun _ => 0))) :: (q160, .inl (kA 1, 60, .inl (fun _ => 0))) :: [])) h iw_X11 tyX11 tyX11_ok nmX11 0 rfl rfl 14 (by decide) tw_489 rfl hnm rfl rfl rfl (Nat.le_of_ble_eq_true rfl) dX11_init_213 rfl ?_
  refine j_aload_n h 1 rfl rfl dX11_init_216 ?_
  refine j_bipush (v := 60) h (by decide) dX11_init_217 ?_
  refine j_newa (atype := .int) (a0 := (60, .inl (fun _ => 0))) h tw_264 rfl 1 rfl (fun _ => rfl) (by decide) (by decide) (by decide) (Nat.le_of_ble_eq_true rfl) (Nat.le_of_ble_eq_true rfl) dX11_init_219 (fun q161 => ?_)
  show J x ((h0, .inr (11, [.ref q53, .ref q56, .ref q58, .ref q72, .ref q86, .ref q90, .ref q103, .ref q110, .ref q118, .ref q123, .ref q133, .ref q143, .ref q149, .ref q154, .ref q160, .null, .null, .int 0, .int 0])) :: (q53, .inr (9, [.ref q54, .int 0, .int 0, .int 0, .int 0, .long 0, .int 0])) :: (q54, .inl (kA 0, 1600, .inl (fun _ => 0))) :: (q56, .inr (6, [.int 0, .int (-1), .int 0])) :: (q58, .inr (5, [.ref q59, .ref q60, .ref q61, .ref q62, .ref q63, .ref q64, .ref q65, .ref q66, .ref q67, .ref q68, .ref q69, .ref q70, .int 0, .int 0, .int 0])) :: (q61, .inl (kA 1, 6, .inl (fun _ => 0))) :: (q72, .inr (5, [.ref q73, .ref q74, .ref q75, .ref q76, .ref q77, .ref q78, .ref q79, .ref q80, .ref q81, .ref q82, .ref q83, .ref q84, .int 0, .int 0, .int 0])) :: (q75, .inl (kA 1, 6, .inl (fun _ => 0))) :: (q86, .inr (2, [.ref q87, .ref q88, .int 0, .int 0, .int 0, .int 0])) :: (q87, .inl (kA 1, 60, .inl (fun _ => 0))) :: (q88, .inl (kA 1, 6, .inl (fun _ => 0))) :: (q90, .inl (kA 4, 3, .inr (.inr (.inr (.inr (va_up (va_up (va_up (fun _ => none) 0 (some q91)) 1 (some q95)) 2 (some q99))))))) :: (q91, .inr (2, [.ref q92, .ref q93, .int 0, .int 0, .int 0, .int 0])) :: (q92, .inl (kA 1, 60, .inl (fun _ => 0))) :: (q93, .inl (kA 1, 6, .inl (fun _ => 0))) :: (q95, .inr (2, [.ref q96, .ref q97, .int 0, .int 0, .int 0, .int 0])) :: (q96, .inl (kA 1, 60, .inl (fun _ => 0))) :: (q97, .inl (kA 1, 6, .inl (fun _ => 0))) :: (q99, .inr (2, [.ref q100, .ref q101, .int 0, .int 0, .int 0, .int 0])) :: (q100, .inl (kA 1, 60, .inl (fun _ => 0))) :: (q101, .inl (kA 1, 6, .inl (fun _ => 0))) :: (q103, .inl (kA 5, 2, .inr (.inr (.inr (.inr (va_up (va_up (fun _ => none) 0 (some q104)) 1 (some q107))))))) :: (q104, .inr (10, [.ref q105, .int 0, .int 0, .int 0])) :: (q107, .inr (10, [.ref q108, .int 0, .int 0, .int 0])) :: (q110, .inr (8, [.ref q111, .ref q112, .ref q113, .ref q114, .ref q115, .ref q116, .int 0])) :: (q118, .inr (0, [.ref q119, .ref q120, .ref q121])) :: (q121, .inl (kA 3, 4, .inl (fun _ => 0))) :: (q123, .inr (3, [.ref q124, .ref q125, .ref q126, .ref q127, .ref q128, .ref q129, .ref q130, .ref q131, .int 0, .int 0, .int 0])) :: (q133, .inr (3, [.ref q134, .ref q135, .ref q136, .ref q137, .ref q138, .ref q139, .ref q140, .ref q141, .int 0, .int 0, .int 0])) :: (q137, .inl (kA 7, 8, .inr (.inr (.inr (.inr (nx_q q137 8)))))) :: ((q137 + 1 + 0), .inl (kA 2, 61, .inr (.inl (fun _ => 0)))) :: ((q137 + 1 + 1), .inl (kA 2, 61, .inr (.inl (fun _ => 0)))) :: (q139, .inl (kA 2, 2, .inr (.inl (fun _ => 0)))) :: (q140, .inl (kA 2, 2, .inr (.inl (fun _ => 0)))) :: (q141, .inl (kA 2, 2, .inr (.inl (fun _ => 0)))) :: (q143, .inr (4, [.ref q144, .ref q145, .ref q146, .ref q147, .int 0])) :: (q149, .inr (7, [.ref q150, .ref q151, .ref q152, .int 0])) :: (q154, .inr (1, [.ref q155, .ref q156, .ref q157, .ref q158])) :: (q155, .inl (kA 1, 10, .inl (fun _ => 0))) :: (q158, .inl (kA 3, 10, .inl (fun _ => 0))) :: (q160, .inl (kA 1, 60, .inl (fun _ => 0))) :: (q161, .inl (kA 1, 60, .inl (fun _ => 0))) :: []) [(1, .int 2), (0, .ref h0)] 198 6021 221 [.ref q161, .ref h0]
  refine j_putF (ws' := ((h0, .inr (11, [.ref q53, .ref q56, .ref q58, .ref q72, .ref q86, .ref q90, .ref q103, .ref q110, .ref q118, .ref q123, .ref q133, .ref q143, .ref q149, .ref q154, .ref q160, .ref q161, .null, .int 0, .int 0])) :: (q53, .inr (9, [.ref q54, .int 0, .int 0, .int 0, .int 0, .long 0, .int 0])) :: (q54, .inl (kA 0, 1600, .inl (fun _ => 0))) :: (q56, .inr (6, [.int 0, .int (-1), .int 0])) :: (q58, .inr (5, [.ref q59, .ref q60, .ref q61, .ref q62, .ref q63, .ref q64, .ref q65, .ref q66, .ref q67, .ref q68, .ref q69, .ref q70, .int 0, .int 0, .int 0])) :: (q61, .inl (kA 1, 6, .inl (fun _ => 0))) :: (q72, .inr (5, [.ref q73, .ref q74, .ref q75, .ref q76, .ref q77, .ref q78, .ref q79, .ref q80, .ref q81, .ref q82, .ref q83, .ref q84, .int 0, .int 0, .int 0])) :: (q75, .inl (kA 1, 6, .inl (fun _ => 0))) :: (q86, .inr (2, [.ref q87, .ref q88, .int 0, .int 0, .int 0, .int 0])) :: (q87, .inl (kA 1, 60, .inl (fun _ => 0))) :: (q88, .inl (kA 1, 6, .inl (fun _ => 0))) :: (q90, .inl (kA 4, 3, .inr (.inr (.inr (.inr (va_up (va_up (va_up (fun _ => none) 0 (some q91)) 1 (some q95)) 2 (some q99))))))) :: (q91, .inr (2, [.ref q92, .ref q93, .int 0, .int 0, .int 0, .int 0])) :: (q92, .inl (kA 1, 60, .inl (fun _ => 0))) :: (q93, .inl (kA 1, 6, .inl (fun _ => 0))) :: (q95, .inr (2, [.ref q96, .ref q97, .int 0, .int 0, .int 0, .int 0])) :: (q96, .inl (kA 1, 60, .inl (fun _ => 0))) :: (q97, .inl (kA 1, 6, .inl (fun _ => 0))) :: (q99, .inr (2, [.ref q100, .ref q101, .int 0, .int 0, .int 0, .int 0])) :: (q100, .inl (kA 1, 60, .inl (fun _ => 0))) :: (q101, .inl (kA 1, 6, .inl (fun _ => 0))) :: (q103, .inl (kA 5, 2, .inr (.inr (.inr (.inr (va_up (va_up (fun _ => none) 0 (some q104)) 1 (some q107))))))) :: (q104, .inr (10, [.ref q105, .int 0, .int 0, .int 0])) :: (q107, .inr (10, [.ref q108, .int 0, .int 0, .int 0])) :: (q110, .inr (8, [.ref q111, .ref q112, .ref q113, .ref q114, .ref q115, .ref q116, .int 0])) :: (q118, .inr (0, [.ref q119, .ref q120, .ref q121])) :: (q121, .inl (kA 3, 4, .inl (fun _ => 0))) :: (q123, .inr (3, [.ref q124, .ref q125, .ref q126, .ref q127, .ref q128, .ref q129, .ref q130, .ref q131, .int 0, .int 0, .int 0])) :: (q133, .inr (3, [.ref q134, .ref q135, .ref q136, .ref q137, .ref q138, .ref q139, .ref q140, .ref q141, .int 0, .int 0, .int 0])) :: (q137, .inl (kA 7, 8, .inr (.inr (.inr (.inr (nx_q q137 8)))))) :: ((q137 + 1 + 0), .inl (kA 2, 61, .inr (.inl (fun _ => 0)))) :: ((q137 + 1 + 1), .inl (kA 2, 61, .inr (.inl (fun _ => 0)))) :: (q139, .inl (kA 2, 2, .inr (.inl (fun _ => 0)))) :: (q140, .inl (kA 2, 2, .inr (.inl (fun _ => 0)))) :: (q141, .inl (kA 2, 2, .inr (.inl (fun _ => 0)))) :: (q143, .inr (4, [.ref q144, .ref q145, .ref q146, .ref q147, .int 0])) :: (q149, .inr (7, [.ref q150, .ref q151, .ref q152, .int 0])) :: (q154, .inr (1, [.ref q155, .ref q156, .ref q157, .ref q158])) :: (q155, .inl (kA 1, 10, .inl (fun _ => 0))) :: (q158, .inl (kA 3, 10, .inl (fun _ => 0))) :: (q160, .inl (kA 1, 60, .inl (fun _ => 0))) :: (q161, .inl (kA 1, 60, .inl (fun _ => 0))) :: [])) h iw_X11 tyX11 tyX11_ok nmX11 0 rfl rfl 15 (by decide) tw_490 rfl hnm rfl rfl rfl (Nat.le_of_ble_eq_true rfl) dX11_init_221 rfl ?_
  refine j_aload_n h 1 rfl rfl dX11_init_224 ?_
  refine j_bipush (v := 60) h (by decide) dX11_init_225 ?_
  refine j_newa (atype := .int) (a0 := (60, .inl (fun _ => 0))) h tw_264 rfl 1 rfl (fun _ => rfl) (by decide) (by decide) (by decide) (Nat.le_of_ble_eq_true rfl) (Nat.le_of_ble_eq_true rfl) dX11_init_227 (fun q162 => ?_)
  show J x ((h0, .inr (11, [.ref q53, .ref q56, .ref q58, .ref q72, .ref q86, .ref q90, .ref q103, .ref q110, .ref q118, .ref q123, .ref q133, .ref q143, .ref q149, .ref q154, .ref q160, .ref q161, .null, .int 0, .int 0])) :: (q53, .inr (9, [.ref q54, .int 0, .int 0, .int 0, .int 0, .long 0, .int 0])) :: (q54, .inl (kA 0, 1600, .inl (fun _ => 0))) :: (q56, .inr (6, [.int 0, .int (-1), .int 0])) :: (q58, .inr (5, [.ref q59, .ref q60, .ref q61, .ref q62, .ref q63, .ref q64, .ref q65, .ref q66, .ref q67, .ref q68, .ref q69, .ref q70, .int 0, .int 0, .int 0])) :: (q61, .inl (kA 1, 6, .inl (fun _ => 0))) :: (q72, .inr (5, [.ref q73, .ref q74, .ref q75, .ref q76, .ref q77, .ref q78, .ref q79, .ref q80, .ref q81, .ref q82, .ref q83, .ref q84, .int 0, .int 0, .int 0])) :: (q75, .inl (kA 1, 6, .inl (fun _ => 0))) :: (q86, .inr (2, [.ref q87, .ref q88, .int 0, .int 0, .int 0, .int 0])) :: (q87, .inl (kA 1, 60, .inl (fun _ => 0))) :: (q88, .inl (kA 1, 6, .inl (fun _ => 0))) :: (q90, .inl (kA 4, 3, .inr (.inr (.inr (.inr (va_up (va_up (va_up (fun _ => none) 0 (some q91)) 1 (some q95)) 2 (some q99))))))) :: (q91, .inr (2, [.ref q92, .ref q93, .int 0, .int 0, .int 0, .int 0])) :: (q92, .inl (kA 1, 60, .inl (fun _ => 0))) :: (q93, .inl (kA 1, 6, .inl (fun _ => 0))) :: (q95, .inr (2, [.ref q96, .ref q97, .int 0, .int 0, .int 0, .int 0])) :: (q96, .inl (kA 1, 60, .inl (fun _ => 0))) :: (q97, .inl (kA 1, 6, .inl (fun _ => 0))) :: (q99, .inr (2, [.ref q100, .ref q101, .int 0, .int 0, .int 0, .int 0])) :: (q100, .inl (kA 1, 60, .inl (fun _ => 0))) :: (q101, .inl (kA 1, 6, .inl (fun _ => 0))) :: (q103, .inl (kA 5, 2, .inr (.inr (.inr (.inr (va_up (va_up (fun _ => none) 0 (some q104)) 1 (some q107))))))) :: (q104, .inr (10, [.ref q105, .int 0, .int 0, .int 0])) :: (q107, .inr (10, [.ref q108, .int 0, .int 0, .int 0])) :: (q110, .inr (8, [.ref q111, .ref q112, .ref q113, .ref q114, .ref q115, .ref q116, .int 0])) :: (q118, .inr (0, [.ref q119, .ref q120, .ref q121])) :: (q121, .inl (kA 3, 4, .inl (fun _ => 0))) :: (q123, .inr (3, [.ref q124, .ref q125, .ref q126, .ref q127, .ref q128, .ref q129, .ref q130, .ref q131, .int 0, .int 0, .int 0])) :: (q133, .inr (3, [.ref q134, .ref q135, .ref q136, .ref q137, .ref q138, .ref q139, .ref q140, .ref q141, .int 0, .int 0, .int 0])) :: (q137, .inl (kA 7, 8, .inr (.inr (.inr (.inr (nx_q q137 8)))))) :: ((q137 + 1 + 0), .inl (kA 2, 61, .inr (.inl (fun _ => 0)))) :: ((q137 + 1 + 1), .inl (kA 2, 61, .inr (.inl (fun _ => 0)))) :: (q139, .inl (kA 2, 2, .inr (.inl (fun _ => 0)))) :: (q140, .inl (kA 2, 2, .inr (.inl (fun _ => 0)))) :: (q141, .inl (kA 2, 2, .inr (.inl (fun _ => 0)))) :: (q143, .inr (4, [.ref q144, .ref q145, .ref q146, .ref q147, .int 0])) :: (q149, .inr (7, [.ref q150, .ref q151, .ref q152, .int 0])) :: (q154, .inr (1, [.ref q155, .ref q156, .ref q157, .ref q158])) :: (q155, .inl (kA 1, 10, .inl (fun _ => 0))) :: (q158, .inl (kA 3, 10, .inl (fun _ => 0))) :: (q160, .inl (kA 1, 60, .inl (fun _ => 0))) :: (q161, .inl (kA 1, 60, .inl (fun _ => 0))) :: (q162, .inl (kA 1, 60, .inl (fun _ => 0))) :: []) [(1, .int 2), (0, .ref h0)] 199 6081 229 [.ref q162, .ref h0]
  refine j_putF (ws' := ((h0, .inr (11, [.ref q53, .ref q56, .ref q58, .ref q72, .ref q86, .ref q90, .ref q103, .ref q110, .ref q118, .ref q123, .ref q133, .ref q143, .ref q149, .ref q154, .ref q160, .ref q161, .ref q162, .int 0, .int 0])) :: (q53, .inr (9, [.ref q54, .int 0, .int 0, .int 0, .int 0, .long 0, .int 0])) :: (q54, .inl (kA 0, 1600, .inl (fun _ => 0))) :: (q56, .inr (6, [.int 0, .int (-1), .int 0])) :: (q58, .inr (5, [.ref q59, .ref q60, .ref q61, .ref q62, .ref q63, .ref q64, .ref q65, .ref q66, .ref q67, .ref q68, .ref q69, .ref q70, .int 0, .int 0, .int 0])) :: (q61, .inl (kA 1, 6, .inl (fun _ => 0))) :: (q72, .inr (5, [.ref q73, .ref q74, .ref q75, .ref q76, .ref q77, .ref q78, .ref q79, .ref q80, .ref q81, .ref q82, .ref q83, .ref q84, .int 0, .int 0, .int 0])) :: (q75, .inl (kA 1, 6, .inl (fun _ => 0))) :: (q86, .inr (2, [.ref q87, .ref q88, .int 0, .int 0, .int 0, .int 0])) :: (q87, .inl (kA 1, 60, .inl (fun _ => 0))) :: (q88, .inl (kA 1, 6, .inl (fun _ => 0))) :: (q90, .inl (kA 4, 3, .inr (.inr (.inr (.inr (va_up (va_up (va_up (fun _ => none) 0 (some q91)) 1 (some q95)) 2 (some q99))))))) :: (q91, .inr (2, [.ref q92, .ref q93, .int 0, .int 0, .int 0, .int 0])) :: (q92, .inl (kA 1, 60, .inl (fun _ => 0))) :: (q93, .inl (kA 1, 6, .inl (fun _ => 0))) :: (q95, .inr (2, [.ref q96, .ref q97, .int 0, .int 0, .int 0, .int 0])) :: (q96, .inl (kA 1, 60, .inl (fun _ => 0))) :: (q97, .inl (kA 1, 6, .inl (fun _ => 0))) :: (q99, .inr (2, [.ref q100, .ref q101, .int 0, .int 0, .int 0, .int 0])) :: (q100, .inl (kA 1, 60, .inl (fun _ => 0))) :: (q101, .inl (kA 1, 6, .inl (fun _ => 0))) :: (q103, .inl (kA 5, 2, .inr (.inr (.inr (.inr (va_up (va_up (fun _ => none) 0 (some q104)) 1 (some q107))))))) :: (q104, .inr (10, [.ref q105, .int 0, .int 0, .int 0])) :: (q107, .inr (10, [.ref q108, .int 0, .int 0, .int 0])) :: (q110, .inr (8, [.ref q111, .ref q112, .ref q113, .ref q114, .ref q115, .ref q116, .int 0])) :: (q118, .inr (0, [.ref q119, .ref q120, .ref q121])) :: (q121, .inl (kA 3, 4, .inl (fun _ => 0))) :: (q123, .inr (3, [.ref q124, .ref q125, .ref q126, .ref q127, .ref q128, .ref q129, .ref q130, .ref q131, .int 0, .int 0, .int 0])) :: (q133, .inr (3, [.ref q134, .ref q135, .ref q136, .ref q137, .ref q138, .ref q139, .ref q140, .ref q141, .int 0, .int 0, .int 0])) :: (q137, .inl (kA 7, 8, .inr (.inr (.inr (.inr (nx_q q137 8)))))) :: ((q137 + 1 + 0), .inl (kA 2, 61, .inr (.inl (fun _ => 0)))) :: ((q137 + 1 + 1), .inl (kA 2, 61, .inr (.inl (fun _ => 0)))) :: (q139, .inl (kA 2, 2, .inr (.inl (fun _ => 0)))) :: (q140, .inl (kA 2, 2, .inr (.inl (fun _ => 0)))) :: (q141, .inl (kA 2, 2, .inr (.inl (fun _ => 0)))) :: (q143, .inr (4, [.ref q144, .ref q145, .ref q146, .ref q147, .int 0])) :: (q149, .inr (7, [.ref q150, .ref q151, .ref q152, .int 0])) :: (q154, .inr (1, [.ref q155, .ref q156, .ref q157, .ref q158])) :: (q155, .inl (kA 1, 10, .inl (fun _ => 0))) :: (q158, .inl (kA 3, 10, .inl (fun _ => 0))) :: (q160, .inl (kA 1, 60, .inl (fun _ => 0))) :: (q161, .inl (kA 1, 60, .inl (fun _ => 0))) :: (q162, .inl (kA 1, 60, .inl (fun _ => 0))) :: [])) h iw_X11 tyX11 tyX11_ok nmX11 0 rfl rfl 16 (by decide) tw_491 rfl hnm rfl rfl rfl (Nat.le_of_ble_eq_true rfl) dX11_init_229 rfl ?_
  exact j_vret h hq dX11_init_232 (fun k => match k with | 0 => q53 | 1 => q56 | 2 => q58 | 3 => q72 | 4 => q86 | 5 => q90 | 6 => q103 | 7 => q110 | 8 => q118 | 9 => q123 | 10 => q133 | 11 => q143 | 12 => q149 | 13 => q154 | 14 => q160 | 15 => q161 | 16 => q162 | 17 => q54 | 18 => q59 | 19 => q60 | 20 => q61 | 21 => q62 | 22 => q63 | 23 => q64 | 24 => q65 | 25 => q66 | 26 => q67 | 27 => q68 | 28 => q69 | 29 => q70 | 30 => q73 | 31 => q74 | 32 => q75 | 33 => q76 | 34 => q77 | 35 => q78 | 36 => q79 | 37 => q80 | 38 => q81 | 39 => q82 | 40 => q83 | 41 => q84 | 42 => q87 | 43 => q88 | 44 => q91 | 45 => q95 | 46 => q99 | 47 => q92 | 48 => q93 | 49 => q96 | 50 => q97 | 51 => q100 | 52 => q101 | 53 => q104 | 54 => q107 | 55 => q105 | 56 => q108 | 57 => q111 | 58 => q112 | 59 => q113 | 60 => q114 | 61 => q115 | 62 => q116 | 63 => q119 | 64 => q120 | 65 => q121 | 66 => q124 | 67 => q125 | 68 => q126 | 69 => q127 | 70 => q128 | 71 => q129 | 72 => q130 | 73 => q131 | 74 => q134 | 75 => q135 | 76 => q136 | 77 => q137 | 78 => q138 | 79 => q139 | 80 => q140 | 81 => q141 | 82 => q155 | 83 => q156 | 84 => q157 | _ => q158) [0, 1, 2, 3, 4, 6, 7, 8, 9, 10, 11, 12, 13, 14, 15, 16, 17, 18, 19, 20, 21, 22, 23, 24, 25, 26, 27, 28, 29, 30, 31, 32, 33, 34, 37, 38, 39] rfl rfl (by decide) trivial (Nat.le_of_ble_eq_true rfl) (Nat.le_of_ble_eq_true rfl)
end
