section
-- ===== PART A: goes FIRST, ahead of the names: the tables' words, and 'selects' of the private methods out of them =====
/-- a private method of a class that the tables say can be made, by its rows of tables_1 -/
def lw_okq (q : MethodName × Nat) : Prop := (q.1.cls ≠ "java/lang/invoke/MethodHandle" ∧ q.1.cls ≠ "java/lang/invoke/VarHandle") ∧ Cond.instantiable q.1.cls q.2 ∈ tables_1 ∧ Cond.privateMethod q.1 ∈ tables_1 ∧ Cond.instanceMethod q.1 ∈ tables_1
theorem lw_p0 : lw_okq (⟨"ScoreSheaf", "marksTold", "()I"⟩, 9) := ⟨⟨by decide +kernel, by decide +kernel⟩, List.mem_of_getElem? (i := 24) (by decide +kernel), List.mem_of_getElem? (i := 77) (by decide +kernel), List.mem_of_getElem? (i := 78) (by decide +kernel)⟩
theorem lw_p1 : lw_okq (⟨"ScoreSheaf", "marksCounted", "()I"⟩, 9) := ⟨⟨by decide +kernel, by decide +kernel⟩, List.mem_of_getElem? (i := 24) (by decide +kernel), List.mem_of_getElem? (i := 84) (by decide +kernel), List.mem_of_getElem? (i := 85) (by decide +kernel)⟩
theorem lw_p2 : lw_okq (⟨"ScoreSheaf", "prizesAreShared", "()Z"⟩, 9) := ⟨⟨by decide +kernel, by decide +kernel⟩, List.mem_of_getElem? (i := 24) (by decide +kernel), List.mem_of_getElem? (i := 96) (by decide +kernel), List.mem_of_getElem? (i := 97) (by decide +kernel)⟩
theorem lw_p3 : lw_okq (⟨"ScoreSheaf", "prizeAt", "(I)LScoreSheaf$Prize;"⟩, 9) := ⟨⟨by decide +kernel, by decide +kernel⟩, List.mem_of_getElem? (i := 24) (by decide +kernel), List.mem_of_getElem? (i := 100) (by decide +kernel), List.mem_of_getElem? (i := 101) (by decide +kernel)⟩
theorem lw_p4 : lw_okq (⟨"ScoreSheaf", "writtenAreNear", "()Z"⟩, 9) := ⟨⟨by decide +kernel, by decide +kernel⟩, List.mem_of_getElem? (i := 24) (by decide +kernel), List.mem_of_getElem? (i := 107) (by decide +kernel), List.mem_of_getElem? (i := 108) (by decide +kernel)⟩
theorem lw_p5 : lw_okq (⟨"ScoreSheaf", "versionAt", "(I)LScoreSheaf$Version;"⟩, 9) := ⟨⟨by decide +kernel, by decide +kernel⟩, List.mem_of_getElem? (i := 24) (by decide +kernel), List.mem_of_getElem? (i := 111) (by decide +kernel), List.mem_of_getElem? (i := 112) (by decide +kernel)⟩
theorem lw_p6 : lw_okq (⟨"ScoreSheaf", "ranksAreOwn", "()Z"⟩, 9) := ⟨⟨by decide +kernel, by decide +kernel⟩, List.mem_of_getElem? (i := 24) (by decide +kernel), List.mem_of_getElem? (i := 134) (by decide +kernel), List.mem_of_getElem? (i := 135) (by decide +kernel)⟩
theorem lw_p7 : lw_okq (⟨"ScoreSheaf", "rankOf", "(I)I"⟩, 9) := ⟨⟨by decide +kernel, by decide +kernel⟩, List.mem_of_getElem? (i := 24) (by decide +kernel), List.mem_of_getElem? (i := 138) (by decide +kernel), List.mem_of_getElem? (i := 139) (by decide +kernel)⟩
theorem lw_p8 : lw_okq (⟨"ScoreSheaf", "isAhead", "(II)Z"⟩, 9) := ⟨⟨by decide +kernel, by decide +kernel⟩, List.mem_of_getElem? (i := 24) (by decide +kernel), List.mem_of_getElem? (i := 142) (by decide +kernel), List.mem_of_getElem? (i := 143) (by decide +kernel)⟩
theorem lw_p9 : lw_okq (⟨"ScoreSheaf", "openScore", "(I)I"⟩, 9) := ⟨⟨by decide +kernel, by decide +kernel⟩, List.mem_of_getElem? (i := 24) (by decide +kernel), List.mem_of_getElem? (i := 146) (by decide +kernel), List.mem_of_getElem? (i := 147) (by decide +kernel)⟩
theorem lw_p10 : lw_okq (⟨"ScoreSheaf", "scoreIn", "(II)I"⟩, 9) := ⟨⟨by decide +kernel, by decide +kernel⟩, List.mem_of_getElem? (i := 24) (by decide +kernel), List.mem_of_getElem? (i := 150) (by decide +kernel), List.mem_of_getElem? (i := 151) (by decide +kernel)⟩
theorem lw_p11 : lw_okq (⟨"ScoreSheaf", "hearingAt", "(II)LScoreSheaf$Hearing;"⟩, 9) := ⟨⟨by decide +kernel, by decide +kernel⟩, List.mem_of_getElem? (i := 24) (by decide +kernel), List.mem_of_getElem? (i := 154) (by decide +kernel), List.mem_of_getElem? (i := 155) (by decide +kernel)⟩
theorem lw_p12 : lw_okq (⟨"ScoreSheaf", "fallingMarksIn", "(II)J"⟩, 9) := ⟨⟨by decide +kernel, by decide +kernel⟩, List.mem_of_getElem? (i := 24) (by decide +kernel), List.mem_of_getElem? (i := 162) (by decide +kernel), List.mem_of_getElem? (i := 163) (by decide +kernel)⟩
theorem lw_p13 : lw_okq (⟨"java/lang/Throwable", "fillInStackTrace", "(I)Ljava/lang/Throwable;"⟩, 6) := ⟨⟨by decide +kernel, by decide +kernel⟩, List.mem_of_getElem? (i := 221) (by decide +kernel), List.mem_of_getElem? (i := 219) (by decide +kernel), List.mem_of_getElem? (i := 220) (by decide +kernel)⟩
theorem lw_p14 : lw_okq (⟨"ScoreSheaf", "keep", "(LScoreSheaf$Version;)V"⟩, 9) := ⟨⟨by decide +kernel, by decide +kernel⟩, List.mem_of_getElem? (i := 24) (by decide +kernel), List.mem_of_getElem? (i := 381) (by decide +kernel), List.mem_of_getElem? (i := 382) (by decide +kernel)⟩
theorem lw_p15 : lw_okq (⟨"ScoreSheaf", "pieceAt", "(I)LScoreSheaf$Piece;"⟩, 9) := ⟨⟨by decide +kernel, by decide +kernel⟩, List.mem_of_getElem? (i := 24) (by decide +kernel), List.mem_of_getElem? (i := 416) (by decide +kernel), List.mem_of_getElem? (i := 417) (by decide +kernel)⟩
def lw_privs_1 : List (MethodName × Nat) := [(⟨"ScoreSheaf", "marksTold", "()I"⟩, 9), (⟨"ScoreSheaf", "marksCounted", "()I"⟩, 9), (⟨"ScoreSheaf", "prizesAreShared", "()Z"⟩, 9), (⟨"ScoreSheaf", "prizeAt", "(I)LScoreSheaf$Prize;"⟩, 9), (⟨"ScoreSheaf", "writtenAreNear", "()Z"⟩, 9), (⟨"ScoreSheaf", "versionAt", "(I)LScoreSheaf$Version;"⟩, 9), (⟨"ScoreSheaf", "ranksAreOwn", "()Z"⟩, 9), (⟨"ScoreSheaf", "rankOf", "(I)I"⟩, 9), (⟨"ScoreSheaf", "isAhead", "(II)Z"⟩, 9), (⟨"ScoreSheaf", "openScore", "(I)I"⟩, 9), (⟨"ScoreSheaf", "scoreIn", "(II)I"⟩, 9), (⟨"ScoreSheaf", "hearingAt", "(II)LScoreSheaf$Hearing;"⟩, 9), (⟨"ScoreSheaf", "fallingMarksIn", "(II)J"⟩, 9), (⟨"java/lang/Throwable", "fillInStackTrace", "(I)Ljava/lang/Throwable;"⟩, 6), (⟨"ScoreSheaf", "keep", "(LScoreSheaf$Version;)V"⟩, 9), (⟨"ScoreSheaf", "pieceAt", "(I)LScoreSheaf$Piece;"⟩, 9)]
theorem lw_r1 : ∀ q ∈ lw_privs_1, lw_okq q := List.forall_mem_cons.mpr ⟨lw_p0, List.forall_mem_cons.mpr ⟨lw_p1, List.forall_mem_cons.mpr ⟨lw_p2, List.forall_mem_cons.mpr ⟨lw_p3, List.forall_mem_cons.mpr ⟨lw_p4, List.forall_mem_cons.mpr ⟨lw_p5, List.forall_mem_cons.mpr ⟨lw_p6, List.forall_mem_cons.mpr ⟨lw_p7, List.forall_mem_cons.mpr ⟨lw_p8, List.forall_mem_cons.mpr ⟨lw_p9, List.forall_mem_cons.mpr ⟨lw_p10, List.forall_mem_cons.mpr ⟨lw_p11, List.forall_mem_cons.mpr ⟨lw_p12, List.forall_mem_cons.mpr ⟨lw_p13, List.forall_mem_cons.mpr ⟨lw_p14, List.forall_mem_cons.mpr ⟨lw_p15, fun _ h => absurd h List.not_mem_nil⟩⟩⟩⟩⟩⟩⟩⟩⟩⟩⟩⟩⟩⟩⟩⟩
theorem lw_p16 : lw_okq (⟨"ScoreSheaf", "baseOf", "(LScoreSheaf$Version;LScoreSheaf$Version;)I"⟩, 9) := ⟨⟨by decide +kernel, by decide +kernel⟩, List.mem_of_getElem? (i := 24) (by decide +kernel), List.mem_of_getElem? (i := 512) (by decide +kernel), List.mem_of_getElem? (i := 513) (by decide +kernel)⟩
theorem lw_p17 : lw_okq (⟨"ScoreSheaf", "askAgain", "(LScoreSheaf$Version;LScoreSheaf$Version;)V"⟩, 9) := ⟨⟨by decide +kernel, by decide +kernel⟩, List.mem_of_getElem? (i := 24) (by decide +kernel), List.mem_of_getElem? (i := 570) (by decide +kernel), List.mem_of_getElem? (i := 571) (by decide +kernel)⟩
theorem lw_p18 : lw_okq (⟨"ScoreSheaf", "sheafAt", "(III)LScoreSheaf$Sheaf;"⟩, 9) := ⟨⟨by decide +kernel, by decide +kernel⟩, List.mem_of_getElem? (i := 24) (by decide +kernel), List.mem_of_getElem? (i := 597) (by decide +kernel), List.mem_of_getElem? (i := 598) (by decide +kernel)⟩
theorem lw_p19 : lw_okq (⟨"ScoreSheaf", "pieceWithRank", "(I)I"⟩, 9) := ⟨⟨by decide +kernel, by decide +kernel⟩, List.mem_of_getElem? (i := 24) (by decide +kernel), List.mem_of_getElem? (i := 700) (by decide +kernel), List.mem_of_getElem? (i := 701) (by decide +kernel)⟩
theorem lw_p20 : lw_okq (⟨"ScoreSheaf", "lastHeard", "(I)I"⟩, 9) := ⟨⟨by decide +kernel, by decide +kernel⟩, List.mem_of_getElem? (i := 24) (by decide +kernel), List.mem_of_getElem? (i := 720) (by decide +kernel), List.mem_of_getElem? (i := 721) (by decide +kernel)⟩
theorem lw_p21 : lw_okq (⟨"ScoreSheaf", "sumCounted", "()I"⟩, 9) := ⟨⟨by decide +kernel, by decide +kernel⟩, List.mem_of_getElem? (i := 24) (by decide +kernel), List.mem_of_getElem? (i := 821) (by decide +kernel), List.mem_of_getElem? (i := 822) (by decide +kernel)⟩
theorem lw_p22 : lw_okq (⟨"ScoreSheafModel", "fails", "(I)I"⟩, 21) := ⟨⟨by decide +kernel, by decide +kernel⟩, List.mem_of_getElem? (i := 847) (by decide +kernel), List.mem_of_getElem? (i := 930) (by decide +kernel), List.mem_of_getElem? (i := 931) (by decide +kernel)⟩
theorem lw_p23 : lw_okq (⟨"ScoreSheafModel", "adds", "(III)I"⟩, 21) := ⟨⟨by decide +kernel, by decide +kernel⟩, List.mem_of_getElem? (i := 847) (by decide +kernel), List.mem_of_getElem? (i := 934) (by decide +kernel), List.mem_of_getElem? (i := 935) (by decide +kernel)⟩
theorem lw_p24 : lw_okq (⟨"ScoreSheafModel", "sheafAt", "(II)I"⟩, 21) := ⟨⟨by decide +kernel, by decide +kernel⟩, List.mem_of_getElem? (i := 847) (by decide +kernel), List.mem_of_getElem? (i := 938) (by decide +kernel), List.mem_of_getElem? (i := 939) (by decide +kernel)⟩
theorem lw_p25 : lw_okq (⟨"ScoreSheafModel", "tells", "(I)I"⟩, 21) := ⟨⟨by decide +kernel, by decide +kernel⟩, List.mem_of_getElem? (i := 847) (by decide +kernel), List.mem_of_getElem? (i := 942) (by decide +kernel), List.mem_of_getElem? (i := 943) (by decide +kernel)⟩
theorem lw_p26 : lw_okq (⟨"ScoreSheafModel", "isPiece", "(I)Z"⟩, 21) := ⟨⟨by decide +kernel, by decide +kernel⟩, List.mem_of_getElem? (i := 847) (by decide +kernel), List.mem_of_getElem? (i := 950) (by decide +kernel), List.mem_of_getElem? (i := 951) (by decide +kernel)⟩
theorem lw_p27 : lw_okq (⟨"ScoreSheafModel", "isVersion", "(I)Z"⟩, 21) := ⟨⟨by decide +kernel, by decide +kernel⟩, List.mem_of_getElem? (i := 847) (by decide +kernel), List.mem_of_getElem? (i := 958) (by decide +kernel), List.mem_of_getElem? (i := 959) (by decide +kernel)⟩
theorem lw_p28 : lw_okq (⟨"ScoreSheafModel", "isSheaf", "(III)Z"⟩, 21) := ⟨⟨by decide +kernel, by decide +kernel⟩, List.mem_of_getElem? (i := 847) (by decide +kernel), List.mem_of_getElem? (i := 974) (by decide +kernel), List.mem_of_getElem? (i := 975) (by decide +kernel)⟩
theorem lw_p29 : lw_okq (⟨"ScoreSheafModel", "size", "(I)I"⟩, 21) := ⟨⟨by decide +kernel, by decide +kernel⟩, List.mem_of_getElem? (i := 847) (by decide +kernel), List.mem_of_getElem? (i := 978) (by decide +kernel), List.mem_of_getElem? (i := 979) (by decide +kernel)⟩
theorem lw_p30 : lw_okq (⟨"ScoreSheafModel", "copies", "(II)V"⟩, 21) := ⟨⟨by decide +kernel, by decide +kernel⟩, List.mem_of_getElem? (i := 847) (by decide +kernel), List.mem_of_getElem? (i := 982) (by decide +kernel), List.mem_of_getElem? (i := 983) (by decide +kernel)⟩
theorem lw_p31 : lw_okq (⟨"ScoreSheafModel", "at", "(III)I"⟩, 21) := ⟨⟨by decide +kernel, by decide +kernel⟩, List.mem_of_getElem? (i := 847) (by decide +kernel), List.mem_of_getElem? (i := 986) (by decide +kernel), List.mem_of_getElem? (i := 987) (by decide +kernel)⟩
def lw_privs_2 : List (MethodName × Nat) := [(⟨"ScoreSheaf", "baseOf", "(LScoreSheaf$Version;LScoreSheaf$Version;)I"⟩, 9), (⟨"ScoreSheaf", "askAgain", "(LScoreSheaf$Version;LScoreSheaf$Version;)V"⟩, 9), (⟨"ScoreSheaf", "sheafAt", "(III)LScoreSheaf$Sheaf;"⟩, 9), (⟨"ScoreSheaf", "pieceWithRank", "(I)I"⟩, 9), (⟨"ScoreSheaf", "lastHeard", "(I)I"⟩, 9), (⟨"ScoreSheaf", "sumCounted", "()I"⟩, 9), (⟨"ScoreSheafModel", "fails", "(I)I"⟩, 21), (⟨"ScoreSheafModel", "adds", "(III)I"⟩, 21), (⟨"ScoreSheafModel", "sheafAt", "(II)I"⟩, 21), (⟨"ScoreSheafModel", "tells", "(I)I"⟩, 21), (⟨"ScoreSheafModel", "isPiece", "(I)Z"⟩, 21), (⟨"ScoreSheafModel", "isVersion", "(I)Z"⟩, 21), (⟨"ScoreSheafModel", "isSheaf", "(III)Z"⟩, 21), (⟨"ScoreSheafModel", "size", "(I)I"⟩, 21), (⟨"ScoreSheafModel", "copies", "(II)V"⟩, 21), (⟨"ScoreSheafModel", "at", "(III)I"⟩, 21)]
theorem lw_r2 : ∀ q ∈ lw_privs_2, lw_okq q := List.forall_mem_cons.mpr ⟨lw_p16, List.forall_mem_cons.mpr ⟨lw_p17, List.forall_mem_cons.mpr ⟨lw_p18, List.forall_mem_cons.mpr ⟨lw_p19, List.forall_mem_cons.mpr ⟨lw_p20, List.forall_mem_cons.mpr ⟨lw_p21, List.forall_mem_cons.mpr ⟨lw_p22, List.forall_mem_cons.mpr ⟨lw_p23, List.forall_mem_cons.mpr ⟨lw_p24, List.forall_mem_cons.mpr ⟨lw_p25, List.forall_mem_cons.mpr ⟨lw_p26, List.forall_mem_cons.mpr ⟨lw_p27, List.forall_mem_cons.mpr ⟨lw_p28, List.forall_mem_cons.mpr ⟨lw_p29, List.forall_mem_cons.mpr ⟨lw_p30, List.forall_mem_cons.mpr ⟨lw_p31, fun _ h => absurd h List.not_mem_nil⟩⟩⟩⟩⟩⟩⟩⟩⟩⟩⟩⟩⟩⟩⟩⟩
theorem lw_p32 : lw_okq (⟨"ScoreSheafModel", "isAboveOf", "(II)Z"⟩, 21) := ⟨⟨by decide +kernel, by decide +kernel⟩, List.mem_of_getElem? (i := 847) (by decide +kernel), List.mem_of_getElem? (i := 998) (by decide +kernel), List.mem_of_getElem? (i := 999) (by decide +kernel)⟩
theorem lw_p33 : lw_okq (⟨"ScoreSheafModel", "baseOf", "(II)I"⟩, 21) := ⟨⟨by decide +kernel, by decide +kernel⟩, List.mem_of_getElem? (i := 847) (by decide +kernel), List.mem_of_getElem? (i := 1002) (by decide +kernel), List.mem_of_getElem? (i := 1003) (by decide +kernel)⟩
theorem lw_p34 : lw_okq (⟨"ScoreSheafModel", "areAlike", "(II)Z"⟩, 21) := ⟨⟨by decide +kernel, by decide +kernel⟩, List.mem_of_getElem? (i := 847) (by decide +kernel), List.mem_of_getElem? (i := 1006) (by decide +kernel), List.mem_of_getElem? (i := 1007) (by decide +kernel)⟩
theorem lw_p35 : lw_okq (⟨"ScoreSheafModel", "areRows", "(II)Z"⟩, 21) := ⟨⟨by decide +kernel, by decide +kernel⟩, List.mem_of_getElem? (i := 847) (by decide +kernel), List.mem_of_getElem? (i := 1010) (by decide +kernel), List.mem_of_getElem? (i := 1011) (by decide +kernel)⟩
theorem lw_p36 : lw_okq (⟨"ScoreSheafModel", "notesOf", "(I)I"⟩, 21) := ⟨⟨by decide +kernel, by decide +kernel⟩, List.mem_of_getElem? (i := 847) (by decide +kernel), List.mem_of_getElem? (i := 1014) (by decide +kernel), List.mem_of_getElem? (i := 1015) (by decide +kernel)⟩
theorem lw_p37 : lw_okq (⟨"ScoreSheafModel", "joins", "(II)V"⟩, 21) := ⟨⟨by decide +kernel, by decide +kernel⟩, List.mem_of_getElem? (i := 847) (by decide +kernel), List.mem_of_getElem? (i := 1018) (by decide +kernel), List.mem_of_getElem? (i := 1019) (by decide +kernel)⟩
theorem lw_p38 : lw_okq (⟨"ScoreSheafModel", "asksAgain", "(II)V"⟩, 21) := ⟨⟨by decide +kernel, by decide +kernel⟩, List.mem_of_getElem? (i := 847) (by decide +kernel), List.mem_of_getElem? (i := 1022) (by decide +kernel), List.mem_of_getElem? (i := 1023) (by decide +kernel)⟩
theorem lw_p39 : lw_okq (⟨"ScoreSheafModel", "unlikeOf", "(II)I"⟩, 21) := ⟨⟨by decide +kernel, by decide +kernel⟩, List.mem_of_getElem? (i := 847) (by decide +kernel), List.mem_of_getElem? (i := 1026) (by decide +kernel), List.mem_of_getElem? (i := 1027) (by decide +kernel)⟩
theorem lw_p40 : lw_okq (⟨"ScoreSheafModel", "isMark", "(III)Z"⟩, 21) := ⟨⟨by decide +kernel, by decide +kernel⟩, List.mem_of_getElem? (i := 847) (by decide +kernel), List.mem_of_getElem? (i := 1069) (by decide +kernel), List.mem_of_getElem? (i := 1070) (by decide +kernel)⟩
theorem lw_p41 : lw_okq (⟨"ScoreSheafModel", "pointsOf", "(II)I"⟩, 21) := ⟨⟨by decide +kernel, by decide +kernel⟩, List.mem_of_getElem? (i := 847) (by decide +kernel), List.mem_of_getElem? (i := 1085) (by decide +kernel), List.mem_of_getElem? (i := 1086) (by decide +kernel)⟩
theorem lw_p42 : lw_okq (⟨"ScoreSheafModel", "fallen", "(III)I"⟩, 21) := ⟨⟨by decide +kernel, by decide +kernel⟩, List.mem_of_getElem? (i := 847) (by decide +kernel), List.mem_of_getElem? (i := 1089) (by decide +kernel), List.mem_of_getElem? (i := 1090) (by decide +kernel)⟩
theorem lw_p43 : lw_okq (⟨"ScoreSheafModel", "counted", "(III)I"⟩, 21) := ⟨⟨by decide +kernel, by decide +kernel⟩, List.mem_of_getElem? (i := 847) (by decide +kernel), List.mem_of_getElem? (i := 1093) (by decide +kernel), List.mem_of_getElem? (i := 1094) (by decide +kernel)⟩
theorem lw_p44 : lw_okq (⟨"ScoreSheafModel", "rankedOf", "(I)I"⟩, 21) := ⟨⟨by decide +kernel, by decide +kernel⟩, List.mem_of_getElem? (i := 847) (by decide +kernel), List.mem_of_getElem? (i := 1101) (by decide +kernel), List.mem_of_getElem? (i := 1102) (by decide +kernel)⟩
theorem lw_p45 : lw_okq (⟨"ScoreSheafModel", "isAhead", "(II)Z"⟩, 21) := ⟨⟨by decide +kernel, by decide +kernel⟩, List.mem_of_getElem? (i := 847) (by decide +kernel), List.mem_of_getElem? (i := 1105) (by decide +kernel), List.mem_of_getElem? (i := 1106) (by decide +kernel)⟩
theorem lw_p46 : lw_okq (⟨"ScoreSheafModel", "openOf", "(I)I"⟩, 21) := ⟨⟨by decide +kernel, by decide +kernel⟩, List.mem_of_getElem? (i := 847) (by decide +kernel), List.mem_of_getElem? (i := 1109) (by decide +kernel), List.mem_of_getElem? (i := 1110) (by decide +kernel)⟩
theorem lw_p47 : lw_okq (⟨"ScoreSheafModel", "partsOfAll", "(II)I"⟩, 21) := ⟨⟨by decide +kernel, by decide +kernel⟩, List.mem_of_getElem? (i := 847) (by decide +kernel), List.mem_of_getElem? (i := 1121) (by decide +kernel), List.mem_of_getElem? (i := 1122) (by decide +kernel)⟩
def lw_privs_3 : List (MethodName × Nat) := [(⟨"ScoreSheafModel", "isAboveOf", "(II)Z"⟩, 21), (⟨"ScoreSheafModel", "baseOf", "(II)I"⟩, 21), (⟨"ScoreSheafModel", "areAlike", "(II)Z"⟩, 21), (⟨"ScoreSheafModel", "areRows", "(II)Z"⟩, 21), (⟨"ScoreSheafModel", "notesOf", "(I)I"⟩, 21), (⟨"ScoreSheafModel", "joins", "(II)V"⟩, 21), (⟨"ScoreSheafModel", "asksAgain", "(II)V"⟩, 21), (⟨"ScoreSheafModel", "unlikeOf", "(II)I"⟩, 21), (⟨"ScoreSheafModel", "isMark", "(III)Z"⟩, 21), (⟨"ScoreSheafModel", "pointsOf", "(II)I"⟩, 21), (⟨"ScoreSheafModel", "fallen", "(III)I"⟩, 21), (⟨"ScoreSheafModel", "counted", "(III)I"⟩, 21), (⟨"ScoreSheafModel", "rankedOf", "(I)I"⟩, 21), (⟨"ScoreSheafModel", "isAhead", "(II)Z"⟩, 21), (⟨"ScoreSheafModel", "openOf", "(I)I"⟩, 21), (⟨"ScoreSheafModel", "partsOfAll", "(II)I"⟩, 21)]
theorem lw_r3 : ∀ q ∈ lw_privs_3, lw_okq q := List.forall_mem_cons.mpr ⟨lw_p32, List.forall_mem_cons.mpr ⟨lw_p33, List.forall_mem_cons.mpr ⟨lw_p34, List.forall_mem_cons.mpr ⟨lw_p35, List.forall_mem_cons.mpr ⟨lw_p36, List.forall_mem_cons.mpr ⟨lw_p37, List.forall_mem_cons.mpr ⟨lw_p38, List.forall_mem_cons.mpr ⟨lw_p39, List.forall_mem_cons.mpr ⟨lw_p40, List.forall_mem_cons.mpr ⟨lw_p41, List.forall_mem_cons.mpr ⟨lw_p42, List.forall_mem_cons.mpr ⟨lw_p43, List.forall_mem_cons.mpr ⟨lw_p44, List.forall_mem_cons.mpr ⟨lw_p45, List.forall_mem_cons.mpr ⟨lw_p46, List.forall_mem_cons.mpr ⟨lw_p47, fun _ h => absurd h List.not_mem_nil⟩⟩⟩⟩⟩⟩⟩⟩⟩⟩⟩⟩⟩⟩⟩⟩
theorem lw_p48 : lw_okq (⟨"ScoreSheafModel", "marksThere", "(Z)I"⟩, 21) := ⟨⟨by decide +kernel, by decide +kernel⟩, List.mem_of_getElem? (i := 847) (by decide +kernel), List.mem_of_getElem? (i := 1149) (by decide +kernel), List.mem_of_getElem? (i := 1150) (by decide +kernel)⟩
def lw_privs_4 : List (MethodName × Nat) := [(⟨"ScoreSheafModel", "marksThere", "(Z)I"⟩, 21)]
theorem lw_r4 : ∀ q ∈ lw_privs_4, lw_okq q := List.forall_mem_cons.mpr ⟨lw_p48, fun _ h => absurd h List.not_mem_nil⟩
def lw_privs : List (MethodName × Nat) := lw_privs_1 ++ (lw_privs_2 ++ (lw_privs_3 ++ (lw_privs_4)))
def lw_tbl : List Cond := k2_sels lw_privs ++ tables_1
theorem lw_privs_ok : ∀ q ∈ lw_privs, lw_okq q := by
  show ∀ q ∈ lw_privs_1 ++ (lw_privs_2 ++ (lw_privs_3 ++ (lw_privs_4))), lw_okq q
  exact List.forall_mem_append.mpr ⟨lw_r1, List.forall_mem_append.mpr ⟨lw_r2, List.forall_mem_append.mpr ⟨lw_r3, lw_r4⟩⟩⟩
/-- the streams that the claim lets the run draw from -/
abbrev lw_cs : List Choice := [Jvm.Choice.named "NaN.bits"]
theorem lw_bits : nanBits ∈ lw_cs := by first | decide | exact List.mem_cons_self | simp [lw_cs, nanBits]

/-! ===== BEGIN words of one list among another's, by their places ===== -/
theorem goodIn_r {big : List Cond} (ws : List Cond) (ps : List Nat) (hp : ws = ps.filterMap (fun i => big[i]?)) (h : ws.all goodWord = true) : GoodIn big ws := by
  intro w hw
  have h1 := List.all_eq_true.mp h w hw
  rw [hp] at hw
  obtain ⟨i, -, hi⟩ := List.mem_filterMap.mp hw
  have hm : w ∈ big := by first | exact List.mem_of_getElem? hi | exact List.getElem?_mem hi
  exact ⟨hm, good_of_word h1⟩
theorem goodIn_app {big a b : List Cond} (ha : GoodIn big a) (hb : GoodIn big b) : GoodIn big (a ++ b) := fun w h => (List.mem_append.mp h).elim (ha w) (hb w)
theorem goodIn_ca {big a b : List Cond} {c : Cond} (ha : GoodIn big (c :: a)) (hb : GoodIn big b) : GoodIn big (c :: (a ++ b)) := fun w h => (List.mem_cons.mp h).elim (fun e => ha w (List.mem_cons.mpr (Or.inl e))) (fun h => (List.mem_append.mp h).elim (fun h => ha w (List.mem_cons.mpr (Or.inr h))) (hb w))
theorem goodIn_sub {big ws : List Cond} (hm : ∀ w ∈ ws, w ∈ big) (h : ws.all goodWord = true) : GoodIn big ws := fun w hw => ⟨hm w hw, good_of_word (List.all_eq_true.mp h w hw)⟩
/-! ===== END ===== -/

/-! ===== BEGIN exceptions that leave a method, and their catching by the caller (launches without stack traces) ===== -/
section VXA
/-! The laws vx_back, vx_callV, vx_callS, vx_callSW, vx_throw0, vx_throwS follow proofs of the library, with one case more: JvmDerived/Free/Laws.lean (Back.of_free), Shelf42/LK1.lean (callV, callS), Shelf/KitTraced.lean (throwNew0V, throwNewS). -/
/-- where a method has thrown q: the class by its name, the cell, what was written, the world -/
def vx_T (XC : String → State → State → Prop) (st : State) (q : Addr) (t : State) (mc ms : Nat) (free : Addr → Prop) : Prop :=
  ∃ (E : String) (ce : Cell) (L : List Loc), XC E st t ∧ t.heap[q]? = some ce ∧ ce.vm = .none ∧ st.vm.findClass E = some ce.cls ∧ st.WarmedH t.vm ∧ st.sameButNew ({ t with vm := st.vm } : State) L mc ms ∧ ∀ z ∈ L, free z.base
def vx_Q (Qc : Array Value → State → Outcome → State → Prop) (XC : String → State → State → Prop) (mc ms : Nat) (free : Addr → Prop) : Array Value → State → Outcome → State → Prop := fun a st o t =>
  (Qc a st o t ∧ ∃ L, FrameEnd st o t L mc ms ∧ ∀ q ∈ L, free q.base) ∨ ∃ q, o = .threw q ∧ vx_T XC st q t mc ms free
/-- a callee that returns or throws -/
def vx_Met (l : Launch) (y : MethodName) (ws : List Cond) (rm : Room) (Pc : Array Value → State → Prop) (Qc : Array Value → State → Outcome → State → Prop) (XC : String → State → State → Prop) (mc ms : Nat) (free : Addr → Prop) : Prop :=
  MetFree l y (headSpec ws rm) Pc (fun _ _ _ _ _ => True) (vx_Q Qc XC mc ms free)
def vx_Post (XC : String → State → State → Prop) (mc ms : Nat) (free : Addr → Prop) : Pt → Array Value → Addr → Pt → Prop := fun A a q B =>
  ∃ (g : JFrame) (mk : MethodId) (t : State) (L : List Loc) (E : String) (ce : Cell), B.U.heap = t.heap ∧ B.U.vm = t.vm ∧ XC E (A.U.calling g mk a) t ∧ t.heap[q]? = some ce ∧ ce.vm = .none ∧ A.U.vm.findClass E = some ce.cls ∧ B.locs = A.locs ++ L ∧ (∀ z ∈ L, free z.base) ∧ B.cells = A.cells + mc ∧ B.slots = A.slots + ms
def vx_Back (l : Launch) (R : Room) (p : Program) (e : Env) (below : List Frame) (s : State) (sargs : Array Value) (y : MethodName) (len W9 : Nat)
    (Pre : Pt → Array Value → Prop) (Post : Pt → Array Value → Option Value → Pt → Prop) (PostX : Pt → Array Value → Addr → Pt → Prop) : Prop :=
  ∀ (m : MethodId) (meth : Method) (c : Code) (A : Pt) (g : JFrame) (ig : Instr) (mk : MethodId) (a : Array Value),
    Stand p l e R s m sargs below meth c A.U A.locs A.cells A.slots → g.method = m → g.locals.size = c.maxLocals → decode c.code g.pc = .ok (ig, len) →
    2 * g.monitorRoom + (g.stack.map fun v => v.category).sum ≤ W9 → A.U.methodNamed? y = some mk → Pre A a →
    (∃ (v : Option Value) (B : Pt), Stand p l e R s m sargs below meth c B.U B.locs B.cells B.slots ∧ Post A a v B ∧
      Steps p.tables e below (doInvoke e (A.U.setTop g) [] mk a).1 (B.U.setTop { g with pc := g.pc + len, stack := v.toList ++ g.stack })) ∨
    (∃ (q : Addr) (B : Pt), Stand p l e R s m sargs below meth c B.U B.locs B.cells B.slots ∧ PostX A a q B ∧
      Steps p.tables e below (doInvoke e (A.U.setTop g) [] mk a).1 ((B.U.setTop g).pushFrame (.throwing q)))
section Payer
variable {l : Launch} {R : Room} {p : Program} {e : Env} {below : List Frame} {s : State} {sargs : Array Value} {y : MethodName} {len W9 : Nat}
theorem vx_back {ws : List Cond} {rm : Room} {Pc : Array Value → State → Prop} {Qc : Array Value → State → Outcome → State → Prop} {XC : String → State → State → Prop} {mc ms : Nat} {free : Addr → Prop} {bytes : ByteArray} {maxL : Nat} {ret : Option FieldType}
    (hM : vx_Met l y ws rm Pc Qc XC mc ms free) (hblind : FrameBlind Pc) (hrc : rm.cells = mc) (hrs : rm.slots = ms)
    (hframes : rm.frames + 1 ≤ R.frames) (hlocals : W9 + (maxL + 11) + rm.locals ≤ R.locals)
    (hws : ∀ w ∈ ws, ∀ a' U, s.WarmedH U.vm → w.before a' U = true) (hcode : Cond.code y bytes maxL ret ∈ ws) (hinit : ∀ a' U, s.WarmedH U.vm → (Cond.initialized y.cls).before a' U = true) :
    vx_Back l R p e below s sargs y len W9 (PreOf R mc ms Pc) (PostOf Qc mc ms free) (vx_Post XC mc ms free) := by
  intro m meth c A g ig mk a X hg hsize hdg hW hn hp
  have h1 : (headSpec ws rm).pre.before a A.U = true := atoms_intro fun w hw => hws w hw _ _ X.warmed
  have h2 : (Cond.code y bytes maxL ret).before a A.U = true := hws _ hcode _ _ X.warmed
  have h3 : (Cond.initialized y.cls).before a A.U = true := hinit _ _ X.warmed
  have h4 : A.cells + (headSpec ws rm).room.cells ≤ R.cells := by rw [show (headSpec ws rm).room.cells = mc from hrc]; exact hp.1
  have h5 : A.slots + (headSpec ws rm).room.slots ≤ R.slots := by rw [show (headSpec ws rm).room.slots = ms from hrs]; exact hp.2.1
  have hPc : Pc a (A.U.calling g mk a) := hblind _ _ _ _ hp.2.2
  obtain ⟨U, Ls, c0, s0⟩ := A
  dsimp only [Pt.U, Pt.locs, Pt.cells, Pt.slots] at h1 h2 h3 h4 h5 X hn hPc ⊢
  obtain ⟨methY, cY, hmY, hcY, -, hlY, -, -, -, -⟩ := Cond.code_spec hn h2
  obtain ⟨kY, hkY, -⟩ := className_of_methodNamed hn
  have hinitY : kY.init = .initialized := Cond.initialized_spec (findClass_of_methodNamed hn) hkY h3
  have h : At U g.method c below := by rw [hg]; exact X.here
  have hlocals9 : W9 + (maxL + 11) + (headSpec ws rm).room.locals ≤ R.locals := hlocals
  have happ : (headSpec ws rm).appliesLoose y e.platform (U.calling g mk a) = true :=
    Spec.appliesLoose_calling (g := g) h hdg hn hkY hinitY
      (X.room_calling (g := g) (R' := (headSpec ws rm).room) hsize hmY hcY hframes (by rw [hlY]; omega) h4 h5) h1
  obtain ⟨mid, hmid⟩ := h.above
  have hfr : (U.setTop g).frames = (.java g :: mid) ++ below := by rw [State.frames_setTop' g h.top, hmid]; rfl
  obtain ⟨o, s₂, hsteps, -, hend, hq⟩ := Steps.callFree hM p X.admits X.cas X.clock (acts := []) hfr happ hPc trivial
  have hq' : vx_Q Qc XC mc ms free a (U.calling g mk a) o s₂ := hq
  rw [State.frames_setTop' g h.top] at hend
  obtain ⟨g₀, hg0⟩ := Option.isSome_iff_exists.mp h.top
  obtain ⟨r, hr⟩ := State.topJava?_eq_some.mp hg0
  have hr' : (({ U with heap := s₂.heap, slotsUsed := s₂.slotsUsed } : State).setVm s₂.vm).frames = .java g₀ :: r := hr
  rcases hq' with ⟨hqc, L, hfe, hL⟩ | ⟨q, rfl, E, ce, L, hx, hce, hcv, hcl, hW₂, hsm, hL⟩
  · obtain ⟨⟨v, rfl⟩, hW₂, e2, q2, q3, q4, q5, q6⟩ := id hfe
    have e3 : s₂ = ({ (U.calling g mk a).setFrames s₂.frames with heap := s₂.heap, slotsUsed := s₂.slotsUsed } : State).setVm s₂.vm := by
      have : s₂ = ({ s₂ with vm := (U.calling g mk a).vm } : State).setVm s₂.vm := rfl
      rw [e2] at this
      exact this
    obtain ⟨c₂, i₂, len₂, hc₂, hd₂, hf₂⟩ := hend
    have hW' : U.WarmedH s₂.vm := hW₂
    have hcc : c₂ = c := by
      have h1 : s₂.code? g.method = U.code? g.method := by
        rw [State.code?_eq, State.code?_eq, hW'.alike.method?]
      exact Option.some.inj (hc₂.symm.trans (h1.trans h.code))
    subst hcc
    have hlen : len₂ = len := by rw [hdg] at hd₂; cases hd₂; rfl
    subst hlen
    have hs₂ : s₂ = (({ U with heap := s₂.heap, slotsUsed := s₂.slotsUsed } : State).setVm s₂.vm).setTop { g with pc := g.pc + len₂, stack := v.toList ++ g.stack } := by
      refine e3.trans ?_
      rw [hf₂, State.calling_eq h.top, State.setFrames_setFrames, State.setTop_of_frames _ hr', hr]
      rfl
    have hsame : U.sameButNew ({ U with heap := s₂.heap, slotsUsed := s₂.slotsUsed } : State) L mc ms := by
      refine ⟨?_, q2, q3, q4, q5, q6⟩
      obtain ⟨t, ht, -⟩ := State.frames_cons hr
      show ({ U with heap := s₂.heap, slotsUsed := s₂.slotsUsed } : State) = { U.setFrames U.frames with heap := s₂.heap, slotsUsed := s₂.slotsUsed }
      rw [State.setFrames_self ht]
    subst hg
    refine Or.inl ⟨v, ⟨(({ U with heap := s₂.heap, slotsUsed := s₂.slotsUsed } : State).setVm s₂.vm), Ls ++ L, c0 + mc, s0 + ms⟩,
      ⟨X.admits, X.cas, X.clock, X.frames, X.room, X.hears, X.method, X.code, (X.here.setHeapUsed s₂.heap s₂.slotsUsed).setVm hW'.alike, X.tail, State.WarmedH.trans X.warmed hW', X.limits, X.bytes, X.same.trans (hsame.setVm s.vm)⟩,
      ⟨g, mk, s₂, L, rfl, rfl, hqc, rfl, hL, rfl, rfl⟩, ?_⟩
    show Steps p.tables e below _ ((({ U with heap := s₂.heap, slotsUsed := s₂.slotsUsed } : State).setVm s₂.vm).setTop { g with pc := g.pc + len₂, stack := v.toList ++ g.stack })
    rw [← hs₂]
    exact hsteps
  · obtain ⟨e2, q2, q3, q4, q5, q6⟩ := id hsm
    have e3 : s₂ = ({ (U.calling g mk a).setFrames s₂.frames with heap := s₂.heap, slotsUsed := s₂.slotsUsed } : State).setVm s₂.vm := by
      have : s₂ = ({ s₂ with vm := (U.calling g mk a).vm } : State).setVm s₂.vm := rfl
      rw [e2] at this
      exact this
    have hf₂ : s₂.frames = .throwing q :: .java g :: U.frames.tail := hend
    have hW' : U.WarmedH s₂.vm := hW₂
    have hs₂ : s₂ = ((({ U with heap := s₂.heap, slotsUsed := s₂.slotsUsed } : State).setVm s₂.vm).setTop g).pushFrame (.throwing q) := by
      refine e3.trans ?_
      rw [hf₂, State.calling_eq h.top, State.setFrames_setFrames, State.pushFrame, State.frames_setTop _ hr', State.setTop_of_frames _ hr', State.setFrames_setFrames, hr]
      rfl
    have hsame : U.sameButNew ({ U with heap := s₂.heap, slotsUsed := s₂.slotsUsed } : State) L mc ms := by
      refine ⟨?_, q2, q3, q4, q5, q6⟩
      obtain ⟨t, ht, -⟩ := State.frames_cons hr
      show ({ U with heap := s₂.heap, slotsUsed := s₂.slotsUsed } : State) = { U.setFrames U.frames with heap := s₂.heap, slotsUsed := s₂.slotsUsed }
      rw [State.setFrames_self ht]
    subst hg
    refine Or.inr ⟨q, ⟨(({ U with heap := s₂.heap, slotsUsed := s₂.slotsUsed } : State).setVm s₂.vm), Ls ++ L, c0 + mc, s0 + ms⟩,
      ⟨X.admits, X.cas, X.clock, X.frames, X.room, X.hears, X.method, X.code, (X.here.setHeapUsed s₂.heap s₂.slotsUsed).setVm hW'.alike, X.tail, State.WarmedH.trans X.warmed hW', X.limits, X.bytes, X.same.trans (hsame.setVm s.vm)⟩,
      ⟨g, mk, s₂, L, E, ce, rfl, rfl, hx, hce, hcv, hcl, rfl, hL, rfl, rfl⟩, ?_⟩
    show Steps p.tables e below _ (((({ U with heap := s₂.heap, slotsUsed := s₂.slotsUsed } : State).setVm s₂.vm).setTop g).pushFrame (.throwing q))
    rw [← hs₂]
    exact hsteps
end Payer
section Calls
variable {p : Program} {l : Launch} {e : Env} {R : Room} {s : State} {m : MethodId} {args : Array Value} {below : List Frame} {meth : Method} {c : Code} {T : State} {locs : List Loc} {cells slots : Nat}
theorem vx_callV (X : Stand p l e R s m args below meth c T locs cells slots) (hexec : p.tables.exec = Jvm.exec) {own C : String} {index : Nat} {y : MethodName} {bytes : ByteArray} {maxL : Nat} {ret : Option FieldType}
    (hown : s.vm.findClass own = some m.cls) (hlink : (Cond.methodLink own index y).before args s = true) (hinst : (Cond.instanceMethod y).before args s = true) (hsel : (Cond.selects C y y).before args s = true)
    (hcode : (Cond.code y bytes maxL ret).before args s = true) (hy : y.cls ≠ "java/lang/invoke/MethodHandle" ∧ y.cls ≠ "java/lang/invoke/VarHandle")
    {W9 : Nat} {Pre : Pt → Array Value → Prop} {Post : Pt → Array Value → Option Value → Pt → Prop} {PostX : Pt → Array Value → Addr → Pt → Prop} (hK : vx_Back l R p e below s args y 3 W9 Pre Post PostX)
    {b : Addr} {cellB : Cell} (hcell : T.heap[b]? = some cellB) (hobj : cellB.vm.isStatics = false) (hcls : s.vm.findClass C = some cellB.cls)
    {g : JFrame} (hg : g.method = m) (hsize : g.locals.size = c.maxLocals) {argsL rest : List Value} (hlen : ∀ sig, parseMethodDescriptor y.desc = some sig → argsL.length = sig.parameters.length)
    (hstack : g.stack = argsL.reverse ++ .ref b :: rest) (hW : 2 * g.monitorRoom + (rest.map fun v => v.category).sum ≤ W9) (hdg : decode c.code g.pc = .ok (.invokevirtual index, 3))
    (hpre : ∀ vm₁, s.WarmedH vm₁ → Pre ⟨T.setVm vm₁, locs, cells, slots⟩ (Value.ref b :: argsL).toArray) :
    (∃ (v : Option Value) (vm₁ : Vm) (B : Pt), s.WarmedH vm₁ ∧ Stand p l e R s m args below meth c B.U B.locs B.cells B.slots ∧ Post ⟨T.setVm vm₁, locs, cells, slots⟩ (Value.ref b :: argsL).toArray v B ∧
      ∀ target, Steps p.tables e below (B.U.setTop { g with pc := g.pc + 3, stack := v.toList ++ rest }) target → Steps p.tables e below (T.setTop g) target) ∨
    (∃ (q : Addr) (vm₁ : Vm) (B : Pt), s.WarmedH vm₁ ∧ Stand p l e R s m args below meth c B.U B.locs B.cells B.slots ∧ PostX ⟨T.setVm vm₁, locs, cells, slots⟩ (Value.ref b :: argsL).toArray q B ∧
      Steps p.tables e below (T.setTop g) ((B.U.setTop { g with stack := rest }).pushFrame (.throwing q))) := by
  obtain ⟨mk, methM, hnamed, hmethM, hstM, habM⟩ := Cond.instanceMethod_spec hinst
  obtain ⟨methM', cM, hmethM', -, -, -, -, -, -, hsigM⟩ := Cond.code_spec hnamed hcode
  cases hmethM.symm.trans hmethM'
  obtain ⟨c2, r2, m2, q1, q2, q3, q4, kP, hkP, hkPi⟩ := Cond.selects_spec hsel
  cases hcls.symm.trans q1
  cases (State.methodFound?_of_named hnamed hy).symm.trans q2
  cases hnamed.symm.trans q3
  have hselP : selectMethod e.platform s.vm cellB.cls mk = .method mk := by rw [Launch.admits_selectMethod X.admits]; exact q4
  obtain ⟨vm₁, X₁, hstep₁⟩ := X.invokevirtual hexec hown hlink hnamed hmethM hstM hkP hkPi hy (a := b) (cell := cellB) hcell
    (fun z h => by rw [h] at hobj; cases hobj) hselP hmethM habM hkP hkPi (g := g) hg (argsL := argsL) (rest := rest) (hlen _ hsigM) hstack hdg
  rcases hK m meth c ⟨T.setVm vm₁, locs, cells, slots⟩ { g with stack := rest } (.invokevirtual index) mk (Value.ref b :: argsL).toArray X₁ hg hsize hdg hW (X₁.named hnamed) (hpre vm₁ X₁.warmed) with ⟨v, B, X', hpost, hsteps⟩ | ⟨q, B, X', hpost, hsteps⟩
  · exact Or.inl ⟨v, vm₁, B, X₁.warmed, X', hpost, fun target h => hstep₁ _ fun acts => by rw [doInvoke_state]; exact hsteps.trans h⟩
  · exact Or.inr ⟨q, vm₁, B, X₁.warmed, X', hpost, hstep₁ _ fun acts => by rw [doInvoke_state]; exact hsteps⟩
theorem vx_callS (X : Stand p l e R s m args below meth c T locs cells slots) (hexec : p.tables.exec = Jvm.exec) {own : String} {index : Nat} {y : MethodName} {bytes : ByteArray} {maxL : Nat} {ret : Option FieldType}
    (hown : s.vm.findClass own = some m.cls) (hlink : (Cond.methodLink own index y).before args s = true) (hstat : (Cond.static y).before args s = true) (hinit : (Cond.initialized y.cls).before args s = true)
    (hcode : (Cond.code y bytes maxL ret).before args s = true) (hy : y.cls ≠ "java/lang/invoke/MethodHandle" ∧ y.cls ≠ "java/lang/invoke/VarHandle")
    {W9 : Nat} {Pre : Pt → Array Value → Prop} {Post : Pt → Array Value → Option Value → Pt → Prop} {PostX : Pt → Array Value → Addr → Pt → Prop} (hK : vx_Back l R p e below s args y 3 W9 Pre Post PostX)
    {g : JFrame} (hg : g.method = m) (hsize : g.locals.size = c.maxLocals) {argsL rest : List Value} (hlen : ∀ sig, parseMethodDescriptor y.desc = some sig → argsL.length = sig.parameters.length)
    (hstack : g.stack = argsL.reverse ++ rest) (hW : 2 * g.monitorRoom + (rest.map fun v => v.category).sum ≤ W9) (hdg : decode c.code g.pc = .ok (.invokestatic index, 3))
    (hpre : ∀ vm₁, s.WarmedH vm₁ → Pre ⟨T.setVm vm₁, locs, cells, slots⟩ argsL.toArray) :
    (∃ (v : Option Value) (vm₁ : Vm) (B : Pt), s.WarmedH vm₁ ∧ Stand p l e R s m args below meth c B.U B.locs B.cells B.slots ∧ Post ⟨T.setVm vm₁, locs, cells, slots⟩ argsL.toArray v B ∧
      ∀ target, Steps p.tables e below (B.U.setTop { g with pc := g.pc + 3, stack := v.toList ++ rest }) target → Steps p.tables e below (T.setTop g) target) ∨
    (∃ (q : Addr) (vm₁ : Vm) (B : Pt), s.WarmedH vm₁ ∧ Stand p l e R s m args below meth c B.U B.locs B.cells B.slots ∧ PostX ⟨T.setVm vm₁, locs, cells, slots⟩ argsL.toArray q B ∧
      Steps p.tables e below (T.setTop g) ((B.U.setTop { g with stack := rest }).pushFrame (.throwing q))) := by
  obtain ⟨mk, hnamed⟩ := Cond.code_named hcode
  obtain ⟨methM, cM, hmethM, -, -, -, -, -, -, hsigM⟩ := Cond.code_spec hnamed hcode
  have hstatic : methM.isStatic = true := Cond.static_spec hnamed hmethM hstat
  obtain ⟨kP, hkP, -⟩ := className_of_methodNamed hnamed
  have hinitP : kP.init = .initialized := Cond.initialized_spec (findClass_of_methodNamed hnamed) hkP hinit
  obtain ⟨vm₁, X₁, hstep₁⟩ := X.invokestatic hexec hown hlink hnamed hmethM hstatic hkP hinitP hy (g := g) hg (argsL := argsL) (rest := rest) (hlen _ hsigM) hstack hdg
  rcases hK m meth c ⟨T.setVm vm₁, locs, cells, slots⟩ { g with stack := rest } (.invokestatic index) mk argsL.toArray X₁ hg hsize hdg hW (X₁.named hnamed) (hpre vm₁ X₁.warmed) with ⟨v, B, X', hpost, hsteps⟩ | ⟨q, B, X', hpost, hsteps⟩
  · exact Or.inl ⟨v, vm₁, B, X₁.warmed, X', hpost, fun target h => hstep₁ _ fun acts => by rw [doInvoke_state]; exact hsteps.trans h⟩
  · exact Or.inr ⟨q, vm₁, B, X₁.warmed, X', hpost, hstep₁ _ fun acts => by rw [doInvoke_state]; exact hsteps⟩
end Calls
theorem vx_cls {s : State} {T : State} {vm₁ : Vm} {E : String} {k : ClassId} (hW : s.WarmedH vm₁) (h : (T.setVm vm₁).vm.findClass E = some k) : s.vm.findClass E = some k := by
  have h1 : vm₁.findClass E = some k := h
  rw [hW.alike.findClass] at h1
  exact h1
/-- the method's frame g, with q thrown over it -/
def vx_W (p : Program) (l : Launch) (e : Env) (R : Room) (s : State) (m : MethodId) (args : Array Value) (below : List Frame) (meth : Method) (c : Code) (H : Heap) (locs : List Loc) (cells slots : Nat) (Q : State → Prop) (g : JFrame) (q : Addr) : Prop :=
  ∀ T : State, T.heap = H → Stand p l e R s m args below meth c T locs cells slots → ∃ t, Steps p.tables e below ((T.setTop g).pushFrame (.throwing q)) t ∧ Q t
def vx_Run (p : Program) (l : Launch) (e : Env) (R : Room) (s : State) (m : MethodId) (args : Array Value) (below : List Frame) (meth : Method) (c : Code) (H : Heap) (locs : List Loc) (cells slots mc ms : Nat) (g : JFrame) (rest : List Value) (Qa : State → Outcome → State → Prop) (XC : String → State → State → Prop) (free : Addr → Prop) : Prop :=
  ∀ T : State, T.heap = H → Stand p l e R s m args below meth c T locs cells slots →
    (∃ (v : Option Value) (st₀ t T' : State) (L : List Loc), st₀.heap = H ∧ Stand p l e R s m args below meth c T' (locs ++ L) (cells + mc) (slots + ms) ∧ (∀ q ∈ L, free q.base) ∧ T'.heap = t.heap ∧ T'.vm = t.vm ∧ Qa st₀ (.returned v) t ∧
      Goes p e below T g T' { g with pc := g.pc + 3, stack := v.toList ++ rest }) ∨
    (∃ (q : Addr) (st₀ t T' : State) (L : List Loc) (E : String) (ce : Cell), st₀.heap = H ∧ Stand p l e R s m args below meth c T' (locs ++ L) (cells + mc) (slots + ms) ∧ (∀ z ∈ L, free z.base) ∧ T'.heap = t.heap ∧ T'.vm = t.vm ∧ XC E st₀ t ∧ t.heap[q]? = some ce ∧ ce.vm = .none ∧ s.vm.findClass E = some ce.cls ∧
      Steps p.tables e below (T.setTop g) ((T'.setTop { g with stack := rest }).pushFrame (.throwing q)))
def vx_X {S : Type} (px : S → Prop) (B : String → S → State → Prop) (A : Nat → Prop) : String → State → State → Prop := fun E st t => ∃ u : S, px u ∧ B E u t ∧ va_F A st t
section Runs
variable {p : Program} {l : Launch} {e : Env} {R : Room} {s : State} {m : MethodId} {args : Array Value} {below : List Frame} {meth : Method} {c : Code} {H : Heap} {locs : List Loc} {cells slots : Nat}
variable {y : MethodName} {bytes cc : ByteArray} {maxL nL mc ms n index : Nat} {ret : Option FieldType} {ws : List Cond} {rm : Room} {Pc : Array Value → State → Prop} {Qc : Array Value → State → Outcome → State → Prop} {XC : String → State → State → Prop} {free : Addr → Prop} {Ts : List Cond} {own C : String} {b : Addr} {As rest : List Value} {g : JFrame}
theorem vx_callBack (cb : CallB R s args own index y bytes maxL ret ws rm mc ms n) (hM : vx_Met l y ws rm Pc Qc XC mc ms free) (hbl : FrameBlind Pc) : vx_Back l R p e below s args y 3 8 (PreOf R mc ms Pc) (PostOf Qc mc ms free) (vx_Post XC mc ms free) := by
  obtain ⟨hrc, hrs, hfr, hlo, hws, hcw, -, hini, -⟩ := cb
  exact vx_back (bytes := bytes) (maxL := maxL) (ret := ret) hM hbl hrc hrs hfr hlo hws hcw (fun a' U hW => word_at hW (Or.inl (by first | rfl | simp [Cond.onTables, Cond.keeps, Cond.steady])) hini)
theorem vx_runV (S : CallFix p m c cc nL s args Ts own) (hM : vx_Met l y ws rm Pc Qc XC mc ms free) (cw : CallW R s args own C index y bytes maxL ret ws rm mc ms n) (hp : PreV s H C b Pc As)
    (hg : g.method = m) (hn : As.length = n) (hsize : g.locals.size = nL) (hstack : g.stack = As.reverse ++ .ref b :: rest) (hW : 2 * g.monitorRoom + (rest.map fun v => v.category).sum ≤ 8) (hdg : decode cc g.pc = .ok (.invokevirtual index, 3)) (hf : cells + mc ≤ R.cells ∧ slots + ms ≤ R.slots) :
    vx_Run p l e R s m args below meth c H locs cells slots mc ms g rest (Qc (Value.ref b :: As).toArray) XC free := by
  have hK : vx_Back l R p e below s args y 3 8 (PreOf R mc ms Pc) (PostOf Qc mc ms free) (vx_Post XC mc ms free) := vx_callBack cw.1 hM hp.1
  obtain ⟨⟨-, -, -, -, -, -, hcode, -, hy, hlen, hl⟩, hin, hse⟩ := cw
  obtain ⟨hx, hb, hml, ho, -⟩ := S
  obtain ⟨-, ⟨cellB, hcB, hoB, hclB⟩, hPc⟩ := hp
  intro T hT X
  rcases vx_callV X hx (C := C) (bytes := bytes) (maxL := maxL) (ret := ret) ho hl hin hse hcode hy hK (by rw [hT]; exact hcB) hoB hclB hg (hsize.trans hml.symm) (argsL := As) (rest := rest) (fun sig h => hn.trans (hlen sig h)) hstack hW (by rw [hb]; exact hdg)
    (fun vm₁ hW₁ => ⟨hf.1, hf.2, hPc (T.setVm vm₁) hT hW₁⟩) with ⟨v, vm₁, ⟨U', l2, c2, s2⟩, hW₁, X', ⟨g', mk, t, L, e1, e2, hq, h1, hL, h2, h3⟩, st⟩ | ⟨q, vm₁, ⟨U', l2, c2, s2⟩, hW₁, X', ⟨g', mk, t, L, E, ce, e1, e2, hq, hce, hcv, hcl, h1, hL, h2, h3⟩, st⟩
  · dsimp only [Pt.U, Pt.locs, Pt.cells, Pt.slots] at X' e1 e2 h1 h2 h3 st
    subst h1; subst h2; subst h3
    exact Or.inl ⟨v, (T.setVm vm₁).calling g' mk (Value.ref b :: As).toArray, t, U', L, hT, X', hL, e1, e2, hq, st⟩
  · dsimp only [Pt.U, Pt.locs, Pt.cells, Pt.slots] at X' e1 e2 h1 h2 h3 st hcl
    subst h1; subst h2; subst h3
    exact Or.inr ⟨q, (T.setVm vm₁).calling g' mk (Value.ref b :: As).toArray, t, U', L, E, ce, hT, X', hL, e1, e2, hq, hce, hcv, vx_cls hW₁ hcl, st⟩
theorem vx_runS (S : CallFix p m c cc nL s args Ts own) (hM : vx_Met l y ws rm Pc Qc XC mc ms free) (cw : CallB R s args own index y bytes maxL ret ws rm mc ms n ∧ (Cond.static y).before args s = true) (hp : PreS s H Pc As)
    (hg : g.method = m) (hn : As.length = n) (hsize : g.locals.size = nL) (hstack : g.stack = As.reverse ++ rest) (hW : 2 * g.monitorRoom + (rest.map fun v => v.category).sum ≤ 8) (hdg : decode cc g.pc = .ok (.invokestatic index, 3)) (hf : cells + mc ≤ R.cells ∧ slots + ms ≤ R.slots) :
    vx_Run p l e R s m args below meth c H locs cells slots mc ms g rest (Qc As.toArray) XC free := by
  have hK : vx_Back l R p e below s args y 3 8 (PreOf R mc ms Pc) (PostOf Qc mc ms free) (vx_Post XC mc ms free) := vx_callBack cw.1 hM hp.1
  obtain ⟨⟨-, -, -, -, -, -, hcode, hini, hy, hlen, hl⟩, hstt⟩ := cw
  obtain ⟨hx, hb, hml, ho, -⟩ := S
  intro T hT X
  rcases vx_callS X hx (bytes := bytes) (maxL := maxL) (ret := ret) ho hl hstt hini hcode hy hK hg (hsize.trans hml.symm) (argsL := As) (rest := rest) (fun sig h => hn.trans (hlen sig h)) hstack hW (by rw [hb]; exact hdg)
    (fun vm₁ hW₁ => ⟨hf.1, hf.2, hp.2 (T.setVm vm₁) hT hW₁⟩) with ⟨v, vm₁, ⟨U', l2, c2, s2⟩, hW₁, X', ⟨g', mk, t, L, e1, e2, hq, h1, hL, h2, h3⟩, st⟩ | ⟨q, vm₁, ⟨U', l2, c2, s2⟩, hW₁, X', ⟨g', mk, t, L, E, ce, e1, e2, hq, hce, hcv, hcl, h1, hL, h2, h3⟩, st⟩
  · dsimp only [Pt.U, Pt.locs, Pt.cells, Pt.slots] at X' e1 e2 h1 h2 h3 st
    subst h1; subst h2; subst h3
    exact Or.inl ⟨v, (T.setVm vm₁).calling g' mk As.toArray, t, U', L, hT, X', hL, e1, e2, hq, st⟩
  · dsimp only [Pt.U, Pt.locs, Pt.cells, Pt.slots] at X' e1 e2 h1 h2 h3 st hcl
    subst h1; subst h2; subst h3
    exact Or.inr ⟨q, (T.setVm vm₁).calling g' mk As.toArray, t, U', L, E, ce, hT, X', hL, e1, e2, hq, hce, hcv, vx_cls hW₁ hcl, st⟩
end Runs
section Rows
variable {p : Program} {l : Launch} {e : Env} {R : Room} {s : State} {m : MethodId} {args : Array Value} {below : List Frame} {meth : Method} {c : Code} {H : Heap} {locs : List Loc} {cells slots : Nat} {Q : State → Prop}
variable {mc ms : Nat} {free : Addr → Prop} {A0 A1 : Nat → Prop} {H0 : Heap} {a : Array Value} {pc : Nat} {ls : Array Slot} {st0 rest : List Value}
theorem vx_keep {st₀ t T' : State} {L : List Loc} (h0 : st₀.heap = H) (e1 : T'.heap = t.heap) (hS : va_S A0 H0 H locs) (hA : ∀ q, q < H.size → A1 q → A0 q) (hf : ∀ q, free q → A0 q) (hL : ∀ q ∈ L, free q.base) (hF : va_F A1 st₀ t) :
    H.size ≤ T'.heap.size ∧ (∀ q : Nat, q < H.size → ¬ A1 q → T'.heap[q]? = H[q]?) ∧ va_S A0 H0 T'.heap (locs ++ L) := by
  obtain ⟨hz, hk⟩ := hF
  rw [h0] at hz hk
  exact ⟨by rw [e1]; exact hz, fun q h1 h2 => by rw [e1]; exact hk q h1 h2,
    ⟨Nat.le_trans hS.1 (by rw [e1]; exact hz), fun q h1 h2 => by rw [e1, hk q (Nat.lt_of_lt_of_le h1 hS.1) (fun z => h2 (hA q (Nat.lt_of_lt_of_le h1 hS.1) z))]; exact hS.2.1 q h1 h2, fun q hq => by
      rcases List.mem_append.mp hq with h | h
      · exact hS.2.2 q h
      · exact hf _ (hL q h)⟩⟩
theorem vx_calli {S SX : Type} {post : Int32 → S → Prop} {px : SX → Prop} {B : S → State → Prop} {BX : String → SX → State → Prop} {AX : Nat → Prop} (hr : vx_Run p l e R s m args below meth c H locs cells slots mc ms (F0 m pc ls st0) rest (va_Qi post B A1 a) (vx_X px BX AX) free) (hS : va_S A0 H0 H locs) (hA : ∀ q, q < H.size → A1 q → A0 q) (hf : ∀ q, free q → A0 q) (hAX : ∀ q, q < H.size → AX q → A0 q)
    (kx : ∀ (E : String) (ce : Cell) (q9 : Addr) (u : SX) (t : State) (H1 : Heap) (locs1 : List Loc), t.heap = H1 → s.vm.Alike t.vm → px u → BX E u t → H.size ≤ H1.size → (∀ q : Nat, q < H.size → ¬ AX q → H1[q]? = H[q]?) → va_S A0 H0 H1 locs1 → H1[q9]? = some ce → ce.vm = .none → s.vm.findClass E = some ce.cls → vx_W p l e R s m args below meth c H1 locs1 (cells + mc) (slots + ms) Q (F0 m pc ls rest) q9)
    (kk : ∀ (r : Int32) (u : S) (t : State) (H1 : Heap) (locs1 : List Loc), t.heap = H1 → s.vm.Alike t.vm → post r u → B u t → H.size ≤ H1.size → (∀ q : Nat, q < H.size → ¬ A1 q → H1[q]? = H[q]?) → va_S A0 H0 H1 locs1 → W p l e R s m args below meth c H1 locs1 (cells + mc) (slots + ms) Q (F0 m (pc + 3) ls (.int r :: rest))) : W p l e R s m args below meth c H locs cells slots Q (F0 m pc ls st0) := by
  intro T hT X
  rcases hr T hT X with ⟨v, st₀, t, T', L, h0, X', hL, e1, e2, ⟨⟨r, u, hv, hp, hb⟩, hF⟩, st⟩ | ⟨q, st₀, t, T', L, E, ce, h0, X', hL, e1, e2, ⟨u, hp, hb, hF⟩, hce, hcv, hcl, st⟩
  · cases hv
    obtain ⟨k1, k2, k3⟩ := vx_keep h0 e1 hS hA hf hL hF
    obtain ⟨t2, a1, b1⟩ := kk r u t T'.heap (locs ++ L) e1.symm (by rw [← e2]; exact X'.warmed.alike) hp hb k1 k2 k3 T' rfl X'
    exact ⟨t2, st t2 a1, b1⟩
  · obtain ⟨k1, k2, k3⟩ := vx_keep h0 e1 hS hAX hf hL hF
    obtain ⟨t2, a1, b1⟩ := kx E ce q u t T'.heap (locs ++ L) e1.symm (by rw [← e2]; exact X'.warmed.alike) hp hb k1 k2 k3 (by rw [e1]; exact hce) hcv hcl T' rfl X'
    exact ⟨t2, st.trans a1, b1⟩
theorem vx_calll {S SX : Type} {post : Int64 → S → Prop} {px : SX → Prop} {B : S → State → Prop} {BX : String → SX → State → Prop} {AX : Nat → Prop} (hr : vx_Run p l e R s m args below meth c H locs cells slots mc ms (F0 m pc ls st0) rest (va_Ql post B A1 a) (vx_X px BX AX) free) (hS : va_S A0 H0 H locs) (hA : ∀ q, q < H.size → A1 q → A0 q) (hf : ∀ q, free q → A0 q) (hAX : ∀ q, q < H.size → AX q → A0 q)
    (kx : ∀ (E : String) (ce : Cell) (q9 : Addr) (u : SX) (t : State) (H1 : Heap) (locs1 : List Loc), t.heap = H1 → s.vm.Alike t.vm → px u → BX E u t → H.size ≤ H1.size → (∀ q : Nat, q < H.size → ¬ AX q → H1[q]? = H[q]?) → va_S A0 H0 H1 locs1 → H1[q9]? = some ce → ce.vm = .none → s.vm.findClass E = some ce.cls → vx_W p l e R s m args below meth c H1 locs1 (cells + mc) (slots + ms) Q (F0 m pc ls rest) q9)
    (kk : ∀ (r : Int64) (u : S) (t : State) (H1 : Heap) (locs1 : List Loc), t.heap = H1 → s.vm.Alike t.vm → post r u → B u t → H.size ≤ H1.size → (∀ q : Nat, q < H.size → ¬ A1 q → H1[q]? = H[q]?) → va_S A0 H0 H1 locs1 → W p l e R s m args below meth c H1 locs1 (cells + mc) (slots + ms) Q (F0 m (pc + 3) ls (.long r :: rest))) : W p l e R s m args below meth c H locs cells slots Q (F0 m pc ls st0) := by
  intro T hT X
  rcases hr T hT X with ⟨v, st₀, t, T', L, h0, X', hL, e1, e2, ⟨⟨r, u, hv, hp, hb⟩, hF⟩, st⟩ | ⟨q, st₀, t, T', L, E, ce, h0, X', hL, e1, e2, ⟨u, hp, hb, hF⟩, hce, hcv, hcl, st⟩
  · cases hv
    obtain ⟨k1, k2, k3⟩ := vx_keep h0 e1 hS hA hf hL hF
    obtain ⟨t2, a1, b1⟩ := kk r u t T'.heap (locs ++ L) e1.symm (by rw [← e2]; exact X'.warmed.alike) hp hb k1 k2 k3 T' rfl X'
    exact ⟨t2, st t2 a1, b1⟩
  · obtain ⟨k1, k2, k3⟩ := vx_keep h0 e1 hS hAX hf hL hF
    obtain ⟨t2, a1, b1⟩ := kx E ce q u t T'.heap (locs ++ L) e1.symm (by rw [← e2]; exact X'.warmed.alike) hp hb k1 k2 k3 (by rw [e1]; exact hce) hcv hcl T' rfl X'
    exact ⟨t2, st.trans a1, b1⟩
theorem vx_callf {S SX : Type} {post : UInt32 → S → Prop} {px : SX → Prop} {B : S → State → Prop} {BX : String → SX → State → Prop} {AX : Nat → Prop} (hr : vx_Run p l e R s m args below meth c H locs cells slots mc ms (F0 m pc ls st0) rest (va_Qf post B A1 a) (vx_X px BX AX) free) (hS : va_S A0 H0 H locs) (hA : ∀ q, q < H.size → A1 q → A0 q) (hf : ∀ q, free q → A0 q) (hAX : ∀ q, q < H.size → AX q → A0 q)
    (kx : ∀ (E : String) (ce : Cell) (q9 : Addr) (u : SX) (t : State) (H1 : Heap) (locs1 : List Loc), t.heap = H1 → s.vm.Alike t.vm → px u → BX E u t → H.size ≤ H1.size → (∀ q : Nat, q < H.size → ¬ AX q → H1[q]? = H[q]?) → va_S A0 H0 H1 locs1 → H1[q9]? = some ce → ce.vm = .none → s.vm.findClass E = some ce.cls → vx_W p l e R s m args below meth c H1 locs1 (cells + mc) (slots + ms) Q (F0 m pc ls rest) q9)
    (kk : ∀ (r : UInt32) (u : S) (t : State) (H1 : Heap) (locs1 : List Loc), t.heap = H1 → s.vm.Alike t.vm → post r u → B u t → H.size ≤ H1.size → (∀ q : Nat, q < H.size → ¬ A1 q → H1[q]? = H[q]?) → va_S A0 H0 H1 locs1 → W p l e R s m args below meth c H1 locs1 (cells + mc) (slots + ms) Q (F0 m (pc + 3) ls (.float r :: rest))) : W p l e R s m args below meth c H locs cells slots Q (F0 m pc ls st0) := by
  intro T hT X
  rcases hr T hT X with ⟨v, st₀, t, T', L, h0, X', hL, e1, e2, ⟨⟨r, u, hv, hp, hb⟩, hF⟩, st⟩ | ⟨q, st₀, t, T', L, E, ce, h0, X', hL, e1, e2, ⟨u, hp, hb, hF⟩, hce, hcv, hcl, st⟩
  · cases hv
    obtain ⟨k1, k2, k3⟩ := vx_keep h0 e1 hS hA hf hL hF
    obtain ⟨t2, a1, b1⟩ := kk r u t T'.heap (locs ++ L) e1.symm (by rw [← e2]; exact X'.warmed.alike) hp hb k1 k2 k3 T' rfl X'
    exact ⟨t2, st t2 a1, b1⟩
  · obtain ⟨k1, k2, k3⟩ := vx_keep h0 e1 hS hAX hf hL hF
    obtain ⟨t2, a1, b1⟩ := kx E ce q u t T'.heap (locs ++ L) e1.symm (by rw [← e2]; exact X'.warmed.alike) hp hb k1 k2 k3 (by rw [e1]; exact hce) hcv hcl T' rfl X'
    exact ⟨t2, st.trans a1, b1⟩
theorem vx_calld {S SX : Type} {post : UInt64 → S → Prop} {px : SX → Prop} {B : S → State → Prop} {BX : String → SX → State → Prop} {AX : Nat → Prop} (hr : vx_Run p l e R s m args below meth c H locs cells slots mc ms (F0 m pc ls st0) rest (va_Qd post B A1 a) (vx_X px BX AX) free) (hS : va_S A0 H0 H locs) (hA : ∀ q, q < H.size → A1 q → A0 q) (hf : ∀ q, free q → A0 q) (hAX : ∀ q, q < H.size → AX q → A0 q)
    (kx : ∀ (E : String) (ce : Cell) (q9 : Addr) (u : SX) (t : State) (H1 : Heap) (locs1 : List Loc), t.heap = H1 → s.vm.Alike t.vm → px u → BX E u t → H.size ≤ H1.size → (∀ q : Nat, q < H.size → ¬ AX q → H1[q]? = H[q]?) → va_S A0 H0 H1 locs1 → H1[q9]? = some ce → ce.vm = .none → s.vm.findClass E = some ce.cls → vx_W p l e R s m args below meth c H1 locs1 (cells + mc) (slots + ms) Q (F0 m pc ls rest) q9)
    (kk : ∀ (r : UInt64) (u : S) (t : State) (H1 : Heap) (locs1 : List Loc), t.heap = H1 → s.vm.Alike t.vm → post r u → B u t → H.size ≤ H1.size → (∀ q : Nat, q < H.size → ¬ A1 q → H1[q]? = H[q]?) → va_S A0 H0 H1 locs1 → W p l e R s m args below meth c H1 locs1 (cells + mc) (slots + ms) Q (F0 m (pc + 3) ls (.double r :: rest))) : W p l e R s m args below meth c H locs cells slots Q (F0 m pc ls st0) := by
  intro T hT X
  rcases hr T hT X with ⟨v, st₀, t, T', L, h0, X', hL, e1, e2, ⟨⟨r, u, hv, hp, hb⟩, hF⟩, st⟩ | ⟨q, st₀, t, T', L, E, ce, h0, X', hL, e1, e2, ⟨u, hp, hb, hF⟩, hce, hcv, hcl, st⟩
  · cases hv
    obtain ⟨k1, k2, k3⟩ := vx_keep h0 e1 hS hA hf hL hF
    obtain ⟨t2, a1, b1⟩ := kk r u t T'.heap (locs ++ L) e1.symm (by rw [← e2]; exact X'.warmed.alike) hp hb k1 k2 k3 T' rfl X'
    exact ⟨t2, st t2 a1, b1⟩
  · obtain ⟨k1, k2, k3⟩ := vx_keep h0 e1 hS hAX hf hL hF
    obtain ⟨t2, a1, b1⟩ := kx E ce q u t T'.heap (locs ++ L) e1.symm (by rw [← e2]; exact X'.warmed.alike) hp hb k1 k2 k3 (by rw [e1]; exact hce) hcv hcl T' rfl X'
    exact ⟨t2, st.trans a1, b1⟩
theorem vx_callv {S SX : Type} {post : S → Prop} {px : SX → Prop} {B : S → State → Prop} {BX : String → SX → State → Prop} {AX : Nat → Prop} (hr : vx_Run p l e R s m args below meth c H locs cells slots mc ms (F0 m pc ls st0) rest (va_Qv post B A1 a) (vx_X px BX AX) free) (hS : va_S A0 H0 H locs) (hA : ∀ q, q < H.size → A1 q → A0 q) (hf : ∀ q, free q → A0 q) (hAX : ∀ q, q < H.size → AX q → A0 q)
    (kx : ∀ (E : String) (ce : Cell) (q9 : Addr) (u : SX) (t : State) (H1 : Heap) (locs1 : List Loc), t.heap = H1 → s.vm.Alike t.vm → px u → BX E u t → H.size ≤ H1.size → (∀ q : Nat, q < H.size → ¬ AX q → H1[q]? = H[q]?) → va_S A0 H0 H1 locs1 → H1[q9]? = some ce → ce.vm = .none → s.vm.findClass E = some ce.cls → vx_W p l e R s m args below meth c H1 locs1 (cells + mc) (slots + ms) Q (F0 m pc ls rest) q9)
    (kk : ∀ (u : S) (t : State) (H1 : Heap) (locs1 : List Loc), t.heap = H1 → s.vm.Alike t.vm → post u → B u t → H.size ≤ H1.size → (∀ q : Nat, q < H.size → ¬ A1 q → H1[q]? = H[q]?) → va_S A0 H0 H1 locs1 → W p l e R s m args below meth c H1 locs1 (cells + mc) (slots + ms) Q (F0 m (pc + 3) ls (rest))) : W p l e R s m args below meth c H locs cells slots Q (F0 m pc ls st0) := by
  intro T hT X
  rcases hr T hT X with ⟨v, st₀, t, T', L, h0, X', hL, e1, e2, ⟨⟨u, hv, hp, hb⟩, hF⟩, st⟩ | ⟨q, st₀, t, T', L, E, ce, h0, X', hL, e1, e2, ⟨u, hp, hb, hF⟩, hce, hcv, hcl, st⟩
  · cases hv
    obtain ⟨k1, k2, k3⟩ := vx_keep h0 e1 hS hA hf hL hF
    obtain ⟨t2, a1, b1⟩ := kk u t T'.heap (locs ++ L) e1.symm (by rw [← e2]; exact X'.warmed.alike) hp hb k1 k2 k3 T' rfl X'
    exact ⟨t2, st t2 a1, b1⟩
  · obtain ⟨k1, k2, k3⟩ := vx_keep h0 e1 hS hAX hf hL hF
    obtain ⟨t2, a1, b1⟩ := kx E ce q u t T'.heap (locs ++ L) e1.symm (by rw [← e2]; exact X'.warmed.alike) hp hb k1 k2 k3 (by rw [e1]; exact hce) hcv hcl T' rfl X'
    exact ⟨t2, st.trans a1, b1⟩
/-- caught by the row x of this method's table; the rows ahead don't take it -/
theorem vx_catch {own name : String} {E : String} {ce : Cell} {q : Addr} (hown : s.vm.findClass own = some m.cls) (pre : List ExceptionTableEntry) (x : ExceptionTableEntry) (suf : List ExceptionTableEntry) (hsplit : c.exceptionTable.toList = pre ++ x :: suf)
    (hpass : ∀ z ∈ pre, covers z pc = false ∨ (z.catchType ≠ 0 ∧ ∃ nm : String, (Cond.classLink own z.catchType nm).before args s = true ∧ va_Nc E nm s)) (hx : covers x pc = true) (h0 : x.catchType ≠ 0)
    (hlink : (Cond.classLink own x.catchType name).before args s = true) (hcast : (Cond.castable E name).before args s = true) (hcell : H[q]? = some ce) (hv : ce.vm = .none) (hcl : s.vm.findClass E = some ce.cls)
    (kk : W p l e R s m args below meth c H locs cells slots Q (F0 m x.handlerPc ls [.ref q])) : vx_W p l e R s m args below meth c H locs cells slots Q (F0 m pc ls rest) q := by
  intro T hT X
  have hpl : e.platform.magicAccessors = ({} : Platform).magicAccessors := by rw [X.admits.platform]
  obtain ⟨c3, c4, hc3, hc4, hasg⟩ := Cond.castable_spec hcast
  cases Option.some.inj (hc3.symm.trans hcl)
  obtain ⟨c5, hc5, hcl5⟩ := Cond.classLink_spec hown hlink e.platform hpl
  cases Option.some.inj (hc4.symm.trans hc5)
  obtain ⟨vm', X', st⟩ := X.thenCaughtThrough q (g := F0 m pc ls rest) rfl (Steps.refl _) (by rw [hT]; exact hcell) (by rw [hv]; rfl) (by obtain ⟨k9, h9, -⟩ := Vm.findClass_spec hcl; exact ⟨k9, h9⟩) pre x suf hsplit
    (fun z hz => by
      rcases hpass z hz with h | ⟨hz0, nm, hl1, hn1⟩
      · exact Or.inl h
      · obtain ⟨c6, hc6, hcl6⟩ := Cond.classLink_spec hown hl1 e.platform hpl
        obtain ⟨a8, b8, h1, h2, h3⟩ := hn1
        cases Option.some.inj (h1.symm.trans hcl)
        cases Option.some.inj (h2.symm.trans hc6)
        exact Or.inr ⟨hz0, _, hcl6, h3⟩) hx (Or.inr ⟨h0, c4, hcl5, hasg⟩)
  obtain ⟨t, a1, b1⟩ := kk (T.setVm vm') hT X'
  exact ⟨t, st.trans a1, b1⟩
end Rows
section Ends
variable {p : Program} {l : Launch} {e : Env} {R : Room} {s : State} {m : MethodId} {args : Array Value} {below : List Frame} {meth : Method} {c : Code} {H : Heap} {locs : List Loc} {cells slots : Nat} {Q : State → Prop}
variable {mc ms : Nat} {free : Addr → Prop} {A0 A1 : Nat → Prop} {H0 : Heap} {a : Array Value} {ls : Array Slot} {st0 rest : List Value}
variable {Qc : Array Value → State → Outcome → State → Prop} {XC : String → State → State → Prop}
/-- what a body that may throw owes at its end -/
def vx_MQ (below : List Frame) (Qc : Array Value → State → Outcome → State → Prop) (XC : String → State → State → Prop) (a : Array Value) (s : State) (mc ms : Nat) (free : Addr → Prop) : State → Prop := fun t =>
  ∃ o, t.status = .running ∧ Ended t below o ∧ vx_Q Qc XC mc ms free a s o t
theorem vx_ret {g : JFrame} {mc ms : Nat} (k : W p l e R s m args below meth c H locs cells slots (MQ below Qc args s mc ms free) g) : W p l e R s m args below meth c H locs cells slots (vx_MQ below Qc XC args s mc ms free) g := by
  intro T hT X
  obtain ⟨t, a1, o, b1, b2, b3, b4⟩ := k T hT X
  exact ⟨t, a1, o, b1, b2, Or.inl ⟨b3, b4⟩⟩
/-- not caught here: it goes on to the caller -/
theorem vx_widen {g : JFrame} {q : Addr} {k n : Nat} (h1 : cells ≤ k) (h2 : slots ≤ n) (kk : vx_W p l e R s m args below meth c H locs k n Q g q) : vx_W p l e R s m args below meth c H locs cells slots Q g q := fun T hT X => kk T hT (stand_widen X h1 h2)
theorem vx_out {pc : Nat} {E : String} {ce : Cell} {q : Addr} {mc ms : Nat} (hout : ∀ x ∈ c.exceptionTable.toList, covers x pc = false) (hlocks : meth.locks = false) (hcell : H[q]? = some ce) (hv : ce.vm = .none) (hcl : s.vm.findClass E = some ce.cls)
    (hx : ∀ t : State, t.heap = H → s.vm.Alike t.vm → XC E s t) (hf : ∀ z ∈ locs, free z.base) (hc : cells ≤ mc) (hs : slots ≤ ms) :
    vx_W p l e R s m args below meth c H locs cells slots (vx_MQ below Qc XC args s mc ms free) (F0 m pc ls rest) q := by
  intro T hT X
  obtain ⟨st1, hrun, hend, hW, hsm⟩ := X.leaveThrown q (g := F0 m pc ls rest) rfl rfl rfl hout hlocks
  have hcell9 : (T.setFrames (.throwing q :: below)).heap[q]? = some ce := by
    show T.heap[q]? = some ce
    rw [hT]; exact hcell
  exact ⟨_, st1, .threw q, hrun, hend, Or.inr ⟨q, rfl, E, ce, locs, hx _ hT hW.alike, hcell9, hv, hcl, hW, hsm.mono hc hs, hf⟩⟩
theorem vx_frame {U : State} {k n : Nat} (h : s.sameButNew ({ U with vm := s.vm } : State) locs k n) : s.heap.size ≤ U.heap.size ∧ ∀ q : Nat, q < s.heap.size → (∀ z ∈ locs, z.base ≠ q) → U.heap[q]? = s.heap[q]? := by
  obtain ⟨-, h2, -, -, -, h6⟩ := h
  refine ⟨h2, fun q hq hz => ?_⟩
  obtain ⟨c9, e1, e2, e3, e4⟩ := h6 q _ (Array.getElem?_eq_getElem hq)
  have hs : c9.slots = (s.heap[q]).slots := Array.ext_getElem? fun i => e4 i fun hm => hz _ hm rfl
  have h9 : c9 = s.heap[q] := by
    rw [hs] at e2
    exact e2
  have e5 : U.heap[q]? = some c9 := e1
  rw [e5, h9, Array.getElem?_eq_getElem hq]
/-- the words of a throw but the four that speak of the heap -/
def vx_no (w : Cond) : Bool := decide (w ≠ .isRef (.static Bundle.tN "UNASSIGNED_STACK" Bundle.steD)) && decide (w ≠ .isRef (.static Bundle.tN "SUPPRESSED_SENTINEL" Bundle.listD)) && decide (w ≠ .laysStatic Bundle.tN "UNASSIGNED_STACK" Bundle.steD) && decide (w ≠ .laysStatic Bundle.tN "SUPPRESSED_SENTINEL" Bundle.listD)
def vx_at0 (own : String) (ic : Nat) (X : String) (names : List String) : List Cond := (Bundle.ownAtoms0 own ic X names).filter vx_no
def vx_atS (own : String) (ic : Nat) (X : String) (names : List String) : List Cond := (Bundle.ownAtoms own ic X names).filter vx_no
/-- a word that the tables alone decide, or a good one -/
def vx_ot (w : Cond) : Bool := w.onTables || goodWord w
theorem vx_ot_at {args a' : Array Value} {s U : State} {w : Cond} (hW : s.WarmedH U.vm) (hvm : s.vm = U.vm) (hg : vx_ot w = true) (h : w.before args s = true) : w.before a' U = true := by
  simp only [vx_ot, Bool.or_eq_true] at hg
  rcases hg with hg | hg
  · exact va_tabs hg hvm h
  · exact word_at hW (good_of_word hg) h
/-- a list's words: the good ones out of the method's own list, the others by premises of their own -/
theorem vx_hat {args : Array Value} {s : State} {L B : List Cond} (h1 : ∀ w ∈ L.filter goodWord, w.before args s = true) (h2 : ∀ w ∈ L.filter (fun w => !goodWord w), w ∈ B) (h3 : ∀ w ∈ B, w.before args s = true) : ∀ w ∈ L, w.before args s = true := by
  intro w hw
  by_cases g : goodWord w = true
  · exact h1 w (List.mem_filter.mpr ⟨hw, g⟩)
  · refine h3 w (h2 w (List.mem_filter.mpr ⟨hw, ?_⟩))
    show (!goodWord w) = true
    cases hgw : goodWord w
    · rfl
    · exact absurd hgw g
theorem vx_c {args : Array Value} {s : State} {w : Cond} {B : List Cond} (h : w.before args s = true) (t : ∀ w ∈ B, w.before args s = true) : ∀ w' ∈ w :: B, w'.before args s = true := fun w' h' => (List.mem_cons.mp h').elim (fun e => by rw [e]; exact h) (t w')
theorem vx_n {args : Array Value} {s : State} : ∀ w ∈ ([] : List Cond), w.before args s = true := fun _ h => nomatch h
theorem vx_own {args : Array Value} {s : State} {L : List Cond} (h1 : ∀ w ∈ L.filter vx_no, w.before args s = true)
    (hU : (Cond.isRef (.static Bundle.tN "UNASSIGNED_STACK" Bundle.steD)).before args s = true) (hN : (Cond.isRef (.static Bundle.tN "SUPPRESSED_SENTINEL" Bundle.listD)).before args s = true)
    (lU : (Cond.laysStatic Bundle.tN "UNASSIGNED_STACK" Bundle.steD).before args s = true) (lN : (Cond.laysStatic Bundle.tN "SUPPRESSED_SENTINEL" Bundle.listD).before args s = true) : ∀ w ∈ L, w.before args s = true := by
  intro w hw
  by_cases e1 : w = .isRef (.static Bundle.tN "UNASSIGNED_STACK" Bundle.steD)
  · rw [e1]; exact hU
  · by_cases e2 : w = .isRef (.static Bundle.tN "SUPPRESSED_SENTINEL" Bundle.listD)
    · rw [e2]; exact hN
    · by_cases e3 : w = .laysStatic Bundle.tN "UNASSIGNED_STACK" Bundle.steD
      · rw [e3]; exact lU
      · by_cases e4 : w = .laysStatic Bundle.tN "SUPPRESSED_SENTINEL" Bundle.listD
        · rw [e4]; exact lN
        · exact h1 w (List.mem_filter.mpr ⟨hw, by unfold vx_no; rw [decide_eq_true e1, decide_eq_true e2, decide_eq_true e3, decide_eq_true e4]; rfl⟩)
/-- where a static field lies, its class's statics cell in H -/
def vx_L (C n d : String) (A : Nat → Prop) (U : State) (H : Heap) : Prop := ∃ (c : ClassId) (k : Class) (i : Nat) (f : Field) (a : Nat) (cell : Cell), U.vm.findClass C = some c ∧ U.fieldFound? C n d = some (c, k, i, f) ∧ f.isStatic = true ∧ k.statics = some a ∧ H[a]? = some cell ∧ cell.vm.isStatics = true ∧ cell.cls = c ∧ f.slot < cell.slots.size ∧ k.staticTypes[f.slot]? = some f.type ∧ ¬ A a
theorem vx_L.moved {C n d : String} {A : Nat → Prop} {u U : State} {H : Heap} (hvm : u.vm.Alike U.vm) (h : vx_L C n d A u H) : vx_L C n d A U H := by
  obtain ⟨c, k, i, f, a, cell, h1, h2, h3, h4, h5, h6, h7, h8, h9, h10⟩ := h
  obtain ⟨k', hi', he⟩ := State.fieldFound?_setVm hvm h2
  exact ⟨c, k', i, f, a, cell, by rw [hvm.findClass]; exact h1, hi', h3, by rw [he]; exact h4, h5, h6, h7, h8, by rw [he]; exact h9, h10⟩
theorem vx_L.kept {C n d : String} {A : Nat → Prop} {U : State} {H H1 : Heap} (h : vx_L C n d A U H) (hq : ∀ a : Nat, a < H.size → ¬ A a → H1[a]? = H[a]?) : vx_L C n d A U H1 := by
  obtain ⟨c, k, i, f, a, cell, h1, h2, h3, h4, h5, h6, h7, h8, h9, h10⟩ := h
  exact ⟨c, k, i, f, a, cell, h1, h2, h3, h4, by rw [hq a (Array.getElem?_eq_some_iff.mp h5).1 h10]; exact h5, h6, h7, h8, h9, h10⟩
theorem vx_L.narrow {C n d : String} {A B : Nat → Prop} {U : State} {H : Heap} (h : vx_L C n d A U H) (hAB : ∀ q, B q → A q) : vx_L C n d B U H := by
  obtain ⟨c, k, i, f, a, cell, h1, h2, h3, h4, h5, h6, h7, h8, h9, h10⟩ := h
  exact ⟨c, k, i, f, a, cell, h1, h2, h3, h4, h5, h6, h7, h8, h9, fun z => h10 (hAB _ z)⟩
theorem vx_L.word {C n d : String} {A : Nat → Prop} {s : State} {args : Array Value} (h : vx_L C n d A s s.heap) : (Cond.laysStatic C n d).before args s = true := by
  obtain ⟨c, k, i, f, a, cell, h1, h2, h3, h4, h5, h6, h7, h8, h9, -⟩ := h
  show (Cond.laysStatic C n d).holds args s none s [] = true
  exact Cond.laysStatic_of h1 h2 h3 h4 h5 h6 h7 h8 h9
/-- .. and what it holds: null or some reference -/
def vx_Zq (C n d : String) (A : Nat → Prop) (U : State) (H : Heap) : Prop := va_Zq C n d A U H ∧ vx_L C n d A U H
theorem vx_Zq.moved {C n d : String} {A : Nat → Prop} {u U : State} {H : Heap} (hvm : u.vm.Alike U.vm) (h : vx_Zq C n d A u H) : vx_Zq C n d A U H := ⟨va_Zq.moved hvm h.1, vx_L.moved hvm h.2⟩
theorem vx_Zq.kept {C n d : String} {A : Nat → Prop} {U : State} {H H1 : Heap} (h : vx_Zq C n d A U H) (hq : ∀ a : Nat, a < H.size → ¬ A a → H1[a]? = H[a]?) : vx_Zq C n d A U H1 := ⟨va_Zq.kept h.1 hq, vx_L.kept h.2 hq⟩
theorem vx_Zq.narrow {C n d : String} {A B : Nat → Prop} {U : State} {H : Heap} (h : vx_Zq C n d A U H) (hAB : ∀ q, B q → A q) : vx_Zq C n d B U H := ⟨va_Zq.narrow h.1 hAB, vx_L.narrow h.2 hAB⟩
theorem vx_Zqof {args : Array Value} {s : State} {C n d : String} {A : Nat → Prop} (hl : (Cond.laysStatic C n d).before args s = true) (hini : (Cond.initialized C).before args s = true) (h : (Cond.isRef (.static C n d)).before args s = true) (hA : ∀ a : Nat, a < s.heap.size → ¬ A a) : vx_Zq C n d A s s.heap := by
  refine ⟨va_Zqof hl hini h hA, ?_⟩
  obtain ⟨c, k, i, f, a, cell, h1, h2, h3, h4, h5, h6, h7, h8, h9⟩ := Cond.laysStatic_spec hl
  exact ⟨c, k, i, f, a, cell, h1, h2, h3, h4, h5, h6, h7, h8, h9, hA a (Array.getElem?_eq_some_iff.mp h5).1⟩
theorem vx_isRef {C n d : String} {v : Value} {A : Nat → Prop} {s : State} {args : Array Value} (h : va_Z C n d v A s s.heap) (hv : v.isRef = true) : (Cond.isRef (.static C n d)).before args s = true := by
  obtain ⟨cf, kf, fi, f, a, cell, h1, h2, h3, h4, h5, h6, h7, -⟩ := h
  have he : (Term.static C n d).eval args s none [] s = some v := by
    simp [Term.eval, State.fieldNamed?, h1, h2, h4, h5, h6, h7]
  simp only [Cond.before, Cond.holds, Cond.value, he]
  cases v <;> simp_all [Value.isRef]
theorem vx_isRefq {C n d : String} {A : Nat → Prop} {s : State} {args : Array Value} (h : va_Zq C n d A s s.heap) : (Cond.isRef (.static C n d)).before args s = true := by
  rcases h with h | ⟨t, h⟩
  · exact vx_isRef h rfl
  · exact vx_isRef h rfl
/-- the same frame, seen from here: as if the method were called anew in this heap -/
theorem vx_rebase {T : State} (X : Stand p l e R s m args below meth c T locs cells slots) {R' : Room} (hf : R'.frames ≤ R.frames) (hl : R'.locals ≤ R.locals) (hc : cells + R'.cells ≤ R.cells) (hs : slots + R'.slots ≤ R.slots) :
    Stand p l e R' ((T.setVm s.vm).setFrames (.invoking m args :: below)) m args below meth c T [] 0 0 := by
  have htop : (T.setVm s.vm).topJava?.isSome := X.here.top
  have hF : ((T.setVm s.vm).setFrames (.invoking m args :: below)).frames = .invoking m args :: below := State.frames_setFrames _ (State.cur_lt_of_top htop)
  obtain ⟨g₀, hg0⟩ := Option.isSome_iff_exists.mp htop
  obtain ⟨r, hr⟩ := State.topJava?_eq_some.mp hg0
  have hl9 : e.platform.stackLimits (T.setVm s.vm).me = e.platform.stackLimits s.me := X.limits
  have hb9 : (T.setVm s.vm).me.stackBytes = s.me.stackBytes := X.bytes
  refine ⟨X.admits, X.cas, X.clock, hF, ?_, X.hears, X.method, X.code, X.here, X.tail, X.warmed, ?_, ?_, ?_⟩
  · have h := X.room
    have hU : ((T.setVm s.vm).setFrames (.invoking m args :: below)).localsInUse = s.localsInUse := by
      rw [State.localsInUse_invoking hF (meth := meth) (c := c) X.method X.code, State.localsInUse_invoking X.frames X.method X.code]
    simp only [State.hasRoom, Bool.and_eq_true, decide_eq_true_eq] at h ⊢
    obtain ⟨⟨⟨⟨h1, h2, h3, h4, h5, h6⟩, h7⟩, h8⟩, h9⟩ := h
    rw [X.frames, List.length_cons] at h2 h3
    have q1 := X.heapSize
    have q2 := X.used
    simp only [hF, hU, List.length_cons, State.stackLimits_setFrames, State.stackBytes_setFrames, hl9, hb9]
    refine ⟨⟨⟨⟨by omega, by omega, by omega, by omega, by omega, h6⟩, ?_⟩, ?_⟩, X.book⟩
    · show T.heap.size + R'.cells ≤ e.platform.maxCells
      omega
    · show T.slotsUsed + R'.slots ≤ e.platform.maxSlots
      omega
  · rw [State.stackLimits_setFrames]; rfl
  · rw [State.stackBytes_setFrames]; rfl
  · refine ⟨?_, Nat.le_refl _, Nat.le_refl _, ?_, ?_, fun a c9 h9 => ⟨c9, h9, rfl, rfl, fun _ _ => rfl⟩⟩
    · obtain ⟨t, ht, -⟩ := State.frames_cons hr
      show T.setVm s.vm = { ((T.setVm s.vm).setFrames (.invoking m args :: below)).setFrames (T.setVm s.vm).frames with heap := T.heap, slotsUsed := T.slotsUsed }
      rw [State.setFrames_setFrames, State.setFrames_self ht]
      rfl
    · show T.slotsUsed = T.slotsUsed + ((T.heap.toList.drop T.heap.size).map (·.slots.size)).sum
      rw [List.drop_eq_nil_of_le (Nat.le_of_eq Array.length_toList)]
      rfl
    · show ((T.heap.toList.drop T.heap.size).map (·.slots.size)).sum ≤ 0
      rw [List.drop_eq_nil_of_le (Nat.le_of_eq Array.length_toList)]
      exact Nat.le_refl _
/-- 'throw new E()': new; dup; invokespecial; athrow -/
theorem vx_throw0 {cc : ByteArray} {pc : Nat} (hexec : p.tables.exec = Jvm.exec) (hb : c.code = cc) (hl : l.stackTraces = false) {own cls : String} {names : List String} {ik ic mc ms : Nat} {A : Nat → Prop}
    (hown : s.vm.findClass own = some m.cls) (hcls : Bundle.fit cls = true) (hnames : ∀ n ∈ names, Bundle.fit n = true)
    (hk : (Cond.classLink own ik cls).before args s = true) (hini : (Cond.initialized cls).before args s = true) (hat : ∀ w ∈ vx_at0 own ic cls names, w.before args s = true)
    (hgood : ∀ w ∈ Cond.classLink own ik cls :: Cond.initialized cls :: vx_at0 own ic cls names, vx_ot w = true)
    (hU : vx_Zq Bundle.tN "UNASSIGNED_STACK" Bundle.steD A s s.heap) (hN : vx_Zq Bundle.tN "SUPPRESSED_SENTINEL" Bundle.listD A s s.heap) (hS : va_S A s.heap H locs) (hsize : ls.size = c.maxLocals)
    (d0 : decode cc pc = .ok (.new ik, 3)) (d3 : decode cc (pc + 3) = .ok (.dup, 1)) (d4 : decode cc (pc + 4) = .ok (.invokespecial ic, 3)) (d7 : decode cc (pc + 7) = .ok (.athrow, 1))
    (hout : ∀ x ∈ c.exceptionTable.toList, covers x (pc + 7) = false)
    (hRframes : names.length + 3 < R.frames) (hRlocals : (rest.map fun v => v.category).sum + (13 * (names.length + 1) + 42) ≤ R.locals) (hRcells : cells + 1 ≤ R.cells) (hRslots : slots + 6 ≤ R.slots) (hlocks : meth.locks = false)
    (hx : ∀ t : State, s.vm.Alike t.vm → H.size ≤ t.heap.size → (∀ q : Nat, q < H.size → t.heap[q]? = H[q]?) → XC cls s t)
    (hf : ∀ z ∈ locs, free z.base) (hc : cells + 1 ≤ mc) (hs : slots + 6 ≤ ms) :
    W p l e R s m args below meth c H locs cells slots (vx_MQ below Qc XC args s mc ms free) (F0 m pc ls rest) := by
  intro T hT X
  have htr : e.platform.stackTraces = false := (show e.platform.stackTraces = l.stackTraces by rw [X.admits.platform]).trans hl
  have Y := vx_rebase X (R' := { frames := R.frames, locals := R.locals, cells := 1, slots := 6 }) (Nat.le_refl _) (Nat.le_refl _) hRcells hRslots
  obtain ⟨s', hA⟩ : ∃ z, z = (T.setVm s.vm).setFrames (.invoking m args :: below) := ⟨_, rfl⟩
  rw [← hA] at Y
  have hvm : s'.vm = s.vm := by rw [hA]; rfl
  have hhp : s'.heap = H := by rw [hA]; exact hT
  have hW0 : s.WarmedH s'.vm := by rw [hvm]; exact State.WarmedH.refl s
  have hat' : ∀ w ∈ vx_at0 own ic cls names, w.before args s' = true := fun w hw => vx_ot_at hW0 hvm.symm (hgood w (List.mem_cons_of_mem _ (List.mem_cons_of_mem _ hw))) (hat w hw)
  have hk' : (Cond.classLink own ik cls).before args s' = true := vx_ot_at hW0 hvm.symm (hgood _ List.mem_cons_self) hk
  have hini' : (Cond.initialized cls).before args s' = true := vx_ot_at hW0 hvm.symm (hgood _ (List.mem_cons_of_mem _ List.mem_cons_self)) hini
  have hU' : vx_Zq Bundle.tN "UNASSIGNED_STACK" Bundle.steD A s' s'.heap := by rw [hhp]; exact vx_Zq.moved hW0.alike (hU.kept hS.2.1)
  have hN' : vx_Zq Bundle.tN "SUPPRESSED_SENTINEL" Bundle.listD A s' s'.heap := by rw [hhp]; exact vx_Zq.moved hW0.alike (hN.kept hS.2.1)
  have h : ∀ w ∈ Bundle.ownAtoms0 own ic cls names, w.before args s' = true := vx_own hat' (vx_isRefq hU'.1) (vx_isRefq hN'.1) hU'.2.word hN'.2.word
  have hown' : s'.vm.findClass own = some m.cls := by rw [hvm]; exact hown
  have hins : (Cond.instantiable cls 6).before args s' = true := h _ (by simp [Bundle.ownAtoms0])
  obtain ⟨vm₁, cX, kX, hfX, hkX, -, -, X₁, st1⟩ := Y.newCold hexec (own := own) (C := cls) (index := ik) (n := 6) hown' hk' hins hini'
    (g := F0 m pc ls rest) rfl (by rw [hb]; exact d0) (Nat.le_refl _) (Nat.le_refl _)
  generalize hT1 : (T.setVm vm₁).pushCell { cls := cX, slots := kX.instanceTypes.map defaultValue, vm := .none } = T1 at X₁ st1
  have hcat : (Value.ref T.heap.size).category = 1 := rfl
  have hcellA : T1.heap[T.heap.size]? = some (freshCell cX kX) := by rw [← hT1]; exact State.heap_pushCell_size _ _
  have d3' : decode c.code (pc + 3) = .ok (.dup, 1) := by rw [hb]; exact d3
  obtain ⟨U, hsteps, hrun, hend, hW, hsame, ce, hce, hO⟩ := X₁.ctorThrow0 hexec htr (own := own) (cls := cls) (names := names) (ic := ic) hown' hcls hnames h (fun x hx => nomatch hx) hfX hkX hcellA (by rw [hhp, hT]; exact Nat.le_refl _)
    (g := { method := m, pc := pc + 4, locals := ls, stack := .ref T.heap.size :: .ref T.heap.size :: rest, locked := none }) rfl hsize rfl rfl (rest := rest) rfl
    (by rw [hb]; exact d4) (by rw [hb]; exact d7) hout hRframes (by simp only [List.map_cons, List.sum_cons, hcat]; omega) hlocks
  obtain ⟨f1, f2⟩ := vx_frame hsame
  rw [hhp] at f1 f2
  have hWs : s.WarmedH U.vm := State.WarmedH.trans hW0 hW
  have hcl : s.vm.findClass cls = some ce.cls := by
    have h9 := hO.cls
    rw [hvm] at h9
    exact h9
  have hall : s.sameButNew ({ U with vm := s.vm } : State) locs mc ms := by
    subst hA
    obtain ⟨e1, e2⟩ := hsame
    rw [State.setFrames_setFrames] at e1
    have h2 : (T.setVm s.vm).sameButNew ({ U with vm := s.vm } : State) [] (0 + 1) (0 + 6) := ⟨e1, e2⟩
    have h3 := X.same.trans h2
    rw [List.append_nil] at h3
    exact h3.mono hc hs
  refine ⟨U, ?_, .threw T.heap.size, hrun, hend, Or.inr ⟨T.heap.size, rfl, cls, ce, locs, hx U hWs.alike f1 (fun q hq => f2 q hq (fun z hz => nomatch hz)), hce, hO.vm, hcl, hWs, hall, hf⟩⟩
  refine st1 _ ?_
  show Steps p.tables e below (T1.setTop { method := m, pc := pc + 3, locals := ls, stack := .ref T.heap.size :: rest, locked := none }) _
  jvm_step X₁.here [X₁.here.top, hexec, d3', Value.category]
  exact hsteps
/-- 'throw new E("text")': new; dup; ldc; invokespecial; athrow -/
theorem vx_throwS {cc : ByteArray} {pc : Nat} (hexec : p.tables.exec = Jvm.exec) (hb : c.code = cc) (hl : l.stackTraces = false) {own cls text : String} {names : List String} {ik is ic mc ms sa : Nat} {A : Nat → Prop}
    (hown : s.vm.findClass own = some m.cls) (hcls : Bundle.fit cls = true) (hnames : ∀ n ∈ names, Bundle.fit n = true)
    (hk : (Cond.classLink own ik cls).before args s = true) (hini : (Cond.initialized cls).before args s = true) (hstr : vk_R own is text sa s) (hat : ∀ w ∈ vx_atS own ic cls names, w.before args s = true)
    (hgood : ∀ w ∈ Cond.classLink own ik cls :: Cond.initialized cls :: vx_atS own ic cls names, vx_ot w = true)
    (hU : vx_Zq Bundle.tN "UNASSIGNED_STACK" Bundle.steD A s s.heap) (hN : vx_Zq Bundle.tN "SUPPRESSED_SENTINEL" Bundle.listD A s s.heap) (hS : va_S A s.heap H locs) (hsize : ls.size = c.maxLocals)
    (d0 : decode cc pc = .ok (.new ik, 3)) (d3 : decode cc (pc + 3) = .ok (.dup, 1)) (d4 : decode cc (pc + 4) = .ok (.ldc is, 2)) (d6 : decode cc (pc + 6) = .ok (.invokespecial ic, 3)) (d9 : decode cc (pc + 9) = .ok (.athrow, 1))
    (hout : ∀ x ∈ c.exceptionTable.toList, covers x (pc + 9) = false)
    (hRframes : names.length + 3 < R.frames) (hRlocals : (rest.map fun v => v.category).sum + (13 * (names.length + 1) + 43) ≤ R.locals) (hRcells : cells + 1 ≤ R.cells) (hRslots : slots + 6 ≤ R.slots) (hlocks : meth.locks = false)
    (hx : ∀ t : State, s.vm.Alike t.vm → H.size ≤ t.heap.size → (∀ q : Nat, q < H.size → t.heap[q]? = H[q]?) → XC cls s t)
    (hf : ∀ z ∈ locs, free z.base) (hc : cells + 1 ≤ mc) (hs : slots + 6 ≤ ms) :
    W p l e R s m args below meth c H locs cells slots (vx_MQ below Qc XC args s mc ms free) (F0 m pc ls rest) := by
  intro T hT X
  have htr : e.platform.stackTraces = false := (show e.platform.stackTraces = l.stackTraces by rw [X.admits.platform]).trans hl
  have Y := vx_rebase X (R' := { frames := R.frames, locals := R.locals, cells := 1, slots := 6 }) (Nat.le_refl _) (Nat.le_refl _) hRcells hRslots
  obtain ⟨s', hA⟩ : ∃ z, z = (T.setVm s.vm).setFrames (.invoking m args :: below) := ⟨_, rfl⟩
  rw [← hA] at Y
  have hvm : s'.vm = s.vm := by rw [hA]; rfl
  have hhp : s'.heap = H := by rw [hA]; exact hT
  have hW0 : s.WarmedH s'.vm := by rw [hvm]; exact State.WarmedH.refl s
  have hat' : ∀ w ∈ vx_atS own ic cls names, w.before args s' = true := fun w hw => vx_ot_at hW0 hvm.symm (hgood w (List.mem_cons_of_mem _ (List.mem_cons_of_mem _ hw))) (hat w hw)
  have hk' : (Cond.classLink own ik cls).before args s' = true := vx_ot_at hW0 hvm.symm (hgood _ List.mem_cons_self) hk
  have hini' : (Cond.initialized cls).before args s' = true := vx_ot_at hW0 hvm.symm (hgood _ (List.mem_cons_of_mem _ List.mem_cons_self)) hini
  have hU' : vx_Zq Bundle.tN "UNASSIGNED_STACK" Bundle.steD A s' s'.heap := by rw [hhp]; exact vx_Zq.moved hW0.alike (hU.kept hS.2.1)
  have hN' : vx_Zq Bundle.tN "SUPPRESSED_SENTINEL" Bundle.listD A s' s'.heap := by rw [hhp]; exact vx_Zq.moved hW0.alike (hN.kept hS.2.1)
  have h : ∀ w ∈ Bundle.ownAtoms own ic cls names, w.before args s' = true := vx_own hat' (vx_isRefq hU'.1) (vx_isRefq hN'.1) hU'.2.word hN'.2.word
  have hown' : s'.vm.findClass own = some m.cls := by rw [hvm]; exact hown
  have hins : (Cond.instantiable cls 6).before args s' = true := h _ (by simp [Bundle.ownAtoms])
  obtain ⟨vm₁, cX, kX, hfX, hkX, -, -, X₁, st1⟩ := Y.newCold hexec (own := own) (C := cls) (index := ik) (n := 6) hown' hk' hins hini'
    (g := F0 m pc ls rest) rfl (by rw [hb]; exact d0) (Nat.le_refl _) (Nat.le_refl _)
  generalize hT1 : (T.setVm vm₁).pushCell { cls := cX, slots := kX.instanceTypes.map defaultValue, vm := .none } = T1 at X₁ st1
  have hcat : (Value.ref T.heap.size).category = 1 := rfl
  have hcellA : T1.heap[T.heap.size]? = some (freshCell cX kX) := by rw [← hT1]; exact State.heap_pushCell_size _ _
  have d3' : decode c.code (pc + 3) = .ok (.dup, 1) := by rw [hb]; exact d3
  have d4' : decode c.code (pc + 4) = .ok (.ldc is, 2) := by rw [hb]; exact d4
  have hstr' : vk_R own is text sa s' := vk_R.warm hW0 hstr
  obtain ⟨U, hsteps, hrun, hend, hW, hsame, ce, hce, hO⟩ := X₁.ctorThrowS hexec htr (own := own) (cls := cls) (names := names) (ic := ic) hown' hcls hnames h (fun x hx => nomatch hx) hfX hkX hcellA (by rw [hhp, hT]; exact Nat.le_refl _) (msg := .ref sa) rfl
    (g := { method := m, pc := pc + 6, locals := ls, stack := .ref sa :: .ref T.heap.size :: .ref T.heap.size :: rest, locked := none }) rfl hsize rfl rfl (rest := rest) rfl
    (by rw [hb]; exact d6) (by rw [hb]; exact d9) hout hRframes (by simp only [List.map_cons, List.sum_cons, hcat]; omega) hlocks
  obtain ⟨f1, f2⟩ := vx_frame hsame
  rw [hhp] at f1 f2
  have hWs : s.WarmedH U.vm := State.WarmedH.trans hW0 hW
  have hcl : s.vm.findClass cls = some ce.cls := by
    have h9 := hO.cls
    rw [hvm] at h9
    exact h9
  have hall : s.sameButNew ({ U with vm := s.vm } : State) locs mc ms := by
    subst hA
    obtain ⟨e1, e2⟩ := hsame
    rw [State.setFrames_setFrames] at e1
    have h2 : (T.setVm s.vm).sameButNew ({ U with vm := s.vm } : State) [] (0 + 1) (0 + 6) := ⟨e1, e2⟩
    have h3 := X.same.trans h2
    rw [List.append_nil] at h3
    exact h3.mono hc hs
  refine ⟨U, ?_, .threw T.heap.size, hrun, hend, Or.inr ⟨T.heap.size, rfl, cls, ce, locs, hx U hWs.alike f1 (fun q hq => f2 q hq (fun z hz => nomatch hz)), hce, hO.vm, hcl, hWs, hall, hf⟩⟩
  refine st1 _ ?_
  show Steps p.tables e below (T1.setTop { method := m, pc := pc + 3, locals := ls, stack := .ref T.heap.size :: rest, locked := none }) _
  jvm_step X₁.here [X₁.here.top, hexec, d3', Value.category]
  exact X₁.ldcString hexec (own := own) (text := text) (index := is) (a := sa) hown' hstr'.1 hstr'.2
    (g := { method := m, pc := pc + 4, locals := ls, stack := .ref T.heap.size :: .ref T.heap.size :: rest, locked := none }) rfl d4' _ hsteps
/-- 'throw new E("text")', the text by a wide index -/
theorem vx_throwSW {cc : ByteArray} {pc : Nat} (hexec : p.tables.exec = Jvm.exec) (hb : c.code = cc) (hl : l.stackTraces = false) {own cls text : String} {names : List String} {ik is ic mc ms sa : Nat} {A : Nat → Prop}
    (hown : s.vm.findClass own = some m.cls) (hcls : Bundle.fit cls = true) (hnames : ∀ n ∈ names, Bundle.fit n = true)
    (hk : (Cond.classLink own ik cls).before args s = true) (hini : (Cond.initialized cls).before args s = true) (hstr : vk_R own is text sa s) (hat : ∀ w ∈ vx_atS own ic cls names, w.before args s = true)
    (hgood : ∀ w ∈ Cond.classLink own ik cls :: Cond.initialized cls :: vx_atS own ic cls names, vx_ot w = true)
    (hU : vx_Zq Bundle.tN "UNASSIGNED_STACK" Bundle.steD A s s.heap) (hN : vx_Zq Bundle.tN "SUPPRESSED_SENTINEL" Bundle.listD A s s.heap) (hS : va_S A s.heap H locs) (hsize : ls.size = c.maxLocals)
    (d0 : decode cc pc = .ok (.new ik, 3)) (d3 : decode cc (pc + 3) = .ok (.dup, 1)) (d4 : decode cc (pc + 4) = .ok (.ldc_w is, 3)) (d7 : decode cc (pc + 7) = .ok (.invokespecial ic, 3)) (d10 : decode cc (pc + 10) = .ok (.athrow, 1))
    (hout : ∀ x ∈ c.exceptionTable.toList, covers x (pc + 10) = false)
    (hRframes : names.length + 3 < R.frames) (hRlocals : (rest.map fun v => v.category).sum + (13 * (names.length + 1) + 43) ≤ R.locals) (hRcells : cells + 1 ≤ R.cells) (hRslots : slots + 6 ≤ R.slots) (hlocks : meth.locks = false)
    (hx : ∀ t : State, s.vm.Alike t.vm → H.size ≤ t.heap.size → (∀ q : Nat, q < H.size → t.heap[q]? = H[q]?) → XC cls s t)
    (hf : ∀ z ∈ locs, free z.base) (hc : cells + 1 ≤ mc) (hs : slots + 6 ≤ ms) :
    W p l e R s m args below meth c H locs cells slots (vx_MQ below Qc XC args s mc ms free) (F0 m pc ls rest) := by
  intro T hT X
  have htr : e.platform.stackTraces = false := (show e.platform.stackTraces = l.stackTraces by rw [X.admits.platform]).trans hl
  have Y := vx_rebase X (R' := { frames := R.frames, locals := R.locals, cells := 1, slots := 6 }) (Nat.le_refl _) (Nat.le_refl _) hRcells hRslots
  obtain ⟨s', hA⟩ : ∃ z, z = (T.setVm s.vm).setFrames (.invoking m args :: below) := ⟨_, rfl⟩
  rw [← hA] at Y
  have hvm : s'.vm = s.vm := by rw [hA]; rfl
  have hhp : s'.heap = H := by rw [hA]; exact hT
  have hW0 : s.WarmedH s'.vm := by rw [hvm]; exact State.WarmedH.refl s
  have hat' : ∀ w ∈ vx_atS own ic cls names, w.before args s' = true := fun w hw => vx_ot_at hW0 hvm.symm (hgood w (List.mem_cons_of_mem _ (List.mem_cons_of_mem _ hw))) (hat w hw)
  have hk' : (Cond.classLink own ik cls).before args s' = true := vx_ot_at hW0 hvm.symm (hgood _ List.mem_cons_self) hk
  have hini' : (Cond.initialized cls).before args s' = true := vx_ot_at hW0 hvm.symm (hgood _ (List.mem_cons_of_mem _ List.mem_cons_self)) hini
  have hU' : vx_Zq Bundle.tN "UNASSIGNED_STACK" Bundle.steD A s' s'.heap := by rw [hhp]; exact vx_Zq.moved hW0.alike (hU.kept hS.2.1)
  have hN' : vx_Zq Bundle.tN "SUPPRESSED_SENTINEL" Bundle.listD A s' s'.heap := by rw [hhp]; exact vx_Zq.moved hW0.alike (hN.kept hS.2.1)
  have h : ∀ w ∈ Bundle.ownAtoms own ic cls names, w.before args s' = true := vx_own hat' (vx_isRefq hU'.1) (vx_isRefq hN'.1) hU'.2.word hN'.2.word
  have hown' : s'.vm.findClass own = some m.cls := by rw [hvm]; exact hown
  have hins : (Cond.instantiable cls 6).before args s' = true := h _ (by simp [Bundle.ownAtoms])
  obtain ⟨vm₁, cX, kX, hfX, hkX, -, -, X₁, st1⟩ := Y.newCold hexec (own := own) (C := cls) (index := ik) (n := 6) hown' hk' hins hini'
    (g := F0 m pc ls rest) rfl (by rw [hb]; exact d0) (Nat.le_refl _) (Nat.le_refl _)
  generalize hT1 : (T.setVm vm₁).pushCell { cls := cX, slots := kX.instanceTypes.map defaultValue, vm := .none } = T1 at X₁ st1
  have hcat : (Value.ref T.heap.size).category = 1 := rfl
  have hcellA : T1.heap[T.heap.size]? = some (freshCell cX kX) := by rw [← hT1]; exact State.heap_pushCell_size _ _
  have d3' : decode c.code (pc + 3) = .ok (.dup, 1) := by rw [hb]; exact d3
  have d4' : decode c.code (pc + 4) = .ok (.ldc_w is, 3) := by rw [hb]; exact d4
  have hstr' : vk_R own is text sa s' := vk_R.warm hW0 hstr
  obtain ⟨U, hsteps, hrun, hend, hW, hsame, ce, hce, hO⟩ := X₁.ctorThrowS hexec htr (own := own) (cls := cls) (names := names) (ic := ic) hown' hcls hnames h (fun x hx => nomatch hx) hfX hkX hcellA (by rw [hhp, hT]; exact Nat.le_refl _) (msg := .ref sa) rfl
    (g := { method := m, pc := pc + 7, locals := ls, stack := .ref sa :: .ref T.heap.size :: .ref T.heap.size :: rest, locked := none }) rfl hsize rfl rfl (rest := rest) rfl
    (by rw [hb]; exact d7) (by rw [hb]; exact d10) hout hRframes (by simp only [List.map_cons, List.sum_cons, hcat]; omega) hlocks
  obtain ⟨f1, f2⟩ := vx_frame hsame
  rw [hhp] at f1 f2
  have hWs : s.WarmedH U.vm := State.WarmedH.trans hW0 hW
  have hcl : s.vm.findClass cls = some ce.cls := by
    have h9 := hO.cls
    rw [hvm] at h9
    exact h9
  have hall : s.sameButNew ({ U with vm := s.vm } : State) locs mc ms := by
    subst hA
    obtain ⟨e1, e2⟩ := hsame
    rw [State.setFrames_setFrames] at e1
    have h2 : (T.setVm s.vm).sameButNew ({ U with vm := s.vm } : State) [] (0 + 1) (0 + 6) := ⟨e1, e2⟩
    have h3 := X.same.trans h2
    rw [List.append_nil] at h3
    exact h3.mono hc hs
  refine ⟨U, ?_, .threw T.heap.size, hrun, hend, Or.inr ⟨T.heap.size, rfl, cls, ce, locs, hx U hWs.alike f1 (fun q hq => f2 q hq (fun z hz => nomatch hz)), hce, hO.vm, hcl, hWs, hall, hf⟩⟩
  refine st1 _ ?_
  show Steps p.tables e below (T1.setTop { method := m, pc := pc + 3, locals := ls, stack := .ref T.heap.size :: rest, locked := none }) _
  jvm_step X₁.here [X₁.here.top, hexec, d3', Value.category]
  exact X₁.ldcStringW hexec (own := own) (text := text) (index := is) (a := sa) hown' hstr'.1 hstr'.2
    (g := { method := m, pc := pc + 4, locals := ls, stack := .ref T.heap.size :: .ref T.heap.size :: rest, locked := none }) rfl d4' _ hsteps
end Ends
section Bodies
variable {l : Launch}
theorem vx_ofW {y : MethodName} {ws ws' : List Cond} {rm : Room} {Pc : Array Value → State → Prop} {Qc : Array Value → State → Outcome → State → Prop} {XC : String → State → State → Prop} {mc ms : Nat} {free : Addr → Prop} {cc : ByteArray} {maxL : Nat} {ret : Option FieldType}
    (hy : plainName y.cls = true) (hw : ws = Cond.code y cc maxL ret :: ws')
    (body : ∀ p e s m args below meth c s₁, BodyLoose p l y (headSpec ws rm) cc maxL ret e s m args below meth c s₁ → c.maxLocals = maxL → (∀ x ∈ c.exceptionTable.toList, False) → Pc args s →
      W p l e (headSpec ws rm).room s m args below meth c s.heap [] 0 0 (vx_MQ below Qc XC args s mc ms free) (entryFrame m args maxL)) : vx_Met l y ws rm Pc Qc XC mc ms free := by
  refine MetFree.of_bodyS (code := cc) (maxLocals := maxL) (ret := ret) hy ?_ ?_
  · intro args s m h hn
    obtain ⟨meth, c, h1, h2, h3, h4, h5, h6, -, -⟩ := Cond.code_spec hn (atoms_spec (ws := ws) h _ (by rw [hw]; exact List.mem_cons_self))
    exact ⟨meth, c, h1, h2, h3, h4, h5, h6⟩
  · intro p e s m args below meth c s₁ B hml hP _
    have hh0 : s₁.heap = s.heap := by rw [B.state]; rfl
    have ht : ∀ x ∈ c.exceptionTable.toList, False := by
      obtain ⟨meth9, c9, h1, h2, -, -, -, -, h7, -⟩ := Cond.code_spec B.named (atoms_spec (ws := ws) B.pre _ (by rw [hw]; exact List.mem_cons_self))
      cases Option.some.inj (h1.symm.trans B.method)
      cases Option.some.inj (h2.symm.trans (Stand.of_body B).code)
      intro x hx
      rw [Array.isEmpty_iff.mp h7] at hx
      cases hx
    obtain ⟨t, a1, o, b1, b2, b3⟩ := body p e s m args below meth c s₁ B hml ht hP s₁ hh0 (Stand.of_body B)
    exact ⟨t, o, a1, b1, b2, b3⟩
/-- the table of a body with handlers -/
theorem vx_table {p : Program} {x y : MethodName} {S : Spec} {cc bytes : ByteArray} {maxL maxL' : Nat} {ret ret' : Option FieldType} {e : Env} {s s₁ : State} {m : MethodId} {args : Array Value} {below : List Frame} {meth : Method} {c : Code} {hh : List (Nat × Nat × Nat × Nat)}
    (B : BodyLoose p l y S cc maxL ret e s m args below meth c s₁) (h : (Cond.codeWith y bytes maxL' ret' hh).before args s = true) : c.exceptionTable.toList = tableOf hh := by
  obtain ⟨m9, meth9, c9, hn9, h1, h2, -, -, h6, -⟩ := Cond.codeWith_spec h
  cases Option.some.inj (hn9.symm.trans B.named)
  cases Option.some.inj (h1.symm.trans B.method)
  cases Option.some.inj (h2.symm.trans (Stand.of_body B).code)
  rw [← h6, table_eq]
end Bodies
end VXA
/-! ===== END ===== -/
/-! ===== BEGIN a static call of a method with an exception table ===== -/
section VXS
variable {p : Program} {l : Launch} {e : Env} {R : Room} {s : State} {m : MethodId} {args : Array Value} {below : List Frame} {meth : Method} {c : Code} {T : State} {H : Heap} {locs : List Loc} {cells slots : Nat}
abbrev vx_CSW (R : Room) (s : State) (args : Array Value) (own : String) (index : Nat) (y : MethodName) (bytes : ByteArray) (maxL : Nat) (ret : Option FieldType) (hh : List (Nat × Nat × Nat × Nat)) (ws : List Cond) (rm : Room) (mc ms n : Nat) : Prop :=
  (rm.cells = mc ∧ rm.slots = ms ∧ rm.frames + 1 ≤ R.frames ∧ 8 + (maxL + 11) + rm.locals ≤ R.locals ∧ (∀ w ∈ ws, ∀ (a' : Array Value) (U : State), s.WarmedH U.vm → w.before a' U = true) ∧ Cond.codeWith y bytes maxL ret hh ∈ ws) ∧
  (Cond.codeWith y bytes maxL ret hh).before args s = true ∧ (Cond.initialized y.cls).before args s = true ∧ (y.cls ≠ "java/lang/invoke/MethodHandle" ∧ y.cls ≠ "java/lang/invoke/VarHandle") ∧
  (∀ sig, parseMethodDescriptor y.desc = some sig → n = sig.parameters.length) ∧ (Cond.methodLink own index y).before args s = true ∧ (Cond.static y).before args s = true
theorem vx_cwSW {own : String} {index maxL mc ms : Nat} {y : MethodName} {bytes : ByteArray} {ret : Option FieldType} {hh : List (Nat × Nat × Nat × Nat)} {Ts ws ws' : List Cond} {rm : Room} (n : Nat) (ht : ∀ w ∈ Ts, w.before args s = true) (hT : GoodIn Ts (va_wsS own index y ws)) (hw : ws = Cond.codeWith y bytes maxL ret hh :: ws') (hrc : rm.cells = mc) (hrs : rm.slots = ms)
    (hd : y.cls ≠ "java/lang/invoke/MethodHandle" ∧ y.cls ≠ "java/lang/invoke/VarHandle" ∧ (parseMethodDescriptor y.desc).map (fun d => d.parameters.length) = some n) (hR : rm.frames + 1 ≤ R.frames ∧ 8 + (maxL + 11) + rm.locals ≤ R.locals) :
    vx_CSW R s args own index y bytes maxL ret hh ws rm mc ms n := by
  have ok : ∀ w ∈ va_wsS own index y ws, w.before args s = true := fun w h => ht w (hT w h).1
  have hG : GoodIn Ts ws := fun w h => hT w (by unfold va_wsS; exact List.mem_append_right _ h)
  have hc : Cond.codeWith y bytes maxL ret hh ∈ ws := by rw [hw]; exact List.mem_cons_self
  refine ⟨⟨hrc, hrs, hR.1, hR.2, pay_in ht hG, hc⟩, ht _ (hG _ hc).1, ok _ (by simp [va_wsS]), ⟨hd.1, hd.2.1⟩, fun sig h => ?_, ok _ (by simp [va_wsS]), ok _ (by simp [va_wsS])⟩
  have h2 := hd.2.2
  rw [h] at h2
  exact (Option.some.inj h2).symm
theorem vx_callSW (X : Stand p l e R s m args below meth c T locs cells slots) (hexec : p.tables.exec = Jvm.exec) {own : String} {index : Nat} {y : MethodName} {bytes : ByteArray} {maxL : Nat} {ret : Option FieldType} {hh : List (Nat × Nat × Nat × Nat)}
    (hown : s.vm.findClass own = some m.cls) (hlink : (Cond.methodLink own index y).before args s = true) (hstat : (Cond.static y).before args s = true) (hinit : (Cond.initialized y.cls).before args s = true)
    (hcode : (Cond.codeWith y bytes maxL ret hh).before args s = true) (hy : y.cls ≠ "java/lang/invoke/MethodHandle" ∧ y.cls ≠ "java/lang/invoke/VarHandle")
    {W9 : Nat} {Pre : Pt → Array Value → Prop} {Post : Pt → Array Value → Option Value → Pt → Prop} (hK : Back l R p e below s args y 3 W9 Pre Post)
    {g : JFrame} (hg : g.method = m) (hsize : g.locals.size = c.maxLocals) {argsL rest : List Value} (hlen : ∀ sig, parseMethodDescriptor y.desc = some sig → argsL.length = sig.parameters.length)
    (hstack : g.stack = argsL.reverse ++ rest) (hW : 2 * g.monitorRoom + (rest.map fun v => v.category).sum ≤ W9) (hdg : decode c.code g.pc = .ok (.invokestatic index, 3))
    (hpre : ∀ vm₁, s.WarmedH vm₁ → Pre ⟨T.setVm vm₁, locs, cells, slots⟩ argsL.toArray) :
    ∃ (v : Option Value) (vm₁ : Vm) (B : Pt), s.WarmedH vm₁ ∧ Stand p l e R s m args below meth c B.U B.locs B.cells B.slots ∧ Post ⟨T.setVm vm₁, locs, cells, slots⟩ argsL.toArray v B ∧
      ∀ target, Steps p.tables e below (B.U.setTop { g with pc := g.pc + 3, stack := v.toList ++ rest }) target → Steps p.tables e below (T.setTop g) target := by
  obtain ⟨mk, methM, cM, hnamed, hmethM, -, -, -, -, -, -, hsigM⟩ := Cond.codeWith_spec hcode
  have hstatic : methM.isStatic = true := Cond.static_spec hnamed hmethM hstat
  obtain ⟨kP, hkP, -⟩ := className_of_methodNamed hnamed
  have hinitP : kP.init = .initialized := Cond.initialized_spec (findClass_of_methodNamed hnamed) hkP hinit
  obtain ⟨vm₁, X₁, hstep₁⟩ := X.invokestatic hexec hown hlink hnamed hmethM hstatic hkP hinitP hy (g := g) hg (argsL := argsL) (rest := rest) (hlen _ hsigM) hstack hdg
  obtain ⟨v, B, X', hpost, hsteps⟩ := hK m meth c ⟨T.setVm vm₁, locs, cells, slots⟩ { g with stack := rest } (.invokestatic index) mk argsL.toArray X₁ hg hsize hdg hW (X₁.named hnamed) (hpre vm₁ X₁.warmed)
  exact ⟨v, vm₁, B, X₁.warmed, X', hpost, fun target h => hstep₁ _ fun acts => by rw [doInvoke_state]; exact hsteps.trans h⟩
theorem vx_runSW {y : MethodName} {bytes cc : ByteArray} {maxL nL mc ms n index : Nat} {ret : Option FieldType} {hh : List (Nat × Nat × Nat × Nat)} {ws : List Cond} {rm : Room} {Pc : Array Value → State → Prop} {Qc : Array Value → State → Outcome → State → Prop} {free : Addr → Prop} {Ts : List Cond} {own : String} {As rest : List Value} {g : JFrame}
    (S : CallFix p m c cc nL s args Ts own) (hM : Met l y ws rm Pc Qc mc ms free) (cw : vx_CSW R s args own index y bytes maxL ret hh ws rm mc ms n) (hp : PreS s H Pc As)
    (hg : g.method = m) (hn : As.length = n) (hsize : g.locals.size = nL) (hstack : g.stack = As.reverse ++ rest) (hW : 2 * g.monitorRoom + (rest.map fun v => v.category).sum ≤ 8) (hdg : decode cc g.pc = .ok (.invokestatic index, 3)) (hf : cells + mc ≤ R.cells ∧ slots + ms ≤ R.slots) :
    va_Run p l e R s m args below meth c H locs cells slots mc ms g rest (Qc As.toArray) (free) := by
  obtain ⟨⟨hrc, hrs, hfr, hlo, hws, hcw⟩, hcode, hini, hy, hlen, hl, hstt⟩ := cw
  have hK : Back l R p e below s args y 3 8 (PreOf R mc ms Pc) (PostOf Qc mc ms free) := va_backW (hh := hh) (bytes := bytes) (maxL := maxL) (ret := ret) hM hp.1 hrc hrs hfr hlo hws hcw (fun a' U hW => word_at hW (Or.inl (by first | rfl | simp [Cond.onTables, Cond.keeps, Cond.steady])) hini)
  obtain ⟨hx, hb, hml, ho, -⟩ := S
  intro T hT X
  obtain ⟨v, vm₁, ⟨U', l2, c2, s2⟩, hW₁, X', ⟨g', mk, t, L, e1, e2, hq, h1, hL, h2, h3⟩, st⟩ := vx_callSW X hx (hh := hh) (bytes := bytes) (maxL := maxL) (ret := ret) ho hl hstt hini hcode hy hK hg (hsize.trans hml.symm) (argsL := As) (rest := rest) (fun sig h => hn.trans (hlen sig h)) hstack hW (by rw [hb]; exact hdg)
    (fun vm₁ hW₁ => ⟨hf.1, hf.2, hp.2 (T.setVm vm₁) hT hW₁⟩)
  dsimp only [Pt.U, Pt.locs, Pt.cells, Pt.slots] at X' e1 e2 h1 h2 h3 st
  subst h1; subst h2; subst h3
  exact ⟨v, (T.setVm vm₁).calling g' mk As.toArray, t, U', L, hT, X', hL, e1, e2, hq, st⟩
/-- not caught here, past rows that name other classes: it goes on to the caller -/
theorem vx_outP {p : Program} {l : Launch} {e : Env} {R : Room} {s : State} {m : MethodId} {args : Array Value} {below : List Frame} {meth : Method} {c : Code} {H : Heap} {locs : List Loc} {cells slots : Nat} {free : Addr → Prop} {ls : Array Slot} {rest : List Value} {Qc : Array Value → State → Outcome → State → Prop} {XC : String → State → State → Prop}
    {pc : Nat} {own E : String} {ce : Cell} {q : Addr} {mc ms : Nat} (hown : s.vm.findClass own = some m.cls) (hlocks : meth.locks = false)
    (hpass : ∀ z ∈ c.exceptionTable.toList, covers z pc = false ∨ (z.catchType ≠ 0 ∧ ∃ nm : String, (Cond.classLink own z.catchType nm).before args s = true ∧ va_Nc E nm s)) (hcell : H[q]? = some ce) (hv : ce.vm = .none) (hcl : s.vm.findClass E = some ce.cls)
    (hx : ∀ t : State, t.heap = H → s.vm.Alike t.vm → XC E s t) (hf : ∀ z ∈ locs, free z.base) (hc : cells ≤ mc) (hs : slots ≤ ms) :
    vx_W p l e R s m args below meth c H locs cells slots (vx_MQ below Qc XC args s mc ms free) (F0 m pc ls rest) q := by
  intro T hT X
  have hpl : e.platform.magicAccessors = ({} : Platform).magicAccessors := by rw [X.admits.platform]
  obtain ⟨vm', hW', X', st⟩ := X.outThrough hlocks q (g := F0 m pc ls rest) rfl rfl rfl (cell := ce) (by rw [hT]; exact hcell) (by rw [hv]; rfl)
    (by obtain ⟨k9, h9, -⟩ := Vm.findClass_spec hcl; exact ⟨k9, h9⟩) (fun z hz => by
      rcases hpass z hz with h | ⟨hz0, nm, hl1, hn1⟩
      · exact Or.inl h
      · obtain ⟨c6, hc6, hcl6⟩ := Cond.classLink_spec hown hl1 e.platform hpl
        obtain ⟨a8, b8, h1, h2, h3⟩ := hn1
        cases Option.some.inj (h1.symm.trans hcl)
        cases Option.some.inj (h2.symm.trans hc6)
        exact Or.inr ⟨hz0, _, hcl6, h3⟩)
  obtain ⟨g₀, hfr⟩ := X'.frames_eq
  have hcell9 : ((T.setVm vm').setFrames (.throwing q :: below)).heap[q]? = some ce := by
    show T.heap[q]? = some ce
    rw [hT]; exact hcell
  have hend : Ended ((T.setVm vm').setFrames (.throwing q :: below)) below (.threw q) := State.frames_setFrames _ (State.cur_lt_of_frames hfr)
  refine ⟨(T.setVm vm').setFrames (.throwing q :: below), ?_, .threw q, X'.here.running, hend, Or.inr ⟨q, rfl, E, ce, locs, hx _ hT (X'.ends _).1.alike, hcell9, hv, hcl, (X'.ends _).1, (X'.ends _).2.mono hc hs, hf⟩⟩
  rw [X.pushThrowing_eq]
  exact st
/-- a thing of a world lies in the heap -/
theorem vx_lt {D : va_G} {cl : List vw_C} {ws : va_W} {H1 : Heap} (h : va_P D cl ws H1) {k : Nat} {q : Nat × va_E} (hk : ws[k]? = some q) : q.1 < H1.size := (h k q hk).lt
end VXS
/-! ===== END ===== -/
/-! ===== BEGIN methods with a table of their own: called by a name, returning or throwing ===== -/
section VXH
/-! vx_backW, vx_callVX, vx_callSX, vx_callVW, vx_runVW, vx_runVX, vx_runSX, vx_ofWH follow the same proofs as their sisters above (Free/Laws.lean, Shelf42/LK1.lean); vx_outP calls Shelf42/NT130.lean (outThrough). -/
section
variable {l : Launch} {R : Room} {p : Program} {e : Env} {below : List Frame} {s : State} {sargs : Array Value} {y : MethodName} {len W9 : Nat}
theorem vx_backW {ws : List Cond} {rm : Room} {Pc : Array Value → State → Prop} {Qc : Array Value → State → Outcome → State → Prop} {XC : String → State → State → Prop} {mc ms : Nat} {free : Addr → Prop} {bytes : ByteArray} {maxL : Nat} {ret : Option FieldType} {hh : List (Nat × Nat × Nat × Nat)}
    (hM : vx_Met l y ws rm Pc Qc XC mc ms free) (hblind : FrameBlind Pc) (hrc : rm.cells = mc) (hrs : rm.slots = ms)
    (hframes : rm.frames + 1 ≤ R.frames) (hlocals : W9 + (maxL + 11) + rm.locals ≤ R.locals)
    (hws : ∀ w ∈ ws, ∀ a' U, s.WarmedH U.vm → w.before a' U = true) (hcode : Cond.codeWith y bytes maxL ret hh ∈ ws) (hinit : ∀ a' U, s.WarmedH U.vm → (Cond.initialized y.cls).before a' U = true) :
    vx_Back l R p e below s sargs y len W9 (PreOf R mc ms Pc) (PostOf Qc mc ms free) (vx_Post XC mc ms free) := by
  intro m meth c A g ig mk a X hg hsize hdg hW hn hp
  have h1 : (headSpec ws rm).pre.before a A.U = true := atoms_intro fun w hw => hws w hw _ _ X.warmed
  have h2 : (Cond.codeWith y bytes maxL ret hh).before a A.U = true := hws _ hcode _ _ X.warmed
  have h3 : (Cond.initialized y.cls).before a A.U = true := hinit _ _ X.warmed
  have h4 : A.cells + (headSpec ws rm).room.cells ≤ R.cells := by rw [show (headSpec ws rm).room.cells = mc from hrc]; exact hp.1
  have h5 : A.slots + (headSpec ws rm).room.slots ≤ R.slots := by rw [show (headSpec ws rm).room.slots = ms from hrs]; exact hp.2.1
  have hPc : Pc a (A.U.calling g mk a) := hblind _ _ _ _ hp.2.2
  obtain ⟨U, Ls, c0, s0⟩ := A
  dsimp only [Pt.U, Pt.locs, Pt.cells, Pt.slots] at h1 h2 h3 h4 h5 X hn hPc ⊢
  obtain ⟨m9, methY, cY, hn9, hmY, hcY, -, hlY, -⟩ := Cond.codeWith_spec h2
  cases Option.some.inj (hn9.symm.trans hn)
  obtain ⟨kY, hkY, -⟩ := className_of_methodNamed hn
  have hinitY : kY.init = .initialized := Cond.initialized_spec (findClass_of_methodNamed hn) hkY h3
  have h : At U g.method c below := by rw [hg]; exact X.here
  have hlocals9 : W9 + (maxL + 11) + (headSpec ws rm).room.locals ≤ R.locals := hlocals
  have happ : (headSpec ws rm).appliesLoose y e.platform (U.calling g mk a) = true :=
    Spec.appliesLoose_calling (g := g) h hdg hn hkY hinitY
      (X.room_calling (g := g) (R' := (headSpec ws rm).room) hsize hmY hcY hframes (by rw [hlY]; omega) h4 h5) h1
  obtain ⟨mid, hmid⟩ := h.above
  have hfr : (U.setTop g).frames = (.java g :: mid) ++ below := by rw [State.frames_setTop' g h.top, hmid]; rfl
  obtain ⟨o, s₂, hsteps, -, hend, hq⟩ := Steps.callFree hM p X.admits X.cas X.clock (acts := []) hfr happ hPc trivial
  have hq' : vx_Q Qc XC mc ms free a (U.calling g mk a) o s₂ := hq
  rw [State.frames_setTop' g h.top] at hend
  obtain ⟨g₀, hg0⟩ := Option.isSome_iff_exists.mp h.top
  obtain ⟨r, hr⟩ := State.topJava?_eq_some.mp hg0
  have hr' : (({ U with heap := s₂.heap, slotsUsed := s₂.slotsUsed } : State).setVm s₂.vm).frames = .java g₀ :: r := hr
  rcases hq' with ⟨hqc, L, hfe, hL⟩ | ⟨q, rfl, E, ce, L, hx, hce, hcv, hcl, hW₂, hsm, hL⟩
  · obtain ⟨⟨v, rfl⟩, hW₂, e2, q2, q3, q4, q5, q6⟩ := id hfe
    have e3 : s₂ = ({ (U.calling g mk a).setFrames s₂.frames with heap := s₂.heap, slotsUsed := s₂.slotsUsed } : State).setVm s₂.vm := by
      have : s₂ = ({ s₂ with vm := (U.calling g mk a).vm } : State).setVm s₂.vm := rfl
      rw [e2] at this
      exact this
    obtain ⟨c₂, i₂, len₂, hc₂, hd₂, hf₂⟩ := hend
    have hW' : U.WarmedH s₂.vm := hW₂
    have hcc : c₂ = c := by
      have h1 : s₂.code? g.method = U.code? g.method := by
        rw [State.code?_eq, State.code?_eq, hW'.alike.method?]
      exact Option.some.inj (hc₂.symm.trans (h1.trans h.code))
    subst hcc
    have hlen : len₂ = len := by rw [hdg] at hd₂; cases hd₂; rfl
    subst hlen
    have hs₂ : s₂ = (({ U with heap := s₂.heap, slotsUsed := s₂.slotsUsed } : State).setVm s₂.vm).setTop { g with pc := g.pc + len₂, stack := v.toList ++ g.stack } := by
      refine e3.trans ?_
      rw [hf₂, State.calling_eq h.top, State.setFrames_setFrames, State.setTop_of_frames _ hr', hr]
      rfl
    have hsame : U.sameButNew ({ U with heap := s₂.heap, slotsUsed := s₂.slotsUsed } : State) L mc ms := by
      refine ⟨?_, q2, q3, q4, q5, q6⟩
      obtain ⟨t, ht, -⟩ := State.frames_cons hr
      show ({ U with heap := s₂.heap, slotsUsed := s₂.slotsUsed } : State) = { U.setFrames U.frames with heap := s₂.heap, slotsUsed := s₂.slotsUsed }
      rw [State.setFrames_self ht]
    subst hg
    refine Or.inl ⟨v, ⟨(({ U with heap := s₂.heap, slotsUsed := s₂.slotsUsed } : State).setVm s₂.vm), Ls ++ L, c0 + mc, s0 + ms⟩,
      ⟨X.admits, X.cas, X.clock, X.frames, X.room, X.hears, X.method, X.code, (X.here.setHeapUsed s₂.heap s₂.slotsUsed).setVm hW'.alike, X.tail, State.WarmedH.trans X.warmed hW', X.limits, X.bytes, X.same.trans (hsame.setVm s.vm)⟩,
      ⟨g, mk, s₂, L, rfl, rfl, hqc, rfl, hL, rfl, rfl⟩, ?_⟩
    show Steps p.tables e below _ ((({ U with heap := s₂.heap, slotsUsed := s₂.slotsUsed } : State).setVm s₂.vm).setTop { g with pc := g.pc + len₂, stack := v.toList ++ g.stack })
    rw [← hs₂]
    exact hsteps
  · obtain ⟨e2, q2, q3, q4, q5, q6⟩ := id hsm
    have e3 : s₂ = ({ (U.calling g mk a).setFrames s₂.frames with heap := s₂.heap, slotsUsed := s₂.slotsUsed } : State).setVm s₂.vm := by
      have : s₂ = ({ s₂ with vm := (U.calling g mk a).vm } : State).setVm s₂.vm := rfl
      rw [e2] at this
      exact this
    have hf₂ : s₂.frames = .throwing q :: .java g :: U.frames.tail := hend
    have hW' : U.WarmedH s₂.vm := hW₂
    have hs₂ : s₂ = ((({ U with heap := s₂.heap, slotsUsed := s₂.slotsUsed } : State).setVm s₂.vm).setTop g).pushFrame (.throwing q) := by
      refine e3.trans ?_
      rw [hf₂, State.calling_eq h.top, State.setFrames_setFrames, State.pushFrame, State.frames_setTop _ hr', State.setTop_of_frames _ hr', State.setFrames_setFrames, hr]
      rfl
    have hsame : U.sameButNew ({ U with heap := s₂.heap, slotsUsed := s₂.slotsUsed } : State) L mc ms := by
      refine ⟨?_, q2, q3, q4, q5, q6⟩
      obtain ⟨t, ht, -⟩ := State.frames_cons hr
      show ({ U with heap := s₂.heap, slotsUsed := s₂.slotsUsed } : State) = { U.setFrames U.frames with heap := s₂.heap, slotsUsed := s₂.slotsUsed }
      rw [State.setFrames_self ht]
    subst hg
    refine Or.inr ⟨q, ⟨(({ U with heap := s₂.heap, slotsUsed := s₂.slotsUsed } : State).setVm s₂.vm), Ls ++ L, c0 + mc, s0 + ms⟩,
      ⟨X.admits, X.cas, X.clock, X.frames, X.room, X.hears, X.method, X.code, (X.here.setHeapUsed s₂.heap s₂.slotsUsed).setVm hW'.alike, X.tail, State.WarmedH.trans X.warmed hW', X.limits, X.bytes, X.same.trans (hsame.setVm s.vm)⟩,
      ⟨g, mk, s₂, L, E, ce, rfl, rfl, hx, hce, hcv, hcl, rfl, hL, rfl, rfl⟩, ?_⟩
    show Steps p.tables e below _ (((({ U with heap := s₂.heap, slotsUsed := s₂.slotsUsed } : State).setVm s₂.vm).setTop g).pushFrame (.throwing q))
    rw [← hs₂]
    exact hsteps
end
variable {p : Program} {l : Launch} {e : Env} {R : Room} {s : State} {m : MethodId} {args : Array Value} {below : List Frame} {meth : Method} {c : Code} {T : State} {H : Heap} {locs : List Loc} {cells slots : Nat}
theorem vx_callVX (X : Stand p l e R s m args below meth c T locs cells slots) (hexec : p.tables.exec = Jvm.exec) {own C : String} {index : Nat} {y : MethodName} {bytes : ByteArray} {maxL : Nat} {ret : Option FieldType} {hh : List (Nat × Nat × Nat × Nat)}
    (hown : s.vm.findClass own = some m.cls) (hlink : (Cond.methodLink own index y).before args s = true) (hinst : (Cond.instanceMethod y).before args s = true) (hsel : (Cond.selects C y y).before args s = true)
    (hcode : (Cond.codeWith y bytes maxL ret hh).before args s = true) (hy : y.cls ≠ "java/lang/invoke/MethodHandle" ∧ y.cls ≠ "java/lang/invoke/VarHandle")
    {W9 : Nat} {Pre : Pt → Array Value → Prop} {Post : Pt → Array Value → Option Value → Pt → Prop} {PostX : Pt → Array Value → Addr → Pt → Prop} (hK : vx_Back l R p e below s args y 3 W9 Pre Post PostX)
    {b : Addr} {cellB : Cell} (hcell : T.heap[b]? = some cellB) (hobj : cellB.vm.isStatics = false) (hcls : s.vm.findClass C = some cellB.cls)
    {g : JFrame} (hg : g.method = m) (hsize : g.locals.size = c.maxLocals) {argsL rest : List Value} (hlen : ∀ sig, parseMethodDescriptor y.desc = some sig → argsL.length = sig.parameters.length)
    (hstack : g.stack = argsL.reverse ++ .ref b :: rest) (hW : 2 * g.monitorRoom + (rest.map fun v => v.category).sum ≤ W9) (hdg : decode c.code g.pc = .ok (.invokevirtual index, 3))
    (hpre : ∀ vm₁, s.WarmedH vm₁ → Pre ⟨T.setVm vm₁, locs, cells, slots⟩ (Value.ref b :: argsL).toArray) :
    (∃ (v : Option Value) (vm₁ : Vm) (B : Pt), s.WarmedH vm₁ ∧ Stand p l e R s m args below meth c B.U B.locs B.cells B.slots ∧ Post ⟨T.setVm vm₁, locs, cells, slots⟩ (Value.ref b :: argsL).toArray v B ∧
      ∀ target, Steps p.tables e below (B.U.setTop { g with pc := g.pc + 3, stack := v.toList ++ rest }) target → Steps p.tables e below (T.setTop g) target) ∨
    (∃ (q : Addr) (vm₁ : Vm) (B : Pt), s.WarmedH vm₁ ∧ Stand p l e R s m args below meth c B.U B.locs B.cells B.slots ∧ PostX ⟨T.setVm vm₁, locs, cells, slots⟩ (Value.ref b :: argsL).toArray q B ∧
      Steps p.tables e below (T.setTop g) ((B.U.setTop { g with stack := rest }).pushFrame (.throwing q))) := by
  obtain ⟨mk, methM, hnamed, hmethM, hstM, habM⟩ := Cond.instanceMethod_spec hinst
  obtain ⟨m8, methM', cM, hn8, hmethM', -, -, -, -, -, -, hsigM⟩ := Cond.codeWith_spec hcode
  cases Option.some.inj (hn8.symm.trans hnamed)
  cases hmethM.symm.trans hmethM'
  obtain ⟨c2, r2, m2, q1, q2, q3, q4, kP, hkP, hkPi⟩ := Cond.selects_spec hsel
  cases hcls.symm.trans q1
  cases (State.methodFound?_of_named hnamed hy).symm.trans q2
  cases hnamed.symm.trans q3
  have hselP : selectMethod e.platform s.vm cellB.cls mk = .method mk := by rw [Launch.admits_selectMethod X.admits]; exact q4
  obtain ⟨vm₁, X₁, hstep₁⟩ := X.invokevirtual hexec hown hlink hnamed hmethM hstM hkP hkPi hy (a := b) (cell := cellB) hcell
    (fun z h => by rw [h] at hobj; cases hobj) hselP hmethM habM hkP hkPi (g := g) hg (argsL := argsL) (rest := rest) (hlen _ hsigM) hstack hdg
  rcases hK m meth c ⟨T.setVm vm₁, locs, cells, slots⟩ { g with stack := rest } (.invokevirtual index) mk (Value.ref b :: argsL).toArray X₁ hg hsize hdg hW (X₁.named hnamed) (hpre vm₁ X₁.warmed) with ⟨v, B, X', hpost, hsteps⟩ | ⟨q, B, X', hpost, hsteps⟩
  · exact Or.inl ⟨v, vm₁, B, X₁.warmed, X', hpost, fun target h => hstep₁ _ fun acts => by rw [doInvoke_state]; exact hsteps.trans h⟩
  · exact Or.inr ⟨q, vm₁, B, X₁.warmed, X', hpost, hstep₁ _ fun acts => by rw [doInvoke_state]; exact hsteps⟩
theorem vx_callSX (X : Stand p l e R s m args below meth c T locs cells slots) (hexec : p.tables.exec = Jvm.exec) {own : String} {index : Nat} {y : MethodName} {bytes : ByteArray} {maxL : Nat} {ret : Option FieldType} {hh : List (Nat × Nat × Nat × Nat)}
    (hown : s.vm.findClass own = some m.cls) (hlink : (Cond.methodLink own index y).before args s = true) (hstat : (Cond.static y).before args s = true) (hinit : (Cond.initialized y.cls).before args s = true)
    (hcode : (Cond.codeWith y bytes maxL ret hh).before args s = true) (hy : y.cls ≠ "java/lang/invoke/MethodHandle" ∧ y.cls ≠ "java/lang/invoke/VarHandle")
    {W9 : Nat} {Pre : Pt → Array Value → Prop} {Post : Pt → Array Value → Option Value → Pt → Prop} {PostX : Pt → Array Value → Addr → Pt → Prop} (hK : vx_Back l R p e below s args y 3 W9 Pre Post PostX)
    {g : JFrame} (hg : g.method = m) (hsize : g.locals.size = c.maxLocals) {argsL rest : List Value} (hlen : ∀ sig, parseMethodDescriptor y.desc = some sig → argsL.length = sig.parameters.length)
    (hstack : g.stack = argsL.reverse ++ rest) (hW : 2 * g.monitorRoom + (rest.map fun v => v.category).sum ≤ W9) (hdg : decode c.code g.pc = .ok (.invokestatic index, 3))
    (hpre : ∀ vm₁, s.WarmedH vm₁ → Pre ⟨T.setVm vm₁, locs, cells, slots⟩ argsL.toArray) :
    (∃ (v : Option Value) (vm₁ : Vm) (B : Pt), s.WarmedH vm₁ ∧ Stand p l e R s m args below meth c B.U B.locs B.cells B.slots ∧ Post ⟨T.setVm vm₁, locs, cells, slots⟩ argsL.toArray v B ∧
      ∀ target, Steps p.tables e below (B.U.setTop { g with pc := g.pc + 3, stack := v.toList ++ rest }) target → Steps p.tables e below (T.setTop g) target) ∨
    (∃ (q : Addr) (vm₁ : Vm) (B : Pt), s.WarmedH vm₁ ∧ Stand p l e R s m args below meth c B.U B.locs B.cells B.slots ∧ PostX ⟨T.setVm vm₁, locs, cells, slots⟩ argsL.toArray q B ∧
      Steps p.tables e below (T.setTop g) ((B.U.setTop { g with stack := rest }).pushFrame (.throwing q))) := by
  obtain ⟨mk, methM, cM, hnamed, hmethM, -, -, -, -, -, -, hsigM⟩ := Cond.codeWith_spec hcode
  have hstatic : methM.isStatic = true := Cond.static_spec hnamed hmethM hstat
  obtain ⟨kP, hkP, -⟩ := className_of_methodNamed hnamed
  have hinitP : kP.init = .initialized := Cond.initialized_spec (findClass_of_methodNamed hnamed) hkP hinit
  obtain ⟨vm₁, X₁, hstep₁⟩ := X.invokestatic hexec hown hlink hnamed hmethM hstatic hkP hinitP hy (g := g) hg (argsL := argsL) (rest := rest) (hlen _ hsigM) hstack hdg
  rcases hK m meth c ⟨T.setVm vm₁, locs, cells, slots⟩ { g with stack := rest } (.invokestatic index) mk argsL.toArray X₁ hg hsize hdg hW (X₁.named hnamed) (hpre vm₁ X₁.warmed) with ⟨v, B, X', hpost, hsteps⟩ | ⟨q, B, X', hpost, hsteps⟩
  · exact Or.inl ⟨v, vm₁, B, X₁.warmed, X', hpost, fun target h => hstep₁ _ fun acts => by rw [doInvoke_state]; exact hsteps.trans h⟩
  · exact Or.inr ⟨q, vm₁, B, X₁.warmed, X', hpost, hstep₁ _ fun acts => by rw [doInvoke_state]; exact hsteps⟩
theorem vx_callVW (X : Stand p l e R s m args below meth c T locs cells slots) (hexec : p.tables.exec = Jvm.exec) {own C : String} {index : Nat} {y : MethodName} {bytes : ByteArray} {maxL : Nat} {ret : Option FieldType} {hh : List (Nat × Nat × Nat × Nat)}
    (hown : s.vm.findClass own = some m.cls) (hlink : (Cond.methodLink own index y).before args s = true) (hinst : (Cond.instanceMethod y).before args s = true) (hsel : (Cond.selects C y y).before args s = true)
    (hcode : (Cond.codeWith y bytes maxL ret hh).before args s = true) (hy : y.cls ≠ "java/lang/invoke/MethodHandle" ∧ y.cls ≠ "java/lang/invoke/VarHandle")
    {W9 : Nat} {Pre : Pt → Array Value → Prop} {Post : Pt → Array Value → Option Value → Pt → Prop} (hK : Back l R p e below s args y 3 W9 Pre Post)
    {b : Addr} {cellB : Cell} (hcell : T.heap[b]? = some cellB) (hobj : cellB.vm.isStatics = false) (hcls : s.vm.findClass C = some cellB.cls)
    {g : JFrame} (hg : g.method = m) (hsize : g.locals.size = c.maxLocals) {argsL rest : List Value} (hlen : ∀ sig, parseMethodDescriptor y.desc = some sig → argsL.length = sig.parameters.length)
    (hstack : g.stack = argsL.reverse ++ .ref b :: rest) (hW : 2 * g.monitorRoom + (rest.map fun v => v.category).sum ≤ W9) (hdg : decode c.code g.pc = .ok (.invokevirtual index, 3))
    (hpre : ∀ vm₁, s.WarmedH vm₁ → Pre ⟨T.setVm vm₁, locs, cells, slots⟩ (Value.ref b :: argsL).toArray) :
    ∃ (v : Option Value) (vm₁ : Vm) (B : Pt), s.WarmedH vm₁ ∧ Stand p l e R s m args below meth c B.U B.locs B.cells B.slots ∧ Post ⟨T.setVm vm₁, locs, cells, slots⟩ (Value.ref b :: argsL).toArray v B ∧
      ∀ target, Steps p.tables e below (B.U.setTop { g with pc := g.pc + 3, stack := v.toList ++ rest }) target → Steps p.tables e below (T.setTop g) target := by
  obtain ⟨mk, methM, hnamed, hmethM, hstM, habM⟩ := Cond.instanceMethod_spec hinst
  obtain ⟨m8, methM', cM, hn8, hmethM', -, -, -, -, -, -, hsigM⟩ := Cond.codeWith_spec hcode
  cases Option.some.inj (hn8.symm.trans hnamed)
  cases hmethM.symm.trans hmethM'
  obtain ⟨c2, r2, m2, q1, q2, q3, q4, kP, hkP, hkPi⟩ := Cond.selects_spec hsel
  cases hcls.symm.trans q1
  cases (State.methodFound?_of_named hnamed hy).symm.trans q2
  cases hnamed.symm.trans q3
  have hselP : selectMethod e.platform s.vm cellB.cls mk = .method mk := by rw [Launch.admits_selectMethod X.admits]; exact q4
  obtain ⟨vm₁, X₁, hstep₁⟩ := X.invokevirtual hexec hown hlink hnamed hmethM hstM hkP hkPi hy (a := b) (cell := cellB) hcell
    (fun z h => by rw [h] at hobj; cases hobj) hselP hmethM habM hkP hkPi (g := g) hg (argsL := argsL) (rest := rest) (hlen _ hsigM) hstack hdg
  obtain ⟨v, B, X', hpost, hsteps⟩ := hK m meth c ⟨T.setVm vm₁, locs, cells, slots⟩ { g with stack := rest } (.invokevirtual index) mk (Value.ref b :: argsL).toArray X₁ hg hsize hdg hW (X₁.named hnamed) (hpre vm₁ X₁.warmed)
  exact ⟨v, vm₁, B, X₁.warmed, X', hpost, fun target h => hstep₁ _ fun acts => by rw [doInvoke_state]; exact hsteps.trans h⟩
abbrev vx_CVW (R : Room) (s : State) (args : Array Value) (own C : String) (index : Nat) (y : MethodName) (bytes : ByteArray) (maxL : Nat) (ret : Option FieldType) (hh : List (Nat × Nat × Nat × Nat)) (ws : List Cond) (rm : Room) (mc ms n : Nat) : Prop :=
  (rm.cells = mc ∧ rm.slots = ms ∧ rm.frames + 1 ≤ R.frames ∧ 8 + (maxL + 11) + rm.locals ≤ R.locals ∧ (∀ w ∈ ws, ∀ (a' : Array Value) (U : State), s.WarmedH U.vm → w.before a' U = true) ∧ Cond.codeWith y bytes maxL ret hh ∈ ws) ∧
  (Cond.codeWith y bytes maxL ret hh).before args s = true ∧ (Cond.initialized y.cls).before args s = true ∧ (y.cls ≠ "java/lang/invoke/MethodHandle" ∧ y.cls ≠ "java/lang/invoke/VarHandle") ∧
  (∀ sig, parseMethodDescriptor y.desc = some sig → n = sig.parameters.length) ∧ (Cond.methodLink own index y).before args s = true ∧ (Cond.instanceMethod y).before args s = true ∧ (Cond.selects C y y).before args s = true
theorem vx_cwVW {own C : String} {index maxL mc ms : Nat} {y : MethodName} {bytes : ByteArray} {ret : Option FieldType} {hh : List (Nat × Nat × Nat × Nat)} {Ts ws ws' : List Cond} {rm : Room} (n : Nat) (ht : ∀ w ∈ Ts, w.before args s = true) (hT : GoodIn Ts (wsV own index C y ws)) (hw : ws = Cond.codeWith y bytes maxL ret hh :: ws') (hrc : rm.cells = mc) (hrs : rm.slots = ms)
    (hd : y.cls = C ∧ y.cls ≠ "java/lang/invoke/MethodHandle" ∧ y.cls ≠ "java/lang/invoke/VarHandle" ∧ (parseMethodDescriptor y.desc).map (fun d => d.parameters.length) = some n) (hR : rm.frames + 1 ≤ R.frames ∧ 8 + (maxL + 11) + rm.locals ≤ R.locals) :
    vx_CVW R s args own C index y bytes maxL ret hh ws rm mc ms n := by
  obtain ⟨hC, hd⟩ := hd
  subst hC
  have ok : ∀ w ∈ wsV own index y.cls y ws, w.before args s = true := fun w h => ht w (hT w h).1
  have hG : GoodIn Ts ws := fun w h => hT w (by unfold wsV; exact List.mem_append_right _ h)
  have hc : Cond.codeWith y bytes maxL ret hh ∈ ws := by rw [hw]; exact List.mem_cons_self
  refine ⟨⟨hrc, hrs, hR.1, hR.2, pay_in ht hG, hc⟩, ht _ (hG _ hc).1, ok _ (by simp [wsV]), ⟨hd.1, hd.2.1⟩, fun sig h => ?_, ok _ (by simp [wsV]), ok _ (by simp [wsV]), ok _ (by simp [wsV])⟩
  have h2 := hd.2.2
  rw [h] at h2
  exact (Option.some.inj h2).symm
theorem vx_runVW {y : MethodName} {bytes cc : ByteArray} {maxL nL mc ms n index : Nat} {ret : Option FieldType} {hh : List (Nat × Nat × Nat × Nat)} {ws : List Cond} {rm : Room} {Pc : Array Value → State → Prop} {Qc : Array Value → State → Outcome → State → Prop} {free : Addr → Prop} {Ts : List Cond} {own C : String} {b : Addr} {As rest : List Value} {g : JFrame}
    (S : CallFix p m c cc nL s args Ts own) (hM : Met l y ws rm Pc Qc mc ms free) (cw : vx_CVW R s args own C index y bytes maxL ret hh ws rm mc ms n) (hp : PreV s H C b Pc As)
    (hg : g.method = m) (hn : As.length = n) (hsize : g.locals.size = nL) (hstack : g.stack = As.reverse ++ .ref b :: rest) (hW : 2 * g.monitorRoom + (rest.map fun v => v.category).sum ≤ 8) (hdg : decode cc g.pc = .ok (.invokevirtual index, 3)) (hf : cells + mc ≤ R.cells ∧ slots + ms ≤ R.slots) :
    va_Run p l e R s m args below meth c H locs cells slots mc ms g rest (Qc (Value.ref b :: As).toArray) free := by
  obtain ⟨⟨hrc, hrs, hfr, hlo, hws, hcw⟩, hcode, hini, hy, hlen, hl, hin, hse⟩ := cw
  have hK : Back l R p e below s args y 3 8 (PreOf R mc ms Pc) (PostOf Qc mc ms free) := va_backW (hh := hh) (bytes := bytes) (maxL := maxL) (ret := ret) hM hp.1 hrc hrs hfr hlo hws hcw (fun a' U hW => word_at hW (Or.inl (by first | rfl | simp [Cond.onTables, Cond.keeps, Cond.steady])) hini)
  obtain ⟨hx, hb, hml, ho, -⟩ := S
  obtain ⟨-, ⟨cellB, hcB, hoB, hclB⟩, hPc⟩ := hp
  intro T hT X
  obtain ⟨v, vm₁, ⟨U', l2, c2, s2⟩, hW₁, X', ⟨g', mk, t, L, e1, e2, hq, h1, hL, h2, h3⟩, st⟩ := vx_callVW X hx (C := C) (hh := hh) (bytes := bytes) (maxL := maxL) (ret := ret) ho hl hin hse hcode hy hK (by rw [hT]; exact hcB) hoB hclB hg (hsize.trans hml.symm) (argsL := As) (rest := rest) (fun sig h => hn.trans (hlen sig h)) hstack hW (by rw [hb]; exact hdg)
    (fun vm₁ hW₁ => ⟨hf.1, hf.2, hPc (T.setVm vm₁) hT hW₁⟩)
  dsimp only [Pt.U, Pt.locs, Pt.cells, Pt.slots] at X' e1 e2 h1 h2 h3 st
  subst h1; subst h2; subst h3
  exact ⟨v, (T.setVm vm₁).calling g' mk (Value.ref b :: As).toArray, t, U', L, hT, X', hL, e1, e2, hq, st⟩
section
variable {y : MethodName} {bytes cc : ByteArray} {maxL nL mc ms n index : Nat} {ret : Option FieldType} {ws : List Cond} {rm : Room} {Pc : Array Value → State → Prop} {Qc : Array Value → State → Outcome → State → Prop} {XC : String → State → State → Prop} {free : Addr → Prop} {Ts : List Cond} {own C : String} {b : Addr} {As rest : List Value} {g : JFrame}
theorem vx_runVX {hh : List (Nat × Nat × Nat × Nat)} (S : CallFix p m c cc nL s args Ts own) (hM : vx_Met l y ws rm Pc Qc XC mc ms free) (cw : vx_CVW R s args own C index y bytes maxL ret hh ws rm mc ms n) (hp : PreV s H C b Pc As)
    (hg : g.method = m) (hn : As.length = n) (hsize : g.locals.size = nL) (hstack : g.stack = As.reverse ++ .ref b :: rest) (hW : 2 * g.monitorRoom + (rest.map fun v => v.category).sum ≤ 8) (hdg : decode cc g.pc = .ok (.invokevirtual index, 3)) (hf : cells + mc ≤ R.cells ∧ slots + ms ≤ R.slots) :
    vx_Run p l e R s m args below meth c H locs cells slots mc ms g rest (Qc (Value.ref b :: As).toArray) XC free := by
  obtain ⟨⟨hrc, hrs, hfr, hlo, hws, hcw⟩, hcode, hini, hy, hlen, hl, hin, hse⟩ := cw
  have hK : vx_Back l R p e below s args y 3 8 (PreOf R mc ms Pc) (PostOf Qc mc ms free) (vx_Post XC mc ms free) := vx_backW (hh := hh) (bytes := bytes) (maxL := maxL) (ret := ret) hM hp.1 hrc hrs hfr hlo hws hcw (fun a' U hW => word_at hW (Or.inl (by first | rfl | simp [Cond.onTables, Cond.keeps, Cond.steady])) hini)
  obtain ⟨hx, hb, hml, ho, -⟩ := S
  obtain ⟨-, ⟨cellB, hcB, hoB, hclB⟩, hPc⟩ := hp
  intro T hT X
  rcases vx_callVX X hx (C := C) (hh := hh) (bytes := bytes) (maxL := maxL) (ret := ret) ho hl hin hse hcode hy hK (by rw [hT]; exact hcB) hoB hclB hg (hsize.trans hml.symm) (argsL := As) (rest := rest) (fun sig h => hn.trans (hlen sig h)) hstack hW (by rw [hb]; exact hdg)
    (fun vm₁ hW₁ => ⟨hf.1, hf.2, hPc (T.setVm vm₁) hT hW₁⟩) with ⟨v, vm₁, ⟨U', l2, c2, s2⟩, hW₁, X', ⟨g', mk, t, L, e1, e2, hq, h1, hL, h2, h3⟩, st⟩ | ⟨q, vm₁, ⟨U', l2, c2, s2⟩, hW₁, X', ⟨g', mk, t, L, E, ce, e1, e2, hq, hce, hcv, hcl, h1, hL, h2, h3⟩, st⟩
  · dsimp only [Pt.U, Pt.locs, Pt.cells, Pt.slots] at X' e1 e2 h1 h2 h3 st
    subst h1; subst h2; subst h3
    exact Or.inl ⟨v, (T.setVm vm₁).calling g' mk (Value.ref b :: As).toArray, t, U', L, hT, X', hL, e1, e2, hq, st⟩
  · dsimp only [Pt.U, Pt.locs, Pt.cells, Pt.slots] at X' e1 e2 h1 h2 h3 st hcl
    subst h1; subst h2; subst h3
    exact Or.inr ⟨q, (T.setVm vm₁).calling g' mk (Value.ref b :: As).toArray, t, U', L, E, ce, hT, X', hL, e1, e2, hq, hce, hcv, vx_cls hW₁ hcl, st⟩
theorem vx_runSX {hh : List (Nat × Nat × Nat × Nat)} (S : CallFix p m c cc nL s args Ts own) (hM : vx_Met l y ws rm Pc Qc XC mc ms free) (cw : vx_CSW R s args own index y bytes maxL ret hh ws rm mc ms n) (hp : PreS s H Pc As)
    (hg : g.method = m) (hn : As.length = n) (hsize : g.locals.size = nL) (hstack : g.stack = As.reverse ++ rest) (hW : 2 * g.monitorRoom + (rest.map fun v => v.category).sum ≤ 8) (hdg : decode cc g.pc = .ok (.invokestatic index, 3)) (hf : cells + mc ≤ R.cells ∧ slots + ms ≤ R.slots) :
    vx_Run p l e R s m args below meth c H locs cells slots mc ms g rest (Qc As.toArray) XC free := by
  obtain ⟨⟨hrc, hrs, hfr, hlo, hws, hcw⟩, hcode, hini, hy, hlen, hl, hstt⟩ := cw
  have hK : vx_Back l R p e below s args y 3 8 (PreOf R mc ms Pc) (PostOf Qc mc ms free) (vx_Post XC mc ms free) := vx_backW (hh := hh) (bytes := bytes) (maxL := maxL) (ret := ret) hM hp.1 hrc hrs hfr hlo hws hcw (fun a' U hW => word_at hW (Or.inl (by first | rfl | simp [Cond.onTables, Cond.keeps, Cond.steady])) hini)
  obtain ⟨hx, hb, hml, ho, -⟩ := S
  intro T hT X
  rcases vx_callSX X hx (hh := hh) (bytes := bytes) (maxL := maxL) (ret := ret) ho hl hstt hini hcode hy hK hg (hsize.trans hml.symm) (argsL := As) (rest := rest) (fun sig h => hn.trans (hlen sig h)) hstack hW (by rw [hb]; exact hdg)
    (fun vm₁ hW₁ => ⟨hf.1, hf.2, hp.2 (T.setVm vm₁) hT hW₁⟩) with ⟨v, vm₁, ⟨U', l2, c2, s2⟩, hW₁, X', ⟨g', mk, t, L, e1, e2, hq, h1, hL, h2, h3⟩, st⟩ | ⟨q, vm₁, ⟨U', l2, c2, s2⟩, hW₁, X', ⟨g', mk, t, L, E, ce, e1, e2, hq, hce, hcv, hcl, h1, hL, h2, h3⟩, st⟩
  · dsimp only [Pt.U, Pt.locs, Pt.cells, Pt.slots] at X' e1 e2 h1 h2 h3 st
    subst h1; subst h2; subst h3
    exact Or.inl ⟨v, (T.setVm vm₁).calling g' mk As.toArray, t, U', L, hT, X', hL, e1, e2, hq, st⟩
  · dsimp only [Pt.U, Pt.locs, Pt.cells, Pt.slots] at X' e1 e2 h1 h2 h3 st hcl
    subst h1; subst h2; subst h3
    exact Or.inr ⟨q, (T.setVm vm₁).calling g' mk As.toArray, t, U', L, E, ce, hT, X', hL, e1, e2, hq, hce, hcv, vx_cls hW₁ hcl, st⟩
end
end VXH
theorem vx_ofWH {l : Launch} {y : MethodName} {ws ws' : List Cond} {rm : Room} {Pc : Array Value → State → Prop} {Qc : Array Value → State → Outcome → State → Prop} {XC : String → State → State → Prop} {mc ms : Nat} {free : Addr → Prop} {cc : ByteArray} {maxL : Nat} {ret : Option FieldType} {hh : List (Nat × Nat × Nat × Nat)}
    (hy : plainName y.cls = true) (hw : ws = Cond.codeWith y cc maxL ret hh :: ws')
    (body : ∀ p e s m args below meth c s₁, BodyLoose p l y (headSpec ws rm) cc maxL ret e s m args below meth c s₁ → c.maxLocals = maxL → Pc args s →
      W p l e (headSpec ws rm).room s m args below meth c s.heap [] 0 0 (vx_MQ below Qc XC args s mc ms free) (entryFrame m args maxL)) : vx_Met l y ws rm Pc Qc XC mc ms free := by
  refine MetFree.of_bodyS (code := cc) (maxLocals := maxL) (ret := ret) hy ?_ ?_
  · intro args s m h hn
    obtain ⟨m9, meth, c, hn9, h1, h2, h3, h4, -, h5, h6, -⟩ := Cond.codeWith_spec (atoms_spec (ws := ws) h _ (by rw [hw]; exact List.mem_cons_self))
    cases hn.symm.trans hn9
    exact ⟨meth, c, h1, h2, h3, h4, h5, h6⟩
  · intro p e s m args below meth c s₁ B hml hP _
    have hh0 : s₁.heap = s.heap := by rw [B.state]; rfl
    obtain ⟨t, a1, o, b1, b2, b3⟩ := body p e s m args below meth c s₁ B hml hP s₁ hh0 (Stand.of_body B)
    exact ⟨t, o, a1, b1, b2, b3⟩
/-! ===== END ===== -/
end
section
def RX0 : String := "ScoreSheaf$Hearing"
def TX0 : u_T := fun k => match k with
  | 0 => ("ScoreSheaf$Hearing", "version", "I", false)
  | 1 => ("ScoreSheaf$Hearing", "told", "[I", true)
  | _ => ("ScoreSheaf$Hearing", "counted", "[I", true)
def tyX0 : Nat → FieldType := fun k => match k with
  | 0 => .int
  | 1 => .array .int
  | _ => .array .int
abbrev wsX00 : List Cond := u_ws RX0 TX0 3
theorem nmX0 : ∀ a, a < 3 → ∀ b, b < 3 → a ≠ b → (TX0 a).2.1 ≠ (TX0 b).2.1 := by decide +kernel
theorem tyX0_ok : ∀ k, k < 3 → parseFieldDescriptor (TX0 k).2.2.1 = some (tyX0 k) := by decide +kernel
abbrev cX0_init : ByteArray := prog_2_method_1_code
def yX0_init : MethodName := ⟨RX0, "<init>", "()V"⟩
abbrev cX0_startWith : ByteArray := prog_2_method_2_code
def yX0_startWith : MethodName := ⟨RX0, "startWith", "(I)V"⟩
abbrev cX0_score : ByteArray := prog_2_method_3_code
def yX0_score : MethodName := ⟨RX0, "score", "()I"⟩
abbrev cX0_fallingMarks : ByteArray := prog_2_method_4_code
def yX0_fallingMarks : MethodName := ⟨RX0, "fallingMarks", "()J"⟩
def RX1 : String := "ScoreSheaf$Piece"
def TX1 : u_T := fun k => match k with
  | 0 => ("ScoreSheaf$Piece", "first", "I", true)
  | 1 => ("ScoreSheaf$Piece", "parts", "I", true)
  | _ => ("ScoreSheaf$Piece", "rules", "[C", true)
def tyX1 : Nat → FieldType := fun k => match k with
  | 0 => .int
  | 1 => .int
  | _ => .array .char
abbrev wsX10 : List Cond := u_ws RX1 TX1 3
theorem nmX1 : ∀ a, a < 3 → ∀ b, b < 3 → a ≠ b → (TX1 a).2.1 ≠ (TX1 b).2.1 := by decide +kernel
theorem tyX1_ok : ∀ k, k < 3 → parseFieldDescriptor (TX1 k).2.2.1 = some (tyX1 k) := by decide +kernel
abbrev cX1_init : ByteArray := prog_3_method_1_code
def yX1_init : MethodName := ⟨RX1, "<init>", "(II)V"⟩
abbrev cX1_hasPart : ByteArray := prog_3_method_2_code
def yX1_hasPart : MethodName := ⟨RX1, "hasPart", "(I)Z"⟩
def RX2 : String := "ScoreSheaf$Prize"
def TX2 : u_T := fun k => match k with
  | 0 => ("ScoreSheaf$Prize", "version", "I", true)
  | 1 => ("ScoreSheaf$Prize", "coins", "I", true)
  | _ => ("ScoreSheaf$Prize", "shares", "[I", true)
def tyX2 : Nat → FieldType := fun k => match k with
  | 0 => .int
  | 1 => .int
  | _ => .array .int
abbrev wsX20 : List Cond := u_ws RX2 TX2 3
theorem nmX2 : ∀ a, a < 3 → ∀ b, b < 3 → a ≠ b → (TX2 a).2.1 ≠ (TX2 b).2.1 := by decide +kernel
theorem tyX2_ok : ∀ k, k < 3 → parseFieldDescriptor (TX2 k).2.2.1 = some (tyX2 k) := by decide +kernel
abbrev cX2_init : ByteArray := prog_4_method_1_code
def yX2_init : MethodName := ⟨RX2, "<init>", "(II)V"⟩
abbrev cX2_shareOut : ByteArray := prog_4_method_2_code
def yX2_shareOut : MethodName := ⟨RX2, "shareOut", "(LScoreSheaf$Version;)V"⟩
abbrev cX2_greatestOf : ByteArray := prog_4_method_3_code
def yX2_greatestOf : MethodName := ⟨RX2, "greatestOf", "([I)I"⟩
def RX3 : String := "ScoreSheaf$Row"
def TX3 : u_T := fun k => match k with
  | 0 => ("ScoreSheaf$Row", "editor", "I", true)
  | _ => ("ScoreSheaf$Row", "notes", "[I", true)
def tyX3 : Nat → FieldType := fun k => match k with
  | 0 => .int
  | _ => .array .int
abbrev wsX30 : List Cond := u_ws RX3 TX3 2
theorem nmX3 : ∀ a, a < 2 → ∀ b, b < 2 → a ≠ b → (TX3 a).2.1 ≠ (TX3 b).2.1 := by decide +kernel
theorem tyX3_ok : ∀ k, k < 2 → parseFieldDescriptor (TX3 k).2.2.1 = some (tyX3 k) := by decide +kernel
abbrev cX3_init : ByteArray := prog_5_method_1_code
def yX3_init : MethodName := ⟨RX3, "<init>", "(I[I)V"⟩
abbrev cX3_isLike : ByteArray := prog_5_method_2_code
def yX3_isLike : MethodName := ⟨RX3, "isLike", "(LScoreSheaf$Row;)Z"⟩
abbrev cX3_partsBy : ByteArray := prog_5_method_3_code
def yX3_partsBy : MethodName := ⟨RX3, "partsBy", "(I)I"⟩
abbrev cX3_sumOnto : ByteArray := prog_5_method_4_code
def yX3_sumOnto : MethodName := ⟨RX3, "sumOnto", "(J)J"⟩
def RX4 : String := "ScoreSheaf$Sheaf"
def TX4 : u_T := fun k => match k with
  | 0 => ("ScoreSheaf$Sheaf", "held", "[LScoreSheaf$Row;", true)
  | _ => ("ScoreSheaf$Sheaf", "count", "I", false)
def tyX4 : Nat → FieldType := fun k => match k with
  | 0 => .array (.object "ScoreSheaf$Row")
  | _ => .int
abbrev wsX40 : List Cond := u_ws RX4 TX4 2
theorem nmX4 : ∀ a, a < 2 → ∀ b, b < 2 → a ≠ b → (TX4 a).2.1 ≠ (TX4 b).2.1 := by decide +kernel
theorem tyX4_ok : ∀ k, k < 2 → parseFieldDescriptor (TX4 k).2.2.1 = some (tyX4 k) := by decide +kernel
abbrev cX4_init : ByteArray := prog_6_method_1_code
def yX4_init : MethodName := ⟨RX4, "<init>", "()V"⟩
abbrev cX4_rowAt : ByteArray := prog_6_method_2_code
def yX4_rowAt : MethodName := ⟨RX4, "rowAt", "(I)LScoreSheaf$Row;"⟩
abbrev cX4_take : ByteArray := prog_6_method_3_code
def yX4_take : MethodName := ⟨RX4, "take", "(LScoreSheaf$Row;)V"⟩
abbrev cX4_takeUnlike : ByteArray := prog_6_method_4_code
def yX4_takeUnlike : MethodName := ⟨RX4, "takeUnlike", "(LScoreSheaf$Sheaf;)V"⟩
abbrev cX4_hasLike : ByteArray := prog_6_method_5_code
def yX4_hasLike : MethodName := ⟨RX4, "hasLike", "(LScoreSheaf$Row;)Z"⟩
abbrev cX4_isLike : ByteArray := prog_6_method_6_code
def yX4_isLike : MethodName := ⟨RX4, "isLike", "(LScoreSheaf$Sheaf;)Z"⟩
abbrev cX4_notesInAll : ByteArray := prog_6_method_7_code
def yX4_notesInAll : MethodName := ⟨RX4, "notesInAll", "()I"⟩
abbrev cX4_partsBy : ByteArray := prog_6_method_8_code
def yX4_partsBy : MethodName := ⟨RX4, "partsBy", "(I)I"⟩
abbrev cX4_sumOnto : ByteArray := prog_6_method_9_code
def yX4_sumOnto : MethodName := ⟨RX4, "sumOnto", "(J)J"⟩
def RX5 : String := "ScoreSheaf$Version"
def TX5 : u_T := fun k => match k with
  | 0 => ("ScoreSheaf$Version", "number", "I", true)
  | 1 => ("ScoreSheaf$Version", "pieceNumber", "I", true)
  | 2 => ("ScoreSheaf$Version", "above", "J", true)
  | 3 => ("ScoreSheaf$Version", "writtenFrom", "I", true)
  | _ => ("ScoreSheaf$Version", "sheaves", "[LScoreSheaf$Sheaf;", true)
def tyX5 : Nat → FieldType := fun k => match k with
  | 0 => .int
  | 1 => .int
  | 2 => .long
  | 3 => .int
  | _ => .array (.object "ScoreSheaf$Sheaf")
abbrev wsX50 : List Cond := u_ws RX5 TX5 5
theorem nmX5 : ∀ a, a < 5 → ∀ b, b < 5 → a ≠ b → (TX5 a).2.1 ≠ (TX5 b).2.1 := by decide +kernel
theorem tyX5_ok : ∀ k, k < 5 → parseFieldDescriptor (TX5 k).2.2.1 = some (tyX5 k) := by decide +kernel
abbrev cX5_init : ByteArray := prog_7_method_1_code
def yX5_init : MethodName := ⟨RX5, "<init>", "(IIJI)V"⟩
abbrev cX5_sheafAt : ByteArray := prog_7_method_2_code
def yX5_sheafAt : MethodName := ⟨RX5, "sheafAt", "(II)LScoreSheaf$Sheaf;"⟩
abbrev cX5_put : ByteArray := prog_7_method_3_code
def yX5_put : MethodName := ⟨RX5, "put", "(ILScoreSheaf$Sheaf;)V"⟩
abbrev cX5_fillEmpty : ByteArray := prog_7_method_4_code
def yX5_fillEmpty : MethodName := ⟨RX5, "fillEmpty", "(II)V"⟩
abbrev cX5_copySheaves : ByteArray := prog_7_method_5_code
def yX5_copySheaves : MethodName := ⟨RX5, "copySheaves", "(LScoreSheaf$Version;)V"⟩
abbrev cX5_mergeSheaves : ByteArray := prog_7_method_6_code
def yX5_mergeSheaves : MethodName := ⟨RX5, "mergeSheaves", "(LScoreSheaf$Version;LScoreSheaf$Version;LScoreSheaf$Version;LScoreSheaf$Piece;)V"⟩
abbrev cX5_fuller : ByteArray := prog_7_method_7_code
def yX5_fuller : MethodName := ⟨RX5, "fuller", "(LScoreSheaf$Sheaf;LScoreSheaf$Sheaf;)LScoreSheaf$Sheaf;"⟩
abbrev cX5_both : ByteArray := prog_7_method_8_code
def yX5_both : MethodName := ⟨RX5, "both", "(LScoreSheaf$Sheaf;LScoreSheaf$Sheaf;)LScoreSheaf$Sheaf;"⟩
abbrev cX5_isUnder : ByteArray := prog_7_method_9_code
def yX5_isUnder : MethodName := ⟨RX5, "isUnder", "(LScoreSheaf$Version;)Z"⟩
abbrev cX5_sheavesUnlike : ByteArray := prog_7_method_10_code
def yX5_sheavesUnlike : MethodName := ⟨RX5, "sheavesUnlike", "(LScoreSheaf$Version;)I"⟩
abbrev cX5_sheavesInDoubt : ByteArray := prog_7_method_11_code
def yX5_sheavesInDoubt : MethodName := ⟨RX5, "sheavesInDoubt", "()I"⟩
abbrev cX5_partsBy : ByteArray := prog_7_method_12_code
def yX5_partsBy : MethodName := ⟨RX5, "partsBy", "(I)I"⟩
abbrev cX5_sum : ByteArray := prog_7_method_13_code
def yX5_sum : MethodName := ⟨RX5, "sum", "()J"⟩
def RX6 : String := "ScoreSheaf"
def TX6 : u_T := fun k => match k with
  | 0 => ("ScoreSheaf", "pieceList", "[LScoreSheaf$Piece;", true)
  | 1 => ("ScoreSheaf", "pieceCount", "I", false)
  | 2 => ("ScoreSheaf", "versionList", "[LScoreSheaf$Version;", true)
  | 3 => ("ScoreSheaf", "versionCount", "I", false)
  | 4 => ("ScoreSheaf", "hearings", "[LScoreSheaf$Hearing;", true)
  | 5 => ("ScoreSheaf", "prizeList", "[LScoreSheaf$Prize;", true)
  | 6 => ("ScoreSheaf", "prizeCount", "I", false)
  | 7 => ("ScoreSheaf", "typed", "[I", true)
  | _ => ("ScoreSheaf", "typedCount", "I", false)
def tyX6 : Nat → FieldType := fun k => match k with
  | 0 => .array (.object "ScoreSheaf$Piece")
  | 1 => .int
  | 2 => .array (.object "ScoreSheaf$Version")
  | 3 => .int
  | 4 => .array (.object "ScoreSheaf$Hearing")
  | 5 => .array (.object "ScoreSheaf$Prize")
  | 6 => .int
  | 7 => .array .int
  | _ => .int
abbrev wsX60 : List Cond := u_ws RX6 TX6 9
theorem nmX6 : ∀ a, a < 9 → ∀ b, b < 9 → a ≠ b → (TX6 a).2.1 ≠ (TX6 b).2.1 := by decide +kernel
theorem tyX6_ok : ∀ k, k < 9 → parseFieldDescriptor (TX6 k).2.2.1 = some (tyX6 k) := by decide +kernel
abbrev cX6_init : ByteArray := prog_1_method_1_code
def yX6_init : MethodName := ⟨RX6, "<init>", "()V"⟩
abbrev cX6_piece : ByteArray := prog_1_method_2_code
def yX6_piece : MethodName := ⟨RX6, "piece", "(II)I"⟩
abbrev cX6_firstOf : ByteArray := prog_1_method_3_code
def yX6_firstOf : MethodName := ⟨RX6, "firstOf", "(I)I"⟩
abbrev cX6_pieceOf : ByteArray := prog_1_method_4_code
def yX6_pieceOf : MethodName := ⟨RX6, "pieceOf", "(I)I"⟩
abbrev cX6_note : ByteArray := prog_1_method_5_code
def yX6_note : MethodName := ⟨RX6, "note", "(I)I"⟩
abbrev cX6_wipe : ByteArray := prog_1_method_6_code
def yX6_wipe : MethodName := ⟨RX6, "wipe", "()I"⟩
abbrev cX6_write : ByteArray := prog_1_method_7_code
def yX6_write : MethodName := ⟨RX6, "write", "(IIII)I"⟩
abbrev cX6_rule : ByteArray := prog_1_method_8_code
def yX6_rule : MethodName := ⟨RX6, "rule", "(IIC)C"⟩
abbrev cX6_merge : ByteArray := prog_1_method_9_code
def yX6_merge : MethodName := ⟨RX6, "merge", "(III)I"⟩
abbrev cX6_base : ByteArray := prog_1_method_10_code
def yX6_base : MethodName := ⟨RX6, "base", "(II)I"⟩
abbrev cX6_isAbove : ByteArray := prog_1_method_11_code
def yX6_isAbove : MethodName := ⟨RX6, "isAbove", "(II)Z"⟩
abbrev cX6_rows : ByteArray := prog_1_method_12_code
def yX6_rows : MethodName := ⟨RX6, "rows", "(III)I"⟩
abbrev cX6_noteAt : ByteArray := prog_1_method_13_code
def yX6_noteAt : MethodName := ⟨RX6, "noteAt", "(IIIII)I"⟩
abbrev cX6_writer : ByteArray := prog_1_method_14_code
def yX6_writer : MethodName := ⟨RX6, "writer", "(IIII)I"⟩
abbrev cX6_doubts : ByteArray := prog_1_method_15_code
def yX6_doubts : MethodName := ⟨RX6, "doubts", "(I)I"⟩
abbrev cX6_unlike : ByteArray := prog_1_method_16_code
def yX6_unlike : MethodName := ⟨RX6, "unlike", "(II)I"⟩
abbrev cX6_hear : ByteArray := prog_1_method_17_code
def yX6_hear : MethodName := ⟨RX6, "hear", "(II)I"⟩
abbrev cX6_mark : ByteArray := prog_1_method_18_code
def yX6_mark : MethodName := ⟨RX6, "mark", "(IIII)I"⟩
abbrev cX6_affirm : ByteArray := prog_1_method_19_code
def yX6_affirm : MethodName := ⟨RX6, "affirm", "(III)I"⟩
abbrev cX6_asked : ByteArray := prog_1_method_20_code
def yX6_asked : MethodName := ⟨RX6, "asked", "()I"⟩
abbrev cX6_points : ByteArray := prog_1_method_21_code
def yX6_points : MethodName := ⟨RX6, "points", "(II)I"⟩
abbrev cX6_ranked : ByteArray := prog_1_method_22_code
def yX6_ranked : MethodName := ⟨RX6, "ranked", "(I)I"⟩
abbrev cX6_isTied : ByteArray := prog_1_method_23_code
def yX6_isTied : MethodName := ⟨RX6, "isTied", "(I)Z"⟩
abbrev cX6_give : ByteArray := prog_1_method_24_code
def yX6_give : MethodName := ⟨RX6, "give", "(II)I"⟩
abbrev cX6_named : ByteArray := prog_1_method_25_code
def yX6_named : MethodName := ⟨RX6, "named", "(I)I"⟩
abbrev cX6_share : ByteArray := prog_1_method_26_code
def yX6_share : MethodName := ⟨RX6, "share", "(II)I"⟩
abbrev cX6_got : ByteArray := prog_1_method_27_code
def yX6_got : MethodName := ⟨RX6, "got", "(I)I"⟩
abbrev cX6_partsOf : ByteArray := prog_1_method_28_code
def yX6_partsOf : MethodName := ⟨RX6, "partsOf", "(II)I"⟩
abbrev cX6_versions : ByteArray := prog_1_method_29_code
def yX6_versions : MethodName := ⟨RX6, "versions", "()I"⟩
abbrev cX6_countShare : ByteArray := prog_1_method_30_code
def yX6_countShare : MethodName := ⟨RX6, "countShare", "()F"⟩
abbrev cX6_meanMark : ByteArray := prog_1_method_31_code
def yX6_meanMark : MethodName := ⟨RX6, "meanMark", "()D"⟩
abbrev cX6_checksum : ByteArray := prog_1_method_32_code
def yX6_checksum : MethodName := ⟨RX6, "checksum", "(I)J"⟩
abbrev cX6_isSound : ByteArray := prog_1_method_33_code
def yX6_isSound : MethodName := ⟨RX6, "isSound", "()Z"⟩
abbrev cX6_pieceAt : ByteArray := prog_1_method_34_code
def yX6_pieceAt : MethodName := ⟨RX6, "pieceAt", "(I)LScoreSheaf$Piece;"⟩
abbrev cX6_versionAt : ByteArray := prog_1_method_35_code
def yX6_versionAt : MethodName := ⟨RX6, "versionAt", "(I)LScoreSheaf$Version;"⟩
abbrev cX6_prizeAt : ByteArray := prog_1_method_36_code
def yX6_prizeAt : MethodName := ⟨RX6, "prizeAt", "(I)LScoreSheaf$Prize;"⟩
abbrev cX6_sheafAt : ByteArray := prog_1_method_37_code
def yX6_sheafAt : MethodName := ⟨RX6, "sheafAt", "(III)LScoreSheaf$Sheaf;"⟩
abbrev cX6_hearingAt : ByteArray := prog_1_method_38_code
def yX6_hearingAt : MethodName := ⟨RX6, "hearingAt", "(II)LScoreSheaf$Hearing;"⟩
abbrev cX6_isEditor : ByteArray := prog_1_method_39_code
def yX6_isEditor : MethodName := ⟨RX6, "isEditor", "(I)Z"⟩
abbrev cX6_isJuror : ByteArray := prog_1_method_40_code
def yX6_isJuror : MethodName := ⟨RX6, "isJuror", "(I)Z"⟩
abbrev cX6_keep : ByteArray := prog_1_method_41_code
def yX6_keep : MethodName := ⟨RX6, "keep", "(LScoreSheaf$Version;)V"⟩
abbrev cX6_baseOf : ByteArray := prog_1_method_42_code
def yX6_baseOf : MethodName := ⟨RX6, "baseOf", "(LScoreSheaf$Version;LScoreSheaf$Version;)I"⟩
abbrev cX6_askAgain : ByteArray := prog_1_method_43_code
def yX6_askAgain : MethodName := ⟨RX6, "askAgain", "(LScoreSheaf$Version;LScoreSheaf$Version;)V"⟩
abbrev cX6_marksTold : ByteArray := prog_1_method_44_code
def yX6_marksTold : MethodName := ⟨RX6, "marksTold", "()I"⟩
abbrev cX6_marksCounted : ByteArray := prog_1_method_45_code
def yX6_marksCounted : MethodName := ⟨RX6, "marksCounted", "()I"⟩
abbrev cX6_sumCounted : ByteArray := prog_1_method_46_code
def yX6_sumCounted : MethodName := ⟨RX6, "sumCounted", "()I"⟩
abbrev cX6_countOf : ByteArray := prog_1_method_47_code
def yX6_countOf : MethodName := ⟨RX6, "countOf", "([I)I"⟩
abbrev cX6_sumOf : ByteArray := prog_1_method_48_code
def yX6_sumOf : MethodName := ⟨RX6, "sumOf", "([I)I"⟩
abbrev cX6_scoreIn : ByteArray := prog_1_method_49_code
def yX6_scoreIn : MethodName := ⟨RX6, "scoreIn", "(II)I"⟩
abbrev cX6_openScore : ByteArray := prog_1_method_50_code
def yX6_openScore : MethodName := ⟨RX6, "openScore", "(I)I"⟩
abbrev cX6_fallingMarksIn : ByteArray := prog_1_method_51_code
def yX6_fallingMarksIn : MethodName := ⟨RX6, "fallingMarksIn", "(II)J"⟩
abbrev cX6_isAhead : ByteArray := prog_1_method_52_code
def yX6_isAhead : MethodName := ⟨RX6, "isAhead", "(II)Z"⟩
abbrev cX6_rankOf : ByteArray := prog_1_method_53_code
def yX6_rankOf : MethodName := ⟨RX6, "rankOf", "(I)I"⟩
abbrev cX6_pieceWithRank : ByteArray := prog_1_method_54_code
def yX6_pieceWithRank : MethodName := ⟨RX6, "pieceWithRank", "(I)I"⟩
abbrev cX6_lastHeard : ByteArray := prog_1_method_55_code
def yX6_lastHeard : MethodName := ⟨RX6, "lastHeard", "(I)I"⟩
abbrev cX6_prizesAreShared : ByteArray := prog_1_method_56_code
def yX6_prizesAreShared : MethodName := ⟨RX6, "prizesAreShared", "()Z"⟩
abbrev cX6_writtenAreNear : ByteArray := prog_1_method_57_code
def yX6_writtenAreNear : MethodName := ⟨RX6, "writtenAreNear", "()Z"⟩
abbrev cX6_ranksAreOwn : ByteArray := prog_1_method_58_code
def yX6_ranksAreOwn : MethodName := ⟨RX6, "ranksAreOwn", "()Z"⟩
abbrev cX6_sheafOf : ByteArray := prog_1_method_59_code
def yX6_sheafOf : MethodName := ⟨RX6, "sheafOf", "(LScoreSheaf$Row;)LScoreSheaf$Sheaf;"⟩
abbrev cX6_areAlike : ByteArray := prog_1_method_60_code
def yX6_areAlike : MethodName := ⟨RX6, "areAlike", "(LScoreSheaf$Sheaf;LScoreSheaf$Sheaf;)Z"⟩
def RX7 : String := "ScoreSheafModel"
def TX7 : u_T := fun k => match k with
  | 0 => ("ScoreSheafModel", "pieces", "I", false)
  | 1 => ("ScoreSheafModel", "versions", "I", false)
  | 2 => ("ScoreSheafModel", "typed", "I", false)
  | 3 => ("ScoreSheafModel", "prizes", "I", false)
  | 4 => ("ScoreSheafModel", "thrown", "I", false)
  | 5 => ("ScoreSheafModel", "bars", "[I", true)
  | 6 => ("ScoreSheafModel", "parts", "[I", true)
  | 7 => ("ScoreSheafModel", "firsts", "[I", true)
  | 8 => ("ScoreSheafModel", "rules", "[C", true)
  | 9 => ("ScoreSheafModel", "pieceOf", "[I", true)
  | 10 => ("ScoreSheafModel", "parents", "[I", true)
  | 11 => ("ScoreSheafModel", "seconds", "[I", true)
  | 12 => ("ScoreSheafModel", "d", "[I", true)
  | 13 => ("ScoreSheafModel", "row", "[I", true)
  | 14 => ("ScoreSheafModel", "heard", "[I", true)
  | 15 => ("ScoreSheafModel", "marks", "[I", true)
  | 16 => ("ScoreSheafModel", "isAsked", "[Z", true)
  | 17 => ("ScoreSheafModel", "is", "[Z", true)
  | 18 => ("ScoreSheafModel", "named", "[I", true)
  | 19 => ("ScoreSheafModel", "coins", "[I", true)
  | _ => ("ScoreSheafModel", "shares", "[I", true)
def tyX7 : Nat → FieldType := fun k => match k with
  | 0 => .int
  | 1 => .int
  | 2 => .int
  | 3 => .int
  | 4 => .int
  | 5 => .array .int
  | 6 => .array .int
  | 7 => .array .int
  | 8 => .array .char
  | 9 => .array .int
  | 10 => .array .int
  | 11 => .array .int
  | 12 => .array .int
  | 13 => .array .int
  | 14 => .array .int
  | 15 => .array .int
  | 16 => .array .boolean
  | 17 => .array .boolean
  | 18 => .array .int
  | 19 => .array .int
  | _ => .array .int
abbrev wsX70 : List Cond := u_ws RX7 TX7 21
theorem nmX7 : ∀ a, a < 21 → ∀ b, b < 21 → a ≠ b → (TX7 a).2.1 ≠ (TX7 b).2.1 := by decide +kernel
theorem tyX7_ok : ∀ k, k < 21 → parseFieldDescriptor (TX7 k).2.2.1 = some (tyX7 k) := by decide +kernel
abbrev cX7_init : ByteArray := prog_9_method_1_code
def yX7_init : MethodName := ⟨RX7, "<init>", "()V"⟩
abbrev cX7_thrown : ByteArray := prog_9_method_2_code
def yX7_thrown : MethodName := ⟨RX7, "thrown", "()I"⟩
abbrev cX7_in : ByteArray := prog_9_method_3_code
def yX7_in : MethodName := ⟨RX7, "in", "(III)Z"⟩
abbrev cX7_fails : ByteArray := prog_9_method_4_code
def yX7_fails : MethodName := ⟨RX7, "fails", "(I)I"⟩
abbrev cX7_tells : ByteArray := prog_9_method_5_code
def yX7_tells : MethodName := ⟨RX7, "tells", "(I)I"⟩
abbrev cX7_isPiece : ByteArray := prog_9_method_6_code
def yX7_isPiece : MethodName := ⟨RX7, "isPiece", "(I)Z"⟩
abbrev cX7_isVersion : ByteArray := prog_9_method_7_code
def yX7_isVersion : MethodName := ⟨RX7, "isVersion", "(I)Z"⟩
abbrev cX7_size : ByteArray := prog_9_method_8_code
def yX7_size : MethodName := ⟨RX7, "size", "(I)I"⟩
abbrev cX7_at : ByteArray := prog_9_method_9_code
def yX7_at : MethodName := ⟨RX7, "at", "(III)I"⟩
abbrev cX7_sheafAt : ByteArray := prog_9_method_10_code
def yX7_sheafAt : MethodName := ⟨RX7, "sheafAt", "(II)I"⟩
abbrev cX7_adds : ByteArray := prog_9_method_11_code
def yX7_adds : MethodName := ⟨RX7, "adds", "(III)I"⟩
abbrev cX7_piece : ByteArray := prog_9_method_12_code
def yX7_piece : MethodName := ⟨RX7, "piece", "(II)I"⟩
abbrev cX7_firstOf : ByteArray := prog_9_method_13_code
def yX7_firstOf : MethodName := ⟨RX7, "firstOf", "(I)I"⟩
abbrev cX7_pieceOf : ByteArray := prog_9_method_14_code
def yX7_pieceOf : MethodName := ⟨RX7, "pieceOf", "(I)I"⟩
abbrev cX7_note : ByteArray := prog_9_method_15_code
def yX7_note : MethodName := ⟨RX7, "note", "(I)I"⟩
abbrev cX7_wipe : ByteArray := prog_9_method_16_code
def yX7_wipe : MethodName := ⟨RX7, "wipe", "()I"⟩
abbrev cX7_isSheaf : ByteArray := prog_9_method_17_code
def yX7_isSheaf : MethodName := ⟨RX7, "isSheaf", "(III)Z"⟩
abbrev cX7_copies : ByteArray := prog_9_method_18_code
def yX7_copies : MethodName := ⟨RX7, "copies", "(II)V"⟩
abbrev cX7_write : ByteArray := prog_9_method_19_code
def yX7_write : MethodName := ⟨RX7, "write", "(IIII)I"⟩
abbrev cX7_rule : ByteArray := prog_9_method_20_code
def yX7_rule : MethodName := ⟨RX7, "rule", "(IIC)C"⟩
abbrev cX7_isAboveOf : ByteArray := prog_9_method_21_code
def yX7_isAboveOf : MethodName := ⟨RX7, "isAboveOf", "(II)Z"⟩
abbrev cX7_baseOf : ByteArray := prog_9_method_22_code
def yX7_baseOf : MethodName := ⟨RX7, "baseOf", "(II)I"⟩
abbrev cX7_areRows : ByteArray := prog_9_method_23_code
def yX7_areRows : MethodName := ⟨RX7, "areRows", "(II)Z"⟩
abbrev cX7_areAlike : ByteArray := prog_9_method_24_code
def yX7_areAlike : MethodName := ⟨RX7, "areAlike", "(II)Z"⟩
abbrev cX7_notesOf : ByteArray := prog_9_method_25_code
def yX7_notesOf : MethodName := ⟨RX7, "notesOf", "(I)I"⟩
abbrev cX7_joins : ByteArray := prog_9_method_26_code
def yX7_joins : MethodName := ⟨RX7, "joins", "(II)V"⟩
abbrev cX7_merge : ByteArray := prog_9_method_27_code
def yX7_merge : MethodName := ⟨RX7, "merge", "(III)I"⟩
abbrev cX7_asksAgain : ByteArray := prog_9_method_28_code
def yX7_asksAgain : MethodName := ⟨RX7, "asksAgain", "(II)V"⟩
abbrev cX7_base : ByteArray := prog_9_method_29_code
def yX7_base : MethodName := ⟨RX7, "base", "(II)I"⟩
abbrev cX7_isAbove : ByteArray := prog_9_method_30_code
def yX7_isAbove : MethodName := ⟨RX7, "isAbove", "(II)Z"⟩
abbrev cX7_rows : ByteArray := prog_9_method_31_code
def yX7_rows : MethodName := ⟨RX7, "rows", "(III)I"⟩
abbrev cX7_noteAt : ByteArray := prog_9_method_32_code
def yX7_noteAt : MethodName := ⟨RX7, "noteAt", "(IIIII)I"⟩
abbrev cX7_writer : ByteArray := prog_9_method_33_code
def yX7_writer : MethodName := ⟨RX7, "writer", "(IIII)I"⟩
abbrev cX7_doubts : ByteArray := prog_9_method_34_code
def yX7_doubts : MethodName := ⟨RX7, "doubts", "(I)I"⟩
abbrev cX7_unlikeOf : ByteArray := prog_9_method_35_code
def yX7_unlikeOf : MethodName := ⟨RX7, "unlikeOf", "(II)I"⟩
abbrev cX7_unlike : ByteArray := prog_9_method_36_code
def yX7_unlike : MethodName := ⟨RX7, "unlike", "(II)I"⟩
abbrev cX7_isRound : ByteArray := prog_9_method_37_code
def yX7_isRound : MethodName := ⟨RX7, "isRound", "(I)Z"⟩
abbrev cX7_hear : ByteArray := prog_9_method_38_code
def yX7_hear : MethodName := ⟨RX7, "hear", "(II)I"⟩
abbrev cX7_isMark : ByteArray := prog_9_method_39_code
def yX7_isMark : MethodName := ⟨RX7, "isMark", "(III)Z"⟩
abbrev cX7_mark : ByteArray := prog_9_method_40_code
def yX7_mark : MethodName := ⟨RX7, "mark", "(IIII)I"⟩
abbrev cX7_affirm : ByteArray := prog_9_method_41_code
def yX7_affirm : MethodName := ⟨RX7, "affirm", "(III)I"⟩
abbrev cX7_asked : ByteArray := prog_9_method_42_code
def yX7_asked : MethodName := ⟨RX7, "asked", "()I"⟩
abbrev cX7_counted : ByteArray := prog_9_method_43_code
def yX7_counted : MethodName := ⟨RX7, "counted", "(III)I"⟩
abbrev cX7_fallen : ByteArray := prog_9_method_44_code
def yX7_fallen : MethodName := ⟨RX7, "fallen", "(III)I"⟩
abbrev cX7_pointsOf : ByteArray := prog_9_method_45_code
def yX7_pointsOf : MethodName := ⟨RX7, "pointsOf", "(II)I"⟩
abbrev cX7_points : ByteArray := prog_9_method_46_code
def yX7_points : MethodName := ⟨RX7, "points", "(II)I"⟩
abbrev cX7_openOf : ByteArray := prog_9_method_47_code
def yX7_openOf : MethodName := ⟨RX7, "openOf", "(I)I"⟩
abbrev cX7_isAhead : ByteArray := prog_9_method_48_code
def yX7_isAhead : MethodName := ⟨RX7, "isAhead", "(II)Z"⟩
abbrev cX7_rankedOf : ByteArray := prog_9_method_49_code
def yX7_rankedOf : MethodName := ⟨RX7, "rankedOf", "(I)I"⟩
abbrev cX7_ranked : ByteArray := prog_9_method_50_code
def yX7_ranked : MethodName := ⟨RX7, "ranked", "(I)I"⟩
abbrev cX7_isTied : ByteArray := prog_9_method_51_code
def yX7_isTied : MethodName := ⟨RX7, "isTied", "(I)Z"⟩
abbrev cX7_partsOfAll : ByteArray := prog_9_method_52_code
def yX7_partsOfAll : MethodName := ⟨RX7, "partsOfAll", "(II)I"⟩
abbrev cX7_give : ByteArray := prog_9_method_53_code
def yX7_give : MethodName := ⟨RX7, "give", "(II)I"⟩
abbrev cX7_named : ByteArray := prog_9_method_54_code
def yX7_named : MethodName := ⟨RX7, "named", "(I)I"⟩
abbrev cX7_share : ByteArray := prog_9_method_55_code
def yX7_share : MethodName := ⟨RX7, "share", "(II)I"⟩
abbrev cX7_got : ByteArray := prog_9_method_56_code
def yX7_got : MethodName := ⟨RX7, "got", "(I)I"⟩
abbrev cX7_partsOf : ByteArray := prog_9_method_57_code
def yX7_partsOf : MethodName := ⟨RX7, "partsOf", "(II)I"⟩
abbrev cX7_versions : ByteArray := prog_9_method_58_code
def yX7_versions : MethodName := ⟨RX7, "versions", "()I"⟩
abbrev cX7_marksThere : ByteArray := prog_9_method_59_code
def yX7_marksThere : MethodName := ⟨RX7, "marksThere", "(Z)I"⟩
abbrev cX7_countShare : ByteArray := prog_9_method_60_code
def yX7_countShare : MethodName := ⟨RX7, "countShare", "()F"⟩
abbrev cX7_meanMark : ByteArray := prog_9_method_61_code
def yX7_meanMark : MethodName := ⟨RX7, "meanMark", "()D"⟩
abbrev cX7_checksum : ByteArray := prog_9_method_62_code
def yX7_checksum : MethodName := ⟨RX7, "checksum", "(I)J"⟩
abbrev cX7_isSound : ByteArray := prog_9_method_63_code
def yX7_isSound : MethodName := ⟨RX7, "isSound", "()Z"⟩
def RJ9 : String := "java/lang/Math"
def TJ9 : u_T := fun k => match k with
  | _ => ("", "", "", false)
def tyJ9 : Nat → FieldType := fun k => match k with
  | _ => .int
abbrev cJ9_min_7cf53 : ByteArray := prog_18_method_69_code
def yJ9_min_7cf53 : MethodName := ⟨RJ9, "min", "(II)I"⟩
def RJ7 : String := "java/util/Arrays"
def TJ7 : u_T := fun k => match k with
  | _ => ("", "", "", false)
def tyJ7 : Nat → FieldType := fun k => match k with
  | _ => .int
abbrev cJ7_fill_53178 : ByteArray := prog_24_method_103_code
def yJ7_fill_53178 : MethodName := ⟨RJ7, "fill", "([II)V"⟩
abbrev cJ7_copyOf_59c91 : ByteArray := prog_24_method_123_code
def yJ7_copyOf_59c91 : MethodName := ⟨RJ7, "copyOf", "([II)[I"⟩
def RL : String := "ScoreSheafLaw"
abbrev cL_piece : ByteArray := method_3_code
def yL_piece : MethodName := ⟨RL, "piece", "(LScoreSheaf;II[J)I"⟩
abbrev cL_firstOf : ByteArray := method_4_code
def yL_firstOf : MethodName := ⟨RL, "firstOf", "(LScoreSheaf;I[J)I"⟩
abbrev cL_pieceOf : ByteArray := method_5_code
def yL_pieceOf : MethodName := ⟨RL, "pieceOf", "(LScoreSheaf;I[J)I"⟩
abbrev cL_note : ByteArray := method_6_code
def yL_note : MethodName := ⟨RL, "note", "(LScoreSheaf;I[J)I"⟩
abbrev cL_write : ByteArray := method_7_code
def yL_write : MethodName := ⟨RL, "write", "(LScoreSheaf;IIII[J)I"⟩
abbrev cL_rule : ByteArray := method_8_code
def yL_rule : MethodName := ⟨RL, "rule", "(LScoreSheaf;IIC[J)I"⟩
abbrev cL_merge : ByteArray := method_9_code
def yL_merge : MethodName := ⟨RL, "merge", "(LScoreSheaf;III[J)I"⟩
abbrev cL_base : ByteArray := method_10_code
def yL_base : MethodName := ⟨RL, "base", "(LScoreSheaf;II[J)I"⟩
abbrev cL_isAbove : ByteArray := method_11_code
def yL_isAbove : MethodName := ⟨RL, "isAbove", "(LScoreSheaf;II[J)I"⟩
abbrev cL_rows : ByteArray := method_12_code
def yL_rows : MethodName := ⟨RL, "rows", "(LScoreSheaf;III[J)I"⟩
abbrev cL_noteAt : ByteArray := method_13_code
def yL_noteAt : MethodName := ⟨RL, "noteAt", "(LScoreSheaf;IIIII[J)I"⟩
abbrev cL_writer : ByteArray := method_14_code
def yL_writer : MethodName := ⟨RL, "writer", "(LScoreSheaf;IIII[J)I"⟩
abbrev cL_doubts : ByteArray := method_15_code
def yL_doubts : MethodName := ⟨RL, "doubts", "(LScoreSheaf;I[J)I"⟩
abbrev cL_unlike : ByteArray := method_16_code
def yL_unlike : MethodName := ⟨RL, "unlike", "(LScoreSheaf;II[J)I"⟩
abbrev cL_hear : ByteArray := method_17_code
def yL_hear : MethodName := ⟨RL, "hear", "(LScoreSheaf;II[J)I"⟩
abbrev cL_mark : ByteArray := method_18_code
def yL_mark : MethodName := ⟨RL, "mark", "(LScoreSheaf;IIII[J)I"⟩
abbrev cL_affirm : ByteArray := method_19_code
def yL_affirm : MethodName := ⟨RL, "affirm", "(LScoreSheaf;III[J)I"⟩
abbrev cL_points : ByteArray := method_20_code
def yL_points : MethodName := ⟨RL, "points", "(LScoreSheaf;II[J)I"⟩
abbrev cL_ranked : ByteArray := method_21_code
def yL_ranked : MethodName := ⟨RL, "ranked", "(LScoreSheaf;I[J)I"⟩
abbrev cL_isTied : ByteArray := method_22_code
def yL_isTied : MethodName := ⟨RL, "isTied", "(LScoreSheaf;I[J)I"⟩
abbrev cL_give : ByteArray := method_23_code
def yL_give : MethodName := ⟨RL, "give", "(LScoreSheaf;II[J)I"⟩
abbrev cL_named : ByteArray := method_24_code
def yL_named : MethodName := ⟨RL, "named", "(LScoreSheaf;I[J)I"⟩
abbrev cL_share : ByteArray := method_25_code
def yL_share : MethodName := ⟨RL, "share", "(LScoreSheaf;II[J)I"⟩
abbrev cL_got : ByteArray := method_26_code
def yL_got : MethodName := ⟨RL, "got", "(LScoreSheaf;I[J)I"⟩
abbrev cL_partsOf : ByteArray := method_27_code
def yL_partsOf : MethodName := ⟨RL, "partsOf", "(LScoreSheaf;II[J)I"⟩
abbrev cL_countShare : ByteArray := method_28_code
def yL_countShare : MethodName := ⟨RL, "countShare", "(LScoreSheaf;[D)I"⟩
abbrev cL_meanMark : ByteArray := method_29_code
def yL_meanMark : MethodName := ⟨RL, "meanMark", "(LScoreSheaf;[D)I"⟩
abbrev cL_checksum : ByteArray := method_30_code
def yL_checksum : MethodName := ⟨RL, "checksum", "(LScoreSheaf;I[J)I"⟩
abbrev cL_law : ByteArray := code
def yL_law : MethodName := ⟨RL, "law", "([I)Z"⟩
end
section
theorem dX0_init_0 : decode cX0_init 0 = .ok (.aload_n 0, 1) := by decide +kernel
theorem dX0_init_1 : decode cX0_init 1 = .ok (.invokespecial 3, 3) := by decide +kernel
theorem dX0_init_4 : decode cX0_init 4 = .ok (.aload_n 0, 1) := by decide +kernel
theorem dX0_init_5 : decode cX0_init 5 = .ok (.iconst (-1), 1) := by decide +kernel
theorem dX0_init_6 : decode cX0_init 6 = .ok (.putfield 9, 3) := by decide +kernel
theorem dX0_init_9 : decode cX0_init 9 = .ok (.aload_n 0, 1) := by decide +kernel
theorem dX0_init_10 : decode cX0_init 10 = .ok (.iconst 5, 1) := by decide +kernel
theorem dX0_init_11 : decode cX0_init 11 = .ok (.newarray .int, 2) := by decide +kernel
theorem dX0_init_13 : decode cX0_init 13 = .ok (.putfield 15, 3) := by decide +kernel
theorem dX0_init_16 : decode cX0_init 16 = .ok (.aload_n 0, 1) := by decide +kernel
theorem dX0_init_17 : decode cX0_init 17 = .ok (.iconst 5, 1) := by decide +kernel
theorem dX0_init_18 : decode cX0_init 18 = .ok (.newarray .int, 2) := by decide +kernel
theorem dX0_init_20 : decode cX0_init 20 = .ok (.putfield 19, 3) := by decide +kernel
theorem dX0_init_23 : decode cX0_init 23 = .ok (.aload_n 0, 1) := by decide +kernel
theorem dX0_init_24 : decode cX0_init 24 = .ok (.getfield 15, 3) := by decide +kernel
theorem dX0_init_27 : decode cX0_init 27 = .ok (.iconst (-1), 1) := by decide +kernel
theorem dX0_init_28 : decode cX0_init 28 = .ok (.invokestatic 22, 3) := by decide +kernel
theorem dX0_init_31 : decode cX0_init 31 = .ok (.aload_n 0, 1) := by decide +kernel
theorem dX0_init_32 : decode cX0_init 32 = .ok (.getfield 19, 3) := by decide +kernel
theorem dX0_init_35 : decode cX0_init 35 = .ok (.iconst (-1), 1) := by decide +kernel
theorem dX0_init_36 : decode cX0_init 36 = .ok (.invokestatic 22, 3) := by decide +kernel
theorem dX0_init_39 : decode cX0_init 39 = .ok (.return_, 1) := by decide +kernel
theorem dX0_startWith_0 : decode cX0_startWith 0 = .ok (.aload_n 0, 1) := by decide +kernel
theorem dX0_startWith_1 : decode cX0_startWith 1 = .ok (.iload_n 1, 1) := by decide +kernel
theorem dX0_startWith_2 : decode cX0_startWith 2 = .ok (.putfield 9, 3) := by decide +kernel
theorem dX0_startWith_5 : decode cX0_startWith 5 = .ok (.aload_n 0, 1) := by decide +kernel
theorem dX0_startWith_6 : decode cX0_startWith 6 = .ok (.getfield 15, 3) := by decide +kernel
theorem dX0_startWith_9 : decode cX0_startWith 9 = .ok (.iconst (-1), 1) := by decide +kernel
theorem dX0_startWith_10 : decode cX0_startWith 10 = .ok (.invokestatic 22, 3) := by decide +kernel
theorem dX0_startWith_13 : decode cX0_startWith 13 = .ok (.aload_n 0, 1) := by decide +kernel
theorem dX0_startWith_14 : decode cX0_startWith 14 = .ok (.getfield 19, 3) := by decide +kernel
theorem dX0_startWith_17 : decode cX0_startWith 17 = .ok (.iconst (-1), 1) := by decide +kernel
theorem dX0_startWith_18 : decode cX0_startWith 18 = .ok (.invokestatic 22, 3) := by decide +kernel
theorem dX0_startWith_21 : decode cX0_startWith 21 = .ok (.return_, 1) := by decide +kernel
theorem dX0_score_0 : decode cX0_score 0 = .ok (.iconst 0, 1) := by decide +kernel
theorem dX0_score_1 : decode cX0_score 1 = .ok (.istore_n 1, 1) := by decide +kernel
theorem dX0_score_2 : decode cX0_score 2 = .ok (.iconst 0, 1) := by decide +kernel
theorem dX0_score_3 : decode cX0_score 3 = .ok (.istore_n 2, 1) := by decide +kernel
theorem dX0_score_4 : decode cX0_score 4 = .ok (.bipush 20, 2) := by decide +kernel
theorem dX0_score_6 : decode cX0_score 6 = .ok (.istore_n 3, 1) := by decide +kernel
theorem dX0_score_7 : decode cX0_score 7 = .ok (.iconst 0, 1) := by decide +kernel
theorem dX0_score_8 : decode cX0_score 8 = .ok (.istore 4, 2) := by decide +kernel
theorem dX0_score_10 : decode cX0_score 10 = .ok (.aload_n 0, 1) := by decide +kernel
theorem dX0_score_11 : decode cX0_score 11 = .ok (.getfield 19, 3) := by decide +kernel
theorem dX0_score_14 : decode cX0_score 14 = .ok (.astore 5, 2) := by decide +kernel
theorem dX0_score_16 : decode cX0_score 16 = .ok (.aload 5, 2) := by decide +kernel
theorem dX0_score_18 : decode cX0_score 18 = .ok (.arraylength, 1) := by decide +kernel
theorem dX0_score_19 : decode cX0_score 19 = .ok (.istore 6, 2) := by decide +kernel
theorem dX0_score_21 : decode cX0_score 21 = .ok (.iconst 0, 1) := by decide +kernel
theorem dX0_score_22 : decode cX0_score 22 = .ok (.istore 7, 2) := by decide +kernel
theorem dX0_score_24 : decode cX0_score 24 = .ok (.iload 7, 2) := by decide +kernel
theorem dX0_score_26 : decode cX0_score 26 = .ok (.iload 6, 2) := by decide +kernel
theorem dX0_score_28 : decode cX0_score 28 = .ok (.if_icmp .ge 59, 3) := by decide +kernel
theorem dX0_score_31 : decode cX0_score 31 = .ok (.aload 5, 2) := by decide +kernel
theorem dX0_score_33 : decode cX0_score 33 = .ok (.iload 7, 2) := by decide +kernel
theorem dX0_score_35 : decode cX0_score 35 = .ok (.iaload, 1) := by decide +kernel
theorem dX0_score_36 : decode cX0_score 36 = .ok (.istore 8, 2) := by decide +kernel
theorem dX0_score_38 : decode cX0_score 38 = .ok (.iload 8, 2) := by decide +kernel
theorem dX0_score_40 : decode cX0_score 40 = .ok (.iconst (-1), 1) := by decide +kernel
theorem dX0_score_41 : decode cX0_score 41 = .ok (.if_icmp .eq 40, 3) := by decide +kernel
theorem dX0_score_44 : decode cX0_score 44 = .ok (.iinc 1 1, 3) := by decide +kernel
theorem dX0_score_47 : decode cX0_score 47 = .ok (.iload_n 2, 1) := by decide +kernel
theorem dX0_score_48 : decode cX0_score 48 = .ok (.iload 8, 2) := by decide +kernel
theorem dX0_score_50 : decode cX0_score 50 = .ok (.iadd, 1) := by decide +kernel
theorem dX0_score_51 : decode cX0_score 51 = .ok (.istore_n 2, 1) := by decide +kernel
theorem dX0_score_52 : decode cX0_score 52 = .ok (.iload 8, 2) := by decide +kernel
theorem dX0_score_54 : decode cX0_score 54 = .ok (.iload_n 3, 1) := by decide +kernel
theorem dX0_score_55 : decode cX0_score 55 = .ok (.if_icmp .ge 8, 3) := by decide +kernel
theorem dX0_score_58 : decode cX0_score 58 = .ok (.iload 8, 2) := by decide +kernel
theorem dX0_score_60 : decode cX0_score 60 = .ok (.goto 4, 3) := by decide +kernel
theorem dX0_score_63 : decode cX0_score 63 = .ok (.iload_n 3, 1) := by decide +kernel
theorem dX0_score_64 : decode cX0_score 64 = .ok (.istore_n 3, 1) := by decide +kernel
theorem dX0_score_65 : decode cX0_score 65 = .ok (.iload 8, 2) := by decide +kernel
theorem dX0_score_67 : decode cX0_score 67 = .ok (.iload 4, 2) := by decide +kernel
theorem dX0_score_69 : decode cX0_score 69 = .ok (.if_icmp .le 8, 3) := by decide +kernel
theorem dX0_score_72 : decode cX0_score 72 = .ok (.iload 8, 2) := by decide +kernel
theorem dX0_score_74 : decode cX0_score 74 = .ok (.goto 5, 3) := by decide +kernel
theorem dX0_score_77 : decode cX0_score 77 = .ok (.iload 4, 2) := by decide +kernel
theorem dX0_score_79 : decode cX0_score 79 = .ok (.istore 4, 2) := by decide +kernel
theorem dX0_score_81 : decode cX0_score 81 = .ok (.iinc 7 1, 3) := by decide +kernel
theorem dX0_score_84 : decode cX0_score 84 = .ok (.goto (-60), 3) := by decide +kernel
theorem dX0_score_87 : decode cX0_score 87 = .ok (.iload_n 1, 1) := by decide +kernel
theorem dX0_score_88 : decode cX0_score 88 = .ok (.iconst 4, 1) := by decide +kernel
theorem dX0_score_89 : decode cX0_score 89 = .ok (.if_icmp .lt 12, 3) := by decide +kernel
theorem dX0_score_92 : decode cX0_score 92 = .ok (.iload_n 2, 1) := by decide +kernel
theorem dX0_score_93 : decode cX0_score 93 = .ok (.iload_n 3, 1) := by decide +kernel
theorem dX0_score_94 : decode cX0_score 94 = .ok (.isub, 1) := by decide +kernel
theorem dX0_score_95 : decode cX0_score 95 = .ok (.iload 4, 2) := by decide +kernel
theorem dX0_score_97 : decode cX0_score 97 = .ok (.isub, 1) := by decide +kernel
theorem dX0_score_98 : decode cX0_score 98 = .ok (.goto 4, 3) := by decide +kernel
theorem dX0_score_101 : decode cX0_score 101 = .ok (.iload_n 2, 1) := by decide +kernel
theorem dX0_score_102 : decode cX0_score 102 = .ok (.ireturn, 1) := by decide +kernel
theorem dX0_fallingMarks_0 : decode cX0_fallingMarks 0 = .ok (.lconst 0, 1) := by decide +kernel
theorem dX0_fallingMarks_1 : decode cX0_fallingMarks 1 = .ok (.lstore_n 1, 1) := by decide +kernel
theorem dX0_fallingMarks_2 : decode cX0_fallingMarks 2 = .ok (.aload_n 0, 1) := by decide +kernel
theorem dX0_fallingMarks_3 : decode cX0_fallingMarks 3 = .ok (.getfield 19, 3) := by decide +kernel
theorem dX0_fallingMarks_6 : decode cX0_fallingMarks 6 = .ok (.astore_n 3, 1) := by decide +kernel
theorem dX0_fallingMarks_7 : decode cX0_fallingMarks 7 = .ok (.aload_n 3, 1) := by decide +kernel
theorem dX0_fallingMarks_8 : decode cX0_fallingMarks 8 = .ok (.arraylength, 1) := by decide +kernel
theorem dX0_fallingMarks_9 : decode cX0_fallingMarks 9 = .ok (.istore 4, 2) := by decide +kernel
theorem dX0_fallingMarks_11 : decode cX0_fallingMarks 11 = .ok (.iconst 0, 1) := by decide +kernel
theorem dX0_fallingMarks_12 : decode cX0_fallingMarks 12 = .ok (.istore 5, 2) := by decide +kernel
theorem dX0_fallingMarks_14 : decode cX0_fallingMarks 14 = .ok (.iload 5, 2) := by decide +kernel
theorem dX0_fallingMarks_16 : decode cX0_fallingMarks 16 = .ok (.iload 4, 2) := by decide +kernel
theorem dX0_fallingMarks_18 : decode cX0_fallingMarks 18 = .ok (.if_icmp .ge 30, 3) := by decide +kernel
theorem dX0_fallingMarks_21 : decode cX0_fallingMarks 21 = .ok (.aload_n 3, 1) := by decide +kernel
theorem dX0_fallingMarks_22 : decode cX0_fallingMarks 22 = .ok (.iload 5, 2) := by decide +kernel
theorem dX0_fallingMarks_24 : decode cX0_fallingMarks 24 = .ok (.iaload, 1) := by decide +kernel
theorem dX0_fallingMarks_25 : decode cX0_fallingMarks 25 = .ok (.istore 6, 2) := by decide +kernel
theorem dX0_fallingMarks_27 : decode cX0_fallingMarks 27 = .ok (.iload 6, 2) := by decide +kernel
theorem dX0_fallingMarks_29 : decode cX0_fallingMarks 29 = .ok (.iconst (-1), 1) := by decide +kernel
theorem dX0_fallingMarks_30 : decode cX0_fallingMarks 30 = .ok (.if_icmp .eq 12, 3) := by decide +kernel
theorem dX0_fallingMarks_33 : decode cX0_fallingMarks 33 = .ok (.lload_n 1, 1) := by decide +kernel
theorem dX0_fallingMarks_34 : decode cX0_fallingMarks 34 = .ok (.lconst 1, 1) := by decide +kernel
theorem dX0_fallingMarks_35 : decode cX0_fallingMarks 35 = .ok (.iconst 3, 1) := by decide +kernel
theorem dX0_fallingMarks_36 : decode cX0_fallingMarks 36 = .ok (.iload 6, 2) := by decide +kernel
theorem dX0_fallingMarks_38 : decode cX0_fallingMarks 38 = .ok (.imul, 1) := by decide +kernel
theorem dX0_fallingMarks_39 : decode cX0_fallingMarks 39 = .ok (.lshl, 1) := by decide +kernel
theorem dX0_fallingMarks_40 : decode cX0_fallingMarks 40 = .ok (.ladd, 1) := by decide +kernel
theorem dX0_fallingMarks_41 : decode cX0_fallingMarks 41 = .ok (.lstore_n 1, 1) := by decide +kernel
theorem dX0_fallingMarks_42 : decode cX0_fallingMarks 42 = .ok (.iinc 5 1, 3) := by decide +kernel
theorem dX0_fallingMarks_45 : decode cX0_fallingMarks 45 = .ok (.goto (-31), 3) := by decide +kernel
theorem dX0_fallingMarks_48 : decode cX0_fallingMarks 48 = .ok (.lload_n 1, 1) := by decide +kernel
theorem dX0_fallingMarks_49 : decode cX0_fallingMarks 49 = .ok (.lreturn, 1) := by decide +kernel
theorem dX1_init_0 : decode cX1_init 0 = .ok (.aload_n 0, 1) := by decide +kernel
theorem dX1_init_1 : decode cX1_init 1 = .ok (.invokespecial 3, 3) := by decide +kernel
theorem dX1_init_4 : decode cX1_init 4 = .ok (.aload_n 0, 1) := by decide +kernel
theorem dX1_init_5 : decode cX1_init 5 = .ok (.iconst 4, 1) := by decide +kernel
theorem dX1_init_6 : decode cX1_init 6 = .ok (.newarray .char, 2) := by decide +kernel
theorem dX1_init_8 : decode cX1_init 8 = .ok (.putfield 9, 3) := by decide +kernel
theorem dX1_init_11 : decode cX1_init 11 = .ok (.aload_n 0, 1) := by decide +kernel
theorem dX1_init_12 : decode cX1_init 12 = .ok (.iload_n 1, 1) := by decide +kernel
theorem dX1_init_13 : decode cX1_init 13 = .ok (.putfield 15, 3) := by decide +kernel
theorem dX1_init_16 : decode cX1_init 16 = .ok (.aload_n 0, 1) := by decide +kernel
theorem dX1_init_17 : decode cX1_init 17 = .ok (.iload_n 2, 1) := by decide +kernel
theorem dX1_init_18 : decode cX1_init 18 = .ok (.putfield 19, 3) := by decide +kernel
theorem dX1_init_21 : decode cX1_init 21 = .ok (.iconst 0, 1) := by decide +kernel
theorem dX1_init_22 : decode cX1_init 22 = .ok (.istore_n 3, 1) := by decide +kernel
theorem dX1_init_23 : decode cX1_init 23 = .ok (.iload_n 3, 1) := by decide +kernel
theorem dX1_init_24 : decode cX1_init 24 = .ok (.iconst 4, 1) := by decide +kernel
theorem dX1_init_25 : decode cX1_init 25 = .ok (.if_icmp .ge 17, 3) := by decide +kernel
theorem dX1_init_28 : decode cX1_init 28 = .ok (.aload_n 0, 1) := by decide +kernel
theorem dX1_init_29 : decode cX1_init 29 = .ok (.getfield 9, 3) := by decide +kernel
theorem dX1_init_32 : decode cX1_init 32 = .ok (.iload_n 3, 1) := by decide +kernel
theorem dX1_init_33 : decode cX1_init 33 = .ok (.bipush 98, 2) := by decide +kernel
theorem dX1_init_35 : decode cX1_init 35 = .ok (.castore, 1) := by decide +kernel
theorem dX1_init_36 : decode cX1_init 36 = .ok (.iinc 3 1, 3) := by decide +kernel
theorem dX1_init_39 : decode cX1_init 39 = .ok (.goto (-16), 3) := by decide +kernel
theorem dX1_init_42 : decode cX1_init 42 = .ok (.return_, 1) := by decide +kernel
theorem dX1_hasPart_0 : decode cX1_hasPart 0 = .ok (.iload_n 1, 1) := by decide +kernel
theorem dX1_hasPart_1 : decode cX1_hasPart 1 = .ok (.ifCond .lt 20, 3) := by decide +kernel
theorem dX1_hasPart_4 : decode cX1_hasPart 4 = .ok (.iload_n 1, 1) := by decide +kernel
theorem dX1_hasPart_5 : decode cX1_hasPart 5 = .ok (.aload_n 0, 1) := by decide +kernel
theorem dX1_hasPart_6 : decode cX1_hasPart 6 = .ok (.getfield 19, 3) := by decide +kernel
theorem dX1_hasPart_9 : decode cX1_hasPart 9 = .ok (.if_icmp .ge 12, 3) := by decide +kernel
theorem dX1_hasPart_12 : decode cX1_hasPart 12 = .ok (.iload_n 1, 1) := by decide +kernel
theorem dX1_hasPart_13 : decode cX1_hasPart 13 = .ok (.iconst 4, 1) := by decide +kernel
theorem dX1_hasPart_14 : decode cX1_hasPart 14 = .ok (.if_icmp .ge 7, 3) := by decide +kernel
theorem dX1_hasPart_17 : decode cX1_hasPart 17 = .ok (.iconst 1, 1) := by decide +kernel
theorem dX1_hasPart_18 : decode cX1_hasPart 18 = .ok (.goto 4, 3) := by decide +kernel
theorem dX1_hasPart_21 : decode cX1_hasPart 21 = .ok (.iconst 0, 1) := by decide +kernel
theorem dX1_hasPart_22 : decode cX1_hasPart 22 = .ok (.ireturn, 1) := by decide +kernel
theorem dX2_init_0 : decode cX2_init 0 = .ok (.aload_n 0, 1) := by decide +kernel
theorem dX2_init_1 : decode cX2_init 1 = .ok (.invokespecial 3, 3) := by decide +kernel
theorem dX2_init_4 : decode cX2_init 4 = .ok (.aload_n 0, 1) := by decide +kernel
theorem dX2_init_5 : decode cX2_init 5 = .ok (.bipush 6, 2) := by decide +kernel
theorem dX2_init_7 : decode cX2_init 7 = .ok (.newarray .int, 2) := by decide +kernel
theorem dX2_init_9 : decode cX2_init 9 = .ok (.putfield 9, 3) := by decide +kernel
theorem dX2_init_12 : decode cX2_init 12 = .ok (.aload_n 0, 1) := by decide +kernel
theorem dX2_init_13 : decode cX2_init 13 = .ok (.iload_n 1, 1) := by decide +kernel
theorem dX2_init_14 : decode cX2_init 14 = .ok (.putfield 15, 3) := by decide +kernel
theorem dX2_init_17 : decode cX2_init 17 = .ok (.aload_n 0, 1) := by decide +kernel
theorem dX2_init_18 : decode cX2_init 18 = .ok (.iload_n 2, 1) := by decide +kernel
theorem dX2_init_19 : decode cX2_init 19 = .ok (.putfield 19, 3) := by decide +kernel
theorem dX2_init_22 : decode cX2_init 22 = .ok (.return_, 1) := by decide +kernel
theorem dX2_shareOut_0 : decode cX2_shareOut 0 = .ok (.aload_n 1, 1) := by decide +kernel
theorem dX2_shareOut_1 : decode cX2_shareOut 1 = .ok (.bipush 63, 2) := by decide +kernel
theorem dX2_shareOut_3 : decode cX2_shareOut 3 = .ok (.invokevirtual 22, 3) := by decide +kernel
theorem dX2_shareOut_6 : decode cX2_shareOut 6 = .ok (.istore_n 2, 1) := by decide +kernel
theorem dX2_shareOut_7 : decode cX2_shareOut 7 = .ok (.iload_n 2, 1) := by decide +kernel
theorem dX2_shareOut_8 : decode cX2_shareOut 8 = .ok (.ifCond .gt 4, 3) := by decide +kernel
theorem dX2_shareOut_11 : decode cX2_shareOut 11 = .ok (.return_, 1) := by decide +kernel
theorem dX2_shareOut_12 : decode cX2_shareOut 12 = .ok (.bipush 6, 2) := by decide +kernel
theorem dX2_shareOut_14 : decode cX2_shareOut 14 = .ok (.newarray .int, 2) := by decide +kernel
theorem dX2_shareOut_16 : decode cX2_shareOut 16 = .ok (.astore_n 3, 1) := by decide +kernel
theorem dX2_shareOut_17 : decode cX2_shareOut 17 = .ok (.aload_n 0, 1) := by decide +kernel
theorem dX2_shareOut_18 : decode cX2_shareOut 18 = .ok (.getfield 19, 3) := by decide +kernel
theorem dX2_shareOut_21 : decode cX2_shareOut 21 = .ok (.istore 4, 2) := by decide +kernel
theorem dX2_shareOut_23 : decode cX2_shareOut 23 = .ok (.iconst 0, 1) := by decide +kernel
theorem dX2_shareOut_24 : decode cX2_shareOut 24 = .ok (.istore 5, 2) := by decide +kernel
theorem dX2_shareOut_26 : decode cX2_shareOut 26 = .ok (.iload 5, 2) := by decide +kernel
theorem dX2_shareOut_28 : decode cX2_shareOut 28 = .ok (.bipush 6, 2) := by decide +kernel
theorem dX2_shareOut_30 : decode cX2_shareOut 30 = .ok (.if_icmp .ge 55, 3) := by decide +kernel
theorem dX2_shareOut_33 : decode cX2_shareOut 33 = .ok (.aload_n 0, 1) := by decide +kernel
theorem dX2_shareOut_34 : decode cX2_shareOut 34 = .ok (.getfield 19, 3) := by decide +kernel
theorem dX2_shareOut_37 : decode cX2_shareOut 37 = .ok (.aload_n 1, 1) := by decide +kernel
theorem dX2_shareOut_38 : decode cX2_shareOut 38 = .ok (.iconst 1, 1) := by decide +kernel
theorem dX2_shareOut_39 : decode cX2_shareOut 39 = .ok (.iload 5, 2) := by decide +kernel
theorem dX2_shareOut_41 : decode cX2_shareOut 41 = .ok (.ishl, 1) := by decide +kernel
theorem dX2_shareOut_42 : decode cX2_shareOut 42 = .ok (.invokevirtual 22, 3) := by decide +kernel
theorem dX2_shareOut_45 : decode cX2_shareOut 45 = .ok (.imul, 1) := by decide +kernel
theorem dX2_shareOut_46 : decode cX2_shareOut 46 = .ok (.istore 6, 2) := by decide +kernel
theorem dX2_shareOut_48 : decode cX2_shareOut 48 = .ok (.aload_n 0, 1) := by decide +kernel
theorem dX2_shareOut_49 : decode cX2_shareOut 49 = .ok (.getfield 9, 3) := by decide +kernel
theorem dX2_shareOut_52 : decode cX2_shareOut 52 = .ok (.iload 5, 2) := by decide +kernel
theorem dX2_shareOut_54 : decode cX2_shareOut 54 = .ok (.iload 6, 2) := by decide +kernel
theorem dX2_shareOut_56 : decode cX2_shareOut 56 = .ok (.iload_n 2, 1) := by decide +kernel
theorem dX2_shareOut_57 : decode cX2_shareOut 57 = .ok (.idiv, 1) := by decide +kernel
theorem dX2_shareOut_58 : decode cX2_shareOut 58 = .ok (.iastore, 1) := by decide +kernel
theorem dX2_shareOut_59 : decode cX2_shareOut 59 = .ok (.aload_n 3, 1) := by decide +kernel
theorem dX2_shareOut_60 : decode cX2_shareOut 60 = .ok (.iload 5, 2) := by decide +kernel
theorem dX2_shareOut_62 : decode cX2_shareOut 62 = .ok (.iload 6, 2) := by decide +kernel
theorem dX2_shareOut_64 : decode cX2_shareOut 64 = .ok (.iload_n 2, 1) := by decide +kernel
theorem dX2_shareOut_65 : decode cX2_shareOut 65 = .ok (.irem, 1) := by decide +kernel
theorem dX2_shareOut_66 : decode cX2_shareOut 66 = .ok (.iastore, 1) := by decide +kernel
theorem dX2_shareOut_67 : decode cX2_shareOut 67 = .ok (.iload 4, 2) := by decide +kernel
theorem dX2_shareOut_69 : decode cX2_shareOut 69 = .ok (.aload_n 0, 1) := by decide +kernel
theorem dX2_shareOut_70 : decode cX2_shareOut 70 = .ok (.getfield 9, 3) := by decide +kernel
theorem dX2_shareOut_73 : decode cX2_shareOut 73 = .ok (.iload 5, 2) := by decide +kernel
theorem dX2_shareOut_75 : decode cX2_shareOut 75 = .ok (.iaload, 1) := by decide +kernel
theorem dX2_shareOut_76 : decode cX2_shareOut 76 = .ok (.isub, 1) := by decide +kernel
theorem dX2_shareOut_77 : decode cX2_shareOut 77 = .ok (.istore 4, 2) := by decide +kernel
theorem dX2_shareOut_79 : decode cX2_shareOut 79 = .ok (.iinc 5 1, 3) := by decide +kernel
theorem dX2_shareOut_82 : decode cX2_shareOut 82 = .ok (.goto (-56), 3) := by decide +kernel
theorem dX2_shareOut_85 : decode cX2_shareOut 85 = .ok (.iconst 0, 1) := by decide +kernel
theorem dX2_shareOut_86 : decode cX2_shareOut 86 = .ok (.istore 5, 2) := by decide +kernel
theorem dX2_shareOut_88 : decode cX2_shareOut 88 = .ok (.iload 5, 2) := by decide +kernel
theorem dX2_shareOut_90 : decode cX2_shareOut 90 = .ok (.iload 4, 2) := by decide +kernel
theorem dX2_shareOut_92 : decode cX2_shareOut 92 = .ok (.if_icmp .ge 31, 3) := by decide +kernel
theorem dX2_shareOut_95 : decode cX2_shareOut 95 = .ok (.aload_n 3, 1) := by decide +kernel
theorem dX2_shareOut_96 : decode cX2_shareOut 96 = .ok (.invokestatic 28, 3) := by decide +kernel
theorem dX2_shareOut_99 : decode cX2_shareOut 99 = .ok (.istore 6, 2) := by decide +kernel
theorem dX2_shareOut_101 : decode cX2_shareOut 101 = .ok (.aload_n 0, 1) := by decide +kernel
theorem dX2_shareOut_102 : decode cX2_shareOut 102 = .ok (.getfield 9, 3) := by decide +kernel
theorem dX2_shareOut_105 : decode cX2_shareOut 105 = .ok (.iload 6, 2) := by decide +kernel
theorem dX2_shareOut_107 : decode cX2_shareOut 107 = .ok (.dup2, 1) := by decide +kernel
theorem dX2_shareOut_108 : decode cX2_shareOut 108 = .ok (.iaload, 1) := by decide +kernel
theorem dX2_shareOut_109 : decode cX2_shareOut 109 = .ok (.iconst 1, 1) := by decide +kernel
theorem dX2_shareOut_110 : decode cX2_shareOut 110 = .ok (.iadd, 1) := by decide +kernel
theorem dX2_shareOut_111 : decode cX2_shareOut 111 = .ok (.iastore, 1) := by decide +kernel
theorem dX2_shareOut_112 : decode cX2_shareOut 112 = .ok (.aload_n 3, 1) := by decide +kernel
theorem dX2_shareOut_113 : decode cX2_shareOut 113 = .ok (.iload 6, 2) := by decide +kernel
theorem dX2_shareOut_115 : decode cX2_shareOut 115 = .ok (.iconst (-1), 1) := by decide +kernel
theorem dX2_shareOut_116 : decode cX2_shareOut 116 = .ok (.iastore, 1) := by decide +kernel
theorem dX2_shareOut_117 : decode cX2_shareOut 117 = .ok (.iinc 5 1, 3) := by decide +kernel
theorem dX2_shareOut_120 : decode cX2_shareOut 120 = .ok (.goto (-32), 3) := by decide +kernel
theorem dX2_shareOut_123 : decode cX2_shareOut 123 = .ok (.return_, 1) := by decide +kernel
theorem dX2_greatestOf_0 : decode cX2_greatestOf 0 = .ok (.iconst 0, 1) := by decide +kernel
theorem dX2_greatestOf_1 : decode cX2_greatestOf 1 = .ok (.istore_n 1, 1) := by decide +kernel
theorem dX2_greatestOf_2 : decode cX2_greatestOf 2 = .ok (.iconst 1, 1) := by decide +kernel
theorem dX2_greatestOf_3 : decode cX2_greatestOf 3 = .ok (.istore_n 2, 1) := by decide +kernel
theorem dX2_greatestOf_4 : decode cX2_greatestOf 4 = .ok (.iload_n 2, 1) := by decide +kernel
theorem dX2_greatestOf_5 : decode cX2_greatestOf 5 = .ok (.bipush 6, 2) := by decide +kernel
theorem dX2_greatestOf_7 : decode cX2_greatestOf 7 = .ok (.if_icmp .ge 20, 3) := by decide +kernel
theorem dX2_greatestOf_10 : decode cX2_greatestOf 10 = .ok (.aload_n 0, 1) := by decide +kernel
theorem dX2_greatestOf_11 : decode cX2_greatestOf 11 = .ok (.iload_n 2, 1) := by decide +kernel
theorem dX2_greatestOf_12 : decode cX2_greatestOf 12 = .ok (.iaload, 1) := by decide +kernel
theorem dX2_greatestOf_13 : decode cX2_greatestOf 13 = .ok (.aload_n 0, 1) := by decide +kernel
theorem dX2_greatestOf_14 : decode cX2_greatestOf 14 = .ok (.iload_n 1, 1) := by decide +kernel
theorem dX2_greatestOf_15 : decode cX2_greatestOf 15 = .ok (.iaload, 1) := by decide +kernel
theorem dX2_greatestOf_16 : decode cX2_greatestOf 16 = .ok (.if_icmp .le 5, 3) := by decide +kernel
theorem dX2_greatestOf_19 : decode cX2_greatestOf 19 = .ok (.iload_n 2, 1) := by decide +kernel
theorem dX2_greatestOf_20 : decode cX2_greatestOf 20 = .ok (.istore_n 1, 1) := by decide +kernel
theorem dX2_greatestOf_21 : decode cX2_greatestOf 21 = .ok (.iinc 2 1, 3) := by decide +kernel
theorem dX2_greatestOf_24 : decode cX2_greatestOf 24 = .ok (.goto (-20), 3) := by decide +kernel
theorem dX2_greatestOf_27 : decode cX2_greatestOf 27 = .ok (.iload_n 1, 1) := by decide +kernel
theorem dX2_greatestOf_28 : decode cX2_greatestOf 28 = .ok (.ireturn, 1) := by decide +kernel
theorem dX3_init_0 : decode cX3_init 0 = .ok (.aload_n 0, 1) := by decide +kernel
theorem dX3_init_1 : decode cX3_init 1 = .ok (.invokespecial 1, 3) := by decide +kernel
theorem dX3_init_4 : decode cX3_init 4 = .ok (.aload_n 0, 1) := by decide +kernel
theorem dX3_init_5 : decode cX3_init 5 = .ok (.iload_n 1, 1) := by decide +kernel
theorem dX3_init_6 : decode cX3_init 6 = .ok (.putfield 7, 3) := by decide +kernel
theorem dX3_init_9 : decode cX3_init 9 = .ok (.aload_n 0, 1) := by decide +kernel
theorem dX3_init_10 : decode cX3_init 10 = .ok (.aload_n 2, 1) := by decide +kernel
theorem dX3_init_11 : decode cX3_init 11 = .ok (.putfield 13, 3) := by decide +kernel
theorem dX3_init_14 : decode cX3_init 14 = .ok (.return_, 1) := by decide +kernel
theorem dX3_isLike_0 : decode cX3_isLike 0 = .ok (.aload_n 1, 1) := by decide +kernel
theorem dX3_isLike_1 : decode cX3_isLike 1 = .ok (.ifnull 16, 3) := by decide +kernel
theorem dX3_isLike_4 : decode cX3_isLike 4 = .ok (.aload_n 1, 1) := by decide +kernel
theorem dX3_isLike_5 : decode cX3_isLike 5 = .ok (.getfield 13, 3) := by decide +kernel
theorem dX3_isLike_8 : decode cX3_isLike 8 = .ok (.arraylength, 1) := by decide +kernel
theorem dX3_isLike_9 : decode cX3_isLike 9 = .ok (.aload_n 0, 1) := by decide +kernel
theorem dX3_isLike_10 : decode cX3_isLike 10 = .ok (.getfield 13, 3) := by decide +kernel
theorem dX3_isLike_13 : decode cX3_isLike 13 = .ok (.arraylength, 1) := by decide +kernel
theorem dX3_isLike_14 : decode cX3_isLike 14 = .ok (.if_icmp .eq 5, 3) := by decide +kernel
theorem dX3_isLike_17 : decode cX3_isLike 17 = .ok (.iconst 0, 1) := by decide +kernel
theorem dX3_isLike_18 : decode cX3_isLike 18 = .ok (.ireturn, 1) := by decide +kernel
theorem dX3_isLike_19 : decode cX3_isLike 19 = .ok (.iconst 0, 1) := by decide +kernel
theorem dX3_isLike_20 : decode cX3_isLike 20 = .ok (.istore_n 2, 1) := by decide +kernel
theorem dX3_isLike_21 : decode cX3_isLike 21 = .ok (.iload_n 2, 1) := by decide +kernel
theorem dX3_isLike_22 : decode cX3_isLike 22 = .ok (.aload_n 0, 1) := by decide +kernel
theorem dX3_isLike_23 : decode cX3_isLike 23 = .ok (.getfield 13, 3) := by decide +kernel
theorem dX3_isLike_26 : decode cX3_isLike 26 = .ok (.arraylength, 1) := by decide +kernel
theorem dX3_isLike_27 : decode cX3_isLike 27 = .ok (.if_icmp .ge 26, 3) := by decide +kernel
theorem dX3_isLike_30 : decode cX3_isLike 30 = .ok (.aload_n 0, 1) := by decide +kernel
theorem dX3_isLike_31 : decode cX3_isLike 31 = .ok (.getfield 13, 3) := by decide +kernel
theorem dX3_isLike_34 : decode cX3_isLike 34 = .ok (.iload_n 2, 1) := by decide +kernel
theorem dX3_isLike_35 : decode cX3_isLike 35 = .ok (.iaload, 1) := by decide +kernel
theorem dX3_isLike_36 : decode cX3_isLike 36 = .ok (.aload_n 1, 1) := by decide +kernel
theorem dX3_isLike_37 : decode cX3_isLike 37 = .ok (.getfield 13, 3) := by decide +kernel
theorem dX3_isLike_40 : decode cX3_isLike 40 = .ok (.iload_n 2, 1) := by decide +kernel
theorem dX3_isLike_41 : decode cX3_isLike 41 = .ok (.iaload, 1) := by decide +kernel
theorem dX3_isLike_42 : decode cX3_isLike 42 = .ok (.if_icmp .eq 5, 3) := by decide +kernel
theorem dX3_isLike_45 : decode cX3_isLike 45 = .ok (.iconst 0, 1) := by decide +kernel
theorem dX3_isLike_46 : decode cX3_isLike 46 = .ok (.ireturn, 1) := by decide +kernel
theorem dX3_isLike_47 : decode cX3_isLike 47 = .ok (.iinc 2 1, 3) := by decide +kernel
theorem dX3_isLike_50 : decode cX3_isLike 50 = .ok (.goto (-29), 3) := by decide +kernel
theorem dX3_isLike_53 : decode cX3_isLike 53 = .ok (.iconst 1, 1) := by decide +kernel
theorem dX3_isLike_54 : decode cX3_isLike 54 = .ok (.ireturn, 1) := by decide +kernel
theorem dX3_partsBy_0 : decode cX3_partsBy 0 = .ok (.iload_n 1, 1) := by decide +kernel
theorem dX3_partsBy_1 : decode cX3_partsBy 1 = .ok (.aload_n 0, 1) := by decide +kernel
theorem dX3_partsBy_2 : decode cX3_partsBy 2 = .ok (.getfield 7, 3) := by decide +kernel
theorem dX3_partsBy_5 : decode cX3_partsBy 5 = .ok (.ishr, 1) := by decide +kernel
theorem dX3_partsBy_6 : decode cX3_partsBy 6 = .ok (.iconst 1, 1) := by decide +kernel
theorem dX3_partsBy_7 : decode cX3_partsBy 7 = .ok (.iand, 1) := by decide +kernel
theorem dX3_partsBy_8 : decode cX3_partsBy 8 = .ok (.iconst 1, 1) := by decide +kernel
theorem dX3_partsBy_9 : decode cX3_partsBy 9 = .ok (.if_icmp .ne 13, 3) := by decide +kernel
theorem dX3_partsBy_12 : decode cX3_partsBy 12 = .ok (.aload_n 0, 1) := by decide +kernel
theorem dX3_partsBy_13 : decode cX3_partsBy 13 = .ok (.getfield 13, 3) := by decide +kernel
theorem dX3_partsBy_16 : decode cX3_partsBy 16 = .ok (.arraylength, 1) := by decide +kernel
theorem dX3_partsBy_17 : decode cX3_partsBy 17 = .ok (.iconst 1, 1) := by decide +kernel
theorem dX3_partsBy_18 : decode cX3_partsBy 18 = .ok (.iadd, 1) := by decide +kernel
theorem dX3_partsBy_19 : decode cX3_partsBy 19 = .ok (.goto 4, 3) := by decide +kernel
theorem dX3_partsBy_22 : decode cX3_partsBy 22 = .ok (.iconst 0, 1) := by decide +kernel
theorem dX3_partsBy_23 : decode cX3_partsBy 23 = .ok (.ireturn, 1) := by decide +kernel
theorem dX3_sumOnto_0 : decode cX3_sumOnto 0 = .ok (.ldc2_w 17, 3) := by decide +kernel
theorem dX3_sumOnto_3 : decode cX3_sumOnto 3 = .ok (.lload_n 1, 1) := by decide +kernel
theorem dX3_sumOnto_4 : decode cX3_sumOnto 4 = .ok (.lmul, 1) := by decide +kernel
theorem dX3_sumOnto_5 : decode cX3_sumOnto 5 = .ok (.aload_n 0, 1) := by decide +kernel
theorem dX3_sumOnto_6 : decode cX3_sumOnto 6 = .ok (.getfield 7, 3) := by decide +kernel
theorem dX3_sumOnto_9 : decode cX3_sumOnto 9 = .ok (.i2l, 1) := by decide +kernel
theorem dX3_sumOnto_10 : decode cX3_sumOnto 10 = .ok (.ladd, 1) := by decide +kernel
theorem dX3_sumOnto_11 : decode cX3_sumOnto 11 = .ok (.lstore_n 3, 1) := by decide +kernel
theorem dX3_sumOnto_12 : decode cX3_sumOnto 12 = .ok (.aload_n 0, 1) := by decide +kernel
theorem dX3_sumOnto_13 : decode cX3_sumOnto 13 = .ok (.getfield 13, 3) := by decide +kernel
theorem dX3_sumOnto_16 : decode cX3_sumOnto 16 = .ok (.astore 5, 2) := by decide +kernel
theorem dX3_sumOnto_18 : decode cX3_sumOnto 18 = .ok (.aload 5, 2) := by decide +kernel
theorem dX3_sumOnto_20 : decode cX3_sumOnto 20 = .ok (.arraylength, 1) := by decide +kernel
theorem dX3_sumOnto_21 : decode cX3_sumOnto 21 = .ok (.istore 6, 2) := by decide +kernel
theorem dX3_sumOnto_23 : decode cX3_sumOnto 23 = .ok (.iconst 0, 1) := by decide +kernel
theorem dX3_sumOnto_24 : decode cX3_sumOnto 24 = .ok (.istore 7, 2) := by decide +kernel
theorem dX3_sumOnto_26 : decode cX3_sumOnto 26 = .ok (.iload 7, 2) := by decide +kernel
theorem dX3_sumOnto_28 : decode cX3_sumOnto 28 = .ok (.iload 6, 2) := by decide +kernel
theorem dX3_sumOnto_30 : decode cX3_sumOnto 30 = .ok (.if_icmp .ge 26, 3) := by decide +kernel
theorem dX3_sumOnto_33 : decode cX3_sumOnto 33 = .ok (.aload 5, 2) := by decide +kernel
theorem dX3_sumOnto_35 : decode cX3_sumOnto 35 = .ok (.iload 7, 2) := by decide +kernel
theorem dX3_sumOnto_37 : decode cX3_sumOnto 37 = .ok (.iaload, 1) := by decide +kernel
theorem dX3_sumOnto_38 : decode cX3_sumOnto 38 = .ok (.istore 8, 2) := by decide +kernel
theorem dX3_sumOnto_40 : decode cX3_sumOnto 40 = .ok (.ldc2_w 17, 3) := by decide +kernel
theorem dX3_sumOnto_43 : decode cX3_sumOnto 43 = .ok (.lload_n 3, 1) := by decide +kernel
theorem dX3_sumOnto_44 : decode cX3_sumOnto 44 = .ok (.lmul, 1) := by decide +kernel
theorem dX3_sumOnto_45 : decode cX3_sumOnto 45 = .ok (.iload 8, 2) := by decide +kernel
theorem dX3_sumOnto_47 : decode cX3_sumOnto 47 = .ok (.i2l, 1) := by decide +kernel
theorem dX3_sumOnto_48 : decode cX3_sumOnto 48 = .ok (.ladd, 1) := by decide +kernel
theorem dX3_sumOnto_49 : decode cX3_sumOnto 49 = .ok (.lstore_n 3, 1) := by decide +kernel
theorem dX3_sumOnto_50 : decode cX3_sumOnto 50 = .ok (.iinc 7 1, 3) := by decide +kernel
theorem dX3_sumOnto_53 : decode cX3_sumOnto 53 = .ok (.goto (-27), 3) := by decide +kernel
theorem dX3_sumOnto_56 : decode cX3_sumOnto 56 = .ok (.ldc2_w 17, 3) := by decide +kernel
theorem dX3_sumOnto_59 : decode cX3_sumOnto 59 = .ok (.lload_n 3, 1) := by decide +kernel
theorem dX3_sumOnto_60 : decode cX3_sumOnto 60 = .ok (.lmul, 1) := by decide +kernel
theorem dX3_sumOnto_61 : decode cX3_sumOnto 61 = .ok (.ldc2_w 19, 3) := by decide +kernel
theorem dX3_sumOnto_64 : decode cX3_sumOnto 64 = .ok (.ladd, 1) := by decide +kernel
theorem dX3_sumOnto_65 : decode cX3_sumOnto 65 = .ok (.lreturn, 1) := by decide +kernel
theorem dX4_init_0 : decode cX4_init 0 = .ok (.aload_n 0, 1) := by decide +kernel
theorem dX4_init_1 : decode cX4_init 1 = .ok (.invokespecial 3, 3) := by decide +kernel
theorem dX4_init_4 : decode cX4_init 4 = .ok (.aload_n 0, 1) := by decide +kernel
theorem dX4_init_5 : decode cX4_init 5 = .ok (.iconst 4, 1) := by decide +kernel
theorem dX4_init_6 : decode cX4_init 6 = .ok (.anewarray 9, 3) := by decide +kernel
theorem dX4_init_9 : decode cX4_init 9 = .ok (.putfield 11, 3) := by decide +kernel
theorem dX4_init_12 : decode cX4_init 12 = .ok (.return_, 1) := by decide +kernel
theorem dX4_rowAt_0 : decode cX4_rowAt 0 = .ok (.iload_n 1, 1) := by decide +kernel
theorem dX4_rowAt_1 : decode cX4_rowAt 1 = .ok (.ifCond .lt 11, 3) := by decide +kernel
theorem dX4_rowAt_4 : decode cX4_rowAt 4 = .ok (.iload_n 1, 1) := by decide +kernel
theorem dX4_rowAt_5 : decode cX4_rowAt 5 = .ok (.aload_n 0, 1) := by decide +kernel
theorem dX4_rowAt_6 : decode cX4_rowAt 6 = .ok (.getfield 17, 3) := by decide +kernel
theorem dX4_rowAt_9 : decode cX4_rowAt 9 = .ok (.if_icmp .lt 7, 3) := by decide +kernel
theorem dX4_rowAt_12 : decode cX4_rowAt 12 = .ok (.aconst_null, 1) := by decide +kernel
theorem dX4_rowAt_13 : decode cX4_rowAt 13 = .ok (.goto 9, 3) := by decide +kernel
theorem dX4_rowAt_16 : decode cX4_rowAt 16 = .ok (.aload_n 0, 1) := by decide +kernel
theorem dX4_rowAt_17 : decode cX4_rowAt 17 = .ok (.getfield 11, 3) := by decide +kernel
theorem dX4_rowAt_20 : decode cX4_rowAt 20 = .ok (.iload_n 1, 1) := by decide +kernel
theorem dX4_rowAt_21 : decode cX4_rowAt 21 = .ok (.aaload, 1) := by decide +kernel
theorem dX4_rowAt_22 : decode cX4_rowAt 22 = .ok (.areturn, 1) := by decide +kernel
theorem dX4_take_0 : decode cX4_take 0 = .ok (.aload_n 1, 1) := by decide +kernel
theorem dX4_take_1 : decode cX4_take 1 = .ok (.ifnull 31, 3) := by decide +kernel
theorem dX4_take_4 : decode cX4_take 4 = .ok (.aload_n 0, 1) := by decide +kernel
theorem dX4_take_5 : decode cX4_take 5 = .ok (.getfield 17, 3) := by decide +kernel
theorem dX4_take_8 : decode cX4_take 8 = .ok (.iconst 4, 1) := by decide +kernel
theorem dX4_take_9 : decode cX4_take 9 = .ok (.if_icmp .ge 23, 3) := by decide +kernel
theorem dX4_take_12 : decode cX4_take 12 = .ok (.aload_n 0, 1) := by decide +kernel
theorem dX4_take_13 : decode cX4_take 13 = .ok (.getfield 11, 3) := by decide +kernel
theorem dX4_take_16 : decode cX4_take 16 = .ok (.aload_n 0, 1) := by decide +kernel
theorem dX4_take_17 : decode cX4_take 17 = .ok (.getfield 17, 3) := by decide +kernel
theorem dX4_take_20 : decode cX4_take 20 = .ok (.aload_n 1, 1) := by decide +kernel
theorem dX4_take_21 : decode cX4_take 21 = .ok (.aastore, 1) := by decide +kernel
theorem dX4_take_22 : decode cX4_take 22 = .ok (.aload_n 0, 1) := by decide +kernel
theorem dX4_take_23 : decode cX4_take 23 = .ok (.dup, 1) := by decide +kernel
theorem dX4_take_24 : decode cX4_take 24 = .ok (.getfield 17, 3) := by decide +kernel
theorem dX4_take_27 : decode cX4_take 27 = .ok (.iconst 1, 1) := by decide +kernel
theorem dX4_take_28 : decode cX4_take 28 = .ok (.iadd, 1) := by decide +kernel
theorem dX4_take_29 : decode cX4_take 29 = .ok (.putfield 17, 3) := by decide +kernel
theorem dX4_take_32 : decode cX4_take 32 = .ok (.return_, 1) := by decide +kernel
theorem dX4_takeUnlike_0 : decode cX4_takeUnlike 0 = .ok (.iconst 0, 1) := by decide +kernel
theorem dX4_takeUnlike_1 : decode cX4_takeUnlike 1 = .ok (.istore_n 2, 1) := by decide +kernel
theorem dX4_takeUnlike_2 : decode cX4_takeUnlike 2 = .ok (.iload_n 2, 1) := by decide +kernel
theorem dX4_takeUnlike_3 : decode cX4_takeUnlike 3 = .ok (.aload_n 1, 1) := by decide +kernel
theorem dX4_takeUnlike_4 : decode cX4_takeUnlike 4 = .ok (.getfield 17, 3) := by decide +kernel
theorem dX4_takeUnlike_7 : decode cX4_takeUnlike 7 = .ok (.if_icmp .ge 28, 3) := by decide +kernel
theorem dX4_takeUnlike_10 : decode cX4_takeUnlike 10 = .ok (.aload_n 1, 1) := by decide +kernel
theorem dX4_takeUnlike_11 : decode cX4_takeUnlike 11 = .ok (.iload_n 2, 1) := by decide +kernel
theorem dX4_takeUnlike_12 : decode cX4_takeUnlike 12 = .ok (.invokevirtual 21, 3) := by decide +kernel
theorem dX4_takeUnlike_15 : decode cX4_takeUnlike 15 = .ok (.astore_n 3, 1) := by decide +kernel
theorem dX4_takeUnlike_16 : decode cX4_takeUnlike 16 = .ok (.aload_n 0, 1) := by decide +kernel
theorem dX4_takeUnlike_17 : decode cX4_takeUnlike 17 = .ok (.aload_n 3, 1) := by decide +kernel
theorem dX4_takeUnlike_18 : decode cX4_takeUnlike 18 = .ok (.invokevirtual 25, 3) := by decide +kernel
theorem dX4_takeUnlike_21 : decode cX4_takeUnlike 21 = .ok (.ifCond .ne 8, 3) := by decide +kernel
theorem dX4_takeUnlike_24 : decode cX4_takeUnlike 24 = .ok (.aload_n 0, 1) := by decide +kernel
theorem dX4_takeUnlike_25 : decode cX4_takeUnlike 25 = .ok (.aload_n 3, 1) := by decide +kernel
theorem dX4_takeUnlike_26 : decode cX4_takeUnlike 26 = .ok (.invokevirtual 29, 3) := by decide +kernel
theorem dX4_takeUnlike_29 : decode cX4_takeUnlike 29 = .ok (.iinc 2 1, 3) := by decide +kernel
theorem dX4_takeUnlike_32 : decode cX4_takeUnlike 32 = .ok (.goto (-30), 3) := by decide +kernel
theorem dX4_takeUnlike_35 : decode cX4_takeUnlike 35 = .ok (.return_, 1) := by decide +kernel
theorem dX4_hasLike_0 : decode cX4_hasLike 0 = .ok (.iconst 0, 1) := by decide +kernel
theorem dX4_hasLike_1 : decode cX4_hasLike 1 = .ok (.istore_n 2, 1) := by decide +kernel
theorem dX4_hasLike_2 : decode cX4_hasLike 2 = .ok (.iload_n 2, 1) := by decide +kernel
theorem dX4_hasLike_3 : decode cX4_hasLike 3 = .ok (.aload_n 0, 1) := by decide +kernel
theorem dX4_hasLike_4 : decode cX4_hasLike 4 = .ok (.getfield 17, 3) := by decide +kernel
theorem dX4_hasLike_7 : decode cX4_hasLike 7 = .ok (.if_icmp .ge 29, 3) := by decide +kernel
theorem dX4_hasLike_10 : decode cX4_hasLike 10 = .ok (.aload_n 0, 1) := by decide +kernel
theorem dX4_hasLike_11 : decode cX4_hasLike 11 = .ok (.iload_n 2, 1) := by decide +kernel
theorem dX4_hasLike_12 : decode cX4_hasLike 12 = .ok (.invokevirtual 21, 3) := by decide +kernel
theorem dX4_hasLike_15 : decode cX4_hasLike 15 = .ok (.astore_n 3, 1) := by decide +kernel
theorem dX4_hasLike_16 : decode cX4_hasLike 16 = .ok (.aload_n 3, 1) := by decide +kernel
theorem dX4_hasLike_17 : decode cX4_hasLike 17 = .ok (.ifnull 13, 3) := by decide +kernel
theorem dX4_hasLike_20 : decode cX4_hasLike 20 = .ok (.aload_n 3, 1) := by decide +kernel
theorem dX4_hasLike_21 : decode cX4_hasLike 21 = .ok (.aload_n 1, 1) := by decide +kernel
theorem dX4_hasLike_22 : decode cX4_hasLike 22 = .ok (.invokevirtual 33, 3) := by decide +kernel
theorem dX4_hasLike_25 : decode cX4_hasLike 25 = .ok (.ifCond .eq 5, 3) := by decide +kernel
theorem dX4_hasLike_28 : decode cX4_hasLike 28 = .ok (.iconst 1, 1) := by decide +kernel
theorem dX4_hasLike_29 : decode cX4_hasLike 29 = .ok (.ireturn, 1) := by decide +kernel
theorem dX4_hasLike_30 : decode cX4_hasLike 30 = .ok (.iinc 2 1, 3) := by decide +kernel
theorem dX4_hasLike_33 : decode cX4_hasLike 33 = .ok (.goto (-31), 3) := by decide +kernel
theorem dX4_hasLike_36 : decode cX4_hasLike 36 = .ok (.iconst 0, 1) := by decide +kernel
theorem dX4_hasLike_37 : decode cX4_hasLike 37 = .ok (.ireturn, 1) := by decide +kernel
theorem dX4_isLike_0 : decode cX4_isLike 0 = .ok (.aload_n 1, 1) := by decide +kernel
theorem dX4_isLike_1 : decode cX4_isLike 1 = .ok (.ifnull 14, 3) := by decide +kernel
theorem dX4_isLike_4 : decode cX4_isLike 4 = .ok (.aload_n 1, 1) := by decide +kernel
theorem dX4_isLike_5 : decode cX4_isLike 5 = .ok (.getfield 17, 3) := by decide +kernel
theorem dX4_isLike_8 : decode cX4_isLike 8 = .ok (.aload_n 0, 1) := by decide +kernel
theorem dX4_isLike_9 : decode cX4_isLike 9 = .ok (.getfield 17, 3) := by decide +kernel
theorem dX4_isLike_12 : decode cX4_isLike 12 = .ok (.if_icmp .eq 5, 3) := by decide +kernel
theorem dX4_isLike_15 : decode cX4_isLike 15 = .ok (.iconst 0, 1) := by decide +kernel
theorem dX4_isLike_16 : decode cX4_isLike 16 = .ok (.ireturn, 1) := by decide +kernel
theorem dX4_isLike_17 : decode cX4_isLike 17 = .ok (.iconst 0, 1) := by decide +kernel
theorem dX4_isLike_18 : decode cX4_isLike 18 = .ok (.istore_n 2, 1) := by decide +kernel
theorem dX4_isLike_19 : decode cX4_isLike 19 = .ok (.iload_n 2, 1) := by decide +kernel
theorem dX4_isLike_20 : decode cX4_isLike 20 = .ok (.aload_n 0, 1) := by decide +kernel
theorem dX4_isLike_21 : decode cX4_isLike 21 = .ok (.getfield 17, 3) := by decide +kernel
theorem dX4_isLike_24 : decode cX4_isLike 24 = .ok (.if_icmp .ge 33, 3) := by decide +kernel
theorem dX4_isLike_27 : decode cX4_isLike 27 = .ok (.aload_n 0, 1) := by decide +kernel
theorem dX4_isLike_28 : decode cX4_isLike 28 = .ok (.iload_n 2, 1) := by decide +kernel
theorem dX4_isLike_29 : decode cX4_isLike 29 = .ok (.invokevirtual 21, 3) := by decide +kernel
theorem dX4_isLike_32 : decode cX4_isLike 32 = .ok (.astore_n 3, 1) := by decide +kernel
theorem dX4_isLike_33 : decode cX4_isLike 33 = .ok (.aload_n 3, 1) := by decide +kernel
theorem dX4_isLike_34 : decode cX4_isLike 34 = .ok (.ifnull 15, 3) := by decide +kernel
theorem dX4_isLike_37 : decode cX4_isLike 37 = .ok (.aload_n 3, 1) := by decide +kernel
theorem dX4_isLike_38 : decode cX4_isLike 38 = .ok (.aload_n 1, 1) := by decide +kernel
theorem dX4_isLike_39 : decode cX4_isLike 39 = .ok (.iload_n 2, 1) := by decide +kernel
theorem dX4_isLike_40 : decode cX4_isLike 40 = .ok (.invokevirtual 21, 3) := by decide +kernel
theorem dX4_isLike_43 : decode cX4_isLike 43 = .ok (.invokevirtual 33, 3) := by decide +kernel
theorem dX4_isLike_46 : decode cX4_isLike 46 = .ok (.ifCond .ne 5, 3) := by decide +kernel
theorem dX4_isLike_49 : decode cX4_isLike 49 = .ok (.iconst 0, 1) := by decide +kernel
theorem dX4_isLike_50 : decode cX4_isLike 50 = .ok (.ireturn, 1) := by decide +kernel
theorem dX4_isLike_51 : decode cX4_isLike 51 = .ok (.iinc 2 1, 3) := by decide +kernel
theorem dX4_isLike_54 : decode cX4_isLike 54 = .ok (.goto (-35), 3) := by decide +kernel
theorem dX4_isLike_57 : decode cX4_isLike 57 = .ok (.iconst 1, 1) := by decide +kernel
theorem dX4_isLike_58 : decode cX4_isLike 58 = .ok (.ireturn, 1) := by decide +kernel
theorem dX4_notesInAll_0 : decode cX4_notesInAll 0 = .ok (.aload_n 0, 1) := by decide +kernel
theorem dX4_notesInAll_1 : decode cX4_notesInAll 1 = .ok (.bipush 63, 2) := by decide +kernel
theorem dX4_notesInAll_3 : decode cX4_notesInAll 3 = .ok (.invokevirtual 36, 3) := by decide +kernel
theorem dX4_notesInAll_6 : decode cX4_notesInAll 6 = .ok (.aload_n 0, 1) := by decide +kernel
theorem dX4_notesInAll_7 : decode cX4_notesInAll 7 = .ok (.getfield 17, 3) := by decide +kernel
theorem dX4_notesInAll_10 : decode cX4_notesInAll 10 = .ok (.isub, 1) := by decide +kernel
theorem dX4_notesInAll_11 : decode cX4_notesInAll 11 = .ok (.ireturn, 1) := by decide +kernel
theorem dX4_partsBy_0 : decode cX4_partsBy 0 = .ok (.iconst 0, 1) := by decide +kernel
theorem dX4_partsBy_1 : decode cX4_partsBy 1 = .ok (.istore_n 2, 1) := by decide +kernel
theorem dX4_partsBy_2 : decode cX4_partsBy 2 = .ok (.iconst 0, 1) := by decide +kernel
theorem dX4_partsBy_3 : decode cX4_partsBy 3 = .ok (.istore_n 3, 1) := by decide +kernel
theorem dX4_partsBy_4 : decode cX4_partsBy 4 = .ok (.iload_n 3, 1) := by decide +kernel
theorem dX4_partsBy_5 : decode cX4_partsBy 5 = .ok (.aload_n 0, 1) := by decide +kernel
theorem dX4_partsBy_6 : decode cX4_partsBy 6 = .ok (.getfield 17, 3) := by decide +kernel
theorem dX4_partsBy_9 : decode cX4_partsBy 9 = .ok (.if_icmp .ge 30, 3) := by decide +kernel
theorem dX4_partsBy_12 : decode cX4_partsBy 12 = .ok (.aload_n 0, 1) := by decide +kernel
theorem dX4_partsBy_13 : decode cX4_partsBy 13 = .ok (.iload_n 3, 1) := by decide +kernel
theorem dX4_partsBy_14 : decode cX4_partsBy 14 = .ok (.invokevirtual 21, 3) := by decide +kernel
theorem dX4_partsBy_17 : decode cX4_partsBy 17 = .ok (.astore 4, 2) := by decide +kernel
theorem dX4_partsBy_19 : decode cX4_partsBy 19 = .ok (.aload 4, 2) := by decide +kernel
theorem dX4_partsBy_21 : decode cX4_partsBy 21 = .ok (.ifnull 12, 3) := by decide +kernel
theorem dX4_partsBy_24 : decode cX4_partsBy 24 = .ok (.iload_n 2, 1) := by decide +kernel
theorem dX4_partsBy_25 : decode cX4_partsBy 25 = .ok (.aload 4, 2) := by decide +kernel
theorem dX4_partsBy_27 : decode cX4_partsBy 27 = .ok (.iload_n 1, 1) := by decide +kernel
theorem dX4_partsBy_28 : decode cX4_partsBy 28 = .ok (.invokevirtual 40, 3) := by decide +kernel
theorem dX4_partsBy_31 : decode cX4_partsBy 31 = .ok (.iadd, 1) := by decide +kernel
theorem dX4_partsBy_32 : decode cX4_partsBy 32 = .ok (.istore_n 2, 1) := by decide +kernel
theorem dX4_partsBy_33 : decode cX4_partsBy 33 = .ok (.iinc 3 1, 3) := by decide +kernel
theorem dX4_partsBy_36 : decode cX4_partsBy 36 = .ok (.goto (-32), 3) := by decide +kernel
theorem dX4_partsBy_39 : decode cX4_partsBy 39 = .ok (.iload_n 2, 1) := by decide +kernel
theorem dX4_partsBy_40 : decode cX4_partsBy 40 = .ok (.ireturn, 1) := by decide +kernel
theorem dX4_sumOnto_0 : decode cX4_sumOnto 0 = .ok (.lload_n 1, 1) := by decide +kernel
theorem dX4_sumOnto_1 : decode cX4_sumOnto 1 = .ok (.lstore_n 3, 1) := by decide +kernel
theorem dX4_sumOnto_2 : decode cX4_sumOnto 2 = .ok (.iconst 0, 1) := by decide +kernel
theorem dX4_sumOnto_3 : decode cX4_sumOnto 3 = .ok (.istore 5, 2) := by decide +kernel
theorem dX4_sumOnto_5 : decode cX4_sumOnto 5 = .ok (.iload 5, 2) := by decide +kernel
theorem dX4_sumOnto_7 : decode cX4_sumOnto 7 = .ok (.aload_n 0, 1) := by decide +kernel
theorem dX4_sumOnto_8 : decode cX4_sumOnto 8 = .ok (.getfield 17, 3) := by decide +kernel
theorem dX4_sumOnto_11 : decode cX4_sumOnto 11 = .ok (.if_icmp .ge 29, 3) := by decide +kernel
theorem dX4_sumOnto_14 : decode cX4_sumOnto 14 = .ok (.aload_n 0, 1) := by decide +kernel
theorem dX4_sumOnto_15 : decode cX4_sumOnto 15 = .ok (.iload 5, 2) := by decide +kernel
theorem dX4_sumOnto_17 : decode cX4_sumOnto 17 = .ok (.invokevirtual 21, 3) := by decide +kernel
theorem dX4_sumOnto_20 : decode cX4_sumOnto 20 = .ok (.astore 6, 2) := by decide +kernel
theorem dX4_sumOnto_22 : decode cX4_sumOnto 22 = .ok (.aload 6, 2) := by decide +kernel
theorem dX4_sumOnto_24 : decode cX4_sumOnto 24 = .ok (.ifnull 10, 3) := by decide +kernel
theorem dX4_sumOnto_27 : decode cX4_sumOnto 27 = .ok (.aload 6, 2) := by decide +kernel
theorem dX4_sumOnto_29 : decode cX4_sumOnto 29 = .ok (.lload_n 3, 1) := by decide +kernel
theorem dX4_sumOnto_30 : decode cX4_sumOnto 30 = .ok (.invokevirtual 41, 3) := by decide +kernel
theorem dX4_sumOnto_33 : decode cX4_sumOnto 33 = .ok (.lstore_n 3, 1) := by decide +kernel
theorem dX4_sumOnto_34 : decode cX4_sumOnto 34 = .ok (.iinc 5 1, 3) := by decide +kernel
theorem dX4_sumOnto_37 : decode cX4_sumOnto 37 = .ok (.goto (-32), 3) := by decide +kernel
theorem dX4_sumOnto_40 : decode cX4_sumOnto 40 = .ok (.lload_n 3, 1) := by decide +kernel
theorem dX4_sumOnto_41 : decode cX4_sumOnto 41 = .ok (.lreturn, 1) := by decide +kernel
theorem dX5_init_0 : decode cX5_init 0 = .ok (.aload_n 0, 1) := by decide +kernel
theorem dX5_init_1 : decode cX5_init 1 = .ok (.invokespecial 3, 3) := by decide +kernel
theorem dX5_init_4 : decode cX5_init 4 = .ok (.aload_n 0, 1) := by decide +kernel
theorem dX5_init_5 : decode cX5_init 5 = .ok (.bipush 32, 2) := by decide +kernel
theorem dX5_init_7 : decode cX5_init 7 = .ok (.anewarray 9, 3) := by decide +kernel
theorem dX5_init_10 : decode cX5_init 10 = .ok (.putfield 11, 3) := by decide +kernel
theorem dX5_init_13 : decode cX5_init 13 = .ok (.aload_n 0, 1) := by decide +kernel
theorem dX5_init_14 : decode cX5_init 14 = .ok (.iload_n 1, 1) := by decide +kernel
theorem dX5_init_15 : decode cX5_init 15 = .ok (.putfield 17, 3) := by decide +kernel
theorem dX5_init_18 : decode cX5_init 18 = .ok (.aload_n 0, 1) := by decide +kernel
theorem dX5_init_19 : decode cX5_init 19 = .ok (.iload_n 2, 1) := by decide +kernel
theorem dX5_init_20 : decode cX5_init 20 = .ok (.putfield 21, 3) := by decide +kernel
theorem dX5_init_23 : decode cX5_init 23 = .ok (.aload_n 0, 1) := by decide +kernel
theorem dX5_init_24 : decode cX5_init 24 = .ok (.lload_n 3, 1) := by decide +kernel
theorem dX5_init_25 : decode cX5_init 25 = .ok (.lconst 1, 1) := by decide +kernel
theorem dX5_init_26 : decode cX5_init 26 = .ok (.iload_n 1, 1) := by decide +kernel
theorem dX5_init_27 : decode cX5_init 27 = .ok (.lshl, 1) := by decide +kernel
theorem dX5_init_28 : decode cX5_init 28 = .ok (.lor, 1) := by decide +kernel
theorem dX5_init_29 : decode cX5_init 29 = .ok (.putfield 24, 3) := by decide +kernel
theorem dX5_init_32 : decode cX5_init 32 = .ok (.aload_n 0, 1) := by decide +kernel
theorem dX5_init_33 : decode cX5_init 33 = .ok (.iload 5, 2) := by decide +kernel
theorem dX5_init_35 : decode cX5_init 35 = .ok (.putfield 28, 3) := by decide +kernel
theorem dX5_init_38 : decode cX5_init 38 = .ok (.return_, 1) := by decide +kernel
theorem dX5_sheafAt_0 : decode cX5_sheafAt 0 = .ok (.iload_n 1, 1) := by decide +kernel
theorem dX5_sheafAt_1 : decode cX5_sheafAt 1 = .ok (.ifCond .lt 18, 3) := by decide +kernel
theorem dX5_sheafAt_4 : decode cX5_sheafAt 4 = .ok (.iload_n 1, 1) := by decide +kernel
theorem dX5_sheafAt_5 : decode cX5_sheafAt 5 = .ok (.bipush 8, 2) := by decide +kernel
theorem dX5_sheafAt_7 : decode cX5_sheafAt 7 = .ok (.if_icmp .ge 12, 3) := by decide +kernel
theorem dX5_sheafAt_10 : decode cX5_sheafAt 10 = .ok (.iload_n 2, 1) := by decide +kernel
theorem dX5_sheafAt_11 : decode cX5_sheafAt 11 = .ok (.ifCond .lt 8, 3) := by decide +kernel
theorem dX5_sheafAt_14 : decode cX5_sheafAt 14 = .ok (.iload_n 2, 1) := by decide +kernel
theorem dX5_sheafAt_15 : decode cX5_sheafAt 15 = .ok (.iconst 4, 1) := by decide +kernel
theorem dX5_sheafAt_16 : decode cX5_sheafAt 16 = .ok (.if_icmp .lt 5, 3) := by decide +kernel
theorem dX5_sheafAt_19 : decode cX5_sheafAt 19 = .ok (.aconst_null, 1) := by decide +kernel
theorem dX5_sheafAt_20 : decode cX5_sheafAt 20 = .ok (.areturn, 1) := by decide +kernel
theorem dX5_sheafAt_21 : decode cX5_sheafAt 21 = .ok (.aload_n 0, 1) := by decide +kernel
theorem dX5_sheafAt_22 : decode cX5_sheafAt 22 = .ok (.getfield 11, 3) := by decide +kernel
theorem dX5_sheafAt_25 : decode cX5_sheafAt 25 = .ok (.iload_n 1, 1) := by decide +kernel
theorem dX5_sheafAt_26 : decode cX5_sheafAt 26 = .ok (.iconst 4, 1) := by decide +kernel
theorem dX5_sheafAt_27 : decode cX5_sheafAt 27 = .ok (.imul, 1) := by decide +kernel
theorem dX5_sheafAt_28 : decode cX5_sheafAt 28 = .ok (.iload_n 2, 1) := by decide +kernel
theorem dX5_sheafAt_29 : decode cX5_sheafAt 29 = .ok (.iadd, 1) := by decide +kernel
theorem dX5_sheafAt_30 : decode cX5_sheafAt 30 = .ok (.aaload, 1) := by decide +kernel
theorem dX5_sheafAt_31 : decode cX5_sheafAt 31 = .ok (.areturn, 1) := by decide +kernel
theorem dX5_put_0 : decode cX5_put 0 = .ok (.iload_n 1, 1) := by decide +kernel
theorem dX5_put_1 : decode cX5_put 1 = .ok (.ifCond .lt 16, 3) := by decide +kernel
theorem dX5_put_4 : decode cX5_put 4 = .ok (.iload_n 1, 1) := by decide +kernel
theorem dX5_put_5 : decode cX5_put 5 = .ok (.bipush 32, 2) := by decide +kernel
theorem dX5_put_7 : decode cX5_put 7 = .ok (.if_icmp .ge 10, 3) := by decide +kernel
theorem dX5_put_10 : decode cX5_put 10 = .ok (.aload_n 0, 1) := by decide +kernel
theorem dX5_put_11 : decode cX5_put 11 = .ok (.getfield 11, 3) := by decide +kernel
theorem dX5_put_14 : decode cX5_put 14 = .ok (.iload_n 1, 1) := by decide +kernel
theorem dX5_put_15 : decode cX5_put 15 = .ok (.aload_n 2, 1) := by decide +kernel
theorem dX5_put_16 : decode cX5_put 16 = .ok (.aastore, 1) := by decide +kernel
theorem dX5_put_17 : decode cX5_put 17 = .ok (.return_, 1) := by decide +kernel
theorem dX5_fillEmpty_0 : decode cX5_fillEmpty 0 = .ok (.new 31, 3) := by decide +kernel
theorem dX5_fillEmpty_3 : decode cX5_fillEmpty 3 = .ok (.dup, 1) := by decide +kernel
theorem dX5_fillEmpty_4 : decode cX5_fillEmpty 4 = .ok (.iconst 0, 1) := by decide +kernel
theorem dX5_fillEmpty_5 : decode cX5_fillEmpty 5 = .ok (.iconst 0, 1) := by decide +kernel
theorem dX5_fillEmpty_6 : decode cX5_fillEmpty 6 = .ok (.newarray .int, 2) := by decide +kernel
theorem dX5_fillEmpty_8 : decode cX5_fillEmpty 8 = .ok (.invokespecial 33, 3) := by decide +kernel
theorem dX5_fillEmpty_11 : decode cX5_fillEmpty 11 = .ok (.invokestatic 36, 3) := by decide +kernel
theorem dX5_fillEmpty_14 : decode cX5_fillEmpty 14 = .ok (.astore_n 3, 1) := by decide +kernel
theorem dX5_fillEmpty_15 : decode cX5_fillEmpty 15 = .ok (.iconst 0, 1) := by decide +kernel
theorem dX5_fillEmpty_16 : decode cX5_fillEmpty 16 = .ok (.istore 4, 2) := by decide +kernel
theorem dX5_fillEmpty_18 : decode cX5_fillEmpty 18 = .ok (.iload 4, 2) := by decide +kernel
theorem dX5_fillEmpty_20 : decode cX5_fillEmpty 20 = .ok (.iload_n 1, 1) := by decide +kernel
theorem dX5_fillEmpty_21 : decode cX5_fillEmpty 21 = .ok (.if_icmp .ge 36, 3) := by decide +kernel
theorem dX5_fillEmpty_24 : decode cX5_fillEmpty 24 = .ok (.iconst 0, 1) := by decide +kernel
theorem dX5_fillEmpty_25 : decode cX5_fillEmpty 25 = .ok (.istore 5, 2) := by decide +kernel
theorem dX5_fillEmpty_27 : decode cX5_fillEmpty 27 = .ok (.iload 5, 2) := by decide +kernel
theorem dX5_fillEmpty_29 : decode cX5_fillEmpty 29 = .ok (.iload_n 2, 1) := by decide +kernel
theorem dX5_fillEmpty_30 : decode cX5_fillEmpty 30 = .ok (.if_icmp .ge 21, 3) := by decide +kernel
theorem dX5_fillEmpty_33 : decode cX5_fillEmpty 33 = .ok (.aload_n 0, 1) := by decide +kernel
theorem dX5_fillEmpty_34 : decode cX5_fillEmpty 34 = .ok (.iload 4, 2) := by decide +kernel
theorem dX5_fillEmpty_36 : decode cX5_fillEmpty 36 = .ok (.iconst 4, 1) := by decide +kernel
theorem dX5_fillEmpty_37 : decode cX5_fillEmpty 37 = .ok (.imul, 1) := by decide +kernel
theorem dX5_fillEmpty_38 : decode cX5_fillEmpty 38 = .ok (.iload 5, 2) := by decide +kernel
theorem dX5_fillEmpty_40 : decode cX5_fillEmpty 40 = .ok (.iadd, 1) := by decide +kernel
theorem dX5_fillEmpty_41 : decode cX5_fillEmpty 41 = .ok (.aload_n 3, 1) := by decide +kernel
theorem dX5_fillEmpty_42 : decode cX5_fillEmpty 42 = .ok (.invokevirtual 40, 3) := by decide +kernel
theorem dX5_fillEmpty_45 : decode cX5_fillEmpty 45 = .ok (.iinc 5 1, 3) := by decide +kernel
theorem dX5_fillEmpty_48 : decode cX5_fillEmpty 48 = .ok (.goto (-21), 3) := by decide +kernel
theorem dX5_fillEmpty_51 : decode cX5_fillEmpty 51 = .ok (.iinc 4 1, 3) := by decide +kernel
theorem dX5_fillEmpty_54 : decode cX5_fillEmpty 54 = .ok (.goto (-36), 3) := by decide +kernel
theorem dX5_fillEmpty_57 : decode cX5_fillEmpty 57 = .ok (.return_, 1) := by decide +kernel
theorem dX5_copySheaves_0 : decode cX5_copySheaves 0 = .ok (.iconst 0, 1) := by decide +kernel
theorem dX5_copySheaves_1 : decode cX5_copySheaves 1 = .ok (.istore_n 2, 1) := by decide +kernel
theorem dX5_copySheaves_2 : decode cX5_copySheaves 2 = .ok (.iload_n 2, 1) := by decide +kernel
theorem dX5_copySheaves_3 : decode cX5_copySheaves 3 = .ok (.bipush 32, 2) := by decide +kernel
theorem dX5_copySheaves_5 : decode cX5_copySheaves 5 = .ok (.if_icmp .ge 21, 3) := by decide +kernel
theorem dX5_copySheaves_8 : decode cX5_copySheaves 8 = .ok (.aload_n 0, 1) := by decide +kernel
theorem dX5_copySheaves_9 : decode cX5_copySheaves 9 = .ok (.getfield 11, 3) := by decide +kernel
theorem dX5_copySheaves_12 : decode cX5_copySheaves 12 = .ok (.iload_n 2, 1) := by decide +kernel
theorem dX5_copySheaves_13 : decode cX5_copySheaves 13 = .ok (.aload_n 1, 1) := by decide +kernel
theorem dX5_copySheaves_14 : decode cX5_copySheaves 14 = .ok (.getfield 11, 3) := by decide +kernel
theorem dX5_copySheaves_17 : decode cX5_copySheaves 17 = .ok (.iload_n 2, 1) := by decide +kernel
theorem dX5_copySheaves_18 : decode cX5_copySheaves 18 = .ok (.aaload, 1) := by decide +kernel
theorem dX5_copySheaves_19 : decode cX5_copySheaves 19 = .ok (.aastore, 1) := by decide +kernel
theorem dX5_copySheaves_20 : decode cX5_copySheaves 20 = .ok (.iinc 2 1, 3) := by decide +kernel
theorem dX5_copySheaves_23 : decode cX5_copySheaves 23 = .ok (.goto (-21), 3) := by decide +kernel
theorem dX5_copySheaves_26 : decode cX5_copySheaves 26 = .ok (.return_, 1) := by decide +kernel
theorem dX5_mergeSheaves_0 : decode cX5_mergeSheaves 0 = .ok (.iconst 0, 1) := by decide +kernel
theorem dX5_mergeSheaves_1 : decode cX5_mergeSheaves 1 = .ok (.istore 5, 2) := by decide +kernel
theorem dX5_mergeSheaves_3 : decode cX5_mergeSheaves 3 = .ok (.iload 5, 2) := by decide +kernel
theorem dX5_mergeSheaves_5 : decode cX5_mergeSheaves 5 = .ok (.bipush 32, 2) := by decide +kernel
theorem dX5_mergeSheaves_7 : decode cX5_mergeSheaves 7 = .ok (.if_icmp .ge 169, 3) := by decide +kernel
theorem dX5_mergeSheaves_10 : decode cX5_mergeSheaves 10 = .ok (.aload 4, 2) := by decide +kernel
theorem dX5_mergeSheaves_12 : decode cX5_mergeSheaves 12 = .ok (.getfield 44, 3) := by decide +kernel
theorem dX5_mergeSheaves_15 : decode cX5_mergeSheaves 15 = .ok (.iload 5, 2) := by decide +kernel
theorem dX5_mergeSheaves_17 : decode cX5_mergeSheaves 17 = .ok (.iconst 4, 1) := by decide +kernel
theorem dX5_mergeSheaves_18 : decode cX5_mergeSheaves 18 = .ok (.irem, 1) := by decide +kernel
theorem dX5_mergeSheaves_19 : decode cX5_mergeSheaves 19 = .ok (.caload, 1) := by decide +kernel
theorem dX5_mergeSheaves_20 : decode cX5_mergeSheaves 20 = .ok (.istore 6, 2) := by decide +kernel
theorem dX5_mergeSheaves_22 : decode cX5_mergeSheaves 22 = .ok (.aload_n 1, 1) := by decide +kernel
theorem dX5_mergeSheaves_23 : decode cX5_mergeSheaves 23 = .ok (.getfield 11, 3) := by decide +kernel
theorem dX5_mergeSheaves_26 : decode cX5_mergeSheaves 26 = .ok (.iload 5, 2) := by decide +kernel
theorem dX5_mergeSheaves_28 : decode cX5_mergeSheaves 28 = .ok (.aaload, 1) := by decide +kernel
theorem dX5_mergeSheaves_29 : decode cX5_mergeSheaves 29 = .ok (.astore 7, 2) := by decide +kernel
theorem dX5_mergeSheaves_31 : decode cX5_mergeSheaves 31 = .ok (.aload_n 2, 1) := by decide +kernel
theorem dX5_mergeSheaves_32 : decode cX5_mergeSheaves 32 = .ok (.getfield 11, 3) := by decide +kernel
theorem dX5_mergeSheaves_35 : decode cX5_mergeSheaves 35 = .ok (.iload 5, 2) := by decide +kernel
theorem dX5_mergeSheaves_37 : decode cX5_mergeSheaves 37 = .ok (.aaload, 1) := by decide +kernel
theorem dX5_mergeSheaves_38 : decode cX5_mergeSheaves 38 = .ok (.astore 8, 2) := by decide +kernel
theorem dX5_mergeSheaves_40 : decode cX5_mergeSheaves 40 = .ok (.aload 7, 2) := by decide +kernel
theorem dX5_mergeSheaves_42 : decode cX5_mergeSheaves 42 = .ok (.aload 8, 2) := by decide +kernel
theorem dX5_mergeSheaves_44 : decode cX5_mergeSheaves 44 = .ok (.invokestatic 50, 3) := by decide +kernel
theorem dX5_mergeSheaves_47 : decode cX5_mergeSheaves 47 = .ok (.ifCond .ne 18, 3) := by decide +kernel
theorem dX5_mergeSheaves_50 : decode cX5_mergeSheaves 50 = .ok (.aload 8, 2) := by decide +kernel
theorem dX5_mergeSheaves_52 : decode cX5_mergeSheaves 52 = .ok (.aload_n 3, 1) := by decide +kernel
theorem dX5_mergeSheaves_53 : decode cX5_mergeSheaves 53 = .ok (.getfield 11, 3) := by decide +kernel
theorem dX5_mergeSheaves_56 : decode cX5_mergeSheaves 56 = .ok (.iload 5, 2) := by decide +kernel
theorem dX5_mergeSheaves_58 : decode cX5_mergeSheaves 58 = .ok (.aaload, 1) := by decide +kernel
theorem dX5_mergeSheaves_59 : decode cX5_mergeSheaves 59 = .ok (.invokestatic 50, 3) := by decide +kernel
theorem dX5_mergeSheaves_62 : decode cX5_mergeSheaves 62 = .ok (.ifCond .eq 15, 3) := by decide +kernel
theorem dX5_mergeSheaves_65 : decode cX5_mergeSheaves 65 = .ok (.aload_n 0, 1) := by decide +kernel
theorem dX5_mergeSheaves_66 : decode cX5_mergeSheaves 66 = .ok (.getfield 11, 3) := by decide +kernel
theorem dX5_mergeSheaves_69 : decode cX5_mergeSheaves 69 = .ok (.iload 5, 2) := by decide +kernel
theorem dX5_mergeSheaves_71 : decode cX5_mergeSheaves 71 = .ok (.aload 7, 2) := by decide +kernel
theorem dX5_mergeSheaves_73 : decode cX5_mergeSheaves 73 = .ok (.aastore, 1) := by decide +kernel
theorem dX5_mergeSheaves_74 : decode cX5_mergeSheaves 74 = .ok (.goto 96, 3) := by decide +kernel
theorem dX5_mergeSheaves_77 : decode cX5_mergeSheaves 77 = .ok (.aload 7, 2) := by decide +kernel
theorem dX5_mergeSheaves_79 : decode cX5_mergeSheaves 79 = .ok (.aload_n 3, 1) := by decide +kernel
theorem dX5_mergeSheaves_80 : decode cX5_mergeSheaves 80 = .ok (.getfield 11, 3) := by decide +kernel
theorem dX5_mergeSheaves_83 : decode cX5_mergeSheaves 83 = .ok (.iload 5, 2) := by decide +kernel
theorem dX5_mergeSheaves_85 : decode cX5_mergeSheaves 85 = .ok (.aaload, 1) := by decide +kernel
theorem dX5_mergeSheaves_86 : decode cX5_mergeSheaves 86 = .ok (.invokestatic 50, 3) := by decide +kernel
theorem dX5_mergeSheaves_89 : decode cX5_mergeSheaves 89 = .ok (.ifCond .eq 15, 3) := by decide +kernel
theorem dX5_mergeSheaves_92 : decode cX5_mergeSheaves 92 = .ok (.aload_n 0, 1) := by decide +kernel
theorem dX5_mergeSheaves_93 : decode cX5_mergeSheaves 93 = .ok (.getfield 11, 3) := by decide +kernel
theorem dX5_mergeSheaves_96 : decode cX5_mergeSheaves 96 = .ok (.iload 5, 2) := by decide +kernel
theorem dX5_mergeSheaves_98 : decode cX5_mergeSheaves 98 = .ok (.aload 8, 2) := by decide +kernel
theorem dX5_mergeSheaves_100 : decode cX5_mergeSheaves 100 = .ok (.aastore, 1) := by decide +kernel
theorem dX5_mergeSheaves_101 : decode cX5_mergeSheaves 101 = .ok (.goto 69, 3) := by decide +kernel
theorem dX5_mergeSheaves_104 : decode cX5_mergeSheaves 104 = .ok (.iload 6, 2) := by decide +kernel
theorem dX5_mergeSheaves_106 : decode cX5_mergeSheaves 106 = .ok (.bipush 108, 2) := by decide +kernel
theorem dX5_mergeSheaves_108 : decode cX5_mergeSheaves 108 = .ok (.if_icmp .ne 31, 3) := by decide +kernel
theorem dX5_mergeSheaves_111 : decode cX5_mergeSheaves 111 = .ok (.aload_n 0, 1) := by decide +kernel
theorem dX5_mergeSheaves_112 : decode cX5_mergeSheaves 112 = .ok (.getfield 11, 3) := by decide +kernel
theorem dX5_mergeSheaves_115 : decode cX5_mergeSheaves 115 = .ok (.iload 5, 2) := by decide +kernel
theorem dX5_mergeSheaves_117 : decode cX5_mergeSheaves 117 = .ok (.aload_n 1, 1) := by decide +kernel
theorem dX5_mergeSheaves_118 : decode cX5_mergeSheaves 118 = .ok (.getfield 17, 3) := by decide +kernel
theorem dX5_mergeSheaves_121 : decode cX5_mergeSheaves 121 = .ok (.aload_n 2, 1) := by decide +kernel
theorem dX5_mergeSheaves_122 : decode cX5_mergeSheaves 122 = .ok (.getfield 17, 3) := by decide +kernel
theorem dX5_mergeSheaves_125 : decode cX5_mergeSheaves 125 = .ok (.if_icmp .le 8, 3) := by decide +kernel
theorem dX5_mergeSheaves_128 : decode cX5_mergeSheaves 128 = .ok (.aload 7, 2) := by decide +kernel
theorem dX5_mergeSheaves_130 : decode cX5_mergeSheaves 130 = .ok (.goto 5, 3) := by decide +kernel
theorem dX5_mergeSheaves_133 : decode cX5_mergeSheaves 133 = .ok (.aload 8, 2) := by decide +kernel
theorem dX5_mergeSheaves_135 : decode cX5_mergeSheaves 135 = .ok (.aastore, 1) := by decide +kernel
theorem dX5_mergeSheaves_136 : decode cX5_mergeSheaves 136 = .ok (.goto 34, 3) := by decide +kernel
theorem dX5_mergeSheaves_139 : decode cX5_mergeSheaves 139 = .ok (.aload_n 0, 1) := by decide +kernel
theorem dX5_mergeSheaves_140 : decode cX5_mergeSheaves 140 = .ok (.getfield 11, 3) := by decide +kernel
theorem dX5_mergeSheaves_143 : decode cX5_mergeSheaves 143 = .ok (.iload 5, 2) := by decide +kernel
theorem dX5_mergeSheaves_145 : decode cX5_mergeSheaves 145 = .ok (.iload 6, 2) := by decide +kernel
theorem dX5_mergeSheaves_147 : decode cX5_mergeSheaves 147 = .ok (.bipush 110, 2) := by decide +kernel
theorem dX5_mergeSheaves_149 : decode cX5_mergeSheaves 149 = .ok (.if_icmp .ne 13, 3) := by decide +kernel
theorem dX5_mergeSheaves_152 : decode cX5_mergeSheaves 152 = .ok (.aload 7, 2) := by decide +kernel
theorem dX5_mergeSheaves_154 : decode cX5_mergeSheaves 154 = .ok (.aload 8, 2) := by decide +kernel
theorem dX5_mergeSheaves_156 : decode cX5_mergeSheaves 156 = .ok (.invokestatic 54, 3) := by decide +kernel
theorem dX5_mergeSheaves_159 : decode cX5_mergeSheaves 159 = .ok (.goto 10, 3) := by decide +kernel
theorem dX5_mergeSheaves_162 : decode cX5_mergeSheaves 162 = .ok (.aload 7, 2) := by decide +kernel
theorem dX5_mergeSheaves_164 : decode cX5_mergeSheaves 164 = .ok (.aload 8, 2) := by decide +kernel
theorem dX5_mergeSheaves_166 : decode cX5_mergeSheaves 166 = .ok (.invokestatic 58, 3) := by decide +kernel
theorem dX5_mergeSheaves_169 : decode cX5_mergeSheaves 169 = .ok (.aastore, 1) := by decide +kernel
theorem dX5_mergeSheaves_170 : decode cX5_mergeSheaves 170 = .ok (.iinc 5 1, 3) := by decide +kernel
theorem dX5_mergeSheaves_173 : decode cX5_mergeSheaves 173 = .ok (.goto (-170), 3) := by decide +kernel
theorem dX5_mergeSheaves_176 : decode cX5_mergeSheaves 176 = .ok (.return_, 1) := by decide +kernel
theorem dX5_fuller_0 : decode cX5_fuller 0 = .ok (.aload_n 0, 1) := by decide +kernel
theorem dX5_fuller_1 : decode cX5_fuller 1 = .ok (.ifnull 7, 3) := by decide +kernel
theorem dX5_fuller_4 : decode cX5_fuller 4 = .ok (.aload_n 1, 1) := by decide +kernel
theorem dX5_fuller_5 : decode cX5_fuller 5 = .ok (.ifnonnull 5, 3) := by decide +kernel
theorem dX5_fuller_8 : decode cX5_fuller 8 = .ok (.aload_n 0, 1) := by decide +kernel
theorem dX5_fuller_9 : decode cX5_fuller 9 = .ok (.areturn, 1) := by decide +kernel
theorem dX5_fuller_10 : decode cX5_fuller 10 = .ok (.aload_n 1, 1) := by decide +kernel
theorem dX5_fuller_11 : decode cX5_fuller 11 = .ok (.invokevirtual 61, 3) := by decide +kernel
theorem dX5_fuller_14 : decode cX5_fuller 14 = .ok (.aload_n 0, 1) := by decide +kernel
theorem dX5_fuller_15 : decode cX5_fuller 15 = .ok (.invokevirtual 61, 3) := by decide +kernel
theorem dX5_fuller_18 : decode cX5_fuller 18 = .ok (.if_icmp .le 7, 3) := by decide +kernel
theorem dX5_fuller_21 : decode cX5_fuller 21 = .ok (.aload_n 1, 1) := by decide +kernel
theorem dX5_fuller_22 : decode cX5_fuller 22 = .ok (.goto 4, 3) := by decide +kernel
theorem dX5_fuller_25 : decode cX5_fuller 25 = .ok (.aload_n 0, 1) := by decide +kernel
theorem dX5_fuller_26 : decode cX5_fuller 26 = .ok (.areturn, 1) := by decide +kernel
theorem dX5_both_0 : decode cX5_both 0 = .ok (.aload_n 0, 1) := by decide +kernel
theorem dX5_both_1 : decode cX5_both 1 = .ok (.ifnull 7, 3) := by decide +kernel
theorem dX5_both_4 : decode cX5_both 4 = .ok (.aload_n 1, 1) := by decide +kernel
theorem dX5_both_5 : decode cX5_both 5 = .ok (.ifnonnull 5, 3) := by decide +kernel
theorem dX5_both_8 : decode cX5_both 8 = .ok (.aload_n 0, 1) := by decide +kernel
theorem dX5_both_9 : decode cX5_both 9 = .ok (.areturn, 1) := by decide +kernel
theorem dX5_both_10 : decode cX5_both 10 = .ok (.new 9, 3) := by decide +kernel
theorem dX5_both_13 : decode cX5_both 13 = .ok (.dup, 1) := by decide +kernel
theorem dX5_both_14 : decode cX5_both 14 = .ok (.invokespecial 65, 3) := by decide +kernel
theorem dX5_both_17 : decode cX5_both 17 = .ok (.astore_n 2, 1) := by decide +kernel
theorem dX5_both_18 : decode cX5_both 18 = .ok (.iconst 0, 1) := by decide +kernel
theorem dX5_both_19 : decode cX5_both 19 = .ok (.istore_n 3, 1) := by decide +kernel
theorem dX5_both_20 : decode cX5_both 20 = .ok (.iload_n 3, 1) := by decide +kernel
theorem dX5_both_21 : decode cX5_both 21 = .ok (.aload_n 0, 1) := by decide +kernel
theorem dX5_both_22 : decode cX5_both 22 = .ok (.getfield 66, 3) := by decide +kernel
theorem dX5_both_25 : decode cX5_both 25 = .ok (.if_icmp .ge 18, 3) := by decide +kernel
theorem dX5_both_28 : decode cX5_both 28 = .ok (.aload_n 2, 1) := by decide +kernel
theorem dX5_both_29 : decode cX5_both 29 = .ok (.aload_n 0, 1) := by decide +kernel
theorem dX5_both_30 : decode cX5_both 30 = .ok (.iload_n 3, 1) := by decide +kernel
theorem dX5_both_31 : decode cX5_both 31 = .ok (.invokevirtual 69, 3) := by decide +kernel
theorem dX5_both_34 : decode cX5_both 34 = .ok (.invokevirtual 73, 3) := by decide +kernel
theorem dX5_both_37 : decode cX5_both 37 = .ok (.iinc 3 1, 3) := by decide +kernel
theorem dX5_both_40 : decode cX5_both 40 = .ok (.goto (-20), 3) := by decide +kernel
theorem dX5_both_43 : decode cX5_both 43 = .ok (.aload_n 2, 1) := by decide +kernel
theorem dX5_both_44 : decode cX5_both 44 = .ok (.aload_n 1, 1) := by decide +kernel
theorem dX5_both_45 : decode cX5_both 45 = .ok (.invokevirtual 77, 3) := by decide +kernel
theorem dX5_both_48 : decode cX5_both 48 = .ok (.aload_n 2, 1) := by decide +kernel
theorem dX5_both_49 : decode cX5_both 49 = .ok (.areturn, 1) := by decide +kernel
theorem dX5_isUnder_0 : decode cX5_isUnder 0 = .ok (.aload_n 0, 1) := by decide +kernel
theorem dX5_isUnder_1 : decode cX5_isUnder 1 = .ok (.getfield 24, 3) := by decide +kernel
theorem dX5_isUnder_4 : decode cX5_isUnder 4 = .ok (.aload_n 1, 1) := by decide +kernel
theorem dX5_isUnder_5 : decode cX5_isUnder 5 = .ok (.getfield 17, 3) := by decide +kernel
theorem dX5_isUnder_8 : decode cX5_isUnder 8 = .ok (.lshr, 1) := by decide +kernel
theorem dX5_isUnder_9 : decode cX5_isUnder 9 = .ok (.lconst 1, 1) := by decide +kernel
theorem dX5_isUnder_10 : decode cX5_isUnder 10 = .ok (.land, 1) := by decide +kernel
theorem dX5_isUnder_11 : decode cX5_isUnder 11 = .ok (.lconst 1, 1) := by decide +kernel
theorem dX5_isUnder_12 : decode cX5_isUnder 12 = .ok (.lcmp, 1) := by decide +kernel
theorem dX5_isUnder_13 : decode cX5_isUnder 13 = .ok (.ifCond .ne 7, 3) := by decide +kernel
theorem dX5_isUnder_16 : decode cX5_isUnder 16 = .ok (.iconst 1, 1) := by decide +kernel
theorem dX5_isUnder_17 : decode cX5_isUnder 17 = .ok (.goto 4, 3) := by decide +kernel
theorem dX5_isUnder_20 : decode cX5_isUnder 20 = .ok (.iconst 0, 1) := by decide +kernel
theorem dX5_isUnder_21 : decode cX5_isUnder 21 = .ok (.ireturn, 1) := by decide +kernel
theorem dX5_sheavesUnlike_0 : decode cX5_sheavesUnlike 0 = .ok (.iconst 0, 1) := by decide +kernel
theorem dX5_sheavesUnlike_1 : decode cX5_sheavesUnlike 1 = .ok (.istore_n 2, 1) := by decide +kernel
theorem dX5_sheavesUnlike_2 : decode cX5_sheavesUnlike 2 = .ok (.iconst 0, 1) := by decide +kernel
theorem dX5_sheavesUnlike_3 : decode cX5_sheavesUnlike 3 = .ok (.istore_n 3, 1) := by decide +kernel
theorem dX5_sheavesUnlike_4 : decode cX5_sheavesUnlike 4 = .ok (.iload_n 3, 1) := by decide +kernel
theorem dX5_sheavesUnlike_5 : decode cX5_sheavesUnlike 5 = .ok (.bipush 32, 2) := by decide +kernel
theorem dX5_sheavesUnlike_7 : decode cX5_sheavesUnlike 7 = .ok (.if_icmp .ge 30, 3) := by decide +kernel
theorem dX5_sheavesUnlike_10 : decode cX5_sheavesUnlike 10 = .ok (.aload_n 0, 1) := by decide +kernel
theorem dX5_sheavesUnlike_11 : decode cX5_sheavesUnlike 11 = .ok (.getfield 11, 3) := by decide +kernel
theorem dX5_sheavesUnlike_14 : decode cX5_sheavesUnlike 14 = .ok (.iload_n 3, 1) := by decide +kernel
theorem dX5_sheavesUnlike_15 : decode cX5_sheavesUnlike 15 = .ok (.aaload, 1) := by decide +kernel
theorem dX5_sheavesUnlike_16 : decode cX5_sheavesUnlike 16 = .ok (.aload_n 1, 1) := by decide +kernel
theorem dX5_sheavesUnlike_17 : decode cX5_sheavesUnlike 17 = .ok (.getfield 11, 3) := by decide +kernel
theorem dX5_sheavesUnlike_20 : decode cX5_sheavesUnlike 20 = .ok (.iload_n 3, 1) := by decide +kernel
theorem dX5_sheavesUnlike_21 : decode cX5_sheavesUnlike 21 = .ok (.aaload, 1) := by decide +kernel
theorem dX5_sheavesUnlike_22 : decode cX5_sheavesUnlike 22 = .ok (.invokestatic 50, 3) := by decide +kernel
theorem dX5_sheavesUnlike_25 : decode cX5_sheavesUnlike 25 = .ok (.ifCond .ne 6, 3) := by decide +kernel
theorem dX5_sheavesUnlike_28 : decode cX5_sheavesUnlike 28 = .ok (.iinc 2 1, 3) := by decide +kernel
theorem dX5_sheavesUnlike_31 : decode cX5_sheavesUnlike 31 = .ok (.iinc 3 1, 3) := by decide +kernel
theorem dX5_sheavesUnlike_34 : decode cX5_sheavesUnlike 34 = .ok (.goto (-30), 3) := by decide +kernel
theorem dX5_sheavesUnlike_37 : decode cX5_sheavesUnlike 37 = .ok (.iload_n 2, 1) := by decide +kernel
theorem dX5_sheavesUnlike_38 : decode cX5_sheavesUnlike 38 = .ok (.ireturn, 1) := by decide +kernel
theorem dX5_sheavesInDoubt_0 : decode cX5_sheavesInDoubt 0 = .ok (.iconst 0, 1) := by decide +kernel
theorem dX5_sheavesInDoubt_1 : decode cX5_sheavesInDoubt 1 = .ok (.istore_n 1, 1) := by decide +kernel
theorem dX5_sheavesInDoubt_2 : decode cX5_sheavesInDoubt 2 = .ok (.aload_n 0, 1) := by decide +kernel
theorem dX5_sheavesInDoubt_3 : decode cX5_sheavesInDoubt 3 = .ok (.getfield 11, 3) := by decide +kernel
theorem dX5_sheavesInDoubt_6 : decode cX5_sheavesInDoubt 6 = .ok (.astore_n 2, 1) := by decide +kernel
theorem dX5_sheavesInDoubt_7 : decode cX5_sheavesInDoubt 7 = .ok (.aload_n 2, 1) := by decide +kernel
theorem dX5_sheavesInDoubt_8 : decode cX5_sheavesInDoubt 8 = .ok (.arraylength, 1) := by decide +kernel
theorem dX5_sheavesInDoubt_9 : decode cX5_sheavesInDoubt 9 = .ok (.istore_n 3, 1) := by decide +kernel
theorem dX5_sheavesInDoubt_10 : decode cX5_sheavesInDoubt 10 = .ok (.iconst 0, 1) := by decide +kernel
theorem dX5_sheavesInDoubt_11 : decode cX5_sheavesInDoubt 11 = .ok (.istore 4, 2) := by decide +kernel
theorem dX5_sheavesInDoubt_13 : decode cX5_sheavesInDoubt 13 = .ok (.iload 4, 2) := by decide +kernel
theorem dX5_sheavesInDoubt_15 : decode cX5_sheavesInDoubt 15 = .ok (.iload_n 3, 1) := by decide +kernel
theorem dX5_sheavesInDoubt_16 : decode cX5_sheavesInDoubt 16 = .ok (.if_icmp .ge 32, 3) := by decide +kernel
theorem dX5_sheavesInDoubt_19 : decode cX5_sheavesInDoubt 19 = .ok (.aload_n 2, 1) := by decide +kernel
theorem dX5_sheavesInDoubt_20 : decode cX5_sheavesInDoubt 20 = .ok (.iload 4, 2) := by decide +kernel
theorem dX5_sheavesInDoubt_22 : decode cX5_sheavesInDoubt 22 = .ok (.aaload, 1) := by decide +kernel
theorem dX5_sheavesInDoubt_23 : decode cX5_sheavesInDoubt 23 = .ok (.astore 5, 2) := by decide +kernel
theorem dX5_sheavesInDoubt_25 : decode cX5_sheavesInDoubt 25 = .ok (.aload 5, 2) := by decide +kernel
theorem dX5_sheavesInDoubt_27 : decode cX5_sheavesInDoubt 27 = .ok (.ifnull 15, 3) := by decide +kernel
theorem dX5_sheavesInDoubt_30 : decode cX5_sheavesInDoubt 30 = .ok (.aload 5, 2) := by decide +kernel
theorem dX5_sheavesInDoubt_32 : decode cX5_sheavesInDoubt 32 = .ok (.getfield 66, 3) := by decide +kernel
theorem dX5_sheavesInDoubt_35 : decode cX5_sheavesInDoubt 35 = .ok (.iconst 1, 1) := by decide +kernel
theorem dX5_sheavesInDoubt_36 : decode cX5_sheavesInDoubt 36 = .ok (.if_icmp .le 6, 3) := by decide +kernel
theorem dX5_sheavesInDoubt_39 : decode cX5_sheavesInDoubt 39 = .ok (.iinc 1 1, 3) := by decide +kernel
theorem dX5_sheavesInDoubt_42 : decode cX5_sheavesInDoubt 42 = .ok (.iinc 4 1, 3) := by decide +kernel
theorem dX5_sheavesInDoubt_45 : decode cX5_sheavesInDoubt 45 = .ok (.goto (-32), 3) := by decide +kernel
theorem dX5_sheavesInDoubt_48 : decode cX5_sheavesInDoubt 48 = .ok (.iload_n 1, 1) := by decide +kernel
theorem dX5_sheavesInDoubt_49 : decode cX5_sheavesInDoubt 49 = .ok (.ireturn, 1) := by decide +kernel
theorem dX5_partsBy_0 : decode cX5_partsBy 0 = .ok (.iconst 0, 1) := by decide +kernel
theorem dX5_partsBy_1 : decode cX5_partsBy 1 = .ok (.istore_n 2, 1) := by decide +kernel
theorem dX5_partsBy_2 : decode cX5_partsBy 2 = .ok (.aload_n 0, 1) := by decide +kernel
theorem dX5_partsBy_3 : decode cX5_partsBy 3 = .ok (.getfield 11, 3) := by decide +kernel
theorem dX5_partsBy_6 : decode cX5_partsBy 6 = .ok (.astore_n 3, 1) := by decide +kernel
theorem dX5_partsBy_7 : decode cX5_partsBy 7 = .ok (.aload_n 3, 1) := by decide +kernel
theorem dX5_partsBy_8 : decode cX5_partsBy 8 = .ok (.arraylength, 1) := by decide +kernel
theorem dX5_partsBy_9 : decode cX5_partsBy 9 = .ok (.istore 4, 2) := by decide +kernel
theorem dX5_partsBy_11 : decode cX5_partsBy 11 = .ok (.iconst 0, 1) := by decide +kernel
theorem dX5_partsBy_12 : decode cX5_partsBy 12 = .ok (.istore 5, 2) := by decide +kernel
theorem dX5_partsBy_14 : decode cX5_partsBy 14 = .ok (.iload 5, 2) := by decide +kernel
theorem dX5_partsBy_16 : decode cX5_partsBy 16 = .ok (.iload 4, 2) := by decide +kernel
theorem dX5_partsBy_18 : decode cX5_partsBy 18 = .ok (.if_icmp .ge 29, 3) := by decide +kernel
theorem dX5_partsBy_21 : decode cX5_partsBy 21 = .ok (.aload_n 3, 1) := by decide +kernel
theorem dX5_partsBy_22 : decode cX5_partsBy 22 = .ok (.iload 5, 2) := by decide +kernel
theorem dX5_partsBy_24 : decode cX5_partsBy 24 = .ok (.aaload, 1) := by decide +kernel
theorem dX5_partsBy_25 : decode cX5_partsBy 25 = .ok (.astore 6, 2) := by decide +kernel
theorem dX5_partsBy_27 : decode cX5_partsBy 27 = .ok (.aload 6, 2) := by decide +kernel
theorem dX5_partsBy_29 : decode cX5_partsBy 29 = .ok (.ifnull 12, 3) := by decide +kernel
theorem dX5_partsBy_32 : decode cX5_partsBy 32 = .ok (.iload_n 2, 1) := by decide +kernel
theorem dX5_partsBy_33 : decode cX5_partsBy 33 = .ok (.aload 6, 2) := by decide +kernel
theorem dX5_partsBy_35 : decode cX5_partsBy 35 = .ok (.iload_n 1, 1) := by decide +kernel
theorem dX5_partsBy_36 : decode cX5_partsBy 36 = .ok (.invokevirtual 81, 3) := by decide +kernel
theorem dX5_partsBy_39 : decode cX5_partsBy 39 = .ok (.iadd, 1) := by decide +kernel
theorem dX5_partsBy_40 : decode cX5_partsBy 40 = .ok (.istore_n 2, 1) := by decide +kernel
theorem dX5_partsBy_41 : decode cX5_partsBy 41 = .ok (.iinc 5 1, 3) := by decide +kernel
theorem dX5_partsBy_44 : decode cX5_partsBy 44 = .ok (.goto (-30), 3) := by decide +kernel
theorem dX5_partsBy_47 : decode cX5_partsBy 47 = .ok (.iload_n 2, 1) := by decide +kernel
theorem dX5_partsBy_48 : decode cX5_partsBy 48 = .ok (.ireturn, 1) := by decide +kernel
theorem dX5_sum_0 : decode cX5_sum 0 = .ok (.ldc2_w 85, 3) := by decide +kernel
theorem dX5_sum_3 : decode cX5_sum 3 = .ok (.lstore_n 1, 1) := by decide +kernel
theorem dX5_sum_4 : decode cX5_sum 4 = .ok (.aload_n 0, 1) := by decide +kernel
theorem dX5_sum_5 : decode cX5_sum 5 = .ok (.getfield 11, 3) := by decide +kernel
theorem dX5_sum_8 : decode cX5_sum 8 = .ok (.astore_n 3, 1) := by decide +kernel
theorem dX5_sum_9 : decode cX5_sum 9 = .ok (.aload_n 3, 1) := by decide +kernel
theorem dX5_sum_10 : decode cX5_sum 10 = .ok (.arraylength, 1) := by decide +kernel
theorem dX5_sum_11 : decode cX5_sum 11 = .ok (.istore 4, 2) := by decide +kernel
theorem dX5_sum_13 : decode cX5_sum 13 = .ok (.iconst 0, 1) := by decide +kernel
theorem dX5_sum_14 : decode cX5_sum 14 = .ok (.istore 5, 2) := by decide +kernel
theorem dX5_sum_16 : decode cX5_sum 16 = .ok (.iload 5, 2) := by decide +kernel
theorem dX5_sum_18 : decode cX5_sum 18 = .ok (.iload 4, 2) := by decide +kernel
theorem dX5_sum_20 : decode cX5_sum 20 = .ok (.if_icmp .ge 27, 3) := by decide +kernel
theorem dX5_sum_23 : decode cX5_sum 23 = .ok (.aload_n 3, 1) := by decide +kernel
theorem dX5_sum_24 : decode cX5_sum 24 = .ok (.iload 5, 2) := by decide +kernel
theorem dX5_sum_26 : decode cX5_sum 26 = .ok (.aaload, 1) := by decide +kernel
theorem dX5_sum_27 : decode cX5_sum 27 = .ok (.astore 6, 2) := by decide +kernel
theorem dX5_sum_29 : decode cX5_sum 29 = .ok (.aload 6, 2) := by decide +kernel
theorem dX5_sum_31 : decode cX5_sum 31 = .ok (.ifnull 10, 3) := by decide +kernel
theorem dX5_sum_34 : decode cX5_sum 34 = .ok (.aload 6, 2) := by decide +kernel
theorem dX5_sum_36 : decode cX5_sum 36 = .ok (.lload_n 1, 1) := by decide +kernel
theorem dX5_sum_37 : decode cX5_sum 37 = .ok (.invokevirtual 87, 3) := by decide +kernel
theorem dX5_sum_40 : decode cX5_sum 40 = .ok (.lstore_n 1, 1) := by decide +kernel
theorem dX5_sum_41 : decode cX5_sum 41 = .ok (.iinc 5 1, 3) := by decide +kernel
theorem dX5_sum_44 : decode cX5_sum 44 = .ok (.goto (-28), 3) := by decide +kernel
theorem dX5_sum_47 : decode cX5_sum 47 = .ok (.lload_n 1, 1) := by decide +kernel
theorem dX5_sum_48 : decode cX5_sum 48 = .ok (.lreturn, 1) := by decide +kernel
theorem dX6_init_0 : decode cX6_init 0 = .ok (.aload_n 0, 1) := by decide +kernel
theorem dX6_init_1 : decode cX6_init 1 = .ok (.invokespecial 3, 3) := by decide +kernel
theorem dX6_init_4 : decode cX6_init 4 = .ok (.aload_n 0, 1) := by decide +kernel
theorem dX6_init_5 : decode cX6_init 5 = .ok (.bipush 6, 2) := by decide +kernel
theorem dX6_init_7 : decode cX6_init 7 = .ok (.anewarray 9, 3) := by decide +kernel
theorem dX6_init_10 : decode cX6_init 10 = .ok (.putfield 11, 3) := by decide +kernel
theorem dX6_init_13 : decode cX6_init 13 = .ok (.aload_n 0, 1) := by decide +kernel
theorem dX6_init_14 : decode cX6_init 14 = .ok (.bipush 40, 2) := by decide +kernel
theorem dX6_init_16 : decode cX6_init 16 = .ok (.anewarray 15, 3) := by decide +kernel
theorem dX6_init_19 : decode cX6_init 19 = .ok (.putfield 17, 3) := by decide +kernel
theorem dX6_init_22 : decode cX6_init 22 = .ok (.aload_n 0, 1) := by decide +kernel
theorem dX6_init_23 : decode cX6_init 23 = .ok (.bipush 24, 2) := by decide +kernel
theorem dX6_init_25 : decode cX6_init 25 = .ok (.anewarray 21, 3) := by decide +kernel
theorem dX6_init_28 : decode cX6_init 28 = .ok (.putfield 23, 3) := by decide +kernel
theorem dX6_init_31 : decode cX6_init 31 = .ok (.aload_n 0, 1) := by decide +kernel
theorem dX6_init_32 : decode cX6_init 32 = .ok (.bipush 12, 2) := by decide +kernel
theorem dX6_init_34 : decode cX6_init 34 = .ok (.anewarray 27, 3) := by decide +kernel
theorem dX6_init_37 : decode cX6_init 37 = .ok (.putfield 29, 3) := by decide +kernel
theorem dX6_init_40 : decode cX6_init 40 = .ok (.aload_n 0, 1) := by decide +kernel
theorem dX6_init_41 : decode cX6_init 41 = .ok (.bipush 8, 2) := by decide +kernel
theorem dX6_init_43 : decode cX6_init 43 = .ok (.newarray .int, 2) := by decide +kernel
theorem dX6_init_45 : decode cX6_init 45 = .ok (.putfield 33, 3) := by decide +kernel
theorem dX6_init_48 : decode cX6_init 48 = .ok (.return_, 1) := by decide +kernel
theorem dX6_piece_0 : decode cX6_piece 0 = .ok (.iload_n 1, 1) := by decide +kernel
theorem dX6_piece_1 : decode cX6_piece 1 = .ok (.iconst 1, 1) := by decide +kernel
theorem dX6_piece_2 : decode cX6_piece 2 = .ok (.if_icmp .lt 19, 3) := by decide +kernel
theorem dX6_piece_5 : decode cX6_piece 5 = .ok (.iload_n 1, 1) := by decide +kernel
theorem dX6_piece_6 : decode cX6_piece 6 = .ok (.bipush 8, 2) := by decide +kernel
theorem dX6_piece_8 : decode cX6_piece 8 = .ok (.if_icmp .gt 13, 3) := by decide +kernel
theorem dX6_piece_11 : decode cX6_piece 11 = .ok (.iload_n 2, 1) := by decide +kernel
theorem dX6_piece_12 : decode cX6_piece 12 = .ok (.iconst 1, 1) := by decide +kernel
theorem dX6_piece_13 : decode cX6_piece 13 = .ok (.if_icmp .lt 8, 3) := by decide +kernel
theorem dX6_piece_16 : decode cX6_piece 16 = .ok (.iload_n 2, 1) := by decide +kernel
theorem dX6_piece_17 : decode cX6_piece 17 = .ok (.iconst 4, 1) := by decide +kernel
theorem dX6_piece_18 : decode cX6_piece 18 = .ok (.if_icmp .le 13, 3) := by decide +kernel
theorem dX6_piece_21 : decode cX6_piece 21 = .ok (.new 37, 3) := by decide +kernel
theorem dX6_piece_24 : decode cX6_piece 24 = .ok (.dup, 1) := by decide +kernel
theorem dX6_piece_25 : decode cX6_piece 25 = .ok (.ldc 39, 2) := by decide +kernel
theorem dX6_piece_27 : decode cX6_piece 27 = .ok (.invokespecial 41, 3) := by decide +kernel
theorem dX6_piece_30 : decode cX6_piece 30 = .ok (.athrow, 1) := by decide +kernel
theorem dX6_piece_31 : decode cX6_piece 31 = .ok (.aload_n 0, 1) := by decide +kernel
theorem dX6_piece_32 : decode cX6_piece 32 = .ok (.getfield 44, 3) := by decide +kernel
theorem dX6_piece_35 : decode cX6_piece 35 = .ok (.bipush 6, 2) := by decide +kernel
theorem dX6_piece_37 : decode cX6_piece 37 = .ok (.if_icmp .ge 12, 3) := by decide +kernel
theorem dX6_piece_40 : decode cX6_piece 40 = .ok (.aload_n 0, 1) := by decide +kernel
theorem dX6_piece_41 : decode cX6_piece 41 = .ok (.getfield 48, 3) := by decide +kernel
theorem dX6_piece_44 : decode cX6_piece 44 = .ok (.bipush 40, 2) := by decide +kernel
theorem dX6_piece_46 : decode cX6_piece 46 = .ok (.if_icmp .lt 13, 3) := by decide +kernel
theorem dX6_piece_49 : decode cX6_piece 49 = .ok (.new 51, 3) := by decide +kernel
theorem dX6_piece_52 : decode cX6_piece 52 = .ok (.dup, 1) := by decide +kernel
theorem dX6_piece_53 : decode cX6_piece 53 = .ok (.ldc 53, 2) := by decide +kernel
theorem dX6_piece_55 : decode cX6_piece 55 = .ok (.invokespecial 55, 3) := by decide +kernel
theorem dX6_piece_58 : decode cX6_piece 58 = .ok (.athrow, 1) := by decide +kernel
theorem dX6_piece_59 : decode cX6_piece 59 = .ok (.aload_n 0, 1) := by decide +kernel
theorem dX6_piece_60 : decode cX6_piece 60 = .ok (.getfield 44, 3) := by decide +kernel
theorem dX6_piece_63 : decode cX6_piece 63 = .ok (.istore_n 3, 1) := by decide +kernel
theorem dX6_piece_64 : decode cX6_piece 64 = .ok (.new 15, 3) := by decide +kernel
theorem dX6_piece_67 : decode cX6_piece 67 = .ok (.dup, 1) := by decide +kernel
theorem dX6_piece_68 : decode cX6_piece 68 = .ok (.aload_n 0, 1) := by decide +kernel
theorem dX6_piece_69 : decode cX6_piece 69 = .ok (.getfield 48, 3) := by decide +kernel
theorem dX6_piece_72 : decode cX6_piece 72 = .ok (.iload_n 3, 1) := by decide +kernel
theorem dX6_piece_73 : decode cX6_piece 73 = .ok (.lconst 0, 1) := by decide +kernel
theorem dX6_piece_74 : decode cX6_piece 74 = .ok (.iconst (-1), 1) := by decide +kernel
theorem dX6_piece_75 : decode cX6_piece 75 = .ok (.invokespecial 56, 3) := by decide +kernel
theorem dX6_piece_78 : decode cX6_piece 78 = .ok (.astore 4, 2) := by decide +kernel
theorem dX6_piece_80 : decode cX6_piece 80 = .ok (.aload 4, 2) := by decide +kernel
theorem dX6_piece_82 : decode cX6_piece 82 = .ok (.iload_n 1, 1) := by decide +kernel
theorem dX6_piece_83 : decode cX6_piece 83 = .ok (.iload_n 2, 1) := by decide +kernel
theorem dX6_piece_84 : decode cX6_piece 84 = .ok (.invokevirtual 59, 3) := by decide +kernel
theorem dX6_piece_87 : decode cX6_piece 87 = .ok (.aload_n 0, 1) := by decide +kernel
theorem dX6_piece_88 : decode cX6_piece 88 = .ok (.getfield 11, 3) := by decide +kernel
theorem dX6_piece_91 : decode cX6_piece 91 = .ok (.iload_n 3, 1) := by decide +kernel
theorem dX6_piece_92 : decode cX6_piece 92 = .ok (.new 9, 3) := by decide +kernel
theorem dX6_piece_95 : decode cX6_piece 95 = .ok (.dup, 1) := by decide +kernel
theorem dX6_piece_96 : decode cX6_piece 96 = .ok (.aload_n 0, 1) := by decide +kernel
theorem dX6_piece_97 : decode cX6_piece 97 = .ok (.getfield 48, 3) := by decide +kernel
theorem dX6_piece_100 : decode cX6_piece 100 = .ok (.iload_n 2, 1) := by decide +kernel
theorem dX6_piece_101 : decode cX6_piece 101 = .ok (.invokespecial 63, 3) := by decide +kernel
theorem dX6_piece_104 : decode cX6_piece 104 = .ok (.aastore, 1) := by decide +kernel
theorem dX6_piece_105 : decode cX6_piece 105 = .ok (.iconst 0, 1) := by decide +kernel
theorem dX6_piece_106 : decode cX6_piece 106 = .ok (.istore 5, 2) := by decide +kernel
theorem dX6_piece_108 : decode cX6_piece 108 = .ok (.iload 5, 2) := by decide +kernel
theorem dX6_piece_110 : decode cX6_piece 110 = .ok (.iconst 4, 1) := by decide +kernel
theorem dX6_piece_111 : decode cX6_piece 111 = .ok (.if_icmp .ge 27, 3) := by decide +kernel
theorem dX6_piece_114 : decode cX6_piece 114 = .ok (.aload_n 0, 1) := by decide +kernel
theorem dX6_piece_115 : decode cX6_piece 115 = .ok (.getfield 23, 3) := by decide +kernel
theorem dX6_piece_118 : decode cX6_piece 118 = .ok (.iload_n 3, 1) := by decide +kernel
theorem dX6_piece_119 : decode cX6_piece 119 = .ok (.iconst 4, 1) := by decide +kernel
theorem dX6_piece_120 : decode cX6_piece 120 = .ok (.imul, 1) := by decide +kernel
theorem dX6_piece_121 : decode cX6_piece 121 = .ok (.iload 5, 2) := by decide +kernel
theorem dX6_piece_123 : decode cX6_piece 123 = .ok (.iadd, 1) := by decide +kernel
theorem dX6_piece_124 : decode cX6_piece 124 = .ok (.new 21, 3) := by decide +kernel
theorem dX6_piece_127 : decode cX6_piece 127 = .ok (.dup, 1) := by decide +kernel
theorem dX6_piece_128 : decode cX6_piece 128 = .ok (.invokespecial 65, 3) := by decide +kernel
theorem dX6_piece_131 : decode cX6_piece 131 = .ok (.aastore, 1) := by decide +kernel
theorem dX6_piece_132 : decode cX6_piece 132 = .ok (.iinc 5 1, 3) := by decide +kernel
theorem dX6_piece_135 : decode cX6_piece 135 = .ok (.goto (-27), 3) := by decide +kernel
theorem dX6_piece_138 : decode cX6_piece 138 = .ok (.aload_n 0, 1) := by decide +kernel
theorem dX6_piece_139 : decode cX6_piece 139 = .ok (.dup, 1) := by decide +kernel
theorem dX6_piece_140 : decode cX6_piece 140 = .ok (.getfield 44, 3) := by decide +kernel
theorem dX6_piece_143 : decode cX6_piece 143 = .ok (.iconst 1, 1) := by decide +kernel
theorem dX6_piece_144 : decode cX6_piece 144 = .ok (.iadd, 1) := by decide +kernel
theorem dX6_piece_145 : decode cX6_piece 145 = .ok (.putfield 44, 3) := by decide +kernel
theorem dX6_piece_148 : decode cX6_piece 148 = .ok (.aload_n 0, 1) := by decide +kernel
theorem dX6_piece_149 : decode cX6_piece 149 = .ok (.aload 4, 2) := by decide +kernel
theorem dX6_piece_151 : decode cX6_piece 151 = .ok (.invokevirtual 66, 3) := by decide +kernel
theorem dX6_piece_154 : decode cX6_piece 154 = .ok (.iload_n 3, 1) := by decide +kernel
theorem dX6_piece_155 : decode cX6_piece 155 = .ok (.ireturn, 1) := by decide +kernel
theorem dX6_firstOf_0 : decode cX6_firstOf 0 = .ok (.aload_n 0, 1) := by decide +kernel
theorem dX6_firstOf_1 : decode cX6_firstOf 1 = .ok (.iload_n 1, 1) := by decide +kernel
theorem dX6_firstOf_2 : decode cX6_firstOf 2 = .ok (.invokevirtual 70, 3) := by decide +kernel
theorem dX6_firstOf_5 : decode cX6_firstOf 5 = .ok (.astore_n 2, 1) := by decide +kernel
theorem dX6_firstOf_6 : decode cX6_firstOf 6 = .ok (.aload_n 2, 1) := by decide +kernel
theorem dX6_firstOf_7 : decode cX6_firstOf 7 = .ok (.ifnonnull 13, 3) := by decide +kernel
theorem dX6_firstOf_10 : decode cX6_firstOf 10 = .ok (.new 74, 3) := by decide +kernel
theorem dX6_firstOf_13 : decode cX6_firstOf 13 = .ok (.dup, 1) := by decide +kernel
theorem dX6_firstOf_14 : decode cX6_firstOf 14 = .ok (.ldc 76, 2) := by decide +kernel
theorem dX6_firstOf_16 : decode cX6_firstOf 16 = .ok (.invokespecial 78, 3) := by decide +kernel
theorem dX6_firstOf_19 : decode cX6_firstOf 19 = .ok (.athrow, 1) := by decide +kernel
theorem dX6_firstOf_20 : decode cX6_firstOf 20 = .ok (.aload_n 2, 1) := by decide +kernel
theorem dX6_firstOf_21 : decode cX6_firstOf 21 = .ok (.getfield 79, 3) := by decide +kernel
theorem dX6_firstOf_24 : decode cX6_firstOf 24 = .ok (.ireturn, 1) := by decide +kernel
theorem dX6_pieceOf_0 : decode cX6_pieceOf 0 = .ok (.aload_n 0, 1) := by decide +kernel
theorem dX6_pieceOf_1 : decode cX6_pieceOf 1 = .ok (.iload_n 1, 1) := by decide +kernel
theorem dX6_pieceOf_2 : decode cX6_pieceOf 2 = .ok (.invokevirtual 82, 3) := by decide +kernel
theorem dX6_pieceOf_5 : decode cX6_pieceOf 5 = .ok (.astore_n 2, 1) := by decide +kernel
theorem dX6_pieceOf_6 : decode cX6_pieceOf 6 = .ok (.aload_n 2, 1) := by decide +kernel
theorem dX6_pieceOf_7 : decode cX6_pieceOf 7 = .ok (.ifnonnull 13, 3) := by decide +kernel
theorem dX6_pieceOf_10 : decode cX6_pieceOf 10 = .ok (.new 74, 3) := by decide +kernel
theorem dX6_pieceOf_13 : decode cX6_pieceOf 13 = .ok (.dup, 1) := by decide +kernel
theorem dX6_pieceOf_14 : decode cX6_pieceOf 14 = .ok (.ldc 86, 2) := by decide +kernel
theorem dX6_pieceOf_16 : decode cX6_pieceOf 16 = .ok (.invokespecial 78, 3) := by decide +kernel
theorem dX6_pieceOf_19 : decode cX6_pieceOf 19 = .ok (.athrow, 1) := by decide +kernel
theorem dX6_pieceOf_20 : decode cX6_pieceOf 20 = .ok (.aload_n 2, 1) := by decide +kernel
theorem dX6_pieceOf_21 : decode cX6_pieceOf 21 = .ok (.getfield 88, 3) := by decide +kernel
theorem dX6_pieceOf_24 : decode cX6_pieceOf 24 = .ok (.ireturn, 1) := by decide +kernel
theorem dX6_note_0 : decode cX6_note 0 = .ok (.iload_n 1, 1) := by decide +kernel
theorem dX6_note_1 : decode cX6_note 1 = .ok (.ifCond .lt 9, 3) := by decide +kernel
theorem dX6_note_4 : decode cX6_note 4 = .ok (.iload_n 1, 1) := by decide +kernel
theorem dX6_note_5 : decode cX6_note 5 = .ok (.bipush 99, 2) := by decide +kernel
theorem dX6_note_7 : decode cX6_note 7 = .ok (.if_icmp .le 13, 3) := by decide +kernel
theorem dX6_note_10 : decode cX6_note 10 = .ok (.new 37, 3) := by decide +kernel
theorem dX6_note_13 : decode cX6_note 13 = .ok (.dup, 1) := by decide +kernel
theorem dX6_note_14 : decode cX6_note 14 = .ok (.ldc 91, 2) := by decide +kernel
theorem dX6_note_16 : decode cX6_note 16 = .ok (.invokespecial 41, 3) := by decide +kernel
theorem dX6_note_19 : decode cX6_note 19 = .ok (.athrow, 1) := by decide +kernel
theorem dX6_note_20 : decode cX6_note 20 = .ok (.aload_n 0, 1) := by decide +kernel
theorem dX6_note_21 : decode cX6_note 21 = .ok (.getfield 93, 3) := by decide +kernel
theorem dX6_note_24 : decode cX6_note 24 = .ok (.bipush 8, 2) := by decide +kernel
theorem dX6_note_26 : decode cX6_note 26 = .ok (.if_icmp .lt 13, 3) := by decide +kernel
theorem dX6_note_29 : decode cX6_note 29 = .ok (.new 51, 3) := by decide +kernel
theorem dX6_note_32 : decode cX6_note 32 = .ok (.dup, 1) := by decide +kernel
theorem dX6_note_33 : decode cX6_note 33 = .ok (.ldc 96, 2) := by decide +kernel
theorem dX6_note_35 : decode cX6_note 35 = .ok (.invokespecial 55, 3) := by decide +kernel
theorem dX6_note_38 : decode cX6_note 38 = .ok (.athrow, 1) := by decide +kernel
theorem dX6_note_39 : decode cX6_note 39 = .ok (.aload_n 0, 1) := by decide +kernel
theorem dX6_note_40 : decode cX6_note 40 = .ok (.getfield 33, 3) := by decide +kernel
theorem dX6_note_43 : decode cX6_note 43 = .ok (.aload_n 0, 1) := by decide +kernel
theorem dX6_note_44 : decode cX6_note 44 = .ok (.getfield 93, 3) := by decide +kernel
theorem dX6_note_47 : decode cX6_note 47 = .ok (.iload_n 1, 1) := by decide +kernel
theorem dX6_note_48 : decode cX6_note 48 = .ok (.iastore, 1) := by decide +kernel
theorem dX6_note_49 : decode cX6_note 49 = .ok (.aload_n 0, 1) := by decide +kernel
theorem dX6_note_50 : decode cX6_note 50 = .ok (.dup, 1) := by decide +kernel
theorem dX6_note_51 : decode cX6_note 51 = .ok (.getfield 93, 3) := by decide +kernel
theorem dX6_note_54 : decode cX6_note 54 = .ok (.iconst 1, 1) := by decide +kernel
theorem dX6_note_55 : decode cX6_note 55 = .ok (.iadd, 1) := by decide +kernel
theorem dX6_note_56 : decode cX6_note 56 = .ok (.putfield 93, 3) := by decide +kernel
theorem dX6_note_59 : decode cX6_note 59 = .ok (.aload_n 0, 1) := by decide +kernel
theorem dX6_note_60 : decode cX6_note 60 = .ok (.getfield 93, 3) := by decide +kernel
theorem dX6_note_63 : decode cX6_note 63 = .ok (.ireturn, 1) := by decide +kernel
theorem dX6_wipe_0 : decode cX6_wipe 0 = .ok (.aload_n 0, 1) := by decide +kernel
theorem dX6_wipe_1 : decode cX6_wipe 1 = .ok (.getfield 93, 3) := by decide +kernel
theorem dX6_wipe_4 : decode cX6_wipe 4 = .ok (.istore_n 1, 1) := by decide +kernel
theorem dX6_wipe_5 : decode cX6_wipe 5 = .ok (.aload_n 0, 1) := by decide +kernel
theorem dX6_wipe_6 : decode cX6_wipe 6 = .ok (.iconst 0, 1) := by decide +kernel
theorem dX6_wipe_7 : decode cX6_wipe 7 = .ok (.putfield 93, 3) := by decide +kernel
theorem dX6_wipe_10 : decode cX6_wipe 10 = .ok (.iload_n 1, 1) := by decide +kernel
theorem dX6_wipe_11 : decode cX6_wipe 11 = .ok (.ireturn, 1) := by decide +kernel
theorem dX6_write_0 : decode cX6_write 0 = .ok (.aload_n 0, 1) := by decide +kernel
theorem dX6_write_1 : decode cX6_write 1 = .ok (.iload_n 1, 1) := by decide +kernel
theorem dX6_write_2 : decode cX6_write 2 = .ok (.invokevirtual 82, 3) := by decide +kernel
theorem dX6_write_5 : decode cX6_write 5 = .ok (.astore 5, 2) := by decide +kernel
theorem dX6_write_7 : decode cX6_write 7 = .ok (.aload 5, 2) := by decide +kernel
theorem dX6_write_9 : decode cX6_write 9 = .ok (.ifnull 14, 3) := by decide +kernel
theorem dX6_write_12 : decode cX6_write 12 = .ok (.aload 5, 2) := by decide +kernel
theorem dX6_write_14 : decode cX6_write 14 = .ok (.iload_n 3, 1) := by decide +kernel
theorem dX6_write_15 : decode cX6_write 15 = .ok (.iload 4, 2) := by decide +kernel
theorem dX6_write_17 : decode cX6_write 17 = .ok (.invokevirtual 98, 3) := by decide +kernel
theorem dX6_write_20 : decode cX6_write 20 = .ok (.ifnonnull 13, 3) := by decide +kernel
theorem dX6_write_23 : decode cX6_write 23 = .ok (.new 74, 3) := by decide +kernel
theorem dX6_write_26 : decode cX6_write 26 = .ok (.dup, 1) := by decide +kernel
theorem dX6_write_27 : decode cX6_write 27 = .ok (.ldc 102, 2) := by decide +kernel
theorem dX6_write_29 : decode cX6_write 29 = .ok (.invokespecial 78, 3) := by decide +kernel
theorem dX6_write_32 : decode cX6_write 32 = .ok (.athrow, 1) := by decide +kernel
theorem dX6_write_33 : decode cX6_write 33 = .ok (.iload_n 2, 1) := by decide +kernel
theorem dX6_write_34 : decode cX6_write 34 = .ok (.invokestatic 104, 3) := by decide +kernel
theorem dX6_write_37 : decode cX6_write 37 = .ok (.ifCond .ne 13, 3) := by decide +kernel
theorem dX6_write_40 : decode cX6_write 40 = .ok (.new 37, 3) := by decide +kernel
theorem dX6_write_43 : decode cX6_write 43 = .ok (.dup, 1) := by decide +kernel
theorem dX6_write_44 : decode cX6_write 44 = .ok (.ldc 108, 2) := by decide +kernel
theorem dX6_write_46 : decode cX6_write 46 = .ok (.invokespecial 41, 3) := by decide +kernel
theorem dX6_write_49 : decode cX6_write 49 = .ok (.athrow, 1) := by decide +kernel
theorem dX6_write_50 : decode cX6_write 50 = .ok (.aload_n 0, 1) := by decide +kernel
theorem dX6_write_51 : decode cX6_write 51 = .ok (.getfield 48, 3) := by decide +kernel
theorem dX6_write_54 : decode cX6_write 54 = .ok (.bipush 40, 2) := by decide +kernel
theorem dX6_write_56 : decode cX6_write 56 = .ok (.if_icmp .lt 13, 3) := by decide +kernel
theorem dX6_write_59 : decode cX6_write 59 = .ok (.new 51, 3) := by decide +kernel
theorem dX6_write_62 : decode cX6_write 62 = .ok (.dup, 1) := by decide +kernel
theorem dX6_write_63 : decode cX6_write 63 = .ok (.ldc 110, 2) := by decide +kernel
theorem dX6_write_65 : decode cX6_write 65 = .ok (.invokespecial 55, 3) := by decide +kernel
theorem dX6_write_68 : decode cX6_write 68 = .ok (.athrow, 1) := by decide +kernel
theorem dX6_write_69 : decode cX6_write 69 = .ok (.new 15, 3) := by decide +kernel
theorem dX6_write_72 : decode cX6_write 72 = .ok (.dup, 1) := by decide +kernel
theorem dX6_write_73 : decode cX6_write 73 = .ok (.aload_n 0, 1) := by decide +kernel
theorem dX6_write_74 : decode cX6_write 74 = .ok (.getfield 48, 3) := by decide +kernel
theorem dX6_write_77 : decode cX6_write 77 = .ok (.aload 5, 2) := by decide +kernel
theorem dX6_write_79 : decode cX6_write 79 = .ok (.getfield 88, 3) := by decide +kernel
theorem dX6_write_82 : decode cX6_write 82 = .ok (.aload 5, 2) := by decide +kernel
theorem dX6_write_84 : decode cX6_write 84 = .ok (.getfield 112, 3) := by decide +kernel
theorem dX6_write_87 : decode cX6_write 87 = .ok (.aload 5, 2) := by decide +kernel
theorem dX6_write_89 : decode cX6_write 89 = .ok (.getfield 116, 3) := by decide +kernel
theorem dX6_write_92 : decode cX6_write 92 = .ok (.invokespecial 56, 3) := by decide +kernel
theorem dX6_write_95 : decode cX6_write 95 = .ok (.astore 6, 2) := by decide +kernel
theorem dX6_write_97 : decode cX6_write 97 = .ok (.aload 6, 2) := by decide +kernel
theorem dX6_write_99 : decode cX6_write 99 = .ok (.aload 5, 2) := by decide +kernel
theorem dX6_write_101 : decode cX6_write 101 = .ok (.invokevirtual 119, 3) := by decide +kernel
theorem dX6_write_104 : decode cX6_write 104 = .ok (.aload 6, 2) := by decide +kernel
theorem dX6_write_106 : decode cX6_write 106 = .ok (.iload_n 3, 1) := by decide +kernel
theorem dX6_write_107 : decode cX6_write 107 = .ok (.iconst 4, 1) := by decide +kernel
theorem dX6_write_108 : decode cX6_write 108 = .ok (.imul, 1) := by decide +kernel
theorem dX6_write_109 : decode cX6_write 109 = .ok (.iload 4, 2) := by decide +kernel
theorem dX6_write_111 : decode cX6_write 111 = .ok (.iadd, 1) := by decide +kernel
theorem dX6_write_112 : decode cX6_write 112 = .ok (.new 122, 3) := by decide +kernel
theorem dX6_write_115 : decode cX6_write 115 = .ok (.dup, 1) := by decide +kernel
theorem dX6_write_116 : decode cX6_write 116 = .ok (.iload_n 2, 1) := by decide +kernel
theorem dX6_write_117 : decode cX6_write 117 = .ok (.aload_n 0, 1) := by decide +kernel
theorem dX6_write_118 : decode cX6_write 118 = .ok (.getfield 33, 3) := by decide +kernel
theorem dX6_write_121 : decode cX6_write 121 = .ok (.aload_n 0, 1) := by decide +kernel
theorem dX6_write_122 : decode cX6_write 122 = .ok (.getfield 93, 3) := by decide +kernel
theorem dX6_write_125 : decode cX6_write 125 = .ok (.invokestatic 124, 3) := by decide +kernel
theorem dX6_write_128 : decode cX6_write 128 = .ok (.invokespecial 130, 3) := by decide +kernel
theorem dX6_write_131 : decode cX6_write 131 = .ok (.invokestatic 133, 3) := by decide +kernel
theorem dX6_write_134 : decode cX6_write 134 = .ok (.invokevirtual 137, 3) := by decide +kernel
theorem dX6_write_137 : decode cX6_write 137 = .ok (.aload_n 0, 1) := by decide +kernel
theorem dX6_write_138 : decode cX6_write 138 = .ok (.iconst 0, 1) := by decide +kernel
theorem dX6_write_139 : decode cX6_write 139 = .ok (.putfield 93, 3) := by decide +kernel
theorem dX6_write_142 : decode cX6_write 142 = .ok (.aload_n 0, 1) := by decide +kernel
theorem dX6_write_143 : decode cX6_write 143 = .ok (.aload 6, 2) := by decide +kernel
theorem dX6_write_145 : decode cX6_write 145 = .ok (.invokevirtual 66, 3) := by decide +kernel
theorem dX6_write_148 : decode cX6_write 148 = .ok (.aload 6, 2) := by decide +kernel
theorem dX6_write_150 : decode cX6_write 150 = .ok (.getfield 116, 3) := by decide +kernel
theorem dX6_write_153 : decode cX6_write 153 = .ok (.ireturn, 1) := by decide +kernel
theorem dX6_rule_0 : decode cX6_rule 0 = .ok (.aload_n 0, 1) := by decide +kernel
theorem dX6_rule_1 : decode cX6_rule 1 = .ok (.iload_n 1, 1) := by decide +kernel
theorem dX6_rule_2 : decode cX6_rule 2 = .ok (.invokevirtual 70, 3) := by decide +kernel
theorem dX6_rule_5 : decode cX6_rule 5 = .ok (.astore 4, 2) := by decide +kernel
theorem dX6_rule_7 : decode cX6_rule 7 = .ok (.aload 4, 2) := by decide +kernel
theorem dX6_rule_9 : decode cX6_rule 9 = .ok (.ifnull 12, 3) := by decide +kernel
theorem dX6_rule_12 : decode cX6_rule 12 = .ok (.aload 4, 2) := by decide +kernel
theorem dX6_rule_14 : decode cX6_rule 14 = .ok (.iload_n 2, 1) := by decide +kernel
theorem dX6_rule_15 : decode cX6_rule 15 = .ok (.invokevirtual 141, 3) := by decide +kernel
theorem dX6_rule_18 : decode cX6_rule 18 = .ok (.ifCond .ne 13, 3) := by decide +kernel
theorem dX6_rule_21 : decode cX6_rule 21 = .ok (.new 74, 3) := by decide +kernel
theorem dX6_rule_24 : decode cX6_rule 24 = .ok (.dup, 1) := by decide +kernel
theorem dX6_rule_25 : decode cX6_rule 25 = .ok (.ldc 144, 2) := by decide +kernel
theorem dX6_rule_27 : decode cX6_rule 27 = .ok (.invokespecial 78, 3) := by decide +kernel
theorem dX6_rule_30 : decode cX6_rule 30 = .ok (.athrow, 1) := by decide +kernel
theorem dX6_rule_31 : decode cX6_rule 31 = .ok (.iload_n 3, 1) := by decide +kernel
theorem dX6_rule_32 : decode cX6_rule 32 = .ok (.bipush 108, 2) := by decide +kernel
theorem dX6_rule_34 : decode cX6_rule 34 = .ok (.if_icmp .eq 25, 3) := by decide +kernel
theorem dX6_rule_37 : decode cX6_rule 37 = .ok (.iload_n 3, 1) := by decide +kernel
theorem dX6_rule_38 : decode cX6_rule 38 = .ok (.bipush 110, 2) := by decide +kernel
theorem dX6_rule_40 : decode cX6_rule 40 = .ok (.if_icmp .eq 19, 3) := by decide +kernel
theorem dX6_rule_43 : decode cX6_rule 43 = .ok (.iload_n 3, 1) := by decide +kernel
theorem dX6_rule_44 : decode cX6_rule 44 = .ok (.bipush 98, 2) := by decide +kernel
theorem dX6_rule_46 : decode cX6_rule 46 = .ok (.if_icmp .eq 13, 3) := by decide +kernel
theorem dX6_rule_49 : decode cX6_rule 49 = .ok (.new 37, 3) := by decide +kernel
theorem dX6_rule_52 : decode cX6_rule 52 = .ok (.dup, 1) := by decide +kernel
theorem dX6_rule_53 : decode cX6_rule 53 = .ok (.ldc 146, 2) := by decide +kernel
theorem dX6_rule_55 : decode cX6_rule 55 = .ok (.invokespecial 41, 3) := by decide +kernel
theorem dX6_rule_58 : decode cX6_rule 58 = .ok (.athrow, 1) := by decide +kernel
theorem dX6_rule_59 : decode cX6_rule 59 = .ok (.aload 4, 2) := by decide +kernel
theorem dX6_rule_61 : decode cX6_rule 61 = .ok (.getfield 148, 3) := by decide +kernel
theorem dX6_rule_64 : decode cX6_rule 64 = .ok (.iload_n 2, 1) := by decide +kernel
theorem dX6_rule_65 : decode cX6_rule 65 = .ok (.caload, 1) := by decide +kernel
theorem dX6_rule_66 : decode cX6_rule 66 = .ok (.istore 5, 2) := by decide +kernel
theorem dX6_rule_68 : decode cX6_rule 68 = .ok (.aload 4, 2) := by decide +kernel
theorem dX6_rule_70 : decode cX6_rule 70 = .ok (.getfield 148, 3) := by decide +kernel
theorem dX6_rule_73 : decode cX6_rule 73 = .ok (.iload_n 2, 1) := by decide +kernel
theorem dX6_rule_74 : decode cX6_rule 74 = .ok (.iload_n 3, 1) := by decide +kernel
theorem dX6_rule_75 : decode cX6_rule 75 = .ok (.castore, 1) := by decide +kernel
theorem dX6_rule_76 : decode cX6_rule 76 = .ok (.iload 5, 2) := by decide +kernel
theorem dX6_rule_78 : decode cX6_rule 78 = .ok (.ireturn, 1) := by decide +kernel
theorem dX6_merge_0 : decode cX6_merge 0 = .ok (.aload_n 0, 1) := by decide +kernel
theorem dX6_merge_1 : decode cX6_merge 1 = .ok (.iload_n 1, 1) := by decide +kernel
theorem dX6_merge_2 : decode cX6_merge 2 = .ok (.invokevirtual 82, 3) := by decide +kernel
theorem dX6_merge_5 : decode cX6_merge 5 = .ok (.astore 4, 2) := by decide +kernel
theorem dX6_merge_7 : decode cX6_merge 7 = .ok (.aload_n 0, 1) := by decide +kernel
theorem dX6_merge_8 : decode cX6_merge 8 = .ok (.iload_n 2, 1) := by decide +kernel
theorem dX6_merge_9 : decode cX6_merge 9 = .ok (.invokevirtual 82, 3) := by decide +kernel
theorem dX6_merge_12 : decode cX6_merge 12 = .ok (.astore 5, 2) := by decide +kernel
theorem dX6_merge_14 : decode cX6_merge 14 = .ok (.aload 4, 2) := by decide +kernel
theorem dX6_merge_16 : decode cX6_merge 16 = .ok (.ifnull 8, 3) := by decide +kernel
theorem dX6_merge_19 : decode cX6_merge 19 = .ok (.aload 5, 2) := by decide +kernel
theorem dX6_merge_21 : decode cX6_merge 21 = .ok (.ifnonnull 13, 3) := by decide +kernel
theorem dX6_merge_24 : decode cX6_merge 24 = .ok (.new 74, 3) := by decide +kernel
theorem dX6_merge_27 : decode cX6_merge 27 = .ok (.dup, 1) := by decide +kernel
theorem dX6_merge_28 : decode cX6_merge 28 = .ok (.ldc 86, 2) := by decide +kernel
theorem dX6_merge_30 : decode cX6_merge 30 = .ok (.invokespecial 78, 3) := by decide +kernel
theorem dX6_merge_33 : decode cX6_merge 33 = .ok (.athrow, 1) := by decide +kernel
theorem dX6_merge_34 : decode cX6_merge 34 = .ok (.iload_n 3, 1) := by decide +kernel
theorem dX6_merge_35 : decode cX6_merge 35 = .ok (.invokestatic 104, 3) := by decide +kernel
theorem dX6_merge_38 : decode cX6_merge 38 = .ok (.ifCond .ne 13, 3) := by decide +kernel
theorem dX6_merge_41 : decode cX6_merge 41 = .ok (.new 37, 3) := by decide +kernel
theorem dX6_merge_44 : decode cX6_merge 44 = .ok (.dup, 1) := by decide +kernel
theorem dX6_merge_45 : decode cX6_merge 45 = .ok (.ldc 108, 2) := by decide +kernel
theorem dX6_merge_47 : decode cX6_merge 47 = .ok (.invokespecial 41, 3) := by decide +kernel
theorem dX6_merge_50 : decode cX6_merge 50 = .ok (.athrow, 1) := by decide +kernel
theorem dX6_merge_51 : decode cX6_merge 51 = .ok (.aload_n 0, 1) := by decide +kernel
theorem dX6_merge_52 : decode cX6_merge 52 = .ok (.aload 4, 2) := by decide +kernel
theorem dX6_merge_54 : decode cX6_merge 54 = .ok (.getfield 88, 3) := by decide +kernel
theorem dX6_merge_57 : decode cX6_merge 57 = .ok (.invokevirtual 70, 3) := by decide +kernel
theorem dX6_merge_60 : decode cX6_merge 60 = .ok (.astore 6, 2) := by decide +kernel
theorem dX6_merge_62 : decode cX6_merge 62 = .ok (.aload_n 0, 1) := by decide +kernel
theorem dX6_merge_63 : decode cX6_merge 63 = .ok (.aload_n 0, 1) := by decide +kernel
theorem dX6_merge_64 : decode cX6_merge 64 = .ok (.aload 4, 2) := by decide +kernel
theorem dX6_merge_66 : decode cX6_merge 66 = .ok (.aload 5, 2) := by decide +kernel
theorem dX6_merge_68 : decode cX6_merge 68 = .ok (.invokevirtual 152, 3) := by decide +kernel
theorem dX6_merge_71 : decode cX6_merge 71 = .ok (.invokevirtual 82, 3) := by decide +kernel
theorem dX6_merge_74 : decode cX6_merge 74 = .ok (.astore 7, 2) := by decide +kernel
theorem dX6_merge_76 : decode cX6_merge 76 = .ok (.aload 6, 2) := by decide +kernel
theorem dX6_merge_78 : decode cX6_merge 78 = .ok (.ifnull 28, 3) := by decide +kernel
theorem dX6_merge_81 : decode cX6_merge 81 = .ok (.aload 7, 2) := by decide +kernel
theorem dX6_merge_83 : decode cX6_merge 83 = .ok (.ifnull 23, 3) := by decide +kernel
theorem dX6_merge_86 : decode cX6_merge 86 = .ok (.aload 4, 2) := by decide +kernel
theorem dX6_merge_88 : decode cX6_merge 88 = .ok (.aload 5, 2) := by decide +kernel
theorem dX6_merge_90 : decode cX6_merge 90 = .ok (.invokevirtual 156, 3) := by decide +kernel
theorem dX6_merge_93 : decode cX6_merge 93 = .ok (.ifCond .ne 13, 3) := by decide +kernel
theorem dX6_merge_96 : decode cX6_merge 96 = .ok (.aload 5, 2) := by decide +kernel
theorem dX6_merge_98 : decode cX6_merge 98 = .ok (.aload 4, 2) := by decide +kernel
theorem dX6_merge_100 : decode cX6_merge 100 = .ok (.invokevirtual 156, 3) := by decide +kernel
theorem dX6_merge_103 : decode cX6_merge 103 = .ok (.ifCond .eq 13, 3) := by decide +kernel
theorem dX6_merge_106 : decode cX6_merge 106 = .ok (.new 160, 3) := by decide +kernel
theorem dX6_merge_109 : decode cX6_merge 109 = .ok (.dup, 1) := by decide +kernel
theorem dX6_merge_110 : decode cX6_merge 110 = .ok (.ldc 162, 2) := by decide +kernel
theorem dX6_merge_112 : decode cX6_merge 112 = .ok (.invokespecial 164, 3) := by decide +kernel
theorem dX6_merge_115 : decode cX6_merge 115 = .ok (.athrow, 1) := by decide +kernel
theorem dX6_merge_116 : decode cX6_merge 116 = .ok (.aload_n 0, 1) := by decide +kernel
theorem dX6_merge_117 : decode cX6_merge 117 = .ok (.getfield 48, 3) := by decide +kernel
theorem dX6_merge_120 : decode cX6_merge 120 = .ok (.bipush 40, 2) := by decide +kernel
theorem dX6_merge_122 : decode cX6_merge 122 = .ok (.if_icmp .lt 13, 3) := by decide +kernel
theorem dX6_merge_125 : decode cX6_merge 125 = .ok (.new 51, 3) := by decide +kernel
theorem dX6_merge_128 : decode cX6_merge 128 = .ok (.dup, 1) := by decide +kernel
theorem dX6_merge_129 : decode cX6_merge 129 = .ok (.ldc 110, 2) := by decide +kernel
theorem dX6_merge_131 : decode cX6_merge 131 = .ok (.invokespecial 55, 3) := by decide +kernel
theorem dX6_merge_134 : decode cX6_merge 134 = .ok (.athrow, 1) := by decide +kernel
theorem dX6_merge_135 : decode cX6_merge 135 = .ok (.new 15, 3) := by decide +kernel
theorem dX6_merge_138 : decode cX6_merge 138 = .ok (.dup, 1) := by decide +kernel
theorem dX6_merge_139 : decode cX6_merge 139 = .ok (.aload_n 0, 1) := by decide +kernel
theorem dX6_merge_140 : decode cX6_merge 140 = .ok (.getfield 48, 3) := by decide +kernel
theorem dX6_merge_143 : decode cX6_merge 143 = .ok (.aload 4, 2) := by decide +kernel
theorem dX6_merge_145 : decode cX6_merge 145 = .ok (.getfield 88, 3) := by decide +kernel
theorem dX6_merge_148 : decode cX6_merge 148 = .ok (.aload 4, 2) := by decide +kernel
theorem dX6_merge_150 : decode cX6_merge 150 = .ok (.getfield 112, 3) := by decide +kernel
theorem dX6_merge_153 : decode cX6_merge 153 = .ok (.aload 5, 2) := by decide +kernel
theorem dX6_merge_155 : decode cX6_merge 155 = .ok (.getfield 112, 3) := by decide +kernel
theorem dX6_merge_158 : decode cX6_merge 158 = .ok (.lor, 1) := by decide +kernel
theorem dX6_merge_159 : decode cX6_merge 159 = .ok (.iconst (-1), 1) := by decide +kernel
theorem dX6_merge_160 : decode cX6_merge 160 = .ok (.invokespecial 56, 3) := by decide +kernel
theorem dX6_merge_163 : decode cX6_merge 163 = .ok (.astore 8, 2) := by decide +kernel
theorem dX6_merge_165 : decode cX6_merge 165 = .ok (.aload 8, 2) := by decide +kernel
theorem dX6_merge_167 : decode cX6_merge 167 = .ok (.aload 4, 2) := by decide +kernel
theorem dX6_merge_169 : decode cX6_merge 169 = .ok (.aload 5, 2) := by decide +kernel
theorem dX6_merge_171 : decode cX6_merge 171 = .ok (.aload 7, 2) := by decide +kernel
theorem dX6_merge_173 : decode cX6_merge 173 = .ok (.aload 6, 2) := by decide +kernel
theorem dX6_merge_175 : decode cX6_merge 175 = .ok (.invokevirtual 165, 3) := by decide +kernel
theorem dX6_merge_178 : decode cX6_merge 178 = .ok (.aload_n 0, 1) := by decide +kernel
theorem dX6_merge_179 : decode cX6_merge 179 = .ok (.aload 8, 2) := by decide +kernel
theorem dX6_merge_181 : decode cX6_merge 181 = .ok (.invokevirtual 66, 3) := by decide +kernel
theorem dX6_merge_184 : decode cX6_merge 184 = .ok (.aload_n 0, 1) := by decide +kernel
theorem dX6_merge_185 : decode cX6_merge 185 = .ok (.aload 8, 2) := by decide +kernel
theorem dX6_merge_187 : decode cX6_merge 187 = .ok (.aload 4, 2) := by decide +kernel
theorem dX6_merge_189 : decode cX6_merge 189 = .ok (.invokevirtual 169, 3) := by decide +kernel
theorem dX6_merge_192 : decode cX6_merge 192 = .ok (.aload_n 0, 1) := by decide +kernel
theorem dX6_merge_193 : decode cX6_merge 193 = .ok (.aload 8, 2) := by decide +kernel
theorem dX6_merge_195 : decode cX6_merge 195 = .ok (.aload 5, 2) := by decide +kernel
theorem dX6_merge_197 : decode cX6_merge 197 = .ok (.invokevirtual 169, 3) := by decide +kernel
theorem dX6_merge_200 : decode cX6_merge 200 = .ok (.aload 8, 2) := by decide +kernel
theorem dX6_merge_202 : decode cX6_merge 202 = .ok (.getfield 116, 3) := by decide +kernel
theorem dX6_merge_205 : decode cX6_merge 205 = .ok (.ireturn, 1) := by decide +kernel
theorem dX6_base_0 : decode cX6_base 0 = .ok (.aload_n 0, 1) := by decide +kernel
theorem dX6_base_1 : decode cX6_base 1 = .ok (.iload_n 1, 1) := by decide +kernel
theorem dX6_base_2 : decode cX6_base 2 = .ok (.invokevirtual 82, 3) := by decide +kernel
theorem dX6_base_5 : decode cX6_base 5 = .ok (.astore_n 3, 1) := by decide +kernel
theorem dX6_base_6 : decode cX6_base 6 = .ok (.aload_n 0, 1) := by decide +kernel
theorem dX6_base_7 : decode cX6_base 7 = .ok (.iload_n 2, 1) := by decide +kernel
theorem dX6_base_8 : decode cX6_base 8 = .ok (.invokevirtual 82, 3) := by decide +kernel
theorem dX6_base_11 : decode cX6_base 11 = .ok (.astore 4, 2) := by decide +kernel
theorem dX6_base_13 : decode cX6_base 13 = .ok (.aload_n 3, 1) := by decide +kernel
theorem dX6_base_14 : decode cX6_base 14 = .ok (.ifnull 8, 3) := by decide +kernel
theorem dX6_base_17 : decode cX6_base 17 = .ok (.aload 4, 2) := by decide +kernel
theorem dX6_base_19 : decode cX6_base 19 = .ok (.ifnonnull 13, 3) := by decide +kernel
theorem dX6_base_22 : decode cX6_base 22 = .ok (.new 74, 3) := by decide +kernel
theorem dX6_base_25 : decode cX6_base 25 = .ok (.dup, 1) := by decide +kernel
theorem dX6_base_26 : decode cX6_base 26 = .ok (.ldc 86, 2) := by decide +kernel
theorem dX6_base_28 : decode cX6_base 28 = .ok (.invokespecial 78, 3) := by decide +kernel
theorem dX6_base_31 : decode cX6_base 31 = .ok (.athrow, 1) := by decide +kernel
theorem dX6_base_32 : decode cX6_base 32 = .ok (.aload_n 3, 1) := by decide +kernel
theorem dX6_base_33 : decode cX6_base 33 = .ok (.getfield 88, 3) := by decide +kernel
theorem dX6_base_36 : decode cX6_base 36 = .ok (.aload 4, 2) := by decide +kernel
theorem dX6_base_38 : decode cX6_base 38 = .ok (.getfield 88, 3) := by decide +kernel
theorem dX6_base_41 : decode cX6_base 41 = .ok (.if_icmp .eq 13, 3) := by decide +kernel
theorem dX6_base_44 : decode cX6_base 44 = .ok (.new 160, 3) := by decide +kernel
theorem dX6_base_47 : decode cX6_base 47 = .ok (.dup, 1) := by decide +kernel
theorem dX6_base_48 : decode cX6_base 48 = .ok (.ldc 173, 2) := by decide +kernel
theorem dX6_base_50 : decode cX6_base 50 = .ok (.invokespecial 164, 3) := by decide +kernel
theorem dX6_base_53 : decode cX6_base 53 = .ok (.athrow, 1) := by decide +kernel
theorem dX6_base_54 : decode cX6_base 54 = .ok (.aload_n 0, 1) := by decide +kernel
theorem dX6_base_55 : decode cX6_base 55 = .ok (.aload_n 3, 1) := by decide +kernel
theorem dX6_base_56 : decode cX6_base 56 = .ok (.aload 4, 2) := by decide +kernel
theorem dX6_base_58 : decode cX6_base 58 = .ok (.invokevirtual 152, 3) := by decide +kernel
theorem dX6_base_61 : decode cX6_base 61 = .ok (.ireturn, 1) := by decide +kernel
theorem dX6_isAbove_0 : decode cX6_isAbove 0 = .ok (.aload_n 0, 1) := by decide +kernel
theorem dX6_isAbove_1 : decode cX6_isAbove 1 = .ok (.iload_n 1, 1) := by decide +kernel
theorem dX6_isAbove_2 : decode cX6_isAbove 2 = .ok (.invokevirtual 82, 3) := by decide +kernel
theorem dX6_isAbove_5 : decode cX6_isAbove 5 = .ok (.astore_n 3, 1) := by decide +kernel
theorem dX6_isAbove_6 : decode cX6_isAbove 6 = .ok (.aload_n 0, 1) := by decide +kernel
theorem dX6_isAbove_7 : decode cX6_isAbove 7 = .ok (.iload_n 2, 1) := by decide +kernel
theorem dX6_isAbove_8 : decode cX6_isAbove 8 = .ok (.invokevirtual 82, 3) := by decide +kernel
theorem dX6_isAbove_11 : decode cX6_isAbove 11 = .ok (.astore 4, 2) := by decide +kernel
theorem dX6_isAbove_13 : decode cX6_isAbove 13 = .ok (.aload_n 3, 1) := by decide +kernel
theorem dX6_isAbove_14 : decode cX6_isAbove 14 = .ok (.ifnull 8, 3) := by decide +kernel
theorem dX6_isAbove_17 : decode cX6_isAbove 17 = .ok (.aload 4, 2) := by decide +kernel
theorem dX6_isAbove_19 : decode cX6_isAbove 19 = .ok (.ifnonnull 13, 3) := by decide +kernel
theorem dX6_isAbove_22 : decode cX6_isAbove 22 = .ok (.new 74, 3) := by decide +kernel
theorem dX6_isAbove_25 : decode cX6_isAbove 25 = .ok (.dup, 1) := by decide +kernel
theorem dX6_isAbove_26 : decode cX6_isAbove 26 = .ok (.ldc 86, 2) := by decide +kernel
theorem dX6_isAbove_28 : decode cX6_isAbove 28 = .ok (.invokespecial 78, 3) := by decide +kernel
theorem dX6_isAbove_31 : decode cX6_isAbove 31 = .ok (.athrow, 1) := by decide +kernel
theorem dX6_isAbove_32 : decode cX6_isAbove 32 = .ok (.aload 4, 2) := by decide +kernel
theorem dX6_isAbove_34 : decode cX6_isAbove 34 = .ok (.aload_n 3, 1) := by decide +kernel
theorem dX6_isAbove_35 : decode cX6_isAbove 35 = .ok (.invokevirtual 156, 3) := by decide +kernel
theorem dX6_isAbove_38 : decode cX6_isAbove 38 = .ok (.ireturn, 1) := by decide +kernel
theorem dX6_rows_0 : decode cX6_rows 0 = .ok (.aload_n 0, 1) := by decide +kernel
theorem dX6_rows_1 : decode cX6_rows 1 = .ok (.iload_n 1, 1) := by decide +kernel
theorem dX6_rows_2 : decode cX6_rows 2 = .ok (.iload_n 2, 1) := by decide +kernel
theorem dX6_rows_3 : decode cX6_rows 3 = .ok (.iload_n 3, 1) := by decide +kernel
theorem dX6_rows_4 : decode cX6_rows 4 = .ok (.invokevirtual 175, 3) := by decide +kernel
theorem dX6_rows_7 : decode cX6_rows 7 = .ok (.astore 4, 2) := by decide +kernel
theorem dX6_rows_9 : decode cX6_rows 9 = .ok (.aload 4, 2) := by decide +kernel
theorem dX6_rows_11 : decode cX6_rows 11 = .ok (.ifnonnull 13, 3) := by decide +kernel
theorem dX6_rows_14 : decode cX6_rows 14 = .ok (.new 74, 3) := by decide +kernel
theorem dX6_rows_17 : decode cX6_rows 17 = .ok (.dup, 1) := by decide +kernel
theorem dX6_rows_18 : decode cX6_rows 18 = .ok (.ldc 102, 2) := by decide +kernel
theorem dX6_rows_20 : decode cX6_rows 20 = .ok (.invokespecial 78, 3) := by decide +kernel
theorem dX6_rows_23 : decode cX6_rows 23 = .ok (.athrow, 1) := by decide +kernel
theorem dX6_rows_24 : decode cX6_rows 24 = .ok (.aload 4, 2) := by decide +kernel
theorem dX6_rows_26 : decode cX6_rows 26 = .ok (.getfield 178, 3) := by decide +kernel
theorem dX6_rows_29 : decode cX6_rows 29 = .ok (.ireturn, 1) := by decide +kernel
theorem dX6_noteAt_0 : decode cX6_noteAt 0 = .ok (.aload_n 0, 1) := by decide +kernel
theorem dX6_noteAt_1 : decode cX6_noteAt 1 = .ok (.iload_n 1, 1) := by decide +kernel
theorem dX6_noteAt_2 : decode cX6_noteAt 2 = .ok (.iload_n 2, 1) := by decide +kernel
theorem dX6_noteAt_3 : decode cX6_noteAt 3 = .ok (.iload_n 3, 1) := by decide +kernel
theorem dX6_noteAt_4 : decode cX6_noteAt 4 = .ok (.invokevirtual 175, 3) := by decide +kernel
theorem dX6_noteAt_7 : decode cX6_noteAt 7 = .ok (.astore 6, 2) := by decide +kernel
theorem dX6_noteAt_9 : decode cX6_noteAt 9 = .ok (.aload 6, 2) := by decide +kernel
theorem dX6_noteAt_11 : decode cX6_noteAt 11 = .ok (.ifnonnull 13, 3) := by decide +kernel
theorem dX6_noteAt_14 : decode cX6_noteAt 14 = .ok (.new 74, 3) := by decide +kernel
theorem dX6_noteAt_17 : decode cX6_noteAt 17 = .ok (.dup, 1) := by decide +kernel
theorem dX6_noteAt_18 : decode cX6_noteAt 18 = .ok (.ldc 102, 2) := by decide +kernel
theorem dX6_noteAt_20 : decode cX6_noteAt 20 = .ok (.invokespecial 78, 3) := by decide +kernel
theorem dX6_noteAt_23 : decode cX6_noteAt 23 = .ok (.athrow, 1) := by decide +kernel
theorem dX6_noteAt_24 : decode cX6_noteAt 24 = .ok (.aload 6, 2) := by decide +kernel
theorem dX6_noteAt_26 : decode cX6_noteAt 26 = .ok (.iload 4, 2) := by decide +kernel
theorem dX6_noteAt_28 : decode cX6_noteAt 28 = .ok (.invokevirtual 183, 3) := by decide +kernel
theorem dX6_noteAt_31 : decode cX6_noteAt 31 = .ok (.astore 7, 2) := by decide +kernel
theorem dX6_noteAt_33 : decode cX6_noteAt 33 = .ok (.aload 7, 2) := by decide +kernel
theorem dX6_noteAt_35 : decode cX6_noteAt 35 = .ok (.ifnull 19, 3) := by decide +kernel
theorem dX6_noteAt_38 : decode cX6_noteAt 38 = .ok (.iload 5, 2) := by decide +kernel
theorem dX6_noteAt_40 : decode cX6_noteAt 40 = .ok (.ifCond .lt 14, 3) := by decide +kernel
theorem dX6_noteAt_43 : decode cX6_noteAt 43 = .ok (.iload 5, 2) := by decide +kernel
theorem dX6_noteAt_45 : decode cX6_noteAt 45 = .ok (.aload 7, 2) := by decide +kernel
theorem dX6_noteAt_47 : decode cX6_noteAt 47 = .ok (.getfield 187, 3) := by decide +kernel
theorem dX6_noteAt_50 : decode cX6_noteAt 50 = .ok (.arraylength, 1) := by decide +kernel
theorem dX6_noteAt_51 : decode cX6_noteAt 51 = .ok (.if_icmp .lt 13, 3) := by decide +kernel
theorem dX6_noteAt_54 : decode cX6_noteAt 54 = .ok (.new 190, 3) := by decide +kernel
theorem dX6_noteAt_57 : decode cX6_noteAt 57 = .ok (.dup, 1) := by decide +kernel
theorem dX6_noteAt_58 : decode cX6_noteAt 58 = .ok (.ldc 192, 2) := by decide +kernel
theorem dX6_noteAt_60 : decode cX6_noteAt 60 = .ok (.invokespecial 194, 3) := by decide +kernel
theorem dX6_noteAt_63 : decode cX6_noteAt 63 = .ok (.athrow, 1) := by decide +kernel
theorem dX6_noteAt_64 : decode cX6_noteAt 64 = .ok (.aload 7, 2) := by decide +kernel
theorem dX6_noteAt_66 : decode cX6_noteAt 66 = .ok (.getfield 187, 3) := by decide +kernel
theorem dX6_noteAt_69 : decode cX6_noteAt 69 = .ok (.iload 5, 2) := by decide +kernel
theorem dX6_noteAt_71 : decode cX6_noteAt 71 = .ok (.iaload, 1) := by decide +kernel
theorem dX6_noteAt_72 : decode cX6_noteAt 72 = .ok (.ireturn, 1) := by decide +kernel
theorem dX6_writer_0 : decode cX6_writer 0 = .ok (.aload_n 0, 1) := by decide +kernel
theorem dX6_writer_1 : decode cX6_writer 1 = .ok (.iload_n 1, 1) := by decide +kernel
theorem dX6_writer_2 : decode cX6_writer 2 = .ok (.iload_n 2, 1) := by decide +kernel
theorem dX6_writer_3 : decode cX6_writer 3 = .ok (.iload_n 3, 1) := by decide +kernel
theorem dX6_writer_4 : decode cX6_writer 4 = .ok (.invokevirtual 175, 3) := by decide +kernel
theorem dX6_writer_7 : decode cX6_writer 7 = .ok (.astore 5, 2) := by decide +kernel
theorem dX6_writer_9 : decode cX6_writer 9 = .ok (.aload 5, 2) := by decide +kernel
theorem dX6_writer_11 : decode cX6_writer 11 = .ok (.ifnonnull 13, 3) := by decide +kernel
theorem dX6_writer_14 : decode cX6_writer 14 = .ok (.new 74, 3) := by decide +kernel
theorem dX6_writer_17 : decode cX6_writer 17 = .ok (.dup, 1) := by decide +kernel
theorem dX6_writer_18 : decode cX6_writer 18 = .ok (.ldc 102, 2) := by decide +kernel
theorem dX6_writer_20 : decode cX6_writer 20 = .ok (.invokespecial 78, 3) := by decide +kernel
theorem dX6_writer_23 : decode cX6_writer 23 = .ok (.athrow, 1) := by decide +kernel
theorem dX6_writer_24 : decode cX6_writer 24 = .ok (.aload 5, 2) := by decide +kernel
theorem dX6_writer_26 : decode cX6_writer 26 = .ok (.iload 4, 2) := by decide +kernel
theorem dX6_writer_28 : decode cX6_writer 28 = .ok (.invokevirtual 183, 3) := by decide +kernel
theorem dX6_writer_31 : decode cX6_writer 31 = .ok (.astore 6, 2) := by decide +kernel
theorem dX6_writer_33 : decode cX6_writer 33 = .ok (.aload 6, 2) := by decide +kernel
theorem dX6_writer_35 : decode cX6_writer 35 = .ok (.ifnonnull 13, 3) := by decide +kernel
theorem dX6_writer_38 : decode cX6_writer 38 = .ok (.new 190, 3) := by decide +kernel
theorem dX6_writer_41 : decode cX6_writer 41 = .ok (.dup, 1) := by decide +kernel
theorem dX6_writer_42 : decode cX6_writer 42 = .ok (.ldc 195, 2) := by decide +kernel
theorem dX6_writer_44 : decode cX6_writer 44 = .ok (.invokespecial 194, 3) := by decide +kernel
theorem dX6_writer_47 : decode cX6_writer 47 = .ok (.athrow, 1) := by decide +kernel
theorem dX6_writer_48 : decode cX6_writer 48 = .ok (.aload 6, 2) := by decide +kernel
theorem dX6_writer_50 : decode cX6_writer 50 = .ok (.getfield 197, 3) := by decide +kernel
theorem dX6_writer_53 : decode cX6_writer 53 = .ok (.ireturn, 1) := by decide +kernel
theorem dX6_doubts_0 : decode cX6_doubts 0 = .ok (.aload_n 0, 1) := by decide +kernel
theorem dX6_doubts_1 : decode cX6_doubts 1 = .ok (.iload_n 1, 1) := by decide +kernel
theorem dX6_doubts_2 : decode cX6_doubts 2 = .ok (.invokevirtual 82, 3) := by decide +kernel
theorem dX6_doubts_5 : decode cX6_doubts 5 = .ok (.astore_n 2, 1) := by decide +kernel
theorem dX6_doubts_6 : decode cX6_doubts 6 = .ok (.aload_n 2, 1) := by decide +kernel
theorem dX6_doubts_7 : decode cX6_doubts 7 = .ok (.ifnonnull 13, 3) := by decide +kernel
theorem dX6_doubts_10 : decode cX6_doubts 10 = .ok (.new 74, 3) := by decide +kernel
theorem dX6_doubts_13 : decode cX6_doubts 13 = .ok (.dup, 1) := by decide +kernel
theorem dX6_doubts_14 : decode cX6_doubts 14 = .ok (.ldc 86, 2) := by decide +kernel
theorem dX6_doubts_16 : decode cX6_doubts 16 = .ok (.invokespecial 78, 3) := by decide +kernel
theorem dX6_doubts_19 : decode cX6_doubts 19 = .ok (.athrow, 1) := by decide +kernel
theorem dX6_doubts_20 : decode cX6_doubts 20 = .ok (.aload_n 2, 1) := by decide +kernel
theorem dX6_doubts_21 : decode cX6_doubts 21 = .ok (.invokevirtual 200, 3) := by decide +kernel
theorem dX6_doubts_24 : decode cX6_doubts 24 = .ok (.ireturn, 1) := by decide +kernel
theorem dX6_unlike_0 : decode cX6_unlike 0 = .ok (.aload_n 0, 1) := by decide +kernel
theorem dX6_unlike_1 : decode cX6_unlike 1 = .ok (.iload_n 1, 1) := by decide +kernel
theorem dX6_unlike_2 : decode cX6_unlike 2 = .ok (.invokevirtual 82, 3) := by decide +kernel
theorem dX6_unlike_5 : decode cX6_unlike 5 = .ok (.astore_n 3, 1) := by decide +kernel
theorem dX6_unlike_6 : decode cX6_unlike 6 = .ok (.aload_n 0, 1) := by decide +kernel
theorem dX6_unlike_7 : decode cX6_unlike 7 = .ok (.iload_n 2, 1) := by decide +kernel
theorem dX6_unlike_8 : decode cX6_unlike 8 = .ok (.invokevirtual 82, 3) := by decide +kernel
theorem dX6_unlike_11 : decode cX6_unlike 11 = .ok (.astore 4, 2) := by decide +kernel
theorem dX6_unlike_13 : decode cX6_unlike 13 = .ok (.aload_n 3, 1) := by decide +kernel
theorem dX6_unlike_14 : decode cX6_unlike 14 = .ok (.ifnull 8, 3) := by decide +kernel
theorem dX6_unlike_17 : decode cX6_unlike 17 = .ok (.aload 4, 2) := by decide +kernel
theorem dX6_unlike_19 : decode cX6_unlike 19 = .ok (.ifnonnull 13, 3) := by decide +kernel
theorem dX6_unlike_22 : decode cX6_unlike 22 = .ok (.new 74, 3) := by decide +kernel
theorem dX6_unlike_25 : decode cX6_unlike 25 = .ok (.dup, 1) := by decide +kernel
theorem dX6_unlike_26 : decode cX6_unlike 26 = .ok (.ldc 86, 2) := by decide +kernel
theorem dX6_unlike_28 : decode cX6_unlike 28 = .ok (.invokespecial 78, 3) := by decide +kernel
theorem dX6_unlike_31 : decode cX6_unlike 31 = .ok (.athrow, 1) := by decide +kernel
theorem dX6_unlike_32 : decode cX6_unlike 32 = .ok (.aload_n 3, 1) := by decide +kernel
theorem dX6_unlike_33 : decode cX6_unlike 33 = .ok (.getfield 88, 3) := by decide +kernel
theorem dX6_unlike_36 : decode cX6_unlike 36 = .ok (.aload 4, 2) := by decide +kernel
theorem dX6_unlike_38 : decode cX6_unlike 38 = .ok (.getfield 88, 3) := by decide +kernel
theorem dX6_unlike_41 : decode cX6_unlike 41 = .ok (.if_icmp .eq 13, 3) := by decide +kernel
theorem dX6_unlike_44 : decode cX6_unlike 44 = .ok (.new 160, 3) := by decide +kernel
theorem dX6_unlike_47 : decode cX6_unlike 47 = .ok (.dup, 1) := by decide +kernel
theorem dX6_unlike_48 : decode cX6_unlike 48 = .ok (.ldc 173, 2) := by decide +kernel
theorem dX6_unlike_50 : decode cX6_unlike 50 = .ok (.invokespecial 164, 3) := by decide +kernel
theorem dX6_unlike_53 : decode cX6_unlike 53 = .ok (.athrow, 1) := by decide +kernel
theorem dX6_unlike_54 : decode cX6_unlike 54 = .ok (.aload_n 3, 1) := by decide +kernel
theorem dX6_unlike_55 : decode cX6_unlike 55 = .ok (.aload 4, 2) := by decide +kernel
theorem dX6_unlike_57 : decode cX6_unlike 57 = .ok (.invokevirtual 204, 3) := by decide +kernel
theorem dX6_unlike_60 : decode cX6_unlike 60 = .ok (.ireturn, 1) := by decide +kernel
theorem dX6_hear_0 : decode cX6_hear 0 = .ok (.aload_n 0, 1) := by decide +kernel
theorem dX6_hear_1 : decode cX6_hear 1 = .ok (.iload_n 2, 1) := by decide +kernel
theorem dX6_hear_2 : decode cX6_hear 2 = .ok (.invokevirtual 82, 3) := by decide +kernel
theorem dX6_hear_5 : decode cX6_hear 5 = .ok (.astore_n 3, 1) := by decide +kernel
theorem dX6_hear_6 : decode cX6_hear 6 = .ok (.aload_n 3, 1) := by decide +kernel
theorem dX6_hear_7 : decode cX6_hear 7 = .ok (.ifnonnull 7, 3) := by decide +kernel
theorem dX6_hear_10 : decode cX6_hear 10 = .ok (.aconst_null, 1) := by decide +kernel
theorem dX6_hear_11 : decode cX6_hear 11 = .ok (.goto 12, 3) := by decide +kernel
theorem dX6_hear_14 : decode cX6_hear 14 = .ok (.aload_n 0, 1) := by decide +kernel
theorem dX6_hear_15 : decode cX6_hear 15 = .ok (.iload_n 1, 1) := by decide +kernel
theorem dX6_hear_16 : decode cX6_hear 16 = .ok (.aload_n 3, 1) := by decide +kernel
theorem dX6_hear_17 : decode cX6_hear 17 = .ok (.getfield 88, 3) := by decide +kernel
theorem dX6_hear_20 : decode cX6_hear 20 = .ok (.invokevirtual 208, 3) := by decide +kernel
theorem dX6_hear_23 : decode cX6_hear 23 = .ok (.astore 4, 2) := by decide +kernel
theorem dX6_hear_25 : decode cX6_hear 25 = .ok (.aload 4, 2) := by decide +kernel
theorem dX6_hear_27 : decode cX6_hear 27 = .ok (.ifnonnull 13, 3) := by decide +kernel
theorem dX6_hear_30 : decode cX6_hear 30 = .ok (.new 74, 3) := by decide +kernel
theorem dX6_hear_33 : decode cX6_hear 33 = .ok (.dup, 1) := by decide +kernel
theorem dX6_hear_34 : decode cX6_hear 34 = .ok (.ldc 212, 2) := by decide +kernel
theorem dX6_hear_36 : decode cX6_hear 36 = .ok (.invokespecial 78, 3) := by decide +kernel
theorem dX6_hear_39 : decode cX6_hear 39 = .ok (.athrow, 1) := by decide +kernel
theorem dX6_hear_40 : decode cX6_hear 40 = .ok (.aload 4, 2) := by decide +kernel
theorem dX6_hear_42 : decode cX6_hear 42 = .ok (.getfield 214, 3) := by decide +kernel
theorem dX6_hear_45 : decode cX6_hear 45 = .ok (.istore 5, 2) := by decide +kernel
theorem dX6_hear_47 : decode cX6_hear 47 = .ok (.iload 5, 2) := by decide +kernel
theorem dX6_hear_49 : decode cX6_hear 49 = .ok (.iload_n 2, 1) := by decide +kernel
theorem dX6_hear_50 : decode cX6_hear 50 = .ok (.if_icmp .eq 9, 3) := by decide +kernel
theorem dX6_hear_53 : decode cX6_hear 53 = .ok (.aload 4, 2) := by decide +kernel
theorem dX6_hear_55 : decode cX6_hear 55 = .ok (.iload_n 2, 1) := by decide +kernel
theorem dX6_hear_56 : decode cX6_hear 56 = .ok (.invokevirtual 217, 3) := by decide +kernel
theorem dX6_hear_59 : decode cX6_hear 59 = .ok (.iload 5, 2) := by decide +kernel
theorem dX6_hear_61 : decode cX6_hear 61 = .ok (.ireturn, 1) := by decide +kernel
theorem dX6_mark_0 : decode cX6_mark 0 = .ok (.aload_n 0, 1) := by decide +kernel
theorem dX6_mark_1 : decode cX6_mark 1 = .ok (.iload_n 2, 1) := by decide +kernel
theorem dX6_mark_2 : decode cX6_mark 2 = .ok (.iload_n 3, 1) := by decide +kernel
theorem dX6_mark_3 : decode cX6_mark 3 = .ok (.invokevirtual 208, 3) := by decide +kernel
theorem dX6_mark_6 : decode cX6_mark 6 = .ok (.astore 5, 2) := by decide +kernel
theorem dX6_mark_8 : decode cX6_mark 8 = .ok (.aload 5, 2) := by decide +kernel
theorem dX6_mark_10 : decode cX6_mark 10 = .ok (.ifnull 10, 3) := by decide +kernel
theorem dX6_mark_13 : decode cX6_mark 13 = .ok (.iload_n 1, 1) := by decide +kernel
theorem dX6_mark_14 : decode cX6_mark 14 = .ok (.invokestatic 221, 3) := by decide +kernel
theorem dX6_mark_17 : decode cX6_mark 17 = .ok (.ifCond .ne 13, 3) := by decide +kernel
theorem dX6_mark_20 : decode cX6_mark 20 = .ok (.new 74, 3) := by decide +kernel
theorem dX6_mark_23 : decode cX6_mark 23 = .ok (.dup, 1) := by decide +kernel
theorem dX6_mark_24 : decode cX6_mark 24 = .ok (.ldc 224, 2) := by decide +kernel
theorem dX6_mark_26 : decode cX6_mark 26 = .ok (.invokespecial 78, 3) := by decide +kernel
theorem dX6_mark_29 : decode cX6_mark 29 = .ok (.athrow, 1) := by decide +kernel
theorem dX6_mark_30 : decode cX6_mark 30 = .ok (.iload 4, 2) := by decide +kernel
theorem dX6_mark_32 : decode cX6_mark 32 = .ok (.ifCond .lt 10, 3) := by decide +kernel
theorem dX6_mark_35 : decode cX6_mark 35 = .ok (.iload 4, 2) := by decide +kernel
theorem dX6_mark_37 : decode cX6_mark 37 = .ok (.bipush 20, 2) := by decide +kernel
theorem dX6_mark_39 : decode cX6_mark 39 = .ok (.if_icmp .le 13, 3) := by decide +kernel
theorem dX6_mark_42 : decode cX6_mark 42 = .ok (.new 37, 3) := by decide +kernel
theorem dX6_mark_45 : decode cX6_mark 45 = .ok (.dup, 1) := by decide +kernel
theorem dX6_mark_46 : decode cX6_mark 46 = .ok (.ldc 226, 2) := by decide +kernel
theorem dX6_mark_48 : decode cX6_mark 48 = .ok (.invokespecial 41, 3) := by decide +kernel
theorem dX6_mark_51 : decode cX6_mark 51 = .ok (.athrow, 1) := by decide +kernel
theorem dX6_mark_52 : decode cX6_mark 52 = .ok (.aload 5, 2) := by decide +kernel
theorem dX6_mark_54 : decode cX6_mark 54 = .ok (.getfield 214, 3) := by decide +kernel
theorem dX6_mark_57 : decode cX6_mark 57 = .ok (.iconst (-1), 1) := by decide +kernel
theorem dX6_mark_58 : decode cX6_mark 58 = .ok (.if_icmp .ne 13, 3) := by decide +kernel
theorem dX6_mark_61 : decode cX6_mark 61 = .ok (.new 160, 3) := by decide +kernel
theorem dX6_mark_64 : decode cX6_mark 64 = .ok (.dup, 1) := by decide +kernel
theorem dX6_mark_65 : decode cX6_mark 65 = .ok (.ldc 228, 2) := by decide +kernel
theorem dX6_mark_67 : decode cX6_mark 67 = .ok (.invokespecial 164, 3) := by decide +kernel
theorem dX6_mark_70 : decode cX6_mark 70 = .ok (.athrow, 1) := by decide +kernel
theorem dX6_mark_71 : decode cX6_mark 71 = .ok (.aload 5, 2) := by decide +kernel
theorem dX6_mark_73 : decode cX6_mark 73 = .ok (.getfield 230, 3) := by decide +kernel
theorem dX6_mark_76 : decode cX6_mark 76 = .ok (.iload_n 1, 1) := by decide +kernel
theorem dX6_mark_77 : decode cX6_mark 77 = .ok (.iaload, 1) := by decide +kernel
theorem dX6_mark_78 : decode cX6_mark 78 = .ok (.istore 6, 2) := by decide +kernel
theorem dX6_mark_80 : decode cX6_mark 80 = .ok (.aload 5, 2) := by decide +kernel
theorem dX6_mark_82 : decode cX6_mark 82 = .ok (.getfield 230, 3) := by decide +kernel
theorem dX6_mark_85 : decode cX6_mark 85 = .ok (.iload_n 1, 1) := by decide +kernel
theorem dX6_mark_86 : decode cX6_mark 86 = .ok (.iload 4, 2) := by decide +kernel
theorem dX6_mark_88 : decode cX6_mark 88 = .ok (.iastore, 1) := by decide +kernel
theorem dX6_mark_89 : decode cX6_mark 89 = .ok (.aload 5, 2) := by decide +kernel
theorem dX6_mark_91 : decode cX6_mark 91 = .ok (.getfield 233, 3) := by decide +kernel
theorem dX6_mark_94 : decode cX6_mark 94 = .ok (.iload_n 1, 1) := by decide +kernel
theorem dX6_mark_95 : decode cX6_mark 95 = .ok (.iload 4, 2) := by decide +kernel
theorem dX6_mark_97 : decode cX6_mark 97 = .ok (.iastore, 1) := by decide +kernel
theorem dX6_mark_98 : decode cX6_mark 98 = .ok (.iload 6, 2) := by decide +kernel
theorem dX6_mark_100 : decode cX6_mark 100 = .ok (.ireturn, 1) := by decide +kernel
theorem dX6_affirm_0 : decode cX6_affirm 0 = .ok (.aload_n 0, 1) := by decide +kernel
theorem dX6_affirm_1 : decode cX6_affirm 1 = .ok (.iload_n 2, 1) := by decide +kernel
theorem dX6_affirm_2 : decode cX6_affirm 2 = .ok (.iload_n 3, 1) := by decide +kernel
theorem dX6_affirm_3 : decode cX6_affirm 3 = .ok (.invokevirtual 208, 3) := by decide +kernel
theorem dX6_affirm_6 : decode cX6_affirm 6 = .ok (.astore 4, 2) := by decide +kernel
theorem dX6_affirm_8 : decode cX6_affirm 8 = .ok (.aload 4, 2) := by decide +kernel
theorem dX6_affirm_10 : decode cX6_affirm 10 = .ok (.ifnull 10, 3) := by decide +kernel
theorem dX6_affirm_13 : decode cX6_affirm 13 = .ok (.iload_n 1, 1) := by decide +kernel
theorem dX6_affirm_14 : decode cX6_affirm 14 = .ok (.invokestatic 221, 3) := by decide +kernel
theorem dX6_affirm_17 : decode cX6_affirm 17 = .ok (.ifCond .ne 13, 3) := by decide +kernel
theorem dX6_affirm_20 : decode cX6_affirm 20 = .ok (.new 74, 3) := by decide +kernel
theorem dX6_affirm_23 : decode cX6_affirm 23 = .ok (.dup, 1) := by decide +kernel
theorem dX6_affirm_24 : decode cX6_affirm 24 = .ok (.ldc 224, 2) := by decide +kernel
theorem dX6_affirm_26 : decode cX6_affirm 26 = .ok (.invokespecial 78, 3) := by decide +kernel
theorem dX6_affirm_29 : decode cX6_affirm 29 = .ok (.athrow, 1) := by decide +kernel
theorem dX6_affirm_30 : decode cX6_affirm 30 = .ok (.aload 4, 2) := by decide +kernel
theorem dX6_affirm_32 : decode cX6_affirm 32 = .ok (.getfield 230, 3) := by decide +kernel
theorem dX6_affirm_35 : decode cX6_affirm 35 = .ok (.iload_n 1, 1) := by decide +kernel
theorem dX6_affirm_36 : decode cX6_affirm 36 = .ok (.iaload, 1) := by decide +kernel
theorem dX6_affirm_37 : decode cX6_affirm 37 = .ok (.istore 5, 2) := by decide +kernel
theorem dX6_affirm_39 : decode cX6_affirm 39 = .ok (.iload 5, 2) := by decide +kernel
theorem dX6_affirm_41 : decode cX6_affirm 41 = .ok (.iconst (-1), 1) := by decide +kernel
theorem dX6_affirm_42 : decode cX6_affirm 42 = .ok (.if_icmp .eq 14, 3) := by decide +kernel
theorem dX6_affirm_45 : decode cX6_affirm 45 = .ok (.aload 4, 2) := by decide +kernel
theorem dX6_affirm_47 : decode cX6_affirm 47 = .ok (.getfield 233, 3) := by decide +kernel
theorem dX6_affirm_50 : decode cX6_affirm 50 = .ok (.iload_n 1, 1) := by decide +kernel
theorem dX6_affirm_51 : decode cX6_affirm 51 = .ok (.iaload, 1) := by decide +kernel
theorem dX6_affirm_52 : decode cX6_affirm 52 = .ok (.iconst (-1), 1) := by decide +kernel
theorem dX6_affirm_53 : decode cX6_affirm 53 = .ok (.if_icmp .eq 13, 3) := by decide +kernel
theorem dX6_affirm_56 : decode cX6_affirm 56 = .ok (.new 190, 3) := by decide +kernel
theorem dX6_affirm_59 : decode cX6_affirm 59 = .ok (.dup, 1) := by decide +kernel
theorem dX6_affirm_60 : decode cX6_affirm 60 = .ok (.ldc 236, 2) := by decide +kernel
theorem dX6_affirm_62 : decode cX6_affirm 62 = .ok (.invokespecial 194, 3) := by decide +kernel
theorem dX6_affirm_65 : decode cX6_affirm 65 = .ok (.athrow, 1) := by decide +kernel
theorem dX6_affirm_66 : decode cX6_affirm 66 = .ok (.aload 4, 2) := by decide +kernel
theorem dX6_affirm_68 : decode cX6_affirm 68 = .ok (.getfield 233, 3) := by decide +kernel
theorem dX6_affirm_71 : decode cX6_affirm 71 = .ok (.iload_n 1, 1) := by decide +kernel
theorem dX6_affirm_72 : decode cX6_affirm 72 = .ok (.iload 5, 2) := by decide +kernel
theorem dX6_affirm_74 : decode cX6_affirm 74 = .ok (.iastore, 1) := by decide +kernel
theorem dX6_affirm_75 : decode cX6_affirm 75 = .ok (.iload 5, 2) := by decide +kernel
theorem dX6_affirm_77 : decode cX6_affirm 77 = .ok (.ireturn, 1) := by decide +kernel
theorem dX6_asked_0 : decode cX6_asked 0 = .ok (.aload_n 0, 1) := by decide +kernel
theorem dX6_asked_1 : decode cX6_asked 1 = .ok (.invokevirtual 238, 3) := by decide +kernel
theorem dX6_asked_4 : decode cX6_asked 4 = .ok (.aload_n 0, 1) := by decide +kernel
theorem dX6_asked_5 : decode cX6_asked 5 = .ok (.invokevirtual 241, 3) := by decide +kernel
theorem dX6_asked_8 : decode cX6_asked 8 = .ok (.isub, 1) := by decide +kernel
theorem dX6_asked_9 : decode cX6_asked 9 = .ok (.ireturn, 1) := by decide +kernel
theorem dX6_points_0 : decode cX6_points 0 = .ok (.aload_n 0, 1) := by decide +kernel
theorem dX6_points_1 : decode cX6_points 1 = .ok (.iload_n 1, 1) := by decide +kernel
theorem dX6_points_2 : decode cX6_points 2 = .ok (.iload_n 2, 1) := by decide +kernel
theorem dX6_points_3 : decode cX6_points 3 = .ok (.invokevirtual 208, 3) := by decide +kernel
theorem dX6_points_6 : decode cX6_points 6 = .ok (.astore_n 3, 1) := by decide +kernel
theorem dX6_points_7 : decode cX6_points 7 = .ok (.aload_n 3, 1) := by decide +kernel
theorem dX6_points_8 : decode cX6_points 8 = .ok (.ifnonnull 13, 3) := by decide +kernel
theorem dX6_points_11 : decode cX6_points 11 = .ok (.new 74, 3) := by decide +kernel
theorem dX6_points_14 : decode cX6_points 14 = .ok (.dup, 1) := by decide +kernel
theorem dX6_points_15 : decode cX6_points 15 = .ok (.ldc 244, 2) := by decide +kernel
theorem dX6_points_17 : decode cX6_points 17 = .ok (.invokespecial 78, 3) := by decide +kernel
theorem dX6_points_20 : decode cX6_points 20 = .ok (.athrow, 1) := by decide +kernel
theorem dX6_points_21 : decode cX6_points 21 = .ok (.aload_n 3, 1) := by decide +kernel
theorem dX6_points_22 : decode cX6_points 22 = .ok (.invokevirtual 246, 3) := by decide +kernel
theorem dX6_points_25 : decode cX6_points 25 = .ok (.ireturn, 1) := by decide +kernel
theorem dX6_ranked_0 : decode cX6_ranked 0 = .ok (.aload_n 0, 1) := by decide +kernel
theorem dX6_ranked_1 : decode cX6_ranked 1 = .ok (.iload_n 1, 1) := by decide +kernel
theorem dX6_ranked_2 : decode cX6_ranked 2 = .ok (.invokevirtual 249, 3) := by decide +kernel
theorem dX6_ranked_5 : decode cX6_ranked 5 = .ok (.istore_n 2, 1) := by decide +kernel
theorem dX6_ranked_6 : decode cX6_ranked 6 = .ok (.iload_n 2, 1) := by decide +kernel
theorem dX6_ranked_7 : decode cX6_ranked 7 = .ok (.iconst (-1), 1) := by decide +kernel
theorem dX6_ranked_8 : decode cX6_ranked 8 = .ok (.if_icmp .ne 13, 3) := by decide +kernel
theorem dX6_ranked_11 : decode cX6_ranked 11 = .ok (.new 74, 3) := by decide +kernel
theorem dX6_ranked_14 : decode cX6_ranked 14 = .ok (.dup, 1) := by decide +kernel
theorem dX6_ranked_15 : decode cX6_ranked 15 = .ok (.ldc 253, 2) := by decide +kernel
theorem dX6_ranked_17 : decode cX6_ranked 17 = .ok (.invokespecial 78, 3) := by decide +kernel
theorem dX6_ranked_20 : decode cX6_ranked 20 = .ok (.athrow, 1) := by decide +kernel
theorem dX6_ranked_21 : decode cX6_ranked 21 = .ok (.iload_n 2, 1) := by decide +kernel
theorem dX6_ranked_22 : decode cX6_ranked 22 = .ok (.ireturn, 1) := by decide +kernel
theorem dX6_isTied_0 : decode cX6_isTied 0 = .ok (.aload_n 0, 1) := by decide +kernel
theorem dX6_isTied_1 : decode cX6_isTied 1 = .ok (.iload_n 1, 1) := by decide +kernel
theorem dX6_isTied_2 : decode cX6_isTied 2 = .ok (.invokevirtual 70, 3) := by decide +kernel
theorem dX6_isTied_5 : decode cX6_isTied 5 = .ok (.ifnonnull 13, 3) := by decide +kernel
theorem dX6_isTied_8 : decode cX6_isTied 8 = .ok (.new 74, 3) := by decide +kernel
theorem dX6_isTied_11 : decode cX6_isTied 11 = .ok (.dup, 1) := by decide +kernel
theorem dX6_isTied_12 : decode cX6_isTied 12 = .ok (.ldc 76, 2) := by decide +kernel
theorem dX6_isTied_14 : decode cX6_isTied 14 = .ok (.invokespecial 78, 3) := by decide +kernel
theorem dX6_isTied_17 : decode cX6_isTied 17 = .ok (.athrow, 1) := by decide +kernel
theorem dX6_isTied_18 : decode cX6_isTied 18 = .ok (.aload_n 0, 1) := by decide +kernel
theorem dX6_isTied_19 : decode cX6_isTied 19 = .ok (.iload_n 1, 1) := by decide +kernel
theorem dX6_isTied_20 : decode cX6_isTied 20 = .ok (.invokevirtual 255, 3) := by decide +kernel
theorem dX6_isTied_23 : decode cX6_isTied 23 = .ok (.istore_n 2, 1) := by decide +kernel
theorem dX6_isTied_24 : decode cX6_isTied 24 = .ok (.iconst 0, 1) := by decide +kernel
theorem dX6_isTied_25 : decode cX6_isTied 25 = .ok (.istore_n 3, 1) := by decide +kernel
theorem dX6_isTied_26 : decode cX6_isTied 26 = .ok (.iload_n 3, 1) := by decide +kernel
theorem dX6_isTied_27 : decode cX6_isTied 27 = .ok (.aload_n 0, 1) := by decide +kernel
theorem dX6_isTied_28 : decode cX6_isTied 28 = .ok (.getfield 44, 3) := by decide +kernel
theorem dX6_isTied_31 : decode cX6_isTied 31 = .ok (.if_icmp .ge 25, 3) := by decide +kernel
theorem dX6_isTied_34 : decode cX6_isTied 34 = .ok (.iload_n 3, 1) := by decide +kernel
theorem dX6_isTied_35 : decode cX6_isTied 35 = .ok (.iload_n 1, 1) := by decide +kernel
theorem dX6_isTied_36 : decode cX6_isTied 36 = .ok (.if_icmp .eq 14, 3) := by decide +kernel
theorem dX6_isTied_39 : decode cX6_isTied 39 = .ok (.aload_n 0, 1) := by decide +kernel
theorem dX6_isTied_40 : decode cX6_isTied 40 = .ok (.iload_n 3, 1) := by decide +kernel
theorem dX6_isTied_41 : decode cX6_isTied 41 = .ok (.invokevirtual 255, 3) := by decide +kernel
theorem dX6_isTied_44 : decode cX6_isTied 44 = .ok (.iload_n 2, 1) := by decide +kernel
theorem dX6_isTied_45 : decode cX6_isTied 45 = .ok (.if_icmp .ne 5, 3) := by decide +kernel
theorem dX6_isTied_48 : decode cX6_isTied 48 = .ok (.iconst 1, 1) := by decide +kernel
theorem dX6_isTied_49 : decode cX6_isTied 49 = .ok (.ireturn, 1) := by decide +kernel
theorem dX6_isTied_50 : decode cX6_isTied 50 = .ok (.iinc 3 1, 3) := by decide +kernel
theorem dX6_isTied_53 : decode cX6_isTied 53 = .ok (.goto (-27), 3) := by decide +kernel
theorem dX6_isTied_56 : decode cX6_isTied 56 = .ok (.iconst 0, 1) := by decide +kernel
theorem dX6_isTied_57 : decode cX6_isTied 57 = .ok (.ireturn, 1) := by decide +kernel
theorem dX6_give_0 : decode cX6_give 0 = .ok (.aload_n 0, 1) := by decide +kernel
theorem dX6_give_1 : decode cX6_give 1 = .ok (.iload_n 1, 1) := by decide +kernel
theorem dX6_give_2 : decode cX6_give 2 = .ok (.invokevirtual 249, 3) := by decide +kernel
theorem dX6_give_5 : decode cX6_give 5 = .ok (.istore_n 3, 1) := by decide +kernel
theorem dX6_give_6 : decode cX6_give 6 = .ok (.iload_n 3, 1) := by decide +kernel
theorem dX6_give_7 : decode cX6_give 7 = .ok (.iconst (-1), 1) := by decide +kernel
theorem dX6_give_8 : decode cX6_give 8 = .ok (.if_icmp .ne 13, 3) := by decide +kernel
theorem dX6_give_11 : decode cX6_give 11 = .ok (.new 74, 3) := by decide +kernel
theorem dX6_give_14 : decode cX6_give 14 = .ok (.dup, 1) := by decide +kernel
theorem dX6_give_15 : decode cX6_give 15 = .ok (.ldc 253, 2) := by decide +kernel
theorem dX6_give_17 : decode cX6_give 17 = .ok (.invokespecial 78, 3) := by decide +kernel
theorem dX6_give_20 : decode cX6_give 20 = .ok (.athrow, 1) := by decide +kernel
theorem dX6_give_21 : decode cX6_give 21 = .ok (.iload_n 2, 1) := by decide +kernel
theorem dX6_give_22 : decode cX6_give 22 = .ok (.iconst 1, 1) := by decide +kernel
theorem dX6_give_23 : decode cX6_give 23 = .ok (.if_icmp .lt 10, 3) := by decide +kernel
theorem dX6_give_26 : decode cX6_give 26 = .ok (.iload_n 2, 1) := by decide +kernel
theorem dX6_give_27 : decode cX6_give 27 = .ok (.sipush 9999, 3) := by decide +kernel
theorem dX6_give_30 : decode cX6_give 30 = .ok (.if_icmp .le 14, 3) := by decide +kernel
theorem dX6_give_33 : decode cX6_give 33 = .ok (.new 37, 3) := by decide +kernel
theorem dX6_give_36 : decode cX6_give 36 = .ok (.dup, 1) := by decide +kernel
theorem dX6_give_37 : decode cX6_give 37 = .ok (.ldc_w 258, 3) := by decide +kernel
theorem dX6_give_40 : decode cX6_give 40 = .ok (.invokespecial 41, 3) := by decide +kernel
theorem dX6_give_43 : decode cX6_give 43 = .ok (.athrow, 1) := by decide +kernel
theorem dX6_give_44 : decode cX6_give 44 = .ok (.aload_n 0, 1) := by decide +kernel
theorem dX6_give_45 : decode cX6_give 45 = .ok (.aload_n 0, 1) := by decide +kernel
theorem dX6_give_46 : decode cX6_give 46 = .ok (.iload_n 3, 1) := by decide +kernel
theorem dX6_give_47 : decode cX6_give 47 = .ok (.invokevirtual 260, 3) := by decide +kernel
theorem dX6_give_50 : decode cX6_give 50 = .ok (.invokevirtual 82, 3) := by decide +kernel
theorem dX6_give_53 : decode cX6_give 53 = .ok (.astore 4, 2) := by decide +kernel
theorem dX6_give_55 : decode cX6_give 55 = .ok (.aload 4, 2) := by decide +kernel
theorem dX6_give_57 : decode cX6_give 57 = .ok (.ifnonnull 14, 3) := by decide +kernel
theorem dX6_give_60 : decode cX6_give 60 = .ok (.new 160, 3) := by decide +kernel
theorem dX6_give_63 : decode cX6_give 63 = .ok (.dup, 1) := by decide +kernel
theorem dX6_give_64 : decode cX6_give 64 = .ok (.ldc_w 263, 3) := by decide +kernel
theorem dX6_give_67 : decode cX6_give 67 = .ok (.invokespecial 164, 3) := by decide +kernel
theorem dX6_give_70 : decode cX6_give 70 = .ok (.athrow, 1) := by decide +kernel
theorem dX6_give_71 : decode cX6_give 71 = .ok (.aload_n 0, 1) := by decide +kernel
theorem dX6_give_72 : decode cX6_give 72 = .ok (.getfield 265, 3) := by decide +kernel
theorem dX6_give_75 : decode cX6_give 75 = .ok (.bipush 12, 2) := by decide +kernel
theorem dX6_give_77 : decode cX6_give 77 = .ok (.if_icmp .lt 14, 3) := by decide +kernel
theorem dX6_give_80 : decode cX6_give 80 = .ok (.new 51, 3) := by decide +kernel
theorem dX6_give_83 : decode cX6_give 83 = .ok (.dup, 1) := by decide +kernel
theorem dX6_give_84 : decode cX6_give 84 = .ok (.ldc_w 268, 3) := by decide +kernel
theorem dX6_give_87 : decode cX6_give 87 = .ok (.invokespecial 55, 3) := by decide +kernel
theorem dX6_give_90 : decode cX6_give 90 = .ok (.athrow, 1) := by decide +kernel
theorem dX6_give_91 : decode cX6_give 91 = .ok (.new 27, 3) := by decide +kernel
theorem dX6_give_94 : decode cX6_give 94 = .ok (.dup, 1) := by decide +kernel
theorem dX6_give_95 : decode cX6_give 95 = .ok (.aload 4, 2) := by decide +kernel
theorem dX6_give_97 : decode cX6_give 97 = .ok (.getfield 116, 3) := by decide +kernel
theorem dX6_give_100 : decode cX6_give 100 = .ok (.iload_n 2, 1) := by decide +kernel
theorem dX6_give_101 : decode cX6_give 101 = .ok (.invokespecial 270, 3) := by decide +kernel
theorem dX6_give_104 : decode cX6_give 104 = .ok (.astore 5, 2) := by decide +kernel
theorem dX6_give_106 : decode cX6_give 106 = .ok (.aload 5, 2) := by decide +kernel
theorem dX6_give_108 : decode cX6_give 108 = .ok (.aload 4, 2) := by decide +kernel
theorem dX6_give_110 : decode cX6_give 110 = .ok (.invokevirtual 271, 3) := by decide +kernel
theorem dX6_give_113 : decode cX6_give 113 = .ok (.aload_n 0, 1) := by decide +kernel
theorem dX6_give_114 : decode cX6_give 114 = .ok (.getfield 265, 3) := by decide +kernel
theorem dX6_give_117 : decode cX6_give 117 = .ok (.istore 6, 2) := by decide +kernel
theorem dX6_give_119 : decode cX6_give 119 = .ok (.aload_n 0, 1) := by decide +kernel
theorem dX6_give_120 : decode cX6_give 120 = .ok (.getfield 29, 3) := by decide +kernel
theorem dX6_give_123 : decode cX6_give 123 = .ok (.iload 6, 2) := by decide +kernel
theorem dX6_give_125 : decode cX6_give 125 = .ok (.aload 5, 2) := by decide +kernel
theorem dX6_give_127 : decode cX6_give 127 = .ok (.aastore, 1) := by decide +kernel
theorem dX6_give_128 : decode cX6_give 128 = .ok (.aload_n 0, 1) := by decide +kernel
theorem dX6_give_129 : decode cX6_give 129 = .ok (.dup, 1) := by decide +kernel
theorem dX6_give_130 : decode cX6_give 130 = .ok (.getfield 265, 3) := by decide +kernel
theorem dX6_give_133 : decode cX6_give 133 = .ok (.iconst 1, 1) := by decide +kernel
theorem dX6_give_134 : decode cX6_give 134 = .ok (.iadd, 1) := by decide +kernel
theorem dX6_give_135 : decode cX6_give 135 = .ok (.putfield 265, 3) := by decide +kernel
theorem dX6_give_138 : decode cX6_give 138 = .ok (.iload 6, 2) := by decide +kernel
theorem dX6_give_140 : decode cX6_give 140 = .ok (.ireturn, 1) := by decide +kernel
theorem dX6_named_0 : decode cX6_named 0 = .ok (.aload_n 0, 1) := by decide +kernel
theorem dX6_named_1 : decode cX6_named 1 = .ok (.iload_n 1, 1) := by decide +kernel
theorem dX6_named_2 : decode cX6_named 2 = .ok (.invokevirtual 274, 3) := by decide +kernel
theorem dX6_named_5 : decode cX6_named 5 = .ok (.astore_n 2, 1) := by decide +kernel
theorem dX6_named_6 : decode cX6_named 6 = .ok (.aload_n 2, 1) := by decide +kernel
theorem dX6_named_7 : decode cX6_named 7 = .ok (.ifnonnull 14, 3) := by decide +kernel
theorem dX6_named_10 : decode cX6_named 10 = .ok (.new 74, 3) := by decide +kernel
theorem dX6_named_13 : decode cX6_named 13 = .ok (.dup, 1) := by decide +kernel
theorem dX6_named_14 : decode cX6_named 14 = .ok (.ldc_w 278, 3) := by decide +kernel
theorem dX6_named_17 : decode cX6_named 17 = .ok (.invokespecial 78, 3) := by decide +kernel
theorem dX6_named_20 : decode cX6_named 20 = .ok (.athrow, 1) := by decide +kernel
theorem dX6_named_21 : decode cX6_named 21 = .ok (.aload_n 2, 1) := by decide +kernel
theorem dX6_named_22 : decode cX6_named 22 = .ok (.getfield 280, 3) := by decide +kernel
theorem dX6_named_25 : decode cX6_named 25 = .ok (.ireturn, 1) := by decide +kernel
theorem dX6_share_0 : decode cX6_share 0 = .ok (.aload_n 0, 1) := by decide +kernel
theorem dX6_share_1 : decode cX6_share 1 = .ok (.iload_n 1, 1) := by decide +kernel
theorem dX6_share_2 : decode cX6_share 2 = .ok (.invokevirtual 274, 3) := by decide +kernel
theorem dX6_share_5 : decode cX6_share 5 = .ok (.astore_n 3, 1) := by decide +kernel
theorem dX6_share_6 : decode cX6_share 6 = .ok (.aload_n 3, 1) := by decide +kernel
theorem dX6_share_7 : decode cX6_share 7 = .ok (.ifnull 10, 3) := by decide +kernel
theorem dX6_share_10 : decode cX6_share 10 = .ok (.iload_n 2, 1) := by decide +kernel
theorem dX6_share_11 : decode cX6_share 11 = .ok (.invokestatic 104, 3) := by decide +kernel
theorem dX6_share_14 : decode cX6_share 14 = .ok (.ifCond .ne 14, 3) := by decide +kernel
theorem dX6_share_17 : decode cX6_share 17 = .ok (.new 74, 3) := by decide +kernel
theorem dX6_share_20 : decode cX6_share 20 = .ok (.dup, 1) := by decide +kernel
theorem dX6_share_21 : decode cX6_share 21 = .ok (.ldc_w 281, 3) := by decide +kernel
theorem dX6_share_24 : decode cX6_share 24 = .ok (.invokespecial 78, 3) := by decide +kernel
theorem dX6_share_27 : decode cX6_share 27 = .ok (.athrow, 1) := by decide +kernel
theorem dX6_share_28 : decode cX6_share 28 = .ok (.aload_n 3, 1) := by decide +kernel
theorem dX6_share_29 : decode cX6_share 29 = .ok (.getfield 283, 3) := by decide +kernel
theorem dX6_share_32 : decode cX6_share 32 = .ok (.iload_n 2, 1) := by decide +kernel
theorem dX6_share_33 : decode cX6_share 33 = .ok (.iaload, 1) := by decide +kernel
theorem dX6_share_34 : decode cX6_share 34 = .ok (.ireturn, 1) := by decide +kernel
theorem dX6_got_0 : decode cX6_got 0 = .ok (.iload_n 1, 1) := by decide +kernel
theorem dX6_got_1 : decode cX6_got 1 = .ok (.invokestatic 104, 3) := by decide +kernel
theorem dX6_got_4 : decode cX6_got 4 = .ok (.ifCond .ne 14, 3) := by decide +kernel
theorem dX6_got_7 : decode cX6_got 7 = .ok (.new 74, 3) := by decide +kernel
theorem dX6_got_10 : decode cX6_got 10 = .ok (.dup, 1) := by decide +kernel
theorem dX6_got_11 : decode cX6_got 11 = .ok (.ldc_w 286, 3) := by decide +kernel
theorem dX6_got_14 : decode cX6_got 14 = .ok (.invokespecial 78, 3) := by decide +kernel
theorem dX6_got_17 : decode cX6_got 17 = .ok (.athrow, 1) := by decide +kernel
theorem dX6_got_18 : decode cX6_got 18 = .ok (.iconst 0, 1) := by decide +kernel
theorem dX6_got_19 : decode cX6_got 19 = .ok (.istore_n 2, 1) := by decide +kernel
theorem dX6_got_20 : decode cX6_got 20 = .ok (.iconst 0, 1) := by decide +kernel
theorem dX6_got_21 : decode cX6_got 21 = .ok (.istore_n 3, 1) := by decide +kernel
theorem dX6_got_22 : decode cX6_got 22 = .ok (.iload_n 3, 1) := by decide +kernel
theorem dX6_got_23 : decode cX6_got 23 = .ok (.aload_n 0, 1) := by decide +kernel
theorem dX6_got_24 : decode cX6_got 24 = .ok (.getfield 265, 3) := by decide +kernel
theorem dX6_got_27 : decode cX6_got 27 = .ok (.if_icmp .ge 31, 3) := by decide +kernel
theorem dX6_got_30 : decode cX6_got 30 = .ok (.aload_n 0, 1) := by decide +kernel
theorem dX6_got_31 : decode cX6_got 31 = .ok (.iload_n 3, 1) := by decide +kernel
theorem dX6_got_32 : decode cX6_got 32 = .ok (.invokevirtual 274, 3) := by decide +kernel
theorem dX6_got_35 : decode cX6_got 35 = .ok (.astore 4, 2) := by decide +kernel
theorem dX6_got_37 : decode cX6_got 37 = .ok (.aload 4, 2) := by decide +kernel
theorem dX6_got_39 : decode cX6_got 39 = .ok (.ifnull 13, 3) := by decide +kernel
theorem dX6_got_42 : decode cX6_got 42 = .ok (.iload_n 2, 1) := by decide +kernel
theorem dX6_got_43 : decode cX6_got 43 = .ok (.aload 4, 2) := by decide +kernel
theorem dX6_got_45 : decode cX6_got 45 = .ok (.getfield 283, 3) := by decide +kernel
theorem dX6_got_48 : decode cX6_got 48 = .ok (.iload_n 1, 1) := by decide +kernel
theorem dX6_got_49 : decode cX6_got 49 = .ok (.iaload, 1) := by decide +kernel
theorem dX6_got_50 : decode cX6_got 50 = .ok (.iadd, 1) := by decide +kernel
theorem dX6_got_51 : decode cX6_got 51 = .ok (.istore_n 2, 1) := by decide +kernel
theorem dX6_got_52 : decode cX6_got 52 = .ok (.iinc 3 1, 3) := by decide +kernel
theorem dX6_got_55 : decode cX6_got 55 = .ok (.goto (-33), 3) := by decide +kernel
theorem dX6_got_58 : decode cX6_got 58 = .ok (.iload_n 2, 1) := by decide +kernel
theorem dX6_got_59 : decode cX6_got 59 = .ok (.ireturn, 1) := by decide +kernel
theorem dX6_partsOf_0 : decode cX6_partsOf 0 = .ok (.aload_n 0, 1) := by decide +kernel
theorem dX6_partsOf_1 : decode cX6_partsOf 1 = .ok (.iload_n 1, 1) := by decide +kernel
theorem dX6_partsOf_2 : decode cX6_partsOf 2 = .ok (.invokevirtual 82, 3) := by decide +kernel
theorem dX6_partsOf_5 : decode cX6_partsOf 5 = .ok (.astore_n 3, 1) := by decide +kernel
theorem dX6_partsOf_6 : decode cX6_partsOf 6 = .ok (.aload_n 3, 1) := by decide +kernel
theorem dX6_partsOf_7 : decode cX6_partsOf 7 = .ok (.ifnonnull 13, 3) := by decide +kernel
theorem dX6_partsOf_10 : decode cX6_partsOf 10 = .ok (.new 74, 3) := by decide +kernel
theorem dX6_partsOf_13 : decode cX6_partsOf 13 = .ok (.dup, 1) := by decide +kernel
theorem dX6_partsOf_14 : decode cX6_partsOf 14 = .ok (.ldc 86, 2) := by decide +kernel
theorem dX6_partsOf_16 : decode cX6_partsOf 16 = .ok (.invokespecial 78, 3) := by decide +kernel
theorem dX6_partsOf_19 : decode cX6_partsOf 19 = .ok (.athrow, 1) := by decide +kernel
theorem dX6_partsOf_20 : decode cX6_partsOf 20 = .ok (.iload_n 2, 1) := by decide +kernel
theorem dX6_partsOf_21 : decode cX6_partsOf 21 = .ok (.ifCond .lt 9, 3) := by decide +kernel
theorem dX6_partsOf_24 : decode cX6_partsOf 24 = .ok (.iload_n 2, 1) := by decide +kernel
theorem dX6_partsOf_25 : decode cX6_partsOf 25 = .ok (.bipush 63, 2) := by decide +kernel
theorem dX6_partsOf_27 : decode cX6_partsOf 27 = .ok (.if_icmp .le 14, 3) := by decide +kernel
theorem dX6_partsOf_30 : decode cX6_partsOf 30 = .ok (.new 37, 3) := by decide +kernel
theorem dX6_partsOf_33 : decode cX6_partsOf 33 = .ok (.dup, 1) := by decide +kernel
theorem dX6_partsOf_34 : decode cX6_partsOf 34 = .ok (.ldc_w 288, 3) := by decide +kernel
theorem dX6_partsOf_37 : decode cX6_partsOf 37 = .ok (.invokespecial 41, 3) := by decide +kernel
theorem dX6_partsOf_40 : decode cX6_partsOf 40 = .ok (.athrow, 1) := by decide +kernel
theorem dX6_partsOf_41 : decode cX6_partsOf 41 = .ok (.aload_n 3, 1) := by decide +kernel
theorem dX6_partsOf_42 : decode cX6_partsOf 42 = .ok (.iload_n 2, 1) := by decide +kernel
theorem dX6_partsOf_43 : decode cX6_partsOf 43 = .ok (.invokevirtual 290, 3) := by decide +kernel
theorem dX6_partsOf_46 : decode cX6_partsOf 46 = .ok (.ireturn, 1) := by decide +kernel
theorem dX6_versions_0 : decode cX6_versions 0 = .ok (.aload_n 0, 1) := by decide +kernel
theorem dX6_versions_1 : decode cX6_versions 1 = .ok (.getfield 48, 3) := by decide +kernel
theorem dX6_versions_4 : decode cX6_versions 4 = .ok (.ireturn, 1) := by decide +kernel
theorem dX6_countShare_0 : decode cX6_countShare 0 = .ok (.aload_n 0, 1) := by decide +kernel
theorem dX6_countShare_1 : decode cX6_countShare 1 = .ok (.invokevirtual 238, 3) := by decide +kernel
theorem dX6_countShare_4 : decode cX6_countShare 4 = .ok (.istore_n 1, 1) := by decide +kernel
theorem dX6_countShare_5 : decode cX6_countShare 5 = .ok (.iload_n 1, 1) := by decide +kernel
theorem dX6_countShare_6 : decode cX6_countShare 6 = .ok (.ifCond .ne 14, 3) := by decide +kernel
theorem dX6_countShare_9 : decode cX6_countShare 9 = .ok (.new 293, 3) := by decide +kernel
theorem dX6_countShare_12 : decode cX6_countShare 12 = .ok (.dup, 1) := by decide +kernel
theorem dX6_countShare_13 : decode cX6_countShare 13 = .ok (.ldc_w 295, 3) := by decide +kernel
theorem dX6_countShare_16 : decode cX6_countShare 16 = .ok (.invokespecial 297, 3) := by decide +kernel
theorem dX6_countShare_19 : decode cX6_countShare 19 = .ok (.athrow, 1) := by decide +kernel
theorem dX6_countShare_20 : decode cX6_countShare 20 = .ok (.aload_n 0, 1) := by decide +kernel
theorem dX6_countShare_21 : decode cX6_countShare 21 = .ok (.invokevirtual 241, 3) := by decide +kernel
theorem dX6_countShare_24 : decode cX6_countShare 24 = .ok (.i2f, 1) := by decide +kernel
theorem dX6_countShare_25 : decode cX6_countShare 25 = .ok (.iload_n 1, 1) := by decide +kernel
theorem dX6_countShare_26 : decode cX6_countShare 26 = .ok (.i2f, 1) := by decide +kernel
theorem dX6_countShare_27 : decode cX6_countShare 27 = .ok (.fdiv, 1) := by decide +kernel
theorem dX6_countShare_28 : decode cX6_countShare 28 = .ok (.freturn, 1) := by decide +kernel
theorem dX6_meanMark_0 : decode cX6_meanMark 0 = .ok (.aload_n 0, 1) := by decide +kernel
theorem dX6_meanMark_1 : decode cX6_meanMark 1 = .ok (.invokevirtual 241, 3) := by decide +kernel
theorem dX6_meanMark_4 : decode cX6_meanMark 4 = .ok (.istore_n 1, 1) := by decide +kernel
theorem dX6_meanMark_5 : decode cX6_meanMark 5 = .ok (.iload_n 1, 1) := by decide +kernel
theorem dX6_meanMark_6 : decode cX6_meanMark 6 = .ok (.ifCond .ne 14, 3) := by decide +kernel
theorem dX6_meanMark_9 : decode cX6_meanMark 9 = .ok (.new 293, 3) := by decide +kernel
theorem dX6_meanMark_12 : decode cX6_meanMark 12 = .ok (.dup, 1) := by decide +kernel
theorem dX6_meanMark_13 : decode cX6_meanMark 13 = .ok (.ldc_w 298, 3) := by decide +kernel
theorem dX6_meanMark_16 : decode cX6_meanMark 16 = .ok (.invokespecial 297, 3) := by decide +kernel
theorem dX6_meanMark_19 : decode cX6_meanMark 19 = .ok (.athrow, 1) := by decide +kernel
theorem dX6_meanMark_20 : decode cX6_meanMark 20 = .ok (.aload_n 0, 1) := by decide +kernel
theorem dX6_meanMark_21 : decode cX6_meanMark 21 = .ok (.invokevirtual 300, 3) := by decide +kernel
theorem dX6_meanMark_24 : decode cX6_meanMark 24 = .ok (.i2d, 1) := by decide +kernel
theorem dX6_meanMark_25 : decode cX6_meanMark 25 = .ok (.iload_n 1, 1) := by decide +kernel
theorem dX6_meanMark_26 : decode cX6_meanMark 26 = .ok (.i2d, 1) := by decide +kernel
theorem dX6_meanMark_27 : decode cX6_meanMark 27 = .ok (.ddiv, 1) := by decide +kernel
theorem dX6_meanMark_28 : decode cX6_meanMark 28 = .ok (.dreturn, 1) := by decide +kernel
theorem dX6_checksum_0 : decode cX6_checksum 0 = .ok (.aload_n 0, 1) := by decide +kernel
theorem dX6_checksum_1 : decode cX6_checksum 1 = .ok (.iload_n 1, 1) := by decide +kernel
theorem dX6_checksum_2 : decode cX6_checksum 2 = .ok (.invokevirtual 82, 3) := by decide +kernel
theorem dX6_checksum_5 : decode cX6_checksum 5 = .ok (.astore_n 2, 1) := by decide +kernel
theorem dX6_checksum_6 : decode cX6_checksum 6 = .ok (.aload_n 2, 1) := by decide +kernel
theorem dX6_checksum_7 : decode cX6_checksum 7 = .ok (.ifnonnull 13, 3) := by decide +kernel
theorem dX6_checksum_10 : decode cX6_checksum 10 = .ok (.new 74, 3) := by decide +kernel
theorem dX6_checksum_13 : decode cX6_checksum 13 = .ok (.dup, 1) := by decide +kernel
theorem dX6_checksum_14 : decode cX6_checksum 14 = .ok (.ldc 86, 2) := by decide +kernel
theorem dX6_checksum_16 : decode cX6_checksum 16 = .ok (.invokespecial 78, 3) := by decide +kernel
theorem dX6_checksum_19 : decode cX6_checksum 19 = .ok (.athrow, 1) := by decide +kernel
theorem dX6_checksum_20 : decode cX6_checksum 20 = .ok (.aload_n 2, 1) := by decide +kernel
theorem dX6_checksum_21 : decode cX6_checksum 21 = .ok (.invokevirtual 303, 3) := by decide +kernel
theorem dX6_checksum_24 : decode cX6_checksum 24 = .ok (.lreturn, 1) := by decide +kernel
theorem dX6_isSound_0 : decode cX6_isSound 0 = .ok (.aload_n 0, 1) := by decide +kernel
theorem dX6_isSound_1 : decode cX6_isSound 1 = .ok (.invokevirtual 307, 3) := by decide +kernel
theorem dX6_isSound_4 : decode cX6_isSound 4 = .ok (.ifCond .eq 21, 3) := by decide +kernel
theorem dX6_isSound_7 : decode cX6_isSound 7 = .ok (.aload_n 0, 1) := by decide +kernel
theorem dX6_isSound_8 : decode cX6_isSound 8 = .ok (.invokevirtual 311, 3) := by decide +kernel
theorem dX6_isSound_11 : decode cX6_isSound 11 = .ok (.ifCond .eq 14, 3) := by decide +kernel
theorem dX6_isSound_14 : decode cX6_isSound 14 = .ok (.aload_n 0, 1) := by decide +kernel
theorem dX6_isSound_15 : decode cX6_isSound 15 = .ok (.invokevirtual 314, 3) := by decide +kernel
theorem dX6_isSound_18 : decode cX6_isSound 18 = .ok (.ifCond .eq 7, 3) := by decide +kernel
theorem dX6_isSound_21 : decode cX6_isSound 21 = .ok (.iconst 1, 1) := by decide +kernel
theorem dX6_isSound_22 : decode cX6_isSound 22 = .ok (.goto 4, 3) := by decide +kernel
theorem dX6_isSound_25 : decode cX6_isSound 25 = .ok (.iconst 0, 1) := by decide +kernel
theorem dX6_isSound_26 : decode cX6_isSound 26 = .ok (.ireturn, 1) := by decide +kernel
theorem dX6_pieceAt_0 : decode cX6_pieceAt 0 = .ok (.iload_n 1, 1) := by decide +kernel
theorem dX6_pieceAt_1 : decode cX6_pieceAt 1 = .ok (.ifCond .lt 11, 3) := by decide +kernel
theorem dX6_pieceAt_4 : decode cX6_pieceAt 4 = .ok (.iload_n 1, 1) := by decide +kernel
theorem dX6_pieceAt_5 : decode cX6_pieceAt 5 = .ok (.aload_n 0, 1) := by decide +kernel
theorem dX6_pieceAt_6 : decode cX6_pieceAt 6 = .ok (.getfield 44, 3) := by decide +kernel
theorem dX6_pieceAt_9 : decode cX6_pieceAt 9 = .ok (.if_icmp .lt 7, 3) := by decide +kernel
theorem dX6_pieceAt_12 : decode cX6_pieceAt 12 = .ok (.aconst_null, 1) := by decide +kernel
theorem dX6_pieceAt_13 : decode cX6_pieceAt 13 = .ok (.goto 9, 3) := by decide +kernel
theorem dX6_pieceAt_16 : decode cX6_pieceAt 16 = .ok (.aload_n 0, 1) := by decide +kernel
theorem dX6_pieceAt_17 : decode cX6_pieceAt 17 = .ok (.getfield 11, 3) := by decide +kernel
theorem dX6_pieceAt_20 : decode cX6_pieceAt 20 = .ok (.iload_n 1, 1) := by decide +kernel
theorem dX6_pieceAt_21 : decode cX6_pieceAt 21 = .ok (.aaload, 1) := by decide +kernel
theorem dX6_pieceAt_22 : decode cX6_pieceAt 22 = .ok (.areturn, 1) := by decide +kernel
theorem dX6_versionAt_0 : decode cX6_versionAt 0 = .ok (.iload_n 1, 1) := by decide +kernel
theorem dX6_versionAt_1 : decode cX6_versionAt 1 = .ok (.ifCond .lt 11, 3) := by decide +kernel
theorem dX6_versionAt_4 : decode cX6_versionAt 4 = .ok (.iload_n 1, 1) := by decide +kernel
theorem dX6_versionAt_5 : decode cX6_versionAt 5 = .ok (.aload_n 0, 1) := by decide +kernel
theorem dX6_versionAt_6 : decode cX6_versionAt 6 = .ok (.getfield 48, 3) := by decide +kernel
theorem dX6_versionAt_9 : decode cX6_versionAt 9 = .ok (.if_icmp .lt 7, 3) := by decide +kernel
theorem dX6_versionAt_12 : decode cX6_versionAt 12 = .ok (.aconst_null, 1) := by decide +kernel
theorem dX6_versionAt_13 : decode cX6_versionAt 13 = .ok (.goto 9, 3) := by decide +kernel
theorem dX6_versionAt_16 : decode cX6_versionAt 16 = .ok (.aload_n 0, 1) := by decide +kernel
theorem dX6_versionAt_17 : decode cX6_versionAt 17 = .ok (.getfield 17, 3) := by decide +kernel
theorem dX6_versionAt_20 : decode cX6_versionAt 20 = .ok (.iload_n 1, 1) := by decide +kernel
theorem dX6_versionAt_21 : decode cX6_versionAt 21 = .ok (.aaload, 1) := by decide +kernel
theorem dX6_versionAt_22 : decode cX6_versionAt 22 = .ok (.areturn, 1) := by decide +kernel
theorem dX6_prizeAt_0 : decode cX6_prizeAt 0 = .ok (.iload_n 1, 1) := by decide +kernel
theorem dX6_prizeAt_1 : decode cX6_prizeAt 1 = .ok (.ifCond .lt 11, 3) := by decide +kernel
theorem dX6_prizeAt_4 : decode cX6_prizeAt 4 = .ok (.iload_n 1, 1) := by decide +kernel
theorem dX6_prizeAt_5 : decode cX6_prizeAt 5 = .ok (.aload_n 0, 1) := by decide +kernel
theorem dX6_prizeAt_6 : decode cX6_prizeAt 6 = .ok (.getfield 265, 3) := by decide +kernel
theorem dX6_prizeAt_9 : decode cX6_prizeAt 9 = .ok (.if_icmp .lt 7, 3) := by decide +kernel
theorem dX6_prizeAt_12 : decode cX6_prizeAt 12 = .ok (.aconst_null, 1) := by decide +kernel
theorem dX6_prizeAt_13 : decode cX6_prizeAt 13 = .ok (.goto 9, 3) := by decide +kernel
theorem dX6_prizeAt_16 : decode cX6_prizeAt 16 = .ok (.aload_n 0, 1) := by decide +kernel
theorem dX6_prizeAt_17 : decode cX6_prizeAt 17 = .ok (.getfield 29, 3) := by decide +kernel
theorem dX6_prizeAt_20 : decode cX6_prizeAt 20 = .ok (.iload_n 1, 1) := by decide +kernel
theorem dX6_prizeAt_21 : decode cX6_prizeAt 21 = .ok (.aaload, 1) := by decide +kernel
theorem dX6_prizeAt_22 : decode cX6_prizeAt 22 = .ok (.areturn, 1) := by decide +kernel
theorem dX6_sheafAt_0 : decode cX6_sheafAt 0 = .ok (.aload_n 0, 1) := by decide +kernel
theorem dX6_sheafAt_1 : decode cX6_sheafAt 1 = .ok (.iload_n 1, 1) := by decide +kernel
theorem dX6_sheafAt_2 : decode cX6_sheafAt 2 = .ok (.invokevirtual 82, 3) := by decide +kernel
theorem dX6_sheafAt_5 : decode cX6_sheafAt 5 = .ok (.astore 4, 2) := by decide +kernel
theorem dX6_sheafAt_7 : decode cX6_sheafAt 7 = .ok (.aload 4, 2) := by decide +kernel
theorem dX6_sheafAt_9 : decode cX6_sheafAt 9 = .ok (.ifnonnull 7, 3) := by decide +kernel
theorem dX6_sheafAt_12 : decode cX6_sheafAt 12 = .ok (.aconst_null, 1) := by decide +kernel
theorem dX6_sheafAt_13 : decode cX6_sheafAt 13 = .ok (.goto 10, 3) := by decide +kernel
theorem dX6_sheafAt_16 : decode cX6_sheafAt 16 = .ok (.aload 4, 2) := by decide +kernel
theorem dX6_sheafAt_18 : decode cX6_sheafAt 18 = .ok (.iload_n 2, 1) := by decide +kernel
theorem dX6_sheafAt_19 : decode cX6_sheafAt 19 = .ok (.iload_n 3, 1) := by decide +kernel
theorem dX6_sheafAt_20 : decode cX6_sheafAt 20 = .ok (.invokevirtual 98, 3) := by decide +kernel
theorem dX6_sheafAt_23 : decode cX6_sheafAt 23 = .ok (.areturn, 1) := by decide +kernel
theorem dX6_hearingAt_0 : decode cX6_hearingAt 0 = .ok (.iload_n 1, 1) := by decide +kernel
theorem dX6_hearingAt_1 : decode cX6_hearingAt 1 = .ok (.ifCond .lt 20, 3) := by decide +kernel
theorem dX6_hearingAt_4 : decode cX6_hearingAt 4 = .ok (.iload_n 1, 1) := by decide +kernel
theorem dX6_hearingAt_5 : decode cX6_hearingAt 5 = .ok (.iconst 4, 1) := by decide +kernel
theorem dX6_hearingAt_6 : decode cX6_hearingAt 6 = .ok (.if_icmp .ge 15, 3) := by decide +kernel
theorem dX6_hearingAt_9 : decode cX6_hearingAt 9 = .ok (.iload_n 2, 1) := by decide +kernel
theorem dX6_hearingAt_10 : decode cX6_hearingAt 10 = .ok (.ifCond .lt 11, 3) := by decide +kernel
theorem dX6_hearingAt_13 : decode cX6_hearingAt 13 = .ok (.iload_n 2, 1) := by decide +kernel
theorem dX6_hearingAt_14 : decode cX6_hearingAt 14 = .ok (.aload_n 0, 1) := by decide +kernel
theorem dX6_hearingAt_15 : decode cX6_hearingAt 15 = .ok (.getfield 44, 3) := by decide +kernel
theorem dX6_hearingAt_18 : decode cX6_hearingAt 18 = .ok (.if_icmp .lt 5, 3) := by decide +kernel
theorem dX6_hearingAt_21 : decode cX6_hearingAt 21 = .ok (.aconst_null, 1) := by decide +kernel
theorem dX6_hearingAt_22 : decode cX6_hearingAt 22 = .ok (.areturn, 1) := by decide +kernel
theorem dX6_hearingAt_23 : decode cX6_hearingAt 23 = .ok (.aload_n 0, 1) := by decide +kernel
theorem dX6_hearingAt_24 : decode cX6_hearingAt 24 = .ok (.getfield 23, 3) := by decide +kernel
theorem dX6_hearingAt_27 : decode cX6_hearingAt 27 = .ok (.iload_n 2, 1) := by decide +kernel
theorem dX6_hearingAt_28 : decode cX6_hearingAt 28 = .ok (.iconst 4, 1) := by decide +kernel
theorem dX6_hearingAt_29 : decode cX6_hearingAt 29 = .ok (.imul, 1) := by decide +kernel
theorem dX6_hearingAt_30 : decode cX6_hearingAt 30 = .ok (.iload_n 1, 1) := by decide +kernel
theorem dX6_hearingAt_31 : decode cX6_hearingAt 31 = .ok (.iadd, 1) := by decide +kernel
theorem dX6_hearingAt_32 : decode cX6_hearingAt 32 = .ok (.aaload, 1) := by decide +kernel
theorem dX6_hearingAt_33 : decode cX6_hearingAt 33 = .ok (.areturn, 1) := by decide +kernel
theorem dX6_isEditor_0 : decode cX6_isEditor 0 = .ok (.iload_n 0, 1) := by decide +kernel
theorem dX6_isEditor_1 : decode cX6_isEditor 1 = .ok (.ifCond .lt 13, 3) := by decide +kernel
theorem dX6_isEditor_4 : decode cX6_isEditor 4 = .ok (.iload_n 0, 1) := by decide +kernel
theorem dX6_isEditor_5 : decode cX6_isEditor 5 = .ok (.bipush 6, 2) := by decide +kernel
theorem dX6_isEditor_7 : decode cX6_isEditor 7 = .ok (.if_icmp .ge 7, 3) := by decide +kernel
theorem dX6_isEditor_10 : decode cX6_isEditor 10 = .ok (.iconst 1, 1) := by decide +kernel
theorem dX6_isEditor_11 : decode cX6_isEditor 11 = .ok (.goto 4, 3) := by decide +kernel
theorem dX6_isEditor_14 : decode cX6_isEditor 14 = .ok (.iconst 0, 1) := by decide +kernel
theorem dX6_isEditor_15 : decode cX6_isEditor 15 = .ok (.ireturn, 1) := by decide +kernel
theorem dX6_isJuror_0 : decode cX6_isJuror 0 = .ok (.iload_n 0, 1) := by decide +kernel
theorem dX6_isJuror_1 : decode cX6_isJuror 1 = .ok (.ifCond .lt 12, 3) := by decide +kernel
theorem dX6_isJuror_4 : decode cX6_isJuror 4 = .ok (.iload_n 0, 1) := by decide +kernel
theorem dX6_isJuror_5 : decode cX6_isJuror 5 = .ok (.iconst 5, 1) := by decide +kernel
theorem dX6_isJuror_6 : decode cX6_isJuror 6 = .ok (.if_icmp .ge 7, 3) := by decide +kernel
theorem dX6_isJuror_9 : decode cX6_isJuror 9 = .ok (.iconst 1, 1) := by decide +kernel
theorem dX6_isJuror_10 : decode cX6_isJuror 10 = .ok (.goto 4, 3) := by decide +kernel
theorem dX6_isJuror_13 : decode cX6_isJuror 13 = .ok (.iconst 0, 1) := by decide +kernel
theorem dX6_isJuror_14 : decode cX6_isJuror 14 = .ok (.ireturn, 1) := by decide +kernel
theorem dX6_keep_0 : decode cX6_keep 0 = .ok (.aload_n 0, 1) := by decide +kernel
theorem dX6_keep_1 : decode cX6_keep 1 = .ok (.getfield 48, 3) := by decide +kernel
theorem dX6_keep_4 : decode cX6_keep 4 = .ok (.bipush 40, 2) := by decide +kernel
theorem dX6_keep_6 : decode cX6_keep 6 = .ok (.if_icmp .ge 23, 3) := by decide +kernel
theorem dX6_keep_9 : decode cX6_keep 9 = .ok (.aload_n 0, 1) := by decide +kernel
theorem dX6_keep_10 : decode cX6_keep 10 = .ok (.getfield 17, 3) := by decide +kernel
theorem dX6_keep_13 : decode cX6_keep 13 = .ok (.aload_n 0, 1) := by decide +kernel
theorem dX6_keep_14 : decode cX6_keep 14 = .ok (.getfield 48, 3) := by decide +kernel
theorem dX6_keep_17 : decode cX6_keep 17 = .ok (.aload_n 1, 1) := by decide +kernel
theorem dX6_keep_18 : decode cX6_keep 18 = .ok (.aastore, 1) := by decide +kernel
theorem dX6_keep_19 : decode cX6_keep 19 = .ok (.aload_n 0, 1) := by decide +kernel
theorem dX6_keep_20 : decode cX6_keep 20 = .ok (.dup, 1) := by decide +kernel
theorem dX6_keep_21 : decode cX6_keep 21 = .ok (.getfield 48, 3) := by decide +kernel
theorem dX6_keep_24 : decode cX6_keep 24 = .ok (.iconst 1, 1) := by decide +kernel
theorem dX6_keep_25 : decode cX6_keep 25 = .ok (.iadd, 1) := by decide +kernel
theorem dX6_keep_26 : decode cX6_keep 26 = .ok (.putfield 48, 3) := by decide +kernel
theorem dX6_keep_29 : decode cX6_keep 29 = .ok (.return_, 1) := by decide +kernel
theorem dX6_baseOf_0 : decode cX6_baseOf 0 = .ok (.aload_n 1, 1) := by decide +kernel
theorem dX6_baseOf_1 : decode cX6_baseOf 1 = .ok (.getfield 112, 3) := by decide +kernel
theorem dX6_baseOf_4 : decode cX6_baseOf 4 = .ok (.aload_n 2, 1) := by decide +kernel
theorem dX6_baseOf_5 : decode cX6_baseOf 5 = .ok (.getfield 112, 3) := by decide +kernel
theorem dX6_baseOf_8 : decode cX6_baseOf 8 = .ok (.land, 1) := by decide +kernel
theorem dX6_baseOf_9 : decode cX6_baseOf 9 = .ok (.lstore_n 3, 1) := by decide +kernel
theorem dX6_baseOf_10 : decode cX6_baseOf 10 = .ok (.aload_n 0, 1) := by decide +kernel
theorem dX6_baseOf_11 : decode cX6_baseOf 11 = .ok (.getfield 48, 3) := by decide +kernel
theorem dX6_baseOf_14 : decode cX6_baseOf 14 = .ok (.iconst 1, 1) := by decide +kernel
theorem dX6_baseOf_15 : decode cX6_baseOf 15 = .ok (.isub, 1) := by decide +kernel
theorem dX6_baseOf_16 : decode cX6_baseOf 16 = .ok (.istore 5, 2) := by decide +kernel
theorem dX6_baseOf_18 : decode cX6_baseOf 18 = .ok (.iload 5, 2) := by decide +kernel
theorem dX6_baseOf_20 : decode cX6_baseOf 20 = .ok (.ifCond .lt 23, 3) := by decide +kernel
theorem dX6_baseOf_23 : decode cX6_baseOf 23 = .ok (.lload_n 3, 1) := by decide +kernel
theorem dX6_baseOf_24 : decode cX6_baseOf 24 = .ok (.iload 5, 2) := by decide +kernel
theorem dX6_baseOf_26 : decode cX6_baseOf 26 = .ok (.lshr, 1) := by decide +kernel
theorem dX6_baseOf_27 : decode cX6_baseOf 27 = .ok (.lconst 1, 1) := by decide +kernel
theorem dX6_baseOf_28 : decode cX6_baseOf 28 = .ok (.land, 1) := by decide +kernel
theorem dX6_baseOf_29 : decode cX6_baseOf 29 = .ok (.lconst 1, 1) := by decide +kernel
theorem dX6_baseOf_30 : decode cX6_baseOf 30 = .ok (.lcmp, 1) := by decide +kernel
theorem dX6_baseOf_31 : decode cX6_baseOf 31 = .ok (.ifCond .ne 6, 3) := by decide +kernel
theorem dX6_baseOf_34 : decode cX6_baseOf 34 = .ok (.iload 5, 2) := by decide +kernel
theorem dX6_baseOf_36 : decode cX6_baseOf 36 = .ok (.ireturn, 1) := by decide +kernel
theorem dX6_baseOf_37 : decode cX6_baseOf 37 = .ok (.iinc 5 (-1), 3) := by decide +kernel
theorem dX6_baseOf_40 : decode cX6_baseOf 40 = .ok (.goto (-22), 3) := by decide +kernel
theorem dX6_baseOf_43 : decode cX6_baseOf 43 = .ok (.iconst (-1), 1) := by decide +kernel
theorem dX6_baseOf_44 : decode cX6_baseOf 44 = .ok (.ireturn, 1) := by decide +kernel
theorem dX6_askAgain_0 : decode cX6_askAgain 0 = .ok (.aload_n 1, 1) := by decide +kernel
theorem dX6_askAgain_1 : decode cX6_askAgain 1 = .ok (.aload_n 2, 1) := by decide +kernel
theorem dX6_askAgain_2 : decode cX6_askAgain 2 = .ok (.invokevirtual 204, 3) := by decide +kernel
theorem dX6_askAgain_5 : decode cX6_askAgain 5 = .ok (.ifCond .ne 4, 3) := by decide +kernel
theorem dX6_askAgain_8 : decode cX6_askAgain 8 = .ok (.return_, 1) := by decide +kernel
theorem dX6_askAgain_9 : decode cX6_askAgain 9 = .ok (.iconst 0, 1) := by decide +kernel
theorem dX6_askAgain_10 : decode cX6_askAgain 10 = .ok (.istore_n 3, 1) := by decide +kernel
theorem dX6_askAgain_11 : decode cX6_askAgain 11 = .ok (.iload_n 3, 1) := by decide +kernel
theorem dX6_askAgain_12 : decode cX6_askAgain 12 = .ok (.iconst 4, 1) := by decide +kernel
theorem dX6_askAgain_13 : decode cX6_askAgain 13 = .ok (.if_icmp .ge 46, 3) := by decide +kernel
theorem dX6_askAgain_16 : decode cX6_askAgain 16 = .ok (.aload_n 0, 1) := by decide +kernel
theorem dX6_askAgain_17 : decode cX6_askAgain 17 = .ok (.iload_n 3, 1) := by decide +kernel
theorem dX6_askAgain_18 : decode cX6_askAgain 18 = .ok (.aload_n 2, 1) := by decide +kernel
theorem dX6_askAgain_19 : decode cX6_askAgain 19 = .ok (.getfield 88, 3) := by decide +kernel
theorem dX6_askAgain_22 : decode cX6_askAgain 22 = .ok (.invokevirtual 208, 3) := by decide +kernel
theorem dX6_askAgain_25 : decode cX6_askAgain 25 = .ok (.astore 4, 2) := by decide +kernel
theorem dX6_askAgain_27 : decode cX6_askAgain 27 = .ok (.aload 4, 2) := by decide +kernel
theorem dX6_askAgain_29 : decode cX6_askAgain 29 = .ok (.ifnull 24, 3) := by decide +kernel
theorem dX6_askAgain_32 : decode cX6_askAgain 32 = .ok (.aload 4, 2) := by decide +kernel
theorem dX6_askAgain_34 : decode cX6_askAgain 34 = .ok (.getfield 214, 3) := by decide +kernel
theorem dX6_askAgain_37 : decode cX6_askAgain 37 = .ok (.aload_n 2, 1) := by decide +kernel
theorem dX6_askAgain_38 : decode cX6_askAgain 38 = .ok (.getfield 116, 3) := by decide +kernel
theorem dX6_askAgain_41 : decode cX6_askAgain 41 = .ok (.if_icmp .ne 12, 3) := by decide +kernel
theorem dX6_askAgain_44 : decode cX6_askAgain 44 = .ok (.aload 4, 2) := by decide +kernel
theorem dX6_askAgain_46 : decode cX6_askAgain 46 = .ok (.getfield 233, 3) := by decide +kernel
theorem dX6_askAgain_49 : decode cX6_askAgain 49 = .ok (.iconst (-1), 1) := by decide +kernel
theorem dX6_askAgain_50 : decode cX6_askAgain 50 = .ok (.invokestatic 317, 3) := by decide +kernel
theorem dX6_askAgain_53 : decode cX6_askAgain 53 = .ok (.iinc 3 1, 3) := by decide +kernel
theorem dX6_askAgain_56 : decode cX6_askAgain 56 = .ok (.goto (-45), 3) := by decide +kernel
theorem dX6_askAgain_59 : decode cX6_askAgain 59 = .ok (.return_, 1) := by decide +kernel
theorem dX6_marksTold_0 : decode cX6_marksTold 0 = .ok (.iconst 0, 1) := by decide +kernel
theorem dX6_marksTold_1 : decode cX6_marksTold 1 = .ok (.istore_n 1, 1) := by decide +kernel
theorem dX6_marksTold_2 : decode cX6_marksTold 2 = .ok (.iconst 0, 1) := by decide +kernel
theorem dX6_marksTold_3 : decode cX6_marksTold 3 = .ok (.istore_n 2, 1) := by decide +kernel
theorem dX6_marksTold_4 : decode cX6_marksTold 4 = .ok (.iload_n 2, 1) := by decide +kernel
theorem dX6_marksTold_5 : decode cX6_marksTold 5 = .ok (.aload_n 0, 1) := by decide +kernel
theorem dX6_marksTold_6 : decode cX6_marksTold 6 = .ok (.getfield 23, 3) := by decide +kernel
theorem dX6_marksTold_9 : decode cX6_marksTold 9 = .ok (.arraylength, 1) := by decide +kernel
theorem dX6_marksTold_10 : decode cX6_marksTold 10 = .ok (.if_icmp .ge 30, 3) := by decide +kernel
theorem dX6_marksTold_13 : decode cX6_marksTold 13 = .ok (.aload_n 0, 1) := by decide +kernel
theorem dX6_marksTold_14 : decode cX6_marksTold 14 = .ok (.getfield 23, 3) := by decide +kernel
theorem dX6_marksTold_17 : decode cX6_marksTold 17 = .ok (.iload_n 2, 1) := by decide +kernel
theorem dX6_marksTold_18 : decode cX6_marksTold 18 = .ok (.aaload, 1) := by decide +kernel
theorem dX6_marksTold_19 : decode cX6_marksTold 19 = .ok (.astore_n 3, 1) := by decide +kernel
theorem dX6_marksTold_20 : decode cX6_marksTold 20 = .ok (.aload_n 3, 1) := by decide +kernel
theorem dX6_marksTold_21 : decode cX6_marksTold 21 = .ok (.ifnull 13, 3) := by decide +kernel
theorem dX6_marksTold_24 : decode cX6_marksTold 24 = .ok (.iload_n 1, 1) := by decide +kernel
theorem dX6_marksTold_25 : decode cX6_marksTold 25 = .ok (.aload_n 3, 1) := by decide +kernel
theorem dX6_marksTold_26 : decode cX6_marksTold 26 = .ok (.getfield 230, 3) := by decide +kernel
theorem dX6_marksTold_29 : decode cX6_marksTold 29 = .ok (.invokestatic 321, 3) := by decide +kernel
theorem dX6_marksTold_32 : decode cX6_marksTold 32 = .ok (.iadd, 1) := by decide +kernel
theorem dX6_marksTold_33 : decode cX6_marksTold 33 = .ok (.istore_n 1, 1) := by decide +kernel
theorem dX6_marksTold_34 : decode cX6_marksTold 34 = .ok (.iinc 2 1, 3) := by decide +kernel
theorem dX6_marksTold_37 : decode cX6_marksTold 37 = .ok (.goto (-33), 3) := by decide +kernel
theorem dX6_marksTold_40 : decode cX6_marksTold 40 = .ok (.iload_n 1, 1) := by decide +kernel
theorem dX6_marksTold_41 : decode cX6_marksTold 41 = .ok (.ireturn, 1) := by decide +kernel
theorem dX6_marksCounted_0 : decode cX6_marksCounted 0 = .ok (.iconst 0, 1) := by decide +kernel
theorem dX6_marksCounted_1 : decode cX6_marksCounted 1 = .ok (.istore_n 1, 1) := by decide +kernel
theorem dX6_marksCounted_2 : decode cX6_marksCounted 2 = .ok (.iconst 0, 1) := by decide +kernel
theorem dX6_marksCounted_3 : decode cX6_marksCounted 3 = .ok (.istore_n 2, 1) := by decide +kernel
theorem dX6_marksCounted_4 : decode cX6_marksCounted 4 = .ok (.iload_n 2, 1) := by decide +kernel
theorem dX6_marksCounted_5 : decode cX6_marksCounted 5 = .ok (.aload_n 0, 1) := by decide +kernel
theorem dX6_marksCounted_6 : decode cX6_marksCounted 6 = .ok (.getfield 23, 3) := by decide +kernel
theorem dX6_marksCounted_9 : decode cX6_marksCounted 9 = .ok (.arraylength, 1) := by decide +kernel
theorem dX6_marksCounted_10 : decode cX6_marksCounted 10 = .ok (.if_icmp .ge 30, 3) := by decide +kernel
theorem dX6_marksCounted_13 : decode cX6_marksCounted 13 = .ok (.aload_n 0, 1) := by decide +kernel
theorem dX6_marksCounted_14 : decode cX6_marksCounted 14 = .ok (.getfield 23, 3) := by decide +kernel
theorem dX6_marksCounted_17 : decode cX6_marksCounted 17 = .ok (.iload_n 2, 1) := by decide +kernel
theorem dX6_marksCounted_18 : decode cX6_marksCounted 18 = .ok (.aaload, 1) := by decide +kernel
theorem dX6_marksCounted_19 : decode cX6_marksCounted 19 = .ok (.astore_n 3, 1) := by decide +kernel
theorem dX6_marksCounted_20 : decode cX6_marksCounted 20 = .ok (.aload_n 3, 1) := by decide +kernel
theorem dX6_marksCounted_21 : decode cX6_marksCounted 21 = .ok (.ifnull 13, 3) := by decide +kernel
theorem dX6_marksCounted_24 : decode cX6_marksCounted 24 = .ok (.iload_n 1, 1) := by decide +kernel
theorem dX6_marksCounted_25 : decode cX6_marksCounted 25 = .ok (.aload_n 3, 1) := by decide +kernel
theorem dX6_marksCounted_26 : decode cX6_marksCounted 26 = .ok (.getfield 233, 3) := by decide +kernel
theorem dX6_marksCounted_29 : decode cX6_marksCounted 29 = .ok (.invokestatic 321, 3) := by decide +kernel
theorem dX6_marksCounted_32 : decode cX6_marksCounted 32 = .ok (.iadd, 1) := by decide +kernel
theorem dX6_marksCounted_33 : decode cX6_marksCounted 33 = .ok (.istore_n 1, 1) := by decide +kernel
theorem dX6_marksCounted_34 : decode cX6_marksCounted 34 = .ok (.iinc 2 1, 3) := by decide +kernel
theorem dX6_marksCounted_37 : decode cX6_marksCounted 37 = .ok (.goto (-33), 3) := by decide +kernel
theorem dX6_marksCounted_40 : decode cX6_marksCounted 40 = .ok (.iload_n 1, 1) := by decide +kernel
theorem dX6_marksCounted_41 : decode cX6_marksCounted 41 = .ok (.ireturn, 1) := by decide +kernel
theorem dX6_sumCounted_0 : decode cX6_sumCounted 0 = .ok (.iconst 0, 1) := by decide +kernel
theorem dX6_sumCounted_1 : decode cX6_sumCounted 1 = .ok (.istore_n 1, 1) := by decide +kernel
theorem dX6_sumCounted_2 : decode cX6_sumCounted 2 = .ok (.iconst 0, 1) := by decide +kernel
theorem dX6_sumCounted_3 : decode cX6_sumCounted 3 = .ok (.istore_n 2, 1) := by decide +kernel
theorem dX6_sumCounted_4 : decode cX6_sumCounted 4 = .ok (.iload_n 2, 1) := by decide +kernel
theorem dX6_sumCounted_5 : decode cX6_sumCounted 5 = .ok (.aload_n 0, 1) := by decide +kernel
theorem dX6_sumCounted_6 : decode cX6_sumCounted 6 = .ok (.getfield 23, 3) := by decide +kernel
theorem dX6_sumCounted_9 : decode cX6_sumCounted 9 = .ok (.arraylength, 1) := by decide +kernel
theorem dX6_sumCounted_10 : decode cX6_sumCounted 10 = .ok (.if_icmp .ge 30, 3) := by decide +kernel
theorem dX6_sumCounted_13 : decode cX6_sumCounted 13 = .ok (.aload_n 0, 1) := by decide +kernel
theorem dX6_sumCounted_14 : decode cX6_sumCounted 14 = .ok (.getfield 23, 3) := by decide +kernel
theorem dX6_sumCounted_17 : decode cX6_sumCounted 17 = .ok (.iload_n 2, 1) := by decide +kernel
theorem dX6_sumCounted_18 : decode cX6_sumCounted 18 = .ok (.aaload, 1) := by decide +kernel
theorem dX6_sumCounted_19 : decode cX6_sumCounted 19 = .ok (.astore_n 3, 1) := by decide +kernel
theorem dX6_sumCounted_20 : decode cX6_sumCounted 20 = .ok (.aload_n 3, 1) := by decide +kernel
theorem dX6_sumCounted_21 : decode cX6_sumCounted 21 = .ok (.ifnull 13, 3) := by decide +kernel
theorem dX6_sumCounted_24 : decode cX6_sumCounted 24 = .ok (.iload_n 1, 1) := by decide +kernel
theorem dX6_sumCounted_25 : decode cX6_sumCounted 25 = .ok (.aload_n 3, 1) := by decide +kernel
theorem dX6_sumCounted_26 : decode cX6_sumCounted 26 = .ok (.getfield 233, 3) := by decide +kernel
theorem dX6_sumCounted_29 : decode cX6_sumCounted 29 = .ok (.invokestatic 325, 3) := by decide +kernel
theorem dX6_sumCounted_32 : decode cX6_sumCounted 32 = .ok (.iadd, 1) := by decide +kernel
theorem dX6_sumCounted_33 : decode cX6_sumCounted 33 = .ok (.istore_n 1, 1) := by decide +kernel
theorem dX6_sumCounted_34 : decode cX6_sumCounted 34 = .ok (.iinc 2 1, 3) := by decide +kernel
theorem dX6_sumCounted_37 : decode cX6_sumCounted 37 = .ok (.goto (-33), 3) := by decide +kernel
theorem dX6_sumCounted_40 : decode cX6_sumCounted 40 = .ok (.iload_n 1, 1) := by decide +kernel
theorem dX6_sumCounted_41 : decode cX6_sumCounted 41 = .ok (.ireturn, 1) := by decide +kernel
theorem dX6_countOf_0 : decode cX6_countOf 0 = .ok (.iconst 0, 1) := by decide +kernel
theorem dX6_countOf_1 : decode cX6_countOf 1 = .ok (.istore_n 1, 1) := by decide +kernel
theorem dX6_countOf_2 : decode cX6_countOf 2 = .ok (.aload_n 0, 1) := by decide +kernel
theorem dX6_countOf_3 : decode cX6_countOf 3 = .ok (.astore_n 2, 1) := by decide +kernel
theorem dX6_countOf_4 : decode cX6_countOf 4 = .ok (.aload_n 2, 1) := by decide +kernel
theorem dX6_countOf_5 : decode cX6_countOf 5 = .ok (.arraylength, 1) := by decide +kernel
theorem dX6_countOf_6 : decode cX6_countOf 6 = .ok (.istore_n 3, 1) := by decide +kernel
theorem dX6_countOf_7 : decode cX6_countOf 7 = .ok (.iconst 0, 1) := by decide +kernel
theorem dX6_countOf_8 : decode cX6_countOf 8 = .ok (.istore 4, 2) := by decide +kernel
theorem dX6_countOf_10 : decode cX6_countOf 10 = .ok (.iload 4, 2) := by decide +kernel
theorem dX6_countOf_12 : decode cX6_countOf 12 = .ok (.iload_n 3, 1) := by decide +kernel
theorem dX6_countOf_13 : decode cX6_countOf 13 = .ok (.if_icmp .ge 24, 3) := by decide +kernel
theorem dX6_countOf_16 : decode cX6_countOf 16 = .ok (.aload_n 2, 1) := by decide +kernel
theorem dX6_countOf_17 : decode cX6_countOf 17 = .ok (.iload 4, 2) := by decide +kernel
theorem dX6_countOf_19 : decode cX6_countOf 19 = .ok (.iaload, 1) := by decide +kernel
theorem dX6_countOf_20 : decode cX6_countOf 20 = .ok (.istore 5, 2) := by decide +kernel
theorem dX6_countOf_22 : decode cX6_countOf 22 = .ok (.iload 5, 2) := by decide +kernel
theorem dX6_countOf_24 : decode cX6_countOf 24 = .ok (.iconst (-1), 1) := by decide +kernel
theorem dX6_countOf_25 : decode cX6_countOf 25 = .ok (.if_icmp .eq 6, 3) := by decide +kernel
theorem dX6_countOf_28 : decode cX6_countOf 28 = .ok (.iinc 1 1, 3) := by decide +kernel
theorem dX6_countOf_31 : decode cX6_countOf 31 = .ok (.iinc 4 1, 3) := by decide +kernel
theorem dX6_countOf_34 : decode cX6_countOf 34 = .ok (.goto (-24), 3) := by decide +kernel
theorem dX6_countOf_37 : decode cX6_countOf 37 = .ok (.iload_n 1, 1) := by decide +kernel
theorem dX6_countOf_38 : decode cX6_countOf 38 = .ok (.ireturn, 1) := by decide +kernel
theorem dX6_sumOf_0 : decode cX6_sumOf 0 = .ok (.iconst 0, 1) := by decide +kernel
theorem dX6_sumOf_1 : decode cX6_sumOf 1 = .ok (.istore_n 1, 1) := by decide +kernel
theorem dX6_sumOf_2 : decode cX6_sumOf 2 = .ok (.aload_n 0, 1) := by decide +kernel
theorem dX6_sumOf_3 : decode cX6_sumOf 3 = .ok (.astore_n 2, 1) := by decide +kernel
theorem dX6_sumOf_4 : decode cX6_sumOf 4 = .ok (.aload_n 2, 1) := by decide +kernel
theorem dX6_sumOf_5 : decode cX6_sumOf 5 = .ok (.arraylength, 1) := by decide +kernel
theorem dX6_sumOf_6 : decode cX6_sumOf 6 = .ok (.istore_n 3, 1) := by decide +kernel
theorem dX6_sumOf_7 : decode cX6_sumOf 7 = .ok (.iconst 0, 1) := by decide +kernel
theorem dX6_sumOf_8 : decode cX6_sumOf 8 = .ok (.istore 4, 2) := by decide +kernel
theorem dX6_sumOf_10 : decode cX6_sumOf 10 = .ok (.iload 4, 2) := by decide +kernel
theorem dX6_sumOf_12 : decode cX6_sumOf 12 = .ok (.iload_n 3, 1) := by decide +kernel
theorem dX6_sumOf_13 : decode cX6_sumOf 13 = .ok (.if_icmp .ge 26, 3) := by decide +kernel
theorem dX6_sumOf_16 : decode cX6_sumOf 16 = .ok (.aload_n 2, 1) := by decide +kernel
theorem dX6_sumOf_17 : decode cX6_sumOf 17 = .ok (.iload 4, 2) := by decide +kernel
theorem dX6_sumOf_19 : decode cX6_sumOf 19 = .ok (.iaload, 1) := by decide +kernel
theorem dX6_sumOf_20 : decode cX6_sumOf 20 = .ok (.istore 5, 2) := by decide +kernel
theorem dX6_sumOf_22 : decode cX6_sumOf 22 = .ok (.iload 5, 2) := by decide +kernel
theorem dX6_sumOf_24 : decode cX6_sumOf 24 = .ok (.iconst (-1), 1) := by decide +kernel
theorem dX6_sumOf_25 : decode cX6_sumOf 25 = .ok (.if_icmp .eq 8, 3) := by decide +kernel
theorem dX6_sumOf_28 : decode cX6_sumOf 28 = .ok (.iload_n 1, 1) := by decide +kernel
theorem dX6_sumOf_29 : decode cX6_sumOf 29 = .ok (.iload 5, 2) := by decide +kernel
theorem dX6_sumOf_31 : decode cX6_sumOf 31 = .ok (.iadd, 1) := by decide +kernel
theorem dX6_sumOf_32 : decode cX6_sumOf 32 = .ok (.istore_n 1, 1) := by decide +kernel
theorem dX6_sumOf_33 : decode cX6_sumOf 33 = .ok (.iinc 4 1, 3) := by decide +kernel
theorem dX6_sumOf_36 : decode cX6_sumOf 36 = .ok (.goto (-26), 3) := by decide +kernel
theorem dX6_sumOf_39 : decode cX6_sumOf 39 = .ok (.iload_n 1, 1) := by decide +kernel
theorem dX6_sumOf_40 : decode cX6_sumOf 40 = .ok (.ireturn, 1) := by decide +kernel
theorem dX6_scoreIn_0 : decode cX6_scoreIn 0 = .ok (.aload_n 0, 1) := by decide +kernel
theorem dX6_scoreIn_1 : decode cX6_scoreIn 1 = .ok (.iload_n 1, 1) := by decide +kernel
theorem dX6_scoreIn_2 : decode cX6_scoreIn 2 = .ok (.iload_n 2, 1) := by decide +kernel
theorem dX6_scoreIn_3 : decode cX6_scoreIn 3 = .ok (.invokevirtual 208, 3) := by decide +kernel
theorem dX6_scoreIn_6 : decode cX6_scoreIn 6 = .ok (.astore_n 3, 1) := by decide +kernel
theorem dX6_scoreIn_7 : decode cX6_scoreIn 7 = .ok (.aload_n 3, 1) := by decide +kernel
theorem dX6_scoreIn_8 : decode cX6_scoreIn 8 = .ok (.ifnonnull 7, 3) := by decide +kernel
theorem dX6_scoreIn_11 : decode cX6_scoreIn 11 = .ok (.iconst 0, 1) := by decide +kernel
theorem dX6_scoreIn_12 : decode cX6_scoreIn 12 = .ok (.goto 7, 3) := by decide +kernel
theorem dX6_scoreIn_15 : decode cX6_scoreIn 15 = .ok (.aload_n 3, 1) := by decide +kernel
theorem dX6_scoreIn_16 : decode cX6_scoreIn 16 = .ok (.invokevirtual 246, 3) := by decide +kernel
theorem dX6_scoreIn_19 : decode cX6_scoreIn 19 = .ok (.ireturn, 1) := by decide +kernel
theorem dX6_openScore_0 : decode cX6_openScore 0 = .ok (.iconst 0, 1) := by decide +kernel
theorem dX6_openScore_1 : decode cX6_openScore 1 = .ok (.istore_n 2, 1) := by decide +kernel
theorem dX6_openScore_2 : decode cX6_openScore 2 = .ok (.iconst 0, 1) := by decide +kernel
theorem dX6_openScore_3 : decode cX6_openScore 3 = .ok (.istore_n 3, 1) := by decide +kernel
theorem dX6_openScore_4 : decode cX6_openScore 4 = .ok (.iload_n 3, 1) := by decide +kernel
theorem dX6_openScore_5 : decode cX6_openScore 5 = .ok (.iconst 3, 1) := by decide +kernel
theorem dX6_openScore_6 : decode cX6_openScore 6 = .ok (.if_icmp .ge 18, 3) := by decide +kernel
theorem dX6_openScore_9 : decode cX6_openScore 9 = .ok (.iload_n 2, 1) := by decide +kernel
theorem dX6_openScore_10 : decode cX6_openScore 10 = .ok (.aload_n 0, 1) := by decide +kernel
theorem dX6_openScore_11 : decode cX6_openScore 11 = .ok (.iload_n 3, 1) := by decide +kernel
theorem dX6_openScore_12 : decode cX6_openScore 12 = .ok (.iload_n 1, 1) := by decide +kernel
theorem dX6_openScore_13 : decode cX6_openScore 13 = .ok (.invokevirtual 328, 3) := by decide +kernel
theorem dX6_openScore_16 : decode cX6_openScore 16 = .ok (.iadd, 1) := by decide +kernel
theorem dX6_openScore_17 : decode cX6_openScore 17 = .ok (.istore_n 2, 1) := by decide +kernel
theorem dX6_openScore_18 : decode cX6_openScore 18 = .ok (.iinc 3 1, 3) := by decide +kernel
theorem dX6_openScore_21 : decode cX6_openScore 21 = .ok (.goto (-17), 3) := by decide +kernel
theorem dX6_openScore_24 : decode cX6_openScore 24 = .ok (.iload_n 2, 1) := by decide +kernel
theorem dX6_openScore_25 : decode cX6_openScore 25 = .ok (.ireturn, 1) := by decide +kernel
theorem dX6_fallingMarksIn_0 : decode cX6_fallingMarksIn 0 = .ok (.aload_n 0, 1) := by decide +kernel
theorem dX6_fallingMarksIn_1 : decode cX6_fallingMarksIn 1 = .ok (.iload_n 1, 1) := by decide +kernel
theorem dX6_fallingMarksIn_2 : decode cX6_fallingMarksIn 2 = .ok (.iload_n 2, 1) := by decide +kernel
theorem dX6_fallingMarksIn_3 : decode cX6_fallingMarksIn 3 = .ok (.invokevirtual 208, 3) := by decide +kernel
theorem dX6_fallingMarksIn_6 : decode cX6_fallingMarksIn 6 = .ok (.astore_n 3, 1) := by decide +kernel
theorem dX6_fallingMarksIn_7 : decode cX6_fallingMarksIn 7 = .ok (.aload_n 3, 1) := by decide +kernel
theorem dX6_fallingMarksIn_8 : decode cX6_fallingMarksIn 8 = .ok (.ifnonnull 7, 3) := by decide +kernel
theorem dX6_fallingMarksIn_11 : decode cX6_fallingMarksIn 11 = .ok (.lconst 0, 1) := by decide +kernel
theorem dX6_fallingMarksIn_12 : decode cX6_fallingMarksIn 12 = .ok (.goto 7, 3) := by decide +kernel
theorem dX6_fallingMarksIn_15 : decode cX6_fallingMarksIn 15 = .ok (.aload_n 3, 1) := by decide +kernel
theorem dX6_fallingMarksIn_16 : decode cX6_fallingMarksIn 16 = .ok (.invokevirtual 332, 3) := by decide +kernel
theorem dX6_fallingMarksIn_19 : decode cX6_fallingMarksIn 19 = .ok (.lreturn, 1) := by decide +kernel
theorem dX6_isAhead_0 : decode cX6_isAhead 0 = .ok (.aload_n 0, 1) := by decide +kernel
theorem dX6_isAhead_1 : decode cX6_isAhead 1 = .ok (.iload_n 1, 1) := by decide +kernel
theorem dX6_isAhead_2 : decode cX6_isAhead 2 = .ok (.invokevirtual 255, 3) := by decide +kernel
theorem dX6_isAhead_5 : decode cX6_isAhead 5 = .ok (.aload_n 0, 1) := by decide +kernel
theorem dX6_isAhead_6 : decode cX6_isAhead 6 = .ok (.iload_n 2, 1) := by decide +kernel
theorem dX6_isAhead_7 : decode cX6_isAhead 7 = .ok (.invokevirtual 255, 3) := by decide +kernel
theorem dX6_isAhead_10 : decode cX6_isAhead 10 = .ok (.isub, 1) := by decide +kernel
theorem dX6_isAhead_11 : decode cX6_isAhead 11 = .ok (.istore_n 3, 1) := by decide +kernel
theorem dX6_isAhead_12 : decode cX6_isAhead 12 = .ok (.iload_n 3, 1) := by decide +kernel
theorem dX6_isAhead_13 : decode cX6_isAhead 13 = .ok (.ifCond .eq 13, 3) := by decide +kernel
theorem dX6_isAhead_16 : decode cX6_isAhead 16 = .ok (.iload_n 3, 1) := by decide +kernel
theorem dX6_isAhead_17 : decode cX6_isAhead 17 = .ok (.ifCond .le 7, 3) := by decide +kernel
theorem dX6_isAhead_20 : decode cX6_isAhead 20 = .ok (.iconst 1, 1) := by decide +kernel
theorem dX6_isAhead_21 : decode cX6_isAhead 21 = .ok (.goto 4, 3) := by decide +kernel
theorem dX6_isAhead_24 : decode cX6_isAhead 24 = .ok (.iconst 0, 1) := by decide +kernel
theorem dX6_isAhead_25 : decode cX6_isAhead 25 = .ok (.ireturn, 1) := by decide +kernel
theorem dX6_isAhead_26 : decode cX6_isAhead 26 = .ok (.aload_n 0, 1) := by decide +kernel
theorem dX6_isAhead_27 : decode cX6_isAhead 27 = .ok (.iconst 3, 1) := by decide +kernel
theorem dX6_isAhead_28 : decode cX6_isAhead 28 = .ok (.iload_n 1, 1) := by decide +kernel
theorem dX6_isAhead_29 : decode cX6_isAhead 29 = .ok (.invokevirtual 328, 3) := by decide +kernel
theorem dX6_isAhead_32 : decode cX6_isAhead 32 = .ok (.aload_n 0, 1) := by decide +kernel
theorem dX6_isAhead_33 : decode cX6_isAhead 33 = .ok (.iconst 3, 1) := by decide +kernel
theorem dX6_isAhead_34 : decode cX6_isAhead 34 = .ok (.iload_n 2, 1) := by decide +kernel
theorem dX6_isAhead_35 : decode cX6_isAhead 35 = .ok (.invokevirtual 328, 3) := by decide +kernel
theorem dX6_isAhead_38 : decode cX6_isAhead 38 = .ok (.isub, 1) := by decide +kernel
theorem dX6_isAhead_39 : decode cX6_isAhead 39 = .ok (.istore 4, 2) := by decide +kernel
theorem dX6_isAhead_41 : decode cX6_isAhead 41 = .ok (.iload 4, 2) := by decide +kernel
theorem dX6_isAhead_43 : decode cX6_isAhead 43 = .ok (.ifCond .eq 14, 3) := by decide +kernel
theorem dX6_isAhead_46 : decode cX6_isAhead 46 = .ok (.iload 4, 2) := by decide +kernel
theorem dX6_isAhead_48 : decode cX6_isAhead 48 = .ok (.ifCond .le 7, 3) := by decide +kernel
theorem dX6_isAhead_51 : decode cX6_isAhead 51 = .ok (.iconst 1, 1) := by decide +kernel
theorem dX6_isAhead_52 : decode cX6_isAhead 52 = .ok (.goto 4, 3) := by decide +kernel
theorem dX6_isAhead_55 : decode cX6_isAhead 55 = .ok (.iconst 0, 1) := by decide +kernel
theorem dX6_isAhead_56 : decode cX6_isAhead 56 = .ok (.ireturn, 1) := by decide +kernel
theorem dX6_isAhead_57 : decode cX6_isAhead 57 = .ok (.iconst 0, 1) := by decide +kernel
theorem dX6_isAhead_58 : decode cX6_isAhead 58 = .ok (.istore 5, 2) := by decide +kernel
theorem dX6_isAhead_60 : decode cX6_isAhead 60 = .ok (.iload 5, 2) := by decide +kernel
theorem dX6_isAhead_62 : decode cX6_isAhead 62 = .ok (.iconst 3, 1) := by decide +kernel
theorem dX6_isAhead_63 : decode cX6_isAhead 63 = .ok (.if_icmp .ge 49, 3) := by decide +kernel
theorem dX6_isAhead_66 : decode cX6_isAhead 66 = .ok (.aload_n 0, 1) := by decide +kernel
theorem dX6_isAhead_67 : decode cX6_isAhead 67 = .ok (.iload 5, 2) := by decide +kernel
theorem dX6_isAhead_69 : decode cX6_isAhead 69 = .ok (.iload_n 1, 1) := by decide +kernel
theorem dX6_isAhead_70 : decode cX6_isAhead 70 = .ok (.invokevirtual 335, 3) := by decide +kernel
theorem dX6_isAhead_73 : decode cX6_isAhead 73 = .ok (.lstore 6, 2) := by decide +kernel
theorem dX6_isAhead_75 : decode cX6_isAhead 75 = .ok (.aload_n 0, 1) := by decide +kernel
theorem dX6_isAhead_76 : decode cX6_isAhead 76 = .ok (.iload 5, 2) := by decide +kernel
theorem dX6_isAhead_78 : decode cX6_isAhead 78 = .ok (.iload_n 2, 1) := by decide +kernel
theorem dX6_isAhead_79 : decode cX6_isAhead 79 = .ok (.invokevirtual 335, 3) := by decide +kernel
theorem dX6_isAhead_82 : decode cX6_isAhead 82 = .ok (.lstore 8, 2) := by decide +kernel
theorem dX6_isAhead_84 : decode cX6_isAhead 84 = .ok (.lload 6, 2) := by decide +kernel
theorem dX6_isAhead_86 : decode cX6_isAhead 86 = .ok (.lload 8, 2) := by decide +kernel
theorem dX6_isAhead_88 : decode cX6_isAhead 88 = .ok (.lcmp, 1) := by decide +kernel
theorem dX6_isAhead_89 : decode cX6_isAhead 89 = .ok (.ifCond .eq 17, 3) := by decide +kernel
theorem dX6_isAhead_92 : decode cX6_isAhead 92 = .ok (.lload 6, 2) := by decide +kernel
theorem dX6_isAhead_94 : decode cX6_isAhead 94 = .ok (.lload 8, 2) := by decide +kernel
theorem dX6_isAhead_96 : decode cX6_isAhead 96 = .ok (.lcmp, 1) := by decide +kernel
theorem dX6_isAhead_97 : decode cX6_isAhead 97 = .ok (.ifCond .le 7, 3) := by decide +kernel
theorem dX6_isAhead_100 : decode cX6_isAhead 100 = .ok (.iconst 1, 1) := by decide +kernel
theorem dX6_isAhead_101 : decode cX6_isAhead 101 = .ok (.goto 4, 3) := by decide +kernel
theorem dX6_isAhead_104 : decode cX6_isAhead 104 = .ok (.iconst 0, 1) := by decide +kernel
theorem dX6_isAhead_105 : decode cX6_isAhead 105 = .ok (.ireturn, 1) := by decide +kernel
theorem dX6_isAhead_106 : decode cX6_isAhead 106 = .ok (.iinc 5 1, 3) := by decide +kernel
theorem dX6_isAhead_109 : decode cX6_isAhead 109 = .ok (.goto (-49), 3) := by decide +kernel
theorem dX6_isAhead_112 : decode cX6_isAhead 112 = .ok (.iload_n 1, 1) := by decide +kernel
theorem dX6_isAhead_113 : decode cX6_isAhead 113 = .ok (.iload_n 2, 1) := by decide +kernel
theorem dX6_isAhead_114 : decode cX6_isAhead 114 = .ok (.if_icmp .ge 7, 3) := by decide +kernel
theorem dX6_isAhead_117 : decode cX6_isAhead 117 = .ok (.iconst 1, 1) := by decide +kernel
theorem dX6_isAhead_118 : decode cX6_isAhead 118 = .ok (.goto 4, 3) := by decide +kernel
theorem dX6_isAhead_121 : decode cX6_isAhead 121 = .ok (.iconst 0, 1) := by decide +kernel
theorem dX6_isAhead_122 : decode cX6_isAhead 122 = .ok (.ireturn, 1) := by decide +kernel
theorem dX6_rankOf_0 : decode cX6_rankOf 0 = .ok (.iconst 0, 1) := by decide +kernel
theorem dX6_rankOf_1 : decode cX6_rankOf 1 = .ok (.istore_n 2, 1) := by decide +kernel
theorem dX6_rankOf_2 : decode cX6_rankOf 2 = .ok (.iconst 0, 1) := by decide +kernel
theorem dX6_rankOf_3 : decode cX6_rankOf 3 = .ok (.istore_n 3, 1) := by decide +kernel
theorem dX6_rankOf_4 : decode cX6_rankOf 4 = .ok (.iload_n 3, 1) := by decide +kernel
theorem dX6_rankOf_5 : decode cX6_rankOf 5 = .ok (.aload_n 0, 1) := by decide +kernel
theorem dX6_rankOf_6 : decode cX6_rankOf 6 = .ok (.getfield 44, 3) := by decide +kernel
theorem dX6_rankOf_9 : decode cX6_rankOf 9 = .ok (.if_icmp .ge 26, 3) := by decide +kernel
theorem dX6_rankOf_12 : decode cX6_rankOf 12 = .ok (.iload_n 3, 1) := by decide +kernel
theorem dX6_rankOf_13 : decode cX6_rankOf 13 = .ok (.iload_n 1, 1) := by decide +kernel
theorem dX6_rankOf_14 : decode cX6_rankOf 14 = .ok (.if_icmp .eq 15, 3) := by decide +kernel
theorem dX6_rankOf_17 : decode cX6_rankOf 17 = .ok (.aload_n 0, 1) := by decide +kernel
theorem dX6_rankOf_18 : decode cX6_rankOf 18 = .ok (.iload_n 3, 1) := by decide +kernel
theorem dX6_rankOf_19 : decode cX6_rankOf 19 = .ok (.iload_n 1, 1) := by decide +kernel
theorem dX6_rankOf_20 : decode cX6_rankOf 20 = .ok (.invokevirtual 339, 3) := by decide +kernel
theorem dX6_rankOf_23 : decode cX6_rankOf 23 = .ok (.ifCond .eq 6, 3) := by decide +kernel
theorem dX6_rankOf_26 : decode cX6_rankOf 26 = .ok (.iinc 2 1, 3) := by decide +kernel
theorem dX6_rankOf_29 : decode cX6_rankOf 29 = .ok (.iinc 3 1, 3) := by decide +kernel
theorem dX6_rankOf_32 : decode cX6_rankOf 32 = .ok (.goto (-28), 3) := by decide +kernel
theorem dX6_rankOf_35 : decode cX6_rankOf 35 = .ok (.iload_n 2, 1) := by decide +kernel
theorem dX6_rankOf_36 : decode cX6_rankOf 36 = .ok (.ireturn, 1) := by decide +kernel
theorem dX6_pieceWithRank_0 : decode cX6_pieceWithRank 0 = .ok (.iconst 0, 1) := by decide +kernel
theorem dX6_pieceWithRank_1 : decode cX6_pieceWithRank 1 = .ok (.istore_n 2, 1) := by decide +kernel
theorem dX6_pieceWithRank_2 : decode cX6_pieceWithRank 2 = .ok (.iload_n 2, 1) := by decide +kernel
theorem dX6_pieceWithRank_3 : decode cX6_pieceWithRank 3 = .ok (.aload_n 0, 1) := by decide +kernel
theorem dX6_pieceWithRank_4 : decode cX6_pieceWithRank 4 = .ok (.getfield 44, 3) := by decide +kernel
theorem dX6_pieceWithRank_7 : decode cX6_pieceWithRank 7 = .ok (.if_icmp .ge 20, 3) := by decide +kernel
theorem dX6_pieceWithRank_10 : decode cX6_pieceWithRank 10 = .ok (.aload_n 0, 1) := by decide +kernel
theorem dX6_pieceWithRank_11 : decode cX6_pieceWithRank 11 = .ok (.iload_n 2, 1) := by decide +kernel
theorem dX6_pieceWithRank_12 : decode cX6_pieceWithRank 12 = .ok (.invokevirtual 343, 3) := by decide +kernel
theorem dX6_pieceWithRank_15 : decode cX6_pieceWithRank 15 = .ok (.iload_n 1, 1) := by decide +kernel
theorem dX6_pieceWithRank_16 : decode cX6_pieceWithRank 16 = .ok (.if_icmp .ne 5, 3) := by decide +kernel
theorem dX6_pieceWithRank_19 : decode cX6_pieceWithRank 19 = .ok (.iload_n 2, 1) := by decide +kernel
theorem dX6_pieceWithRank_20 : decode cX6_pieceWithRank 20 = .ok (.ireturn, 1) := by decide +kernel
theorem dX6_pieceWithRank_21 : decode cX6_pieceWithRank 21 = .ok (.iinc 2 1, 3) := by decide +kernel
theorem dX6_pieceWithRank_24 : decode cX6_pieceWithRank 24 = .ok (.goto (-22), 3) := by decide +kernel
theorem dX6_pieceWithRank_27 : decode cX6_pieceWithRank 27 = .ok (.iconst (-1), 1) := by decide +kernel
theorem dX6_pieceWithRank_28 : decode cX6_pieceWithRank 28 = .ok (.ireturn, 1) := by decide +kernel
theorem dX6_lastHeard_0 : decode cX6_lastHeard 0 = .ok (.iconst 3, 1) := by decide +kernel
theorem dX6_lastHeard_1 : decode cX6_lastHeard 1 = .ok (.istore_n 2, 1) := by decide +kernel
theorem dX6_lastHeard_2 : decode cX6_lastHeard 2 = .ok (.iload_n 2, 1) := by decide +kernel
theorem dX6_lastHeard_3 : decode cX6_lastHeard 3 = .ok (.ifCond .lt 33, 3) := by decide +kernel
theorem dX6_lastHeard_6 : decode cX6_lastHeard 6 = .ok (.aload_n 0, 1) := by decide +kernel
theorem dX6_lastHeard_7 : decode cX6_lastHeard 7 = .ok (.iload_n 2, 1) := by decide +kernel
theorem dX6_lastHeard_8 : decode cX6_lastHeard 8 = .ok (.iload_n 1, 1) := by decide +kernel
theorem dX6_lastHeard_9 : decode cX6_lastHeard 9 = .ok (.invokevirtual 208, 3) := by decide +kernel
theorem dX6_lastHeard_12 : decode cX6_lastHeard 12 = .ok (.astore_n 3, 1) := by decide +kernel
theorem dX6_lastHeard_13 : decode cX6_lastHeard 13 = .ok (.aload_n 3, 1) := by decide +kernel
theorem dX6_lastHeard_14 : decode cX6_lastHeard 14 = .ok (.ifnull 16, 3) := by decide +kernel
theorem dX6_lastHeard_17 : decode cX6_lastHeard 17 = .ok (.aload_n 3, 1) := by decide +kernel
theorem dX6_lastHeard_18 : decode cX6_lastHeard 18 = .ok (.getfield 214, 3) := by decide +kernel
theorem dX6_lastHeard_21 : decode cX6_lastHeard 21 = .ok (.iconst (-1), 1) := by decide +kernel
theorem dX6_lastHeard_22 : decode cX6_lastHeard 22 = .ok (.if_icmp .eq 8, 3) := by decide +kernel
theorem dX6_lastHeard_25 : decode cX6_lastHeard 25 = .ok (.aload_n 3, 1) := by decide +kernel
theorem dX6_lastHeard_26 : decode cX6_lastHeard 26 = .ok (.getfield 214, 3) := by decide +kernel
theorem dX6_lastHeard_29 : decode cX6_lastHeard 29 = .ok (.ireturn, 1) := by decide +kernel
theorem dX6_lastHeard_30 : decode cX6_lastHeard 30 = .ok (.iinc 2 (-1), 3) := by decide +kernel
theorem dX6_lastHeard_33 : decode cX6_lastHeard 33 = .ok (.goto (-31), 3) := by decide +kernel
theorem dX6_lastHeard_36 : decode cX6_lastHeard 36 = .ok (.iconst (-1), 1) := by decide +kernel
theorem dX6_lastHeard_37 : decode cX6_lastHeard 37 = .ok (.ireturn, 1) := by decide +kernel
theorem dX6_prizesAreShared_0 : decode cX6_prizesAreShared 0 = .ok (.iconst 0, 1) := by decide +kernel
theorem dX6_prizesAreShared_1 : decode cX6_prizesAreShared 1 = .ok (.istore_n 1, 1) := by decide +kernel
theorem dX6_prizesAreShared_2 : decode cX6_prizesAreShared 2 = .ok (.iload_n 1, 1) := by decide +kernel
theorem dX6_prizesAreShared_3 : decode cX6_prizesAreShared 3 = .ok (.aload_n 0, 1) := by decide +kernel
theorem dX6_prizesAreShared_4 : decode cX6_prizesAreShared 4 = .ok (.getfield 265, 3) := by decide +kernel
theorem dX6_prizesAreShared_7 : decode cX6_prizesAreShared 7 = .ok (.if_icmp .ge 35, 3) := by decide +kernel
theorem dX6_prizesAreShared_10 : decode cX6_prizesAreShared 10 = .ok (.aload_n 0, 1) := by decide +kernel
theorem dX6_prizesAreShared_11 : decode cX6_prizesAreShared 11 = .ok (.iload_n 1, 1) := by decide +kernel
theorem dX6_prizesAreShared_12 : decode cX6_prizesAreShared 12 = .ok (.invokevirtual 274, 3) := by decide +kernel
theorem dX6_prizesAreShared_15 : decode cX6_prizesAreShared 15 = .ok (.astore_n 2, 1) := by decide +kernel
theorem dX6_prizesAreShared_16 : decode cX6_prizesAreShared 16 = .ok (.aload_n 2, 1) := by decide +kernel
theorem dX6_prizesAreShared_17 : decode cX6_prizesAreShared 17 = .ok (.ifnull 19, 3) := by decide +kernel
theorem dX6_prizesAreShared_20 : decode cX6_prizesAreShared 20 = .ok (.aload_n 2, 1) := by decide +kernel
theorem dX6_prizesAreShared_21 : decode cX6_prizesAreShared 21 = .ok (.getfield 283, 3) := by decide +kernel
theorem dX6_prizesAreShared_24 : decode cX6_prizesAreShared 24 = .ok (.invokestatic 325, 3) := by decide +kernel
theorem dX6_prizesAreShared_27 : decode cX6_prizesAreShared 27 = .ok (.aload_n 2, 1) := by decide +kernel
theorem dX6_prizesAreShared_28 : decode cX6_prizesAreShared 28 = .ok (.getfield 346, 3) := by decide +kernel
theorem dX6_prizesAreShared_31 : decode cX6_prizesAreShared 31 = .ok (.if_icmp .eq 5, 3) := by decide +kernel
theorem dX6_prizesAreShared_34 : decode cX6_prizesAreShared 34 = .ok (.iconst 0, 1) := by decide +kernel
theorem dX6_prizesAreShared_35 : decode cX6_prizesAreShared 35 = .ok (.ireturn, 1) := by decide +kernel
theorem dX6_prizesAreShared_36 : decode cX6_prizesAreShared 36 = .ok (.iinc 1 1, 3) := by decide +kernel
theorem dX6_prizesAreShared_39 : decode cX6_prizesAreShared 39 = .ok (.goto (-37), 3) := by decide +kernel
theorem dX6_prizesAreShared_42 : decode cX6_prizesAreShared 42 = .ok (.iconst 1, 1) := by decide +kernel
theorem dX6_prizesAreShared_43 : decode cX6_prizesAreShared 43 = .ok (.ireturn, 1) := by decide +kernel
theorem dX6_writtenAreNear_0 : decode cX6_writtenAreNear 0 = .ok (.iconst 0, 1) := by decide +kernel
theorem dX6_writtenAreNear_1 : decode cX6_writtenAreNear 1 = .ok (.istore_n 1, 1) := by decide +kernel
theorem dX6_writtenAreNear_2 : decode cX6_writtenAreNear 2 = .ok (.iload_n 1, 1) := by decide +kernel
theorem dX6_writtenAreNear_3 : decode cX6_writtenAreNear 3 = .ok (.aload_n 0, 1) := by decide +kernel
theorem dX6_writtenAreNear_4 : decode cX6_writtenAreNear 4 = .ok (.getfield 48, 3) := by decide +kernel
theorem dX6_writtenAreNear_7 : decode cX6_writtenAreNear 7 = .ok (.if_icmp .ge 46, 3) := by decide +kernel
theorem dX6_writtenAreNear_10 : decode cX6_writtenAreNear 10 = .ok (.aload_n 0, 1) := by decide +kernel
theorem dX6_writtenAreNear_11 : decode cX6_writtenAreNear 11 = .ok (.iload_n 1, 1) := by decide +kernel
theorem dX6_writtenAreNear_12 : decode cX6_writtenAreNear 12 = .ok (.invokevirtual 82, 3) := by decide +kernel
theorem dX6_writtenAreNear_15 : decode cX6_writtenAreNear 15 = .ok (.astore_n 2, 1) := by decide +kernel
theorem dX6_writtenAreNear_16 : decode cX6_writtenAreNear 16 = .ok (.aload_n 2, 1) := by decide +kernel
theorem dX6_writtenAreNear_17 : decode cX6_writtenAreNear 17 = .ok (.ifnonnull 6, 3) := by decide +kernel
theorem dX6_writtenAreNear_20 : decode cX6_writtenAreNear 20 = .ok (.goto 27, 3) := by decide +kernel
theorem dX6_writtenAreNear_23 : decode cX6_writtenAreNear 23 = .ok (.aload_n 0, 1) := by decide +kernel
theorem dX6_writtenAreNear_24 : decode cX6_writtenAreNear 24 = .ok (.aload_n 2, 1) := by decide +kernel
theorem dX6_writtenAreNear_25 : decode cX6_writtenAreNear 25 = .ok (.getfield 349, 3) := by decide +kernel
theorem dX6_writtenAreNear_28 : decode cX6_writtenAreNear 28 = .ok (.invokevirtual 82, 3) := by decide +kernel
theorem dX6_writtenAreNear_31 : decode cX6_writtenAreNear 31 = .ok (.astore_n 3, 1) := by decide +kernel
theorem dX6_writtenAreNear_32 : decode cX6_writtenAreNear 32 = .ok (.aload_n 3, 1) := by decide +kernel
theorem dX6_writtenAreNear_33 : decode cX6_writtenAreNear 33 = .ok (.ifnull 14, 3) := by decide +kernel
theorem dX6_writtenAreNear_36 : decode cX6_writtenAreNear 36 = .ok (.aload_n 2, 1) := by decide +kernel
theorem dX6_writtenAreNear_37 : decode cX6_writtenAreNear 37 = .ok (.aload_n 3, 1) := by decide +kernel
theorem dX6_writtenAreNear_38 : decode cX6_writtenAreNear 38 = .ok (.invokevirtual 204, 3) := by decide +kernel
theorem dX6_writtenAreNear_41 : decode cX6_writtenAreNear 41 = .ok (.iconst 1, 1) := by decide +kernel
theorem dX6_writtenAreNear_42 : decode cX6_writtenAreNear 42 = .ok (.if_icmp .le 5, 3) := by decide +kernel
theorem dX6_writtenAreNear_45 : decode cX6_writtenAreNear 45 = .ok (.iconst 0, 1) := by decide +kernel
theorem dX6_writtenAreNear_46 : decode cX6_writtenAreNear 46 = .ok (.ireturn, 1) := by decide +kernel
theorem dX6_writtenAreNear_47 : decode cX6_writtenAreNear 47 = .ok (.iinc 1 1, 3) := by decide +kernel
theorem dX6_writtenAreNear_50 : decode cX6_writtenAreNear 50 = .ok (.goto (-48), 3) := by decide +kernel
theorem dX6_writtenAreNear_53 : decode cX6_writtenAreNear 53 = .ok (.iconst 1, 1) := by decide +kernel
theorem dX6_writtenAreNear_54 : decode cX6_writtenAreNear 54 = .ok (.ireturn, 1) := by decide +kernel
theorem dX6_ranksAreOwn_0 : decode cX6_ranksAreOwn 0 = .ok (.iconst 0, 1) := by decide +kernel
theorem dX6_ranksAreOwn_1 : decode cX6_ranksAreOwn 1 = .ok (.istore_n 1, 1) := by decide +kernel
theorem dX6_ranksAreOwn_2 : decode cX6_ranksAreOwn 2 = .ok (.iconst 0, 1) := by decide +kernel
theorem dX6_ranksAreOwn_3 : decode cX6_ranksAreOwn 3 = .ok (.istore_n 2, 1) := by decide +kernel
theorem dX6_ranksAreOwn_4 : decode cX6_ranksAreOwn 4 = .ok (.iload_n 2, 1) := by decide +kernel
theorem dX6_ranksAreOwn_5 : decode cX6_ranksAreOwn 5 = .ok (.aload_n 0, 1) := by decide +kernel
theorem dX6_ranksAreOwn_6 : decode cX6_ranksAreOwn 6 = .ok (.getfield 44, 3) := by decide +kernel
theorem dX6_ranksAreOwn_9 : decode cX6_ranksAreOwn 9 = .ok (.if_icmp .ge 29, 3) := by decide +kernel
theorem dX6_ranksAreOwn_12 : decode cX6_ranksAreOwn 12 = .ok (.iconst 1, 1) := by decide +kernel
theorem dX6_ranksAreOwn_13 : decode cX6_ranksAreOwn 13 = .ok (.aload_n 0, 1) := by decide +kernel
theorem dX6_ranksAreOwn_14 : decode cX6_ranksAreOwn 14 = .ok (.iload_n 2, 1) := by decide +kernel
theorem dX6_ranksAreOwn_15 : decode cX6_ranksAreOwn 15 = .ok (.invokevirtual 343, 3) := by decide +kernel
theorem dX6_ranksAreOwn_18 : decode cX6_ranksAreOwn 18 = .ok (.ishl, 1) := by decide +kernel
theorem dX6_ranksAreOwn_19 : decode cX6_ranksAreOwn 19 = .ok (.istore_n 3, 1) := by decide +kernel
theorem dX6_ranksAreOwn_20 : decode cX6_ranksAreOwn 20 = .ok (.iload_n 1, 1) := by decide +kernel
theorem dX6_ranksAreOwn_21 : decode cX6_ranksAreOwn 21 = .ok (.iload_n 3, 1) := by decide +kernel
theorem dX6_ranksAreOwn_22 : decode cX6_ranksAreOwn 22 = .ok (.iand, 1) := by decide +kernel
theorem dX6_ranksAreOwn_23 : decode cX6_ranksAreOwn 23 = .ok (.ifCond .eq 5, 3) := by decide +kernel
theorem dX6_ranksAreOwn_26 : decode cX6_ranksAreOwn 26 = .ok (.iconst 0, 1) := by decide +kernel
theorem dX6_ranksAreOwn_27 : decode cX6_ranksAreOwn 27 = .ok (.ireturn, 1) := by decide +kernel
theorem dX6_ranksAreOwn_28 : decode cX6_ranksAreOwn 28 = .ok (.iload_n 1, 1) := by decide +kernel
theorem dX6_ranksAreOwn_29 : decode cX6_ranksAreOwn 29 = .ok (.iload_n 3, 1) := by decide +kernel
theorem dX6_ranksAreOwn_30 : decode cX6_ranksAreOwn 30 = .ok (.ior, 1) := by decide +kernel
theorem dX6_ranksAreOwn_31 : decode cX6_ranksAreOwn 31 = .ok (.istore_n 1, 1) := by decide +kernel
theorem dX6_ranksAreOwn_32 : decode cX6_ranksAreOwn 32 = .ok (.iinc 2 1, 3) := by decide +kernel
theorem dX6_ranksAreOwn_35 : decode cX6_ranksAreOwn 35 = .ok (.goto (-31), 3) := by decide +kernel
theorem dX6_ranksAreOwn_38 : decode cX6_ranksAreOwn 38 = .ok (.iconst 1, 1) := by decide +kernel
theorem dX6_ranksAreOwn_39 : decode cX6_ranksAreOwn 39 = .ok (.ireturn, 1) := by decide +kernel
theorem dX6_sheafOf_0 : decode cX6_sheafOf 0 = .ok (.new 179, 3) := by decide +kernel
theorem dX6_sheafOf_3 : decode cX6_sheafOf 3 = .ok (.dup, 1) := by decide +kernel
theorem dX6_sheafOf_4 : decode cX6_sheafOf 4 = .ok (.invokespecial 352, 3) := by decide +kernel
theorem dX6_sheafOf_7 : decode cX6_sheafOf 7 = .ok (.astore_n 1, 1) := by decide +kernel
theorem dX6_sheafOf_8 : decode cX6_sheafOf 8 = .ok (.aload_n 1, 1) := by decide +kernel
theorem dX6_sheafOf_9 : decode cX6_sheafOf 9 = .ok (.aload_n 0, 1) := by decide +kernel
theorem dX6_sheafOf_10 : decode cX6_sheafOf 10 = .ok (.invokevirtual 353, 3) := by decide +kernel
theorem dX6_sheafOf_13 : decode cX6_sheafOf 13 = .ok (.aload_n 1, 1) := by decide +kernel
theorem dX6_sheafOf_14 : decode cX6_sheafOf 14 = .ok (.areturn, 1) := by decide +kernel
theorem dX6_areAlike_0 : decode cX6_areAlike 0 = .ok (.aload_n 0, 1) := by decide +kernel
theorem dX6_areAlike_1 : decode cX6_areAlike 1 = .ok (.aload_n 1, 1) := by decide +kernel
theorem dX6_areAlike_2 : decode cX6_areAlike 2 = .ok (.if_acmp .eq 15, 3) := by decide +kernel
theorem dX6_areAlike_5 : decode cX6_areAlike 5 = .ok (.aload_n 0, 1) := by decide +kernel
theorem dX6_areAlike_6 : decode cX6_areAlike 6 = .ok (.ifnull 15, 3) := by decide +kernel
theorem dX6_areAlike_9 : decode cX6_areAlike 9 = .ok (.aload_n 0, 1) := by decide +kernel
theorem dX6_areAlike_10 : decode cX6_areAlike 10 = .ok (.aload_n 1, 1) := by decide +kernel
theorem dX6_areAlike_11 : decode cX6_areAlike 11 = .ok (.invokevirtual 357, 3) := by decide +kernel
theorem dX6_areAlike_14 : decode cX6_areAlike 14 = .ok (.ifCond .eq 7, 3) := by decide +kernel
theorem dX6_areAlike_17 : decode cX6_areAlike 17 = .ok (.iconst 1, 1) := by decide +kernel
theorem dX6_areAlike_18 : decode cX6_areAlike 18 = .ok (.goto 4, 3) := by decide +kernel
theorem dX6_areAlike_21 : decode cX6_areAlike 21 = .ok (.iconst 0, 1) := by decide +kernel
theorem dX6_areAlike_22 : decode cX6_areAlike 22 = .ok (.ireturn, 1) := by decide +kernel
theorem dJ9_min_7cf53_0 : decode cJ9_min_7cf53 0 = .ok (.iload_n 0, 1) := by decide +kernel
theorem dJ9_min_7cf53_1 : decode cJ9_min_7cf53 1 = .ok (.iload_n 1, 1) := by decide +kernel
theorem dJ9_min_7cf53_2 : decode cJ9_min_7cf53 2 = .ok (.if_icmp .gt 7, 3) := by decide +kernel
theorem dJ9_min_7cf53_5 : decode cJ9_min_7cf53 5 = .ok (.iload_n 0, 1) := by decide +kernel
theorem dJ9_min_7cf53_6 : decode cJ9_min_7cf53 6 = .ok (.goto 4, 3) := by decide +kernel
theorem dJ9_min_7cf53_9 : decode cJ9_min_7cf53 9 = .ok (.iload_n 1, 1) := by decide +kernel
theorem dJ9_min_7cf53_10 : decode cJ9_min_7cf53 10 = .ok (.ireturn, 1) := by decide +kernel
theorem dJ7_fill_53178_0 : decode cJ7_fill_53178 0 = .ok (.iconst 0, 1) := by decide +kernel
theorem dJ7_fill_53178_1 : decode cJ7_fill_53178 1 = .ok (.istore_n 2, 1) := by decide +kernel
theorem dJ7_fill_53178_2 : decode cJ7_fill_53178 2 = .ok (.aload_n 0, 1) := by decide +kernel
theorem dJ7_fill_53178_3 : decode cJ7_fill_53178 3 = .ok (.arraylength, 1) := by decide +kernel
theorem dJ7_fill_53178_4 : decode cJ7_fill_53178 4 = .ok (.istore_n 3, 1) := by decide +kernel
theorem dJ7_fill_53178_5 : decode cJ7_fill_53178 5 = .ok (.iload_n 2, 1) := by decide +kernel
theorem dJ7_fill_53178_6 : decode cJ7_fill_53178 6 = .ok (.iload_n 3, 1) := by decide +kernel
theorem dJ7_fill_53178_7 : decode cJ7_fill_53178 7 = .ok (.if_icmp .ge 13, 3) := by decide +kernel
theorem dJ7_fill_53178_10 : decode cJ7_fill_53178 10 = .ok (.aload_n 0, 1) := by decide +kernel
theorem dJ7_fill_53178_11 : decode cJ7_fill_53178 11 = .ok (.iload_n 2, 1) := by decide +kernel
theorem dJ7_fill_53178_12 : decode cJ7_fill_53178 12 = .ok (.iload_n 1, 1) := by decide +kernel
theorem dJ7_fill_53178_13 : decode cJ7_fill_53178 13 = .ok (.iastore, 1) := by decide +kernel
theorem dJ7_fill_53178_14 : decode cJ7_fill_53178 14 = .ok (.iinc 2 1, 3) := by decide +kernel
theorem dJ7_fill_53178_17 : decode cJ7_fill_53178 17 = .ok (.goto (-12), 3) := by decide +kernel
theorem dJ7_fill_53178_20 : decode cJ7_fill_53178 20 = .ok (.return_, 1) := by decide +kernel
theorem dJ7_copyOf_59c91_0 : decode cJ7_copyOf_59c91 0 = .ok (.iload_n 1, 1) := by decide +kernel
theorem dJ7_copyOf_59c91_1 : decode cJ7_copyOf_59c91 1 = .ok (.aload_n 0, 1) := by decide +kernel
theorem dJ7_copyOf_59c91_2 : decode cJ7_copyOf_59c91 2 = .ok (.arraylength, 1) := by decide +kernel
theorem dJ7_copyOf_59c91_3 : decode cJ7_copyOf_59c91 3 = .ok (.if_icmp .ne 11, 3) := by decide +kernel
theorem dJ7_copyOf_59c91_6 : decode cJ7_copyOf_59c91 6 = .ok (.aload_n 0, 1) := by decide +kernel
theorem dJ7_copyOf_59c91_7 : decode cJ7_copyOf_59c91 7 = .ok (.invokevirtual 316, 3) := by decide +kernel
theorem dJ7_copyOf_59c91_10 : decode cJ7_copyOf_59c91 10 = .ok (.checkcast 317, 3) := by decide +kernel
theorem dJ7_copyOf_59c91_13 : decode cJ7_copyOf_59c91 13 = .ok (.areturn, 1) := by decide +kernel
theorem dJ7_copyOf_59c91_14 : decode cJ7_copyOf_59c91 14 = .ok (.iload_n 1, 1) := by decide +kernel
theorem dJ7_copyOf_59c91_15 : decode cJ7_copyOf_59c91 15 = .ok (.newarray .int, 2) := by decide +kernel
theorem dJ7_copyOf_59c91_17 : decode cJ7_copyOf_59c91 17 = .ok (.astore_n 2, 1) := by decide +kernel
theorem dJ7_copyOf_59c91_18 : decode cJ7_copyOf_59c91 18 = .ok (.aload_n 0, 1) := by decide +kernel
theorem dJ7_copyOf_59c91_19 : decode cJ7_copyOf_59c91 19 = .ok (.iconst 0, 1) := by decide +kernel
theorem dJ7_copyOf_59c91_20 : decode cJ7_copyOf_59c91 20 = .ok (.aload_n 2, 1) := by decide +kernel
theorem dJ7_copyOf_59c91_21 : decode cJ7_copyOf_59c91 21 = .ok (.iconst 0, 1) := by decide +kernel
theorem dJ7_copyOf_59c91_22 : decode cJ7_copyOf_59c91 22 = .ok (.aload_n 0, 1) := by decide +kernel
theorem dJ7_copyOf_59c91_23 : decode cJ7_copyOf_59c91 23 = .ok (.arraylength, 1) := by decide +kernel
theorem dJ7_copyOf_59c91_24 : decode cJ7_copyOf_59c91 24 = .ok (.iload_n 1, 1) := by decide +kernel
theorem dJ7_copyOf_59c91_25 : decode cJ7_copyOf_59c91 25 = .ok (.invokestatic 304, 3) := by decide +kernel
theorem dJ7_copyOf_59c91_28 : decode cJ7_copyOf_59c91 28 = .ok (.invokestatic 150, 3) := by decide +kernel
theorem dJ7_copyOf_59c91_31 : decode cJ7_copyOf_59c91 31 = .ok (.aload_n 2, 1) := by decide +kernel
theorem dJ7_copyOf_59c91_32 : decode cJ7_copyOf_59c91 32 = .ok (.areturn, 1) := by decide +kernel
end
section
theorem dX7_init_0 : decode cX7_init 0 = .ok (.aload_n 0, 1) := by decide +kernel
theorem dX7_init_1 : decode cX7_init 1 = .ok (.invokespecial 1, 3) := by decide +kernel
theorem dX7_init_4 : decode cX7_init 4 = .ok (.aload_n 0, 1) := by decide +kernel
theorem dX7_init_5 : decode cX7_init 5 = .ok (.iconst 0, 1) := by decide +kernel
theorem dX7_init_6 : decode cX7_init 6 = .ok (.putfield 7, 3) := by decide +kernel
theorem dX7_init_9 : decode cX7_init 9 = .ok (.aload_n 0, 1) := by decide +kernel
theorem dX7_init_10 : decode cX7_init 10 = .ok (.iconst 0, 1) := by decide +kernel
theorem dX7_init_11 : decode cX7_init 11 = .ok (.putfield 13, 3) := by decide +kernel
theorem dX7_init_14 : decode cX7_init 14 = .ok (.aload_n 0, 1) := by decide +kernel
theorem dX7_init_15 : decode cX7_init 15 = .ok (.iconst 0, 1) := by decide +kernel
theorem dX7_init_16 : decode cX7_init 16 = .ok (.putfield 16, 3) := by decide +kernel
theorem dX7_init_19 : decode cX7_init 19 = .ok (.aload_n 0, 1) := by decide +kernel
theorem dX7_init_20 : decode cX7_init 20 = .ok (.iconst 0, 1) := by decide +kernel
theorem dX7_init_21 : decode cX7_init 21 = .ok (.putfield 19, 3) := by decide +kernel
theorem dX7_init_24 : decode cX7_init 24 = .ok (.aload_n 0, 1) := by decide +kernel
theorem dX7_init_25 : decode cX7_init 25 = .ok (.iconst 0, 1) := by decide +kernel
theorem dX7_init_26 : decode cX7_init 26 = .ok (.putfield 22, 3) := by decide +kernel
theorem dX7_init_29 : decode cX7_init 29 = .ok (.aload_n 0, 1) := by decide +kernel
theorem dX7_init_30 : decode cX7_init 30 = .ok (.bipush 6, 2) := by decide +kernel
theorem dX7_init_32 : decode cX7_init 32 = .ok (.newarray .int, 2) := by decide +kernel
theorem dX7_init_34 : decode cX7_init 34 = .ok (.putfield 25, 3) := by decide +kernel
theorem dX7_init_37 : decode cX7_init 37 = .ok (.aload_n 0, 1) := by decide +kernel
theorem dX7_init_38 : decode cX7_init 38 = .ok (.bipush 6, 2) := by decide +kernel
theorem dX7_init_40 : decode cX7_init 40 = .ok (.newarray .int, 2) := by decide +kernel
theorem dX7_init_42 : decode cX7_init 42 = .ok (.putfield 29, 3) := by decide +kernel
theorem dX7_init_45 : decode cX7_init 45 = .ok (.aload_n 0, 1) := by decide +kernel
theorem dX7_init_46 : decode cX7_init 46 = .ok (.bipush 6, 2) := by decide +kernel
theorem dX7_init_48 : decode cX7_init 48 = .ok (.newarray .int, 2) := by decide +kernel
theorem dX7_init_50 : decode cX7_init 50 = .ok (.putfield 32, 3) := by decide +kernel
theorem dX7_init_53 : decode cX7_init 53 = .ok (.aload_n 0, 1) := by decide +kernel
theorem dX7_init_54 : decode cX7_init 54 = .ok (.bipush 24, 2) := by decide +kernel
theorem dX7_init_56 : decode cX7_init 56 = .ok (.newarray .char, 2) := by decide +kernel
theorem dX7_init_58 : decode cX7_init 58 = .ok (.putfield 35, 3) := by decide +kernel
theorem dX7_init_61 : decode cX7_init 61 = .ok (.aload_n 0, 1) := by decide +kernel
theorem dX7_init_62 : decode cX7_init 62 = .ok (.bipush 40, 2) := by decide +kernel
theorem dX7_init_64 : decode cX7_init 64 = .ok (.newarray .int, 2) := by decide +kernel
theorem dX7_init_66 : decode cX7_init 66 = .ok (.putfield 39, 3) := by decide +kernel
theorem dX7_init_69 : decode cX7_init 69 = .ok (.aload_n 0, 1) := by decide +kernel
theorem dX7_init_70 : decode cX7_init 70 = .ok (.bipush 40, 2) := by decide +kernel
theorem dX7_init_72 : decode cX7_init 72 = .ok (.newarray .int, 2) := by decide +kernel
theorem dX7_init_74 : decode cX7_init 74 = .ok (.putfield 42, 3) := by decide +kernel
theorem dX7_init_77 : decode cX7_init 77 = .ok (.aload_n 0, 1) := by decide +kernel
theorem dX7_init_78 : decode cX7_init 78 = .ok (.bipush 40, 2) := by decide +kernel
theorem dX7_init_80 : decode cX7_init 80 = .ok (.newarray .int, 2) := by decide +kernel
theorem dX7_init_82 : decode cX7_init 82 = .ok (.putfield 45, 3) := by decide +kernel
theorem dX7_init_85 : decode cX7_init 85 = .ok (.aload_n 0, 1) := by decide +kernel
theorem dX7_init_86 : decode cX7_init 86 = .ok (.ldc 48, 2) := by decide +kernel
theorem dX7_init_88 : decode cX7_init 88 = .ok (.newarray .int, 2) := by decide +kernel
theorem dX7_init_90 : decode cX7_init 90 = .ok (.putfield 49, 3) := by decide +kernel
theorem dX7_init_93 : decode cX7_init 93 = .ok (.aload_n 0, 1) := by decide +kernel
theorem dX7_init_94 : decode cX7_init 94 = .ok (.bipush 8, 2) := by decide +kernel
theorem dX7_init_96 : decode cX7_init 96 = .ok (.newarray .int, 2) := by decide +kernel
theorem dX7_init_98 : decode cX7_init 98 = .ok (.putfield 52, 3) := by decide +kernel
theorem dX7_init_101 : decode cX7_init 101 = .ok (.aload_n 0, 1) := by decide +kernel
theorem dX7_init_102 : decode cX7_init 102 = .ok (.bipush 24, 2) := by decide +kernel
theorem dX7_init_104 : decode cX7_init 104 = .ok (.newarray .int, 2) := by decide +kernel
theorem dX7_init_106 : decode cX7_init 106 = .ok (.putfield 55, 3) := by decide +kernel
theorem dX7_init_109 : decode cX7_init 109 = .ok (.aload_n 0, 1) := by decide +kernel
theorem dX7_init_110 : decode cX7_init 110 = .ok (.bipush 120, 2) := by decide +kernel
theorem dX7_init_112 : decode cX7_init 112 = .ok (.newarray .int, 2) := by decide +kernel
theorem dX7_init_114 : decode cX7_init 114 = .ok (.putfield 58, 3) := by decide +kernel
theorem dX7_init_117 : decode cX7_init 117 = .ok (.aload_n 0, 1) := by decide +kernel
theorem dX7_init_118 : decode cX7_init 118 = .ok (.bipush 120, 2) := by decide +kernel
theorem dX7_init_120 : decode cX7_init 120 = .ok (.newarray .boolean, 2) := by decide +kernel
theorem dX7_init_122 : decode cX7_init 122 = .ok (.putfield 61, 3) := by decide +kernel
theorem dX7_init_125 : decode cX7_init 125 = .ok (.aload_n 0, 1) := by decide +kernel
theorem dX7_init_126 : decode cX7_init 126 = .ok (.bipush 40, 2) := by decide +kernel
theorem dX7_init_128 : decode cX7_init 128 = .ok (.newarray .boolean, 2) := by decide +kernel
theorem dX7_init_130 : decode cX7_init 130 = .ok (.putfield 65, 3) := by decide +kernel
theorem dX7_init_133 : decode cX7_init 133 = .ok (.aload_n 0, 1) := by decide +kernel
theorem dX7_init_134 : decode cX7_init 134 = .ok (.bipush 12, 2) := by decide +kernel
theorem dX7_init_136 : decode cX7_init 136 = .ok (.newarray .int, 2) := by decide +kernel
theorem dX7_init_138 : decode cX7_init 138 = .ok (.putfield 68, 3) := by decide +kernel
theorem dX7_init_141 : decode cX7_init 141 = .ok (.aload_n 0, 1) := by decide +kernel
theorem dX7_init_142 : decode cX7_init 142 = .ok (.bipush 12, 2) := by decide +kernel
theorem dX7_init_144 : decode cX7_init 144 = .ok (.newarray .int, 2) := by decide +kernel
theorem dX7_init_146 : decode cX7_init 146 = .ok (.putfield 71, 3) := by decide +kernel
theorem dX7_init_149 : decode cX7_init 149 = .ok (.aload_n 0, 1) := by decide +kernel
theorem dX7_init_150 : decode cX7_init 150 = .ok (.bipush 72, 2) := by decide +kernel
theorem dX7_init_152 : decode cX7_init 152 = .ok (.newarray .int, 2) := by decide +kernel
theorem dX7_init_154 : decode cX7_init 154 = .ok (.putfield 74, 3) := by decide +kernel
theorem dX7_init_157 : decode cX7_init 157 = .ok (.return_, 1) := by decide +kernel
theorem dX7_thrown_0 : decode cX7_thrown 0 = .ok (.aload_n 0, 1) := by decide +kernel
theorem dX7_thrown_1 : decode cX7_thrown 1 = .ok (.getfield 22, 3) := by decide +kernel
theorem dX7_thrown_4 : decode cX7_thrown 4 = .ok (.ireturn, 1) := by decide +kernel
theorem dX7_in_0 : decode cX7_in 0 = .ok (.iload_n 0, 1) := by decide +kernel
theorem dX7_in_1 : decode cX7_in 1 = .ok (.iload_n 1, 1) := by decide +kernel
theorem dX7_in_2 : decode cX7_in 2 = .ok (.if_icmp .lt 12, 3) := by decide +kernel
theorem dX7_in_5 : decode cX7_in 5 = .ok (.iload_n 0, 1) := by decide +kernel
theorem dX7_in_6 : decode cX7_in 6 = .ok (.iload_n 2, 1) := by decide +kernel
theorem dX7_in_7 : decode cX7_in 7 = .ok (.if_icmp .gt 7, 3) := by decide +kernel
theorem dX7_in_10 : decode cX7_in 10 = .ok (.iconst 1, 1) := by decide +kernel
theorem dX7_in_11 : decode cX7_in 11 = .ok (.goto 4, 3) := by decide +kernel
theorem dX7_in_14 : decode cX7_in 14 = .ok (.iconst 0, 1) := by decide +kernel
theorem dX7_in_15 : decode cX7_in 15 = .ok (.ireturn, 1) := by decide +kernel
theorem dX7_fails_0 : decode cX7_fails 0 = .ok (.aload_n 0, 1) := by decide +kernel
theorem dX7_fails_1 : decode cX7_fails 1 = .ok (.iload_n 1, 1) := by decide +kernel
theorem dX7_fails_2 : decode cX7_fails 2 = .ok (.putfield 22, 3) := by decide +kernel
theorem dX7_fails_5 : decode cX7_fails 5 = .ok (.iconst 0, 1) := by decide +kernel
theorem dX7_fails_6 : decode cX7_fails 6 = .ok (.ireturn, 1) := by decide +kernel
theorem dX7_tells_0 : decode cX7_tells 0 = .ok (.aload_n 0, 1) := by decide +kernel
theorem dX7_tells_1 : decode cX7_tells 1 = .ok (.iconst 0, 1) := by decide +kernel
theorem dX7_tells_2 : decode cX7_tells 2 = .ok (.putfield 22, 3) := by decide +kernel
theorem dX7_tells_5 : decode cX7_tells 5 = .ok (.iload_n 1, 1) := by decide +kernel
theorem dX7_tells_6 : decode cX7_tells 6 = .ok (.ireturn, 1) := by decide +kernel
theorem dX7_isPiece_0 : decode cX7_isPiece 0 = .ok (.iload_n 1, 1) := by decide +kernel
theorem dX7_isPiece_1 : decode cX7_isPiece 1 = .ok (.iconst 0, 1) := by decide +kernel
theorem dX7_isPiece_2 : decode cX7_isPiece 2 = .ok (.aload_n 0, 1) := by decide +kernel
theorem dX7_isPiece_3 : decode cX7_isPiece 3 = .ok (.getfield 7, 3) := by decide +kernel
theorem dX7_isPiece_6 : decode cX7_isPiece 6 = .ok (.iconst 1, 1) := by decide +kernel
theorem dX7_isPiece_7 : decode cX7_isPiece 7 = .ok (.isub, 1) := by decide +kernel
theorem dX7_isPiece_8 : decode cX7_isPiece 8 = .ok (.invokestatic 77, 3) := by decide +kernel
theorem dX7_isPiece_11 : decode cX7_isPiece 11 = .ok (.ireturn, 1) := by decide +kernel
theorem dX7_isVersion_0 : decode cX7_isVersion 0 = .ok (.iload_n 1, 1) := by decide +kernel
theorem dX7_isVersion_1 : decode cX7_isVersion 1 = .ok (.iconst 0, 1) := by decide +kernel
theorem dX7_isVersion_2 : decode cX7_isVersion 2 = .ok (.aload_n 0, 1) := by decide +kernel
theorem dX7_isVersion_3 : decode cX7_isVersion 3 = .ok (.getfield 13, 3) := by decide +kernel
theorem dX7_isVersion_6 : decode cX7_isVersion 6 = .ok (.iconst 1, 1) := by decide +kernel
theorem dX7_isVersion_7 : decode cX7_isVersion 7 = .ok (.isub, 1) := by decide +kernel
theorem dX7_isVersion_8 : decode cX7_isVersion 8 = .ok (.invokestatic 77, 3) := by decide +kernel
theorem dX7_isVersion_11 : decode cX7_isVersion 11 = .ok (.ireturn, 1) := by decide +kernel
theorem dX7_size_0 : decode cX7_size 0 = .ok (.aload_n 0, 1) := by decide +kernel
theorem dX7_size_1 : decode cX7_size 1 = .ok (.getfield 25, 3) := by decide +kernel
theorem dX7_size_4 : decode cX7_size 4 = .ok (.iload_n 1, 1) := by decide +kernel
theorem dX7_size_5 : decode cX7_size 5 = .ok (.iaload, 1) := by decide +kernel
theorem dX7_size_6 : decode cX7_size 6 = .ok (.aload_n 0, 1) := by decide +kernel
theorem dX7_size_7 : decode cX7_size 7 = .ok (.getfield 29, 3) := by decide +kernel
theorem dX7_size_10 : decode cX7_size 10 = .ok (.iload_n 1, 1) := by decide +kernel
theorem dX7_size_11 : decode cX7_size 11 = .ok (.iaload, 1) := by decide +kernel
theorem dX7_size_12 : decode cX7_size 12 = .ok (.imul, 1) := by decide +kernel
theorem dX7_size_13 : decode cX7_size 13 = .ok (.ireturn, 1) := by decide +kernel
theorem dX7_at_0 : decode cX7_at 0 = .ok (.bipush 41, 2) := by decide +kernel
theorem dX7_at_2 : decode cX7_at 2 = .ok (.bipush 32, 2) := by decide +kernel
theorem dX7_at_4 : decode cX7_at 4 = .ok (.iload_n 1, 1) := by decide +kernel
theorem dX7_at_5 : decode cX7_at 5 = .ok (.imul, 1) := by decide +kernel
theorem dX7_at_6 : decode cX7_at 6 = .ok (.aload_n 0, 1) := by decide +kernel
theorem dX7_at_7 : decode cX7_at 7 = .ok (.getfield 29, 3) := by decide +kernel
theorem dX7_at_10 : decode cX7_at 10 = .ok (.aload_n 0, 1) := by decide +kernel
theorem dX7_at_11 : decode cX7_at 11 = .ok (.getfield 39, 3) := by decide +kernel
theorem dX7_at_14 : decode cX7_at 14 = .ok (.iload_n 1, 1) := by decide +kernel
theorem dX7_at_15 : decode cX7_at 15 = .ok (.iaload, 1) := by decide +kernel
theorem dX7_at_16 : decode cX7_at 16 = .ok (.iaload, 1) := by decide +kernel
theorem dX7_at_17 : decode cX7_at 17 = .ok (.iload_n 2, 1) := by decide +kernel
theorem dX7_at_18 : decode cX7_at 18 = .ok (.imul, 1) := by decide +kernel
theorem dX7_at_19 : decode cX7_at 19 = .ok (.iadd, 1) := by decide +kernel
theorem dX7_at_20 : decode cX7_at 20 = .ok (.iload_n 3, 1) := by decide +kernel
theorem dX7_at_21 : decode cX7_at 21 = .ok (.iadd, 1) := by decide +kernel
theorem dX7_at_22 : decode cX7_at 22 = .ok (.imul, 1) := by decide +kernel
theorem dX7_at_23 : decode cX7_at 23 = .ok (.ireturn, 1) := by decide +kernel
theorem dX7_sheafAt_0 : decode cX7_sheafAt 0 = .ok (.bipush 41, 2) := by decide +kernel
theorem dX7_sheafAt_2 : decode cX7_sheafAt 2 = .ok (.bipush 32, 2) := by decide +kernel
theorem dX7_sheafAt_4 : decode cX7_sheafAt 4 = .ok (.iload_n 1, 1) := by decide +kernel
theorem dX7_sheafAt_5 : decode cX7_sheafAt 5 = .ok (.imul, 1) := by decide +kernel
theorem dX7_sheafAt_6 : decode cX7_sheafAt 6 = .ok (.iload_n 2, 1) := by decide +kernel
theorem dX7_sheafAt_7 : decode cX7_sheafAt 7 = .ok (.iadd, 1) := by decide +kernel
theorem dX7_sheafAt_8 : decode cX7_sheafAt 8 = .ok (.imul, 1) := by decide +kernel
theorem dX7_sheafAt_9 : decode cX7_sheafAt 9 = .ok (.ireturn, 1) := by decide +kernel
theorem dX7_adds_0 : decode cX7_adds 0 = .ok (.aload_n 0, 1) := by decide +kernel
theorem dX7_adds_1 : decode cX7_adds 1 = .ok (.getfield 39, 3) := by decide +kernel
theorem dX7_adds_4 : decode cX7_adds 4 = .ok (.aload_n 0, 1) := by decide +kernel
theorem dX7_adds_5 : decode cX7_adds 5 = .ok (.getfield 13, 3) := by decide +kernel
theorem dX7_adds_8 : decode cX7_adds 8 = .ok (.iload_n 1, 1) := by decide +kernel
theorem dX7_adds_9 : decode cX7_adds 9 = .ok (.iastore, 1) := by decide +kernel
theorem dX7_adds_10 : decode cX7_adds 10 = .ok (.aload_n 0, 1) := by decide +kernel
theorem dX7_adds_11 : decode cX7_adds 11 = .ok (.getfield 42, 3) := by decide +kernel
theorem dX7_adds_14 : decode cX7_adds 14 = .ok (.aload_n 0, 1) := by decide +kernel
theorem dX7_adds_15 : decode cX7_adds 15 = .ok (.getfield 13, 3) := by decide +kernel
theorem dX7_adds_18 : decode cX7_adds 18 = .ok (.iload_n 2, 1) := by decide +kernel
theorem dX7_adds_19 : decode cX7_adds 19 = .ok (.iastore, 1) := by decide +kernel
theorem dX7_adds_20 : decode cX7_adds 20 = .ok (.aload_n 0, 1) := by decide +kernel
theorem dX7_adds_21 : decode cX7_adds 21 = .ok (.getfield 45, 3) := by decide +kernel
theorem dX7_adds_24 : decode cX7_adds 24 = .ok (.aload_n 0, 1) := by decide +kernel
theorem dX7_adds_25 : decode cX7_adds 25 = .ok (.getfield 13, 3) := by decide +kernel
theorem dX7_adds_28 : decode cX7_adds 28 = .ok (.iload_n 3, 1) := by decide +kernel
theorem dX7_adds_29 : decode cX7_adds 29 = .ok (.iastore, 1) := by decide +kernel
theorem dX7_adds_30 : decode cX7_adds 30 = .ok (.aload_n 0, 1) := by decide +kernel
theorem dX7_adds_31 : decode cX7_adds 31 = .ok (.dup, 1) := by decide +kernel
theorem dX7_adds_32 : decode cX7_adds 32 = .ok (.getfield 13, 3) := by decide +kernel
theorem dX7_adds_35 : decode cX7_adds 35 = .ok (.iconst 1, 1) := by decide +kernel
theorem dX7_adds_36 : decode cX7_adds 36 = .ok (.iadd, 1) := by decide +kernel
theorem dX7_adds_37 : decode cX7_adds 37 = .ok (.putfield 13, 3) := by decide +kernel
theorem dX7_adds_40 : decode cX7_adds 40 = .ok (.aload_n 0, 1) := by decide +kernel
theorem dX7_adds_41 : decode cX7_adds 41 = .ok (.getfield 13, 3) := by decide +kernel
theorem dX7_adds_44 : decode cX7_adds 44 = .ok (.iconst 1, 1) := by decide +kernel
theorem dX7_adds_45 : decode cX7_adds 45 = .ok (.isub, 1) := by decide +kernel
theorem dX7_adds_46 : decode cX7_adds 46 = .ok (.ireturn, 1) := by decide +kernel
theorem dX7_piece_0 : decode cX7_piece 0 = .ok (.iload_n 1, 1) := by decide +kernel
theorem dX7_piece_1 : decode cX7_piece 1 = .ok (.iconst 1, 1) := by decide +kernel
theorem dX7_piece_2 : decode cX7_piece 2 = .ok (.bipush 8, 2) := by decide +kernel
theorem dX7_piece_4 : decode cX7_piece 4 = .ok (.invokestatic 77, 3) := by decide +kernel
theorem dX7_piece_7 : decode cX7_piece 7 = .ok (.ifCond .eq 12, 3) := by decide +kernel
theorem dX7_piece_10 : decode cX7_piece 10 = .ok (.iload_n 2, 1) := by decide +kernel
theorem dX7_piece_11 : decode cX7_piece 11 = .ok (.iconst 1, 1) := by decide +kernel
theorem dX7_piece_12 : decode cX7_piece 12 = .ok (.iconst 4, 1) := by decide +kernel
theorem dX7_piece_13 : decode cX7_piece 13 = .ok (.invokestatic 77, 3) := by decide +kernel
theorem dX7_piece_16 : decode cX7_piece 16 = .ok (.ifCond .ne 9, 3) := by decide +kernel
theorem dX7_piece_19 : decode cX7_piece 19 = .ok (.aload_n 0, 1) := by decide +kernel
theorem dX7_piece_20 : decode cX7_piece 20 = .ok (.iconst 1, 1) := by decide +kernel
theorem dX7_piece_21 : decode cX7_piece 21 = .ok (.invokevirtual 81, 3) := by decide +kernel
theorem dX7_piece_24 : decode cX7_piece 24 = .ok (.ireturn, 1) := by decide +kernel
theorem dX7_piece_25 : decode cX7_piece 25 = .ok (.aload_n 0, 1) := by decide +kernel
theorem dX7_piece_26 : decode cX7_piece 26 = .ok (.getfield 7, 3) := by decide +kernel
theorem dX7_piece_29 : decode cX7_piece 29 = .ok (.bipush 6, 2) := by decide +kernel
theorem dX7_piece_31 : decode cX7_piece 31 = .ok (.if_icmp .eq 12, 3) := by decide +kernel
theorem dX7_piece_34 : decode cX7_piece 34 = .ok (.aload_n 0, 1) := by decide +kernel
theorem dX7_piece_35 : decode cX7_piece 35 = .ok (.getfield 13, 3) := by decide +kernel
theorem dX7_piece_38 : decode cX7_piece 38 = .ok (.bipush 40, 2) := by decide +kernel
theorem dX7_piece_40 : decode cX7_piece 40 = .ok (.if_icmp .ne 9, 3) := by decide +kernel
theorem dX7_piece_43 : decode cX7_piece 43 = .ok (.aload_n 0, 1) := by decide +kernel
theorem dX7_piece_44 : decode cX7_piece 44 = .ok (.iconst 2, 1) := by decide +kernel
theorem dX7_piece_45 : decode cX7_piece 45 = .ok (.invokevirtual 81, 3) := by decide +kernel
theorem dX7_piece_48 : decode cX7_piece 48 = .ok (.ireturn, 1) := by decide +kernel
theorem dX7_piece_49 : decode cX7_piece 49 = .ok (.aload_n 0, 1) := by decide +kernel
theorem dX7_piece_50 : decode cX7_piece 50 = .ok (.getfield 25, 3) := by decide +kernel
theorem dX7_piece_53 : decode cX7_piece 53 = .ok (.aload_n 0, 1) := by decide +kernel
theorem dX7_piece_54 : decode cX7_piece 54 = .ok (.getfield 7, 3) := by decide +kernel
theorem dX7_piece_57 : decode cX7_piece 57 = .ok (.iload_n 1, 1) := by decide +kernel
theorem dX7_piece_58 : decode cX7_piece 58 = .ok (.iastore, 1) := by decide +kernel
theorem dX7_piece_59 : decode cX7_piece 59 = .ok (.aload_n 0, 1) := by decide +kernel
theorem dX7_piece_60 : decode cX7_piece 60 = .ok (.getfield 29, 3) := by decide +kernel
theorem dX7_piece_63 : decode cX7_piece 63 = .ok (.aload_n 0, 1) := by decide +kernel
theorem dX7_piece_64 : decode cX7_piece 64 = .ok (.getfield 7, 3) := by decide +kernel
theorem dX7_piece_67 : decode cX7_piece 67 = .ok (.iload_n 2, 1) := by decide +kernel
theorem dX7_piece_68 : decode cX7_piece 68 = .ok (.iastore, 1) := by decide +kernel
theorem dX7_piece_69 : decode cX7_piece 69 = .ok (.iconst 0, 1) := by decide +kernel
theorem dX7_piece_70 : decode cX7_piece 70 = .ok (.istore_n 3, 1) := by decide +kernel
theorem dX7_piece_71 : decode cX7_piece 71 = .ok (.iload_n 3, 1) := by decide +kernel
theorem dX7_piece_72 : decode cX7_piece 72 = .ok (.iconst 4, 1) := by decide +kernel
theorem dX7_piece_73 : decode cX7_piece 73 = .ok (.if_icmp .ge 24, 3) := by decide +kernel
theorem dX7_piece_76 : decode cX7_piece 76 = .ok (.aload_n 0, 1) := by decide +kernel
theorem dX7_piece_77 : decode cX7_piece 77 = .ok (.getfield 35, 3) := by decide +kernel
theorem dX7_piece_80 : decode cX7_piece 80 = .ok (.iconst 4, 1) := by decide +kernel
theorem dX7_piece_81 : decode cX7_piece 81 = .ok (.aload_n 0, 1) := by decide +kernel
theorem dX7_piece_82 : decode cX7_piece 82 = .ok (.getfield 7, 3) := by decide +kernel
theorem dX7_piece_85 : decode cX7_piece 85 = .ok (.imul, 1) := by decide +kernel
theorem dX7_piece_86 : decode cX7_piece 86 = .ok (.iload_n 3, 1) := by decide +kernel
theorem dX7_piece_87 : decode cX7_piece 87 = .ok (.iadd, 1) := by decide +kernel
theorem dX7_piece_88 : decode cX7_piece 88 = .ok (.bipush 98, 2) := by decide +kernel
theorem dX7_piece_90 : decode cX7_piece 90 = .ok (.castore, 1) := by decide +kernel
theorem dX7_piece_91 : decode cX7_piece 91 = .ok (.iinc 3 1, 3) := by decide +kernel
theorem dX7_piece_94 : decode cX7_piece 94 = .ok (.goto (-23), 3) := by decide +kernel
theorem dX7_piece_97 : decode cX7_piece 97 = .ok (.aload_n 0, 1) := by decide +kernel
theorem dX7_piece_98 : decode cX7_piece 98 = .ok (.dup, 1) := by decide +kernel
theorem dX7_piece_99 : decode cX7_piece 99 = .ok (.getfield 7, 3) := by decide +kernel
theorem dX7_piece_102 : decode cX7_piece 102 = .ok (.iconst 1, 1) := by decide +kernel
theorem dX7_piece_103 : decode cX7_piece 103 = .ok (.iadd, 1) := by decide +kernel
theorem dX7_piece_104 : decode cX7_piece 104 = .ok (.putfield 7, 3) := by decide +kernel
theorem dX7_piece_107 : decode cX7_piece 107 = .ok (.aload_n 0, 1) := by decide +kernel
theorem dX7_piece_108 : decode cX7_piece 108 = .ok (.aload_n 0, 1) := by decide +kernel
theorem dX7_piece_109 : decode cX7_piece 109 = .ok (.getfield 7, 3) := by decide +kernel
theorem dX7_piece_112 : decode cX7_piece 112 = .ok (.iconst 1, 1) := by decide +kernel
theorem dX7_piece_113 : decode cX7_piece 113 = .ok (.isub, 1) := by decide +kernel
theorem dX7_piece_114 : decode cX7_piece 114 = .ok (.iconst (-1), 1) := by decide +kernel
theorem dX7_piece_115 : decode cX7_piece 115 = .ok (.iconst (-1), 1) := by decide +kernel
theorem dX7_piece_116 : decode cX7_piece 116 = .ok (.invokevirtual 85, 3) := by decide +kernel
theorem dX7_piece_119 : decode cX7_piece 119 = .ok (.istore_n 3, 1) := by decide +kernel
theorem dX7_piece_120 : decode cX7_piece 120 = .ok (.aload_n 0, 1) := by decide +kernel
theorem dX7_piece_121 : decode cX7_piece 121 = .ok (.getfield 32, 3) := by decide +kernel
theorem dX7_piece_124 : decode cX7_piece 124 = .ok (.aload_n 0, 1) := by decide +kernel
theorem dX7_piece_125 : decode cX7_piece 125 = .ok (.getfield 7, 3) := by decide +kernel
theorem dX7_piece_128 : decode cX7_piece 128 = .ok (.iconst 1, 1) := by decide +kernel
theorem dX7_piece_129 : decode cX7_piece 129 = .ok (.isub, 1) := by decide +kernel
theorem dX7_piece_130 : decode cX7_piece 130 = .ok (.iload_n 3, 1) := by decide +kernel
theorem dX7_piece_131 : decode cX7_piece 131 = .ok (.iastore, 1) := by decide +kernel
theorem dX7_piece_132 : decode cX7_piece 132 = .ok (.iconst 0, 1) := by decide +kernel
theorem dX7_piece_133 : decode cX7_piece 133 = .ok (.istore 4, 2) := by decide +kernel
theorem dX7_piece_135 : decode cX7_piece 135 = .ok (.iload 4, 2) := by decide +kernel
theorem dX7_piece_137 : decode cX7_piece 137 = .ok (.iload_n 1, 1) := by decide +kernel
theorem dX7_piece_138 : decode cX7_piece 138 = .ok (.iload_n 2, 1) := by decide +kernel
theorem dX7_piece_139 : decode cX7_piece 139 = .ok (.imul, 1) := by decide +kernel
theorem dX7_piece_140 : decode cX7_piece 140 = .ok (.if_icmp .ge 22, 3) := by decide +kernel
theorem dX7_piece_143 : decode cX7_piece 143 = .ok (.aload_n 0, 1) := by decide +kernel
theorem dX7_piece_144 : decode cX7_piece 144 = .ok (.getfield 49, 3) := by decide +kernel
theorem dX7_piece_147 : decode cX7_piece 147 = .ok (.aload_n 0, 1) := by decide +kernel
theorem dX7_piece_148 : decode cX7_piece 148 = .ok (.iload_n 3, 1) := by decide +kernel
theorem dX7_piece_149 : decode cX7_piece 149 = .ok (.iload 4, 2) := by decide +kernel
theorem dX7_piece_151 : decode cX7_piece 151 = .ok (.invokevirtual 89, 3) := by decide +kernel
theorem dX7_piece_154 : decode cX7_piece 154 = .ok (.iconst 1, 1) := by decide +kernel
theorem dX7_piece_155 : decode cX7_piece 155 = .ok (.iastore, 1) := by decide +kernel
theorem dX7_piece_156 : decode cX7_piece 156 = .ok (.iinc 4 1, 3) := by decide +kernel
theorem dX7_piece_159 : decode cX7_piece 159 = .ok (.goto (-24), 3) := by decide +kernel
theorem dX7_piece_162 : decode cX7_piece 162 = .ok (.aload_n 0, 1) := by decide +kernel
theorem dX7_piece_163 : decode cX7_piece 163 = .ok (.aload_n 0, 1) := by decide +kernel
theorem dX7_piece_164 : decode cX7_piece 164 = .ok (.getfield 7, 3) := by decide +kernel
theorem dX7_piece_167 : decode cX7_piece 167 = .ok (.iconst 1, 1) := by decide +kernel
theorem dX7_piece_168 : decode cX7_piece 168 = .ok (.isub, 1) := by decide +kernel
theorem dX7_piece_169 : decode cX7_piece 169 = .ok (.invokevirtual 93, 3) := by decide +kernel
theorem dX7_piece_172 : decode cX7_piece 172 = .ok (.ireturn, 1) := by decide +kernel
theorem dX7_firstOf_0 : decode cX7_firstOf 0 = .ok (.aload_n 0, 1) := by decide +kernel
theorem dX7_firstOf_1 : decode cX7_firstOf 1 = .ok (.iload_n 1, 1) := by decide +kernel
theorem dX7_firstOf_2 : decode cX7_firstOf 2 = .ok (.invokevirtual 96, 3) := by decide +kernel
theorem dX7_firstOf_5 : decode cX7_firstOf 5 = .ok (.ifCond .eq 16, 3) := by decide +kernel
theorem dX7_firstOf_8 : decode cX7_firstOf 8 = .ok (.aload_n 0, 1) := by decide +kernel
theorem dX7_firstOf_9 : decode cX7_firstOf 9 = .ok (.aload_n 0, 1) := by decide +kernel
theorem dX7_firstOf_10 : decode cX7_firstOf 10 = .ok (.getfield 32, 3) := by decide +kernel
theorem dX7_firstOf_13 : decode cX7_firstOf 13 = .ok (.iload_n 1, 1) := by decide +kernel
theorem dX7_firstOf_14 : decode cX7_firstOf 14 = .ok (.iaload, 1) := by decide +kernel
theorem dX7_firstOf_15 : decode cX7_firstOf 15 = .ok (.invokevirtual 93, 3) := by decide +kernel
theorem dX7_firstOf_18 : decode cX7_firstOf 18 = .ok (.goto 8, 3) := by decide +kernel
theorem dX7_firstOf_21 : decode cX7_firstOf 21 = .ok (.aload_n 0, 1) := by decide +kernel
theorem dX7_firstOf_22 : decode cX7_firstOf 22 = .ok (.iconst 1, 1) := by decide +kernel
theorem dX7_firstOf_23 : decode cX7_firstOf 23 = .ok (.invokevirtual 81, 3) := by decide +kernel
theorem dX7_firstOf_26 : decode cX7_firstOf 26 = .ok (.ireturn, 1) := by decide +kernel
theorem dX7_pieceOf_0 : decode cX7_pieceOf 0 = .ok (.aload_n 0, 1) := by decide +kernel
theorem dX7_pieceOf_1 : decode cX7_pieceOf 1 = .ok (.iload_n 1, 1) := by decide +kernel
theorem dX7_pieceOf_2 : decode cX7_pieceOf 2 = .ok (.invokevirtual 100, 3) := by decide +kernel
theorem dX7_pieceOf_5 : decode cX7_pieceOf 5 = .ok (.ifCond .eq 16, 3) := by decide +kernel
theorem dX7_pieceOf_8 : decode cX7_pieceOf 8 = .ok (.aload_n 0, 1) := by decide +kernel
theorem dX7_pieceOf_9 : decode cX7_pieceOf 9 = .ok (.aload_n 0, 1) := by decide +kernel
theorem dX7_pieceOf_10 : decode cX7_pieceOf 10 = .ok (.getfield 39, 3) := by decide +kernel
theorem dX7_pieceOf_13 : decode cX7_pieceOf 13 = .ok (.iload_n 1, 1) := by decide +kernel
theorem dX7_pieceOf_14 : decode cX7_pieceOf 14 = .ok (.iaload, 1) := by decide +kernel
theorem dX7_pieceOf_15 : decode cX7_pieceOf 15 = .ok (.invokevirtual 93, 3) := by decide +kernel
theorem dX7_pieceOf_18 : decode cX7_pieceOf 18 = .ok (.goto 8, 3) := by decide +kernel
theorem dX7_pieceOf_21 : decode cX7_pieceOf 21 = .ok (.aload_n 0, 1) := by decide +kernel
theorem dX7_pieceOf_22 : decode cX7_pieceOf 22 = .ok (.iconst 1, 1) := by decide +kernel
theorem dX7_pieceOf_23 : decode cX7_pieceOf 23 = .ok (.invokevirtual 81, 3) := by decide +kernel
theorem dX7_pieceOf_26 : decode cX7_pieceOf 26 = .ok (.ireturn, 1) := by decide +kernel
theorem dX7_note_0 : decode cX7_note 0 = .ok (.iload_n 1, 1) := by decide +kernel
theorem dX7_note_1 : decode cX7_note 1 = .ok (.iconst 0, 1) := by decide +kernel
theorem dX7_note_2 : decode cX7_note 2 = .ok (.bipush 99, 2) := by decide +kernel
theorem dX7_note_4 : decode cX7_note 4 = .ok (.invokestatic 77, 3) := by decide +kernel
theorem dX7_note_7 : decode cX7_note 7 = .ok (.ifCond .ne 9, 3) := by decide +kernel
theorem dX7_note_10 : decode cX7_note 10 = .ok (.aload_n 0, 1) := by decide +kernel
theorem dX7_note_11 : decode cX7_note 11 = .ok (.iconst 1, 1) := by decide +kernel
theorem dX7_note_12 : decode cX7_note 12 = .ok (.invokevirtual 81, 3) := by decide +kernel
theorem dX7_note_15 : decode cX7_note 15 = .ok (.ireturn, 1) := by decide +kernel
theorem dX7_note_16 : decode cX7_note 16 = .ok (.aload_n 0, 1) := by decide +kernel
theorem dX7_note_17 : decode cX7_note 17 = .ok (.getfield 16, 3) := by decide +kernel
theorem dX7_note_20 : decode cX7_note 20 = .ok (.bipush 8, 2) := by decide +kernel
theorem dX7_note_22 : decode cX7_note 22 = .ok (.if_icmp .ne 9, 3) := by decide +kernel
theorem dX7_note_25 : decode cX7_note 25 = .ok (.aload_n 0, 1) := by decide +kernel
theorem dX7_note_26 : decode cX7_note 26 = .ok (.iconst 2, 1) := by decide +kernel
theorem dX7_note_27 : decode cX7_note 27 = .ok (.invokevirtual 81, 3) := by decide +kernel
theorem dX7_note_30 : decode cX7_note 30 = .ok (.ireturn, 1) := by decide +kernel
theorem dX7_note_31 : decode cX7_note 31 = .ok (.aload_n 0, 1) := by decide +kernel
theorem dX7_note_32 : decode cX7_note 32 = .ok (.getfield 52, 3) := by decide +kernel
theorem dX7_note_35 : decode cX7_note 35 = .ok (.aload_n 0, 1) := by decide +kernel
theorem dX7_note_36 : decode cX7_note 36 = .ok (.getfield 16, 3) := by decide +kernel
theorem dX7_note_39 : decode cX7_note 39 = .ok (.iload_n 1, 1) := by decide +kernel
theorem dX7_note_40 : decode cX7_note 40 = .ok (.iastore, 1) := by decide +kernel
theorem dX7_note_41 : decode cX7_note 41 = .ok (.aload_n 0, 1) := by decide +kernel
theorem dX7_note_42 : decode cX7_note 42 = .ok (.dup, 1) := by decide +kernel
theorem dX7_note_43 : decode cX7_note 43 = .ok (.getfield 16, 3) := by decide +kernel
theorem dX7_note_46 : decode cX7_note 46 = .ok (.iconst 1, 1) := by decide +kernel
theorem dX7_note_47 : decode cX7_note 47 = .ok (.iadd, 1) := by decide +kernel
theorem dX7_note_48 : decode cX7_note 48 = .ok (.putfield 16, 3) := by decide +kernel
theorem dX7_note_51 : decode cX7_note 51 = .ok (.aload_n 0, 1) := by decide +kernel
theorem dX7_note_52 : decode cX7_note 52 = .ok (.aload_n 0, 1) := by decide +kernel
theorem dX7_note_53 : decode cX7_note 53 = .ok (.getfield 16, 3) := by decide +kernel
theorem dX7_note_56 : decode cX7_note 56 = .ok (.invokevirtual 93, 3) := by decide +kernel
theorem dX7_note_59 : decode cX7_note 59 = .ok (.ireturn, 1) := by decide +kernel
theorem dX7_wipe_0 : decode cX7_wipe 0 = .ok (.aload_n 0, 1) := by decide +kernel
theorem dX7_wipe_1 : decode cX7_wipe 1 = .ok (.getfield 16, 3) := by decide +kernel
theorem dX7_wipe_4 : decode cX7_wipe 4 = .ok (.istore_n 1, 1) := by decide +kernel
theorem dX7_wipe_5 : decode cX7_wipe 5 = .ok (.aload_n 0, 1) := by decide +kernel
theorem dX7_wipe_6 : decode cX7_wipe 6 = .ok (.iconst 0, 1) := by decide +kernel
theorem dX7_wipe_7 : decode cX7_wipe 7 = .ok (.putfield 16, 3) := by decide +kernel
theorem dX7_wipe_10 : decode cX7_wipe 10 = .ok (.aload_n 0, 1) := by decide +kernel
theorem dX7_wipe_11 : decode cX7_wipe 11 = .ok (.iload_n 1, 1) := by decide +kernel
theorem dX7_wipe_12 : decode cX7_wipe 12 = .ok (.invokevirtual 93, 3) := by decide +kernel
theorem dX7_wipe_15 : decode cX7_wipe 15 = .ok (.ireturn, 1) := by decide +kernel
theorem dX7_isSheaf_0 : decode cX7_isSheaf 0 = .ok (.aload_n 0, 1) := by decide +kernel
theorem dX7_isSheaf_1 : decode cX7_isSheaf 1 = .ok (.iload_n 1, 1) := by decide +kernel
theorem dX7_isSheaf_2 : decode cX7_isSheaf 2 = .ok (.invokevirtual 100, 3) := by decide +kernel
theorem dX7_isSheaf_5 : decode cX7_isSheaf 5 = .ok (.ifCond .eq 49, 3) := by decide +kernel
theorem dX7_isSheaf_8 : decode cX7_isSheaf 8 = .ok (.iload_n 2, 1) := by decide +kernel
theorem dX7_isSheaf_9 : decode cX7_isSheaf 9 = .ok (.iconst 0, 1) := by decide +kernel
theorem dX7_isSheaf_10 : decode cX7_isSheaf 10 = .ok (.aload_n 0, 1) := by decide +kernel
theorem dX7_isSheaf_11 : decode cX7_isSheaf 11 = .ok (.getfield 25, 3) := by decide +kernel
theorem dX7_isSheaf_14 : decode cX7_isSheaf 14 = .ok (.aload_n 0, 1) := by decide +kernel
theorem dX7_isSheaf_15 : decode cX7_isSheaf 15 = .ok (.getfield 39, 3) := by decide +kernel
theorem dX7_isSheaf_18 : decode cX7_isSheaf 18 = .ok (.iload_n 1, 1) := by decide +kernel
theorem dX7_isSheaf_19 : decode cX7_isSheaf 19 = .ok (.iaload, 1) := by decide +kernel
theorem dX7_isSheaf_20 : decode cX7_isSheaf 20 = .ok (.iaload, 1) := by decide +kernel
theorem dX7_isSheaf_21 : decode cX7_isSheaf 21 = .ok (.iconst 1, 1) := by decide +kernel
theorem dX7_isSheaf_22 : decode cX7_isSheaf 22 = .ok (.isub, 1) := by decide +kernel
theorem dX7_isSheaf_23 : decode cX7_isSheaf 23 = .ok (.invokestatic 77, 3) := by decide +kernel
theorem dX7_isSheaf_26 : decode cX7_isSheaf 26 = .ok (.ifCond .eq 28, 3) := by decide +kernel
theorem dX7_isSheaf_29 : decode cX7_isSheaf 29 = .ok (.iload_n 3, 1) := by decide +kernel
theorem dX7_isSheaf_30 : decode cX7_isSheaf 30 = .ok (.iconst 0, 1) := by decide +kernel
theorem dX7_isSheaf_31 : decode cX7_isSheaf 31 = .ok (.aload_n 0, 1) := by decide +kernel
theorem dX7_isSheaf_32 : decode cX7_isSheaf 32 = .ok (.getfield 29, 3) := by decide +kernel
theorem dX7_isSheaf_35 : decode cX7_isSheaf 35 = .ok (.aload_n 0, 1) := by decide +kernel
theorem dX7_isSheaf_36 : decode cX7_isSheaf 36 = .ok (.getfield 39, 3) := by decide +kernel
theorem dX7_isSheaf_39 : decode cX7_isSheaf 39 = .ok (.iload_n 1, 1) := by decide +kernel
theorem dX7_isSheaf_40 : decode cX7_isSheaf 40 = .ok (.iaload, 1) := by decide +kernel
theorem dX7_isSheaf_41 : decode cX7_isSheaf 41 = .ok (.iaload, 1) := by decide +kernel
theorem dX7_isSheaf_42 : decode cX7_isSheaf 42 = .ok (.iconst 1, 1) := by decide +kernel
theorem dX7_isSheaf_43 : decode cX7_isSheaf 43 = .ok (.isub, 1) := by decide +kernel
theorem dX7_isSheaf_44 : decode cX7_isSheaf 44 = .ok (.invokestatic 77, 3) := by decide +kernel
theorem dX7_isSheaf_47 : decode cX7_isSheaf 47 = .ok (.ifCond .eq 7, 3) := by decide +kernel
theorem dX7_isSheaf_50 : decode cX7_isSheaf 50 = .ok (.iconst 1, 1) := by decide +kernel
theorem dX7_isSheaf_51 : decode cX7_isSheaf 51 = .ok (.goto 4, 3) := by decide +kernel
theorem dX7_isSheaf_54 : decode cX7_isSheaf 54 = .ok (.iconst 0, 1) := by decide +kernel
theorem dX7_isSheaf_55 : decode cX7_isSheaf 55 = .ok (.ireturn, 1) := by decide +kernel
theorem dX7_copies_0 : decode cX7_copies 0 = .ok (.iconst 0, 1) := by decide +kernel
theorem dX7_copies_1 : decode cX7_copies 1 = .ok (.istore_n 3, 1) := by decide +kernel
theorem dX7_copies_2 : decode cX7_copies 2 = .ok (.iload_n 3, 1) := by decide +kernel
theorem dX7_copies_3 : decode cX7_copies 3 = .ok (.bipush 41, 2) := by decide +kernel
theorem dX7_copies_5 : decode cX7_copies 5 = .ok (.if_icmp .ge 25, 3) := by decide +kernel
theorem dX7_copies_8 : decode cX7_copies 8 = .ok (.aload_n 0, 1) := by decide +kernel
theorem dX7_copies_9 : decode cX7_copies 9 = .ok (.getfield 49, 3) := by decide +kernel
theorem dX7_copies_12 : decode cX7_copies 12 = .ok (.iload_n 2, 1) := by decide +kernel
theorem dX7_copies_13 : decode cX7_copies 13 = .ok (.iload_n 3, 1) := by decide +kernel
theorem dX7_copies_14 : decode cX7_copies 14 = .ok (.iadd, 1) := by decide +kernel
theorem dX7_copies_15 : decode cX7_copies 15 = .ok (.aload_n 0, 1) := by decide +kernel
theorem dX7_copies_16 : decode cX7_copies 16 = .ok (.getfield 49, 3) := by decide +kernel
theorem dX7_copies_19 : decode cX7_copies 19 = .ok (.iload_n 1, 1) := by decide +kernel
theorem dX7_copies_20 : decode cX7_copies 20 = .ok (.iload_n 3, 1) := by decide +kernel
theorem dX7_copies_21 : decode cX7_copies 21 = .ok (.iadd, 1) := by decide +kernel
theorem dX7_copies_22 : decode cX7_copies 22 = .ok (.iaload, 1) := by decide +kernel
theorem dX7_copies_23 : decode cX7_copies 23 = .ok (.iastore, 1) := by decide +kernel
theorem dX7_copies_24 : decode cX7_copies 24 = .ok (.iinc 3 1, 3) := by decide +kernel
theorem dX7_copies_27 : decode cX7_copies 27 = .ok (.goto (-25), 3) := by decide +kernel
theorem dX7_copies_30 : decode cX7_copies 30 = .ok (.return_, 1) := by decide +kernel
theorem dX7_write_0 : decode cX7_write 0 = .ok (.aload_n 0, 1) := by decide +kernel
theorem dX7_write_1 : decode cX7_write 1 = .ok (.iload_n 1, 1) := by decide +kernel
theorem dX7_write_2 : decode cX7_write 2 = .ok (.iload_n 3, 1) := by decide +kernel
theorem dX7_write_3 : decode cX7_write 3 = .ok (.iload 4, 2) := by decide +kernel
theorem dX7_write_5 : decode cX7_write 5 = .ok (.invokevirtual 103, 3) := by decide +kernel
theorem dX7_write_8 : decode cX7_write 8 = .ok (.ifCond .ne 9, 3) := by decide +kernel
theorem dX7_write_11 : decode cX7_write 11 = .ok (.aload_n 0, 1) := by decide +kernel
theorem dX7_write_12 : decode cX7_write 12 = .ok (.iconst 1, 1) := by decide +kernel
theorem dX7_write_13 : decode cX7_write 13 = .ok (.invokevirtual 81, 3) := by decide +kernel
theorem dX7_write_16 : decode cX7_write 16 = .ok (.ireturn, 1) := by decide +kernel
theorem dX7_write_17 : decode cX7_write 17 = .ok (.iload_n 2, 1) := by decide +kernel
theorem dX7_write_18 : decode cX7_write 18 = .ok (.iconst 0, 1) := by decide +kernel
theorem dX7_write_19 : decode cX7_write 19 = .ok (.iconst 5, 1) := by decide +kernel
theorem dX7_write_20 : decode cX7_write 20 = .ok (.invokestatic 77, 3) := by decide +kernel
theorem dX7_write_23 : decode cX7_write 23 = .ok (.ifCond .ne 9, 3) := by decide +kernel
theorem dX7_write_26 : decode cX7_write 26 = .ok (.aload_n 0, 1) := by decide +kernel
theorem dX7_write_27 : decode cX7_write 27 = .ok (.iconst 2, 1) := by decide +kernel
theorem dX7_write_28 : decode cX7_write 28 = .ok (.invokevirtual 81, 3) := by decide +kernel
theorem dX7_write_31 : decode cX7_write 31 = .ok (.ireturn, 1) := by decide +kernel
theorem dX7_write_32 : decode cX7_write 32 = .ok (.aload_n 0, 1) := by decide +kernel
theorem dX7_write_33 : decode cX7_write 33 = .ok (.getfield 13, 3) := by decide +kernel
theorem dX7_write_36 : decode cX7_write 36 = .ok (.bipush 40, 2) := by decide +kernel
theorem dX7_write_38 : decode cX7_write 38 = .ok (.if_icmp .ne 9, 3) := by decide +kernel
theorem dX7_write_41 : decode cX7_write 41 = .ok (.aload_n 0, 1) := by decide +kernel
theorem dX7_write_42 : decode cX7_write 42 = .ok (.iconst 3, 1) := by decide +kernel
theorem dX7_write_43 : decode cX7_write 43 = .ok (.invokevirtual 81, 3) := by decide +kernel
theorem dX7_write_46 : decode cX7_write 46 = .ok (.ireturn, 1) := by decide +kernel
theorem dX7_write_47 : decode cX7_write 47 = .ok (.aload_n 0, 1) := by decide +kernel
theorem dX7_write_48 : decode cX7_write 48 = .ok (.aload_n 0, 1) := by decide +kernel
theorem dX7_write_49 : decode cX7_write 49 = .ok (.getfield 39, 3) := by decide +kernel
theorem dX7_write_52 : decode cX7_write 52 = .ok (.iload_n 1, 1) := by decide +kernel
theorem dX7_write_53 : decode cX7_write 53 = .ok (.iaload, 1) := by decide +kernel
theorem dX7_write_54 : decode cX7_write 54 = .ok (.iload_n 1, 1) := by decide +kernel
theorem dX7_write_55 : decode cX7_write 55 = .ok (.iconst (-1), 1) := by decide +kernel
theorem dX7_write_56 : decode cX7_write 56 = .ok (.invokevirtual 85, 3) := by decide +kernel
theorem dX7_write_59 : decode cX7_write 59 = .ok (.istore 5, 2) := by decide +kernel
theorem dX7_write_61 : decode cX7_write 61 = .ok (.iconst 0, 1) := by decide +kernel
theorem dX7_write_62 : decode cX7_write 62 = .ok (.istore 6, 2) := by decide +kernel
theorem dX7_write_64 : decode cX7_write 64 = .ok (.iload 6, 2) := by decide +kernel
theorem dX7_write_66 : decode cX7_write 66 = .ok (.aload_n 0, 1) := by decide +kernel
theorem dX7_write_67 : decode cX7_write 67 = .ok (.aload_n 0, 1) := by decide +kernel
theorem dX7_write_68 : decode cX7_write 68 = .ok (.getfield 39, 3) := by decide +kernel
theorem dX7_write_71 : decode cX7_write 71 = .ok (.iload_n 1, 1) := by decide +kernel
theorem dX7_write_72 : decode cX7_write 72 = .ok (.iaload, 1) := by decide +kernel
theorem dX7_write_73 : decode cX7_write 73 = .ok (.invokevirtual 106, 3) := by decide +kernel
theorem dX7_write_76 : decode cX7_write 76 = .ok (.if_icmp .ge 28, 3) := by decide +kernel
theorem dX7_write_79 : decode cX7_write 79 = .ok (.aload_n 0, 1) := by decide +kernel
theorem dX7_write_80 : decode cX7_write 80 = .ok (.aload_n 0, 1) := by decide +kernel
theorem dX7_write_81 : decode cX7_write 81 = .ok (.iload_n 1, 1) := by decide +kernel
theorem dX7_write_82 : decode cX7_write 82 = .ok (.iload 6, 2) := by decide +kernel
theorem dX7_write_84 : decode cX7_write 84 = .ok (.invokevirtual 89, 3) := by decide +kernel
theorem dX7_write_87 : decode cX7_write 87 = .ok (.aload_n 0, 1) := by decide +kernel
theorem dX7_write_88 : decode cX7_write 88 = .ok (.iload 5, 2) := by decide +kernel
theorem dX7_write_90 : decode cX7_write 90 = .ok (.iload 6, 2) := by decide +kernel
theorem dX7_write_92 : decode cX7_write 92 = .ok (.invokevirtual 89, 3) := by decide +kernel
theorem dX7_write_95 : decode cX7_write 95 = .ok (.invokevirtual 109, 3) := by decide +kernel
theorem dX7_write_98 : decode cX7_write 98 = .ok (.iinc 6 1, 3) := by decide +kernel
theorem dX7_write_101 : decode cX7_write 101 = .ok (.goto (-37), 3) := by decide +kernel
theorem dX7_write_104 : decode cX7_write 104 = .ok (.aload_n 0, 1) := by decide +kernel
theorem dX7_write_105 : decode cX7_write 105 = .ok (.iload 5, 2) := by decide +kernel
theorem dX7_write_107 : decode cX7_write 107 = .ok (.iload_n 3, 1) := by decide +kernel
theorem dX7_write_108 : decode cX7_write 108 = .ok (.iload 4, 2) := by decide +kernel
theorem dX7_write_110 : decode cX7_write 110 = .ok (.invokevirtual 113, 3) := by decide +kernel
theorem dX7_write_113 : decode cX7_write 113 = .ok (.istore 6, 2) := by decide +kernel
theorem dX7_write_115 : decode cX7_write 115 = .ok (.aload_n 0, 1) := by decide +kernel
theorem dX7_write_116 : decode cX7_write 116 = .ok (.getfield 49, 3) := by decide +kernel
theorem dX7_write_119 : decode cX7_write 119 = .ok (.iload 6, 2) := by decide +kernel
theorem dX7_write_121 : decode cX7_write 121 = .ok (.iconst 1, 1) := by decide +kernel
theorem dX7_write_122 : decode cX7_write 122 = .ok (.iastore, 1) := by decide +kernel
theorem dX7_write_123 : decode cX7_write 123 = .ok (.aload_n 0, 1) := by decide +kernel
theorem dX7_write_124 : decode cX7_write 124 = .ok (.getfield 49, 3) := by decide +kernel
theorem dX7_write_127 : decode cX7_write 127 = .ok (.iload 6, 2) := by decide +kernel
theorem dX7_write_129 : decode cX7_write 129 = .ok (.iconst 1, 1) := by decide +kernel
theorem dX7_write_130 : decode cX7_write 130 = .ok (.iadd, 1) := by decide +kernel
theorem dX7_write_131 : decode cX7_write 131 = .ok (.iload_n 2, 1) := by decide +kernel
theorem dX7_write_132 : decode cX7_write 132 = .ok (.iastore, 1) := by decide +kernel
theorem dX7_write_133 : decode cX7_write 133 = .ok (.aload_n 0, 1) := by decide +kernel
theorem dX7_write_134 : decode cX7_write 134 = .ok (.getfield 49, 3) := by decide +kernel
theorem dX7_write_137 : decode cX7_write 137 = .ok (.iload 6, 2) := by decide +kernel
theorem dX7_write_139 : decode cX7_write 139 = .ok (.iconst 2, 1) := by decide +kernel
theorem dX7_write_140 : decode cX7_write 140 = .ok (.iadd, 1) := by decide +kernel
theorem dX7_write_141 : decode cX7_write 141 = .ok (.aload_n 0, 1) := by decide +kernel
theorem dX7_write_142 : decode cX7_write 142 = .ok (.getfield 16, 3) := by decide +kernel
theorem dX7_write_145 : decode cX7_write 145 = .ok (.iastore, 1) := by decide +kernel
theorem dX7_write_146 : decode cX7_write 146 = .ok (.iconst 0, 1) := by decide +kernel
theorem dX7_write_147 : decode cX7_write 147 = .ok (.istore 7, 2) := by decide +kernel
theorem dX7_write_149 : decode cX7_write 149 = .ok (.iload 7, 2) := by decide +kernel
theorem dX7_write_151 : decode cX7_write 151 = .ok (.aload_n 0, 1) := by decide +kernel
theorem dX7_write_152 : decode cX7_write 152 = .ok (.getfield 16, 3) := by decide +kernel
theorem dX7_write_155 : decode cX7_write 155 = .ok (.if_icmp .ge 28, 3) := by decide +kernel
theorem dX7_write_158 : decode cX7_write 158 = .ok (.aload_n 0, 1) := by decide +kernel
theorem dX7_write_159 : decode cX7_write 159 = .ok (.getfield 49, 3) := by decide +kernel
theorem dX7_write_162 : decode cX7_write 162 = .ok (.iload 6, 2) := by decide +kernel
theorem dX7_write_164 : decode cX7_write 164 = .ok (.iconst 3, 1) := by decide +kernel
theorem dX7_write_165 : decode cX7_write 165 = .ok (.iadd, 1) := by decide +kernel
theorem dX7_write_166 : decode cX7_write 166 = .ok (.iload 7, 2) := by decide +kernel
theorem dX7_write_168 : decode cX7_write 168 = .ok (.iadd, 1) := by decide +kernel
theorem dX7_write_169 : decode cX7_write 169 = .ok (.aload_n 0, 1) := by decide +kernel
theorem dX7_write_170 : decode cX7_write 170 = .ok (.getfield 52, 3) := by decide +kernel
theorem dX7_write_173 : decode cX7_write 173 = .ok (.iload 7, 2) := by decide +kernel
theorem dX7_write_175 : decode cX7_write 175 = .ok (.iaload, 1) := by decide +kernel
theorem dX7_write_176 : decode cX7_write 176 = .ok (.iastore, 1) := by decide +kernel
theorem dX7_write_177 : decode cX7_write 177 = .ok (.iinc 7 1, 3) := by decide +kernel
theorem dX7_write_180 : decode cX7_write 180 = .ok (.goto (-31), 3) := by decide +kernel
theorem dX7_write_183 : decode cX7_write 183 = .ok (.aload_n 0, 1) := by decide +kernel
theorem dX7_write_184 : decode cX7_write 184 = .ok (.iconst 0, 1) := by decide +kernel
theorem dX7_write_185 : decode cX7_write 185 = .ok (.putfield 16, 3) := by decide +kernel
theorem dX7_write_188 : decode cX7_write 188 = .ok (.aload_n 0, 1) := by decide +kernel
theorem dX7_write_189 : decode cX7_write 189 = .ok (.iload 5, 2) := by decide +kernel
theorem dX7_write_191 : decode cX7_write 191 = .ok (.invokevirtual 93, 3) := by decide +kernel
theorem dX7_write_194 : decode cX7_write 194 = .ok (.ireturn, 1) := by decide +kernel
theorem dX7_rule_0 : decode cX7_rule 0 = .ok (.aload_n 0, 1) := by decide +kernel
theorem dX7_rule_1 : decode cX7_rule 1 = .ok (.iload_n 1, 1) := by decide +kernel
theorem dX7_rule_2 : decode cX7_rule 2 = .ok (.invokevirtual 96, 3) := by decide +kernel
theorem dX7_rule_5 : decode cX7_rule 5 = .ok (.ifCond .eq 23, 3) := by decide +kernel
theorem dX7_rule_8 : decode cX7_rule 8 = .ok (.iload_n 2, 1) := by decide +kernel
theorem dX7_rule_9 : decode cX7_rule 9 = .ok (.iconst 0, 1) := by decide +kernel
theorem dX7_rule_10 : decode cX7_rule 10 = .ok (.aload_n 0, 1) := by decide +kernel
theorem dX7_rule_11 : decode cX7_rule 11 = .ok (.getfield 29, 3) := by decide +kernel
theorem dX7_rule_14 : decode cX7_rule 14 = .ok (.iload_n 1, 1) := by decide +kernel
theorem dX7_rule_15 : decode cX7_rule 15 = .ok (.iaload, 1) := by decide +kernel
theorem dX7_rule_16 : decode cX7_rule 16 = .ok (.iconst 1, 1) := by decide +kernel
theorem dX7_rule_17 : decode cX7_rule 17 = .ok (.isub, 1) := by decide +kernel
theorem dX7_rule_18 : decode cX7_rule 18 = .ok (.invokestatic 77, 3) := by decide +kernel
theorem dX7_rule_21 : decode cX7_rule 21 = .ok (.ifCond .eq 7, 3) := by decide +kernel
theorem dX7_rule_24 : decode cX7_rule 24 = .ok (.iconst 1, 1) := by decide +kernel
theorem dX7_rule_25 : decode cX7_rule 25 = .ok (.goto 4, 3) := by decide +kernel
theorem dX7_rule_28 : decode cX7_rule 28 = .ok (.iconst 0, 1) := by decide +kernel
theorem dX7_rule_29 : decode cX7_rule 29 = .ok (.istore 4, 2) := by decide +kernel
theorem dX7_rule_31 : decode cX7_rule 31 = .ok (.aload_n 0, 1) := by decide +kernel
theorem dX7_rule_32 : decode cX7_rule 32 = .ok (.iload 4, 2) := by decide +kernel
theorem dX7_rule_34 : decode cX7_rule 34 = .ok (.ifCond .ne 7, 3) := by decide +kernel
theorem dX7_rule_37 : decode cX7_rule 37 = .ok (.iconst 1, 1) := by decide +kernel
theorem dX7_rule_38 : decode cX7_rule 38 = .ok (.goto 26, 3) := by decide +kernel
theorem dX7_rule_41 : decode cX7_rule 41 = .ok (.iload_n 3, 1) := by decide +kernel
theorem dX7_rule_42 : decode cX7_rule 42 = .ok (.bipush 108, 2) := by decide +kernel
theorem dX7_rule_44 : decode cX7_rule 44 = .ok (.if_icmp .eq 19, 3) := by decide +kernel
theorem dX7_rule_47 : decode cX7_rule 47 = .ok (.iload_n 3, 1) := by decide +kernel
theorem dX7_rule_48 : decode cX7_rule 48 = .ok (.bipush 110, 2) := by decide +kernel
theorem dX7_rule_50 : decode cX7_rule 50 = .ok (.if_icmp .eq 13, 3) := by decide +kernel
theorem dX7_rule_53 : decode cX7_rule 53 = .ok (.iload_n 3, 1) := by decide +kernel
theorem dX7_rule_54 : decode cX7_rule 54 = .ok (.bipush 98, 2) := by decide +kernel
theorem dX7_rule_56 : decode cX7_rule 56 = .ok (.if_icmp .eq 7, 3) := by decide +kernel
theorem dX7_rule_59 : decode cX7_rule 59 = .ok (.iconst 2, 1) := by decide +kernel
theorem dX7_rule_60 : decode cX7_rule 60 = .ok (.goto 4, 3) := by decide +kernel
theorem dX7_rule_63 : decode cX7_rule 63 = .ok (.iconst 0, 1) := by decide +kernel
theorem dX7_rule_64 : decode cX7_rule 64 = .ok (.putfield 22, 3) := by decide +kernel
theorem dX7_rule_67 : decode cX7_rule 67 = .ok (.aload_n 0, 1) := by decide +kernel
theorem dX7_rule_68 : decode cX7_rule 68 = .ok (.getfield 22, 3) := by decide +kernel
theorem dX7_rule_71 : decode cX7_rule 71 = .ok (.ifCond .le 5, 3) := by decide +kernel
theorem dX7_rule_74 : decode cX7_rule 74 = .ok (.iconst 0, 1) := by decide +kernel
theorem dX7_rule_75 : decode cX7_rule 75 = .ok (.ireturn, 1) := by decide +kernel
theorem dX7_rule_76 : decode cX7_rule 76 = .ok (.aload_n 0, 1) := by decide +kernel
theorem dX7_rule_77 : decode cX7_rule 77 = .ok (.getfield 35, 3) := by decide +kernel
theorem dX7_rule_80 : decode cX7_rule 80 = .ok (.iconst 4, 1) := by decide +kernel
theorem dX7_rule_81 : decode cX7_rule 81 = .ok (.iload_n 1, 1) := by decide +kernel
theorem dX7_rule_82 : decode cX7_rule 82 = .ok (.imul, 1) := by decide +kernel
theorem dX7_rule_83 : decode cX7_rule 83 = .ok (.iload_n 2, 1) := by decide +kernel
theorem dX7_rule_84 : decode cX7_rule 84 = .ok (.iadd, 1) := by decide +kernel
theorem dX7_rule_85 : decode cX7_rule 85 = .ok (.caload, 1) := by decide +kernel
theorem dX7_rule_86 : decode cX7_rule 86 = .ok (.istore 5, 2) := by decide +kernel
theorem dX7_rule_88 : decode cX7_rule 88 = .ok (.aload_n 0, 1) := by decide +kernel
theorem dX7_rule_89 : decode cX7_rule 89 = .ok (.getfield 35, 3) := by decide +kernel
theorem dX7_rule_92 : decode cX7_rule 92 = .ok (.iconst 4, 1) := by decide +kernel
theorem dX7_rule_93 : decode cX7_rule 93 = .ok (.iload_n 1, 1) := by decide +kernel
theorem dX7_rule_94 : decode cX7_rule 94 = .ok (.imul, 1) := by decide +kernel
theorem dX7_rule_95 : decode cX7_rule 95 = .ok (.iload_n 2, 1) := by decide +kernel
theorem dX7_rule_96 : decode cX7_rule 96 = .ok (.iadd, 1) := by decide +kernel
theorem dX7_rule_97 : decode cX7_rule 97 = .ok (.iload_n 3, 1) := by decide +kernel
theorem dX7_rule_98 : decode cX7_rule 98 = .ok (.castore, 1) := by decide +kernel
theorem dX7_rule_99 : decode cX7_rule 99 = .ok (.iload 5, 2) := by decide +kernel
theorem dX7_rule_101 : decode cX7_rule 101 = .ok (.ireturn, 1) := by decide +kernel
theorem dX7_isAboveOf_0 : decode cX7_isAboveOf 0 = .ok (.iconst 0, 1) := by decide +kernel
theorem dX7_isAboveOf_1 : decode cX7_isAboveOf 1 = .ok (.istore_n 3, 1) := by decide +kernel
theorem dX7_isAboveOf_2 : decode cX7_isAboveOf 2 = .ok (.iload_n 3, 1) := by decide +kernel
theorem dX7_isAboveOf_3 : decode cX7_isAboveOf 3 = .ok (.bipush 40, 2) := by decide +kernel
theorem dX7_isAboveOf_5 : decode cX7_isAboveOf 5 = .ok (.if_icmp .ge 25, 3) := by decide +kernel
theorem dX7_isAboveOf_8 : decode cX7_isAboveOf 8 = .ok (.aload_n 0, 1) := by decide +kernel
theorem dX7_isAboveOf_9 : decode cX7_isAboveOf 9 = .ok (.getfield 65, 3) := by decide +kernel
theorem dX7_isAboveOf_12 : decode cX7_isAboveOf 12 = .ok (.iload_n 3, 1) := by decide +kernel
theorem dX7_isAboveOf_13 : decode cX7_isAboveOf 13 = .ok (.iload_n 3, 1) := by decide +kernel
theorem dX7_isAboveOf_14 : decode cX7_isAboveOf 14 = .ok (.iload_n 2, 1) := by decide +kernel
theorem dX7_isAboveOf_15 : decode cX7_isAboveOf 15 = .ok (.if_icmp .ne 7, 3) := by decide +kernel
theorem dX7_isAboveOf_18 : decode cX7_isAboveOf 18 = .ok (.iconst 1, 1) := by decide +kernel
theorem dX7_isAboveOf_19 : decode cX7_isAboveOf 19 = .ok (.goto 4, 3) := by decide +kernel
theorem dX7_isAboveOf_22 : decode cX7_isAboveOf 22 = .ok (.iconst 0, 1) := by decide +kernel
theorem dX7_isAboveOf_23 : decode cX7_isAboveOf 23 = .ok (.bastore, 1) := by decide +kernel
theorem dX7_isAboveOf_24 : decode cX7_isAboveOf 24 = .ok (.iinc 3 1, 3) := by decide +kernel
theorem dX7_isAboveOf_27 : decode cX7_isAboveOf 27 = .ok (.goto (-25), 3) := by decide +kernel
theorem dX7_isAboveOf_30 : decode cX7_isAboveOf 30 = .ok (.iload_n 2, 1) := by decide +kernel
theorem dX7_isAboveOf_31 : decode cX7_isAboveOf 31 = .ok (.istore_n 3, 1) := by decide +kernel
theorem dX7_isAboveOf_32 : decode cX7_isAboveOf 32 = .ok (.iload_n 3, 1) := by decide +kernel
theorem dX7_isAboveOf_33 : decode cX7_isAboveOf 33 = .ok (.iload_n 1, 1) := by decide +kernel
theorem dX7_isAboveOf_34 : decode cX7_isAboveOf 34 = .ok (.if_icmp .le 71, 3) := by decide +kernel
theorem dX7_isAboveOf_37 : decode cX7_isAboveOf 37 = .ok (.aload_n 0, 1) := by decide +kernel
theorem dX7_isAboveOf_38 : decode cX7_isAboveOf 38 = .ok (.getfield 65, 3) := by decide +kernel
theorem dX7_isAboveOf_41 : decode cX7_isAboveOf 41 = .ok (.iload_n 3, 1) := by decide +kernel
theorem dX7_isAboveOf_42 : decode cX7_isAboveOf 42 = .ok (.baload, 1) := by decide +kernel
theorem dX7_isAboveOf_43 : decode cX7_isAboveOf 43 = .ok (.ifCond .eq 25, 3) := by decide +kernel
theorem dX7_isAboveOf_46 : decode cX7_isAboveOf 46 = .ok (.aload_n 0, 1) := by decide +kernel
theorem dX7_isAboveOf_47 : decode cX7_isAboveOf 47 = .ok (.getfield 42, 3) := by decide +kernel
theorem dX7_isAboveOf_50 : decode cX7_isAboveOf 50 = .ok (.iload_n 3, 1) := by decide +kernel
theorem dX7_isAboveOf_51 : decode cX7_isAboveOf 51 = .ok (.iaload, 1) := by decide +kernel
theorem dX7_isAboveOf_52 : decode cX7_isAboveOf 52 = .ok (.iconst (-1), 1) := by decide +kernel
theorem dX7_isAboveOf_53 : decode cX7_isAboveOf 53 = .ok (.if_icmp .eq 15, 3) := by decide +kernel
theorem dX7_isAboveOf_56 : decode cX7_isAboveOf 56 = .ok (.aload_n 0, 1) := by decide +kernel
theorem dX7_isAboveOf_57 : decode cX7_isAboveOf 57 = .ok (.getfield 65, 3) := by decide +kernel
theorem dX7_isAboveOf_60 : decode cX7_isAboveOf 60 = .ok (.aload_n 0, 1) := by decide +kernel
theorem dX7_isAboveOf_61 : decode cX7_isAboveOf 61 = .ok (.getfield 42, 3) := by decide +kernel
theorem dX7_isAboveOf_64 : decode cX7_isAboveOf 64 = .ok (.iload_n 3, 1) := by decide +kernel
theorem dX7_isAboveOf_65 : decode cX7_isAboveOf 65 = .ok (.iaload, 1) := by decide +kernel
theorem dX7_isAboveOf_66 : decode cX7_isAboveOf 66 = .ok (.iconst 1, 1) := by decide +kernel
theorem dX7_isAboveOf_67 : decode cX7_isAboveOf 67 = .ok (.bastore, 1) := by decide +kernel
theorem dX7_isAboveOf_68 : decode cX7_isAboveOf 68 = .ok (.aload_n 0, 1) := by decide +kernel
theorem dX7_isAboveOf_69 : decode cX7_isAboveOf 69 = .ok (.getfield 65, 3) := by decide +kernel
theorem dX7_isAboveOf_72 : decode cX7_isAboveOf 72 = .ok (.iload_n 3, 1) := by decide +kernel
theorem dX7_isAboveOf_73 : decode cX7_isAboveOf 73 = .ok (.baload, 1) := by decide +kernel
theorem dX7_isAboveOf_74 : decode cX7_isAboveOf 74 = .ok (.ifCond .eq 25, 3) := by decide +kernel
theorem dX7_isAboveOf_77 : decode cX7_isAboveOf 77 = .ok (.aload_n 0, 1) := by decide +kernel
theorem dX7_isAboveOf_78 : decode cX7_isAboveOf 78 = .ok (.getfield 45, 3) := by decide +kernel
theorem dX7_isAboveOf_81 : decode cX7_isAboveOf 81 = .ok (.iload_n 3, 1) := by decide +kernel
theorem dX7_isAboveOf_82 : decode cX7_isAboveOf 82 = .ok (.iaload, 1) := by decide +kernel
theorem dX7_isAboveOf_83 : decode cX7_isAboveOf 83 = .ok (.iconst (-1), 1) := by decide +kernel
theorem dX7_isAboveOf_84 : decode cX7_isAboveOf 84 = .ok (.if_icmp .eq 15, 3) := by decide +kernel
theorem dX7_isAboveOf_87 : decode cX7_isAboveOf 87 = .ok (.aload_n 0, 1) := by decide +kernel
theorem dX7_isAboveOf_88 : decode cX7_isAboveOf 88 = .ok (.getfield 65, 3) := by decide +kernel
theorem dX7_isAboveOf_91 : decode cX7_isAboveOf 91 = .ok (.aload_n 0, 1) := by decide +kernel
theorem dX7_isAboveOf_92 : decode cX7_isAboveOf 92 = .ok (.getfield 45, 3) := by decide +kernel
theorem dX7_isAboveOf_95 : decode cX7_isAboveOf 95 = .ok (.iload_n 3, 1) := by decide +kernel
theorem dX7_isAboveOf_96 : decode cX7_isAboveOf 96 = .ok (.iaload, 1) := by decide +kernel
theorem dX7_isAboveOf_97 : decode cX7_isAboveOf 97 = .ok (.iconst 1, 1) := by decide +kernel
theorem dX7_isAboveOf_98 : decode cX7_isAboveOf 98 = .ok (.bastore, 1) := by decide +kernel
theorem dX7_isAboveOf_99 : decode cX7_isAboveOf 99 = .ok (.iinc 3 (-1), 3) := by decide +kernel
theorem dX7_isAboveOf_102 : decode cX7_isAboveOf 102 = .ok (.goto (-70), 3) := by decide +kernel
theorem dX7_isAboveOf_105 : decode cX7_isAboveOf 105 = .ok (.aload_n 0, 1) := by decide +kernel
theorem dX7_isAboveOf_106 : decode cX7_isAboveOf 106 = .ok (.getfield 65, 3) := by decide +kernel
theorem dX7_isAboveOf_109 : decode cX7_isAboveOf 109 = .ok (.iload_n 1, 1) := by decide +kernel
theorem dX7_isAboveOf_110 : decode cX7_isAboveOf 110 = .ok (.baload, 1) := by decide +kernel
theorem dX7_isAboveOf_111 : decode cX7_isAboveOf 111 = .ok (.ireturn, 1) := by decide +kernel
theorem dX7_baseOf_0 : decode cX7_baseOf 0 = .ok (.iconst (-1), 1) := by decide +kernel
theorem dX7_baseOf_1 : decode cX7_baseOf 1 = .ok (.istore_n 3, 1) := by decide +kernel
theorem dX7_baseOf_2 : decode cX7_baseOf 2 = .ok (.iconst 0, 1) := by decide +kernel
theorem dX7_baseOf_3 : decode cX7_baseOf 3 = .ok (.istore 4, 2) := by decide +kernel
theorem dX7_baseOf_5 : decode cX7_baseOf 5 = .ok (.iload 4, 2) := by decide +kernel
theorem dX7_baseOf_7 : decode cX7_baseOf 7 = .ok (.aload_n 0, 1) := by decide +kernel
theorem dX7_baseOf_8 : decode cX7_baseOf 8 = .ok (.getfield 13, 3) := by decide +kernel
theorem dX7_baseOf_11 : decode cX7_baseOf 11 = .ok (.if_icmp .ge 36, 3) := by decide +kernel
theorem dX7_baseOf_14 : decode cX7_baseOf 14 = .ok (.aload_n 0, 1) := by decide +kernel
theorem dX7_baseOf_15 : decode cX7_baseOf 15 = .ok (.iload 4, 2) := by decide +kernel
theorem dX7_baseOf_17 : decode cX7_baseOf 17 = .ok (.iload_n 1, 1) := by decide +kernel
theorem dX7_baseOf_18 : decode cX7_baseOf 18 = .ok (.invokevirtual 116, 3) := by decide +kernel
theorem dX7_baseOf_21 : decode cX7_baseOf 21 = .ok (.ifCond .eq 18, 3) := by decide +kernel
theorem dX7_baseOf_24 : decode cX7_baseOf 24 = .ok (.aload_n 0, 1) := by decide +kernel
theorem dX7_baseOf_25 : decode cX7_baseOf 25 = .ok (.iload 4, 2) := by decide +kernel
theorem dX7_baseOf_27 : decode cX7_baseOf 27 = .ok (.iload_n 2, 1) := by decide +kernel
theorem dX7_baseOf_28 : decode cX7_baseOf 28 = .ok (.invokevirtual 116, 3) := by decide +kernel
theorem dX7_baseOf_31 : decode cX7_baseOf 31 = .ok (.ifCond .eq 8, 3) := by decide +kernel
theorem dX7_baseOf_34 : decode cX7_baseOf 34 = .ok (.iload 4, 2) := by decide +kernel
theorem dX7_baseOf_36 : decode cX7_baseOf 36 = .ok (.goto 4, 3) := by decide +kernel
theorem dX7_baseOf_39 : decode cX7_baseOf 39 = .ok (.iload_n 3, 1) := by decide +kernel
theorem dX7_baseOf_40 : decode cX7_baseOf 40 = .ok (.istore_n 3, 1) := by decide +kernel
theorem dX7_baseOf_41 : decode cX7_baseOf 41 = .ok (.iinc 4 1, 3) := by decide +kernel
theorem dX7_baseOf_44 : decode cX7_baseOf 44 = .ok (.goto (-39), 3) := by decide +kernel
theorem dX7_baseOf_47 : decode cX7_baseOf 47 = .ok (.iload_n 3, 1) := by decide +kernel
theorem dX7_baseOf_48 : decode cX7_baseOf 48 = .ok (.ireturn, 1) := by decide +kernel
theorem dX7_areRows_0 : decode cX7_areRows 0 = .ok (.aload_n 0, 1) := by decide +kernel
theorem dX7_areRows_1 : decode cX7_areRows 1 = .ok (.getfield 49, 3) := by decide +kernel
theorem dX7_areRows_4 : decode cX7_areRows 4 = .ok (.iload_n 1, 1) := by decide +kernel
theorem dX7_areRows_5 : decode cX7_areRows 5 = .ok (.iconst 1, 1) := by decide +kernel
theorem dX7_areRows_6 : decode cX7_areRows 6 = .ok (.iadd, 1) := by decide +kernel
theorem dX7_areRows_7 : decode cX7_areRows 7 = .ok (.iaload, 1) := by decide +kernel
theorem dX7_areRows_8 : decode cX7_areRows 8 = .ok (.aload_n 0, 1) := by decide +kernel
theorem dX7_areRows_9 : decode cX7_areRows 9 = .ok (.getfield 49, 3) := by decide +kernel
theorem dX7_areRows_12 : decode cX7_areRows 12 = .ok (.iload_n 2, 1) := by decide +kernel
theorem dX7_areRows_13 : decode cX7_areRows 13 = .ok (.iconst 1, 1) := by decide +kernel
theorem dX7_areRows_14 : decode cX7_areRows 14 = .ok (.iadd, 1) := by decide +kernel
theorem dX7_areRows_15 : decode cX7_areRows 15 = .ok (.iaload, 1) := by decide +kernel
theorem dX7_areRows_16 : decode cX7_areRows 16 = .ok (.if_icmp .ne 7, 3) := by decide +kernel
theorem dX7_areRows_19 : decode cX7_areRows 19 = .ok (.iconst 1, 1) := by decide +kernel
theorem dX7_areRows_20 : decode cX7_areRows 20 = .ok (.goto 4, 3) := by decide +kernel
theorem dX7_areRows_23 : decode cX7_areRows 23 = .ok (.iconst 0, 1) := by decide +kernel
theorem dX7_areRows_24 : decode cX7_areRows 24 = .ok (.istore_n 3, 1) := by decide +kernel
theorem dX7_areRows_25 : decode cX7_areRows 25 = .ok (.iconst 0, 1) := by decide +kernel
theorem dX7_areRows_26 : decode cX7_areRows 26 = .ok (.istore 4, 2) := by decide +kernel
theorem dX7_areRows_28 : decode cX7_areRows 28 = .ok (.iload 4, 2) := by decide +kernel
theorem dX7_areRows_30 : decode cX7_areRows 30 = .ok (.aload_n 0, 1) := by decide +kernel
theorem dX7_areRows_31 : decode cX7_areRows 31 = .ok (.getfield 49, 3) := by decide +kernel
theorem dX7_areRows_34 : decode cX7_areRows 34 = .ok (.iload_n 1, 1) := by decide +kernel
theorem dX7_areRows_35 : decode cX7_areRows 35 = .ok (.iconst 1, 1) := by decide +kernel
theorem dX7_areRows_36 : decode cX7_areRows 36 = .ok (.iadd, 1) := by decide +kernel
theorem dX7_areRows_37 : decode cX7_areRows 37 = .ok (.iaload, 1) := by decide +kernel
theorem dX7_areRows_38 : decode cX7_areRows 38 = .ok (.if_icmp .ge 44, 3) := by decide +kernel
theorem dX7_areRows_41 : decode cX7_areRows 41 = .ok (.iload_n 3, 1) := by decide +kernel
theorem dX7_areRows_42 : decode cX7_areRows 42 = .ok (.ifCond .eq 32, 3) := by decide +kernel
theorem dX7_areRows_45 : decode cX7_areRows 45 = .ok (.aload_n 0, 1) := by decide +kernel
theorem dX7_areRows_46 : decode cX7_areRows 46 = .ok (.getfield 49, 3) := by decide +kernel
theorem dX7_areRows_49 : decode cX7_areRows 49 = .ok (.iload_n 1, 1) := by decide +kernel
theorem dX7_areRows_50 : decode cX7_areRows 50 = .ok (.iconst 2, 1) := by decide +kernel
theorem dX7_areRows_51 : decode cX7_areRows 51 = .ok (.iadd, 1) := by decide +kernel
theorem dX7_areRows_52 : decode cX7_areRows 52 = .ok (.iload 4, 2) := by decide +kernel
theorem dX7_areRows_54 : decode cX7_areRows 54 = .ok (.iadd, 1) := by decide +kernel
theorem dX7_areRows_55 : decode cX7_areRows 55 = .ok (.iaload, 1) := by decide +kernel
theorem dX7_areRows_56 : decode cX7_areRows 56 = .ok (.aload_n 0, 1) := by decide +kernel
theorem dX7_areRows_57 : decode cX7_areRows 57 = .ok (.getfield 49, 3) := by decide +kernel
theorem dX7_areRows_60 : decode cX7_areRows 60 = .ok (.iload_n 2, 1) := by decide +kernel
theorem dX7_areRows_61 : decode cX7_areRows 61 = .ok (.iconst 2, 1) := by decide +kernel
theorem dX7_areRows_62 : decode cX7_areRows 62 = .ok (.iadd, 1) := by decide +kernel
theorem dX7_areRows_63 : decode cX7_areRows 63 = .ok (.iload 4, 2) := by decide +kernel
theorem dX7_areRows_65 : decode cX7_areRows 65 = .ok (.iadd, 1) := by decide +kernel
theorem dX7_areRows_66 : decode cX7_areRows 66 = .ok (.iaload, 1) := by decide +kernel
theorem dX7_areRows_67 : decode cX7_areRows 67 = .ok (.if_icmp .ne 7, 3) := by decide +kernel
theorem dX7_areRows_70 : decode cX7_areRows 70 = .ok (.iconst 1, 1) := by decide +kernel
theorem dX7_areRows_71 : decode cX7_areRows 71 = .ok (.goto 4, 3) := by decide +kernel
theorem dX7_areRows_74 : decode cX7_areRows 74 = .ok (.iconst 0, 1) := by decide +kernel
theorem dX7_areRows_75 : decode cX7_areRows 75 = .ok (.istore_n 3, 1) := by decide +kernel
theorem dX7_areRows_76 : decode cX7_areRows 76 = .ok (.iinc 4 1, 3) := by decide +kernel
theorem dX7_areRows_79 : decode cX7_areRows 79 = .ok (.goto (-51), 3) := by decide +kernel
theorem dX7_areRows_82 : decode cX7_areRows 82 = .ok (.iload_n 3, 1) := by decide +kernel
theorem dX7_areRows_83 : decode cX7_areRows 83 = .ok (.ireturn, 1) := by decide +kernel
theorem dX7_areAlike_0 : decode cX7_areAlike 0 = .ok (.aload_n 0, 1) := by decide +kernel
theorem dX7_areAlike_1 : decode cX7_areAlike 1 = .ok (.getfield 49, 3) := by decide +kernel
theorem dX7_areAlike_4 : decode cX7_areAlike 4 = .ok (.iload_n 1, 1) := by decide +kernel
theorem dX7_areAlike_5 : decode cX7_areAlike 5 = .ok (.iaload, 1) := by decide +kernel
theorem dX7_areAlike_6 : decode cX7_areAlike 6 = .ok (.aload_n 0, 1) := by decide +kernel
theorem dX7_areAlike_7 : decode cX7_areAlike 7 = .ok (.getfield 49, 3) := by decide +kernel
theorem dX7_areAlike_10 : decode cX7_areAlike 10 = .ok (.iload_n 2, 1) := by decide +kernel
theorem dX7_areAlike_11 : decode cX7_areAlike 11 = .ok (.iaload, 1) := by decide +kernel
theorem dX7_areAlike_12 : decode cX7_areAlike 12 = .ok (.if_icmp .ne 7, 3) := by decide +kernel
theorem dX7_areAlike_15 : decode cX7_areAlike 15 = .ok (.iconst 1, 1) := by decide +kernel
theorem dX7_areAlike_16 : decode cX7_areAlike 16 = .ok (.goto 4, 3) := by decide +kernel
theorem dX7_areAlike_19 : decode cX7_areAlike 19 = .ok (.iconst 0, 1) := by decide +kernel
theorem dX7_areAlike_20 : decode cX7_areAlike 20 = .ok (.istore_n 3, 1) := by decide +kernel
theorem dX7_areAlike_21 : decode cX7_areAlike 21 = .ok (.iconst 0, 1) := by decide +kernel
theorem dX7_areAlike_22 : decode cX7_areAlike 22 = .ok (.istore 4, 2) := by decide +kernel
theorem dX7_areAlike_24 : decode cX7_areAlike 24 = .ok (.iload 4, 2) := by decide +kernel
theorem dX7_areAlike_26 : decode cX7_areAlike 26 = .ok (.aload_n 0, 1) := by decide +kernel
theorem dX7_areAlike_27 : decode cX7_areAlike 27 = .ok (.getfield 49, 3) := by decide +kernel
theorem dX7_areAlike_30 : decode cX7_areAlike 30 = .ok (.iload_n 1, 1) := by decide +kernel
theorem dX7_areAlike_31 : decode cX7_areAlike 31 = .ok (.iaload, 1) := by decide +kernel
theorem dX7_areAlike_32 : decode cX7_areAlike 32 = .ok (.if_icmp .ge 44, 3) := by decide +kernel
theorem dX7_areAlike_35 : decode cX7_areAlike 35 = .ok (.iload_n 3, 1) := by decide +kernel
theorem dX7_areAlike_36 : decode cX7_areAlike 36 = .ok (.ifCond .eq 32, 3) := by decide +kernel
theorem dX7_areAlike_39 : decode cX7_areAlike 39 = .ok (.aload_n 0, 1) := by decide +kernel
theorem dX7_areAlike_40 : decode cX7_areAlike 40 = .ok (.iload_n 1, 1) := by decide +kernel
theorem dX7_areAlike_41 : decode cX7_areAlike 41 = .ok (.iconst 1, 1) := by decide +kernel
theorem dX7_areAlike_42 : decode cX7_areAlike 42 = .ok (.iadd, 1) := by decide +kernel
theorem dX7_areAlike_43 : decode cX7_areAlike 43 = .ok (.bipush 10, 2) := by decide +kernel
theorem dX7_areAlike_45 : decode cX7_areAlike 45 = .ok (.iload 4, 2) := by decide +kernel
theorem dX7_areAlike_47 : decode cX7_areAlike 47 = .ok (.imul, 1) := by decide +kernel
theorem dX7_areAlike_48 : decode cX7_areAlike 48 = .ok (.iadd, 1) := by decide +kernel
theorem dX7_areAlike_49 : decode cX7_areAlike 49 = .ok (.iload_n 2, 1) := by decide +kernel
theorem dX7_areAlike_50 : decode cX7_areAlike 50 = .ok (.iconst 1, 1) := by decide +kernel
theorem dX7_areAlike_51 : decode cX7_areAlike 51 = .ok (.iadd, 1) := by decide +kernel
theorem dX7_areAlike_52 : decode cX7_areAlike 52 = .ok (.bipush 10, 2) := by decide +kernel
theorem dX7_areAlike_54 : decode cX7_areAlike 54 = .ok (.iload 4, 2) := by decide +kernel
theorem dX7_areAlike_56 : decode cX7_areAlike 56 = .ok (.imul, 1) := by decide +kernel
theorem dX7_areAlike_57 : decode cX7_areAlike 57 = .ok (.iadd, 1) := by decide +kernel
theorem dX7_areAlike_58 : decode cX7_areAlike 58 = .ok (.invokevirtual 120, 3) := by decide +kernel
theorem dX7_areAlike_61 : decode cX7_areAlike 61 = .ok (.ifCond .eq 7, 3) := by decide +kernel
theorem dX7_areAlike_64 : decode cX7_areAlike 64 = .ok (.iconst 1, 1) := by decide +kernel
theorem dX7_areAlike_65 : decode cX7_areAlike 65 = .ok (.goto 4, 3) := by decide +kernel
theorem dX7_areAlike_68 : decode cX7_areAlike 68 = .ok (.iconst 0, 1) := by decide +kernel
theorem dX7_areAlike_69 : decode cX7_areAlike 69 = .ok (.istore_n 3, 1) := by decide +kernel
theorem dX7_areAlike_70 : decode cX7_areAlike 70 = .ok (.iinc 4 1, 3) := by decide +kernel
theorem dX7_areAlike_73 : decode cX7_areAlike 73 = .ok (.goto (-49), 3) := by decide +kernel
theorem dX7_areAlike_76 : decode cX7_areAlike 76 = .ok (.iload_n 3, 1) := by decide +kernel
theorem dX7_areAlike_77 : decode cX7_areAlike 77 = .ok (.ireturn, 1) := by decide +kernel
theorem dX7_notesOf_0 : decode cX7_notesOf 0 = .ok (.iconst 0, 1) := by decide +kernel
theorem dX7_notesOf_1 : decode cX7_notesOf 1 = .ok (.istore_n 2, 1) := by decide +kernel
theorem dX7_notesOf_2 : decode cX7_notesOf 2 = .ok (.iconst 0, 1) := by decide +kernel
theorem dX7_notesOf_3 : decode cX7_notesOf 3 = .ok (.istore_n 3, 1) := by decide +kernel
theorem dX7_notesOf_4 : decode cX7_notesOf 4 = .ok (.iload_n 3, 1) := by decide +kernel
theorem dX7_notesOf_5 : decode cX7_notesOf 5 = .ok (.aload_n 0, 1) := by decide +kernel
theorem dX7_notesOf_6 : decode cX7_notesOf 6 = .ok (.getfield 49, 3) := by decide +kernel
theorem dX7_notesOf_9 : decode cX7_notesOf 9 = .ok (.iload_n 1, 1) := by decide +kernel
theorem dX7_notesOf_10 : decode cX7_notesOf 10 = .ok (.iaload, 1) := by decide +kernel
theorem dX7_notesOf_11 : decode cX7_notesOf 11 = .ok (.if_icmp .ge 25, 3) := by decide +kernel
theorem dX7_notesOf_14 : decode cX7_notesOf 14 = .ok (.iload_n 2, 1) := by decide +kernel
theorem dX7_notesOf_15 : decode cX7_notesOf 15 = .ok (.aload_n 0, 1) := by decide +kernel
theorem dX7_notesOf_16 : decode cX7_notesOf 16 = .ok (.getfield 49, 3) := by decide +kernel
theorem dX7_notesOf_19 : decode cX7_notesOf 19 = .ok (.iload_n 1, 1) := by decide +kernel
theorem dX7_notesOf_20 : decode cX7_notesOf 20 = .ok (.iconst 2, 1) := by decide +kernel
theorem dX7_notesOf_21 : decode cX7_notesOf 21 = .ok (.iadd, 1) := by decide +kernel
theorem dX7_notesOf_22 : decode cX7_notesOf 22 = .ok (.bipush 10, 2) := by decide +kernel
theorem dX7_notesOf_24 : decode cX7_notesOf 24 = .ok (.iload_n 3, 1) := by decide +kernel
theorem dX7_notesOf_25 : decode cX7_notesOf 25 = .ok (.imul, 1) := by decide +kernel
theorem dX7_notesOf_26 : decode cX7_notesOf 26 = .ok (.iadd, 1) := by decide +kernel
theorem dX7_notesOf_27 : decode cX7_notesOf 27 = .ok (.iaload, 1) := by decide +kernel
theorem dX7_notesOf_28 : decode cX7_notesOf 28 = .ok (.iadd, 1) := by decide +kernel
theorem dX7_notesOf_29 : decode cX7_notesOf 29 = .ok (.istore_n 2, 1) := by decide +kernel
theorem dX7_notesOf_30 : decode cX7_notesOf 30 = .ok (.iinc 3 1, 3) := by decide +kernel
theorem dX7_notesOf_33 : decode cX7_notesOf 33 = .ok (.goto (-29), 3) := by decide +kernel
theorem dX7_notesOf_36 : decode cX7_notesOf 36 = .ok (.iload_n 2, 1) := by decide +kernel
theorem dX7_notesOf_37 : decode cX7_notesOf 37 = .ok (.ireturn, 1) := by decide +kernel
theorem dX7_joins_0 : decode cX7_joins 0 = .ok (.iconst 0, 1) := by decide +kernel
theorem dX7_joins_1 : decode cX7_joins 1 = .ok (.istore_n 3, 1) := by decide +kernel
theorem dX7_joins_2 : decode cX7_joins 2 = .ok (.iload_n 3, 1) := by decide +kernel
theorem dX7_joins_3 : decode cX7_joins 3 = .ok (.aload_n 0, 1) := by decide +kernel
theorem dX7_joins_4 : decode cX7_joins 4 = .ok (.getfield 49, 3) := by decide +kernel
theorem dX7_joins_7 : decode cX7_joins 7 = .ok (.iload_n 1, 1) := by decide +kernel
theorem dX7_joins_8 : decode cX7_joins 8 = .ok (.iaload, 1) := by decide +kernel
theorem dX7_joins_9 : decode cX7_joins 9 = .ok (.if_icmp .ge 149, 3) := by decide +kernel
theorem dX7_joins_12 : decode cX7_joins 12 = .ok (.iconst 0, 1) := by decide +kernel
theorem dX7_joins_13 : decode cX7_joins 13 = .ok (.istore 4, 2) := by decide +kernel
theorem dX7_joins_15 : decode cX7_joins 15 = .ok (.iconst 0, 1) := by decide +kernel
theorem dX7_joins_16 : decode cX7_joins 16 = .ok (.istore 5, 2) := by decide +kernel
theorem dX7_joins_18 : decode cX7_joins 18 = .ok (.iload 5, 2) := by decide +kernel
theorem dX7_joins_20 : decode cX7_joins 20 = .ok (.aload_n 0, 1) := by decide +kernel
theorem dX7_joins_21 : decode cX7_joins 21 = .ok (.getfield 49, 3) := by decide +kernel
theorem dX7_joins_24 : decode cX7_joins 24 = .ok (.iload_n 2, 1) := by decide +kernel
theorem dX7_joins_25 : decode cX7_joins 25 = .ok (.iaload, 1) := by decide +kernel
theorem dX7_joins_26 : decode cX7_joins 26 = .ok (.if_icmp .ge 45, 3) := by decide +kernel
theorem dX7_joins_29 : decode cX7_joins 29 = .ok (.iload 4, 2) := by decide +kernel
theorem dX7_joins_31 : decode cX7_joins 31 = .ok (.ifCond .ne 27, 3) := by decide +kernel
theorem dX7_joins_34 : decode cX7_joins 34 = .ok (.aload_n 0, 1) := by decide +kernel
theorem dX7_joins_35 : decode cX7_joins 35 = .ok (.iload_n 2, 1) := by decide +kernel
theorem dX7_joins_36 : decode cX7_joins 36 = .ok (.iconst 1, 1) := by decide +kernel
theorem dX7_joins_37 : decode cX7_joins 37 = .ok (.iadd, 1) := by decide +kernel
theorem dX7_joins_38 : decode cX7_joins 38 = .ok (.bipush 10, 2) := by decide +kernel
theorem dX7_joins_40 : decode cX7_joins 40 = .ok (.iload 5, 2) := by decide +kernel
theorem dX7_joins_42 : decode cX7_joins 42 = .ok (.imul, 1) := by decide +kernel
theorem dX7_joins_43 : decode cX7_joins 43 = .ok (.iadd, 1) := by decide +kernel
theorem dX7_joins_44 : decode cX7_joins 44 = .ok (.iload_n 1, 1) := by decide +kernel
theorem dX7_joins_45 : decode cX7_joins 45 = .ok (.iconst 1, 1) := by decide +kernel
theorem dX7_joins_46 : decode cX7_joins 46 = .ok (.iadd, 1) := by decide +kernel
theorem dX7_joins_47 : decode cX7_joins 47 = .ok (.bipush 10, 2) := by decide +kernel
theorem dX7_joins_49 : decode cX7_joins 49 = .ok (.iload_n 3, 1) := by decide +kernel
theorem dX7_joins_50 : decode cX7_joins 50 = .ok (.imul, 1) := by decide +kernel
theorem dX7_joins_51 : decode cX7_joins 51 = .ok (.iadd, 1) := by decide +kernel
theorem dX7_joins_52 : decode cX7_joins 52 = .ok (.invokevirtual 120, 3) := by decide +kernel
theorem dX7_joins_55 : decode cX7_joins 55 = .ok (.ifCond .eq 7, 3) := by decide +kernel
theorem dX7_joins_58 : decode cX7_joins 58 = .ok (.iconst 1, 1) := by decide +kernel
theorem dX7_joins_59 : decode cX7_joins 59 = .ok (.goto 4, 3) := by decide +kernel
theorem dX7_joins_62 : decode cX7_joins 62 = .ok (.iconst 0, 1) := by decide +kernel
theorem dX7_joins_63 : decode cX7_joins 63 = .ok (.istore 4, 2) := by decide +kernel
theorem dX7_joins_65 : decode cX7_joins 65 = .ok (.iinc 5 1, 3) := by decide +kernel
theorem dX7_joins_68 : decode cX7_joins 68 = .ok (.goto (-50), 3) := by decide +kernel
theorem dX7_joins_71 : decode cX7_joins 71 = .ok (.iload 4, 2) := by decide +kernel
theorem dX7_joins_73 : decode cX7_joins 73 = .ok (.ifCond .ne 79, 3) := by decide +kernel
theorem dX7_joins_76 : decode cX7_joins 76 = .ok (.aload_n 0, 1) := by decide +kernel
theorem dX7_joins_77 : decode cX7_joins 77 = .ok (.getfield 49, 3) := by decide +kernel
theorem dX7_joins_80 : decode cX7_joins 80 = .ok (.iload_n 2, 1) := by decide +kernel
theorem dX7_joins_81 : decode cX7_joins 81 = .ok (.iaload, 1) := by decide +kernel
theorem dX7_joins_82 : decode cX7_joins 82 = .ok (.iconst 4, 1) := by decide +kernel
theorem dX7_joins_83 : decode cX7_joins 83 = .ok (.if_icmp .ne 6, 3) := by decide +kernel
theorem dX7_joins_86 : decode cX7_joins 86 = .ok (.goto 66, 3) := by decide +kernel
theorem dX7_joins_89 : decode cX7_joins 89 = .ok (.iconst 0, 1) := by decide +kernel
theorem dX7_joins_90 : decode cX7_joins 90 = .ok (.istore 5, 2) := by decide +kernel
theorem dX7_joins_92 : decode cX7_joins 92 = .ok (.iload 5, 2) := by decide +kernel
theorem dX7_joins_94 : decode cX7_joins 94 = .ok (.bipush 10, 2) := by decide +kernel
theorem dX7_joins_96 : decode cX7_joins 96 = .ok (.if_icmp .ge 46, 3) := by decide +kernel
theorem dX7_joins_99 : decode cX7_joins 99 = .ok (.aload_n 0, 1) := by decide +kernel
theorem dX7_joins_100 : decode cX7_joins 100 = .ok (.getfield 49, 3) := by decide +kernel
theorem dX7_joins_103 : decode cX7_joins 103 = .ok (.iload_n 2, 1) := by decide +kernel
theorem dX7_joins_104 : decode cX7_joins 104 = .ok (.iconst 1, 1) := by decide +kernel
theorem dX7_joins_105 : decode cX7_joins 105 = .ok (.iadd, 1) := by decide +kernel
theorem dX7_joins_106 : decode cX7_joins 106 = .ok (.bipush 10, 2) := by decide +kernel
theorem dX7_joins_108 : decode cX7_joins 108 = .ok (.aload_n 0, 1) := by decide +kernel
theorem dX7_joins_109 : decode cX7_joins 109 = .ok (.getfield 49, 3) := by decide +kernel
theorem dX7_joins_112 : decode cX7_joins 112 = .ok (.iload_n 2, 1) := by decide +kernel
theorem dX7_joins_113 : decode cX7_joins 113 = .ok (.iaload, 1) := by decide +kernel
theorem dX7_joins_114 : decode cX7_joins 114 = .ok (.imul, 1) := by decide +kernel
theorem dX7_joins_115 : decode cX7_joins 115 = .ok (.iadd, 1) := by decide +kernel
theorem dX7_joins_116 : decode cX7_joins 116 = .ok (.iload 5, 2) := by decide +kernel
theorem dX7_joins_118 : decode cX7_joins 118 = .ok (.iadd, 1) := by decide +kernel
theorem dX7_joins_119 : decode cX7_joins 119 = .ok (.aload_n 0, 1) := by decide +kernel
theorem dX7_joins_120 : decode cX7_joins 120 = .ok (.getfield 49, 3) := by decide +kernel
theorem dX7_joins_123 : decode cX7_joins 123 = .ok (.iload_n 1, 1) := by decide +kernel
theorem dX7_joins_124 : decode cX7_joins 124 = .ok (.iconst 1, 1) := by decide +kernel
theorem dX7_joins_125 : decode cX7_joins 125 = .ok (.iadd, 1) := by decide +kernel
theorem dX7_joins_126 : decode cX7_joins 126 = .ok (.bipush 10, 2) := by decide +kernel
theorem dX7_joins_128 : decode cX7_joins 128 = .ok (.iload_n 3, 1) := by decide +kernel
theorem dX7_joins_129 : decode cX7_joins 129 = .ok (.imul, 1) := by decide +kernel
theorem dX7_joins_130 : decode cX7_joins 130 = .ok (.iadd, 1) := by decide +kernel
theorem dX7_joins_131 : decode cX7_joins 131 = .ok (.iload 5, 2) := by decide +kernel
theorem dX7_joins_133 : decode cX7_joins 133 = .ok (.iadd, 1) := by decide +kernel
theorem dX7_joins_134 : decode cX7_joins 134 = .ok (.iaload, 1) := by decide +kernel
theorem dX7_joins_135 : decode cX7_joins 135 = .ok (.iastore, 1) := by decide +kernel
theorem dX7_joins_136 : decode cX7_joins 136 = .ok (.iinc 5 1, 3) := by decide +kernel
theorem dX7_joins_139 : decode cX7_joins 139 = .ok (.goto (-47), 3) := by decide +kernel
theorem dX7_joins_142 : decode cX7_joins 142 = .ok (.aload_n 0, 1) := by decide +kernel
theorem dX7_joins_143 : decode cX7_joins 143 = .ok (.getfield 49, 3) := by decide +kernel
theorem dX7_joins_146 : decode cX7_joins 146 = .ok (.iload_n 2, 1) := by decide +kernel
theorem dX7_joins_147 : decode cX7_joins 147 = .ok (.dup2, 1) := by decide +kernel
theorem dX7_joins_148 : decode cX7_joins 148 = .ok (.iaload, 1) := by decide +kernel
theorem dX7_joins_149 : decode cX7_joins 149 = .ok (.iconst 1, 1) := by decide +kernel
theorem dX7_joins_150 : decode cX7_joins 150 = .ok (.iadd, 1) := by decide +kernel
theorem dX7_joins_151 : decode cX7_joins 151 = .ok (.iastore, 1) := by decide +kernel
theorem dX7_joins_152 : decode cX7_joins 152 = .ok (.iinc 3 1, 3) := by decide +kernel
theorem dX7_joins_155 : decode cX7_joins 155 = .ok (.goto (-153), 3) := by decide +kernel
theorem dX7_joins_158 : decode cX7_joins 158 = .ok (.return_, 1) := by decide +kernel
theorem dX7_merge_0 : decode cX7_merge 0 = .ok (.aload_n 0, 1) := by decide +kernel
theorem dX7_merge_1 : decode cX7_merge 1 = .ok (.iload_n 1, 1) := by decide +kernel
theorem dX7_merge_2 : decode cX7_merge 2 = .ok (.invokevirtual 100, 3) := by decide +kernel
theorem dX7_merge_5 : decode cX7_merge 5 = .ok (.ifCond .eq 11, 3) := by decide +kernel
theorem dX7_merge_8 : decode cX7_merge 8 = .ok (.aload_n 0, 1) := by decide +kernel
theorem dX7_merge_9 : decode cX7_merge 9 = .ok (.iload_n 2, 1) := by decide +kernel
theorem dX7_merge_10 : decode cX7_merge 10 = .ok (.invokevirtual 100, 3) := by decide +kernel
theorem dX7_merge_13 : decode cX7_merge 13 = .ok (.ifCond .ne 9, 3) := by decide +kernel
theorem dX7_merge_16 : decode cX7_merge 16 = .ok (.aload_n 0, 1) := by decide +kernel
theorem dX7_merge_17 : decode cX7_merge 17 = .ok (.iconst 1, 1) := by decide +kernel
theorem dX7_merge_18 : decode cX7_merge 18 = .ok (.invokevirtual 81, 3) := by decide +kernel
theorem dX7_merge_21 : decode cX7_merge 21 = .ok (.ireturn, 1) := by decide +kernel
theorem dX7_merge_22 : decode cX7_merge 22 = .ok (.iload_n 3, 1) := by decide +kernel
theorem dX7_merge_23 : decode cX7_merge 23 = .ok (.iconst 0, 1) := by decide +kernel
theorem dX7_merge_24 : decode cX7_merge 24 = .ok (.iconst 5, 1) := by decide +kernel
theorem dX7_merge_25 : decode cX7_merge 25 = .ok (.invokestatic 77, 3) := by decide +kernel
theorem dX7_merge_28 : decode cX7_merge 28 = .ok (.ifCond .ne 9, 3) := by decide +kernel
theorem dX7_merge_31 : decode cX7_merge 31 = .ok (.aload_n 0, 1) := by decide +kernel
theorem dX7_merge_32 : decode cX7_merge 32 = .ok (.iconst 2, 1) := by decide +kernel
theorem dX7_merge_33 : decode cX7_merge 33 = .ok (.invokevirtual 81, 3) := by decide +kernel
theorem dX7_merge_36 : decode cX7_merge 36 = .ok (.ireturn, 1) := by decide +kernel
theorem dX7_merge_37 : decode cX7_merge 37 = .ok (.aload_n 0, 1) := by decide +kernel
theorem dX7_merge_38 : decode cX7_merge 38 = .ok (.getfield 39, 3) := by decide +kernel
theorem dX7_merge_41 : decode cX7_merge 41 = .ok (.iload_n 1, 1) := by decide +kernel
theorem dX7_merge_42 : decode cX7_merge 42 = .ok (.iaload, 1) := by decide +kernel
theorem dX7_merge_43 : decode cX7_merge 43 = .ok (.aload_n 0, 1) := by decide +kernel
theorem dX7_merge_44 : decode cX7_merge 44 = .ok (.getfield 39, 3) := by decide +kernel
theorem dX7_merge_47 : decode cX7_merge 47 = .ok (.iload_n 2, 1) := by decide +kernel
theorem dX7_merge_48 : decode cX7_merge 48 = .ok (.iaload, 1) := by decide +kernel
theorem dX7_merge_49 : decode cX7_merge 49 = .ok (.if_icmp .ne 21, 3) := by decide +kernel
theorem dX7_merge_52 : decode cX7_merge 52 = .ok (.aload_n 0, 1) := by decide +kernel
theorem dX7_merge_53 : decode cX7_merge 53 = .ok (.iload_n 1, 1) := by decide +kernel
theorem dX7_merge_54 : decode cX7_merge 54 = .ok (.iload_n 2, 1) := by decide +kernel
theorem dX7_merge_55 : decode cX7_merge 55 = .ok (.invokevirtual 116, 3) := by decide +kernel
theorem dX7_merge_58 : decode cX7_merge 58 = .ok (.ifCond .ne 12, 3) := by decide +kernel
theorem dX7_merge_61 : decode cX7_merge 61 = .ok (.aload_n 0, 1) := by decide +kernel
theorem dX7_merge_62 : decode cX7_merge 62 = .ok (.iload_n 2, 1) := by decide +kernel
theorem dX7_merge_63 : decode cX7_merge 63 = .ok (.iload_n 1, 1) := by decide +kernel
theorem dX7_merge_64 : decode cX7_merge 64 = .ok (.invokevirtual 116, 3) := by decide +kernel
theorem dX7_merge_67 : decode cX7_merge 67 = .ok (.ifCond .eq 9, 3) := by decide +kernel
theorem dX7_merge_70 : decode cX7_merge 70 = .ok (.aload_n 0, 1) := by decide +kernel
theorem dX7_merge_71 : decode cX7_merge 71 = .ok (.iconst 3, 1) := by decide +kernel
theorem dX7_merge_72 : decode cX7_merge 72 = .ok (.invokevirtual 81, 3) := by decide +kernel
theorem dX7_merge_75 : decode cX7_merge 75 = .ok (.ireturn, 1) := by decide +kernel
theorem dX7_merge_76 : decode cX7_merge 76 = .ok (.aload_n 0, 1) := by decide +kernel
theorem dX7_merge_77 : decode cX7_merge 77 = .ok (.getfield 13, 3) := by decide +kernel
theorem dX7_merge_80 : decode cX7_merge 80 = .ok (.bipush 40, 2) := by decide +kernel
theorem dX7_merge_82 : decode cX7_merge 82 = .ok (.if_icmp .ne 9, 3) := by decide +kernel
theorem dX7_merge_85 : decode cX7_merge 85 = .ok (.aload_n 0, 1) := by decide +kernel
theorem dX7_merge_86 : decode cX7_merge 86 = .ok (.iconst 4, 1) := by decide +kernel
theorem dX7_merge_87 : decode cX7_merge 87 = .ok (.invokevirtual 81, 3) := by decide +kernel
theorem dX7_merge_90 : decode cX7_merge 90 = .ok (.ireturn, 1) := by decide +kernel
theorem dX7_merge_91 : decode cX7_merge 91 = .ok (.aload_n 0, 1) := by decide +kernel
theorem dX7_merge_92 : decode cX7_merge 92 = .ok (.getfield 39, 3) := by decide +kernel
theorem dX7_merge_95 : decode cX7_merge 95 = .ok (.iload_n 1, 1) := by decide +kernel
theorem dX7_merge_96 : decode cX7_merge 96 = .ok (.iaload, 1) := by decide +kernel
theorem dX7_merge_97 : decode cX7_merge 97 = .ok (.istore 4, 2) := by decide +kernel
theorem dX7_merge_99 : decode cX7_merge 99 = .ok (.aload_n 0, 1) := by decide +kernel
theorem dX7_merge_100 : decode cX7_merge 100 = .ok (.iload_n 1, 1) := by decide +kernel
theorem dX7_merge_101 : decode cX7_merge 101 = .ok (.iload_n 2, 1) := by decide +kernel
theorem dX7_merge_102 : decode cX7_merge 102 = .ok (.invokevirtual 123, 3) := by decide +kernel
theorem dX7_merge_105 : decode cX7_merge 105 = .ok (.istore 5, 2) := by decide +kernel
theorem dX7_merge_107 : decode cX7_merge 107 = .ok (.aload_n 0, 1) := by decide +kernel
theorem dX7_merge_108 : decode cX7_merge 108 = .ok (.iload 4, 2) := by decide +kernel
theorem dX7_merge_110 : decode cX7_merge 110 = .ok (.iload_n 1, 1) := by decide +kernel
theorem dX7_merge_111 : decode cX7_merge 111 = .ok (.iload_n 2, 1) := by decide +kernel
theorem dX7_merge_112 : decode cX7_merge 112 = .ok (.invokevirtual 85, 3) := by decide +kernel
theorem dX7_merge_115 : decode cX7_merge 115 = .ok (.istore 6, 2) := by decide +kernel
theorem dX7_merge_117 : decode cX7_merge 117 = .ok (.iconst 0, 1) := by decide +kernel
theorem dX7_merge_118 : decode cX7_merge 118 = .ok (.istore 7, 2) := by decide +kernel
theorem dX7_merge_120 : decode cX7_merge 120 = .ok (.iload 7, 2) := by decide +kernel
theorem dX7_merge_122 : decode cX7_merge 122 = .ok (.aload_n 0, 1) := by decide +kernel
theorem dX7_merge_123 : decode cX7_merge 123 = .ok (.iload 4, 2) := by decide +kernel
theorem dX7_merge_125 : decode cX7_merge 125 = .ok (.invokevirtual 106, 3) := by decide +kernel
theorem dX7_merge_128 : decode cX7_merge 128 = .ok (.if_icmp .ge 242, 3) := by decide +kernel
theorem dX7_merge_131 : decode cX7_merge 131 = .ok (.aload_n 0, 1) := by decide +kernel
theorem dX7_merge_132 : decode cX7_merge 132 = .ok (.iload_n 1, 1) := by decide +kernel
theorem dX7_merge_133 : decode cX7_merge 133 = .ok (.iload 7, 2) := by decide +kernel
theorem dX7_merge_135 : decode cX7_merge 135 = .ok (.invokevirtual 89, 3) := by decide +kernel
theorem dX7_merge_138 : decode cX7_merge 138 = .ok (.istore 8, 2) := by decide +kernel
theorem dX7_merge_140 : decode cX7_merge 140 = .ok (.aload_n 0, 1) := by decide +kernel
theorem dX7_merge_141 : decode cX7_merge 141 = .ok (.iload_n 2, 1) := by decide +kernel
theorem dX7_merge_142 : decode cX7_merge 142 = .ok (.iload 7, 2) := by decide +kernel
theorem dX7_merge_144 : decode cX7_merge 144 = .ok (.invokevirtual 89, 3) := by decide +kernel
theorem dX7_merge_147 : decode cX7_merge 147 = .ok (.istore 9, 2) := by decide +kernel
theorem dX7_merge_149 : decode cX7_merge 149 = .ok (.aload_n 0, 1) := by decide +kernel
theorem dX7_merge_150 : decode cX7_merge 150 = .ok (.iload 6, 2) := by decide +kernel
theorem dX7_merge_152 : decode cX7_merge 152 = .ok (.iload 7, 2) := by decide +kernel
theorem dX7_merge_154 : decode cX7_merge 154 = .ok (.invokevirtual 89, 3) := by decide +kernel
theorem dX7_merge_157 : decode cX7_merge 157 = .ok (.istore 10, 2) := by decide +kernel
theorem dX7_merge_159 : decode cX7_merge 159 = .ok (.aload_n 0, 1) := by decide +kernel
theorem dX7_merge_160 : decode cX7_merge 160 = .ok (.getfield 35, 3) := by decide +kernel
theorem dX7_merge_163 : decode cX7_merge 163 = .ok (.iconst 4, 1) := by decide +kernel
theorem dX7_merge_164 : decode cX7_merge 164 = .ok (.iload 4, 2) := by decide +kernel
theorem dX7_merge_166 : decode cX7_merge 166 = .ok (.imul, 1) := by decide +kernel
theorem dX7_merge_167 : decode cX7_merge 167 = .ok (.iload 7, 2) := by decide +kernel
theorem dX7_merge_169 : decode cX7_merge 169 = .ok (.aload_n 0, 1) := by decide +kernel
theorem dX7_merge_170 : decode cX7_merge 170 = .ok (.getfield 29, 3) := by decide +kernel
theorem dX7_merge_173 : decode cX7_merge 173 = .ok (.iload 4, 2) := by decide +kernel
theorem dX7_merge_175 : decode cX7_merge 175 = .ok (.iaload, 1) := by decide +kernel
theorem dX7_merge_176 : decode cX7_merge 176 = .ok (.irem, 1) := by decide +kernel
theorem dX7_merge_177 : decode cX7_merge 177 = .ok (.iadd, 1) := by decide +kernel
theorem dX7_merge_178 : decode cX7_merge 178 = .ok (.caload, 1) := by decide +kernel
theorem dX7_merge_179 : decode cX7_merge 179 = .ok (.istore 11, 2) := by decide +kernel
theorem dX7_merge_181 : decode cX7_merge 181 = .ok (.aload_n 0, 1) := by decide +kernel
theorem dX7_merge_182 : decode cX7_merge 182 = .ok (.iload 8, 2) := by decide +kernel
theorem dX7_merge_184 : decode cX7_merge 184 = .ok (.iload 9, 2) := by decide +kernel
theorem dX7_merge_186 : decode cX7_merge 186 = .ok (.invokevirtual 126, 3) := by decide +kernel
theorem dX7_merge_189 : decode cX7_merge 189 = .ok (.ifCond .ne 78, 3) := by decide +kernel
theorem dX7_merge_192 : decode cX7_merge 192 = .ok (.aload_n 0, 1) := by decide +kernel
theorem dX7_merge_193 : decode cX7_merge 193 = .ok (.iload 8, 2) := by decide +kernel
theorem dX7_merge_195 : decode cX7_merge 195 = .ok (.aload_n 0, 1) := by decide +kernel
theorem dX7_merge_196 : decode cX7_merge 196 = .ok (.iload 5, 2) := by decide +kernel
theorem dX7_merge_198 : decode cX7_merge 198 = .ok (.iload 7, 2) := by decide +kernel
theorem dX7_merge_200 : decode cX7_merge 200 = .ok (.invokevirtual 89, 3) := by decide +kernel
theorem dX7_merge_203 : decode cX7_merge 203 = .ok (.invokevirtual 126, 3) := by decide +kernel
theorem dX7_merge_206 : decode cX7_merge 206 = .ok (.ifCond .ne 65, 3) := by decide +kernel
theorem dX7_merge_209 : decode cX7_merge 209 = .ok (.aload_n 0, 1) := by decide +kernel
theorem dX7_merge_210 : decode cX7_merge 210 = .ok (.iload 9, 2) := by decide +kernel
theorem dX7_merge_212 : decode cX7_merge 212 = .ok (.aload_n 0, 1) := by decide +kernel
theorem dX7_merge_213 : decode cX7_merge 213 = .ok (.iload 5, 2) := by decide +kernel
theorem dX7_merge_215 : decode cX7_merge 215 = .ok (.iload 7, 2) := by decide +kernel
theorem dX7_merge_217 : decode cX7_merge 217 = .ok (.invokevirtual 89, 3) := by decide +kernel
theorem dX7_merge_220 : decode cX7_merge 220 = .ok (.invokevirtual 126, 3) := by decide +kernel
theorem dX7_merge_223 : decode cX7_merge 223 = .ok (.ifCond .ne 44, 3) := by decide +kernel
theorem dX7_merge_226 : decode cX7_merge 226 = .ok (.iload 11, 2) := by decide +kernel
theorem dX7_merge_228 : decode cX7_merge 228 = .ok (.bipush 98, 2) := by decide +kernel
theorem dX7_merge_230 : decode cX7_merge 230 = .ok (.if_icmp .eq 37, 3) := by decide +kernel
theorem dX7_merge_233 : decode cX7_merge 233 = .ok (.iload 11, 2) := by decide +kernel
theorem dX7_merge_235 : decode cX7_merge 235 = .ok (.bipush 108, 2) := by decide +kernel
theorem dX7_merge_237 : decode cX7_merge 237 = .ok (.if_icmp .ne 8, 3) := by decide +kernel
theorem dX7_merge_240 : decode cX7_merge 240 = .ok (.iload_n 1, 1) := by decide +kernel
theorem dX7_merge_241 : decode cX7_merge 241 = .ok (.iload_n 2, 1) := by decide +kernel
theorem dX7_merge_242 : decode cX7_merge 242 = .ok (.if_icmp .gt 25, 3) := by decide +kernel
theorem dX7_merge_245 : decode cX7_merge 245 = .ok (.iload 11, 2) := by decide +kernel
theorem dX7_merge_247 : decode cX7_merge 247 = .ok (.bipush 110, 2) := by decide +kernel
theorem dX7_merge_249 : decode cX7_merge 249 = .ok (.if_icmp .ne 22, 3) := by decide +kernel
theorem dX7_merge_252 : decode cX7_merge 252 = .ok (.aload_n 0, 1) := by decide +kernel
theorem dX7_merge_253 : decode cX7_merge 253 = .ok (.iload 8, 2) := by decide +kernel
theorem dX7_merge_255 : decode cX7_merge 255 = .ok (.invokevirtual 129, 3) := by decide +kernel
theorem dX7_merge_258 : decode cX7_merge 258 = .ok (.aload_n 0, 1) := by decide +kernel
theorem dX7_merge_259 : decode cX7_merge 259 = .ok (.iload 9, 2) := by decide +kernel
theorem dX7_merge_261 : decode cX7_merge 261 = .ok (.invokevirtual 129, 3) := by decide +kernel
theorem dX7_merge_264 : decode cX7_merge 264 = .ok (.if_icmp .lt 7, 3) := by decide +kernel
theorem dX7_merge_267 : decode cX7_merge 267 = .ok (.iconst 1, 1) := by decide +kernel
theorem dX7_merge_268 : decode cX7_merge 268 = .ok (.goto 4, 3) := by decide +kernel
theorem dX7_merge_271 : decode cX7_merge 271 = .ok (.iconst 0, 1) := by decide +kernel
theorem dX7_merge_272 : decode cX7_merge 272 = .ok (.istore 12, 2) := by decide +kernel
theorem dX7_merge_274 : decode cX7_merge 274 = .ok (.aload_n 0, 1) := by decide +kernel
theorem dX7_merge_275 : decode cX7_merge 275 = .ok (.iload 12, 2) := by decide +kernel
theorem dX7_merge_277 : decode cX7_merge 277 = .ok (.ifCond .eq 8, 3) := by decide +kernel
theorem dX7_merge_280 : decode cX7_merge 280 = .ok (.iload 8, 2) := by decide +kernel
theorem dX7_merge_282 : decode cX7_merge 282 = .ok (.goto 5, 3) := by decide +kernel
theorem dX7_merge_285 : decode cX7_merge 285 = .ok (.iload 9, 2) := by decide +kernel
theorem dX7_merge_287 : decode cX7_merge 287 = .ok (.iload 10, 2) := by decide +kernel
theorem dX7_merge_289 : decode cX7_merge 289 = .ok (.invokevirtual 109, 3) := by decide +kernel
theorem dX7_merge_292 : decode cX7_merge 292 = .ok (.aload_n 0, 1) := by decide +kernel
theorem dX7_merge_293 : decode cX7_merge 293 = .ok (.iload 8, 2) := by decide +kernel
theorem dX7_merge_295 : decode cX7_merge 295 = .ok (.iload 9, 2) := by decide +kernel
theorem dX7_merge_297 : decode cX7_merge 297 = .ok (.invokevirtual 126, 3) := by decide +kernel
theorem dX7_merge_300 : decode cX7_merge 300 = .ok (.ifCond .ne 48, 3) := by decide +kernel
theorem dX7_merge_303 : decode cX7_merge 303 = .ok (.aload_n 0, 1) := by decide +kernel
theorem dX7_merge_304 : decode cX7_merge 304 = .ok (.iload 8, 2) := by decide +kernel
theorem dX7_merge_306 : decode cX7_merge 306 = .ok (.aload_n 0, 1) := by decide +kernel
theorem dX7_merge_307 : decode cX7_merge 307 = .ok (.iload 5, 2) := by decide +kernel
theorem dX7_merge_309 : decode cX7_merge 309 = .ok (.iload 7, 2) := by decide +kernel
theorem dX7_merge_311 : decode cX7_merge 311 = .ok (.invokevirtual 89, 3) := by decide +kernel
theorem dX7_merge_314 : decode cX7_merge 314 = .ok (.invokevirtual 126, 3) := by decide +kernel
theorem dX7_merge_317 : decode cX7_merge 317 = .ok (.ifCond .ne 31, 3) := by decide +kernel
theorem dX7_merge_320 : decode cX7_merge 320 = .ok (.aload_n 0, 1) := by decide +kernel
theorem dX7_merge_321 : decode cX7_merge 321 = .ok (.iload 9, 2) := by decide +kernel
theorem dX7_merge_323 : decode cX7_merge 323 = .ok (.aload_n 0, 1) := by decide +kernel
theorem dX7_merge_324 : decode cX7_merge 324 = .ok (.iload 5, 2) := by decide +kernel
theorem dX7_merge_326 : decode cX7_merge 326 = .ok (.iload 7, 2) := by decide +kernel
theorem dX7_merge_328 : decode cX7_merge 328 = .ok (.invokevirtual 89, 3) := by decide +kernel
theorem dX7_merge_331 : decode cX7_merge 331 = .ok (.invokevirtual 126, 3) := by decide +kernel
theorem dX7_merge_334 : decode cX7_merge 334 = .ok (.ifCond .ne 14, 3) := by decide +kernel
theorem dX7_merge_337 : decode cX7_merge 337 = .ok (.iload 11, 2) := by decide +kernel
theorem dX7_merge_339 : decode cX7_merge 339 = .ok (.bipush 98, 2) := by decide +kernel
theorem dX7_merge_341 : decode cX7_merge 341 = .ok (.if_icmp .ne 7, 3) := by decide +kernel
theorem dX7_merge_344 : decode cX7_merge 344 = .ok (.iconst 1, 1) := by decide +kernel
theorem dX7_merge_345 : decode cX7_merge 345 = .ok (.goto 4, 3) := by decide +kernel
theorem dX7_merge_348 : decode cX7_merge 348 = .ok (.iconst 0, 1) := by decide +kernel
theorem dX7_merge_349 : decode cX7_merge 349 = .ok (.istore 13, 2) := by decide +kernel
theorem dX7_merge_351 : decode cX7_merge 351 = .ok (.iload 13, 2) := by decide +kernel
theorem dX7_merge_353 : decode cX7_merge 353 = .ok (.ifCond .eq 11, 3) := by decide +kernel
theorem dX7_merge_356 : decode cX7_merge 356 = .ok (.aload_n 0, 1) := by decide +kernel
theorem dX7_merge_357 : decode cX7_merge 357 = .ok (.iload 9, 2) := by decide +kernel
theorem dX7_merge_359 : decode cX7_merge 359 = .ok (.iload 10, 2) := by decide +kernel
theorem dX7_merge_361 : decode cX7_merge 361 = .ok (.invokevirtual 132, 3) := by decide +kernel
theorem dX7_merge_364 : decode cX7_merge 364 = .ok (.iinc 7 1, 3) := by decide +kernel
theorem dX7_merge_367 : decode cX7_merge 367 = .ok (.goto (-247), 3) := by decide +kernel
theorem dX7_merge_370 : decode cX7_merge 370 = .ok (.aload_n 0, 1) := by decide +kernel
theorem dX7_merge_371 : decode cX7_merge 371 = .ok (.iload 6, 2) := by decide +kernel
theorem dX7_merge_373 : decode cX7_merge 373 = .ok (.iload_n 1, 1) := by decide +kernel
theorem dX7_merge_374 : decode cX7_merge 374 = .ok (.invokevirtual 135, 3) := by decide +kernel
theorem dX7_merge_377 : decode cX7_merge 377 = .ok (.aload_n 0, 1) := by decide +kernel
theorem dX7_merge_378 : decode cX7_merge 378 = .ok (.iload 6, 2) := by decide +kernel
theorem dX7_merge_380 : decode cX7_merge 380 = .ok (.iload_n 2, 1) := by decide +kernel
theorem dX7_merge_381 : decode cX7_merge 381 = .ok (.invokevirtual 135, 3) := by decide +kernel
theorem dX7_merge_384 : decode cX7_merge 384 = .ok (.aload_n 0, 1) := by decide +kernel
theorem dX7_merge_385 : decode cX7_merge 385 = .ok (.iload 6, 2) := by decide +kernel
theorem dX7_merge_387 : decode cX7_merge 387 = .ok (.invokevirtual 93, 3) := by decide +kernel
theorem dX7_merge_390 : decode cX7_merge 390 = .ok (.ireturn, 1) := by decide +kernel
theorem dX7_asksAgain_0 : decode cX7_asksAgain 0 = .ok (.aload_n 0, 1) := by decide +kernel
theorem dX7_asksAgain_1 : decode cX7_asksAgain 1 = .ok (.getfield 39, 3) := by decide +kernel
theorem dX7_asksAgain_4 : decode cX7_asksAgain 4 = .ok (.iload_n 1, 1) := by decide +kernel
theorem dX7_asksAgain_5 : decode cX7_asksAgain 5 = .ok (.iaload, 1) := by decide +kernel
theorem dX7_asksAgain_6 : decode cX7_asksAgain 6 = .ok (.istore_n 3, 1) := by decide +kernel
theorem dX7_asksAgain_7 : decode cX7_asksAgain 7 = .ok (.aload_n 0, 1) := by decide +kernel
theorem dX7_asksAgain_8 : decode cX7_asksAgain 8 = .ok (.iload_n 1, 1) := by decide +kernel
theorem dX7_asksAgain_9 : decode cX7_asksAgain 9 = .ok (.iload_n 2, 1) := by decide +kernel
theorem dX7_asksAgain_10 : decode cX7_asksAgain 10 = .ok (.invokevirtual 138, 3) := by decide +kernel
theorem dX7_asksAgain_13 : decode cX7_asksAgain 13 = .ok (.ifCond .ne 4, 3) := by decide +kernel
theorem dX7_asksAgain_16 : decode cX7_asksAgain 16 = .ok (.return_, 1) := by decide +kernel
theorem dX7_asksAgain_17 : decode cX7_asksAgain 17 = .ok (.iconst 0, 1) := by decide +kernel
theorem dX7_asksAgain_18 : decode cX7_asksAgain 18 = .ok (.istore 4, 2) := by decide +kernel
theorem dX7_asksAgain_20 : decode cX7_asksAgain 20 = .ok (.iload 4, 2) := by decide +kernel
theorem dX7_asksAgain_22 : decode cX7_asksAgain 22 = .ok (.iconst 4, 1) := by decide +kernel
theorem dX7_asksAgain_23 : decode cX7_asksAgain 23 = .ok (.if_icmp .ge 88, 3) := by decide +kernel
theorem dX7_asksAgain_26 : decode cX7_asksAgain 26 = .ok (.iconst 0, 1) := by decide +kernel
theorem dX7_asksAgain_27 : decode cX7_asksAgain 27 = .ok (.istore 5, 2) := by decide +kernel
theorem dX7_asksAgain_29 : decode cX7_asksAgain 29 = .ok (.iload 5, 2) := by decide +kernel
theorem dX7_asksAgain_31 : decode cX7_asksAgain 31 = .ok (.iconst 5, 1) := by decide +kernel
theorem dX7_asksAgain_32 : decode cX7_asksAgain 32 = .ok (.if_icmp .ge 73, 3) := by decide +kernel
theorem dX7_asksAgain_35 : decode cX7_asksAgain 35 = .ok (.iconst 5, 1) := by decide +kernel
theorem dX7_asksAgain_36 : decode cX7_asksAgain 36 = .ok (.bipush 6, 2) := by decide +kernel
theorem dX7_asksAgain_38 : decode cX7_asksAgain 38 = .ok (.iload 4, 2) := by decide +kernel
theorem dX7_asksAgain_40 : decode cX7_asksAgain 40 = .ok (.imul, 1) := by decide +kernel
theorem dX7_asksAgain_41 : decode cX7_asksAgain 41 = .ok (.iload_n 3, 1) := by decide +kernel
theorem dX7_asksAgain_42 : decode cX7_asksAgain 42 = .ok (.iadd, 1) := by decide +kernel
theorem dX7_asksAgain_43 : decode cX7_asksAgain 43 = .ok (.imul, 1) := by decide +kernel
theorem dX7_asksAgain_44 : decode cX7_asksAgain 44 = .ok (.iload 5, 2) := by decide +kernel
theorem dX7_asksAgain_46 : decode cX7_asksAgain 46 = .ok (.iadd, 1) := by decide +kernel
theorem dX7_asksAgain_47 : decode cX7_asksAgain 47 = .ok (.istore 6, 2) := by decide +kernel
theorem dX7_asksAgain_49 : decode cX7_asksAgain 49 = .ok (.aload_n 0, 1) := by decide +kernel
theorem dX7_asksAgain_50 : decode cX7_asksAgain 50 = .ok (.getfield 61, 3) := by decide +kernel
theorem dX7_asksAgain_53 : decode cX7_asksAgain 53 = .ok (.iload 6, 2) := by decide +kernel
theorem dX7_asksAgain_55 : decode cX7_asksAgain 55 = .ok (.aload_n 0, 1) := by decide +kernel
theorem dX7_asksAgain_56 : decode cX7_asksAgain 56 = .ok (.getfield 61, 3) := by decide +kernel
theorem dX7_asksAgain_59 : decode cX7_asksAgain 59 = .ok (.iload 6, 2) := by decide +kernel
theorem dX7_asksAgain_61 : decode cX7_asksAgain 61 = .ok (.baload, 1) := by decide +kernel
theorem dX7_asksAgain_62 : decode cX7_asksAgain 62 = .ok (.ifCond .ne 31, 3) := by decide +kernel
theorem dX7_asksAgain_65 : decode cX7_asksAgain 65 = .ok (.aload_n 0, 1) := by decide +kernel
theorem dX7_asksAgain_66 : decode cX7_asksAgain 66 = .ok (.getfield 55, 3) := by decide +kernel
theorem dX7_asksAgain_69 : decode cX7_asksAgain 69 = .ok (.bipush 6, 2) := by decide +kernel
theorem dX7_asksAgain_71 : decode cX7_asksAgain 71 = .ok (.iload 4, 2) := by decide +kernel
theorem dX7_asksAgain_73 : decode cX7_asksAgain 73 = .ok (.imul, 1) := by decide +kernel
theorem dX7_asksAgain_74 : decode cX7_asksAgain 74 = .ok (.iload_n 3, 1) := by decide +kernel
theorem dX7_asksAgain_75 : decode cX7_asksAgain 75 = .ok (.iadd, 1) := by decide +kernel
theorem dX7_asksAgain_76 : decode cX7_asksAgain 76 = .ok (.iaload, 1) := by decide +kernel
theorem dX7_asksAgain_77 : decode cX7_asksAgain 77 = .ok (.iload_n 2, 1) := by decide +kernel
theorem dX7_asksAgain_78 : decode cX7_asksAgain 78 = .ok (.iconst 1, 1) := by decide +kernel
theorem dX7_asksAgain_79 : decode cX7_asksAgain 79 = .ok (.iadd, 1) := by decide +kernel
theorem dX7_asksAgain_80 : decode cX7_asksAgain 80 = .ok (.if_icmp .ne 17, 3) := by decide +kernel
theorem dX7_asksAgain_83 : decode cX7_asksAgain 83 = .ok (.aload_n 0, 1) := by decide +kernel
theorem dX7_asksAgain_84 : decode cX7_asksAgain 84 = .ok (.getfield 58, 3) := by decide +kernel
theorem dX7_asksAgain_87 : decode cX7_asksAgain 87 = .ok (.iload 6, 2) := by decide +kernel
theorem dX7_asksAgain_89 : decode cX7_asksAgain 89 = .ok (.iaload, 1) := by decide +kernel
theorem dX7_asksAgain_90 : decode cX7_asksAgain 90 = .ok (.ifCond .le 7, 3) := by decide +kernel
theorem dX7_asksAgain_93 : decode cX7_asksAgain 93 = .ok (.iconst 1, 1) := by decide +kernel
theorem dX7_asksAgain_94 : decode cX7_asksAgain 94 = .ok (.goto 4, 3) := by decide +kernel
theorem dX7_asksAgain_97 : decode cX7_asksAgain 97 = .ok (.iconst 0, 1) := by decide +kernel
theorem dX7_asksAgain_98 : decode cX7_asksAgain 98 = .ok (.bastore, 1) := by decide +kernel
theorem dX7_asksAgain_99 : decode cX7_asksAgain 99 = .ok (.iinc 5 1, 3) := by decide +kernel
theorem dX7_asksAgain_102 : decode cX7_asksAgain 102 = .ok (.goto (-73), 3) := by decide +kernel
theorem dX7_asksAgain_105 : decode cX7_asksAgain 105 = .ok (.iinc 4 1, 3) := by decide +kernel
theorem dX7_asksAgain_108 : decode cX7_asksAgain 108 = .ok (.goto (-88), 3) := by decide +kernel
theorem dX7_asksAgain_111 : decode cX7_asksAgain 111 = .ok (.return_, 1) := by decide +kernel
theorem dX7_base_0 : decode cX7_base 0 = .ok (.aload_n 0, 1) := by decide +kernel
theorem dX7_base_1 : decode cX7_base 1 = .ok (.iload_n 1, 1) := by decide +kernel
theorem dX7_base_2 : decode cX7_base 2 = .ok (.invokevirtual 100, 3) := by decide +kernel
theorem dX7_base_5 : decode cX7_base 5 = .ok (.ifCond .eq 11, 3) := by decide +kernel
theorem dX7_base_8 : decode cX7_base 8 = .ok (.aload_n 0, 1) := by decide +kernel
theorem dX7_base_9 : decode cX7_base 9 = .ok (.iload_n 2, 1) := by decide +kernel
theorem dX7_base_10 : decode cX7_base 10 = .ok (.invokevirtual 100, 3) := by decide +kernel
theorem dX7_base_13 : decode cX7_base 13 = .ok (.ifCond .ne 9, 3) := by decide +kernel
theorem dX7_base_16 : decode cX7_base 16 = .ok (.aload_n 0, 1) := by decide +kernel
theorem dX7_base_17 : decode cX7_base 17 = .ok (.iconst 1, 1) := by decide +kernel
theorem dX7_base_18 : decode cX7_base 18 = .ok (.invokevirtual 81, 3) := by decide +kernel
theorem dX7_base_21 : decode cX7_base 21 = .ok (.ireturn, 1) := by decide +kernel
theorem dX7_base_22 : decode cX7_base 22 = .ok (.aload_n 0, 1) := by decide +kernel
theorem dX7_base_23 : decode cX7_base 23 = .ok (.getfield 39, 3) := by decide +kernel
theorem dX7_base_26 : decode cX7_base 26 = .ok (.iload_n 1, 1) := by decide +kernel
theorem dX7_base_27 : decode cX7_base 27 = .ok (.iaload, 1) := by decide +kernel
theorem dX7_base_28 : decode cX7_base 28 = .ok (.aload_n 0, 1) := by decide +kernel
theorem dX7_base_29 : decode cX7_base 29 = .ok (.getfield 39, 3) := by decide +kernel
theorem dX7_base_32 : decode cX7_base 32 = .ok (.iload_n 2, 1) := by decide +kernel
theorem dX7_base_33 : decode cX7_base 33 = .ok (.iaload, 1) := by decide +kernel
theorem dX7_base_34 : decode cX7_base 34 = .ok (.if_icmp .ne 16, 3) := by decide +kernel
theorem dX7_base_37 : decode cX7_base 37 = .ok (.aload_n 0, 1) := by decide +kernel
theorem dX7_base_38 : decode cX7_base 38 = .ok (.aload_n 0, 1) := by decide +kernel
theorem dX7_base_39 : decode cX7_base 39 = .ok (.iload_n 1, 1) := by decide +kernel
theorem dX7_base_40 : decode cX7_base 40 = .ok (.iload_n 2, 1) := by decide +kernel
theorem dX7_base_41 : decode cX7_base 41 = .ok (.invokevirtual 123, 3) := by decide +kernel
theorem dX7_base_44 : decode cX7_base 44 = .ok (.invokevirtual 93, 3) := by decide +kernel
theorem dX7_base_47 : decode cX7_base 47 = .ok (.goto 8, 3) := by decide +kernel
theorem dX7_base_50 : decode cX7_base 50 = .ok (.aload_n 0, 1) := by decide +kernel
theorem dX7_base_51 : decode cX7_base 51 = .ok (.iconst 2, 1) := by decide +kernel
theorem dX7_base_52 : decode cX7_base 52 = .ok (.invokevirtual 81, 3) := by decide +kernel
theorem dX7_base_55 : decode cX7_base 55 = .ok (.ireturn, 1) := by decide +kernel
theorem dX7_isAbove_0 : decode cX7_isAbove 0 = .ok (.aload_n 0, 1) := by decide +kernel
theorem dX7_isAbove_1 : decode cX7_isAbove 1 = .ok (.aload_n 0, 1) := by decide +kernel
theorem dX7_isAbove_2 : decode cX7_isAbove 2 = .ok (.iload_n 1, 1) := by decide +kernel
theorem dX7_isAbove_3 : decode cX7_isAbove 3 = .ok (.invokevirtual 100, 3) := by decide +kernel
theorem dX7_isAbove_6 : decode cX7_isAbove 6 = .ok (.ifCond .eq 15, 3) := by decide +kernel
theorem dX7_isAbove_9 : decode cX7_isAbove 9 = .ok (.aload_n 0, 1) := by decide +kernel
theorem dX7_isAbove_10 : decode cX7_isAbove 10 = .ok (.iload_n 2, 1) := by decide +kernel
theorem dX7_isAbove_11 : decode cX7_isAbove 11 = .ok (.invokevirtual 100, 3) := by decide +kernel
theorem dX7_isAbove_14 : decode cX7_isAbove 14 = .ok (.ifCond .eq 7, 3) := by decide +kernel
theorem dX7_isAbove_17 : decode cX7_isAbove 17 = .ok (.iconst 0, 1) := by decide +kernel
theorem dX7_isAbove_18 : decode cX7_isAbove 18 = .ok (.goto 4, 3) := by decide +kernel
theorem dX7_isAbove_21 : decode cX7_isAbove 21 = .ok (.iconst 1, 1) := by decide +kernel
theorem dX7_isAbove_22 : decode cX7_isAbove 22 = .ok (.putfield 22, 3) := by decide +kernel
theorem dX7_isAbove_25 : decode cX7_isAbove 25 = .ok (.aload_n 0, 1) := by decide +kernel
theorem dX7_isAbove_26 : decode cX7_isAbove 26 = .ok (.getfield 22, 3) := by decide +kernel
theorem dX7_isAbove_29 : decode cX7_isAbove 29 = .ok (.ifCond .ne 16, 3) := by decide +kernel
theorem dX7_isAbove_32 : decode cX7_isAbove 32 = .ok (.aload_n 0, 1) := by decide +kernel
theorem dX7_isAbove_33 : decode cX7_isAbove 33 = .ok (.iload_n 1, 1) := by decide +kernel
theorem dX7_isAbove_34 : decode cX7_isAbove 34 = .ok (.iload_n 2, 1) := by decide +kernel
theorem dX7_isAbove_35 : decode cX7_isAbove 35 = .ok (.invokevirtual 116, 3) := by decide +kernel
theorem dX7_isAbove_38 : decode cX7_isAbove 38 = .ok (.ifCond .eq 7, 3) := by decide +kernel
theorem dX7_isAbove_41 : decode cX7_isAbove 41 = .ok (.iconst 1, 1) := by decide +kernel
theorem dX7_isAbove_42 : decode cX7_isAbove 42 = .ok (.goto 4, 3) := by decide +kernel
theorem dX7_isAbove_45 : decode cX7_isAbove 45 = .ok (.iconst 0, 1) := by decide +kernel
theorem dX7_isAbove_46 : decode cX7_isAbove 46 = .ok (.ireturn, 1) := by decide +kernel
theorem dX7_rows_0 : decode cX7_rows 0 = .ok (.aload_n 0, 1) := by decide +kernel
theorem dX7_rows_1 : decode cX7_rows 1 = .ok (.iload_n 1, 1) := by decide +kernel
theorem dX7_rows_2 : decode cX7_rows 2 = .ok (.iload_n 2, 1) := by decide +kernel
theorem dX7_rows_3 : decode cX7_rows 3 = .ok (.iload_n 3, 1) := by decide +kernel
theorem dX7_rows_4 : decode cX7_rows 4 = .ok (.invokevirtual 103, 3) := by decide +kernel
theorem dX7_rows_7 : decode cX7_rows 7 = .ok (.ifCond .eq 22, 3) := by decide +kernel
theorem dX7_rows_10 : decode cX7_rows 10 = .ok (.aload_n 0, 1) := by decide +kernel
theorem dX7_rows_11 : decode cX7_rows 11 = .ok (.aload_n 0, 1) := by decide +kernel
theorem dX7_rows_12 : decode cX7_rows 12 = .ok (.getfield 49, 3) := by decide +kernel
theorem dX7_rows_15 : decode cX7_rows 15 = .ok (.aload_n 0, 1) := by decide +kernel
theorem dX7_rows_16 : decode cX7_rows 16 = .ok (.iload_n 1, 1) := by decide +kernel
theorem dX7_rows_17 : decode cX7_rows 17 = .ok (.iload_n 2, 1) := by decide +kernel
theorem dX7_rows_18 : decode cX7_rows 18 = .ok (.iload_n 3, 1) := by decide +kernel
theorem dX7_rows_19 : decode cX7_rows 19 = .ok (.invokevirtual 113, 3) := by decide +kernel
theorem dX7_rows_22 : decode cX7_rows 22 = .ok (.iaload, 1) := by decide +kernel
theorem dX7_rows_23 : decode cX7_rows 23 = .ok (.invokevirtual 93, 3) := by decide +kernel
theorem dX7_rows_26 : decode cX7_rows 26 = .ok (.goto 8, 3) := by decide +kernel
theorem dX7_rows_29 : decode cX7_rows 29 = .ok (.aload_n 0, 1) := by decide +kernel
theorem dX7_rows_30 : decode cX7_rows 30 = .ok (.iconst 1, 1) := by decide +kernel
theorem dX7_rows_31 : decode cX7_rows 31 = .ok (.invokevirtual 81, 3) := by decide +kernel
theorem dX7_rows_34 : decode cX7_rows 34 = .ok (.ireturn, 1) := by decide +kernel
theorem dX7_noteAt_0 : decode cX7_noteAt 0 = .ok (.aload_n 0, 1) := by decide +kernel
theorem dX7_noteAt_1 : decode cX7_noteAt 1 = .ok (.iload_n 1, 1) := by decide +kernel
theorem dX7_noteAt_2 : decode cX7_noteAt 2 = .ok (.iload_n 2, 1) := by decide +kernel
theorem dX7_noteAt_3 : decode cX7_noteAt 3 = .ok (.iload_n 3, 1) := by decide +kernel
theorem dX7_noteAt_4 : decode cX7_noteAt 4 = .ok (.invokevirtual 103, 3) := by decide +kernel
theorem dX7_noteAt_7 : decode cX7_noteAt 7 = .ok (.ifCond .ne 9, 3) := by decide +kernel
theorem dX7_noteAt_10 : decode cX7_noteAt 10 = .ok (.aload_n 0, 1) := by decide +kernel
theorem dX7_noteAt_11 : decode cX7_noteAt 11 = .ok (.iconst 1, 1) := by decide +kernel
theorem dX7_noteAt_12 : decode cX7_noteAt 12 = .ok (.invokevirtual 81, 3) := by decide +kernel
theorem dX7_noteAt_15 : decode cX7_noteAt 15 = .ok (.ireturn, 1) := by decide +kernel
theorem dX7_noteAt_16 : decode cX7_noteAt 16 = .ok (.aload_n 0, 1) := by decide +kernel
theorem dX7_noteAt_17 : decode cX7_noteAt 17 = .ok (.iload_n 1, 1) := by decide +kernel
theorem dX7_noteAt_18 : decode cX7_noteAt 18 = .ok (.iload_n 2, 1) := by decide +kernel
theorem dX7_noteAt_19 : decode cX7_noteAt 19 = .ok (.iload_n 3, 1) := by decide +kernel
theorem dX7_noteAt_20 : decode cX7_noteAt 20 = .ok (.invokevirtual 113, 3) := by decide +kernel
theorem dX7_noteAt_23 : decode cX7_noteAt 23 = .ok (.istore 6, 2) := by decide +kernel
theorem dX7_noteAt_25 : decode cX7_noteAt 25 = .ok (.iload 4, 2) := by decide +kernel
theorem dX7_noteAt_27 : decode cX7_noteAt 27 = .ok (.iconst 0, 1) := by decide +kernel
theorem dX7_noteAt_28 : decode cX7_noteAt 28 = .ok (.aload_n 0, 1) := by decide +kernel
theorem dX7_noteAt_29 : decode cX7_noteAt 29 = .ok (.getfield 49, 3) := by decide +kernel
theorem dX7_noteAt_32 : decode cX7_noteAt 32 = .ok (.iload 6, 2) := by decide +kernel
theorem dX7_noteAt_34 : decode cX7_noteAt 34 = .ok (.iaload, 1) := by decide +kernel
theorem dX7_noteAt_35 : decode cX7_noteAt 35 = .ok (.iconst 1, 1) := by decide +kernel
theorem dX7_noteAt_36 : decode cX7_noteAt 36 = .ok (.isub, 1) := by decide +kernel
theorem dX7_noteAt_37 : decode cX7_noteAt 37 = .ok (.invokestatic 77, 3) := by decide +kernel
theorem dX7_noteAt_40 : decode cX7_noteAt 40 = .ok (.ifCond .eq 29, 3) := by decide +kernel
theorem dX7_noteAt_43 : decode cX7_noteAt 43 = .ok (.iload 5, 2) := by decide +kernel
theorem dX7_noteAt_45 : decode cX7_noteAt 45 = .ok (.iconst 0, 1) := by decide +kernel
theorem dX7_noteAt_46 : decode cX7_noteAt 46 = .ok (.aload_n 0, 1) := by decide +kernel
theorem dX7_noteAt_47 : decode cX7_noteAt 47 = .ok (.getfield 49, 3) := by decide +kernel
theorem dX7_noteAt_50 : decode cX7_noteAt 50 = .ok (.iload 6, 2) := by decide +kernel
theorem dX7_noteAt_52 : decode cX7_noteAt 52 = .ok (.iconst 2, 1) := by decide +kernel
theorem dX7_noteAt_53 : decode cX7_noteAt 53 = .ok (.iadd, 1) := by decide +kernel
theorem dX7_noteAt_54 : decode cX7_noteAt 54 = .ok (.bipush 10, 2) := by decide +kernel
theorem dX7_noteAt_56 : decode cX7_noteAt 56 = .ok (.iload 4, 2) := by decide +kernel
theorem dX7_noteAt_58 : decode cX7_noteAt 58 = .ok (.imul, 1) := by decide +kernel
theorem dX7_noteAt_59 : decode cX7_noteAt 59 = .ok (.iadd, 1) := by decide +kernel
theorem dX7_noteAt_60 : decode cX7_noteAt 60 = .ok (.iaload, 1) := by decide +kernel
theorem dX7_noteAt_61 : decode cX7_noteAt 61 = .ok (.iconst 1, 1) := by decide +kernel
theorem dX7_noteAt_62 : decode cX7_noteAt 62 = .ok (.isub, 1) := by decide +kernel
theorem dX7_noteAt_63 : decode cX7_noteAt 63 = .ok (.invokestatic 77, 3) := by decide +kernel
theorem dX7_noteAt_66 : decode cX7_noteAt 66 = .ok (.ifCond .ne 9, 3) := by decide +kernel
theorem dX7_noteAt_69 : decode cX7_noteAt 69 = .ok (.aload_n 0, 1) := by decide +kernel
theorem dX7_noteAt_70 : decode cX7_noteAt 70 = .ok (.iconst 2, 1) := by decide +kernel
theorem dX7_noteAt_71 : decode cX7_noteAt 71 = .ok (.invokevirtual 81, 3) := by decide +kernel
theorem dX7_noteAt_74 : decode cX7_noteAt 74 = .ok (.ireturn, 1) := by decide +kernel
theorem dX7_noteAt_75 : decode cX7_noteAt 75 = .ok (.aload_n 0, 1) := by decide +kernel
theorem dX7_noteAt_76 : decode cX7_noteAt 76 = .ok (.aload_n 0, 1) := by decide +kernel
theorem dX7_noteAt_77 : decode cX7_noteAt 77 = .ok (.getfield 49, 3) := by decide +kernel
theorem dX7_noteAt_80 : decode cX7_noteAt 80 = .ok (.iload 6, 2) := by decide +kernel
theorem dX7_noteAt_82 : decode cX7_noteAt 82 = .ok (.iconst 3, 1) := by decide +kernel
theorem dX7_noteAt_83 : decode cX7_noteAt 83 = .ok (.iadd, 1) := by decide +kernel
theorem dX7_noteAt_84 : decode cX7_noteAt 84 = .ok (.bipush 10, 2) := by decide +kernel
theorem dX7_noteAt_86 : decode cX7_noteAt 86 = .ok (.iload 4, 2) := by decide +kernel
theorem dX7_noteAt_88 : decode cX7_noteAt 88 = .ok (.imul, 1) := by decide +kernel
theorem dX7_noteAt_89 : decode cX7_noteAt 89 = .ok (.iadd, 1) := by decide +kernel
theorem dX7_noteAt_90 : decode cX7_noteAt 90 = .ok (.iload 5, 2) := by decide +kernel
theorem dX7_noteAt_92 : decode cX7_noteAt 92 = .ok (.iadd, 1) := by decide +kernel
theorem dX7_noteAt_93 : decode cX7_noteAt 93 = .ok (.iaload, 1) := by decide +kernel
theorem dX7_noteAt_94 : decode cX7_noteAt 94 = .ok (.invokevirtual 93, 3) := by decide +kernel
theorem dX7_noteAt_97 : decode cX7_noteAt 97 = .ok (.ireturn, 1) := by decide +kernel
theorem dX7_writer_0 : decode cX7_writer 0 = .ok (.aload_n 0, 1) := by decide +kernel
theorem dX7_writer_1 : decode cX7_writer 1 = .ok (.iload_n 1, 1) := by decide +kernel
theorem dX7_writer_2 : decode cX7_writer 2 = .ok (.iload_n 2, 1) := by decide +kernel
theorem dX7_writer_3 : decode cX7_writer 3 = .ok (.iload_n 3, 1) := by decide +kernel
theorem dX7_writer_4 : decode cX7_writer 4 = .ok (.invokevirtual 103, 3) := by decide +kernel
theorem dX7_writer_7 : decode cX7_writer 7 = .ok (.ifCond .ne 9, 3) := by decide +kernel
theorem dX7_writer_10 : decode cX7_writer 10 = .ok (.aload_n 0, 1) := by decide +kernel
theorem dX7_writer_11 : decode cX7_writer 11 = .ok (.iconst 1, 1) := by decide +kernel
theorem dX7_writer_12 : decode cX7_writer 12 = .ok (.invokevirtual 81, 3) := by decide +kernel
theorem dX7_writer_15 : decode cX7_writer 15 = .ok (.ireturn, 1) := by decide +kernel
theorem dX7_writer_16 : decode cX7_writer 16 = .ok (.aload_n 0, 1) := by decide +kernel
theorem dX7_writer_17 : decode cX7_writer 17 = .ok (.iload_n 1, 1) := by decide +kernel
theorem dX7_writer_18 : decode cX7_writer 18 = .ok (.iload_n 2, 1) := by decide +kernel
theorem dX7_writer_19 : decode cX7_writer 19 = .ok (.iload_n 3, 1) := by decide +kernel
theorem dX7_writer_20 : decode cX7_writer 20 = .ok (.invokevirtual 113, 3) := by decide +kernel
theorem dX7_writer_23 : decode cX7_writer 23 = .ok (.istore 5, 2) := by decide +kernel
theorem dX7_writer_25 : decode cX7_writer 25 = .ok (.iload 4, 2) := by decide +kernel
theorem dX7_writer_27 : decode cX7_writer 27 = .ok (.iconst 0, 1) := by decide +kernel
theorem dX7_writer_28 : decode cX7_writer 28 = .ok (.aload_n 0, 1) := by decide +kernel
theorem dX7_writer_29 : decode cX7_writer 29 = .ok (.getfield 49, 3) := by decide +kernel
theorem dX7_writer_32 : decode cX7_writer 32 = .ok (.iload 5, 2) := by decide +kernel
theorem dX7_writer_34 : decode cX7_writer 34 = .ok (.iaload, 1) := by decide +kernel
theorem dX7_writer_35 : decode cX7_writer 35 = .ok (.iconst 1, 1) := by decide +kernel
theorem dX7_writer_36 : decode cX7_writer 36 = .ok (.isub, 1) := by decide +kernel
theorem dX7_writer_37 : decode cX7_writer 37 = .ok (.invokestatic 77, 3) := by decide +kernel
theorem dX7_writer_40 : decode cX7_writer 40 = .ok (.ifCond .eq 25, 3) := by decide +kernel
theorem dX7_writer_43 : decode cX7_writer 43 = .ok (.aload_n 0, 1) := by decide +kernel
theorem dX7_writer_44 : decode cX7_writer 44 = .ok (.aload_n 0, 1) := by decide +kernel
theorem dX7_writer_45 : decode cX7_writer 45 = .ok (.getfield 49, 3) := by decide +kernel
theorem dX7_writer_48 : decode cX7_writer 48 = .ok (.iload 5, 2) := by decide +kernel
theorem dX7_writer_50 : decode cX7_writer 50 = .ok (.iconst 1, 1) := by decide +kernel
theorem dX7_writer_51 : decode cX7_writer 51 = .ok (.iadd, 1) := by decide +kernel
theorem dX7_writer_52 : decode cX7_writer 52 = .ok (.bipush 10, 2) := by decide +kernel
theorem dX7_writer_54 : decode cX7_writer 54 = .ok (.iload 4, 2) := by decide +kernel
theorem dX7_writer_56 : decode cX7_writer 56 = .ok (.imul, 1) := by decide +kernel
theorem dX7_writer_57 : decode cX7_writer 57 = .ok (.iadd, 1) := by decide +kernel
theorem dX7_writer_58 : decode cX7_writer 58 = .ok (.iaload, 1) := by decide +kernel
theorem dX7_writer_59 : decode cX7_writer 59 = .ok (.invokevirtual 93, 3) := by decide +kernel
theorem dX7_writer_62 : decode cX7_writer 62 = .ok (.goto 8, 3) := by decide +kernel
theorem dX7_writer_65 : decode cX7_writer 65 = .ok (.aload_n 0, 1) := by decide +kernel
theorem dX7_writer_66 : decode cX7_writer 66 = .ok (.iconst 2, 1) := by decide +kernel
theorem dX7_writer_67 : decode cX7_writer 67 = .ok (.invokevirtual 81, 3) := by decide +kernel
theorem dX7_writer_70 : decode cX7_writer 70 = .ok (.ireturn, 1) := by decide +kernel
theorem dX7_doubts_0 : decode cX7_doubts 0 = .ok (.aload_n 0, 1) := by decide +kernel
theorem dX7_doubts_1 : decode cX7_doubts 1 = .ok (.iload_n 1, 1) := by decide +kernel
theorem dX7_doubts_2 : decode cX7_doubts 2 = .ok (.invokevirtual 100, 3) := by decide +kernel
theorem dX7_doubts_5 : decode cX7_doubts 5 = .ok (.ifCond .ne 9, 3) := by decide +kernel
theorem dX7_doubts_8 : decode cX7_doubts 8 = .ok (.aload_n 0, 1) := by decide +kernel
theorem dX7_doubts_9 : decode cX7_doubts 9 = .ok (.iconst 1, 1) := by decide +kernel
theorem dX7_doubts_10 : decode cX7_doubts 10 = .ok (.invokevirtual 81, 3) := by decide +kernel
theorem dX7_doubts_13 : decode cX7_doubts 13 = .ok (.ireturn, 1) := by decide +kernel
theorem dX7_doubts_14 : decode cX7_doubts 14 = .ok (.iconst 0, 1) := by decide +kernel
theorem dX7_doubts_15 : decode cX7_doubts 15 = .ok (.istore_n 2, 1) := by decide +kernel
theorem dX7_doubts_16 : decode cX7_doubts 16 = .ok (.iconst 0, 1) := by decide +kernel
theorem dX7_doubts_17 : decode cX7_doubts 17 = .ok (.istore_n 3, 1) := by decide +kernel
theorem dX7_doubts_18 : decode cX7_doubts 18 = .ok (.iload_n 3, 1) := by decide +kernel
theorem dX7_doubts_19 : decode cX7_doubts 19 = .ok (.aload_n 0, 1) := by decide +kernel
theorem dX7_doubts_20 : decode cX7_doubts 20 = .ok (.aload_n 0, 1) := by decide +kernel
theorem dX7_doubts_21 : decode cX7_doubts 21 = .ok (.getfield 39, 3) := by decide +kernel
theorem dX7_doubts_24 : decode cX7_doubts 24 = .ok (.iload_n 1, 1) := by decide +kernel
theorem dX7_doubts_25 : decode cX7_doubts 25 = .ok (.iaload, 1) := by decide +kernel
theorem dX7_doubts_26 : decode cX7_doubts 26 = .ok (.invokevirtual 106, 3) := by decide +kernel
theorem dX7_doubts_29 : decode cX7_doubts 29 = .ok (.if_icmp .ge 32, 3) := by decide +kernel
theorem dX7_doubts_32 : decode cX7_doubts 32 = .ok (.iload_n 2, 1) := by decide +kernel
theorem dX7_doubts_33 : decode cX7_doubts 33 = .ok (.aload_n 0, 1) := by decide +kernel
theorem dX7_doubts_34 : decode cX7_doubts 34 = .ok (.getfield 49, 3) := by decide +kernel
theorem dX7_doubts_37 : decode cX7_doubts 37 = .ok (.aload_n 0, 1) := by decide +kernel
theorem dX7_doubts_38 : decode cX7_doubts 38 = .ok (.iload_n 1, 1) := by decide +kernel
theorem dX7_doubts_39 : decode cX7_doubts 39 = .ok (.iload_n 3, 1) := by decide +kernel
theorem dX7_doubts_40 : decode cX7_doubts 40 = .ok (.invokevirtual 89, 3) := by decide +kernel
theorem dX7_doubts_43 : decode cX7_doubts 43 = .ok (.iaload, 1) := by decide +kernel
theorem dX7_doubts_44 : decode cX7_doubts 44 = .ok (.iconst 1, 1) := by decide +kernel
theorem dX7_doubts_45 : decode cX7_doubts 45 = .ok (.if_icmp .le 7, 3) := by decide +kernel
theorem dX7_doubts_48 : decode cX7_doubts 48 = .ok (.iconst 1, 1) := by decide +kernel
theorem dX7_doubts_49 : decode cX7_doubts 49 = .ok (.goto 4, 3) := by decide +kernel
theorem dX7_doubts_52 : decode cX7_doubts 52 = .ok (.iconst 0, 1) := by decide +kernel
theorem dX7_doubts_53 : decode cX7_doubts 53 = .ok (.iadd, 1) := by decide +kernel
theorem dX7_doubts_54 : decode cX7_doubts 54 = .ok (.istore_n 2, 1) := by decide +kernel
theorem dX7_doubts_55 : decode cX7_doubts 55 = .ok (.iinc 3 1, 3) := by decide +kernel
theorem dX7_doubts_58 : decode cX7_doubts 58 = .ok (.goto (-40), 3) := by decide +kernel
theorem dX7_doubts_61 : decode cX7_doubts 61 = .ok (.aload_n 0, 1) := by decide +kernel
theorem dX7_doubts_62 : decode cX7_doubts 62 = .ok (.iload_n 2, 1) := by decide +kernel
theorem dX7_doubts_63 : decode cX7_doubts 63 = .ok (.invokevirtual 93, 3) := by decide +kernel
theorem dX7_doubts_66 : decode cX7_doubts 66 = .ok (.ireturn, 1) := by decide +kernel
theorem dX7_unlikeOf_0 : decode cX7_unlikeOf 0 = .ok (.iconst 0, 1) := by decide +kernel
theorem dX7_unlikeOf_1 : decode cX7_unlikeOf 1 = .ok (.istore_n 3, 1) := by decide +kernel
theorem dX7_unlikeOf_2 : decode cX7_unlikeOf 2 = .ok (.iconst 0, 1) := by decide +kernel
theorem dX7_unlikeOf_3 : decode cX7_unlikeOf 3 = .ok (.istore 4, 2) := by decide +kernel
theorem dX7_unlikeOf_5 : decode cX7_unlikeOf 5 = .ok (.iload 4, 2) := by decide +kernel
theorem dX7_unlikeOf_7 : decode cX7_unlikeOf 7 = .ok (.aload_n 0, 1) := by decide +kernel
theorem dX7_unlikeOf_8 : decode cX7_unlikeOf 8 = .ok (.aload_n 0, 1) := by decide +kernel
theorem dX7_unlikeOf_9 : decode cX7_unlikeOf 9 = .ok (.getfield 39, 3) := by decide +kernel
theorem dX7_unlikeOf_12 : decode cX7_unlikeOf 12 = .ok (.iload_n 1, 1) := by decide +kernel
theorem dX7_unlikeOf_13 : decode cX7_unlikeOf 13 = .ok (.iaload, 1) := by decide +kernel
theorem dX7_unlikeOf_14 : decode cX7_unlikeOf 14 = .ok (.invokevirtual 106, 3) := by decide +kernel
theorem dX7_unlikeOf_17 : decode cX7_unlikeOf 17 = .ok (.if_icmp .ge 38, 3) := by decide +kernel
theorem dX7_unlikeOf_20 : decode cX7_unlikeOf 20 = .ok (.iload_n 3, 1) := by decide +kernel
theorem dX7_unlikeOf_21 : decode cX7_unlikeOf 21 = .ok (.aload_n 0, 1) := by decide +kernel
theorem dX7_unlikeOf_22 : decode cX7_unlikeOf 22 = .ok (.aload_n 0, 1) := by decide +kernel
theorem dX7_unlikeOf_23 : decode cX7_unlikeOf 23 = .ok (.iload_n 1, 1) := by decide +kernel
theorem dX7_unlikeOf_24 : decode cX7_unlikeOf 24 = .ok (.iload 4, 2) := by decide +kernel
theorem dX7_unlikeOf_26 : decode cX7_unlikeOf 26 = .ok (.invokevirtual 89, 3) := by decide +kernel
theorem dX7_unlikeOf_29 : decode cX7_unlikeOf 29 = .ok (.aload_n 0, 1) := by decide +kernel
theorem dX7_unlikeOf_30 : decode cX7_unlikeOf 30 = .ok (.iload_n 2, 1) := by decide +kernel
theorem dX7_unlikeOf_31 : decode cX7_unlikeOf 31 = .ok (.iload 4, 2) := by decide +kernel
theorem dX7_unlikeOf_33 : decode cX7_unlikeOf 33 = .ok (.invokevirtual 89, 3) := by decide +kernel
theorem dX7_unlikeOf_36 : decode cX7_unlikeOf 36 = .ok (.invokevirtual 126, 3) := by decide +kernel
theorem dX7_unlikeOf_39 : decode cX7_unlikeOf 39 = .ok (.ifCond .eq 7, 3) := by decide +kernel
theorem dX7_unlikeOf_42 : decode cX7_unlikeOf 42 = .ok (.iconst 0, 1) := by decide +kernel
theorem dX7_unlikeOf_43 : decode cX7_unlikeOf 43 = .ok (.goto 4, 3) := by decide +kernel
theorem dX7_unlikeOf_46 : decode cX7_unlikeOf 46 = .ok (.iconst 1, 1) := by decide +kernel
theorem dX7_unlikeOf_47 : decode cX7_unlikeOf 47 = .ok (.iadd, 1) := by decide +kernel
theorem dX7_unlikeOf_48 : decode cX7_unlikeOf 48 = .ok (.istore_n 3, 1) := by decide +kernel
theorem dX7_unlikeOf_49 : decode cX7_unlikeOf 49 = .ok (.iinc 4 1, 3) := by decide +kernel
theorem dX7_unlikeOf_52 : decode cX7_unlikeOf 52 = .ok (.goto (-47), 3) := by decide +kernel
theorem dX7_unlikeOf_55 : decode cX7_unlikeOf 55 = .ok (.iload_n 3, 1) := by decide +kernel
theorem dX7_unlikeOf_56 : decode cX7_unlikeOf 56 = .ok (.ireturn, 1) := by decide +kernel
theorem dX7_unlike_0 : decode cX7_unlike 0 = .ok (.aload_n 0, 1) := by decide +kernel
theorem dX7_unlike_1 : decode cX7_unlike 1 = .ok (.iload_n 1, 1) := by decide +kernel
theorem dX7_unlike_2 : decode cX7_unlike 2 = .ok (.invokevirtual 100, 3) := by decide +kernel
theorem dX7_unlike_5 : decode cX7_unlike 5 = .ok (.ifCond .eq 11, 3) := by decide +kernel
theorem dX7_unlike_8 : decode cX7_unlike 8 = .ok (.aload_n 0, 1) := by decide +kernel
theorem dX7_unlike_9 : decode cX7_unlike 9 = .ok (.iload_n 2, 1) := by decide +kernel
theorem dX7_unlike_10 : decode cX7_unlike 10 = .ok (.invokevirtual 100, 3) := by decide +kernel
theorem dX7_unlike_13 : decode cX7_unlike 13 = .ok (.ifCond .ne 9, 3) := by decide +kernel
theorem dX7_unlike_16 : decode cX7_unlike 16 = .ok (.aload_n 0, 1) := by decide +kernel
theorem dX7_unlike_17 : decode cX7_unlike 17 = .ok (.iconst 1, 1) := by decide +kernel
theorem dX7_unlike_18 : decode cX7_unlike 18 = .ok (.invokevirtual 81, 3) := by decide +kernel
theorem dX7_unlike_21 : decode cX7_unlike 21 = .ok (.ireturn, 1) := by decide +kernel
theorem dX7_unlike_22 : decode cX7_unlike 22 = .ok (.aload_n 0, 1) := by decide +kernel
theorem dX7_unlike_23 : decode cX7_unlike 23 = .ok (.getfield 39, 3) := by decide +kernel
theorem dX7_unlike_26 : decode cX7_unlike 26 = .ok (.iload_n 1, 1) := by decide +kernel
theorem dX7_unlike_27 : decode cX7_unlike 27 = .ok (.iaload, 1) := by decide +kernel
theorem dX7_unlike_28 : decode cX7_unlike 28 = .ok (.aload_n 0, 1) := by decide +kernel
theorem dX7_unlike_29 : decode cX7_unlike 29 = .ok (.getfield 39, 3) := by decide +kernel
theorem dX7_unlike_32 : decode cX7_unlike 32 = .ok (.iload_n 2, 1) := by decide +kernel
theorem dX7_unlike_33 : decode cX7_unlike 33 = .ok (.iaload, 1) := by decide +kernel
theorem dX7_unlike_34 : decode cX7_unlike 34 = .ok (.if_icmp .ne 16, 3) := by decide +kernel
theorem dX7_unlike_37 : decode cX7_unlike 37 = .ok (.aload_n 0, 1) := by decide +kernel
theorem dX7_unlike_38 : decode cX7_unlike 38 = .ok (.aload_n 0, 1) := by decide +kernel
theorem dX7_unlike_39 : decode cX7_unlike 39 = .ok (.iload_n 1, 1) := by decide +kernel
theorem dX7_unlike_40 : decode cX7_unlike 40 = .ok (.iload_n 2, 1) := by decide +kernel
theorem dX7_unlike_41 : decode cX7_unlike 41 = .ok (.invokevirtual 138, 3) := by decide +kernel
theorem dX7_unlike_44 : decode cX7_unlike 44 = .ok (.invokevirtual 93, 3) := by decide +kernel
theorem dX7_unlike_47 : decode cX7_unlike 47 = .ok (.goto 8, 3) := by decide +kernel
theorem dX7_unlike_50 : decode cX7_unlike 50 = .ok (.aload_n 0, 1) := by decide +kernel
theorem dX7_unlike_51 : decode cX7_unlike 51 = .ok (.iconst 2, 1) := by decide +kernel
theorem dX7_unlike_52 : decode cX7_unlike 52 = .ok (.invokevirtual 81, 3) := by decide +kernel
theorem dX7_unlike_55 : decode cX7_unlike 55 = .ok (.ireturn, 1) := by decide +kernel
theorem dX7_isRound_0 : decode cX7_isRound 0 = .ok (.iload_n 0, 1) := by decide +kernel
theorem dX7_isRound_1 : decode cX7_isRound 1 = .ok (.iconst 0, 1) := by decide +kernel
theorem dX7_isRound_2 : decode cX7_isRound 2 = .ok (.iconst 3, 1) := by decide +kernel
theorem dX7_isRound_3 : decode cX7_isRound 3 = .ok (.invokestatic 77, 3) := by decide +kernel
theorem dX7_isRound_6 : decode cX7_isRound 6 = .ok (.ireturn, 1) := by decide +kernel
theorem dX7_hear_0 : decode cX7_hear 0 = .ok (.iload_n 1, 1) := by decide +kernel
theorem dX7_hear_1 : decode cX7_hear 1 = .ok (.invokestatic 141, 3) := by decide +kernel
theorem dX7_hear_4 : decode cX7_hear 4 = .ok (.ifCond .eq 11, 3) := by decide +kernel
theorem dX7_hear_7 : decode cX7_hear 7 = .ok (.aload_n 0, 1) := by decide +kernel
theorem dX7_hear_8 : decode cX7_hear 8 = .ok (.iload_n 2, 1) := by decide +kernel
theorem dX7_hear_9 : decode cX7_hear 9 = .ok (.invokevirtual 100, 3) := by decide +kernel
theorem dX7_hear_12 : decode cX7_hear 12 = .ok (.ifCond .ne 9, 3) := by decide +kernel
theorem dX7_hear_15 : decode cX7_hear 15 = .ok (.aload_n 0, 1) := by decide +kernel
theorem dX7_hear_16 : decode cX7_hear 16 = .ok (.iconst 1, 1) := by decide +kernel
theorem dX7_hear_17 : decode cX7_hear 17 = .ok (.invokevirtual 81, 3) := by decide +kernel
theorem dX7_hear_20 : decode cX7_hear 20 = .ok (.ireturn, 1) := by decide +kernel
theorem dX7_hear_21 : decode cX7_hear 21 = .ok (.bipush 6, 2) := by decide +kernel
theorem dX7_hear_23 : decode cX7_hear 23 = .ok (.iload_n 1, 1) := by decide +kernel
theorem dX7_hear_24 : decode cX7_hear 24 = .ok (.imul, 1) := by decide +kernel
theorem dX7_hear_25 : decode cX7_hear 25 = .ok (.aload_n 0, 1) := by decide +kernel
theorem dX7_hear_26 : decode cX7_hear 26 = .ok (.getfield 39, 3) := by decide +kernel
theorem dX7_hear_29 : decode cX7_hear 29 = .ok (.iload_n 2, 1) := by decide +kernel
theorem dX7_hear_30 : decode cX7_hear 30 = .ok (.iaload, 1) := by decide +kernel
theorem dX7_hear_31 : decode cX7_hear 31 = .ok (.iadd, 1) := by decide +kernel
theorem dX7_hear_32 : decode cX7_hear 32 = .ok (.istore_n 3, 1) := by decide +kernel
theorem dX7_hear_33 : decode cX7_hear 33 = .ok (.aload_n 0, 1) := by decide +kernel
theorem dX7_hear_34 : decode cX7_hear 34 = .ok (.getfield 55, 3) := by decide +kernel
theorem dX7_hear_37 : decode cX7_hear 37 = .ok (.iload_n 3, 1) := by decide +kernel
theorem dX7_hear_38 : decode cX7_hear 38 = .ok (.iaload, 1) := by decide +kernel
theorem dX7_hear_39 : decode cX7_hear 39 = .ok (.iconst 1, 1) := by decide +kernel
theorem dX7_hear_40 : decode cX7_hear 40 = .ok (.isub, 1) := by decide +kernel
theorem dX7_hear_41 : decode cX7_hear 41 = .ok (.istore 4, 2) := by decide +kernel
theorem dX7_hear_43 : decode cX7_hear 43 = .ok (.iload 4, 2) := by decide +kernel
theorem dX7_hear_45 : decode cX7_hear 45 = .ok (.iload_n 2, 1) := by decide +kernel
theorem dX7_hear_46 : decode cX7_hear 46 = .ok (.if_icmp .eq 42, 3) := by decide +kernel
theorem dX7_hear_49 : decode cX7_hear 49 = .ok (.iconst 0, 1) := by decide +kernel
theorem dX7_hear_50 : decode cX7_hear 50 = .ok (.istore 5, 2) := by decide +kernel
theorem dX7_hear_52 : decode cX7_hear 52 = .ok (.iload 5, 2) := by decide +kernel
theorem dX7_hear_54 : decode cX7_hear 54 = .ok (.iconst 5, 1) := by decide +kernel
theorem dX7_hear_55 : decode cX7_hear 55 = .ok (.if_icmp .ge 33, 3) := by decide +kernel
theorem dX7_hear_58 : decode cX7_hear 58 = .ok (.aload_n 0, 1) := by decide +kernel
theorem dX7_hear_59 : decode cX7_hear 59 = .ok (.getfield 58, 3) := by decide +kernel
theorem dX7_hear_62 : decode cX7_hear 62 = .ok (.iconst 5, 1) := by decide +kernel
theorem dX7_hear_63 : decode cX7_hear 63 = .ok (.iload_n 3, 1) := by decide +kernel
theorem dX7_hear_64 : decode cX7_hear 64 = .ok (.imul, 1) := by decide +kernel
theorem dX7_hear_65 : decode cX7_hear 65 = .ok (.iload 5, 2) := by decide +kernel
theorem dX7_hear_67 : decode cX7_hear 67 = .ok (.iadd, 1) := by decide +kernel
theorem dX7_hear_68 : decode cX7_hear 68 = .ok (.iconst 0, 1) := by decide +kernel
theorem dX7_hear_69 : decode cX7_hear 69 = .ok (.iastore, 1) := by decide +kernel
theorem dX7_hear_70 : decode cX7_hear 70 = .ok (.aload_n 0, 1) := by decide +kernel
theorem dX7_hear_71 : decode cX7_hear 71 = .ok (.getfield 61, 3) := by decide +kernel
theorem dX7_hear_74 : decode cX7_hear 74 = .ok (.iconst 5, 1) := by decide +kernel
theorem dX7_hear_75 : decode cX7_hear 75 = .ok (.iload_n 3, 1) := by decide +kernel
theorem dX7_hear_76 : decode cX7_hear 76 = .ok (.imul, 1) := by decide +kernel
theorem dX7_hear_77 : decode cX7_hear 77 = .ok (.iload 5, 2) := by decide +kernel
theorem dX7_hear_79 : decode cX7_hear 79 = .ok (.iadd, 1) := by decide +kernel
theorem dX7_hear_80 : decode cX7_hear 80 = .ok (.iconst 0, 1) := by decide +kernel
theorem dX7_hear_81 : decode cX7_hear 81 = .ok (.bastore, 1) := by decide +kernel
theorem dX7_hear_82 : decode cX7_hear 82 = .ok (.iinc 5 1, 3) := by decide +kernel
theorem dX7_hear_85 : decode cX7_hear 85 = .ok (.goto (-33), 3) := by decide +kernel
theorem dX7_hear_88 : decode cX7_hear 88 = .ok (.aload_n 0, 1) := by decide +kernel
theorem dX7_hear_89 : decode cX7_hear 89 = .ok (.getfield 55, 3) := by decide +kernel
theorem dX7_hear_92 : decode cX7_hear 92 = .ok (.iload_n 3, 1) := by decide +kernel
theorem dX7_hear_93 : decode cX7_hear 93 = .ok (.iload_n 2, 1) := by decide +kernel
theorem dX7_hear_94 : decode cX7_hear 94 = .ok (.iconst 1, 1) := by decide +kernel
theorem dX7_hear_95 : decode cX7_hear 95 = .ok (.iadd, 1) := by decide +kernel
theorem dX7_hear_96 : decode cX7_hear 96 = .ok (.iastore, 1) := by decide +kernel
theorem dX7_hear_97 : decode cX7_hear 97 = .ok (.aload_n 0, 1) := by decide +kernel
theorem dX7_hear_98 : decode cX7_hear 98 = .ok (.iload 4, 2) := by decide +kernel
theorem dX7_hear_100 : decode cX7_hear 100 = .ok (.invokevirtual 93, 3) := by decide +kernel
theorem dX7_hear_103 : decode cX7_hear 103 = .ok (.ireturn, 1) := by decide +kernel
theorem dX7_isMark_0 : decode cX7_isMark 0 = .ok (.iload_n 1, 1) := by decide +kernel
theorem dX7_isMark_1 : decode cX7_isMark 1 = .ok (.iconst 0, 1) := by decide +kernel
theorem dX7_isMark_2 : decode cX7_isMark 2 = .ok (.iconst 4, 1) := by decide +kernel
theorem dX7_isMark_3 : decode cX7_isMark 3 = .ok (.invokestatic 77, 3) := by decide +kernel
theorem dX7_isMark_6 : decode cX7_isMark 6 = .ok (.ifCond .eq 22, 3) := by decide +kernel
theorem dX7_isMark_9 : decode cX7_isMark 9 = .ok (.iload_n 2, 1) := by decide +kernel
theorem dX7_isMark_10 : decode cX7_isMark 10 = .ok (.invokestatic 141, 3) := by decide +kernel
theorem dX7_isMark_13 : decode cX7_isMark 13 = .ok (.ifCond .eq 15, 3) := by decide +kernel
theorem dX7_isMark_16 : decode cX7_isMark 16 = .ok (.aload_n 0, 1) := by decide +kernel
theorem dX7_isMark_17 : decode cX7_isMark 17 = .ok (.iload_n 3, 1) := by decide +kernel
theorem dX7_isMark_18 : decode cX7_isMark 18 = .ok (.invokevirtual 96, 3) := by decide +kernel
theorem dX7_isMark_21 : decode cX7_isMark 21 = .ok (.ifCond .eq 7, 3) := by decide +kernel
theorem dX7_isMark_24 : decode cX7_isMark 24 = .ok (.iconst 1, 1) := by decide +kernel
theorem dX7_isMark_25 : decode cX7_isMark 25 = .ok (.goto 4, 3) := by decide +kernel
theorem dX7_isMark_28 : decode cX7_isMark 28 = .ok (.iconst 0, 1) := by decide +kernel
theorem dX7_isMark_29 : decode cX7_isMark 29 = .ok (.ireturn, 1) := by decide +kernel
theorem dX7_mark_0 : decode cX7_mark 0 = .ok (.aload_n 0, 1) := by decide +kernel
theorem dX7_mark_1 : decode cX7_mark 1 = .ok (.iload_n 1, 1) := by decide +kernel
theorem dX7_mark_2 : decode cX7_mark 2 = .ok (.iload_n 2, 1) := by decide +kernel
theorem dX7_mark_3 : decode cX7_mark 3 = .ok (.iload_n 3, 1) := by decide +kernel
theorem dX7_mark_4 : decode cX7_mark 4 = .ok (.invokevirtual 144, 3) := by decide +kernel
theorem dX7_mark_7 : decode cX7_mark 7 = .ok (.ifCond .ne 9, 3) := by decide +kernel
theorem dX7_mark_10 : decode cX7_mark 10 = .ok (.aload_n 0, 1) := by decide +kernel
theorem dX7_mark_11 : decode cX7_mark 11 = .ok (.iconst 1, 1) := by decide +kernel
theorem dX7_mark_12 : decode cX7_mark 12 = .ok (.invokevirtual 81, 3) := by decide +kernel
theorem dX7_mark_15 : decode cX7_mark 15 = .ok (.ireturn, 1) := by decide +kernel
theorem dX7_mark_16 : decode cX7_mark 16 = .ok (.iload 4, 2) := by decide +kernel
theorem dX7_mark_18 : decode cX7_mark 18 = .ok (.iconst 0, 1) := by decide +kernel
theorem dX7_mark_19 : decode cX7_mark 19 = .ok (.bipush 20, 2) := by decide +kernel
theorem dX7_mark_21 : decode cX7_mark 21 = .ok (.invokestatic 77, 3) := by decide +kernel
theorem dX7_mark_24 : decode cX7_mark 24 = .ok (.ifCond .ne 9, 3) := by decide +kernel
theorem dX7_mark_27 : decode cX7_mark 27 = .ok (.aload_n 0, 1) := by decide +kernel
theorem dX7_mark_28 : decode cX7_mark 28 = .ok (.iconst 2, 1) := by decide +kernel
theorem dX7_mark_29 : decode cX7_mark 29 = .ok (.invokevirtual 81, 3) := by decide +kernel
theorem dX7_mark_32 : decode cX7_mark 32 = .ok (.ireturn, 1) := by decide +kernel
theorem dX7_mark_33 : decode cX7_mark 33 = .ok (.aload_n 0, 1) := by decide +kernel
theorem dX7_mark_34 : decode cX7_mark 34 = .ok (.getfield 55, 3) := by decide +kernel
theorem dX7_mark_37 : decode cX7_mark 37 = .ok (.bipush 6, 2) := by decide +kernel
theorem dX7_mark_39 : decode cX7_mark 39 = .ok (.iload_n 2, 1) := by decide +kernel
theorem dX7_mark_40 : decode cX7_mark 40 = .ok (.imul, 1) := by decide +kernel
theorem dX7_mark_41 : decode cX7_mark 41 = .ok (.iload_n 3, 1) := by decide +kernel
theorem dX7_mark_42 : decode cX7_mark 42 = .ok (.iadd, 1) := by decide +kernel
theorem dX7_mark_43 : decode cX7_mark 43 = .ok (.iaload, 1) := by decide +kernel
theorem dX7_mark_44 : decode cX7_mark 44 = .ok (.ifCond .ne 9, 3) := by decide +kernel
theorem dX7_mark_47 : decode cX7_mark 47 = .ok (.aload_n 0, 1) := by decide +kernel
theorem dX7_mark_48 : decode cX7_mark 48 = .ok (.iconst 3, 1) := by decide +kernel
theorem dX7_mark_49 : decode cX7_mark 49 = .ok (.invokevirtual 81, 3) := by decide +kernel
theorem dX7_mark_52 : decode cX7_mark 52 = .ok (.ireturn, 1) := by decide +kernel
theorem dX7_mark_53 : decode cX7_mark 53 = .ok (.iconst 5, 1) := by decide +kernel
theorem dX7_mark_54 : decode cX7_mark 54 = .ok (.bipush 6, 2) := by decide +kernel
theorem dX7_mark_56 : decode cX7_mark 56 = .ok (.iload_n 2, 1) := by decide +kernel
theorem dX7_mark_57 : decode cX7_mark 57 = .ok (.imul, 1) := by decide +kernel
theorem dX7_mark_58 : decode cX7_mark 58 = .ok (.iload_n 3, 1) := by decide +kernel
theorem dX7_mark_59 : decode cX7_mark 59 = .ok (.iadd, 1) := by decide +kernel
theorem dX7_mark_60 : decode cX7_mark 60 = .ok (.imul, 1) := by decide +kernel
theorem dX7_mark_61 : decode cX7_mark 61 = .ok (.iload_n 1, 1) := by decide +kernel
theorem dX7_mark_62 : decode cX7_mark 62 = .ok (.iadd, 1) := by decide +kernel
theorem dX7_mark_63 : decode cX7_mark 63 = .ok (.istore 5, 2) := by decide +kernel
theorem dX7_mark_65 : decode cX7_mark 65 = .ok (.aload_n 0, 1) := by decide +kernel
theorem dX7_mark_66 : decode cX7_mark 66 = .ok (.getfield 58, 3) := by decide +kernel
theorem dX7_mark_69 : decode cX7_mark 69 = .ok (.iload 5, 2) := by decide +kernel
theorem dX7_mark_71 : decode cX7_mark 71 = .ok (.iaload, 1) := by decide +kernel
theorem dX7_mark_72 : decode cX7_mark 72 = .ok (.iconst 1, 1) := by decide +kernel
theorem dX7_mark_73 : decode cX7_mark 73 = .ok (.isub, 1) := by decide +kernel
theorem dX7_mark_74 : decode cX7_mark 74 = .ok (.istore 6, 2) := by decide +kernel
theorem dX7_mark_76 : decode cX7_mark 76 = .ok (.aload_n 0, 1) := by decide +kernel
theorem dX7_mark_77 : decode cX7_mark 77 = .ok (.getfield 58, 3) := by decide +kernel
theorem dX7_mark_80 : decode cX7_mark 80 = .ok (.iload 5, 2) := by decide +kernel
theorem dX7_mark_82 : decode cX7_mark 82 = .ok (.iload 4, 2) := by decide +kernel
theorem dX7_mark_84 : decode cX7_mark 84 = .ok (.iconst 1, 1) := by decide +kernel
theorem dX7_mark_85 : decode cX7_mark 85 = .ok (.iadd, 1) := by decide +kernel
theorem dX7_mark_86 : decode cX7_mark 86 = .ok (.iastore, 1) := by decide +kernel
theorem dX7_mark_87 : decode cX7_mark 87 = .ok (.aload_n 0, 1) := by decide +kernel
theorem dX7_mark_88 : decode cX7_mark 88 = .ok (.getfield 61, 3) := by decide +kernel
theorem dX7_mark_91 : decode cX7_mark 91 = .ok (.iload 5, 2) := by decide +kernel
theorem dX7_mark_93 : decode cX7_mark 93 = .ok (.iconst 0, 1) := by decide +kernel
theorem dX7_mark_94 : decode cX7_mark 94 = .ok (.bastore, 1) := by decide +kernel
theorem dX7_mark_95 : decode cX7_mark 95 = .ok (.aload_n 0, 1) := by decide +kernel
theorem dX7_mark_96 : decode cX7_mark 96 = .ok (.iload 6, 2) := by decide +kernel
theorem dX7_mark_98 : decode cX7_mark 98 = .ok (.invokevirtual 93, 3) := by decide +kernel
theorem dX7_mark_101 : decode cX7_mark 101 = .ok (.ireturn, 1) := by decide +kernel
theorem dX7_affirm_0 : decode cX7_affirm 0 = .ok (.aload_n 0, 1) := by decide +kernel
theorem dX7_affirm_1 : decode cX7_affirm 1 = .ok (.iload_n 1, 1) := by decide +kernel
theorem dX7_affirm_2 : decode cX7_affirm 2 = .ok (.iload_n 2, 1) := by decide +kernel
theorem dX7_affirm_3 : decode cX7_affirm 3 = .ok (.iload_n 3, 1) := by decide +kernel
theorem dX7_affirm_4 : decode cX7_affirm 4 = .ok (.invokevirtual 144, 3) := by decide +kernel
theorem dX7_affirm_7 : decode cX7_affirm 7 = .ok (.ifCond .ne 9, 3) := by decide +kernel
theorem dX7_affirm_10 : decode cX7_affirm 10 = .ok (.aload_n 0, 1) := by decide +kernel
theorem dX7_affirm_11 : decode cX7_affirm 11 = .ok (.iconst 1, 1) := by decide +kernel
theorem dX7_affirm_12 : decode cX7_affirm 12 = .ok (.invokevirtual 81, 3) := by decide +kernel
theorem dX7_affirm_15 : decode cX7_affirm 15 = .ok (.ireturn, 1) := by decide +kernel
theorem dX7_affirm_16 : decode cX7_affirm 16 = .ok (.iconst 5, 1) := by decide +kernel
theorem dX7_affirm_17 : decode cX7_affirm 17 = .ok (.bipush 6, 2) := by decide +kernel
theorem dX7_affirm_19 : decode cX7_affirm 19 = .ok (.iload_n 2, 1) := by decide +kernel
theorem dX7_affirm_20 : decode cX7_affirm 20 = .ok (.imul, 1) := by decide +kernel
theorem dX7_affirm_21 : decode cX7_affirm 21 = .ok (.iload_n 3, 1) := by decide +kernel
theorem dX7_affirm_22 : decode cX7_affirm 22 = .ok (.iadd, 1) := by decide +kernel
theorem dX7_affirm_23 : decode cX7_affirm 23 = .ok (.imul, 1) := by decide +kernel
theorem dX7_affirm_24 : decode cX7_affirm 24 = .ok (.iload_n 1, 1) := by decide +kernel
theorem dX7_affirm_25 : decode cX7_affirm 25 = .ok (.iadd, 1) := by decide +kernel
theorem dX7_affirm_26 : decode cX7_affirm 26 = .ok (.istore 4, 2) := by decide +kernel
theorem dX7_affirm_28 : decode cX7_affirm 28 = .ok (.aload_n 0, 1) := by decide +kernel
theorem dX7_affirm_29 : decode cX7_affirm 29 = .ok (.getfield 61, 3) := by decide +kernel
theorem dX7_affirm_32 : decode cX7_affirm 32 = .ok (.iload 4, 2) := by decide +kernel
theorem dX7_affirm_34 : decode cX7_affirm 34 = .ok (.baload, 1) := by decide +kernel
theorem dX7_affirm_35 : decode cX7_affirm 35 = .ok (.ifCond .ne 9, 3) := by decide +kernel
theorem dX7_affirm_38 : decode cX7_affirm 38 = .ok (.aload_n 0, 1) := by decide +kernel
theorem dX7_affirm_39 : decode cX7_affirm 39 = .ok (.iconst 2, 1) := by decide +kernel
theorem dX7_affirm_40 : decode cX7_affirm 40 = .ok (.invokevirtual 81, 3) := by decide +kernel
theorem dX7_affirm_43 : decode cX7_affirm 43 = .ok (.ireturn, 1) := by decide +kernel
theorem dX7_affirm_44 : decode cX7_affirm 44 = .ok (.aload_n 0, 1) := by decide +kernel
theorem dX7_affirm_45 : decode cX7_affirm 45 = .ok (.getfield 61, 3) := by decide +kernel
theorem dX7_affirm_48 : decode cX7_affirm 48 = .ok (.iload 4, 2) := by decide +kernel
theorem dX7_affirm_50 : decode cX7_affirm 50 = .ok (.iconst 0, 1) := by decide +kernel
theorem dX7_affirm_51 : decode cX7_affirm 51 = .ok (.bastore, 1) := by decide +kernel
theorem dX7_affirm_52 : decode cX7_affirm 52 = .ok (.aload_n 0, 1) := by decide +kernel
theorem dX7_affirm_53 : decode cX7_affirm 53 = .ok (.aload_n 0, 1) := by decide +kernel
theorem dX7_affirm_54 : decode cX7_affirm 54 = .ok (.getfield 58, 3) := by decide +kernel
theorem dX7_affirm_57 : decode cX7_affirm 57 = .ok (.iload 4, 2) := by decide +kernel
theorem dX7_affirm_59 : decode cX7_affirm 59 = .ok (.iaload, 1) := by decide +kernel
theorem dX7_affirm_60 : decode cX7_affirm 60 = .ok (.iconst 1, 1) := by decide +kernel
theorem dX7_affirm_61 : decode cX7_affirm 61 = .ok (.isub, 1) := by decide +kernel
theorem dX7_affirm_62 : decode cX7_affirm 62 = .ok (.invokevirtual 93, 3) := by decide +kernel
theorem dX7_affirm_65 : decode cX7_affirm 65 = .ok (.ireturn, 1) := by decide +kernel
theorem dX7_asked_0 : decode cX7_asked 0 = .ok (.iconst 0, 1) := by decide +kernel
theorem dX7_asked_1 : decode cX7_asked 1 = .ok (.istore_n 1, 1) := by decide +kernel
theorem dX7_asked_2 : decode cX7_asked 2 = .ok (.iconst 0, 1) := by decide +kernel
theorem dX7_asked_3 : decode cX7_asked 3 = .ok (.istore_n 2, 1) := by decide +kernel
theorem dX7_asked_4 : decode cX7_asked 4 = .ok (.iload_n 2, 1) := by decide +kernel
theorem dX7_asked_5 : decode cX7_asked 5 = .ok (.bipush 120, 2) := by decide +kernel
theorem dX7_asked_7 : decode cX7_asked 7 = .ok (.if_icmp .ge 26, 3) := by decide +kernel
theorem dX7_asked_10 : decode cX7_asked 10 = .ok (.iload_n 1, 1) := by decide +kernel
theorem dX7_asked_11 : decode cX7_asked 11 = .ok (.aload_n 0, 1) := by decide +kernel
theorem dX7_asked_12 : decode cX7_asked 12 = .ok (.getfield 61, 3) := by decide +kernel
theorem dX7_asked_15 : decode cX7_asked 15 = .ok (.iload_n 2, 1) := by decide +kernel
theorem dX7_asked_16 : decode cX7_asked 16 = .ok (.baload, 1) := by decide +kernel
theorem dX7_asked_17 : decode cX7_asked 17 = .ok (.ifCond .eq 7, 3) := by decide +kernel
theorem dX7_asked_20 : decode cX7_asked 20 = .ok (.iconst 1, 1) := by decide +kernel
theorem dX7_asked_21 : decode cX7_asked 21 = .ok (.goto 4, 3) := by decide +kernel
theorem dX7_asked_24 : decode cX7_asked 24 = .ok (.iconst 0, 1) := by decide +kernel
theorem dX7_asked_25 : decode cX7_asked 25 = .ok (.iadd, 1) := by decide +kernel
theorem dX7_asked_26 : decode cX7_asked 26 = .ok (.istore_n 1, 1) := by decide +kernel
theorem dX7_asked_27 : decode cX7_asked 27 = .ok (.iinc 2 1, 3) := by decide +kernel
theorem dX7_asked_30 : decode cX7_asked 30 = .ok (.goto (-26), 3) := by decide +kernel
theorem dX7_asked_33 : decode cX7_asked 33 = .ok (.aload_n 0, 1) := by decide +kernel
theorem dX7_asked_34 : decode cX7_asked 34 = .ok (.iload_n 1, 1) := by decide +kernel
theorem dX7_asked_35 : decode cX7_asked 35 = .ok (.invokevirtual 93, 3) := by decide +kernel
theorem dX7_asked_38 : decode cX7_asked 38 = .ok (.ireturn, 1) := by decide +kernel
theorem dX7_counted_0 : decode cX7_counted 0 = .ok (.iconst 5, 1) := by decide +kernel
theorem dX7_counted_1 : decode cX7_counted 1 = .ok (.bipush 6, 2) := by decide +kernel
theorem dX7_counted_3 : decode cX7_counted 3 = .ok (.iload_n 1, 1) := by decide +kernel
theorem dX7_counted_4 : decode cX7_counted 4 = .ok (.imul, 1) := by decide +kernel
theorem dX7_counted_5 : decode cX7_counted 5 = .ok (.iload_n 2, 1) := by decide +kernel
theorem dX7_counted_6 : decode cX7_counted 6 = .ok (.iadd, 1) := by decide +kernel
theorem dX7_counted_7 : decode cX7_counted 7 = .ok (.imul, 1) := by decide +kernel
theorem dX7_counted_8 : decode cX7_counted 8 = .ok (.iload_n 3, 1) := by decide +kernel
theorem dX7_counted_9 : decode cX7_counted 9 = .ok (.iadd, 1) := by decide +kernel
theorem dX7_counted_10 : decode cX7_counted 10 = .ok (.istore 4, 2) := by decide +kernel
theorem dX7_counted_12 : decode cX7_counted 12 = .ok (.aload_n 0, 1) := by decide +kernel
theorem dX7_counted_13 : decode cX7_counted 13 = .ok (.getfield 61, 3) := by decide +kernel
theorem dX7_counted_16 : decode cX7_counted 16 = .ok (.iload 4, 2) := by decide +kernel
theorem dX7_counted_18 : decode cX7_counted 18 = .ok (.baload, 1) := by decide +kernel
theorem dX7_counted_19 : decode cX7_counted 19 = .ok (.ifCond .eq 7, 3) := by decide +kernel
theorem dX7_counted_22 : decode cX7_counted 22 = .ok (.iconst (-1), 1) := by decide +kernel
theorem dX7_counted_23 : decode cX7_counted 23 = .ok (.goto 12, 3) := by decide +kernel
theorem dX7_counted_26 : decode cX7_counted 26 = .ok (.aload_n 0, 1) := by decide +kernel
theorem dX7_counted_27 : decode cX7_counted 27 = .ok (.getfield 58, 3) := by decide +kernel
theorem dX7_counted_30 : decode cX7_counted 30 = .ok (.iload 4, 2) := by decide +kernel
theorem dX7_counted_32 : decode cX7_counted 32 = .ok (.iaload, 1) := by decide +kernel
theorem dX7_counted_33 : decode cX7_counted 33 = .ok (.iconst 1, 1) := by decide +kernel
theorem dX7_counted_34 : decode cX7_counted 34 = .ok (.isub, 1) := by decide +kernel
theorem dX7_counted_35 : decode cX7_counted 35 = .ok (.ireturn, 1) := by decide +kernel
theorem dX7_fallen_0 : decode cX7_fallen 0 = .ok (.iload_n 3, 1) := by decide +kernel
theorem dX7_fallen_1 : decode cX7_fallen 1 = .ok (.istore 4, 2) := by decide +kernel
theorem dX7_fallen_3 : decode cX7_fallen 3 = .ok (.bipush 20, 2) := by decide +kernel
theorem dX7_fallen_5 : decode cX7_fallen 5 = .ok (.istore 5, 2) := by decide +kernel
theorem dX7_fallen_7 : decode cX7_fallen 7 = .ok (.iload 5, 2) := by decide +kernel
theorem dX7_fallen_9 : decode cX7_fallen 9 = .ok (.ifCond .lt 51, 3) := by decide +kernel
theorem dX7_fallen_12 : decode cX7_fallen 12 = .ok (.iconst 0, 1) := by decide +kernel
theorem dX7_fallen_13 : decode cX7_fallen 13 = .ok (.istore 6, 2) := by decide +kernel
theorem dX7_fallen_15 : decode cX7_fallen 15 = .ok (.iload 6, 2) := by decide +kernel
theorem dX7_fallen_17 : decode cX7_fallen 17 = .ok (.iconst 5, 1) := by decide +kernel
theorem dX7_fallen_18 : decode cX7_fallen 18 = .ok (.if_icmp .ge 36, 3) := by decide +kernel
theorem dX7_fallen_21 : decode cX7_fallen 21 = .ok (.aload_n 0, 1) := by decide +kernel
theorem dX7_fallen_22 : decode cX7_fallen 22 = .ok (.iload_n 1, 1) := by decide +kernel
theorem dX7_fallen_23 : decode cX7_fallen 23 = .ok (.iload_n 2, 1) := by decide +kernel
theorem dX7_fallen_24 : decode cX7_fallen 24 = .ok (.iload 6, 2) := by decide +kernel
theorem dX7_fallen_26 : decode cX7_fallen 26 = .ok (.invokevirtual 147, 3) := by decide +kernel
theorem dX7_fallen_29 : decode cX7_fallen 29 = .ok (.iload 5, 2) := by decide +kernel
theorem dX7_fallen_31 : decode cX7_fallen 31 = .ok (.if_icmp .eq 6, 3) := by decide +kernel
theorem dX7_fallen_34 : decode cX7_fallen 34 = .ok (.goto 14, 3) := by decide +kernel
theorem dX7_fallen_37 : decode cX7_fallen 37 = .ok (.iload 4, 2) := by decide +kernel
theorem dX7_fallen_39 : decode cX7_fallen 39 = .ok (.ifCond .ne 6, 3) := by decide +kernel
theorem dX7_fallen_42 : decode cX7_fallen 42 = .ok (.iload 5, 2) := by decide +kernel
theorem dX7_fallen_44 : decode cX7_fallen 44 = .ok (.ireturn, 1) := by decide +kernel
theorem dX7_fallen_45 : decode cX7_fallen 45 = .ok (.iinc 4 (-1), 3) := by decide +kernel
theorem dX7_fallen_48 : decode cX7_fallen 48 = .ok (.iinc 6 1, 3) := by decide +kernel
theorem dX7_fallen_51 : decode cX7_fallen 51 = .ok (.goto (-36), 3) := by decide +kernel
theorem dX7_fallen_54 : decode cX7_fallen 54 = .ok (.iinc 5 (-1), 3) := by decide +kernel
theorem dX7_fallen_57 : decode cX7_fallen 57 = .ok (.goto (-50), 3) := by decide +kernel
theorem dX7_fallen_60 : decode cX7_fallen 60 = .ok (.iconst (-1), 1) := by decide +kernel
theorem dX7_fallen_61 : decode cX7_fallen 61 = .ok (.ireturn, 1) := by decide +kernel
theorem dX7_pointsOf_0 : decode cX7_pointsOf 0 = .ok (.iconst 0, 1) := by decide +kernel
theorem dX7_pointsOf_1 : decode cX7_pointsOf 1 = .ok (.istore_n 3, 1) := by decide +kernel
theorem dX7_pointsOf_2 : decode cX7_pointsOf 2 = .ok (.iconst 0, 1) := by decide +kernel
theorem dX7_pointsOf_3 : decode cX7_pointsOf 3 = .ok (.istore 4, 2) := by decide +kernel
theorem dX7_pointsOf_5 : decode cX7_pointsOf 5 = .ok (.iconst 0, 1) := by decide +kernel
theorem dX7_pointsOf_6 : decode cX7_pointsOf 6 = .ok (.istore 5, 2) := by decide +kernel
theorem dX7_pointsOf_8 : decode cX7_pointsOf 8 = .ok (.iload 5, 2) := by decide +kernel
theorem dX7_pointsOf_10 : decode cX7_pointsOf 10 = .ok (.iconst 5, 1) := by decide +kernel
theorem dX7_pointsOf_11 : decode cX7_pointsOf 11 = .ok (.if_icmp .ge 50, 3) := by decide +kernel
theorem dX7_pointsOf_14 : decode cX7_pointsOf 14 = .ok (.aload_n 0, 1) := by decide +kernel
theorem dX7_pointsOf_15 : decode cX7_pointsOf 15 = .ok (.iload_n 1, 1) := by decide +kernel
theorem dX7_pointsOf_16 : decode cX7_pointsOf 16 = .ok (.iload_n 2, 1) := by decide +kernel
theorem dX7_pointsOf_17 : decode cX7_pointsOf 17 = .ok (.iload 5, 2) := by decide +kernel
theorem dX7_pointsOf_19 : decode cX7_pointsOf 19 = .ok (.invokevirtual 150, 3) := by decide +kernel
theorem dX7_pointsOf_22 : decode cX7_pointsOf 22 = .ok (.istore 6, 2) := by decide +kernel
theorem dX7_pointsOf_24 : decode cX7_pointsOf 24 = .ok (.iload_n 3, 1) := by decide +kernel
theorem dX7_pointsOf_25 : decode cX7_pointsOf 25 = .ok (.iload 6, 2) := by decide +kernel
theorem dX7_pointsOf_27 : decode cX7_pointsOf 27 = .ok (.iconst (-1), 1) := by decide +kernel
theorem dX7_pointsOf_28 : decode cX7_pointsOf 28 = .ok (.if_icmp .ne 7, 3) := by decide +kernel
theorem dX7_pointsOf_31 : decode cX7_pointsOf 31 = .ok (.iconst 0, 1) := by decide +kernel
theorem dX7_pointsOf_32 : decode cX7_pointsOf 32 = .ok (.goto 4, 3) := by decide +kernel
theorem dX7_pointsOf_35 : decode cX7_pointsOf 35 = .ok (.iconst 1, 1) := by decide +kernel
theorem dX7_pointsOf_36 : decode cX7_pointsOf 36 = .ok (.iadd, 1) := by decide +kernel
theorem dX7_pointsOf_37 : decode cX7_pointsOf 37 = .ok (.istore_n 3, 1) := by decide +kernel
theorem dX7_pointsOf_38 : decode cX7_pointsOf 38 = .ok (.iload 4, 2) := by decide +kernel
theorem dX7_pointsOf_40 : decode cX7_pointsOf 40 = .ok (.iload 6, 2) := by decide +kernel
theorem dX7_pointsOf_42 : decode cX7_pointsOf 42 = .ok (.iconst (-1), 1) := by decide +kernel
theorem dX7_pointsOf_43 : decode cX7_pointsOf 43 = .ok (.if_icmp .ne 7, 3) := by decide +kernel
theorem dX7_pointsOf_46 : decode cX7_pointsOf 46 = .ok (.iconst 0, 1) := by decide +kernel
theorem dX7_pointsOf_47 : decode cX7_pointsOf 47 = .ok (.goto 5, 3) := by decide +kernel
theorem dX7_pointsOf_50 : decode cX7_pointsOf 50 = .ok (.iload 6, 2) := by decide +kernel
theorem dX7_pointsOf_52 : decode cX7_pointsOf 52 = .ok (.iadd, 1) := by decide +kernel
theorem dX7_pointsOf_53 : decode cX7_pointsOf 53 = .ok (.istore 4, 2) := by decide +kernel
theorem dX7_pointsOf_55 : decode cX7_pointsOf 55 = .ok (.iinc 5 1, 3) := by decide +kernel
theorem dX7_pointsOf_58 : decode cX7_pointsOf 58 = .ok (.goto (-50), 3) := by decide +kernel
theorem dX7_pointsOf_61 : decode cX7_pointsOf 61 = .ok (.iload_n 3, 1) := by decide +kernel
theorem dX7_pointsOf_62 : decode cX7_pointsOf 62 = .ok (.iconst 4, 1) := by decide +kernel
theorem dX7_pointsOf_63 : decode cX7_pointsOf 63 = .ok (.if_icmp .ge 8, 3) := by decide +kernel
theorem dX7_pointsOf_66 : decode cX7_pointsOf 66 = .ok (.iload 4, 2) := by decide +kernel
theorem dX7_pointsOf_68 : decode cX7_pointsOf 68 = .ok (.goto 23, 3) := by decide +kernel
theorem dX7_pointsOf_71 : decode cX7_pointsOf 71 = .ok (.iload 4, 2) := by decide +kernel
theorem dX7_pointsOf_73 : decode cX7_pointsOf 73 = .ok (.aload_n 0, 1) := by decide +kernel
theorem dX7_pointsOf_74 : decode cX7_pointsOf 74 = .ok (.iload_n 1, 1) := by decide +kernel
theorem dX7_pointsOf_75 : decode cX7_pointsOf 75 = .ok (.iload_n 2, 1) := by decide +kernel
theorem dX7_pointsOf_76 : decode cX7_pointsOf 76 = .ok (.iconst 0, 1) := by decide +kernel
theorem dX7_pointsOf_77 : decode cX7_pointsOf 77 = .ok (.invokevirtual 150, 3) := by decide +kernel
theorem dX7_pointsOf_80 : decode cX7_pointsOf 80 = .ok (.isub, 1) := by decide +kernel
theorem dX7_pointsOf_81 : decode cX7_pointsOf 81 = .ok (.aload_n 0, 1) := by decide +kernel
theorem dX7_pointsOf_82 : decode cX7_pointsOf 82 = .ok (.iload_n 1, 1) := by decide +kernel
theorem dX7_pointsOf_83 : decode cX7_pointsOf 83 = .ok (.iload_n 2, 1) := by decide +kernel
theorem dX7_pointsOf_84 : decode cX7_pointsOf 84 = .ok (.iload_n 3, 1) := by decide +kernel
theorem dX7_pointsOf_85 : decode cX7_pointsOf 85 = .ok (.iconst 1, 1) := by decide +kernel
theorem dX7_pointsOf_86 : decode cX7_pointsOf 86 = .ok (.isub, 1) := by decide +kernel
theorem dX7_pointsOf_87 : decode cX7_pointsOf 87 = .ok (.invokevirtual 150, 3) := by decide +kernel
theorem dX7_pointsOf_90 : decode cX7_pointsOf 90 = .ok (.isub, 1) := by decide +kernel
theorem dX7_pointsOf_91 : decode cX7_pointsOf 91 = .ok (.ireturn, 1) := by decide +kernel
theorem dX7_points_0 : decode cX7_points 0 = .ok (.iload_n 1, 1) := by decide +kernel
theorem dX7_points_1 : decode cX7_points 1 = .ok (.invokestatic 141, 3) := by decide +kernel
theorem dX7_points_4 : decode cX7_points 4 = .ok (.ifCond .eq 24, 3) := by decide +kernel
theorem dX7_points_7 : decode cX7_points 7 = .ok (.aload_n 0, 1) := by decide +kernel
theorem dX7_points_8 : decode cX7_points 8 = .ok (.iload_n 2, 1) := by decide +kernel
theorem dX7_points_9 : decode cX7_points 9 = .ok (.invokevirtual 96, 3) := by decide +kernel
theorem dX7_points_12 : decode cX7_points 12 = .ok (.ifCond .eq 16, 3) := by decide +kernel
theorem dX7_points_15 : decode cX7_points 15 = .ok (.aload_n 0, 1) := by decide +kernel
theorem dX7_points_16 : decode cX7_points 16 = .ok (.aload_n 0, 1) := by decide +kernel
theorem dX7_points_17 : decode cX7_points 17 = .ok (.iload_n 1, 1) := by decide +kernel
theorem dX7_points_18 : decode cX7_points 18 = .ok (.iload_n 2, 1) := by decide +kernel
theorem dX7_points_19 : decode cX7_points 19 = .ok (.invokevirtual 153, 3) := by decide +kernel
theorem dX7_points_22 : decode cX7_points 22 = .ok (.invokevirtual 93, 3) := by decide +kernel
theorem dX7_points_25 : decode cX7_points 25 = .ok (.goto 8, 3) := by decide +kernel
theorem dX7_points_28 : decode cX7_points 28 = .ok (.aload_n 0, 1) := by decide +kernel
theorem dX7_points_29 : decode cX7_points 29 = .ok (.iconst 1, 1) := by decide +kernel
theorem dX7_points_30 : decode cX7_points 30 = .ok (.invokevirtual 81, 3) := by decide +kernel
theorem dX7_points_33 : decode cX7_points 33 = .ok (.ireturn, 1) := by decide +kernel
theorem dX7_openOf_0 : decode cX7_openOf 0 = .ok (.aload_n 0, 1) := by decide +kernel
theorem dX7_openOf_1 : decode cX7_openOf 1 = .ok (.iconst 0, 1) := by decide +kernel
theorem dX7_openOf_2 : decode cX7_openOf 2 = .ok (.iload_n 1, 1) := by decide +kernel
theorem dX7_openOf_3 : decode cX7_openOf 3 = .ok (.invokevirtual 153, 3) := by decide +kernel
theorem dX7_openOf_6 : decode cX7_openOf 6 = .ok (.aload_n 0, 1) := by decide +kernel
theorem dX7_openOf_7 : decode cX7_openOf 7 = .ok (.iconst 1, 1) := by decide +kernel
theorem dX7_openOf_8 : decode cX7_openOf 8 = .ok (.iload_n 1, 1) := by decide +kernel
theorem dX7_openOf_9 : decode cX7_openOf 9 = .ok (.invokevirtual 153, 3) := by decide +kernel
theorem dX7_openOf_12 : decode cX7_openOf 12 = .ok (.iadd, 1) := by decide +kernel
theorem dX7_openOf_13 : decode cX7_openOf 13 = .ok (.aload_n 0, 1) := by decide +kernel
theorem dX7_openOf_14 : decode cX7_openOf 14 = .ok (.iconst 2, 1) := by decide +kernel
theorem dX7_openOf_15 : decode cX7_openOf 15 = .ok (.iload_n 1, 1) := by decide +kernel
theorem dX7_openOf_16 : decode cX7_openOf 16 = .ok (.invokevirtual 153, 3) := by decide +kernel
theorem dX7_openOf_19 : decode cX7_openOf 19 = .ok (.iadd, 1) := by decide +kernel
theorem dX7_openOf_20 : decode cX7_openOf 20 = .ok (.ireturn, 1) := by decide +kernel
theorem dX7_isAhead_0 : decode cX7_isAhead 0 = .ok (.aload_n 0, 1) := by decide +kernel
theorem dX7_isAhead_1 : decode cX7_isAhead 1 = .ok (.iload_n 1, 1) := by decide +kernel
theorem dX7_isAhead_2 : decode cX7_isAhead 2 = .ok (.invokevirtual 156, 3) := by decide +kernel
theorem dX7_isAhead_5 : decode cX7_isAhead 5 = .ok (.aload_n 0, 1) := by decide +kernel
theorem dX7_isAhead_6 : decode cX7_isAhead 6 = .ok (.iload_n 2, 1) := by decide +kernel
theorem dX7_isAhead_7 : decode cX7_isAhead 7 = .ok (.invokevirtual 156, 3) := by decide +kernel
theorem dX7_isAhead_10 : decode cX7_isAhead 10 = .ok (.if_icmp .eq 22, 3) := by decide +kernel
theorem dX7_isAhead_13 : decode cX7_isAhead 13 = .ok (.aload_n 0, 1) := by decide +kernel
theorem dX7_isAhead_14 : decode cX7_isAhead 14 = .ok (.iload_n 1, 1) := by decide +kernel
theorem dX7_isAhead_15 : decode cX7_isAhead 15 = .ok (.invokevirtual 156, 3) := by decide +kernel
theorem dX7_isAhead_18 : decode cX7_isAhead 18 = .ok (.aload_n 0, 1) := by decide +kernel
theorem dX7_isAhead_19 : decode cX7_isAhead 19 = .ok (.iload_n 2, 1) := by decide +kernel
theorem dX7_isAhead_20 : decode cX7_isAhead 20 = .ok (.invokevirtual 156, 3) := by decide +kernel
theorem dX7_isAhead_23 : decode cX7_isAhead 23 = .ok (.if_icmp .le 7, 3) := by decide +kernel
theorem dX7_isAhead_26 : decode cX7_isAhead 26 = .ok (.iconst 1, 1) := by decide +kernel
theorem dX7_isAhead_27 : decode cX7_isAhead 27 = .ok (.goto 4, 3) := by decide +kernel
theorem dX7_isAhead_30 : decode cX7_isAhead 30 = .ok (.iconst 0, 1) := by decide +kernel
theorem dX7_isAhead_31 : decode cX7_isAhead 31 = .ok (.ireturn, 1) := by decide +kernel
theorem dX7_isAhead_32 : decode cX7_isAhead 32 = .ok (.aload_n 0, 1) := by decide +kernel
theorem dX7_isAhead_33 : decode cX7_isAhead 33 = .ok (.iconst 3, 1) := by decide +kernel
theorem dX7_isAhead_34 : decode cX7_isAhead 34 = .ok (.iload_n 1, 1) := by decide +kernel
theorem dX7_isAhead_35 : decode cX7_isAhead 35 = .ok (.invokevirtual 153, 3) := by decide +kernel
theorem dX7_isAhead_38 : decode cX7_isAhead 38 = .ok (.aload_n 0, 1) := by decide +kernel
theorem dX7_isAhead_39 : decode cX7_isAhead 39 = .ok (.iconst 3, 1) := by decide +kernel
theorem dX7_isAhead_40 : decode cX7_isAhead 40 = .ok (.iload_n 2, 1) := by decide +kernel
theorem dX7_isAhead_41 : decode cX7_isAhead 41 = .ok (.invokevirtual 153, 3) := by decide +kernel
theorem dX7_isAhead_44 : decode cX7_isAhead 44 = .ok (.if_icmp .eq 24, 3) := by decide +kernel
theorem dX7_isAhead_47 : decode cX7_isAhead 47 = .ok (.aload_n 0, 1) := by decide +kernel
theorem dX7_isAhead_48 : decode cX7_isAhead 48 = .ok (.iconst 3, 1) := by decide +kernel
theorem dX7_isAhead_49 : decode cX7_isAhead 49 = .ok (.iload_n 1, 1) := by decide +kernel
theorem dX7_isAhead_50 : decode cX7_isAhead 50 = .ok (.invokevirtual 153, 3) := by decide +kernel
theorem dX7_isAhead_53 : decode cX7_isAhead 53 = .ok (.aload_n 0, 1) := by decide +kernel
theorem dX7_isAhead_54 : decode cX7_isAhead 54 = .ok (.iconst 3, 1) := by decide +kernel
theorem dX7_isAhead_55 : decode cX7_isAhead 55 = .ok (.iload_n 2, 1) := by decide +kernel
theorem dX7_isAhead_56 : decode cX7_isAhead 56 = .ok (.invokevirtual 153, 3) := by decide +kernel
theorem dX7_isAhead_59 : decode cX7_isAhead 59 = .ok (.if_icmp .le 7, 3) := by decide +kernel
theorem dX7_isAhead_62 : decode cX7_isAhead 62 = .ok (.iconst 1, 1) := by decide +kernel
theorem dX7_isAhead_63 : decode cX7_isAhead 63 = .ok (.goto 4, 3) := by decide +kernel
theorem dX7_isAhead_66 : decode cX7_isAhead 66 = .ok (.iconst 0, 1) := by decide +kernel
theorem dX7_isAhead_67 : decode cX7_isAhead 67 = .ok (.ireturn, 1) := by decide +kernel
theorem dX7_isAhead_68 : decode cX7_isAhead 68 = .ok (.iconst 0, 1) := by decide +kernel
theorem dX7_isAhead_69 : decode cX7_isAhead 69 = .ok (.istore_n 3, 1) := by decide +kernel
theorem dX7_isAhead_70 : decode cX7_isAhead 70 = .ok (.iload_n 3, 1) := by decide +kernel
theorem dX7_isAhead_71 : decode cX7_isAhead 71 = .ok (.iconst 3, 1) := by decide +kernel
theorem dX7_isAhead_72 : decode cX7_isAhead 72 = .ok (.if_icmp .ge 59, 3) := by decide +kernel
theorem dX7_isAhead_75 : decode cX7_isAhead 75 = .ok (.iconst 0, 1) := by decide +kernel
theorem dX7_isAhead_76 : decode cX7_isAhead 76 = .ok (.istore 4, 2) := by decide +kernel
theorem dX7_isAhead_78 : decode cX7_isAhead 78 = .ok (.iload 4, 2) := by decide +kernel
theorem dX7_isAhead_80 : decode cX7_isAhead 80 = .ok (.iconst 5, 1) := by decide +kernel
theorem dX7_isAhead_81 : decode cX7_isAhead 81 = .ok (.if_icmp .ge 44, 3) := by decide +kernel
theorem dX7_isAhead_84 : decode cX7_isAhead 84 = .ok (.aload_n 0, 1) := by decide +kernel
theorem dX7_isAhead_85 : decode cX7_isAhead 85 = .ok (.iload_n 3, 1) := by decide +kernel
theorem dX7_isAhead_86 : decode cX7_isAhead 86 = .ok (.iload_n 1, 1) := by decide +kernel
theorem dX7_isAhead_87 : decode cX7_isAhead 87 = .ok (.iload 4, 2) := by decide +kernel
theorem dX7_isAhead_89 : decode cX7_isAhead 89 = .ok (.invokevirtual 150, 3) := by decide +kernel
theorem dX7_isAhead_92 : decode cX7_isAhead 92 = .ok (.aload_n 0, 1) := by decide +kernel
theorem dX7_isAhead_93 : decode cX7_isAhead 93 = .ok (.iload_n 3, 1) := by decide +kernel
theorem dX7_isAhead_94 : decode cX7_isAhead 94 = .ok (.iload_n 2, 1) := by decide +kernel
theorem dX7_isAhead_95 : decode cX7_isAhead 95 = .ok (.iload 4, 2) := by decide +kernel
theorem dX7_isAhead_97 : decode cX7_isAhead 97 = .ok (.invokevirtual 150, 3) := by decide +kernel
theorem dX7_isAhead_100 : decode cX7_isAhead 100 = .ok (.isub, 1) := by decide +kernel
theorem dX7_isAhead_101 : decode cX7_isAhead 101 = .ok (.istore 5, 2) := by decide +kernel
theorem dX7_isAhead_103 : decode cX7_isAhead 103 = .ok (.iload 5, 2) := by decide +kernel
theorem dX7_isAhead_105 : decode cX7_isAhead 105 = .ok (.ifCond .eq 14, 3) := by decide +kernel
theorem dX7_isAhead_108 : decode cX7_isAhead 108 = .ok (.iload 5, 2) := by decide +kernel
theorem dX7_isAhead_110 : decode cX7_isAhead 110 = .ok (.ifCond .le 7, 3) := by decide +kernel
theorem dX7_isAhead_113 : decode cX7_isAhead 113 = .ok (.iconst 1, 1) := by decide +kernel
theorem dX7_isAhead_114 : decode cX7_isAhead 114 = .ok (.goto 4, 3) := by decide +kernel
theorem dX7_isAhead_117 : decode cX7_isAhead 117 = .ok (.iconst 0, 1) := by decide +kernel
theorem dX7_isAhead_118 : decode cX7_isAhead 118 = .ok (.ireturn, 1) := by decide +kernel
theorem dX7_isAhead_119 : decode cX7_isAhead 119 = .ok (.iinc 4 1, 3) := by decide +kernel
theorem dX7_isAhead_122 : decode cX7_isAhead 122 = .ok (.goto (-44), 3) := by decide +kernel
theorem dX7_isAhead_125 : decode cX7_isAhead 125 = .ok (.iinc 3 1, 3) := by decide +kernel
theorem dX7_isAhead_128 : decode cX7_isAhead 128 = .ok (.goto (-58), 3) := by decide +kernel
theorem dX7_isAhead_131 : decode cX7_isAhead 131 = .ok (.iload_n 1, 1) := by decide +kernel
theorem dX7_isAhead_132 : decode cX7_isAhead 132 = .ok (.iload_n 2, 1) := by decide +kernel
theorem dX7_isAhead_133 : decode cX7_isAhead 133 = .ok (.if_icmp .ge 7, 3) := by decide +kernel
theorem dX7_isAhead_136 : decode cX7_isAhead 136 = .ok (.iconst 1, 1) := by decide +kernel
theorem dX7_isAhead_137 : decode cX7_isAhead 137 = .ok (.goto 4, 3) := by decide +kernel
theorem dX7_isAhead_140 : decode cX7_isAhead 140 = .ok (.iconst 0, 1) := by decide +kernel
theorem dX7_isAhead_141 : decode cX7_isAhead 141 = .ok (.ireturn, 1) := by decide +kernel
theorem dX7_rankedOf_0 : decode cX7_rankedOf 0 = .ok (.iconst 0, 1) := by decide +kernel
theorem dX7_rankedOf_1 : decode cX7_rankedOf 1 = .ok (.istore_n 2, 1) := by decide +kernel
theorem dX7_rankedOf_2 : decode cX7_rankedOf 2 = .ok (.iload_n 2, 1) := by decide +kernel
theorem dX7_rankedOf_3 : decode cX7_rankedOf 3 = .ok (.aload_n 0, 1) := by decide +kernel
theorem dX7_rankedOf_4 : decode cX7_rankedOf 4 = .ok (.getfield 7, 3) := by decide +kernel
theorem dX7_rankedOf_7 : decode cX7_rankedOf 7 = .ok (.if_icmp .ge 60, 3) := by decide +kernel
theorem dX7_rankedOf_10 : decode cX7_rankedOf 10 = .ok (.iconst 0, 1) := by decide +kernel
theorem dX7_rankedOf_11 : decode cX7_rankedOf 11 = .ok (.istore_n 3, 1) := by decide +kernel
theorem dX7_rankedOf_12 : decode cX7_rankedOf 12 = .ok (.iconst 0, 1) := by decide +kernel
theorem dX7_rankedOf_13 : decode cX7_rankedOf 13 = .ok (.istore 4, 2) := by decide +kernel
theorem dX7_rankedOf_15 : decode cX7_rankedOf 15 = .ok (.iload 4, 2) := by decide +kernel
theorem dX7_rankedOf_17 : decode cX7_rankedOf 17 = .ok (.aload_n 0, 1) := by decide +kernel
theorem dX7_rankedOf_18 : decode cX7_rankedOf 18 = .ok (.getfield 7, 3) := by decide +kernel
theorem dX7_rankedOf_21 : decode cX7_rankedOf 21 = .ok (.if_icmp .ge 33, 3) := by decide +kernel
theorem dX7_rankedOf_24 : decode cX7_rankedOf 24 = .ok (.iload_n 3, 1) := by decide +kernel
theorem dX7_rankedOf_25 : decode cX7_rankedOf 25 = .ok (.iload 4, 2) := by decide +kernel
theorem dX7_rankedOf_27 : decode cX7_rankedOf 27 = .ok (.iload_n 2, 1) := by decide +kernel
theorem dX7_rankedOf_28 : decode cX7_rankedOf 28 = .ok (.if_icmp .eq 17, 3) := by decide +kernel
theorem dX7_rankedOf_31 : decode cX7_rankedOf 31 = .ok (.aload_n 0, 1) := by decide +kernel
theorem dX7_rankedOf_32 : decode cX7_rankedOf 32 = .ok (.iload 4, 2) := by decide +kernel
theorem dX7_rankedOf_34 : decode cX7_rankedOf 34 = .ok (.iload_n 2, 1) := by decide +kernel
theorem dX7_rankedOf_35 : decode cX7_rankedOf 35 = .ok (.invokevirtual 159, 3) := by decide +kernel
theorem dX7_rankedOf_38 : decode cX7_rankedOf 38 = .ok (.ifCond .eq 7, 3) := by decide +kernel
theorem dX7_rankedOf_41 : decode cX7_rankedOf 41 = .ok (.iconst 1, 1) := by decide +kernel
theorem dX7_rankedOf_42 : decode cX7_rankedOf 42 = .ok (.goto 4, 3) := by decide +kernel
theorem dX7_rankedOf_45 : decode cX7_rankedOf 45 = .ok (.iconst 0, 1) := by decide +kernel
theorem dX7_rankedOf_46 : decode cX7_rankedOf 46 = .ok (.iadd, 1) := by decide +kernel
theorem dX7_rankedOf_47 : decode cX7_rankedOf 47 = .ok (.istore_n 3, 1) := by decide +kernel
theorem dX7_rankedOf_48 : decode cX7_rankedOf 48 = .ok (.iinc 4 1, 3) := by decide +kernel
theorem dX7_rankedOf_51 : decode cX7_rankedOf 51 = .ok (.goto (-36), 3) := by decide +kernel
theorem dX7_rankedOf_54 : decode cX7_rankedOf 54 = .ok (.iload_n 3, 1) := by decide +kernel
theorem dX7_rankedOf_55 : decode cX7_rankedOf 55 = .ok (.iload_n 1, 1) := by decide +kernel
theorem dX7_rankedOf_56 : decode cX7_rankedOf 56 = .ok (.if_icmp .ne 5, 3) := by decide +kernel
theorem dX7_rankedOf_59 : decode cX7_rankedOf 59 = .ok (.iload_n 2, 1) := by decide +kernel
theorem dX7_rankedOf_60 : decode cX7_rankedOf 60 = .ok (.ireturn, 1) := by decide +kernel
theorem dX7_rankedOf_61 : decode cX7_rankedOf 61 = .ok (.iinc 2 1, 3) := by decide +kernel
theorem dX7_rankedOf_64 : decode cX7_rankedOf 64 = .ok (.goto (-62), 3) := by decide +kernel
theorem dX7_rankedOf_67 : decode cX7_rankedOf 67 = .ok (.iconst (-1), 1) := by decide +kernel
theorem dX7_rankedOf_68 : decode cX7_rankedOf 68 = .ok (.ireturn, 1) := by decide +kernel
theorem dX7_ranked_0 : decode cX7_ranked 0 = .ok (.iload_n 1, 1) := by decide +kernel
theorem dX7_ranked_1 : decode cX7_ranked 1 = .ok (.iconst 0, 1) := by decide +kernel
theorem dX7_ranked_2 : decode cX7_ranked 2 = .ok (.aload_n 0, 1) := by decide +kernel
theorem dX7_ranked_3 : decode cX7_ranked 3 = .ok (.getfield 7, 3) := by decide +kernel
theorem dX7_ranked_6 : decode cX7_ranked 6 = .ok (.iconst 1, 1) := by decide +kernel
theorem dX7_ranked_7 : decode cX7_ranked 7 = .ok (.isub, 1) := by decide +kernel
theorem dX7_ranked_8 : decode cX7_ranked 8 = .ok (.invokestatic 77, 3) := by decide +kernel
theorem dX7_ranked_11 : decode cX7_ranked 11 = .ok (.ifCond .eq 15, 3) := by decide +kernel
theorem dX7_ranked_14 : decode cX7_ranked 14 = .ok (.aload_n 0, 1) := by decide +kernel
theorem dX7_ranked_15 : decode cX7_ranked 15 = .ok (.aload_n 0, 1) := by decide +kernel
theorem dX7_ranked_16 : decode cX7_ranked 16 = .ok (.iload_n 1, 1) := by decide +kernel
theorem dX7_ranked_17 : decode cX7_ranked 17 = .ok (.invokevirtual 162, 3) := by decide +kernel
theorem dX7_ranked_20 : decode cX7_ranked 20 = .ok (.invokevirtual 93, 3) := by decide +kernel
theorem dX7_ranked_23 : decode cX7_ranked 23 = .ok (.goto 8, 3) := by decide +kernel
theorem dX7_ranked_26 : decode cX7_ranked 26 = .ok (.aload_n 0, 1) := by decide +kernel
theorem dX7_ranked_27 : decode cX7_ranked 27 = .ok (.iconst 1, 1) := by decide +kernel
theorem dX7_ranked_28 : decode cX7_ranked 28 = .ok (.invokevirtual 81, 3) := by decide +kernel
theorem dX7_ranked_31 : decode cX7_ranked 31 = .ok (.ireturn, 1) := by decide +kernel
theorem dX7_isTied_0 : decode cX7_isTied 0 = .ok (.aload_n 0, 1) := by decide +kernel
theorem dX7_isTied_1 : decode cX7_isTied 1 = .ok (.aload_n 0, 1) := by decide +kernel
theorem dX7_isTied_2 : decode cX7_isTied 2 = .ok (.iload_n 1, 1) := by decide +kernel
theorem dX7_isTied_3 : decode cX7_isTied 3 = .ok (.invokevirtual 96, 3) := by decide +kernel
theorem dX7_isTied_6 : decode cX7_isTied 6 = .ok (.ifCond .eq 7, 3) := by decide +kernel
theorem dX7_isTied_9 : decode cX7_isTied 9 = .ok (.iconst 0, 1) := by decide +kernel
theorem dX7_isTied_10 : decode cX7_isTied 10 = .ok (.goto 4, 3) := by decide +kernel
theorem dX7_isTied_13 : decode cX7_isTied 13 = .ok (.iconst 1, 1) := by decide +kernel
theorem dX7_isTied_14 : decode cX7_isTied 14 = .ok (.putfield 22, 3) := by decide +kernel
theorem dX7_isTied_17 : decode cX7_isTied 17 = .ok (.iconst 0, 1) := by decide +kernel
theorem dX7_isTied_18 : decode cX7_isTied 18 = .ok (.istore_n 2, 1) := by decide +kernel
theorem dX7_isTied_19 : decode cX7_isTied 19 = .ok (.iconst 0, 1) := by decide +kernel
theorem dX7_isTied_20 : decode cX7_isTied 20 = .ok (.istore_n 3, 1) := by decide +kernel
theorem dX7_isTied_21 : decode cX7_isTied 21 = .ok (.aload_n 0, 1) := by decide +kernel
theorem dX7_isTied_22 : decode cX7_isTied 22 = .ok (.getfield 22, 3) := by decide +kernel
theorem dX7_isTied_25 : decode cX7_isTied 25 = .ok (.ifCond .ne 45, 3) := by decide +kernel
theorem dX7_isTied_28 : decode cX7_isTied 28 = .ok (.iload_n 3, 1) := by decide +kernel
theorem dX7_isTied_29 : decode cX7_isTied 29 = .ok (.aload_n 0, 1) := by decide +kernel
theorem dX7_isTied_30 : decode cX7_isTied 30 = .ok (.getfield 7, 3) := by decide +kernel
theorem dX7_isTied_33 : decode cX7_isTied 33 = .ok (.if_icmp .ge 37, 3) := by decide +kernel
theorem dX7_isTied_36 : decode cX7_isTied 36 = .ok (.iload_n 2, 1) := by decide +kernel
theorem dX7_isTied_37 : decode cX7_isTied 37 = .ok (.ifCond .ne 21, 3) := by decide +kernel
theorem dX7_isTied_40 : decode cX7_isTied 40 = .ok (.iload_n 3, 1) := by decide +kernel
theorem dX7_isTied_41 : decode cX7_isTied 41 = .ok (.iload_n 1, 1) := by decide +kernel
theorem dX7_isTied_42 : decode cX7_isTied 42 = .ok (.if_icmp .eq 20, 3) := by decide +kernel
theorem dX7_isTied_45 : decode cX7_isTied 45 = .ok (.aload_n 0, 1) := by decide +kernel
theorem dX7_isTied_46 : decode cX7_isTied 46 = .ok (.iload_n 3, 1) := by decide +kernel
theorem dX7_isTied_47 : decode cX7_isTied 47 = .ok (.invokevirtual 156, 3) := by decide +kernel
theorem dX7_isTied_50 : decode cX7_isTied 50 = .ok (.aload_n 0, 1) := by decide +kernel
theorem dX7_isTied_51 : decode cX7_isTied 51 = .ok (.iload_n 1, 1) := by decide +kernel
theorem dX7_isTied_52 : decode cX7_isTied 52 = .ok (.invokevirtual 156, 3) := by decide +kernel
theorem dX7_isTied_55 : decode cX7_isTied 55 = .ok (.if_icmp .ne 7, 3) := by decide +kernel
theorem dX7_isTied_58 : decode cX7_isTied 58 = .ok (.iconst 1, 1) := by decide +kernel
theorem dX7_isTied_59 : decode cX7_isTied 59 = .ok (.goto 4, 3) := by decide +kernel
theorem dX7_isTied_62 : decode cX7_isTied 62 = .ok (.iconst 0, 1) := by decide +kernel
theorem dX7_isTied_63 : decode cX7_isTied 63 = .ok (.istore_n 2, 1) := by decide +kernel
theorem dX7_isTied_64 : decode cX7_isTied 64 = .ok (.iinc 3 1, 3) := by decide +kernel
theorem dX7_isTied_67 : decode cX7_isTied 67 = .ok (.goto (-46), 3) := by decide +kernel
theorem dX7_isTied_70 : decode cX7_isTied 70 = .ok (.iload_n 2, 1) := by decide +kernel
theorem dX7_isTied_71 : decode cX7_isTied 71 = .ok (.ireturn, 1) := by decide +kernel
theorem dX7_partsOfAll_0 : decode cX7_partsOfAll 0 = .ok (.iconst 0, 1) := by decide +kernel
theorem dX7_partsOfAll_1 : decode cX7_partsOfAll 1 = .ok (.istore_n 3, 1) := by decide +kernel
theorem dX7_partsOfAll_2 : decode cX7_partsOfAll 2 = .ok (.iconst 0, 1) := by decide +kernel
theorem dX7_partsOfAll_3 : decode cX7_partsOfAll 3 = .ok (.istore 4, 2) := by decide +kernel
theorem dX7_partsOfAll_5 : decode cX7_partsOfAll 5 = .ok (.iload 4, 2) := by decide +kernel
theorem dX7_partsOfAll_7 : decode cX7_partsOfAll 7 = .ok (.aload_n 0, 1) := by decide +kernel
theorem dX7_partsOfAll_8 : decode cX7_partsOfAll 8 = .ok (.aload_n 0, 1) := by decide +kernel
theorem dX7_partsOfAll_9 : decode cX7_partsOfAll 9 = .ok (.getfield 39, 3) := by decide +kernel
theorem dX7_partsOfAll_12 : decode cX7_partsOfAll 12 = .ok (.iload_n 1, 1) := by decide +kernel
theorem dX7_partsOfAll_13 : decode cX7_partsOfAll 13 = .ok (.iaload, 1) := by decide +kernel
theorem dX7_partsOfAll_14 : decode cX7_partsOfAll 14 = .ok (.invokevirtual 106, 3) := by decide +kernel
theorem dX7_partsOfAll_17 : decode cX7_partsOfAll 17 = .ok (.if_icmp .ge 98, 3) := by decide +kernel
theorem dX7_partsOfAll_20 : decode cX7_partsOfAll 20 = .ok (.aload_n 0, 1) := by decide +kernel
theorem dX7_partsOfAll_21 : decode cX7_partsOfAll 21 = .ok (.iload_n 1, 1) := by decide +kernel
theorem dX7_partsOfAll_22 : decode cX7_partsOfAll 22 = .ok (.iload 4, 2) := by decide +kernel
theorem dX7_partsOfAll_24 : decode cX7_partsOfAll 24 = .ok (.invokevirtual 89, 3) := by decide +kernel
theorem dX7_partsOfAll_27 : decode cX7_partsOfAll 27 = .ok (.istore 5, 2) := by decide +kernel
theorem dX7_partsOfAll_29 : decode cX7_partsOfAll 29 = .ok (.iconst 0, 1) := by decide +kernel
theorem dX7_partsOfAll_30 : decode cX7_partsOfAll 30 = .ok (.istore 6, 2) := by decide +kernel
theorem dX7_partsOfAll_32 : decode cX7_partsOfAll 32 = .ok (.iload 6, 2) := by decide +kernel
theorem dX7_partsOfAll_34 : decode cX7_partsOfAll 34 = .ok (.aload_n 0, 1) := by decide +kernel
theorem dX7_partsOfAll_35 : decode cX7_partsOfAll 35 = .ok (.getfield 49, 3) := by decide +kernel
theorem dX7_partsOfAll_38 : decode cX7_partsOfAll 38 = .ok (.iload 5, 2) := by decide +kernel
theorem dX7_partsOfAll_40 : decode cX7_partsOfAll 40 = .ok (.iaload, 1) := by decide +kernel
theorem dX7_partsOfAll_41 : decode cX7_partsOfAll 41 = .ok (.if_icmp .ge 68, 3) := by decide +kernel
theorem dX7_partsOfAll_44 : decode cX7_partsOfAll 44 = .ok (.iload_n 2, 1) := by decide +kernel
theorem dX7_partsOfAll_45 : decode cX7_partsOfAll 45 = .ok (.aload_n 0, 1) := by decide +kernel
theorem dX7_partsOfAll_46 : decode cX7_partsOfAll 46 = .ok (.getfield 49, 3) := by decide +kernel
theorem dX7_partsOfAll_49 : decode cX7_partsOfAll 49 = .ok (.iload 5, 2) := by decide +kernel
theorem dX7_partsOfAll_51 : decode cX7_partsOfAll 51 = .ok (.iconst 1, 1) := by decide +kernel
theorem dX7_partsOfAll_52 : decode cX7_partsOfAll 52 = .ok (.iadd, 1) := by decide +kernel
theorem dX7_partsOfAll_53 : decode cX7_partsOfAll 53 = .ok (.bipush 10, 2) := by decide +kernel
theorem dX7_partsOfAll_55 : decode cX7_partsOfAll 55 = .ok (.iload 6, 2) := by decide +kernel
theorem dX7_partsOfAll_57 : decode cX7_partsOfAll 57 = .ok (.imul, 1) := by decide +kernel
theorem dX7_partsOfAll_58 : decode cX7_partsOfAll 58 = .ok (.iadd, 1) := by decide +kernel
theorem dX7_partsOfAll_59 : decode cX7_partsOfAll 59 = .ok (.iaload, 1) := by decide +kernel
theorem dX7_partsOfAll_60 : decode cX7_partsOfAll 60 = .ok (.ishr, 1) := by decide +kernel
theorem dX7_partsOfAll_61 : decode cX7_partsOfAll 61 = .ok (.iconst 1, 1) := by decide +kernel
theorem dX7_partsOfAll_62 : decode cX7_partsOfAll 62 = .ok (.iand, 1) := by decide +kernel
theorem dX7_partsOfAll_63 : decode cX7_partsOfAll 63 = .ok (.iconst 1, 1) := by decide +kernel
theorem dX7_partsOfAll_64 : decode cX7_partsOfAll 64 = .ok (.if_icmp .ne 7, 3) := by decide +kernel
theorem dX7_partsOfAll_67 : decode cX7_partsOfAll 67 = .ok (.iconst 1, 1) := by decide +kernel
theorem dX7_partsOfAll_68 : decode cX7_partsOfAll 68 = .ok (.goto 4, 3) := by decide +kernel
theorem dX7_partsOfAll_71 : decode cX7_partsOfAll 71 = .ok (.iconst 0, 1) := by decide +kernel
theorem dX7_partsOfAll_72 : decode cX7_partsOfAll 72 = .ok (.istore 7, 2) := by decide +kernel
theorem dX7_partsOfAll_74 : decode cX7_partsOfAll 74 = .ok (.iload_n 3, 1) := by decide +kernel
theorem dX7_partsOfAll_75 : decode cX7_partsOfAll 75 = .ok (.iload 7, 2) := by decide +kernel
theorem dX7_partsOfAll_77 : decode cX7_partsOfAll 77 = .ok (.ifCond .eq 23, 3) := by decide +kernel
theorem dX7_partsOfAll_80 : decode cX7_partsOfAll 80 = .ok (.aload_n 0, 1) := by decide +kernel
theorem dX7_partsOfAll_81 : decode cX7_partsOfAll 81 = .ok (.getfield 49, 3) := by decide +kernel
theorem dX7_partsOfAll_84 : decode cX7_partsOfAll 84 = .ok (.iload 5, 2) := by decide +kernel
theorem dX7_partsOfAll_86 : decode cX7_partsOfAll 86 = .ok (.iconst 2, 1) := by decide +kernel
theorem dX7_partsOfAll_87 : decode cX7_partsOfAll 87 = .ok (.iadd, 1) := by decide +kernel
theorem dX7_partsOfAll_88 : decode cX7_partsOfAll 88 = .ok (.bipush 10, 2) := by decide +kernel
theorem dX7_partsOfAll_90 : decode cX7_partsOfAll 90 = .ok (.iload 6, 2) := by decide +kernel
theorem dX7_partsOfAll_92 : decode cX7_partsOfAll 92 = .ok (.imul, 1) := by decide +kernel
theorem dX7_partsOfAll_93 : decode cX7_partsOfAll 93 = .ok (.iadd, 1) := by decide +kernel
theorem dX7_partsOfAll_94 : decode cX7_partsOfAll 94 = .ok (.iaload, 1) := by decide +kernel
theorem dX7_partsOfAll_95 : decode cX7_partsOfAll 95 = .ok (.iconst 1, 1) := by decide +kernel
theorem dX7_partsOfAll_96 : decode cX7_partsOfAll 96 = .ok (.iadd, 1) := by decide +kernel
theorem dX7_partsOfAll_97 : decode cX7_partsOfAll 97 = .ok (.goto 4, 3) := by decide +kernel
theorem dX7_partsOfAll_100 : decode cX7_partsOfAll 100 = .ok (.iconst 0, 1) := by decide +kernel
theorem dX7_partsOfAll_101 : decode cX7_partsOfAll 101 = .ok (.iadd, 1) := by decide +kernel
theorem dX7_partsOfAll_102 : decode cX7_partsOfAll 102 = .ok (.istore_n 3, 1) := by decide +kernel
theorem dX7_partsOfAll_103 : decode cX7_partsOfAll 103 = .ok (.iinc 6 1, 3) := by decide +kernel
theorem dX7_partsOfAll_106 : decode cX7_partsOfAll 106 = .ok (.goto (-74), 3) := by decide +kernel
theorem dX7_partsOfAll_109 : decode cX7_partsOfAll 109 = .ok (.iinc 4 1, 3) := by decide +kernel
theorem dX7_partsOfAll_112 : decode cX7_partsOfAll 112 = .ok (.goto (-107), 3) := by decide +kernel
theorem dX7_partsOfAll_115 : decode cX7_partsOfAll 115 = .ok (.iload_n 3, 1) := by decide +kernel
theorem dX7_partsOfAll_116 : decode cX7_partsOfAll 116 = .ok (.ireturn, 1) := by decide +kernel
theorem dX7_give_0 : decode cX7_give 0 = .ok (.iload_n 1, 1) := by decide +kernel
theorem dX7_give_1 : decode cX7_give 1 = .ok (.iconst 0, 1) := by decide +kernel
theorem dX7_give_2 : decode cX7_give 2 = .ok (.aload_n 0, 1) := by decide +kernel
theorem dX7_give_3 : decode cX7_give 3 = .ok (.getfield 7, 3) := by decide +kernel
theorem dX7_give_6 : decode cX7_give 6 = .ok (.iconst 1, 1) := by decide +kernel
theorem dX7_give_7 : decode cX7_give 7 = .ok (.isub, 1) := by decide +kernel
theorem dX7_give_8 : decode cX7_give 8 = .ok (.invokestatic 77, 3) := by decide +kernel
theorem dX7_give_11 : decode cX7_give 11 = .ok (.ifCond .ne 9, 3) := by decide +kernel
theorem dX7_give_14 : decode cX7_give 14 = .ok (.aload_n 0, 1) := by decide +kernel
theorem dX7_give_15 : decode cX7_give 15 = .ok (.iconst 1, 1) := by decide +kernel
theorem dX7_give_16 : decode cX7_give 16 = .ok (.invokevirtual 81, 3) := by decide +kernel
theorem dX7_give_19 : decode cX7_give 19 = .ok (.ireturn, 1) := by decide +kernel
theorem dX7_give_20 : decode cX7_give 20 = .ok (.iload_n 2, 1) := by decide +kernel
theorem dX7_give_21 : decode cX7_give 21 = .ok (.iconst 1, 1) := by decide +kernel
theorem dX7_give_22 : decode cX7_give 22 = .ok (.sipush 9999, 3) := by decide +kernel
theorem dX7_give_25 : decode cX7_give 25 = .ok (.invokestatic 77, 3) := by decide +kernel
theorem dX7_give_28 : decode cX7_give 28 = .ok (.ifCond .ne 9, 3) := by decide +kernel
theorem dX7_give_31 : decode cX7_give 31 = .ok (.aload_n 0, 1) := by decide +kernel
theorem dX7_give_32 : decode cX7_give 32 = .ok (.iconst 2, 1) := by decide +kernel
theorem dX7_give_33 : decode cX7_give 33 = .ok (.invokevirtual 81, 3) := by decide +kernel
theorem dX7_give_36 : decode cX7_give 36 = .ok (.ireturn, 1) := by decide +kernel
theorem dX7_give_37 : decode cX7_give 37 = .ok (.aload_n 0, 1) := by decide +kernel
theorem dX7_give_38 : decode cX7_give 38 = .ok (.iload_n 1, 1) := by decide +kernel
theorem dX7_give_39 : decode cX7_give 39 = .ok (.invokevirtual 162, 3) := by decide +kernel
theorem dX7_give_42 : decode cX7_give 42 = .ok (.istore_n 3, 1) := by decide +kernel
theorem dX7_give_43 : decode cX7_give 43 = .ok (.iconst (-1), 1) := by decide +kernel
theorem dX7_give_44 : decode cX7_give 44 = .ok (.istore 4, 2) := by decide +kernel
theorem dX7_give_46 : decode cX7_give 46 = .ok (.iconst 0, 1) := by decide +kernel
theorem dX7_give_47 : decode cX7_give 47 = .ok (.istore 5, 2) := by decide +kernel
theorem dX7_give_49 : decode cX7_give 49 = .ok (.iload 5, 2) := by decide +kernel
theorem dX7_give_51 : decode cX7_give 51 = .ok (.iconst 4, 1) := by decide +kernel
theorem dX7_give_52 : decode cX7_give 52 = .ok (.if_icmp .ge 40, 3) := by decide +kernel
theorem dX7_give_55 : decode cX7_give 55 = .ok (.aload_n 0, 1) := by decide +kernel
theorem dX7_give_56 : decode cX7_give 56 = .ok (.getfield 55, 3) := by decide +kernel
theorem dX7_give_59 : decode cX7_give 59 = .ok (.bipush 6, 2) := by decide +kernel
theorem dX7_give_61 : decode cX7_give 61 = .ok (.iload 5, 2) := by decide +kernel
theorem dX7_give_63 : decode cX7_give 63 = .ok (.imul, 1) := by decide +kernel
theorem dX7_give_64 : decode cX7_give 64 = .ok (.iload_n 3, 1) := by decide +kernel
theorem dX7_give_65 : decode cX7_give 65 = .ok (.iadd, 1) := by decide +kernel
theorem dX7_give_66 : decode cX7_give 66 = .ok (.iaload, 1) := by decide +kernel
theorem dX7_give_67 : decode cX7_give 67 = .ok (.iconst 1, 1) := by decide +kernel
theorem dX7_give_68 : decode cX7_give 68 = .ok (.isub, 1) := by decide +kernel
theorem dX7_give_69 : decode cX7_give 69 = .ok (.istore 6, 2) := by decide +kernel
theorem dX7_give_71 : decode cX7_give 71 = .ok (.iload 6, 2) := by decide +kernel
theorem dX7_give_73 : decode cX7_give 73 = .ok (.iconst (-1), 1) := by decide +kernel
theorem dX7_give_74 : decode cX7_give 74 = .ok (.if_icmp .ne 8, 3) := by decide +kernel
theorem dX7_give_77 : decode cX7_give 77 = .ok (.iload 4, 2) := by decide +kernel
theorem dX7_give_79 : decode cX7_give 79 = .ok (.goto 5, 3) := by decide +kernel
theorem dX7_give_82 : decode cX7_give 82 = .ok (.iload 6, 2) := by decide +kernel
theorem dX7_give_84 : decode cX7_give 84 = .ok (.istore 4, 2) := by decide +kernel
theorem dX7_give_86 : decode cX7_give 86 = .ok (.iinc 5 1, 3) := by decide +kernel
theorem dX7_give_89 : decode cX7_give 89 = .ok (.goto (-40), 3) := by decide +kernel
theorem dX7_give_92 : decode cX7_give 92 = .ok (.iload 4, 2) := by decide +kernel
theorem dX7_give_94 : decode cX7_give 94 = .ok (.iconst (-1), 1) := by decide +kernel
theorem dX7_give_95 : decode cX7_give 95 = .ok (.if_icmp .ne 9, 3) := by decide +kernel
theorem dX7_give_98 : decode cX7_give 98 = .ok (.aload_n 0, 1) := by decide +kernel
theorem dX7_give_99 : decode cX7_give 99 = .ok (.iconst 3, 1) := by decide +kernel
theorem dX7_give_100 : decode cX7_give 100 = .ok (.invokevirtual 81, 3) := by decide +kernel
theorem dX7_give_103 : decode cX7_give 103 = .ok (.ireturn, 1) := by decide +kernel
theorem dX7_give_104 : decode cX7_give 104 = .ok (.aload_n 0, 1) := by decide +kernel
theorem dX7_give_105 : decode cX7_give 105 = .ok (.getfield 19, 3) := by decide +kernel
theorem dX7_give_108 : decode cX7_give 108 = .ok (.bipush 12, 2) := by decide +kernel
theorem dX7_give_110 : decode cX7_give 110 = .ok (.if_icmp .ne 9, 3) := by decide +kernel
theorem dX7_give_113 : decode cX7_give 113 = .ok (.aload_n 0, 1) := by decide +kernel
theorem dX7_give_114 : decode cX7_give 114 = .ok (.iconst 4, 1) := by decide +kernel
theorem dX7_give_115 : decode cX7_give 115 = .ok (.invokevirtual 81, 3) := by decide +kernel
theorem dX7_give_118 : decode cX7_give 118 = .ok (.ireturn, 1) := by decide +kernel
theorem dX7_give_119 : decode cX7_give 119 = .ok (.aload_n 0, 1) := by decide +kernel
theorem dX7_give_120 : decode cX7_give 120 = .ok (.getfield 68, 3) := by decide +kernel
theorem dX7_give_123 : decode cX7_give 123 = .ok (.aload_n 0, 1) := by decide +kernel
theorem dX7_give_124 : decode cX7_give 124 = .ok (.getfield 19, 3) := by decide +kernel
theorem dX7_give_127 : decode cX7_give 127 = .ok (.iload 4, 2) := by decide +kernel
theorem dX7_give_129 : decode cX7_give 129 = .ok (.iastore, 1) := by decide +kernel
theorem dX7_give_130 : decode cX7_give 130 = .ok (.aload_n 0, 1) := by decide +kernel
theorem dX7_give_131 : decode cX7_give 131 = .ok (.getfield 71, 3) := by decide +kernel
theorem dX7_give_134 : decode cX7_give 134 = .ok (.aload_n 0, 1) := by decide +kernel
theorem dX7_give_135 : decode cX7_give 135 = .ok (.getfield 19, 3) := by decide +kernel
theorem dX7_give_138 : decode cX7_give 138 = .ok (.iload_n 2, 1) := by decide +kernel
theorem dX7_give_139 : decode cX7_give 139 = .ok (.iastore, 1) := by decide +kernel
theorem dX7_give_140 : decode cX7_give 140 = .ok (.aload_n 0, 1) := by decide +kernel
theorem dX7_give_141 : decode cX7_give 141 = .ok (.iload 4, 2) := by decide +kernel
theorem dX7_give_143 : decode cX7_give 143 = .ok (.bipush 63, 2) := by decide +kernel
theorem dX7_give_145 : decode cX7_give 145 = .ok (.invokevirtual 165, 3) := by decide +kernel
theorem dX7_give_148 : decode cX7_give 148 = .ok (.istore 5, 2) := by decide +kernel
theorem dX7_give_150 : decode cX7_give 150 = .ok (.iload_n 2, 1) := by decide +kernel
theorem dX7_give_151 : decode cX7_give 151 = .ok (.istore 6, 2) := by decide +kernel
theorem dX7_give_153 : decode cX7_give 153 = .ok (.iconst 0, 1) := by decide +kernel
theorem dX7_give_154 : decode cX7_give 154 = .ok (.istore 7, 2) := by decide +kernel
theorem dX7_give_156 : decode cX7_give 156 = .ok (.iload 7, 2) := by decide +kernel
theorem dX7_give_158 : decode cX7_give 158 = .ok (.bipush 6, 2) := by decide +kernel
theorem dX7_give_160 : decode cX7_give 160 = .ok (.if_icmp .ge 50, 3) := by decide +kernel
theorem dX7_give_163 : decode cX7_give 163 = .ok (.iload_n 2, 1) := by decide +kernel
theorem dX7_give_164 : decode cX7_give 164 = .ok (.aload_n 0, 1) := by decide +kernel
theorem dX7_give_165 : decode cX7_give 165 = .ok (.iload 4, 2) := by decide +kernel
theorem dX7_give_167 : decode cX7_give 167 = .ok (.iconst 1, 1) := by decide +kernel
theorem dX7_give_168 : decode cX7_give 168 = .ok (.iload 7, 2) := by decide +kernel
theorem dX7_give_170 : decode cX7_give 170 = .ok (.ishl, 1) := by decide +kernel
theorem dX7_give_171 : decode cX7_give 171 = .ok (.invokevirtual 165, 3) := by decide +kernel
theorem dX7_give_174 : decode cX7_give 174 = .ok (.imul, 1) := by decide +kernel
theorem dX7_give_175 : decode cX7_give 175 = .ok (.iload 5, 2) := by decide +kernel
theorem dX7_give_177 : decode cX7_give 177 = .ok (.idiv, 1) := by decide +kernel
theorem dX7_give_178 : decode cX7_give 178 = .ok (.istore 8, 2) := by decide +kernel
theorem dX7_give_180 : decode cX7_give 180 = .ok (.aload_n 0, 1) := by decide +kernel
theorem dX7_give_181 : decode cX7_give 181 = .ok (.getfield 74, 3) := by decide +kernel
theorem dX7_give_184 : decode cX7_give 184 = .ok (.bipush 6, 2) := by decide +kernel
theorem dX7_give_186 : decode cX7_give 186 = .ok (.aload_n 0, 1) := by decide +kernel
theorem dX7_give_187 : decode cX7_give 187 = .ok (.getfield 19, 3) := by decide +kernel
theorem dX7_give_190 : decode cX7_give 190 = .ok (.imul, 1) := by decide +kernel
theorem dX7_give_191 : decode cX7_give 191 = .ok (.iload 7, 2) := by decide +kernel
theorem dX7_give_193 : decode cX7_give 193 = .ok (.iadd, 1) := by decide +kernel
theorem dX7_give_194 : decode cX7_give 194 = .ok (.iload 8, 2) := by decide +kernel
theorem dX7_give_196 : decode cX7_give 196 = .ok (.iastore, 1) := by decide +kernel
theorem dX7_give_197 : decode cX7_give 197 = .ok (.iload 6, 2) := by decide +kernel
theorem dX7_give_199 : decode cX7_give 199 = .ok (.iload 8, 2) := by decide +kernel
theorem dX7_give_201 : decode cX7_give 201 = .ok (.isub, 1) := by decide +kernel
theorem dX7_give_202 : decode cX7_give 202 = .ok (.istore 6, 2) := by decide +kernel
theorem dX7_give_204 : decode cX7_give 204 = .ok (.iinc 7 1, 3) := by decide +kernel
theorem dX7_give_207 : decode cX7_give 207 = .ok (.goto (-51), 3) := by decide +kernel
theorem dX7_give_210 : decode cX7_give 210 = .ok (.iload 5, 2) := by decide +kernel
theorem dX7_give_212 : decode cX7_give 212 = .ok (.istore 7, 2) := by decide +kernel
theorem dX7_give_214 : decode cX7_give 214 = .ok (.iload 7, 2) := by decide +kernel
theorem dX7_give_216 : decode cX7_give 216 = .ok (.ifCond .lt 100, 3) := by decide +kernel
theorem dX7_give_219 : decode cX7_give 219 = .ok (.iconst 0, 1) := by decide +kernel
theorem dX7_give_220 : decode cX7_give 220 = .ok (.istore 8, 2) := by decide +kernel
theorem dX7_give_222 : decode cX7_give 222 = .ok (.iload 8, 2) := by decide +kernel
theorem dX7_give_224 : decode cX7_give 224 = .ok (.bipush 6, 2) := by decide +kernel
theorem dX7_give_226 : decode cX7_give 226 = .ok (.if_icmp .ge 84, 3) := by decide +kernel
theorem dX7_give_229 : decode cX7_give 229 = .ok (.iload 6, 2) := by decide +kernel
theorem dX7_give_231 : decode cX7_give 231 = .ok (.ifCond .le 27, 3) := by decide +kernel
theorem dX7_give_234 : decode cX7_give 234 = .ok (.iload_n 2, 1) := by decide +kernel
theorem dX7_give_235 : decode cX7_give 235 = .ok (.aload_n 0, 1) := by decide +kernel
theorem dX7_give_236 : decode cX7_give 236 = .ok (.iload 4, 2) := by decide +kernel
theorem dX7_give_238 : decode cX7_give 238 = .ok (.iconst 1, 1) := by decide +kernel
theorem dX7_give_239 : decode cX7_give 239 = .ok (.iload 8, 2) := by decide +kernel
theorem dX7_give_241 : decode cX7_give 241 = .ok (.ishl, 1) := by decide +kernel
theorem dX7_give_242 : decode cX7_give 242 = .ok (.invokevirtual 165, 3) := by decide +kernel
theorem dX7_give_245 : decode cX7_give 245 = .ok (.imul, 1) := by decide +kernel
theorem dX7_give_246 : decode cX7_give 246 = .ok (.iload 5, 2) := by decide +kernel
theorem dX7_give_248 : decode cX7_give 248 = .ok (.irem, 1) := by decide +kernel
theorem dX7_give_249 : decode cX7_give 249 = .ok (.iload 7, 2) := by decide +kernel
theorem dX7_give_251 : decode cX7_give 251 = .ok (.if_icmp .ne 7, 3) := by decide +kernel
theorem dX7_give_254 : decode cX7_give 254 = .ok (.iconst 1, 1) := by decide +kernel
theorem dX7_give_255 : decode cX7_give 255 = .ok (.goto 4, 3) := by decide +kernel
theorem dX7_give_258 : decode cX7_give 258 = .ok (.iconst 0, 1) := by decide +kernel
theorem dX7_give_259 : decode cX7_give 259 = .ok (.istore 9, 2) := by decide +kernel
theorem dX7_give_261 : decode cX7_give 261 = .ok (.aload_n 0, 1) := by decide +kernel
theorem dX7_give_262 : decode cX7_give 262 = .ok (.getfield 74, 3) := by decide +kernel
theorem dX7_give_265 : decode cX7_give 265 = .ok (.bipush 6, 2) := by decide +kernel
theorem dX7_give_267 : decode cX7_give 267 = .ok (.aload_n 0, 1) := by decide +kernel
theorem dX7_give_268 : decode cX7_give 268 = .ok (.getfield 19, 3) := by decide +kernel
theorem dX7_give_271 : decode cX7_give 271 = .ok (.imul, 1) := by decide +kernel
theorem dX7_give_272 : decode cX7_give 272 = .ok (.iload 8, 2) := by decide +kernel
theorem dX7_give_274 : decode cX7_give 274 = .ok (.iadd, 1) := by decide +kernel
theorem dX7_give_275 : decode cX7_give 275 = .ok (.dup2, 1) := by decide +kernel
theorem dX7_give_276 : decode cX7_give 276 = .ok (.iaload, 1) := by decide +kernel
theorem dX7_give_277 : decode cX7_give 277 = .ok (.iload 9, 2) := by decide +kernel
theorem dX7_give_279 : decode cX7_give 279 = .ok (.ifCond .eq 7, 3) := by decide +kernel
theorem dX7_give_282 : decode cX7_give 282 = .ok (.iconst 1, 1) := by decide +kernel
theorem dX7_give_283 : decode cX7_give 283 = .ok (.goto 4, 3) := by decide +kernel
theorem dX7_give_286 : decode cX7_give 286 = .ok (.iconst 0, 1) := by decide +kernel
theorem dX7_give_287 : decode cX7_give 287 = .ok (.iadd, 1) := by decide +kernel
theorem dX7_give_288 : decode cX7_give 288 = .ok (.iastore, 1) := by decide +kernel
theorem dX7_give_289 : decode cX7_give 289 = .ok (.iload 6, 2) := by decide +kernel
theorem dX7_give_291 : decode cX7_give 291 = .ok (.iload 9, 2) := by decide +kernel
theorem dX7_give_293 : decode cX7_give 293 = .ok (.ifCond .eq 7, 3) := by decide +kernel
theorem dX7_give_296 : decode cX7_give 296 = .ok (.iconst 1, 1) := by decide +kernel
theorem dX7_give_297 : decode cX7_give 297 = .ok (.goto 4, 3) := by decide +kernel
theorem dX7_give_300 : decode cX7_give 300 = .ok (.iconst 0, 1) := by decide +kernel
theorem dX7_give_301 : decode cX7_give 301 = .ok (.isub, 1) := by decide +kernel
theorem dX7_give_302 : decode cX7_give 302 = .ok (.istore 6, 2) := by decide +kernel
theorem dX7_give_304 : decode cX7_give 304 = .ok (.iinc 8 1, 3) := by decide +kernel
theorem dX7_give_307 : decode cX7_give 307 = .ok (.goto (-85), 3) := by decide +kernel
theorem dX7_give_310 : decode cX7_give 310 = .ok (.iinc 7 (-1), 3) := by decide +kernel
theorem dX7_give_313 : decode cX7_give 313 = .ok (.goto (-99), 3) := by decide +kernel
theorem dX7_give_316 : decode cX7_give 316 = .ok (.aload_n 0, 1) := by decide +kernel
theorem dX7_give_317 : decode cX7_give 317 = .ok (.dup, 1) := by decide +kernel
theorem dX7_give_318 : decode cX7_give 318 = .ok (.getfield 19, 3) := by decide +kernel
theorem dX7_give_321 : decode cX7_give 321 = .ok (.iconst 1, 1) := by decide +kernel
theorem dX7_give_322 : decode cX7_give 322 = .ok (.iadd, 1) := by decide +kernel
theorem dX7_give_323 : decode cX7_give 323 = .ok (.putfield 19, 3) := by decide +kernel
theorem dX7_give_326 : decode cX7_give 326 = .ok (.aload_n 0, 1) := by decide +kernel
theorem dX7_give_327 : decode cX7_give 327 = .ok (.aload_n 0, 1) := by decide +kernel
theorem dX7_give_328 : decode cX7_give 328 = .ok (.getfield 19, 3) := by decide +kernel
theorem dX7_give_331 : decode cX7_give 331 = .ok (.iconst 1, 1) := by decide +kernel
theorem dX7_give_332 : decode cX7_give 332 = .ok (.isub, 1) := by decide +kernel
theorem dX7_give_333 : decode cX7_give 333 = .ok (.invokevirtual 93, 3) := by decide +kernel
theorem dX7_give_336 : decode cX7_give 336 = .ok (.ireturn, 1) := by decide +kernel
theorem dX7_named_0 : decode cX7_named 0 = .ok (.iload_n 1, 1) := by decide +kernel
theorem dX7_named_1 : decode cX7_named 1 = .ok (.iconst 0, 1) := by decide +kernel
theorem dX7_named_2 : decode cX7_named 2 = .ok (.aload_n 0, 1) := by decide +kernel
theorem dX7_named_3 : decode cX7_named 3 = .ok (.getfield 19, 3) := by decide +kernel
theorem dX7_named_6 : decode cX7_named 6 = .ok (.iconst 1, 1) := by decide +kernel
theorem dX7_named_7 : decode cX7_named 7 = .ok (.isub, 1) := by decide +kernel
theorem dX7_named_8 : decode cX7_named 8 = .ok (.invokestatic 77, 3) := by decide +kernel
theorem dX7_named_11 : decode cX7_named 11 = .ok (.ifCond .eq 16, 3) := by decide +kernel
theorem dX7_named_14 : decode cX7_named 14 = .ok (.aload_n 0, 1) := by decide +kernel
theorem dX7_named_15 : decode cX7_named 15 = .ok (.aload_n 0, 1) := by decide +kernel
theorem dX7_named_16 : decode cX7_named 16 = .ok (.getfield 68, 3) := by decide +kernel
theorem dX7_named_19 : decode cX7_named 19 = .ok (.iload_n 1, 1) := by decide +kernel
theorem dX7_named_20 : decode cX7_named 20 = .ok (.iaload, 1) := by decide +kernel
theorem dX7_named_21 : decode cX7_named 21 = .ok (.invokevirtual 93, 3) := by decide +kernel
theorem dX7_named_24 : decode cX7_named 24 = .ok (.goto 8, 3) := by decide +kernel
theorem dX7_named_27 : decode cX7_named 27 = .ok (.aload_n 0, 1) := by decide +kernel
theorem dX7_named_28 : decode cX7_named 28 = .ok (.iconst 1, 1) := by decide +kernel
theorem dX7_named_29 : decode cX7_named 29 = .ok (.invokevirtual 81, 3) := by decide +kernel
theorem dX7_named_32 : decode cX7_named 32 = .ok (.ireturn, 1) := by decide +kernel
theorem dX7_share_0 : decode cX7_share 0 = .ok (.iload_n 1, 1) := by decide +kernel
theorem dX7_share_1 : decode cX7_share 1 = .ok (.iconst 0, 1) := by decide +kernel
theorem dX7_share_2 : decode cX7_share 2 = .ok (.aload_n 0, 1) := by decide +kernel
theorem dX7_share_3 : decode cX7_share 3 = .ok (.getfield 19, 3) := by decide +kernel
theorem dX7_share_6 : decode cX7_share 6 = .ok (.iconst 1, 1) := by decide +kernel
theorem dX7_share_7 : decode cX7_share 7 = .ok (.isub, 1) := by decide +kernel
theorem dX7_share_8 : decode cX7_share 8 = .ok (.invokestatic 77, 3) := by decide +kernel
theorem dX7_share_11 : decode cX7_share 11 = .ok (.ifCond .eq 30, 3) := by decide +kernel
theorem dX7_share_14 : decode cX7_share 14 = .ok (.iload_n 2, 1) := by decide +kernel
theorem dX7_share_15 : decode cX7_share 15 = .ok (.iconst 0, 1) := by decide +kernel
theorem dX7_share_16 : decode cX7_share 16 = .ok (.iconst 5, 1) := by decide +kernel
theorem dX7_share_17 : decode cX7_share 17 = .ok (.invokestatic 77, 3) := by decide +kernel
theorem dX7_share_20 : decode cX7_share 20 = .ok (.ifCond .eq 21, 3) := by decide +kernel
theorem dX7_share_23 : decode cX7_share 23 = .ok (.aload_n 0, 1) := by decide +kernel
theorem dX7_share_24 : decode cX7_share 24 = .ok (.aload_n 0, 1) := by decide +kernel
theorem dX7_share_25 : decode cX7_share 25 = .ok (.getfield 74, 3) := by decide +kernel
theorem dX7_share_28 : decode cX7_share 28 = .ok (.bipush 6, 2) := by decide +kernel
theorem dX7_share_30 : decode cX7_share 30 = .ok (.iload_n 1, 1) := by decide +kernel
theorem dX7_share_31 : decode cX7_share 31 = .ok (.imul, 1) := by decide +kernel
theorem dX7_share_32 : decode cX7_share 32 = .ok (.iload_n 2, 1) := by decide +kernel
theorem dX7_share_33 : decode cX7_share 33 = .ok (.iadd, 1) := by decide +kernel
theorem dX7_share_34 : decode cX7_share 34 = .ok (.iaload, 1) := by decide +kernel
theorem dX7_share_35 : decode cX7_share 35 = .ok (.invokevirtual 93, 3) := by decide +kernel
theorem dX7_share_38 : decode cX7_share 38 = .ok (.goto 8, 3) := by decide +kernel
theorem dX7_share_41 : decode cX7_share 41 = .ok (.aload_n 0, 1) := by decide +kernel
theorem dX7_share_42 : decode cX7_share 42 = .ok (.iconst 1, 1) := by decide +kernel
theorem dX7_share_43 : decode cX7_share 43 = .ok (.invokevirtual 81, 3) := by decide +kernel
theorem dX7_share_46 : decode cX7_share 46 = .ok (.ireturn, 1) := by decide +kernel
theorem dX7_got_0 : decode cX7_got 0 = .ok (.iload_n 1, 1) := by decide +kernel
theorem dX7_got_1 : decode cX7_got 1 = .ok (.iconst 0, 1) := by decide +kernel
theorem dX7_got_2 : decode cX7_got 2 = .ok (.iconst 5, 1) := by decide +kernel
theorem dX7_got_3 : decode cX7_got 3 = .ok (.invokestatic 77, 3) := by decide +kernel
theorem dX7_got_6 : decode cX7_got 6 = .ok (.ifCond .ne 9, 3) := by decide +kernel
theorem dX7_got_9 : decode cX7_got 9 = .ok (.aload_n 0, 1) := by decide +kernel
theorem dX7_got_10 : decode cX7_got 10 = .ok (.iconst 1, 1) := by decide +kernel
theorem dX7_got_11 : decode cX7_got 11 = .ok (.invokevirtual 81, 3) := by decide +kernel
theorem dX7_got_14 : decode cX7_got 14 = .ok (.ireturn, 1) := by decide +kernel
theorem dX7_got_15 : decode cX7_got 15 = .ok (.iconst 0, 1) := by decide +kernel
theorem dX7_got_16 : decode cX7_got 16 = .ok (.istore_n 2, 1) := by decide +kernel
theorem dX7_got_17 : decode cX7_got 17 = .ok (.iconst 0, 1) := by decide +kernel
theorem dX7_got_18 : decode cX7_got 18 = .ok (.istore_n 3, 1) := by decide +kernel
theorem dX7_got_19 : decode cX7_got 19 = .ok (.iload_n 3, 1) := by decide +kernel
theorem dX7_got_20 : decode cX7_got 20 = .ok (.aload_n 0, 1) := by decide +kernel
theorem dX7_got_21 : decode cX7_got 21 = .ok (.getfield 19, 3) := by decide +kernel
theorem dX7_got_24 : decode cX7_got 24 = .ok (.if_icmp .ge 23, 3) := by decide +kernel
theorem dX7_got_27 : decode cX7_got 27 = .ok (.iload_n 2, 1) := by decide +kernel
theorem dX7_got_28 : decode cX7_got 28 = .ok (.aload_n 0, 1) := by decide +kernel
theorem dX7_got_29 : decode cX7_got 29 = .ok (.getfield 74, 3) := by decide +kernel
theorem dX7_got_32 : decode cX7_got 32 = .ok (.bipush 6, 2) := by decide +kernel
theorem dX7_got_34 : decode cX7_got 34 = .ok (.iload_n 3, 1) := by decide +kernel
theorem dX7_got_35 : decode cX7_got 35 = .ok (.imul, 1) := by decide +kernel
theorem dX7_got_36 : decode cX7_got 36 = .ok (.iload_n 1, 1) := by decide +kernel
theorem dX7_got_37 : decode cX7_got 37 = .ok (.iadd, 1) := by decide +kernel
theorem dX7_got_38 : decode cX7_got 38 = .ok (.iaload, 1) := by decide +kernel
theorem dX7_got_39 : decode cX7_got 39 = .ok (.iadd, 1) := by decide +kernel
theorem dX7_got_40 : decode cX7_got 40 = .ok (.istore_n 2, 1) := by decide +kernel
theorem dX7_got_41 : decode cX7_got 41 = .ok (.iinc 3 1, 3) := by decide +kernel
theorem dX7_got_44 : decode cX7_got 44 = .ok (.goto (-25), 3) := by decide +kernel
theorem dX7_got_47 : decode cX7_got 47 = .ok (.aload_n 0, 1) := by decide +kernel
theorem dX7_got_48 : decode cX7_got 48 = .ok (.iload_n 2, 1) := by decide +kernel
theorem dX7_got_49 : decode cX7_got 49 = .ok (.invokevirtual 93, 3) := by decide +kernel
theorem dX7_got_52 : decode cX7_got 52 = .ok (.ireturn, 1) := by decide +kernel
theorem dX7_partsOf_0 : decode cX7_partsOf 0 = .ok (.aload_n 0, 1) := by decide +kernel
theorem dX7_partsOf_1 : decode cX7_partsOf 1 = .ok (.iload_n 1, 1) := by decide +kernel
theorem dX7_partsOf_2 : decode cX7_partsOf 2 = .ok (.invokevirtual 100, 3) := by decide +kernel
theorem dX7_partsOf_5 : decode cX7_partsOf 5 = .ok (.ifCond .ne 9, 3) := by decide +kernel
theorem dX7_partsOf_8 : decode cX7_partsOf 8 = .ok (.aload_n 0, 1) := by decide +kernel
theorem dX7_partsOf_9 : decode cX7_partsOf 9 = .ok (.iconst 1, 1) := by decide +kernel
theorem dX7_partsOf_10 : decode cX7_partsOf 10 = .ok (.invokevirtual 81, 3) := by decide +kernel
theorem dX7_partsOf_13 : decode cX7_partsOf 13 = .ok (.ireturn, 1) := by decide +kernel
theorem dX7_partsOf_14 : decode cX7_partsOf 14 = .ok (.iload_n 2, 1) := by decide +kernel
theorem dX7_partsOf_15 : decode cX7_partsOf 15 = .ok (.iconst 0, 1) := by decide +kernel
theorem dX7_partsOf_16 : decode cX7_partsOf 16 = .ok (.bipush 63, 2) := by decide +kernel
theorem dX7_partsOf_18 : decode cX7_partsOf 18 = .ok (.invokestatic 77, 3) := by decide +kernel
theorem dX7_partsOf_21 : decode cX7_partsOf 21 = .ok (.ifCond .eq 16, 3) := by decide +kernel
theorem dX7_partsOf_24 : decode cX7_partsOf 24 = .ok (.aload_n 0, 1) := by decide +kernel
theorem dX7_partsOf_25 : decode cX7_partsOf 25 = .ok (.aload_n 0, 1) := by decide +kernel
theorem dX7_partsOf_26 : decode cX7_partsOf 26 = .ok (.iload_n 1, 1) := by decide +kernel
theorem dX7_partsOf_27 : decode cX7_partsOf 27 = .ok (.iload_n 2, 1) := by decide +kernel
theorem dX7_partsOf_28 : decode cX7_partsOf 28 = .ok (.invokevirtual 165, 3) := by decide +kernel
theorem dX7_partsOf_31 : decode cX7_partsOf 31 = .ok (.invokevirtual 93, 3) := by decide +kernel
theorem dX7_partsOf_34 : decode cX7_partsOf 34 = .ok (.goto 8, 3) := by decide +kernel
theorem dX7_partsOf_37 : decode cX7_partsOf 37 = .ok (.aload_n 0, 1) := by decide +kernel
theorem dX7_partsOf_38 : decode cX7_partsOf 38 = .ok (.iconst 2, 1) := by decide +kernel
theorem dX7_partsOf_39 : decode cX7_partsOf 39 = .ok (.invokevirtual 81, 3) := by decide +kernel
theorem dX7_partsOf_42 : decode cX7_partsOf 42 = .ok (.ireturn, 1) := by decide +kernel
theorem dX7_versions_0 : decode cX7_versions 0 = .ok (.aload_n 0, 1) := by decide +kernel
theorem dX7_versions_1 : decode cX7_versions 1 = .ok (.aload_n 0, 1) := by decide +kernel
theorem dX7_versions_2 : decode cX7_versions 2 = .ok (.getfield 13, 3) := by decide +kernel
theorem dX7_versions_5 : decode cX7_versions 5 = .ok (.invokevirtual 93, 3) := by decide +kernel
theorem dX7_versions_8 : decode cX7_versions 8 = .ok (.ireturn, 1) := by decide +kernel
theorem dX7_marksThere_0 : decode cX7_marksThere 0 = .ok (.iconst 0, 1) := by decide +kernel
theorem dX7_marksThere_1 : decode cX7_marksThere 1 = .ok (.istore_n 2, 1) := by decide +kernel
theorem dX7_marksThere_2 : decode cX7_marksThere 2 = .ok (.iconst 0, 1) := by decide +kernel
theorem dX7_marksThere_3 : decode cX7_marksThere 3 = .ok (.istore_n 3, 1) := by decide +kernel
theorem dX7_marksThere_4 : decode cX7_marksThere 4 = .ok (.iload_n 3, 1) := by decide +kernel
theorem dX7_marksThere_5 : decode cX7_marksThere 5 = .ok (.bipush 120, 2) := by decide +kernel
theorem dX7_marksThere_7 : decode cX7_marksThere 7 = .ok (.if_icmp .ge 39, 3) := by decide +kernel
theorem dX7_marksThere_10 : decode cX7_marksThere 10 = .ok (.iload_n 2, 1) := by decide +kernel
theorem dX7_marksThere_11 : decode cX7_marksThere 11 = .ok (.aload_n 0, 1) := by decide +kernel
theorem dX7_marksThere_12 : decode cX7_marksThere 12 = .ok (.getfield 58, 3) := by decide +kernel
theorem dX7_marksThere_15 : decode cX7_marksThere 15 = .ok (.iload_n 3, 1) := by decide +kernel
theorem dX7_marksThere_16 : decode cX7_marksThere 16 = .ok (.iaload, 1) := by decide +kernel
theorem dX7_marksThere_17 : decode cX7_marksThere 17 = .ok (.ifCond .le 20, 3) := by decide +kernel
theorem dX7_marksThere_20 : decode cX7_marksThere 20 = .ok (.iload_n 1, 1) := by decide +kernel
theorem dX7_marksThere_21 : decode cX7_marksThere 21 = .ok (.ifCond .eq 12, 3) := by decide +kernel
theorem dX7_marksThere_24 : decode cX7_marksThere 24 = .ok (.aload_n 0, 1) := by decide +kernel
theorem dX7_marksThere_25 : decode cX7_marksThere 25 = .ok (.getfield 61, 3) := by decide +kernel
theorem dX7_marksThere_28 : decode cX7_marksThere 28 = .ok (.iload_n 3, 1) := by decide +kernel
theorem dX7_marksThere_29 : decode cX7_marksThere 29 = .ok (.baload, 1) := by decide +kernel
theorem dX7_marksThere_30 : decode cX7_marksThere 30 = .ok (.ifCond .ne 7, 3) := by decide +kernel
theorem dX7_marksThere_33 : decode cX7_marksThere 33 = .ok (.iconst 1, 1) := by decide +kernel
theorem dX7_marksThere_34 : decode cX7_marksThere 34 = .ok (.goto 4, 3) := by decide +kernel
theorem dX7_marksThere_37 : decode cX7_marksThere 37 = .ok (.iconst 0, 1) := by decide +kernel
theorem dX7_marksThere_38 : decode cX7_marksThere 38 = .ok (.iadd, 1) := by decide +kernel
theorem dX7_marksThere_39 : decode cX7_marksThere 39 = .ok (.istore_n 2, 1) := by decide +kernel
theorem dX7_marksThere_40 : decode cX7_marksThere 40 = .ok (.iinc 3 1, 3) := by decide +kernel
theorem dX7_marksThere_43 : decode cX7_marksThere 43 = .ok (.goto (-39), 3) := by decide +kernel
theorem dX7_marksThere_46 : decode cX7_marksThere 46 = .ok (.iload_n 2, 1) := by decide +kernel
theorem dX7_marksThere_47 : decode cX7_marksThere 47 = .ok (.ireturn, 1) := by decide +kernel
theorem dX7_countShare_0 : decode cX7_countShare 0 = .ok (.aload_n 0, 1) := by decide +kernel
theorem dX7_countShare_1 : decode cX7_countShare 1 = .ok (.aload_n 0, 1) := by decide +kernel
theorem dX7_countShare_2 : decode cX7_countShare 2 = .ok (.iconst 0, 1) := by decide +kernel
theorem dX7_countShare_3 : decode cX7_countShare 3 = .ok (.invokevirtual 168, 3) := by decide +kernel
theorem dX7_countShare_6 : decode cX7_countShare 6 = .ok (.ifCond .ne 7, 3) := by decide +kernel
theorem dX7_countShare_9 : decode cX7_countShare 9 = .ok (.iconst 1, 1) := by decide +kernel
theorem dX7_countShare_10 : decode cX7_countShare 10 = .ok (.goto 4, 3) := by decide +kernel
theorem dX7_countShare_13 : decode cX7_countShare 13 = .ok (.iconst 0, 1) := by decide +kernel
theorem dX7_countShare_14 : decode cX7_countShare 14 = .ok (.putfield 22, 3) := by decide +kernel
theorem dX7_countShare_17 : decode cX7_countShare 17 = .ok (.aload_n 0, 1) := by decide +kernel
theorem dX7_countShare_18 : decode cX7_countShare 18 = .ok (.getfield 22, 3) := by decide +kernel
theorem dX7_countShare_21 : decode cX7_countShare 21 = .ok (.ifCond .le 7, 3) := by decide +kernel
theorem dX7_countShare_24 : decode cX7_countShare 24 = .ok (.fconst 0, 1) := by decide +kernel
theorem dX7_countShare_25 : decode cX7_countShare 25 = .ok (.goto 16, 3) := by decide +kernel
theorem dX7_countShare_28 : decode cX7_countShare 28 = .ok (.aload_n 0, 1) := by decide +kernel
theorem dX7_countShare_29 : decode cX7_countShare 29 = .ok (.iconst 1, 1) := by decide +kernel
theorem dX7_countShare_30 : decode cX7_countShare 30 = .ok (.invokevirtual 168, 3) := by decide +kernel
theorem dX7_countShare_33 : decode cX7_countShare 33 = .ok (.i2f, 1) := by decide +kernel
theorem dX7_countShare_34 : decode cX7_countShare 34 = .ok (.aload_n 0, 1) := by decide +kernel
theorem dX7_countShare_35 : decode cX7_countShare 35 = .ok (.iconst 0, 1) := by decide +kernel
theorem dX7_countShare_36 : decode cX7_countShare 36 = .ok (.invokevirtual 168, 3) := by decide +kernel
theorem dX7_countShare_39 : decode cX7_countShare 39 = .ok (.i2f, 1) := by decide +kernel
theorem dX7_countShare_40 : decode cX7_countShare 40 = .ok (.fdiv, 1) := by decide +kernel
theorem dX7_countShare_41 : decode cX7_countShare 41 = .ok (.freturn, 1) := by decide +kernel
theorem dX7_meanMark_0 : decode cX7_meanMark 0 = .ok (.iconst 0, 1) := by decide +kernel
theorem dX7_meanMark_1 : decode cX7_meanMark 1 = .ok (.istore_n 1, 1) := by decide +kernel
theorem dX7_meanMark_2 : decode cX7_meanMark 2 = .ok (.iconst 0, 1) := by decide +kernel
theorem dX7_meanMark_3 : decode cX7_meanMark 3 = .ok (.istore_n 2, 1) := by decide +kernel
theorem dX7_meanMark_4 : decode cX7_meanMark 4 = .ok (.iload_n 2, 1) := by decide +kernel
theorem dX7_meanMark_5 : decode cX7_meanMark 5 = .ok (.bipush 120, 2) := by decide +kernel
theorem dX7_meanMark_7 : decode cX7_meanMark 7 = .ok (.if_icmp .ge 42, 3) := by decide +kernel
theorem dX7_meanMark_10 : decode cX7_meanMark 10 = .ok (.iload_n 1, 1) := by decide +kernel
theorem dX7_meanMark_11 : decode cX7_meanMark 11 = .ok (.aload_n 0, 1) := by decide +kernel
theorem dX7_meanMark_12 : decode cX7_meanMark 12 = .ok (.getfield 58, 3) := by decide +kernel
theorem dX7_meanMark_15 : decode cX7_meanMark 15 = .ok (.iload_n 2, 1) := by decide +kernel
theorem dX7_meanMark_16 : decode cX7_meanMark 16 = .ok (.iaload, 1) := by decide +kernel
theorem dX7_meanMark_17 : decode cX7_meanMark 17 = .ok (.ifCond .le 23, 3) := by decide +kernel
theorem dX7_meanMark_20 : decode cX7_meanMark 20 = .ok (.aload_n 0, 1) := by decide +kernel
theorem dX7_meanMark_21 : decode cX7_meanMark 21 = .ok (.getfield 61, 3) := by decide +kernel
theorem dX7_meanMark_24 : decode cX7_meanMark 24 = .ok (.iload_n 2, 1) := by decide +kernel
theorem dX7_meanMark_25 : decode cX7_meanMark 25 = .ok (.baload, 1) := by decide +kernel
theorem dX7_meanMark_26 : decode cX7_meanMark 26 = .ok (.ifCond .ne 14, 3) := by decide +kernel
theorem dX7_meanMark_29 : decode cX7_meanMark 29 = .ok (.aload_n 0, 1) := by decide +kernel
theorem dX7_meanMark_30 : decode cX7_meanMark 30 = .ok (.getfield 58, 3) := by decide +kernel
theorem dX7_meanMark_33 : decode cX7_meanMark 33 = .ok (.iload_n 2, 1) := by decide +kernel
theorem dX7_meanMark_34 : decode cX7_meanMark 34 = .ok (.iaload, 1) := by decide +kernel
theorem dX7_meanMark_35 : decode cX7_meanMark 35 = .ok (.iconst 1, 1) := by decide +kernel
theorem dX7_meanMark_36 : decode cX7_meanMark 36 = .ok (.isub, 1) := by decide +kernel
theorem dX7_meanMark_37 : decode cX7_meanMark 37 = .ok (.goto 4, 3) := by decide +kernel
theorem dX7_meanMark_40 : decode cX7_meanMark 40 = .ok (.iconst 0, 1) := by decide +kernel
theorem dX7_meanMark_41 : decode cX7_meanMark 41 = .ok (.iadd, 1) := by decide +kernel
theorem dX7_meanMark_42 : decode cX7_meanMark 42 = .ok (.istore_n 1, 1) := by decide +kernel
theorem dX7_meanMark_43 : decode cX7_meanMark 43 = .ok (.iinc 2 1, 3) := by decide +kernel
theorem dX7_meanMark_46 : decode cX7_meanMark 46 = .ok (.goto (-42), 3) := by decide +kernel
theorem dX7_meanMark_49 : decode cX7_meanMark 49 = .ok (.aload_n 0, 1) := by decide +kernel
theorem dX7_meanMark_50 : decode cX7_meanMark 50 = .ok (.aload_n 0, 1) := by decide +kernel
theorem dX7_meanMark_51 : decode cX7_meanMark 51 = .ok (.iconst 1, 1) := by decide +kernel
theorem dX7_meanMark_52 : decode cX7_meanMark 52 = .ok (.invokevirtual 168, 3) := by decide +kernel
theorem dX7_meanMark_55 : decode cX7_meanMark 55 = .ok (.ifCond .ne 7, 3) := by decide +kernel
theorem dX7_meanMark_58 : decode cX7_meanMark 58 = .ok (.iconst 1, 1) := by decide +kernel
theorem dX7_meanMark_59 : decode cX7_meanMark 59 = .ok (.goto 4, 3) := by decide +kernel
theorem dX7_meanMark_62 : decode cX7_meanMark 62 = .ok (.iconst 0, 1) := by decide +kernel
theorem dX7_meanMark_63 : decode cX7_meanMark 63 = .ok (.putfield 22, 3) := by decide +kernel
theorem dX7_meanMark_66 : decode cX7_meanMark 66 = .ok (.aload_n 0, 1) := by decide +kernel
theorem dX7_meanMark_67 : decode cX7_meanMark 67 = .ok (.getfield 22, 3) := by decide +kernel
theorem dX7_meanMark_70 : decode cX7_meanMark 70 = .ok (.ifCond .le 7, 3) := by decide +kernel
theorem dX7_meanMark_73 : decode cX7_meanMark 73 = .ok (.dconst 0, 1) := by decide +kernel
theorem dX7_meanMark_74 : decode cX7_meanMark 74 = .ok (.goto 12, 3) := by decide +kernel
theorem dX7_meanMark_77 : decode cX7_meanMark 77 = .ok (.iload_n 1, 1) := by decide +kernel
theorem dX7_meanMark_78 : decode cX7_meanMark 78 = .ok (.i2d, 1) := by decide +kernel
theorem dX7_meanMark_79 : decode cX7_meanMark 79 = .ok (.aload_n 0, 1) := by decide +kernel
theorem dX7_meanMark_80 : decode cX7_meanMark 80 = .ok (.iconst 1, 1) := by decide +kernel
theorem dX7_meanMark_81 : decode cX7_meanMark 81 = .ok (.invokevirtual 168, 3) := by decide +kernel
theorem dX7_meanMark_84 : decode cX7_meanMark 84 = .ok (.i2d, 1) := by decide +kernel
theorem dX7_meanMark_85 : decode cX7_meanMark 85 = .ok (.ddiv, 1) := by decide +kernel
theorem dX7_meanMark_86 : decode cX7_meanMark 86 = .ok (.dreturn, 1) := by decide +kernel
theorem dX7_checksum_0 : decode cX7_checksum 0 = .ok (.aload_n 0, 1) := by decide +kernel
theorem dX7_checksum_1 : decode cX7_checksum 1 = .ok (.aload_n 0, 1) := by decide +kernel
theorem dX7_checksum_2 : decode cX7_checksum 2 = .ok (.iload_n 1, 1) := by decide +kernel
theorem dX7_checksum_3 : decode cX7_checksum 3 = .ok (.invokevirtual 100, 3) := by decide +kernel
theorem dX7_checksum_6 : decode cX7_checksum 6 = .ok (.ifCond .eq 7, 3) := by decide +kernel
theorem dX7_checksum_9 : decode cX7_checksum 9 = .ok (.iconst 0, 1) := by decide +kernel
theorem dX7_checksum_10 : decode cX7_checksum 10 = .ok (.goto 4, 3) := by decide +kernel
theorem dX7_checksum_13 : decode cX7_checksum 13 = .ok (.iconst 1, 1) := by decide +kernel
theorem dX7_checksum_14 : decode cX7_checksum 14 = .ok (.putfield 22, 3) := by decide +kernel
theorem dX7_checksum_17 : decode cX7_checksum 17 = .ok (.aload_n 0, 1) := by decide +kernel
theorem dX7_checksum_18 : decode cX7_checksum 18 = .ok (.getfield 22, 3) := by decide +kernel
theorem dX7_checksum_21 : decode cX7_checksum 21 = .ok (.ifCond .le 5, 3) := by decide +kernel
theorem dX7_checksum_24 : decode cX7_checksum 24 = .ok (.lconst 0, 1) := by decide +kernel
theorem dX7_checksum_25 : decode cX7_checksum 25 = .ok (.lreturn, 1) := by decide +kernel
theorem dX7_checksum_26 : decode cX7_checksum 26 = .ok (.ldc2_w 172, 3) := by decide +kernel
theorem dX7_checksum_29 : decode cX7_checksum 29 = .ok (.lstore_n 2, 1) := by decide +kernel
theorem dX7_checksum_30 : decode cX7_checksum 30 = .ok (.iconst 0, 1) := by decide +kernel
theorem dX7_checksum_31 : decode cX7_checksum 31 = .ok (.istore 4, 2) := by decide +kernel
theorem dX7_checksum_33 : decode cX7_checksum 33 = .ok (.iload 4, 2) := by decide +kernel
theorem dX7_checksum_35 : decode cX7_checksum 35 = .ok (.aload_n 0, 1) := by decide +kernel
theorem dX7_checksum_36 : decode cX7_checksum 36 = .ok (.aload_n 0, 1) := by decide +kernel
theorem dX7_checksum_37 : decode cX7_checksum 37 = .ok (.getfield 39, 3) := by decide +kernel
theorem dX7_checksum_40 : decode cX7_checksum 40 = .ok (.iload_n 1, 1) := by decide +kernel
theorem dX7_checksum_41 : decode cX7_checksum 41 = .ok (.iaload, 1) := by decide +kernel
theorem dX7_checksum_42 : decode cX7_checksum 42 = .ok (.invokevirtual 106, 3) := by decide +kernel
theorem dX7_checksum_45 : decode cX7_checksum 45 = .ok (.if_icmp .ge 119, 3) := by decide +kernel
theorem dX7_checksum_48 : decode cX7_checksum 48 = .ok (.aload_n 0, 1) := by decide +kernel
theorem dX7_checksum_49 : decode cX7_checksum 49 = .ok (.iload_n 1, 1) := by decide +kernel
theorem dX7_checksum_50 : decode cX7_checksum 50 = .ok (.iload 4, 2) := by decide +kernel
theorem dX7_checksum_52 : decode cX7_checksum 52 = .ok (.invokevirtual 89, 3) := by decide +kernel
theorem dX7_checksum_55 : decode cX7_checksum 55 = .ok (.istore 5, 2) := by decide +kernel
theorem dX7_checksum_57 : decode cX7_checksum 57 = .ok (.iconst 0, 1) := by decide +kernel
theorem dX7_checksum_58 : decode cX7_checksum 58 = .ok (.istore 6, 2) := by decide +kernel
theorem dX7_checksum_60 : decode cX7_checksum 60 = .ok (.iload 6, 2) := by decide +kernel
theorem dX7_checksum_62 : decode cX7_checksum 62 = .ok (.aload_n 0, 1) := by decide +kernel
theorem dX7_checksum_63 : decode cX7_checksum 63 = .ok (.getfield 49, 3) := by decide +kernel
theorem dX7_checksum_66 : decode cX7_checksum 66 = .ok (.iload 5, 2) := by decide +kernel
theorem dX7_checksum_68 : decode cX7_checksum 68 = .ok (.iaload, 1) := by decide +kernel
theorem dX7_checksum_69 : decode cX7_checksum 69 = .ok (.if_icmp .ge 89, 3) := by decide +kernel
theorem dX7_checksum_72 : decode cX7_checksum 72 = .ok (.iload 5, 2) := by decide +kernel
theorem dX7_checksum_74 : decode cX7_checksum 74 = .ok (.iconst 1, 1) := by decide +kernel
theorem dX7_checksum_75 : decode cX7_checksum 75 = .ok (.iadd, 1) := by decide +kernel
theorem dX7_checksum_76 : decode cX7_checksum 76 = .ok (.bipush 10, 2) := by decide +kernel
theorem dX7_checksum_78 : decode cX7_checksum 78 = .ok (.iload 6, 2) := by decide +kernel
theorem dX7_checksum_80 : decode cX7_checksum 80 = .ok (.imul, 1) := by decide +kernel
theorem dX7_checksum_81 : decode cX7_checksum 81 = .ok (.iadd, 1) := by decide +kernel
theorem dX7_checksum_82 : decode cX7_checksum 82 = .ok (.istore 7, 2) := by decide +kernel
theorem dX7_checksum_84 : decode cX7_checksum 84 = .ok (.ldc2_w 174, 3) := by decide +kernel
theorem dX7_checksum_87 : decode cX7_checksum 87 = .ok (.lload_n 2, 1) := by decide +kernel
theorem dX7_checksum_88 : decode cX7_checksum 88 = .ok (.lmul, 1) := by decide +kernel
theorem dX7_checksum_89 : decode cX7_checksum 89 = .ok (.aload_n 0, 1) := by decide +kernel
theorem dX7_checksum_90 : decode cX7_checksum 90 = .ok (.getfield 49, 3) := by decide +kernel
theorem dX7_checksum_93 : decode cX7_checksum 93 = .ok (.iload 7, 2) := by decide +kernel
theorem dX7_checksum_95 : decode cX7_checksum 95 = .ok (.iaload, 1) := by decide +kernel
theorem dX7_checksum_96 : decode cX7_checksum 96 = .ok (.i2l, 1) := by decide +kernel
theorem dX7_checksum_97 : decode cX7_checksum 97 = .ok (.ladd, 1) := by decide +kernel
theorem dX7_checksum_98 : decode cX7_checksum 98 = .ok (.lstore_n 2, 1) := by decide +kernel
theorem dX7_checksum_99 : decode cX7_checksum 99 = .ok (.iconst 0, 1) := by decide +kernel
theorem dX7_checksum_100 : decode cX7_checksum 100 = .ok (.istore 8, 2) := by decide +kernel
theorem dX7_checksum_102 : decode cX7_checksum 102 = .ok (.iload 8, 2) := by decide +kernel
theorem dX7_checksum_104 : decode cX7_checksum 104 = .ok (.aload_n 0, 1) := by decide +kernel
theorem dX7_checksum_105 : decode cX7_checksum 105 = .ok (.getfield 49, 3) := by decide +kernel
theorem dX7_checksum_108 : decode cX7_checksum 108 = .ok (.iload 7, 2) := by decide +kernel
theorem dX7_checksum_110 : decode cX7_checksum 110 = .ok (.iconst 1, 1) := by decide +kernel
theorem dX7_checksum_111 : decode cX7_checksum 111 = .ok (.iadd, 1) := by decide +kernel
theorem dX7_checksum_112 : decode cX7_checksum 112 = .ok (.iaload, 1) := by decide +kernel
theorem dX7_checksum_113 : decode cX7_checksum 113 = .ok (.if_icmp .ge 29, 3) := by decide +kernel
theorem dX7_checksum_116 : decode cX7_checksum 116 = .ok (.ldc2_w 174, 3) := by decide +kernel
theorem dX7_checksum_119 : decode cX7_checksum 119 = .ok (.lload_n 2, 1) := by decide +kernel
theorem dX7_checksum_120 : decode cX7_checksum 120 = .ok (.lmul, 1) := by decide +kernel
theorem dX7_checksum_121 : decode cX7_checksum 121 = .ok (.aload_n 0, 1) := by decide +kernel
theorem dX7_checksum_122 : decode cX7_checksum 122 = .ok (.getfield 49, 3) := by decide +kernel
theorem dX7_checksum_125 : decode cX7_checksum 125 = .ok (.iload 7, 2) := by decide +kernel
theorem dX7_checksum_127 : decode cX7_checksum 127 = .ok (.iconst 2, 1) := by decide +kernel
theorem dX7_checksum_128 : decode cX7_checksum 128 = .ok (.iadd, 1) := by decide +kernel
theorem dX7_checksum_129 : decode cX7_checksum 129 = .ok (.iload 8, 2) := by decide +kernel
theorem dX7_checksum_131 : decode cX7_checksum 131 = .ok (.iadd, 1) := by decide +kernel
theorem dX7_checksum_132 : decode cX7_checksum 132 = .ok (.iaload, 1) := by decide +kernel
theorem dX7_checksum_133 : decode cX7_checksum 133 = .ok (.i2l, 1) := by decide +kernel
theorem dX7_checksum_134 : decode cX7_checksum 134 = .ok (.ladd, 1) := by decide +kernel
theorem dX7_checksum_135 : decode cX7_checksum 135 = .ok (.lstore_n 2, 1) := by decide +kernel
theorem dX7_checksum_136 : decode cX7_checksum 136 = .ok (.iinc 8 1, 3) := by decide +kernel
theorem dX7_checksum_139 : decode cX7_checksum 139 = .ok (.goto (-37), 3) := by decide +kernel
theorem dX7_checksum_142 : decode cX7_checksum 142 = .ok (.ldc2_w 174, 3) := by decide +kernel
theorem dX7_checksum_145 : decode cX7_checksum 145 = .ok (.lload_n 2, 1) := by decide +kernel
theorem dX7_checksum_146 : decode cX7_checksum 146 = .ok (.lmul, 1) := by decide +kernel
theorem dX7_checksum_147 : decode cX7_checksum 147 = .ok (.ldc2_w 176, 3) := by decide +kernel
theorem dX7_checksum_150 : decode cX7_checksum 150 = .ok (.ladd, 1) := by decide +kernel
theorem dX7_checksum_151 : decode cX7_checksum 151 = .ok (.lstore_n 2, 1) := by decide +kernel
theorem dX7_checksum_152 : decode cX7_checksum 152 = .ok (.iinc 6 1, 3) := by decide +kernel
theorem dX7_checksum_155 : decode cX7_checksum 155 = .ok (.goto (-95), 3) := by decide +kernel
theorem dX7_checksum_158 : decode cX7_checksum 158 = .ok (.iinc 4 1, 3) := by decide +kernel
theorem dX7_checksum_161 : decode cX7_checksum 161 = .ok (.goto (-128), 3) := by decide +kernel
theorem dX7_checksum_164 : decode cX7_checksum 164 = .ok (.lload_n 2, 1) := by decide +kernel
theorem dX7_checksum_165 : decode cX7_checksum 165 = .ok (.lreturn, 1) := by decide +kernel
theorem dX7_isSound_0 : decode cX7_isSound 0 = .ok (.aload_n 0, 1) := by decide +kernel
theorem dX7_isSound_1 : decode cX7_isSound 1 = .ok (.iconst 0, 1) := by decide +kernel
theorem dX7_isSound_2 : decode cX7_isSound 2 = .ok (.putfield 22, 3) := by decide +kernel
theorem dX7_isSound_5 : decode cX7_isSound 5 = .ok (.iconst 1, 1) := by decide +kernel
theorem dX7_isSound_6 : decode cX7_isSound 6 = .ok (.ireturn, 1) := by decide +kernel
end
section
def zs_strings : List (Nat × String) := [(39, "a piece has 1 to 8 bars and 1 to 4 parts"), (53, "no further piece or version"), (76, "no such piece"), (86, "no such version"), (91, "a note is 0 to 99"), (96, "the row has 8 notes"), (102, "no such version, bar or part"), (108, "an editor is 0 to 5"), (110, "there are 40 versions"), (144, "no such piece or part"), (146, "a rule is l, n or b"), (162, "unlike pieces, or one above the other"), (173, "unlike pieces"), (192, "no such row or note"), (195, "no such row"), (212, "no such round or version"), (224, "no such juror, round or piece"), (226, "a mark is 0 to 20"), (228, "the piece was not heard in this round"), (236, "no such mark that is asked again"), (244, "no such round or piece"), (253, "no such rank"), (258, "a prize has 1 to 9999 coins"), (263, "the piece was never heard"), (268, "there are 12 prizes"), (278, "no such prize"), (281, "no such prize or editor"), (286, "no such editor"), (288, "editors are bits 0 to 5"), (295, "there are no marks"), (298, "no marks count")]
def zs_nwords : List Cond := [(Cond.castable "java/lang/IllegalArgumentException" "java/lang/IllegalArgumentException"), (Cond.castable "java/lang/IllegalStateException" "java/lang/IllegalStateException"), (Cond.castable "java/lang/ArrayIndexOutOfBoundsException" "java/lang/ArrayIndexOutOfBoundsException"), (Cond.castable "java/lang/IndexOutOfBoundsException" "java/lang/IndexOutOfBoundsException"), (Cond.castable "java/lang/UnsupportedOperationException" "java/lang/UnsupportedOperationException"), (Cond.castable "java/util/NoSuchElementException" "java/util/NoSuchElementException"), (Cond.castable "java/lang/ArithmeticException" "java/lang/ArithmeticException"), (Cond.methodLinkNest "ScoreSheaf$Version" 50 ⟨"ScoreSheaf","areAlike","(LScoreSheaf$Sheaf;LScoreSheaf$Sheaf;)Z"⟩ "ScoreSheaf"), (Cond.declares ⟨"java/lang/RuntimeException","<init>","()V"⟩), (Cond.declares ⟨"java/lang/RuntimeException","<init>","(Ljava/lang/String;)V"⟩), (Cond.declares ⟨"java/lang/Exception","<init>","()V"⟩), (Cond.declares ⟨"java/lang/Exception","<init>","(Ljava/lang/String;)V"⟩), (Cond.declares ⟨"java/lang/Throwable","<init>","()V"⟩), (Cond.declares ⟨"java/lang/Throwable","<init>","(Ljava/lang/String;)V"⟩), (Cond.methodLinkNest "ScoreSheaf$Version" 36 ⟨"ScoreSheaf","sheafOf","(LScoreSheaf$Row;)LScoreSheaf$Sheaf;"⟩ "ScoreSheaf"), (Cond.methodLinkNest "ScoreSheaf" 352 ⟨"ScoreSheaf$Sheaf","<init>","()V"⟩ "ScoreSheaf"), (Cond.declares ⟨"java/lang/IndexOutOfBoundsException","<init>","()V"⟩), (Cond.declares ⟨"java/lang/IndexOutOfBoundsException","<init>","(Ljava/lang/String;)V"⟩), (Cond.castable "[I" "java/lang/Cloneable"), (Cond.methodLinkNest "ScoreSheaf$Version" 65 ⟨"ScoreSheaf$Sheaf","<init>","()V"⟩ "ScoreSheaf")]
/-! the words that every method may use: the good ones of the tables -/
def aw : List Cond := lw_tbl.filter goodWord
theorem aw_good : ∀ w ∈ aw, goodWord w = true := fun _ h => (List.mem_filter.mp h).2
theorem aw_tbl : ∀ w ∈ aw, w ∈ lw_tbl := fun _ h => (List.mem_filter.mp h).1
theorem aw_i {w : Cond} (i : Nat) (h : lw_tbl[i]? = some w) (g : goodWord w = true) : w ∈ aw := List.mem_filter.mpr ⟨List.mem_of_getElem? h, g⟩
theorem aw_gi (w0 : Cond) (h : w0 ∈ aw) : GoodIn aw (w0 :: aw) := fun w hw => (List.mem_cons.mp hw).elim (fun e => e ▸ ⟨h, good_of_word (aw_good w0 h)⟩) (fun h => ⟨h, good_of_word (aw_good w h)⟩)
theorem aw_gc {a w0 : Cond} {ws : List Cond} (ha : a ∈ aw) (h : GoodIn aw (w0 :: ws)) : GoodIn aw (a :: w0 :: ws) := fun w hw => (List.mem_cons.mp hw).elim (fun e => e ▸ ⟨ha, good_of_word (aw_good a ha)⟩) (h w)
/-! the classes and array classes -/
def zs_C : List vw_C := [(RX0, TX0, 3), (RX1, TX1, 3), (RX2, TX2, 3), (RX3, TX3, 2), (RX4, TX4, 2), (RX5, TX5, 5), (RX6, TX6, 9), (RX7, TX7, 21)]
def zs_T (E : Nat → ClassId) : List (ClassId × FieldType) := [(E 0, .int), (E 1, .char), (E 2, .boolean), (E 3, .long), (E 4, .double), (E 5, .object RX1), (E 6, .object RX5), (E 7, .object RX0), (E 8, .object RX2), (E 9, .object RX4), (E 10, .object RX3)]
def zs_str : List (Nat × String) := zs_strings
/-- words of the machine that stay true but aren't good ones -/
def zs_nw : List Cond := zs_nwords
def zs_nok : Cond → Bool
  | .castable _ _ => true
  | .methodLinkNest _ _ _ _ => true
  | .declares _ => true
  | _ => false
abbrev zs_pt (D : va_G) (a : Nat) (e : va_E) (H : Heap) : Prop := va_at D zs_C (a, e) H
theorem zs_pt.kept {D : va_G} {a : Nat} {e : va_E} {H H1 : Heap} (h : zs_pt D a e H) (hq : H1[a]? = H[a]?) : zs_pt D a e H1 := va_at.kept h hq
theorem zs_pt.lt {D : va_G} {a : Nat} {e : va_E} {H : Heap} (h : zs_pt D a e H) : a < H.size := va_at.lt h
theorem zs_pt.P {D : va_G} {a : Nat} {e : va_E} {H : Heap} (h : zs_pt D a e H) : va_P D zs_C [(a, e)] H := fun k q hk => by
  match k, hk with
  | 0, hk => cases hk; exact h
  | k + 1, hk => simp at hk
/-- what is known of the machine at any start: classes, Strings, Throwable's statics; B: where the law's own cells begin -/
def zs_K (D : va_G) (E : Nat → ClassId) (B : Nat) (U : State) : Prop :=
  va_K D zs_C (zs_T E) U ∧ (∀ q ∈ zs_str, ∃ sa : Nat, vk_R RX6 q.1 q.2 sa U) ∧ (∀ w ∈ zs_nw, va_Nw w U) ∧ B ≤ U.heap.size ∧
  vx_Zq Bundle.tN "UNASSIGNED_STACK" Bundle.steD (fun q => B ≤ q) U U.heap ∧ vx_Zq Bundle.tN "SUPPRESSED_SENTINEL" Bundle.listD (fun q => B ≤ q) U U.heap ∧ (∀ C ∈ [RX0, RX1, RX2, RX3, RX4, RX5], va_AO C U)
theorem zs_nw_warm {w : Cond} (hn : zs_nok w = true) {s U : State} (hW : s.WarmedH U.vm) (h : va_Nw w s) : va_Nw w U := by
  cases w <;> first | (simp [zs_nok] at hn; done) | exact va_Nw.warmC hW h | exact va_Nw.warmM hW h | exact va_Nw.warmD hW h
theorem zs_nw_ok : ∀ w ∈ zs_nw, zs_nok w = true := by decide +kernel
theorem zs_K.call {D : va_G} {E : Nat → ClassId} {B : Nat} {s U : State} {A : Nat → Prop} {locs : List Loc} (h : zs_K D E B s) (hW : s.WarmedH U.vm) (hS : va_S A s.heap U.heap locs) (hA : ∀ q, A q → B ≤ q) : zs_K D E B U := by
  obtain ⟨h1, h2, h3, h4, h5, h6, h7⟩ := h
  have hk : ∀ a : Nat, a < s.heap.size → ¬ (fun q => B ≤ q) a → U.heap[a]? = s.heap[a]? := fun a ha hb => hS.2.1 a ha (fun z => hb (hA a z))
  exact ⟨va_K.moved hW.alike h1, fun q hq => (h2 q hq).imp fun sa h => vk_R.warm hW h, fun w hw => zs_nw_warm (zs_nw_ok w hw) hW (h3 w hw), Nat.le_trans h4 hS.1, vx_Zq.moved hW.alike (vx_Zq.kept h5 hk), vx_Zq.moved hW.alike (vx_Zq.kept h6 hk), fun C hC => va_AO.moved hW.alike (h7 C hC)⟩
/-- what stands at hand in a method's body -/
def zs_E (D : va_G) (E : Nat → ClassId) (B : Nat) (A : Nat → Prop) (s : State) (m : MethodId) (args : Array Value) (meth : Method) (c : Code) (p : Program) (cc : ByteArray) (nL : Nat) (own : String) : Prop :=
  p.tables.exec = Jvm.exec ∧ c.code = cc ∧ c.maxLocals = nL ∧ s.vm.findClass own = some m.cls ∧ (∀ w ∈ aw, w.before args s = true) ∧ zs_K D E B s ∧ meth.locks = false ∧ (∀ q, A q → B ≤ q) ∧ (∀ q, s.heap.size ≤ q → A q)
/-- the judgement: W, for any locals that the list tells, with what has been written so far -/
def zs_W (A : Nat → Prop) (p : Program) (l : Launch) (e : Env) (R : Room) (s : State) (m : MethodId) (args : Array Value) (below : List Frame) (meth : Method) (c : Code) (nL : Nat) (Q : State → Prop) (H : Heap) (k n : Nat) (pc : Nat) (lo : List (Nat × Value)) (st : List Value) : Prop :=
  ∀ (ls : Array Slot) (locs : List Loc), lv_has ls nL lo → va_S A s.heap H locs → W p l e R s m args below meth c H locs k n Q (F0 m pc ls st)
section ZR
variable {D : va_G} {E : Nat → ClassId} {B : Nat} {A : Nat → Prop} {p : Program} {l : Launch} {e : Env} {R : Room} {s : State} {m : MethodId} {args : Array Value} {below : List Frame} {meth : Method} {c : Code} {nL : Nat} {Q : State → Prop} {H : Heap} {k n pc : Nat} {lo lo' : List (Nat × Value)} {st : List Value} {cc : ByteArray} {own : String}

theorem zs_iload_n (hE : zs_E D E B A s m args meth c p cc nL own) {q : Fin 4} {i : Nat} {x : Int32} (j : Nat) (hd : decode cc pc = .ok (.iload_n q, 1)) (hi : (q : Nat) = i) (hl : lo[j]? = some (i, .int x)) (K : zs_W A p l e R s m args below meth c nL Q H k n (pc + 1) lo (.int x :: st)) : zs_W A p l e R s m args below meth c nL Q H k n (pc) lo (st) := fun ls locs h1 h2 => lv_iload_n hE.1 hE.2.1 hd hi (lv_at h1 j hl) (K ls locs h1 h2)
theorem zs_iload (hE : zs_E D E B A s m args meth c p cc nL own) {i : Nat} {x : Int32} (j : Nat) (hd : decode cc pc = .ok (.iload i, 2)) (hl : lo[j]? = some (i, .int x)) (K : zs_W A p l e R s m args below meth c nL Q H k n (pc + 2) lo (.int x :: st)) : zs_W A p l e R s m args below meth c nL Q H k n (pc) lo (st) := fun ls locs h1 h2 => lv_iload hE.1 hE.2.1 hd (lv_at h1 j hl) (K ls locs h1 h2)
theorem zs_lload_n (hE : zs_E D E B A s m args meth c p cc nL own) {q : Fin 4} {i : Nat} {x : Int64} (j : Nat) (hd : decode cc pc = .ok (.lload_n q, 1)) (hi : (q : Nat) = i) (hl : lo[j]? = some (i, .long x)) (K : zs_W A p l e R s m args below meth c nL Q H k n (pc + 1) lo (.long x :: st)) : zs_W A p l e R s m args below meth c nL Q H k n (pc) lo (st) := fun ls locs h1 h2 => lv_lload_n hE.1 hE.2.1 hd hi (lv_at h1 j hl) (K ls locs h1 h2)
theorem zs_lload (hE : zs_E D E B A s m args meth c p cc nL own) {i : Nat} {x : Int64} (j : Nat) (hd : decode cc pc = .ok (.lload i, 2)) (hl : lo[j]? = some (i, .long x)) (K : zs_W A p l e R s m args below meth c nL Q H k n (pc + 2) lo (.long x :: st)) : zs_W A p l e R s m args below meth c nL Q H k n (pc) lo (st) := fun ls locs h1 h2 => lv_lload hE.1 hE.2.1 hd (lv_at h1 j hl) (K ls locs h1 h2)
theorem zs_aload_n (hE : zs_E D E B A s m args meth c p cc nL own) {q : Fin 4} {i : Nat} {x : Nat} (j : Nat) (hd : decode cc pc = .ok (.aload_n q, 1)) (hi : (q : Nat) = i) (hl : lo[j]? = some (i, .ref x)) (K : zs_W A p l e R s m args below meth c nL Q H k n (pc + 1) lo (.ref x :: st)) : zs_W A p l e R s m args below meth c nL Q H k n (pc) lo (st) := fun ls locs h1 h2 => lv_aload_n hE.1 hE.2.1 hd hi (lv_at h1 j hl) (K ls locs h1 h2)
theorem zs_aload (hE : zs_E D E B A s m args meth c p cc nL own) {i : Nat} {x : Nat} (j : Nat) (hd : decode cc pc = .ok (.aload i, 2)) (hl : lo[j]? = some (i, .ref x)) (K : zs_W A p l e R s m args below meth c nL Q H k n (pc + 2) lo (.ref x :: st)) : zs_W A p l e R s m args below meth c nL Q H k n (pc) lo (st) := fun ls locs h1 h2 => lv_aload hE.1 hE.2.1 hd (lv_at h1 j hl) (K ls locs h1 h2)
theorem zs_fload_n (hE : zs_E D E B A s m args meth c p cc nL own) {q : Fin 4} {i : Nat} {x : UInt32} (j : Nat) (hd : decode cc pc = .ok (.fload_n q, 1)) (hi : (q : Nat) = i) (hl : lo[j]? = some (i, .float x)) (K : zs_W A p l e R s m args below meth c nL Q H k n (pc + 1) lo (.float x :: st)) : zs_W A p l e R s m args below meth c nL Q H k n (pc) lo (st) := fun ls locs h1 h2 => lv_fload_n hE.1 hE.2.1 hd hi (lv_at h1 j hl) (K ls locs h1 h2)
theorem zs_fload (hE : zs_E D E B A s m args meth c p cc nL own) {i : Nat} {x : UInt32} (j : Nat) (hd : decode cc pc = .ok (.fload i, 2)) (hl : lo[j]? = some (i, .float x)) (K : zs_W A p l e R s m args below meth c nL Q H k n (pc + 2) lo (.float x :: st)) : zs_W A p l e R s m args below meth c nL Q H k n (pc) lo (st) := fun ls locs h1 h2 => lv_fload hE.1 hE.2.1 hd (lv_at h1 j hl) (K ls locs h1 h2)
theorem zs_dload_n (hE : zs_E D E B A s m args meth c p cc nL own) {q : Fin 4} {i : Nat} {x : UInt64} (j : Nat) (hd : decode cc pc = .ok (.dload_n q, 1)) (hi : (q : Nat) = i) (hl : lo[j]? = some (i, .double x)) (K : zs_W A p l e R s m args below meth c nL Q H k n (pc + 1) lo (.double x :: st)) : zs_W A p l e R s m args below meth c nL Q H k n (pc) lo (st) := fun ls locs h1 h2 => lv_dload_n hE.1 hE.2.1 hd hi (lv_at h1 j hl) (K ls locs h1 h2)
theorem zs_dload (hE : zs_E D E B A s m args meth c p cc nL own) {i : Nat} {x : UInt64} (j : Nat) (hd : decode cc pc = .ok (.dload i, 2)) (hl : lo[j]? = some (i, .double x)) (K : zs_W A p l e R s m args below meth c nL Q H k n (pc + 2) lo (.double x :: st)) : zs_W A p l e R s m args below meth c nL Q H k n (pc) lo (st) := fun ls locs h1 h2 => lv_dload hE.1 hE.2.1 hd (lv_at h1 j hl) (K ls locs h1 h2)
theorem zs_aload_nq (hE : zs_E D E B A s m args meth c p cc nL own) {q : Fin 4} {i : Nat} {x : Option Nat} (j : Nat) (hd : decode cc pc = .ok (.aload_n q, 1)) (hi : (q : Nat) = i) (hl : lo[j]? = some (i, va_rf x)) (K : zs_W A p l e R s m args below meth c nL Q H k n (pc + 1) lo (va_rf x :: st)) : zs_W A p l e R s m args below meth c nL Q H k n (pc) lo (st) := fun ls locs h1 h2 => by
  cases x with
  | none => exact lv_aload_nN hE.1 hE.2.1 hd hi (lv_at h1 j hl) (K ls locs h1 h2)
  | some x => exact lv_aload_n hE.1 hE.2.1 hd hi (lv_at h1 j hl) (K ls locs h1 h2)
theorem zs_aloadq (hE : zs_E D E B A s m args meth c p cc nL own) {i : Nat} {x : Option Nat} (j : Nat) (hd : decode cc pc = .ok (.aload i, 2)) (hl : lo[j]? = some (i, va_rf x)) (K : zs_W A p l e R s m args below meth c nL Q H k n (pc + 2) lo (va_rf x :: st)) : zs_W A p l e R s m args below meth c nL Q H k n (pc) lo (st) := fun ls locs h1 h2 => by
  cases x with
  | none => exact lv_aloadN hE.1 hE.2.1 hd (lv_at h1 j hl) (K ls locs h1 h2)
  | some x => exact lv_aload hE.1 hE.2.1 hd (lv_at h1 j hl) (K ls locs h1 h2)
theorem zs_istore_n (hE : zs_E D E B A s m args meth c p cc nL own) {q : Fin 4} {i : Nat} {x : Int32} (hd : decode cc pc = .ok (.istore_n q, 1)) (hi : (q : Nat) = i) (hn : i < nL) (hl : (i, Value.int x) :: lo.filter (fun q => !(q.1 == i) && !(q.1 + 1 == i && q.2.category == 2)) = lo') (K : zs_W A p l e R s m args below meth c nL Q H k n (pc + 1) lo' (st)) : zs_W A p l e R s m args below meth c nL Q H k n (pc) lo (.int x :: st) := fun _ locs h1 h2 => lv_istore_n hE.1 hE.2.1 hd hi h1 hn hl (fun ls h1 => K ls locs h1 h2)
theorem zs_istore (hE : zs_E D E B A s m args meth c p cc nL own) {i : Nat} {x : Int32} (hd : decode cc pc = .ok (.istore i, 2)) (hn : i < nL) (hl : (i, Value.int x) :: lo.filter (fun q => !(q.1 == i) && !(q.1 + 1 == i && q.2.category == 2)) = lo') (K : zs_W A p l e R s m args below meth c nL Q H k n (pc + 2) lo' (st)) : zs_W A p l e R s m args below meth c nL Q H k n (pc) lo (.int x :: st) := fun _ locs h1 h2 => lv_istore hE.1 hE.2.1 hd h1 hn hl (fun ls h1 => K ls locs h1 h2)
theorem zs_lstore_n (hE : zs_E D E B A s m args meth c p cc nL own) {q : Fin 4} {i : Nat} {x : Int64} (hd : decode cc pc = .ok (.lstore_n q, 1)) (hi : (q : Nat) = i) (hn : i + 1 < nL) (hl : (i, Value.long x) :: lo.filter (fun q => !(q.1 == i) && (!(q.1 == i + 1) && !(q.1 + 1 == i && q.2.category == 2))) = lo') (K : zs_W A p l e R s m args below meth c nL Q H k n (pc + 1) lo' (st)) : zs_W A p l e R s m args below meth c nL Q H k n (pc) lo (.long x :: st) := fun _ locs h1 h2 => lv_lstore_n hE.1 hE.2.1 hd hi h1 hn hl (fun ls h1 => K ls locs h1 h2)
theorem zs_lstore (hE : zs_E D E B A s m args meth c p cc nL own) {i : Nat} {x : Int64} (hd : decode cc pc = .ok (.lstore i, 2)) (hn : i + 1 < nL) (hl : (i, Value.long x) :: lo.filter (fun q => !(q.1 == i) && (!(q.1 == i + 1) && !(q.1 + 1 == i && q.2.category == 2))) = lo') (K : zs_W A p l e R s m args below meth c nL Q H k n (pc + 2) lo' (st)) : zs_W A p l e R s m args below meth c nL Q H k n (pc) lo (.long x :: st) := fun _ locs h1 h2 => lv_lstore hE.1 hE.2.1 hd h1 hn hl (fun ls h1 => K ls locs h1 h2)
theorem zs_astore_n (hE : zs_E D E B A s m args meth c p cc nL own) {q : Fin 4} {i : Nat} {x : Nat} (hd : decode cc pc = .ok (.astore_n q, 1)) (hi : (q : Nat) = i) (hn : i < nL) (hl : (i, Value.ref x) :: lo.filter (fun q => !(q.1 == i) && !(q.1 + 1 == i && q.2.category == 2)) = lo') (K : zs_W A p l e R s m args below meth c nL Q H k n (pc + 1) lo' (st)) : zs_W A p l e R s m args below meth c nL Q H k n (pc) lo (.ref x :: st) := fun _ locs h1 h2 => lv_astore_n hE.1 hE.2.1 hd hi h1 hn hl (fun ls h1 => K ls locs h1 h2)
theorem zs_astore (hE : zs_E D E B A s m args meth c p cc nL own) {i : Nat} {x : Nat} (hd : decode cc pc = .ok (.astore i, 2)) (hn : i < nL) (hl : (i, Value.ref x) :: lo.filter (fun q => !(q.1 == i) && !(q.1 + 1 == i && q.2.category == 2)) = lo') (K : zs_W A p l e R s m args below meth c nL Q H k n (pc + 2) lo' (st)) : zs_W A p l e R s m args below meth c nL Q H k n (pc) lo (.ref x :: st) := fun _ locs h1 h2 => lv_astore hE.1 hE.2.1 hd h1 hn hl (fun ls h1 => K ls locs h1 h2)
theorem zs_fstore_n (hE : zs_E D E B A s m args meth c p cc nL own) {q : Fin 4} {i : Nat} {x : UInt32} (hd : decode cc pc = .ok (.fstore_n q, 1)) (hi : (q : Nat) = i) (hn : i < nL) (hl : (i, Value.float x) :: lo.filter (fun q => !(q.1 == i) && !(q.1 + 1 == i && q.2.category == 2)) = lo') (K : zs_W A p l e R s m args below meth c nL Q H k n (pc + 1) lo' (st)) : zs_W A p l e R s m args below meth c nL Q H k n (pc) lo (.float x :: st) := fun _ locs h1 h2 => lv_fstore_n hE.1 hE.2.1 hd hi h1 hn hl (fun ls h1 => K ls locs h1 h2)
theorem zs_fstore (hE : zs_E D E B A s m args meth c p cc nL own) {i : Nat} {x : UInt32} (hd : decode cc pc = .ok (.fstore i, 2)) (hn : i < nL) (hl : (i, Value.float x) :: lo.filter (fun q => !(q.1 == i) && !(q.1 + 1 == i && q.2.category == 2)) = lo') (K : zs_W A p l e R s m args below meth c nL Q H k n (pc + 2) lo' (st)) : zs_W A p l e R s m args below meth c nL Q H k n (pc) lo (.float x :: st) := fun _ locs h1 h2 => lv_fstore hE.1 hE.2.1 hd h1 hn hl (fun ls h1 => K ls locs h1 h2)
theorem zs_dstore_n (hE : zs_E D E B A s m args meth c p cc nL own) {q : Fin 4} {i : Nat} {x : UInt64} (hd : decode cc pc = .ok (.dstore_n q, 1)) (hi : (q : Nat) = i) (hn : i + 1 < nL) (hl : (i, Value.double x) :: lo.filter (fun q => !(q.1 == i) && (!(q.1 == i + 1) && !(q.1 + 1 == i && q.2.category == 2))) = lo') (K : zs_W A p l e R s m args below meth c nL Q H k n (pc + 1) lo' (st)) : zs_W A p l e R s m args below meth c nL Q H k n (pc) lo (.double x :: st) := fun _ locs h1 h2 => lv_dstore_n hE.1 hE.2.1 hd hi h1 hn hl (fun ls h1 => K ls locs h1 h2)
theorem zs_dstore (hE : zs_E D E B A s m args meth c p cc nL own) {i : Nat} {x : UInt64} (hd : decode cc pc = .ok (.dstore i, 2)) (hn : i + 1 < nL) (hl : (i, Value.double x) :: lo.filter (fun q => !(q.1 == i) && (!(q.1 == i + 1) && !(q.1 + 1 == i && q.2.category == 2))) = lo') (K : zs_W A p l e R s m args below meth c nL Q H k n (pc + 2) lo' (st)) : zs_W A p l e R s m args below meth c nL Q H k n (pc) lo (.double x :: st) := fun _ locs h1 h2 => lv_dstore hE.1 hE.2.1 hd h1 hn hl (fun ls h1 => K ls locs h1 h2)
theorem zs_astore_nq (hE : zs_E D E B A s m args meth c p cc nL own) {q : Fin 4} {i : Nat} {x : Option Nat} (hd : decode cc pc = .ok (.astore_n q, 1)) (hi : (q : Nat) = i) (hn : i < nL) (hl : (i, va_rf x) :: lo.filter (fun q => !(q.1 == i) && !(q.1 + 1 == i && q.2.category == 2)) = lo') (K : zs_W A p l e R s m args below meth c nL Q H k n (pc + 1) lo' (st)) : zs_W A p l e R s m args below meth c nL Q H k n (pc) lo (va_rf x :: st) := fun _ locs h1 h2 => by
  cases x with
  | none => exact lv_astore_nN hE.1 hE.2.1 hd hi h1 hn hl (fun ls h1 => K ls locs h1 h2)
  | some x => exact lv_astore_n hE.1 hE.2.1 hd hi h1 hn hl (fun ls h1 => K ls locs h1 h2)
theorem zs_astoreq (hE : zs_E D E B A s m args meth c p cc nL own) {i : Nat} {x : Option Nat} (hd : decode cc pc = .ok (.astore i, 2)) (hn : i < nL) (hl : (i, va_rf x) :: lo.filter (fun q => !(q.1 == i) && !(q.1 + 1 == i && q.2.category == 2)) = lo') (K : zs_W A p l e R s m args below meth c nL Q H k n (pc + 2) lo' (st)) : zs_W A p l e R s m args below meth c nL Q H k n (pc) lo (va_rf x :: st) := fun _ locs h1 h2 => by
  cases x with
  | none => exact lv_astoreN hE.1 hE.2.1 hd h1 hn hl (fun ls h1 => K ls locs h1 h2)
  | some x => exact lv_astore hE.1 hE.2.1 hd h1 hn hl (fun ls h1 => K ls locs h1 h2)
theorem zs_iinc (hE : zs_E D E B A s m args meth c p cc nL own) {i : Nat} {d : Int} {x v : Int32} (j : Nat) (hd : decode cc pc = .ok (.iinc i d, 3)) (hk : lo[j]? = some (i, .int x)) (hv : x + Int32.ofInt d = v) (hn : i < nL) (hl : (i, Value.int v) :: lo.filter (fun q => !(q.1 == i) && !(q.1 + 1 == i && q.2.category == 2)) = lo') (K : zs_W A p l e R s m args below meth c nL Q H k n (pc + 3) lo' (st)) : zs_W A p l e R s m args below meth c nL Q H k n (pc) lo (st) := fun _ locs h1 h2 => lv_iinc hE.1 hE.2.1 hd h1 hk hv hn hl (fun ls h1 => K ls locs h1 h2)
theorem zs_iconst (hE : zs_E D E B A s m args meth c p cc nL own) {d : Int} {v : Int32} (hd : decode cc pc = .ok (.iconst d, 1)) (hv : Int32.ofInt d = v) (K : zs_W A p l e R s m args below meth c nL Q H k n (pc + 1) lo (.int v :: st)) : zs_W A p l e R s m args below meth c nL Q H k n (pc) lo (st) := fun ls locs h1 h2 => lv_iconst hE.1 hE.2.1 hd hv (K ls locs h1 h2)
theorem zs_bipush (hE : zs_E D E B A s m args meth c p cc nL own) {d : Int} {v : Int32} (hd : decode cc pc = .ok (.bipush d, 2)) (hv : (Int8.ofInt d).toInt32 = v) (K : zs_W A p l e R s m args below meth c nL Q H k n (pc + 2) lo (.int v :: st)) : zs_W A p l e R s m args below meth c nL Q H k n (pc) lo (st) := fun ls locs h1 h2 => lv_bipush hE.1 hE.2.1 hd hv (K ls locs h1 h2)
theorem zs_sipush (hE : zs_E D E B A s m args meth c p cc nL own) {d : Int} {v : Int32} (hd : decode cc pc = .ok (.sipush d, 3)) (hv : (Int16.ofInt d).toInt32 = v) (K : zs_W A p l e R s m args below meth c nL Q H k n (pc + 3) lo (.int v :: st)) : zs_W A p l e R s m args below meth c nL Q H k n (pc) lo (st) := fun ls locs h1 h2 => lv_sipush hE.1 hE.2.1 hd hv (K ls locs h1 h2)
theorem zs_lconst (hE : zs_E D E B A s m args meth c p cc nL own) {d : Fin 2} {v : Int64} (hd : decode cc pc = .ok (.lconst d, 1)) (hv : Int64.ofNat (d : Nat) = v) (K : zs_W A p l e R s m args below meth c nL Q H k n (pc + 1) lo (.long v :: st)) : zs_W A p l e R s m args below meth c nL Q H k n (pc) lo (st) := fun ls locs h1 h2 => lv_lconst hE.1 hE.2.1 hd hv (K ls locs h1 h2)
theorem zs_null (hE : zs_E D E B A s m args meth c p cc nL own) (hd : decode cc pc = .ok (.aconst_null, 1)) (K : zs_W A p l e R s m args below meth c nL Q H k n (pc + 1) lo (.null :: st)) : zs_W A p l e R s m args below meth c nL Q H k n (pc) lo (st) := fun ls locs h1 h2 => lv_null hE.1 hE.2.1 hd (K ls locs h1 h2)
theorem zs_ldc (hE : zs_E D E B A s m args meth c p cc nL own) {i : Nat} {v : Int32} (hw : Cond.constant own i v ∈ aw) (hd : decode cc pc = .ok (.ldc i, 2)) (K : zs_W A p l e R s m args below meth c nL Q H k n (pc + 2) lo (.int v :: st)) : zs_W A p l e R s m args below meth c nL Q H k n (pc) lo (st) := fun ls locs h1 h2 => lv_ldc hE.1 hE.2.1 hE.2.2.2.1 (hE.2.2.2.2.1 _ hw) hd (K ls locs h1 h2)
theorem zs_ldc2 (hE : zs_E D E B A s m args meth c p cc nL own) {i : Nat} {v : Int64} (hw : Cond.constantLong own i v ∈ aw) (hd : decode cc pc = .ok (.ldc2_w i, 3)) (K : zs_W A p l e R s m args below meth c nL Q H k n (pc + 3) lo (.long v :: st)) : zs_W A p l e R s m args below meth c nL Q H k n (pc) lo (st) := fun ls locs h1 h2 => lv_ldc2 hE.1 hE.2.1 hE.2.2.2.1 (hE.2.2.2.2.1 _ hw) hd (K ls locs h1 h2)
theorem zs_iadd (hE : zs_E D E B A s m args meth c p cc nL own) {x y : Int32} (hd : decode cc pc = .ok (.iadd, 1)) (K : zs_W A p l e R s m args below meth c nL Q H k n (pc + 1) lo (.int (x + y) :: st)) : zs_W A p l e R s m args below meth c nL Q H k n (pc) lo (.int y :: .int x :: st) := fun ls locs h1 h2 => lv_iadd hE.1 hE.2.1 hd (K ls locs h1 h2)
theorem zs_isub (hE : zs_E D E B A s m args meth c p cc nL own) {x y : Int32} (hd : decode cc pc = .ok (.isub, 1)) (K : zs_W A p l e R s m args below meth c nL Q H k n (pc + 1) lo (.int (x - y) :: st)) : zs_W A p l e R s m args below meth c nL Q H k n (pc) lo (.int y :: .int x :: st) := fun ls locs h1 h2 => lv_isub hE.1 hE.2.1 hd (K ls locs h1 h2)
theorem zs_imul (hE : zs_E D E B A s m args meth c p cc nL own) {x y : Int32} (hd : decode cc pc = .ok (.imul, 1)) (K : zs_W A p l e R s m args below meth c nL Q H k n (pc + 1) lo (.int (x * y) :: st)) : zs_W A p l e R s m args below meth c nL Q H k n (pc) lo (.int y :: .int x :: st) := fun ls locs h1 h2 => lv_imul hE.1 hE.2.1 hd (K ls locs h1 h2)
theorem zs_iand (hE : zs_E D E B A s m args meth c p cc nL own) {x y : Int32} (hd : decode cc pc = .ok (.iand, 1)) (K : zs_W A p l e R s m args below meth c nL Q H k n (pc + 1) lo (.int (x &&& y) :: st)) : zs_W A p l e R s m args below meth c nL Q H k n (pc) lo (.int y :: .int x :: st) := fun ls locs h1 h2 => lv_iand hE.1 hE.2.1 hd (K ls locs h1 h2)
theorem zs_ior (hE : zs_E D E B A s m args meth c p cc nL own) {x y : Int32} (hd : decode cc pc = .ok (.ior, 1)) (K : zs_W A p l e R s m args below meth c nL Q H k n (pc + 1) lo (.int (x ||| y) :: st)) : zs_W A p l e R s m args below meth c nL Q H k n (pc) lo (.int y :: .int x :: st) := fun ls locs h1 h2 => lv_ior hE.1 hE.2.1 hd (K ls locs h1 h2)
theorem zs_ladd (hE : zs_E D E B A s m args meth c p cc nL own) {x y : Int64} (hd : decode cc pc = .ok (.ladd, 1)) (K : zs_W A p l e R s m args below meth c nL Q H k n (pc + 1) lo (.long (x + y) :: st)) : zs_W A p l e R s m args below meth c nL Q H k n (pc) lo (.long y :: .long x :: st) := fun ls locs h1 h2 => lv_ladd hE.1 hE.2.1 hd (K ls locs h1 h2)
theorem zs_lmul (hE : zs_E D E B A s m args meth c p cc nL own) {x y : Int64} (hd : decode cc pc = .ok (.lmul, 1)) (K : zs_W A p l e R s m args below meth c nL Q H k n (pc + 1) lo (.long (x * y) :: st)) : zs_W A p l e R s m args below meth c nL Q H k n (pc) lo (.long y :: .long x :: st) := fun ls locs h1 h2 => lv_lmul hE.1 hE.2.1 hd (K ls locs h1 h2)
theorem zs_land (hE : zs_E D E B A s m args meth c p cc nL own) {x y : Int64} (hd : decode cc pc = .ok (.land, 1)) (K : zs_W A p l e R s m args below meth c nL Q H k n (pc + 1) lo (.long (x &&& y) :: st)) : zs_W A p l e R s m args below meth c nL Q H k n (pc) lo (.long y :: .long x :: st) := fun ls locs h1 h2 => lv_land hE.1 hE.2.1 hd (K ls locs h1 h2)
theorem zs_lor (hE : zs_E D E B A s m args meth c p cc nL own) {x y : Int64} (hd : decode cc pc = .ok (.lor, 1)) (K : zs_W A p l e R s m args below meth c nL Q H k n (pc + 1) lo (.long (x ||| y) :: st)) : zs_W A p l e R s m args below meth c nL Q H k n (pc) lo (.long y :: .long x :: st) := fun ls locs h1 h2 => lv_lor hE.1 hE.2.1 hd (K ls locs h1 h2)
theorem zs_iaddN (hE : zs_E D E B A s m args meth c p cc nL own) {a b : Nat} (hd : decode cc pc = .ok (.iadd, 1)) (K : zs_W A p l e R s m args below meth c nL Q H k n (pc + 1) lo (.int (nI (a + b)) :: st)) : zs_W A p l e R s m args below meth c nL Q H k n (pc) lo (.int (nI b) :: .int (nI a) :: st) := zs_iadd hE hd (by rw [nI_add]; exact K)
theorem zs_imulN (hE : zs_E D E B A s m args meth c p cc nL own) {a b : Nat} (hd : decode cc pc = .ok (.imul, 1)) (K : zs_W A p l e R s m args below meth c nL Q H k n (pc + 1) lo (.int (nI (a * b)) :: st)) : zs_W A p l e R s m args below meth c nL Q H k n (pc) lo (.int (nI b) :: .int (nI a) :: st) := zs_imul hE hd (by rw [pk_mul]; exact K)
theorem zs_isubN (hE : zs_E D E B A s m args meth c p cc nL own) {a b : Nat} (h : b ≤ a) (hd : decode cc pc = .ok (.isub, 1)) (K : zs_W A p l e R s m args below meth c nL Q H k n (pc + 1) lo (.int (nI (a - b)) :: st)) : zs_W A p l e R s m args below meth c nL Q H k n (pc) lo (.int (nI b) :: .int (nI a) :: st) := zs_isub hE hd (by rw [pk_sub h]; exact K)
theorem zs_lcmp (hE : zs_E D E B A s m args meth c p cc nL own) {x y : Int64} (hd : decode cc pc = .ok (.lcmp, 1)) (K : zs_W A p l e R s m args below meth c nL Q H k n (pc + 1) lo (.int (lg_cmp x y) :: st)) : zs_W A p l e R s m args below meth c nL Q H k n (pc) lo (.long y :: .long x :: st) := fun ls locs h1 h2 => W.lcmp hE.1 hE.2.1 hd (K ls locs h1 h2)
theorem zs_idiv (hE : zs_E D E B A s m args meth c p cc nL own) {x y : Int32} (hd : decode cc pc = .ok (.idiv, 1)) (hne : ¬ y = 0) (K : zs_W A p l e R s m args below meth c nL Q H k n (pc + 1) lo (.int (x / y) :: st)) : zs_W A p l e R s m args below meth c nL Q H k n (pc) lo (.int y :: .int x :: st) := fun ls locs h1 h2 => lv_idiv hE.1 hE.2.1 hd hne (K ls locs h1 h2)
theorem zs_irem (hE : zs_E D E B A s m args meth c p cc nL own) {x y : Int32} (hd : decode cc pc = .ok (.irem, 1)) (hne : ¬ y = 0) (K : zs_W A p l e R s m args below meth c nL Q H k n (pc + 1) lo (.int (x - x / y * y) :: st)) : zs_W A p l e R s m args below meth c nL Q H k n (pc) lo (.int y :: .int x :: st) := fun ls locs h1 h2 => lv_irem hE.1 hE.2.1 hd hne (K ls locs h1 h2)
theorem zs_i2l (hE : zs_E D E B A s m args meth c p cc nL own) {x : Int32} (hd : decode cc pc = .ok (.i2l, 1)) (K : zs_W A p l e R s m args below meth c nL Q H k n (pc + 1) lo (.long x.toInt64 :: st)) : zs_W A p l e R s m args below meth c nL Q H k n (pc) lo (.int x :: st) := fun ls locs h1 h2 => lv_i2l hE.1 hE.2.1 hd rfl (K ls locs h1 h2)
theorem zs_i2c (hE : zs_E D E B A s m args meth c p cc nL own) {x : Int32} (hd : decode cc pc = .ok (.i2c, 1)) (K : zs_W A p l e R s m args below meth c nL Q H k n (pc + 1) lo (.int (x.toUInt32 % 65536).toInt32 :: st)) : zs_W A p l e R s m args below meth c nL Q H k n (pc) lo (.int x :: st) := fun ls locs h1 h2 => lv_i2c hE.1 hE.2.1 hd rfl (K ls locs h1 h2)
theorem zs_i2f (hE : zs_E D E B A s m args meth c p cc nL own) {x : Int32} (hd : decode cc pc = .ok (.i2f, 1)) (K : zs_W A p l e R s m args below meth c nL Q H k n (pc + 1) lo (.float (FP.i2f x) :: st)) : zs_W A p l e R s m args below meth c nL Q H k n (pc) lo (.int x :: st) := fun ls locs h1 h2 => lv_i2f hE.1 hE.2.1 hd (K ls locs h1 h2)
theorem zs_i2d (hE : zs_E D E B A s m args meth c p cc nL own) {x : Int32} (hd : decode cc pc = .ok (.i2d, 1)) (K : zs_W A p l e R s m args below meth c nL Q H k n (pc + 1) lo (.double (FP.i2d x) :: st)) : zs_W A p l e R s m args below meth c nL Q H k n (pc) lo (.int x :: st) := fun ls locs h1 h2 => lv_i2d hE.1 hE.2.1 hd (K ls locs h1 h2)
theorem zs_fdiv (hE : zs_E D E B A s m args meth c p cc nL own) {x y : UInt32} (hd : decode cc pc = .ok (.fdiv, 1)) (hne : vf_n32 (FP.fdiv x y)) (K : zs_W A p l e R s m args below meth c nL Q H k n (pc + 1) lo (.float (FP.fdiv x y) :: st)) : zs_W A p l e R s m args below meth c nL Q H k n (pc) lo (.float y :: .float x :: st) := fun ls locs h1 h2 => lv_fdiv hE.1 hE.2.1 hd hne (K ls locs h1 h2)
theorem zs_ddiv (hE : zs_E D E B A s m args meth c p cc nL own) {x y : UInt64} (hd : decode cc pc = .ok (.ddiv, 1)) (hne : vf_n64 (FP.ddiv x y)) (K : zs_W A p l e R s m args below meth c nL Q H k n (pc + 1) lo (.double (FP.ddiv x y) :: st)) : zs_W A p l e R s m args below meth c nL Q H k n (pc) lo (.double y :: .double x :: st) := fun ls locs h1 h2 => lv_ddiv hE.1 hE.2.1 hd hne (K ls locs h1 h2)
theorem zs_f2d (hE : zs_E D E B A s m args meth c p cc nL own) {x : UInt32} (hd : decode cc pc = .ok (.f2d, 1)) (hne : vf_n64 (FP.f2d x)) (K : zs_W A p l e R s m args below meth c nL Q H k n (pc + 1) lo (.double (FP.f2d x) :: st)) : zs_W A p l e R s m args below meth c nL Q H k n (pc) lo (.float x :: st) := fun ls locs h1 h2 => lv_f2d hE.1 hE.2.1 hd hne (K ls locs h1 h2)
theorem zs_fcmp (hE : zs_E D E B A s m args meth c p cc nL own) {x y : UInt32} {op : CmpOp} (hd : decode cc pc = .ok (.fcmp op, 1)) (K : zs_W A p l e R s m args below meth c nL Q H k n (pc + 1) lo (.int (Op.cmpValue (FP.fcmp x y) op) :: st)) : zs_W A p l e R s m args below meth c nL Q H k n (pc) lo (.float y :: .float x :: st) := fun ls locs h1 h2 => lv_fcmp hE.1 hE.2.1 hd (K ls locs h1 h2)
theorem zs_dcmp (hE : zs_E D E B A s m args meth c p cc nL own) {x y : UInt64} {op : CmpOp} (hd : decode cc pc = .ok (.dcmp op, 1)) (K : zs_W A p l e R s m args below meth c nL Q H k n (pc + 1) lo (.int (Op.cmpValue (FP.dcmp x y) op) :: st)) : zs_W A p l e R s m args below meth c nL Q H k n (pc) lo (.double y :: .double x :: st) := fun ls locs h1 h2 => lv_dcmp hE.1 hE.2.1 hd (K ls locs h1 h2)
theorem zs_lshl (hE : zs_E D E B A s m args meth c p cc nL own) {x : Int64} {y : Int32} (hd : decode cc pc = .ok (.lshl, 1)) (K : zs_W A p l e R s m args below meth c nL Q H k n (pc + 1) lo (.long (x <<< (y.toInt64 &&& 63)) :: st)) : zs_W A p l e R s m args below meth c nL Q H k n (pc) lo (.int y :: .long x :: st) := fun ls locs h1 h2 => lv_lshl hE.1 hE.2.1 hd rfl (K ls locs h1 h2)
theorem zs_lshr (hE : zs_E D E B A s m args meth c p cc nL own) {x : Int64} {y : Int32} (hd : decode cc pc = .ok (.lshr, 1)) (K : zs_W A p l e R s m args below meth c nL Q H k n (pc + 1) lo (.long (x >>> (y.toInt64 &&& 63)) :: st)) : zs_W A p l e R s m args below meth c nL Q H k n (pc) lo (.int y :: .long x :: st) := fun ls locs h1 h2 => lv_lshr hE.1 hE.2.1 hd rfl (K ls locs h1 h2)
theorem zs_ishl (hE : zs_E D E B A s m args meth c p cc nL own) {x y : Int32} (hd : decode cc pc = .ok (.ishl, 1)) (K : zs_W A p l e R s m args below meth c nL Q H k n (pc + 1) lo (.int (x <<< (y &&& 31)) :: st)) : zs_W A p l e R s m args below meth c nL Q H k n (pc) lo (.int y :: .int x :: st) := fun ls locs h1 h2 => lv_ishl hE.1 hE.2.1 hd (K ls locs h1 h2)
theorem zs_ishr (hE : zs_E D E B A s m args meth c p cc nL own) {x y : Int32} (hd : decode cc pc = .ok (.ishr, 1)) (K : zs_W A p l e R s m args below meth c nL Q H k n (pc + 1) lo (.int (x >>> (y &&& 31)) :: st)) : zs_W A p l e R s m args below meth c nL Q H k n (pc) lo (.int y :: .int x :: st) := fun ls locs h1 h2 => lv_ishr hE.1 hE.2.1 hd (K ls locs h1 h2)
theorem zs_dup (hE : zs_E D E B A s m args meth c p cc nL own) {v : Value} (hd : decode cc pc = .ok (.dup, 1)) (hc : v.category = 1) (K : zs_W A p l e R s m args below meth c nL Q H k n (pc + 1) lo (v :: v :: st)) : zs_W A p l e R s m args below meth c nL Q H k n (pc) lo (v :: st) := fun ls locs h1 h2 => lv_dup hE.1 hE.2.1 hd hc (K ls locs h1 h2)
theorem zs_dup2 (hE : zs_E D E B A s m args meth c p cc nL own) {v u : Value} (hd : decode cc pc = .ok (.dup2, 1)) (hc : v.category = 1) (hc2 : u.category = 1) (K : zs_W A p l e R s m args below meth c nL Q H k n (pc + 1) lo (v :: u :: v :: u :: st)) : zs_W A p l e R s m args below meth c nL Q H k n (pc) lo (v :: u :: st) := fun ls locs h1 h2 => lv_dup2_11 hE.1 hE.2.1 hd hc hc2 (K ls locs h1 h2)
theorem zs_goto (hE : zs_E D E B A s m args meth c p cc nL own) {off : Int} {tgt : Nat} (hd : decode cc pc = .ok (.goto off, 3)) (ht : (pc : Int) + off = (tgt : Int)) (K : zs_W A p l e R s m args below meth c nL Q H k n (tgt) lo (st)) : zs_W A p l e R s m args below meth c nL Q H k n (pc) lo (st) := fun ls locs h1 h2 => lv_goto hE.1 hE.2.1 hd ht (K ls locs h1 h2)
theorem zs_icmp_eq (hE : zs_E D E B A s m args meth c p cc nL own) {x y : Int32} {off : Int} {tgt : Nat} (hd : decode cc pc = .ok (.if_icmp .eq off, 3)) (ht : (pc : Int) + off = (tgt : Int)) (kt : x = y → zs_W A p l e R s m args below meth c nL Q H k n (tgt) lo (st)) (kf : ¬ x = y → zs_W A p l e R s m args below meth c nL Q H k n (pc + 3) lo (st)) : zs_W A p l e R s m args below meth c nL Q H k n (pc) lo (.int y :: .int x :: st) := fun ls locs h1 h2 => lv_icmp_eq hE.1 hE.2.1 hd ht (fun q => kt q ls locs h1 h2) (fun q => kf q ls locs h1 h2)
theorem zs_icmp_ne (hE : zs_E D E B A s m args meth c p cc nL own) {x y : Int32} {off : Int} {tgt : Nat} (hd : decode cc pc = .ok (.if_icmp .ne off, 3)) (ht : (pc : Int) + off = (tgt : Int)) (kt : ¬ x = y → zs_W A p l e R s m args below meth c nL Q H k n (tgt) lo (st)) (kf : x = y → zs_W A p l e R s m args below meth c nL Q H k n (pc + 3) lo (st)) : zs_W A p l e R s m args below meth c nL Q H k n (pc) lo (.int y :: .int x :: st) := fun ls locs h1 h2 => lv_icmp_ne hE.1 hE.2.1 hd ht (fun q => kt q ls locs h1 h2) (fun q => kf q ls locs h1 h2)
theorem zs_icmp_lt (hE : zs_E D E B A s m args meth c p cc nL own) {x y : Int32} {off : Int} {tgt : Nat} (hd : decode cc pc = .ok (.if_icmp .lt off, 3)) (ht : (pc : Int) + off = (tgt : Int)) (kt : x < y → zs_W A p l e R s m args below meth c nL Q H k n (tgt) lo (st)) (kf : ¬ x < y → zs_W A p l e R s m args below meth c nL Q H k n (pc + 3) lo (st)) : zs_W A p l e R s m args below meth c nL Q H k n (pc) lo (.int y :: .int x :: st) := fun ls locs h1 h2 => lv_icmp_lt hE.1 hE.2.1 hd ht (fun q => kt q ls locs h1 h2) (fun q => kf q ls locs h1 h2)
theorem zs_icmp_ge (hE : zs_E D E B A s m args meth c p cc nL own) {x y : Int32} {off : Int} {tgt : Nat} (hd : decode cc pc = .ok (.if_icmp .ge off, 3)) (ht : (pc : Int) + off = (tgt : Int)) (kt : y ≤ x → zs_W A p l e R s m args below meth c nL Q H k n (tgt) lo (st)) (kf : ¬ y ≤ x → zs_W A p l e R s m args below meth c nL Q H k n (pc + 3) lo (st)) : zs_W A p l e R s m args below meth c nL Q H k n (pc) lo (.int y :: .int x :: st) := fun ls locs h1 h2 => lv_icmp_ge hE.1 hE.2.1 hd ht (fun q => kt q ls locs h1 h2) (fun q => kf q ls locs h1 h2)
theorem zs_icmp_gt (hE : zs_E D E B A s m args meth c p cc nL own) {x y : Int32} {off : Int} {tgt : Nat} (hd : decode cc pc = .ok (.if_icmp .gt off, 3)) (ht : (pc : Int) + off = (tgt : Int)) (kt : y < x → zs_W A p l e R s m args below meth c nL Q H k n (tgt) lo (st)) (kf : ¬ y < x → zs_W A p l e R s m args below meth c nL Q H k n (pc + 3) lo (st)) : zs_W A p l e R s m args below meth c nL Q H k n (pc) lo (.int y :: .int x :: st) := fun ls locs h1 h2 => lv_icmp_gt hE.1 hE.2.1 hd ht (fun q => kt q ls locs h1 h2) (fun q => kf q ls locs h1 h2)
theorem zs_icmp_le (hE : zs_E D E B A s m args meth c p cc nL own) {x y : Int32} {off : Int} {tgt : Nat} (hd : decode cc pc = .ok (.if_icmp .le off, 3)) (ht : (pc : Int) + off = (tgt : Int)) (kt : x ≤ y → zs_W A p l e R s m args below meth c nL Q H k n (tgt) lo (st)) (kf : ¬ x ≤ y → zs_W A p l e R s m args below meth c nL Q H k n (pc + 3) lo (st)) : zs_W A p l e R s m args below meth c nL Q H k n (pc) lo (.int y :: .int x :: st) := fun ls locs h1 h2 => lv_icmp_le hE.1 hE.2.1 hd ht (fun q => kt q ls locs h1 h2) (fun q => kf q ls locs h1 h2)
theorem zs_if_eq (hE : zs_E D E B A s m args meth c p cc nL own) {x : Int32} {off : Int} {tgt : Nat} (hd : decode cc pc = .ok (.ifCond .eq off, 3)) (ht : (pc : Int) + off = (tgt : Int)) (kt : x = 0 → zs_W A p l e R s m args below meth c nL Q H k n (tgt) lo (st)) (kf : ¬ x = 0 → zs_W A p l e R s m args below meth c nL Q H k n (pc + 3) lo (st)) : zs_W A p l e R s m args below meth c nL Q H k n (pc) lo (.int x :: st) := fun ls locs h1 h2 => lv_if_eq hE.1 hE.2.1 hd ht (fun q => kt q ls locs h1 h2) (fun q => kf q ls locs h1 h2)
theorem zs_if_ne (hE : zs_E D E B A s m args meth c p cc nL own) {x : Int32} {off : Int} {tgt : Nat} (hd : decode cc pc = .ok (.ifCond .ne off, 3)) (ht : (pc : Int) + off = (tgt : Int)) (kt : ¬ x = 0 → zs_W A p l e R s m args below meth c nL Q H k n (tgt) lo (st)) (kf : x = 0 → zs_W A p l e R s m args below meth c nL Q H k n (pc + 3) lo (st)) : zs_W A p l e R s m args below meth c nL Q H k n (pc) lo (.int x :: st) := fun ls locs h1 h2 => lv_if_ne hE.1 hE.2.1 hd ht (fun q => kt q ls locs h1 h2) (fun q => kf q ls locs h1 h2)
theorem zs_if_lt (hE : zs_E D E B A s m args meth c p cc nL own) {x : Int32} {off : Int} {tgt : Nat} (hd : decode cc pc = .ok (.ifCond .lt off, 3)) (ht : (pc : Int) + off = (tgt : Int)) (kt : x < 0 → zs_W A p l e R s m args below meth c nL Q H k n (tgt) lo (st)) (kf : ¬ x < 0 → zs_W A p l e R s m args below meth c nL Q H k n (pc + 3) lo (st)) : zs_W A p l e R s m args below meth c nL Q H k n (pc) lo (.int x :: st) := fun ls locs h1 h2 => lv_if_lt hE.1 hE.2.1 hd ht (fun q => kt q ls locs h1 h2) (fun q => kf q ls locs h1 h2)
theorem zs_if_ge (hE : zs_E D E B A s m args meth c p cc nL own) {x : Int32} {off : Int} {tgt : Nat} (hd : decode cc pc = .ok (.ifCond .ge off, 3)) (ht : (pc : Int) + off = (tgt : Int)) (kt : 0 ≤ x → zs_W A p l e R s m args below meth c nL Q H k n (tgt) lo (st)) (kf : ¬ 0 ≤ x → zs_W A p l e R s m args below meth c nL Q H k n (pc + 3) lo (st)) : zs_W A p l e R s m args below meth c nL Q H k n (pc) lo (.int x :: st) := fun ls locs h1 h2 => lv_if_ge hE.1 hE.2.1 hd ht (fun q => kt q ls locs h1 h2) (fun q => kf q ls locs h1 h2)
theorem zs_if_gt (hE : zs_E D E B A s m args meth c p cc nL own) {x : Int32} {off : Int} {tgt : Nat} (hd : decode cc pc = .ok (.ifCond .gt off, 3)) (ht : (pc : Int) + off = (tgt : Int)) (kt : 0 < x → zs_W A p l e R s m args below meth c nL Q H k n (tgt) lo (st)) (kf : ¬ 0 < x → zs_W A p l e R s m args below meth c nL Q H k n (pc + 3) lo (st)) : zs_W A p l e R s m args below meth c nL Q H k n (pc) lo (.int x :: st) := fun ls locs h1 h2 => lv_if_gt hE.1 hE.2.1 hd ht (fun q => kt q ls locs h1 h2) (fun q => kf q ls locs h1 h2)
theorem zs_if_le (hE : zs_E D E B A s m args meth c p cc nL own) {x : Int32} {off : Int} {tgt : Nat} (hd : decode cc pc = .ok (.ifCond .le off, 3)) (ht : (pc : Int) + off = (tgt : Int)) (kt : x ≤ 0 → zs_W A p l e R s m args below meth c nL Q H k n (tgt) lo (st)) (kf : ¬ x ≤ 0 → zs_W A p l e R s m args below meth c nL Q H k n (pc + 3) lo (st)) : zs_W A p l e R s m args below meth c nL Q H k n (pc) lo (.int x :: st) := fun ls locs h1 h2 => lv_if_le hE.1 hE.2.1 hd ht (fun q => kt q ls locs h1 h2) (fun q => kf q ls locs h1 h2)
theorem zs_icmp_eqN (hE : zs_E D E B A s m args meth c p cc nL own) {a b : Nat} {off : Int} {tgt : Nat} (ha : a < 2 ^ 31) (hb : b < 2 ^ 31) (hd : decode cc pc = .ok (.if_icmp .eq off, 3)) (ht : (pc : Int) + off = (tgt : Int)) (kt : a = b → zs_W A p l e R s m args below meth c nL Q H k n (tgt) lo (st)) (kf : a ≠ b → zs_W A p l e R s m args below meth c nL Q H k n (pc + 3) lo (st)) : zs_W A p l e R s m args below meth c nL Q H k n (pc) lo (.int (nI b) :: .int (nI a) :: st) := zs_icmp_eq hE hd ht (fun q => kt ((nI_eq ha hb).mp q)) (fun q => kf (fun z => q ((nI_eq ha hb).mpr z)))
theorem zs_icmp_neN (hE : zs_E D E B A s m args meth c p cc nL own) {a b : Nat} {off : Int} {tgt : Nat} (ha : a < 2 ^ 31) (hb : b < 2 ^ 31) (hd : decode cc pc = .ok (.if_icmp .ne off, 3)) (ht : (pc : Int) + off = (tgt : Int)) (kt : a ≠ b → zs_W A p l e R s m args below meth c nL Q H k n (tgt) lo (st)) (kf : a = b → zs_W A p l e R s m args below meth c nL Q H k n (pc + 3) lo (st)) : zs_W A p l e R s m args below meth c nL Q H k n (pc) lo (.int (nI b) :: .int (nI a) :: st) := zs_icmp_ne hE hd ht (fun q => kt (fun z => q ((nI_eq ha hb).mpr z))) (fun q => kf ((nI_eq ha hb).mp q))
theorem zs_icmp_ltN (hE : zs_E D E B A s m args meth c p cc nL own) {a b : Nat} {off : Int} {tgt : Nat} (ha : a < 2 ^ 31) (hb : b < 2 ^ 31) (hd : decode cc pc = .ok (.if_icmp .lt off, 3)) (ht : (pc : Int) + off = (tgt : Int)) (kt : a < b → zs_W A p l e R s m args below meth c nL Q H k n (tgt) lo (st)) (kf : b ≤ a → zs_W A p l e R s m args below meth c nL Q H k n (pc + 3) lo (st)) : zs_W A p l e R s m args below meth c nL Q H k n (pc) lo (.int (nI b) :: .int (nI a) :: st) := zs_icmp_lt hE hd ht (fun q => kt ((nI_ltI ha hb).mp q)) (fun q => kf (Nat.le_of_not_lt (fun z => q ((nI_ltI ha hb).mpr z))))
theorem zs_icmp_geN (hE : zs_E D E B A s m args meth c p cc nL own) {a b : Nat} {off : Int} {tgt : Nat} (ha : a < 2 ^ 31) (hb : b < 2 ^ 31) (hd : decode cc pc = .ok (.if_icmp .ge off, 3)) (ht : (pc : Int) + off = (tgt : Int)) (kt : b ≤ a → zs_W A p l e R s m args below meth c nL Q H k n (tgt) lo (st)) (kf : a < b → zs_W A p l e R s m args below meth c nL Q H k n (pc + 3) lo (st)) : zs_W A p l e R s m args below meth c nL Q H k n (pc) lo (.int (nI b) :: .int (nI a) :: st) := zs_icmp_ge hE hd ht (fun q => kt ((nI_leI hb ha).mp q)) (fun q => kf (Nat.lt_of_not_le (fun z => q ((nI_leI hb ha).mpr z))))
theorem zs_icmp_gtN (hE : zs_E D E B A s m args meth c p cc nL own) {a b : Nat} {off : Int} {tgt : Nat} (ha : a < 2 ^ 31) (hb : b < 2 ^ 31) (hd : decode cc pc = .ok (.if_icmp .gt off, 3)) (ht : (pc : Int) + off = (tgt : Int)) (kt : b < a → zs_W A p l e R s m args below meth c nL Q H k n (tgt) lo (st)) (kf : a ≤ b → zs_W A p l e R s m args below meth c nL Q H k n (pc + 3) lo (st)) : zs_W A p l e R s m args below meth c nL Q H k n (pc) lo (.int (nI b) :: .int (nI a) :: st) := zs_icmp_gt hE hd ht (fun q => kt ((nI_ltI hb ha).mp q)) (fun q => kf (Nat.le_of_not_lt (fun z => q ((nI_ltI hb ha).mpr z))))
theorem zs_icmp_leN (hE : zs_E D E B A s m args meth c p cc nL own) {a b : Nat} {off : Int} {tgt : Nat} (ha : a < 2 ^ 31) (hb : b < 2 ^ 31) (hd : decode cc pc = .ok (.if_icmp .le off, 3)) (ht : (pc : Int) + off = (tgt : Int)) (kt : a ≤ b → zs_W A p l e R s m args below meth c nL Q H k n (tgt) lo (st)) (kf : b < a → zs_W A p l e R s m args below meth c nL Q H k n (pc + 3) lo (st)) : zs_W A p l e R s m args below meth c nL Q H k n (pc) lo (.int (nI b) :: .int (nI a) :: st) := zs_icmp_le hE hd ht (fun q => kt ((nI_leI ha hb).mp q)) (fun q => kf (Nat.lt_of_not_le (fun z => q ((nI_leI ha hb).mpr z))))
theorem zs_if_eqN (hE : zs_E D E B A s m args meth c p cc nL own) {a : Nat} {off : Int} {tgt : Nat} (ha : a < 2 ^ 31) (hd : decode cc pc = .ok (.ifCond .eq off, 3)) (ht : (pc : Int) + off = (tgt : Int)) (kt : a = 0 → zs_W A p l e R s m args below meth c nL Q H k n (tgt) lo (st)) (kf : 0 < a → zs_W A p l e R s m args below meth c nL Q H k n (pc + 3) lo (st)) : zs_W A p l e R s m args below meth c nL Q H k n (pc) lo (.int (nI a) :: st) := zs_if_eq hE hd ht (fun q => kt (by rw [← nI_0] at q; exact (nI_eq ha (by decide)).mp q)) (fun q => kf (by rw [← nI_0] at q; exact Nat.pos_of_ne_zero (fun z => q ((nI_eq ha (by decide)).mpr z))))
theorem zs_if_neN (hE : zs_E D E B A s m args meth c p cc nL own) {a : Nat} {off : Int} {tgt : Nat} (ha : a < 2 ^ 31) (hd : decode cc pc = .ok (.ifCond .ne off, 3)) (ht : (pc : Int) + off = (tgt : Int)) (kt : 0 < a → zs_W A p l e R s m args below meth c nL Q H k n (tgt) lo (st)) (kf : a = 0 → zs_W A p l e R s m args below meth c nL Q H k n (pc + 3) lo (st)) : zs_W A p l e R s m args below meth c nL Q H k n (pc) lo (.int (nI a) :: st) := zs_if_ne hE hd ht (fun q => kt (by rw [← nI_0] at q; exact Nat.pos_of_ne_zero (fun z => q ((nI_eq ha (by decide)).mpr z)))) (fun q => kf (by rw [← nI_0] at q; exact (nI_eq ha (by decide)).mp q))
theorem zs_if_gtN (hE : zs_E D E B A s m args meth c p cc nL own) {a : Nat} {off : Int} {tgt : Nat} (ha : a < 2 ^ 31) (hd : decode cc pc = .ok (.ifCond .gt off, 3)) (ht : (pc : Int) + off = (tgt : Int)) (kt : 0 < a → zs_W A p l e R s m args below meth c nL Q H k n (tgt) lo (st)) (kf : a = 0 → zs_W A p l e R s m args below meth c nL Q H k n (pc + 3) lo (st)) : zs_W A p l e R s m args below meth c nL Q H k n (pc) lo (.int (nI a) :: st) := zs_if_gt hE hd ht (fun q => kt (by rw [← nI_0] at q; exact (nI_ltI (by decide) ha).mp q)) (fun q => kf (by rw [← nI_0] at q; exact Nat.eq_zero_of_not_pos (fun z => q ((nI_ltI (by decide) ha).mpr z))))
theorem zs_if_leN (hE : zs_E D E B A s m args meth c p cc nL own) {a : Nat} {off : Int} {tgt : Nat} (ha : a < 2 ^ 31) (hd : decode cc pc = .ok (.ifCond .le off, 3)) (ht : (pc : Int) + off = (tgt : Int)) (kt : a = 0 → zs_W A p l e R s m args below meth c nL Q H k n (tgt) lo (st)) (kf : 0 < a → zs_W A p l e R s m args below meth c nL Q H k n (pc + 3) lo (st)) : zs_W A p l e R s m args below meth c nL Q H k n (pc) lo (.int (nI a) :: st) := zs_if_le hE hd ht (fun q => kt (by rw [← nI_0] at q; exact Nat.eq_zero_of_le_zero ((nI_leI ha (by decide)).mp q))) (fun q => kf (by rw [← nI_0] at q; exact Nat.lt_of_not_le (fun z => q ((nI_leI ha (by decide)).mpr z))))
theorem zs_if_ltN (hE : zs_E D E B A s m args meth c p cc nL own) {a : Nat} {off : Int} (ha : a < 2 ^ 31) (hd : decode cc pc = .ok (.ifCond .lt off, 3)) {tgt : Nat} (ht : (pc : Int) + off = (tgt : Int)) (kf : zs_W A p l e R s m args below meth c nL Q H k n (pc + 3) lo (st)) : zs_W A p l e R s m args below meth c nL Q H k n (pc) lo (.int (nI a) :: st) := zs_if_lt hE hd ht (fun q => absurd q (nI_pos ha)) (fun _ => kf)
noncomputable def zs_b (P : Prop) : Int32 := @ite Int32 P (Classical.propDecidable P) 1 0
theorem zs_b1 {P : Prop} (h : P) : zs_b P = 1 := @if_pos _ (Classical.propDecidable P) h _ _ _
theorem zs_b0 {P : Prop} (h : ¬ P) : zs_b P = 0 := @if_neg _ (Classical.propDecidable P) h _ _ _
theorem zs_bnar (P : Prop) : narrow .boolean (.int (zs_b P)) = .int (zs_b P) := by
  by_cases h : P
  · rw [zs_b1 h]; rfl
  · rw [zs_b0 h]; rfl
theorem zs_b01 (P : Prop) : zs_b P = 0 ∨ zs_b P = 1 := by
  by_cases h : P
  · exact Or.inr (zs_b1 h)
  · exact Or.inl (zs_b0 h)
theorem zs_bc {P Q : Prop} (h : P ↔ Q) : zs_b P = zs_b Q := by rw [propext h]
theorem zs_if_eqB (hE : zs_E D E B A s m args meth c p cc nL own) {P : Prop} {off : Int} {tgt : Nat} (hd : decode cc pc = .ok (.ifCond .eq off, 3)) (ht : (pc : Int) + off = (tgt : Int)) (kt : ¬ P → zs_W A p l e R s m args below meth c nL Q H k n (tgt) lo (st)) (kf : P → zs_W A p l e R s m args below meth c nL Q H k n (pc + 3) lo (st)) : zs_W A p l e R s m args below meth c nL Q H k n (pc) lo (.int (zs_b P) :: st) := zs_if_eq hE hd ht (fun q => kt (fun h => by rw [zs_b1 h] at q; exact absurd q (by decide))) (fun q => kf (Classical.byContradiction fun h => q (zs_b0 h)))
theorem zs_if_neB (hE : zs_E D E B A s m args meth c p cc nL own) {P : Prop} {off : Int} {tgt : Nat} (hd : decode cc pc = .ok (.ifCond .ne off, 3)) (ht : (pc : Int) + off = (tgt : Int)) (kt : P → zs_W A p l e R s m args below meth c nL Q H k n (tgt) lo (st)) (kf : ¬ P → zs_W A p l e R s m args below meth c nL Q H k n (pc + 3) lo (st)) : zs_W A p l e R s m args below meth c nL Q H k n (pc) lo (.int (zs_b P) :: st) := zs_if_ne hE hd ht (fun q => kt (Classical.byContradiction fun h => q (zs_b0 h))) (fun q => kf (fun h => by rw [zs_b1 h] at q; exact absurd q (by decide)))
theorem zs_ifnull (hE : zs_E D E B A s m args meth c p cc nL own) {x : Option Nat} {off : Int} {tgt : Nat} (hd : decode cc pc = .ok (.ifnull off, 3)) (ht : (pc : Int) + off = (tgt : Int)) (kt : x = none → zs_W A p l e R s m args below meth c nL Q H k n (tgt) lo (st)) (kf : ∀ a, x = some a → zs_W A p l e R s m args below meth c nL Q H k n (pc + 3) lo (st)) : zs_W A p l e R s m args below meth c nL Q H k n (pc) lo (va_rf x :: st) := fun ls locs h1 h2 => by
  cases x with
  | none => exact lv_ifnullN hE.1 hE.2.1 hd ht (kt rfl ls locs h1 h2)
  | some a => exact lv_ifnull hE.1 hE.2.1 hd (kf a rfl ls locs h1 h2)
theorem zs_ifnonnull (hE : zs_E D E B A s m args meth c p cc nL own) {x : Option Nat} {off : Int} {tgt : Nat} (hd : decode cc pc = .ok (.ifnonnull off, 3)) (ht : (pc : Int) + off = (tgt : Int)) (kt : ∀ a, x = some a → zs_W A p l e R s m args below meth c nL Q H k n (tgt) lo (st)) (kf : x = none → zs_W A p l e R s m args below meth c nL Q H k n (pc + 3) lo (st)) : zs_W A p l e R s m args below meth c nL Q H k n (pc) lo (va_rf x :: st) := fun ls locs h1 h2 => by
  cases x with
  | none => exact lv_ifnonnullN hE.1 hE.2.1 hd (kf rfl ls locs h1 h2)
  | some a => exact lv_ifnonnull hE.1 hE.2.1 hd ht (kt a rfl ls locs h1 h2)
theorem zs_ifnullR (hE : zs_E D E B A s m args meth c p cc nL own) {a : Nat} {off : Int} (hd : decode cc pc = .ok (.ifnull off, 3)) (K : zs_W A p l e R s m args below meth c nL Q H k n (pc + 3) lo (st)) : zs_W A p l e R s m args below meth c nL Q H k n (pc) lo (.ref a :: st) := fun ls locs h1 h2 => lv_ifnull hE.1 hE.2.1 hd (K ls locs h1 h2)
theorem zs_ifnonnullR (hE : zs_E D E B A s m args meth c p cc nL own) {a : Nat} {off : Int} {tgt : Nat} (hd : decode cc pc = .ok (.ifnonnull off, 3)) (ht : (pc : Int) + off = (tgt : Int)) (K : zs_W A p l e R s m args below meth c nL Q H k n (tgt) lo (st)) : zs_W A p l e R s m args below meth c nL Q H k n (pc) lo (.ref a :: st) := fun ls locs h1 h2 => lv_ifnonnull hE.1 hE.2.1 hd ht (K ls locs h1 h2)
theorem zs_acmp_eq (hE : zs_E D E B A s m args meth c p cc nL own) {x y : Option Nat} {off : Int} {tgt : Nat} (hd : decode cc pc = .ok (.if_acmp .eq off, 3)) (ht : (pc : Int) + off = (tgt : Int)) (kt : x = y → zs_W A p l e R s m args below meth c nL Q H k n (tgt) lo (st)) (kf : ¬ x = y → zs_W A p l e R s m args below meth c nL Q H k n (pc + 3) lo (st)) : zs_W A p l e R s m args below meth c nL Q H k n (pc) lo (va_rf y :: va_rf x :: st) := fun ls locs h1 h2 => lv_acmp_eq hE.1 hE.2.1 hd ht (fun q => kt q ls locs h1 h2) (fun q => kf q ls locs h1 h2)
theorem zs_top {v v' : Value} (h : v = v') (K : zs_W A p l e R s m args below meth c nL Q H k n (pc) lo (v' :: st)) : zs_W A p l e R s m args below meth c nL Q H k n (pc) lo (v :: st) := by rw [h]; exact K
theorem zs_top2 {u v v' : Value} (h : v = v') (K : zs_W A p l e R s m args below meth c nL Q H k n (pc) lo (u :: v' :: st)) : zs_W A p l e R s m args below meth c nL Q H k n (pc) lo (u :: v :: st) := by rw [h]; exact K
theorem zs_sub (js : List Nat) (h : lv_pick lo js = lo') (K : zs_W A p l e R s m args below meth c nL Q H k n (pc) lo' (st)) : zs_W A p l e R s m args below meth c nL Q H k n (pc) lo (st) := fun ls locs h1 h2 => K ls locs (lv_sub h1 js h) h2
theorem zs_widen {k' n' : Nat} (h1 : k ≤ k') (h2 : n ≤ n') (K : zs_W A p l e R s m args below meth c nL Q H k' n' (pc) lo (st)) : zs_W A p l e R s m args below meth c nL Q H k n (pc) lo (st) := fun ls locs q1 q2 => W.widen h1 h2 (K ls locs q1 q2)
/-- a field's link from a class's pool: class ci, slot kf, its type, final or not -/
def zs_fl (own : String) (idx ci kf : Nat) (ty : FieldType) (fin : Bool) : Prop := ∃ (C : String) (T : u_T) (N : Nat) (ty0 : Nat → FieldType), zs_C[ci]? = some (C, T, N) ∧ kf < N ∧ (∀ w ∈ u_ws C T N, w ∈ aw) ∧ Cond.fieldLink own idx (T kf).1 (T kf).2.1 (T kf).2.2.1 ∈ aw ∧ (∀ k, k < N → parseFieldDescriptor (T k).2.2.1 = some (ty0 k)) ∧ (∀ a, a < N → ∀ b, b < N → a ≠ b → (T a).2.1 ≠ (T b).2.1) ∧ ty0 kf = ty ∧ (T kf).2.2.2 = fin
theorem zs_get (hE : zs_E D E B A s m args meth c p cc nL own) {a idx ci kf : Nat} {ty : FieldType} {fin : Bool} {fs : List Value} {v : Value} (hf : zs_fl own idx ci kf ty fin) (hp : zs_pt D a (.inr (ci, fs)) H) (hv : fs[kf]? = some v) (hd : decode cc pc = .ok (.getfield idx, 3)) (K : zs_W A p l e R s m args below meth c nL Q H k n (pc + 3) lo (v :: st)) : zs_W A p l e R s m args below meth c nL Q H k n (pc) lo (.ref a :: st) := fun ls locs h1 h2 => by
  obtain ⟨C, T, N, ty0, f1, f2, f3, f4, -⟩ := hf
  exact va_get (D := D) (ci := ci) (C := C) (T := T) (N := N) hE.1 hE.2.1 hE.2.2.2.2.1 f3 hE.2.2.2.1 hE.2.2.2.2.2.1.1 hp.P 0 rfl f1 kf f2 (hE.2.2.2.2.1 _ f4) (fun _ h9 => h9) hv hd (K ls locs h1 h2)
theorem zs_put (hE : zs_E D E B A s m args meth c p cc nL own) {a idx ci kf : Nat} {ty : FieldType} {fs : List Value} {v : Value} (hf : zs_fl own idx ci kf ty false) (hp : zs_pt D a (.inr (ci, fs)) H) (hA : A a) (hn : narrow ty v = v) (hfit : fits ty v = true) (hl : kf < fs.length) (hd : decode cc pc = .ok (.putfield idx, 3)) (K : ∀ H1 : Heap, zs_pt D a (.inr (ci, fs.set kf v)) H1 → H1.size = H.size → (∀ q, q ≠ a → H1[q]? = H[q]?) → zs_W A p l e R s m args below meth c nL Q H1 k n (pc + 3) lo (st)) : zs_W A p l e R s m args below meth c nL Q H k n (pc) lo (v :: .ref a :: st) := fun ls locs h1 h2 => by
  obtain ⟨C, T, N, ty0, f1, f2, f3, f4, f5, f6, f7, f8⟩ := hf
  have hts := hE.2.2.2.2.1
  have hK := hE.2.2.2.2.2.1.1
  have hap := va_apart (own := own) hts f3 ty0 f5 f6 hK f1
  obtain ⟨r, g1, cell, q1, q2, q3, q4⟩ := hp
  have hr : r = (C, T, N) := Option.some.inj (g1.symm.trans f1)
  subst hr
  obtain ⟨hS, hfc, kC, hkC, hkind⟩ := hK.1 ci _ f1
  obtain ⟨cf, kf2, fi, f, hi, hsl⟩ := hS kf f2
  have hlay := hts _ (f3 _ (u_in_lay f2))
  unfold u_lay at hlay
  rw [if_neg (by rw [f8]; decide)] at hlay
  have hst := (u_facts hfc hkC (u_lays hts f3 f2) hi).1
  have h6 := u_store hfc hkC hkind hlay hi ((f5 kf f2).trans (by rw [f7])) hn hfit
  refine W.putK hE.1 hE.2.1 (f := f) ⟨hE.2.2.2.1, hts _ f4, ⟨_, _, _, hi⟩, hst⟩ (by rw [q2]; exact h6) q1 q3 (by rw [hsl]; exact k2_hasslot (q4 kf f2)) rfl rfl hd fun H' e1 e2 e3 => ?_
  rw [hsl] at e1 ⊢
  exact K H' ⟨_, f1, t_OB.to (V := updV (vp_V fs) kf v) ⟨_, e1, q2, q3, t_set q4 hap f2 v⟩ (fun j _ => vp_updV_set hl v j)⟩ e2 e3 ls _ h1 (h2.put e2 e3 hA)
theorem zs_putF (hE : zs_E D E B A s m args meth c p cc nL own) {a idx ci kf : Nat} {ty : FieldType} {fs : List Value} {v : Value} (hin : meth.name = "<init>") (hf : zs_fl own idx ci kf ty true) (ho : ∃ (C : String) (T : u_T) (N : Nat), zs_C[ci]? = some (C, T, N) ∧ (T kf).1 = own) (hp : zs_pt D a (.inr (ci, fs)) H) (hA : A a) (hn : narrow ty v = v) (hfit : fits ty v = true) (hl : kf < fs.length) (hd : decode cc pc = .ok (.putfield idx, 3)) (K : ∀ H1 : Heap, zs_pt D a (.inr (ci, fs.set kf v)) H1 → H1.size = H.size → (∀ q, q ≠ a → H1[q]? = H[q]?) → zs_W A p l e R s m args below meth c nL Q H1 k n (pc + 3) lo (st)) : zs_W A p l e R s m args below meth c nL Q H k n (pc) lo (v :: .ref a :: st) := fun ls locs h1 h2 => by
  obtain ⟨C, T, N, ty0, f1, f2, f3, f4, f5, f6, f7, f8⟩ := hf
  obtain ⟨C9, T9, N9, o1, o2⟩ := ho
  cases Option.some.inj (o1.symm.trans f1)
  have hts := hE.2.2.2.2.1
  have hK := hE.2.2.2.2.2.1.1
  have hap := va_apart (own := own) hts f3 ty0 f5 f6 hK f1
  obtain ⟨r, g1, cell, q1, q2, q3, q4⟩ := hp
  have hr : r = (C, T, N) := Option.some.inj (g1.symm.trans f1)
  subst hr
  obtain ⟨hS, hfc, kC, hkC, hkind⟩ := hK.1 ci _ f1
  obtain ⟨cf, kf2, fi, f, hi, hsl⟩ := hS kf f2
  have hlay := hts _ (f3 _ (u_in_lay f2))
  unfold u_lay at hlay
  rw [if_pos f8] at hlay
  have hst := (u_facts hfc hkC (u_lays hts f3 f2) hi).1
  have hcf : m.cls = cf := by
    obtain ⟨_, _, c', _, _, _, -, -, hf', -, -, -, hown2, -⟩ := Cond.laysFinal_spec hlay
    have e1 : c' = cf := by have := hi.symm.trans hf'; simp at this; exact this.1.symm
    rw [o2] at hown2
    rw [← e1]; exact Option.some.inj (hE.2.2.2.1.symm.trans hown2)
  have h6 := u_fits hfc hkC hkind (Or.inr hlay) hi ((f5 kf f2).trans (by rw [f7])) hn hfit
  refine W.putFinK hE.1 hE.2.1 hE.2.2.2.1 (hts _ f4) hi hst hcf hin (by rw [q2]; exact h6) q1 q3 (by rw [hsl]; exact k2_hasslot (q4 kf f2)) rfl rfl hd fun H' e1 e2 e3 => ?_
  rw [hsl] at e1 ⊢
  exact K H' ⟨_, f1, t_OB.to (V := updV (vp_V fs) kf v) ⟨_, e1, q2, q3, t_set q4 hap f2 v⟩ (fun j _ => vp_updV_set hl v j)⟩ e2 e3 ls _ h1 (h2.put e2 e3 hA)
theorem zs_alen (hE : zs_E D E B A s m args meth c p cc nL own) {a t N : Nat} {x} {ty : FieldType} (hp : zs_pt D a (.inl (E t, N, x)) H) (ht : (zs_T E)[t]? = some (E t, ty)) (hd : decode cc pc = .ok (.arraylength, 1)) (K : zs_W A p l e R s m args below meth c nL Q H k n (pc + 1) lo (.int (nI N) :: st)) : zs_W A p l e R s m args below meth c nL Q H k n (pc) lo (.ref a :: st) := fun ls locs h1 h2 => va_alen hE.1 hE.2.1 hE.2.2.2.2.2.1.1 hp.P 0 t rfl ht rfl hd (K ls locs h1 h2)
theorem zs_iald (hE : zs_E D E B A s m args meth c p cc nL own) {a N j : Nat} {f : Nat → Int32} (hp : zs_pt D a (.inl (E 0, N, .inl f)) H) (hj : j < N) (hN : N < 2 ^ 31) (hd : decode cc pc = .ok (.iaload, 1)) (K : zs_W A p l e R s m args below meth c nL Q H k n (pc + 1) lo (.int (f j) :: st)) : zs_W A p l e R s m args below meth c nL Q H k n (pc) lo (.int (nI j) :: .ref a :: st) := fun ls locs h1 h2 => va_iald hE.1 hE.2.1 hE.2.2.2.2.2.1.1 hp.P 0 0 rfl rfl (vp_in_nI hj hN) hd (by rw [nI_clamp (Nat.lt_trans hj hN)]; exact K ls locs h1 h2)
theorem zs_cald (hE : zs_E D E B A s m args meth c p cc nL own) {a N j : Nat} {f : Nat → Int32} (hp : zs_pt D a (.inl (E 1, N, .inl f)) H) (hj : j < N) (hN : N < 2 ^ 31) (hd : decode cc pc = .ok (.caload, 1)) (K : zs_W A p l e R s m args below meth c nL Q H k n (pc + 1) lo (.int (f j) :: st)) : zs_W A p l e R s m args below meth c nL Q H k n (pc) lo (.int (nI j) :: .ref a :: st) := fun ls locs h1 h2 => va_cald hE.1 hE.2.1 hE.2.2.2.2.2.1.1 hp.P 0 1 rfl rfl (vp_in_nI hj hN) hd (by rw [nI_clamp (Nat.lt_trans hj hN)]; exact K ls locs h1 h2)
theorem zs_zald (hE : zs_E D E B A s m args meth c p cc nL own) {a N j : Nat} {f : Nat → Int32} (hp : zs_pt D a (.inl (E 2, N, .inl f)) H) (hj : j < N) (hN : N < 2 ^ 31) (hd : decode cc pc = .ok (.baload, 1)) (K : zs_W A p l e R s m args below meth c nL Q H k n (pc + 1) lo (.int (f j) :: st)) : zs_W A p l e R s m args below meth c nL Q H k n (pc) lo (.int (nI j) :: .ref a :: st) := fun ls locs h1 h2 => va_zald hE.1 hE.2.1 hE.2.2.2.2.2.1.1 hp.P 0 2 rfl rfl (vp_in_nI hj hN) hd (by rw [nI_clamp (Nat.lt_trans hj hN)]; exact K ls locs h1 h2)
theorem zs_lald (hE : zs_E D E B A s m args meth c p cc nL own) {a N j : Nat} {f : Nat → Int64} (hp : zs_pt D a (.inl (E 3, N, .inr (.inl f))) H) (hj : j < N) (hN : N < 2 ^ 31) (hd : decode cc pc = .ok (.laload, 1)) (K : zs_W A p l e R s m args below meth c nL Q H k n (pc + 1) lo (.long (f j) :: st)) : zs_W A p l e R s m args below meth c nL Q H k n (pc) lo (.int (nI j) :: .ref a :: st) := fun ls locs h1 h2 => va_lald hE.1 hE.2.1 hE.2.2.2.2.2.1.1 hp.P 0 3 rfl rfl (vp_in_nI hj hN) hd (by rw [nI_clamp (Nat.lt_trans hj hN)]; exact K ls locs h1 h2)
theorem zs_dald (hE : zs_E D E B A s m args meth c p cc nL own) {a N j : Nat} {f : Nat → UInt64} (hp : zs_pt D a (.inl (E 4, N, .inr (.inr (.inr (.inl f))))) H) (hj : j < N) (hN : N < 2 ^ 31) (hd : decode cc pc = .ok (.daload, 1)) (K : zs_W A p l e R s m args below meth c nL Q H k n (pc + 1) lo (.double (f j) :: st)) : zs_W A p l e R s m args below meth c nL Q H k n (pc) lo (.int (nI j) :: .ref a :: st) := fun ls locs h1 h2 => va_dald hE.1 hE.2.1 hE.2.2.2.2.2.1.1 hp.P 0 4 rfl rfl (vp_in_nI hj hN) hd (by rw [nI_clamp (Nat.lt_trans hj hN)]; exact K ls locs h1 h2)
theorem zs_aald (hE : zs_E D E B A s m args meth c p cc nL own) {a t N j : Nat} {C : String} {f : Nat → Option Nat} (hp : zs_pt D a (.inl (E t, N, .inr (.inr (.inr (.inr f))))) H) (ht : (zs_T E)[t]? = some (E t, .object C)) (hj : j < N) (hN : N < 2 ^ 31) (hd : decode cc pc = .ok (.aaload, 1)) (K : zs_W A p l e R s m args below meth c nL Q H k n (pc + 1) lo (va_rf (f j) :: st)) : zs_W A p l e R s m args below meth c nL Q H k n (pc) lo (.int (nI j) :: .ref a :: st) := fun ls locs h1 h2 => va_aldq hE.1 hE.2.1 hE.2.2.2.2.2.1.1 hp.P 0 t rfl ht (vp_in_nI hj hN) hd (by rw [nI_clamp (Nat.lt_trans hj hN)]; exact K ls locs h1 h2)
theorem zs_iast (hE : zs_E D E B A s m args meth c p cc nL own) {a N j : Nat} {x : Int32} {f : Nat → Int32} (hp : zs_pt D a (.inl (E 0, N, .inl f)) H) (hA : A a) (hj : j < N) (hN : N < 2 ^ 31) (hd : decode cc pc = .ok (.iastore, 1)) (K : ∀ H1 : Heap, zs_pt D a (.inl (E 0, N, .inl (va_up f j x))) H1 → H1.size = H.size → (∀ q, q ≠ a → H1[q]? = H[q]?) → zs_W A p l e R s m args below meth c nL Q H1 k n (pc + 1) lo (st)) : zs_W A p l e R s m args below meth c nL Q H k n (pc) lo (.int x :: .int (nI j) :: .ref a :: st) := fun ls locs h1 h2 => by
  have hin : vp_in (nI j) N := vp_in_nI hj hN
  have hcl : (nI j).toNatClampNeg = j := nI_clamp (Nat.lt_trans hj hN)
  refine W.iast hE.1 hE.2.1 hp ((hE.2.2.2.2.2.1.1.2 0 _ rfl).1 N (fun j => .int (f j))) (fun q => by cases q) (by show ¬ (_ < 0 ∨ (arrV _ _ _).slots.size ≤ _); rw [arrV_size]; exact hin) rfl rfl hd fun H1 e z oq => ?_
  refine K H1 ?_ z oq ls _ h1 (h2.put z oq hA)
  show H1[a]? = some (vp_cell _ _)
  rw [e, hcl]
  rw [vp_cell_i, vp_cell_i, arrV_store]
  congr 2
  funext q
  by_cases hq : q = j
  · subst hq
    simp [updV, va_up, vp_nar]
    try rfl
  · simp [updV, va_up, hq]
theorem zs_zast (hE : zs_E D E B A s m args meth c p cc nL own) {a N j : Nat} {x : Int32} {f : Nat → Int32} (hp : zs_pt D a (.inl (E 2, N, .inl f)) H) (hA : A a) (hj : j < N) (hN : N < 2 ^ 31) (hd : decode cc pc = .ok (.bastore, 1)) (K : ∀ H1 : Heap, zs_pt D a (.inl (E 2, N, .inl (va_up f j (vp_nar .boolean x)))) H1 → H1.size = H.size → (∀ q, q ≠ a → H1[q]? = H[q]?) → zs_W A p l e R s m args below meth c nL Q H1 k n (pc + 1) lo (st)) : zs_W A p l e R s m args below meth c nL Q H k n (pc) lo (.int x :: .int (nI j) :: .ref a :: st) := fun ls locs h1 h2 => by
  have hin : vp_in (nI j) N := vp_in_nI hj hN
  have hcl : (nI j).toNatClampNeg = j := nI_clamp (Nat.lt_trans hj hN)
  refine W.zast hE.1 hE.2.1 hp ((hE.2.2.2.2.2.1.1.2 2 _ rfl).1 N (fun j => .int (f j))) (fun q => by cases q) (by show ¬ (_ < 0 ∨ (arrV _ _ _).slots.size ≤ _); rw [arrV_size]; exact hin) rfl rfl hd fun H1 e z oq => ?_
  refine K H1 ?_ z oq ls _ h1 (h2.put z oq hA)
  show H1[a]? = some (vp_cell _ _)
  rw [e, hcl]
  rw [vp_cell_i, vp_cell_i, arrV_store]
  congr 2
  funext q
  by_cases hq : q = j
  · subst hq
    simp [updV, va_up, vp_nar]
    try rfl
  · simp [updV, va_up, hq]
theorem zs_cast (hE : zs_E D E B A s m args meth c p cc nL own) {a N j : Nat} {x : Int32} {f : Nat → Int32} (hp : zs_pt D a (.inl (E 1, N, .inl f)) H) (hA : A a) (hj : j < N) (hN : N < 2 ^ 31) (hd : decode cc pc = .ok (.castore, 1)) (K : ∀ H1 : Heap, zs_pt D a (.inl (E 1, N, .inl (va_up f j (vp_nar .char x)))) H1 → H1.size = H.size → (∀ q, q ≠ a → H1[q]? = H[q]?) → zs_W A p l e R s m args below meth c nL Q H1 k n (pc + 1) lo (st)) : zs_W A p l e R s m args below meth c nL Q H k n (pc) lo (.int x :: .int (nI j) :: .ref a :: st) := fun ls locs h1 h2 => by
  have hin : vp_in (nI j) N := vp_in_nI hj hN
  have hcl : (nI j).toNatClampNeg = j := nI_clamp (Nat.lt_trans hj hN)
  refine W.cast hE.1 hE.2.1 hp ((hE.2.2.2.2.2.1.1.2 1 _ rfl).1 N (fun j => .int (f j))) (fun q => by cases q) (by show ¬ (_ < 0 ∨ (arrV _ _ _).slots.size ≤ _); rw [arrV_size]; exact hin) rfl rfl hd fun H1 e z oq => ?_
  refine K H1 ?_ z oq ls _ h1 (h2.put z oq hA)
  show H1[a]? = some (vp_cell _ _)
  rw [e, hcl]
  rw [vp_cell_i, vp_cell_i, arrV_store]
  congr 2
  funext q
  by_cases hq : q = j
  · subst hq
    simp [updV, va_up, vp_nar]
    try rfl
  · simp [updV, va_up, hq]
theorem zs_last (hE : zs_E D E B A s m args meth c p cc nL own) {a N j : Nat} {x : Int64} {f : Nat → Int64} (hp : zs_pt D a (.inl (E 3, N, .inr (.inl f))) H) (hA : A a) (hj : j < N) (hN : N < 2 ^ 31) (hd : decode cc pc = .ok (.lastore, 1)) (K : ∀ H1 : Heap, zs_pt D a (.inl (E 3, N, .inr (.inl (va_up f j x)))) H1 → H1.size = H.size → (∀ q, q ≠ a → H1[q]? = H[q]?) → zs_W A p l e R s m args below meth c nL Q H1 k n (pc + 1) lo (st)) : zs_W A p l e R s m args below meth c nL Q H k n (pc) lo (.long x :: .int (nI j) :: .ref a :: st) := fun ls locs h1 h2 => by
  have hin : vp_in (nI j) N := vp_in_nI hj hN
  have hcl : (nI j).toNatClampNeg = j := nI_clamp (Nat.lt_trans hj hN)
  refine W.last hE.1 hE.2.1 hp ((hE.2.2.2.2.2.1.1.2 3 _ rfl).1 N (fun j => .long (f j))) (fun q => by cases q) (by show ¬ (_ < 0 ∨ (arrV _ _ _).slots.size ≤ _); rw [arrV_size]; exact hin) rfl rfl hd fun H1 e z oq => ?_
  refine K H1 ?_ z oq ls _ h1 (h2.put z oq hA)
  show H1[a]? = some (vp_cell _ _)
  rw [e, hcl]
  rw [vp_cell_l, vp_cell_l, arrV_store]
  congr 2
  funext q
  by_cases hq : q = j
  · subst hq
    simp [updV, va_up, vp_nar]
    try rfl
  · simp [updV, va_up, hq]
theorem zs_dast (hE : zs_E D E B A s m args meth c p cc nL own) {a N j : Nat} {x : UInt64} {f : Nat → UInt64} (hp : zs_pt D a (.inl (E 4, N, .inr (.inr (.inr (.inl f))))) H) (hA : A a) (hj : j < N) (hN : N < 2 ^ 31) (hd : decode cc pc = .ok (.dastore, 1)) (K : ∀ H1 : Heap, zs_pt D a (.inl (E 4, N, .inr (.inr (.inr (.inl (va_up f j x)))))) H1 → H1.size = H.size → (∀ q, q ≠ a → H1[q]? = H[q]?) → zs_W A p l e R s m args below meth c nL Q H1 k n (pc + 1) lo (st)) : zs_W A p l e R s m args below meth c nL Q H k n (pc) lo (.double x :: .int (nI j) :: .ref a :: st) := fun ls locs h1 h2 => by
  have hin : vp_in (nI j) N := vp_in_nI hj hN
  have hcl : (nI j).toNatClampNeg = j := nI_clamp (Nat.lt_trans hj hN)
  refine W.dast hE.1 hE.2.1 hp ((hE.2.2.2.2.2.1.1.2 4 _ rfl).1 N (fun j => .double (f j))) (fun q => by cases q) (by show ¬ (_ < 0 ∨ (arrV _ _ _).slots.size ≤ _); rw [arrV_size]; exact hin) rfl rfl hd fun H1 e z oq => ?_
  refine K H1 ?_ z oq ls _ h1 (h2.put z oq hA)
  show H1[a]? = some (vp_cell _ _)
  rw [e, hcl]
  rw [vp_cell_d, vp_cell_d, arrV_store]
  congr 2
  funext q
  by_cases hq : q = j
  · subst hq
    simp [updV, va_up, vp_nar]
    try rfl
  · simp [updV, va_up, hq]
theorem zs_aast (hE : zs_E D E B A s m args meth c p cc nL own) {a t N j v ci : Nat} {r : vw_C} {vs : List Value} {f : Nat → Option Nat} (hp : zs_pt D a (.inl (E t, N, .inr (.inr (.inr (.inr f))))) H) (ht : (zs_T E)[t]? = some (E t, .object r.1)) (hv : zs_pt D v (.inr (ci, vs)) H) (hc : zs_C[ci]? = some r) (hA : A a) (hj : j < N) (hN : N < 2 ^ 31) (hd : decode cc pc = .ok (.aastore, 1)) (K : ∀ H1 : Heap, zs_pt D a (.inl (E t, N, .inr (.inr (.inr (.inr (va_up f j (some v))))))) H1 → H1.size = H.size → (∀ q, q ≠ a → H1[q]? = H[q]?) → zs_W A p l e R s m args below meth c nL Q H1 k n (pc + 1) lo (st)) : zs_W A p l e R s m args below meth c nL Q H k n (pc) lo (.ref v :: .int (nI j) :: .ref a :: st) := fun ls locs h1 h2 => by
  have hK := hE.2.2.2.2.2.1.1
  have hcl : (nI j).toNatClampNeg = j := nI_clamp (Nat.lt_trans hj hN)
  obtain ⟨r', hr', cellV, g1, g2, g3, -⟩ := hv
  have hcls := (hK.1 ci r hc).2
  obtain ⟨kA, comp, k1, k2, k3, -⟩ := (hK.2 t _ ht).2
  have hcomp : comp = D.1 ci := Option.some.inj (k3.symm.trans hcls.1)
  subst hcomp
  obtain ⟨kC, hkC, -⟩ := hcls.2
  refine W.aast hE.1 hE.2.1 hp (fun q h => by cases h) (fun h => by cases h) k1 k2 rfl hkC ⟨fun q => vp_in_nI hj hN (Or.inl q), by show _ < (arrV _ _ _).slots.size; rw [arrV_size, hcl]; exact hj⟩ g1 (fun q h => by rw [g3] at h; cases h) (by rw [g2]; exact hkC) (by rw [g2]; exact va_assign hcls) rfl rfl hd fun H1 e z oq => ?_
  refine K H1 ?_ z oq ls _ h1 (h2.put z oq hA)
  show H1[a]? = some (vp_cell _ _)
  rw [e, hcl]
  rw [vp_cell_q, vp_cell_q, arrV_store]
  congr 2
  funext q
  by_cases hq : q = j
  · subst hq
    simp [updV, va_up, va_rf]
  · simp [updV, va_up, hq]
theorem zs_aastN (hE : zs_E D E B A s m args meth c p cc nL own) {a t N j : Nat} {C : String} {f : Nat → Option Nat} (hp : zs_pt D a (.inl (E t, N, .inr (.inr (.inr (.inr f))))) H) (ht : (zs_T E)[t]? = some (E t, .object C)) (hA : A a) (hj : j < N) (hN : N < 2 ^ 31) (hd : decode cc pc = .ok (.aastore, 1)) (K : ∀ H1 : Heap, zs_pt D a (.inl (E t, N, .inr (.inr (.inr (.inr (va_up f j none)))))) H1 → H1.size = H.size → (∀ q, q ≠ a → H1[q]? = H[q]?) → zs_W A p l e R s m args below meth c nL Q H1 k n (pc + 1) lo (st)) : zs_W A p l e R s m args below meth c nL Q H k n (pc) lo (.null :: .int (nI j) :: .ref a :: st) := fun ls locs h1 h2 => by
  have hcl : (nI j).toNatClampNeg = j := nI_clamp (Nat.lt_trans hj hN)
  refine va_WaastN (C := C) hE.1 hE.2.1 hp ((hE.2.2.2.2.2.1.1.2 t _ ht).1 N (fun j => va_rf (f j))) (fun h => by cases h) (by show ¬ (_ < 0 ∨ (arrV _ _ _).slots.size ≤ _); rw [arrV_size]; exact vp_in_nI hj hN) rfl rfl hd fun H1 e z oq => ?_
  refine K H1 ?_ z oq ls _ h1 (h2.put z oq hA)
  show H1[a]? = some (vp_cell _ _)
  rw [e, hcl]
  rw [vp_cell_q, vp_cell_q, arrV_store]
  congr 2
  funext q
  by_cases hq : q = j
  · subst hq
    simp [updV, va_up, va_rf]
  · simp [updV, va_up, hq]
theorem zs_S_new {H0 H1 : Heap} {locs : List Loc} (h : va_S A H0 H locs) (z : H1.size = H.size + 1) (o : ∀ q, q < H.size → H1[q]? = H[q]?) : va_S A H0 H1 locs := ⟨Nat.le_trans h.1 (by omega), fun x h1 h2 => (o x (Nat.lt_of_lt_of_le h1 h.1)).trans (h.2.1 x h1 h2), h.2.2⟩
/-- a class that can be made: class ci of N slots, by the pool entry idx of own -/
def zs_nl (own : String) (idx ci N : Nat) (ty0 : Nat → FieldType) : Prop := ∃ (C : String) (T : u_T), zs_C[ci]? = some (C, T, N) ∧ (∀ w ∈ u_ws C T N, w ∈ aw) ∧ (∀ k, k < N → parseFieldDescriptor (T k).2.2.1 = some (ty0 k)) ∧ Cond.classLink own idx C ∈ aw ∧ Cond.instantiable C N ∈ aw ∧ Cond.initialized C ∈ aw
theorem zs_new (hE : zs_E D E B A s m args meth c p cc nL own) {idx ci N : Nat} {ty0 : Nat → FieldType} {fs : List Value} (hf : zs_nl own idx ci N ty0) (hfs : ∀ j, j < N → defaultValue (ty0 j) = vp_V fs j) (hk : k + 1 ≤ R.cells) (hn : n + N ≤ R.slots) (hd : decode cc pc = .ok (.new idx, 3)) (K : ∀ (a : Nat) (H1 : Heap), a = H.size → zs_pt D a (.inr (ci, fs)) H1 → H1.size = H.size + 1 → (∀ q, q < H.size → H1[q]? = H[q]?) → zs_W A p l e R s m args below meth c nL Q H1 (k + 1) (n + N) (pc + 3) lo (.ref a :: st)) : zs_W A p l e R s m args below meth c nL Q H k n (pc) lo (st) := fun ls locs h1 h2 => by
  obtain ⟨C, T, f1, f2, f3, f4, f5, f6⟩ := hf
  have hts := hE.2.2.2.2.1
  have hKn := hE.2.2.2.2.2.1.1.1 ci _ f1
  refine W.newcK hE.1 hE.2.1 hE.2.2.2.1 (hts _ f4) (hts _ f5) (hts _ f6) rfl hd hk hn hKn.2.1 rfl fun H1 kC hkC e1 z1 o1 => ?_
  exact K H.size H1 rfl ⟨_, f1, (u_born ty0 hts f2 hKn hkC e1 f3).to hfs⟩ z1 o1 ls locs h1 (zs_S_new h2 z1 o1)
theorem zs_newi (hE : zs_E D E B A s m args meth c p cc nL own) {N : Nat} (hw : Cond.arrayClass .int ∈ aw) (hN : N < 100000) (hk : k + 1 ≤ R.cells) (hn : n + N ≤ R.slots) (hd : decode cc pc = .ok (.newarray .int, 2)) (K : ∀ (a : Nat) (H1 : Heap), a = H.size → zs_pt D a (.inl (E 0, N, .inl (fun _ => 0))) H1 → H1.size = H.size + 1 → (∀ q, q < H.size → H1[q]? = H[q]?) → zs_W A p l e R s m args below meth c nL Q H1 (k + 1) (n + N) (pc + 2) lo (.ref a :: st)) : zs_W A p l e R s m args below meth c nL Q H k n (pc) lo (.int (nI N) :: st) := fun ls locs h1 h2 => by
  have h31 : N < 2 ^ 31 := Nat.lt_trans hN (by decide)
  refine va_newaK (atype := .int) hE.1 hE.2.1 (hE.2.2.2.2.1 _ hw) rfl hd rfl (nI_pos h31) (nI_clamp h31) (by show N * _ ≤ _; simp only [newarray.typeOf, componentBytes]; omega) hk hn rfl fun H1 cA e1 z1 o1 hAr hNm => ?_
  have hc : cA = E 0 := Option.some.inj (hNm.symm.trans (hE.2.2.2.2.2.1.1.2 0 _ rfl).2)
  subst hc
  exact K H.size H1 rfl e1 z1 o1 ls locs h1 (zs_S_new h2 z1 o1)
theorem zs_newc (hE : zs_E D E B A s m args meth c p cc nL own) {N : Nat} (hw : Cond.arrayClass .char ∈ aw) (hN : N < 100000) (hk : k + 1 ≤ R.cells) (hn : n + N ≤ R.slots) (hd : decode cc pc = .ok (.newarray .char, 2)) (K : ∀ (a : Nat) (H1 : Heap), a = H.size → zs_pt D a (.inl (E 1, N, .inl (fun _ => 0))) H1 → H1.size = H.size + 1 → (∀ q, q < H.size → H1[q]? = H[q]?) → zs_W A p l e R s m args below meth c nL Q H1 (k + 1) (n + N) (pc + 2) lo (.ref a :: st)) : zs_W A p l e R s m args below meth c nL Q H k n (pc) lo (.int (nI N) :: st) := fun ls locs h1 h2 => by
  have h31 : N < 2 ^ 31 := Nat.lt_trans hN (by decide)
  refine va_newaK (atype := .char) hE.1 hE.2.1 (hE.2.2.2.2.1 _ hw) rfl hd rfl (nI_pos h31) (nI_clamp h31) (by show N * _ ≤ _; simp only [newarray.typeOf, componentBytes]; omega) hk hn rfl fun H1 cA e1 z1 o1 hAr hNm => ?_
  have hc : cA = E 1 := Option.some.inj (hNm.symm.trans (hE.2.2.2.2.2.1.1.2 1 _ rfl).2)
  subst hc
  exact K H.size H1 rfl e1 z1 o1 ls locs h1 (zs_S_new h2 z1 o1)
theorem zs_newz (hE : zs_E D E B A s m args meth c p cc nL own) {N : Nat} (hw : Cond.arrayClass .boolean ∈ aw) (hN : N < 100000) (hk : k + 1 ≤ R.cells) (hn : n + N ≤ R.slots) (hd : decode cc pc = .ok (.newarray .boolean, 2)) (K : ∀ (a : Nat) (H1 : Heap), a = H.size → zs_pt D a (.inl (E 2, N, .inl (fun _ => 0))) H1 → H1.size = H.size + 1 → (∀ q, q < H.size → H1[q]? = H[q]?) → zs_W A p l e R s m args below meth c nL Q H1 (k + 1) (n + N) (pc + 2) lo (.ref a :: st)) : zs_W A p l e R s m args below meth c nL Q H k n (pc) lo (.int (nI N) :: st) := fun ls locs h1 h2 => by
  have h31 : N < 2 ^ 31 := Nat.lt_trans hN (by decide)
  refine va_newaK (atype := .boolean) hE.1 hE.2.1 (hE.2.2.2.2.1 _ hw) rfl hd rfl (nI_pos h31) (nI_clamp h31) (by show N * _ ≤ _; simp only [newarray.typeOf, componentBytes]; omega) hk hn rfl fun H1 cA e1 z1 o1 hAr hNm => ?_
  have hc : cA = E 2 := Option.some.inj (hNm.symm.trans (hE.2.2.2.2.2.1.1.2 2 _ rfl).2)
  subst hc
  exact K H.size H1 rfl e1 z1 o1 ls locs h1 (zs_S_new h2 z1 o1)
theorem zs_newl (hE : zs_E D E B A s m args meth c p cc nL own) {N : Nat} (hw : Cond.arrayClass .long ∈ aw) (hN : N < 100000) (hk : k + 1 ≤ R.cells) (hn : n + N ≤ R.slots) (hd : decode cc pc = .ok (.newarray .long, 2)) (K : ∀ (a : Nat) (H1 : Heap), a = H.size → zs_pt D a (.inl (E 3, N, .inr (.inl (fun _ => 0)))) H1 → H1.size = H.size + 1 → (∀ q, q < H.size → H1[q]? = H[q]?) → zs_W A p l e R s m args below meth c nL Q H1 (k + 1) (n + N) (pc + 2) lo (.ref a :: st)) : zs_W A p l e R s m args below meth c nL Q H k n (pc) lo (.int (nI N) :: st) := fun ls locs h1 h2 => by
  have h31 : N < 2 ^ 31 := Nat.lt_trans hN (by decide)
  refine va_newaK (atype := .long) hE.1 hE.2.1 (hE.2.2.2.2.1 _ hw) rfl hd rfl (nI_pos h31) (nI_clamp h31) (by show N * _ ≤ _; simp only [newarray.typeOf, componentBytes]; omega) hk hn rfl fun H1 cA e1 z1 o1 hAr hNm => ?_
  have hc : cA = E 3 := Option.some.inj (hNm.symm.trans (hE.2.2.2.2.2.1.1.2 3 _ rfl).2)
  subst hc
  exact K H.size H1 rfl e1 z1 o1 ls locs h1 (zs_S_new h2 z1 o1)
theorem zs_newd (hE : zs_E D E B A s m args meth c p cc nL own) {N : Nat} (hw : Cond.arrayClass .double ∈ aw) (hN : N < 100000) (hk : k + 1 ≤ R.cells) (hn : n + N ≤ R.slots) (hd : decode cc pc = .ok (.newarray .double, 2)) (K : ∀ (a : Nat) (H1 : Heap), a = H.size → zs_pt D a (.inl (E 4, N, .inr (.inr (.inr (.inl (fun _ => 0)))))) H1 → H1.size = H.size + 1 → (∀ q, q < H.size → H1[q]? = H[q]?) → zs_W A p l e R s m args below meth c nL Q H1 (k + 1) (n + N) (pc + 2) lo (.ref a :: st)) : zs_W A p l e R s m args below meth c nL Q H k n (pc) lo (.int (nI N) :: st) := fun ls locs h1 h2 => by
  have h31 : N < 2 ^ 31 := Nat.lt_trans hN (by decide)
  refine va_newaK (atype := .double) hE.1 hE.2.1 (hE.2.2.2.2.1 _ hw) rfl hd rfl (nI_pos h31) (nI_clamp h31) (by show N * _ ≤ _; simp only [newarray.typeOf, componentBytes]; omega) hk hn rfl fun H1 cA e1 z1 o1 hAr hNm => ?_
  have hc : cA = E 4 := Option.some.inj (hNm.symm.trans (hE.2.2.2.2.2.1.1.2 4 _ rfl).2)
  subst hc
  exact K H.size H1 rfl e1 z1 o1 ls locs h1 (zs_S_new h2 z1 o1)
theorem zs_newq (hE : zs_E D E B A s m args meth c p cc nL own) {idx t N : Nat} {C : String} (hw : Cond.classLink own idx C ∈ aw) (ht : (zs_T E)[t]? = some (E t, .object C)) (hC : C ∈ [RX0, RX1, RX2, RX3, RX4, RX5]) (hN : N < 100000) (hk : k + 1 ≤ R.cells) (hn : n + N ≤ R.slots) (hd : decode cc pc = .ok (.anewarray idx, 3)) (K : ∀ (a : Nat) (H1 : Heap), a = H.size → zs_pt D a (.inl (E t, N, .inr (.inr (.inr (.inr (fun _ => none)))))) H1 → H1.size = H.size + 1 → (∀ q, q < H.size → H1[q]? = H[q]?) → zs_W A p l e R s m args below meth c nL Q H1 (k + 1) (n + N) (pc + 3) lo (.ref a :: st)) : zs_W A p l e R s m args below meth c nL Q H k n (pc) lo (.int (nI N) :: st) := fun ls locs h1 h2 => by
  have h31 : N < 2 ^ 31 := Nat.lt_trans hN (by decide)
  refine W.anew hE.1 hE.2.1 hE.2.2.2.1 (hE.2.2.2.2.1 _ hw) (va_AO.use (hE.2.2.2.2.2.1.2.2.2.2.2.2 C hC)) rfl hd rfl (nI_pos h31) (by rw [nI_clamp h31]; omega) hk (by rw [nI_clamp h31]; exact hn) fun cA kA comp f1 f2 f3 f4 => ?_
  rw [nI_clamp h31]
  generalize hH1 : H.push ({ cls := cA, slots := Array.replicate N .null, vm := .none } : Cell) = H1
  have z1 : H1.size = H.size + 1 := by rw [← hH1, Array.size_push]
  have e1 : H1[H.size]? = some (arrV cA N (fun _ => .null)) := by rw [← hH1, Array.getElem?_push_size, ← arrV_new]
  have o1 : ∀ q : Nat, q < H.size → H1[q]? = H[q]? := fun q hq => by rw [← hH1, Array.getElem?_push, if_neg (Nat.ne_of_lt hq)]
  obtain ⟨kA', comp', g1, g2, g3, g4⟩ := (hE.2.2.2.2.2.1.1.2 t _ ht).2
  have hc : cA = E t := Option.some.inj (f1.symm.trans g4)
  subst hc
  exact K H.size H1 rfl e1 z1 o1 ls locs h1 (zs_S_new h2 z1 o1)
theorem zs_objInit (hE : zs_E D E B A s m args meth c p cc nL own) {idx a : Nat} (hw : Cond.methodLink own idx Lib.objectInit ∈ aw) (hw2 : Cond.instanceMethod Lib.objectInit ∈ aw) (hw3 : Cond.code Lib.objectInit ⟨#[0xb1]⟩ 1 none ∈ aw) (hd : decode cc pc = .ok (.invokespecial idx, 3)) (hfr : 1 ≤ R.frames) (hst : (st.map fun v => v.category).sum ≤ 8) (hlo : 40 ≤ R.locals) (K : zs_W A p l e R s m args below meth c nL Q H k n (pc + 3) lo (st)) : zs_W A p l e R s m args below meth c nL Q H k n (pc) lo (.ref a :: st) := fun ls locs h1 h2 => by
  have hts := hE.2.2.2.2.1
  refine W.objInit hE.1 hE.2.1 hE.2.2.2.1 (hts _ hw) (hts _ hw2) (hts _ hw3) rfl (by rw [hE.2.2.1]; exact h1.1) rfl hd hfr ?_ (K ls locs h1 h2)
  have := lv_room (m := m) (pc := pc) (ls := ls) (rest := .ref a :: st) hst
  have e : (F0 m pc ls (.ref a :: st)).monitorRoom = (F0 m pc ls st).monitorRoom := rfl
  omega
theorem zs_lo (h : lo = lo') (K : zs_W A p l e R s m args below meth c nL Q H k n (pc) lo' (st)) : zs_W A p l e R s m args below meth c nL Q H k n (pc) lo (st) := by rw [h]; exact K
theorem zs_nullq (hE : zs_E D E B A s m args meth c p cc nL own) (hd : decode cc pc = .ok (.aconst_null, 1)) (K : zs_W A p l e R s m args below meth c nL Q H k n (pc + 1) lo (va_rf none :: st)) : zs_W A p l e R s m args below meth c nL Q H k n (pc) lo (st) := zs_null hE hd K
theorem zs_iincN (hE : zs_E D E B A s m args meth c p cc nL own) {i a : Nat} (j : Nat) (hd : decode cc pc = .ok (.iinc i 1, 3)) (hk : lo[j]? = some (i, .int (nI a))) (hn : i < nL) (hl : (i, Value.int (nI (a + 1))) :: lo.filter (fun q => !(q.1 == i) && !(q.1 + 1 == i && q.2.category == 2)) = lo') (K : zs_W A p l e R s m args below meth c nL Q H k n (pc + 3) lo' (st)) : zs_W A p l e R s m args below meth c nL Q H k n (pc) lo (st) := zs_iinc hE j hd hk (nI_1 a) hn hl K
theorem zs_iincD (hE : zs_E D E B A s m args meth c p cc nL own) {i a : Nat} (j : Nat) (hd : decode cc pc = .ok (.iinc i (-1), 3)) (hk : lo[j]? = some (i, .int (nI (a + 1)))) (hn : i < nL) (hl : (i, Value.int (nI a)) :: lo.filter (fun q => !(q.1 == i) && !(q.1 + 1 == i && q.2.category == 2)) = lo') (K : zs_W A p l e R s m args below meth c nL Q H k n (pc + 3) lo' (st)) : zs_W A p l e R s m args below meth c nL Q H k n (pc) lo (st) := zs_iinc hE j hd hk (pk_m1 a) hn hl K
end ZR
/-! contracts -/
def zs_fr (F : Nat → Prop) (sz : Nat) : Nat → Prop := fun q => F q ∨ sz ≤ q
def zs_P (D : va_G) (E : Nat → ClassId) (B : Nat) (av : List Value) (pre : Heap → Prop) (sz : Nat) : Array Value → State → Prop := va_Pc av (fun U => zs_K D E B U ∧ pre U.heap ∧ U.heap.size = sz)
def zs_Q (F : Nat → Prop) (post : Option Value → Heap → Heap → Prop) (sz : Nat) : Array Value → State → Outcome → State → Prop := fun _ st oc t => ∃ v, oc = .returned v ∧ post v st.heap t.heap ∧ va_F (zs_fr F sz) st t
def zs_X (F : Nat → Prop) (xpost : String → Heap → Heap → Prop) (sz : Nat) : String → State → State → Prop := fun Ex st t => xpost Ex st.heap t.heap ∧ va_F (zs_fr F sz) st t
/-- a method that returns -/
def zs_Ct (D : va_G) (E : Nat → ClassId) (B : Nat) (l : Launch) (y : MethodName) (cc : ByteArray) (nL : Nat) (ret : Option FieldType) (rm : Room) (av : List Value) (pre : Heap → Prop) (F : Nat → Prop) (post : Option Value → Heap → Heap → Prop) : Prop :=
  ∀ sz, B ≤ sz → (∀ q, F q → B ≤ q) → Met l y (Cond.code y cc nL ret :: aw) rm (zs_P D E B av pre sz) (zs_Q F post sz) rm.cells rm.slots (zs_fr F sz)
/-- a method that returns or throws -/
def zs_Cx (D : va_G) (E : Nat → ClassId) (B : Nat) (l : Launch) (y : MethodName) (cc : ByteArray) (nL : Nat) (ret : Option FieldType) (rm : Room) (av : List Value) (pre : Heap → Prop) (F : Nat → Prop) (post : Option Value → Heap → Heap → Prop) (xpost : String → Heap → Heap → Prop) : Prop :=
  ∀ sz, B ≤ sz → (∀ q, F q → B ≤ q) → vx_Met l y (Cond.code y cc nL ret :: aw) rm (zs_P D E B av pre sz) (zs_Q F post sz) (zs_X F xpost sz) rm.cells rm.slots (zs_fr F sz)
theorem zs_K.calling {D : va_G} {E : Nat → ClassId} {B : Nat} {U : State} (g : JFrame) (mk : MethodId) (a : Array Value) (h : zs_K D E B U) : zs_K D E B (U.calling g mk a) := by
  obtain ⟨h1, h2, h3, h4, h5, h6, h7⟩ := h
  exact ⟨va_K.moved (u := U) (U := U.calling g mk a) (Vm.Alike.refl U.vm) h1, fun q hq => (h2 q hq).imp fun sa h => vk_R.same rfl h, fun w hw => by
      have hn := zs_nw_ok w hw
      have h := h3 w hw
      cases w <;> first | (simp [zs_nok] at hn; done) | exact va_Nw.same rfl rfl h, h4, vx_Zq.moved (u := U) (U := U.calling g mk a) (Vm.Alike.refl U.vm) h5, vx_Zq.moved (u := U) (U := U.calling g mk a) (Vm.Alike.refl U.vm) h6, fun C hC => va_AO.moved (u := U) (U := U.calling g mk a) (Vm.Alike.refl U.vm) (h7 C hC)⟩
theorem zs_blind (D : va_G) (E : Nat → ClassId) (B : Nat) (av : List Value) (pre : Heap → Prop) (sz : Nat) : FrameBlind (zs_P D E B av pre sz) := fun a _ g mk h => ⟨h.1, h.2.1.calling g mk a, h.2.2⟩
theorem zs_hold {D : va_G} {E : Nat → ClassId} {B : Nat} {s U : State} {A : Nat → Prop} {H : Heap} {locs : List Loc} {av : List Value} {pre : Heap → Prop} (hK : zs_K D E B s) (hA : ∀ q, A q → B ≤ q) (hS : va_S A s.heap H locs) (hp : pre H) (hU : U.heap = H) (hW : s.WarmedH U.vm) : zs_P D E B av pre H.size av.toArray U :=
  ⟨rfl, hK.call hW (by rw [hU]; exact hS) hA, by rw [hU]; exact hp, by rw [hU]⟩
theorem zs_ct {D : va_G} {E : Nat → ClassId} {B : Nat} {l : Launch} {y : MethodName} {cc : ByteArray} {nL : Nat} {ret : Option FieldType} {rm : Room} {av : List Value} {pre : Heap → Prop} {F : Nat → Prop} {post : Option Value → Heap → Heap → Prop} (hy : plainName y.cls = true) (hlen : (lg_sl av).length ≤ nL)
    (body : ∀ (p : Program) (e : Env) (s : State) (m : MethodId) (below : List Frame) (meth : Method) (c : Code), zs_E D E B (zs_fr F s.heap.size) s m av.toArray meth c p cc nL y.cls → meth.sig.returnType = ret → (y.name = "<init>" → meth.name = "<init>") → pre s.heap →
      zs_W (zs_fr F s.heap.size) p l e rm s m av.toArray below meth c nL (MQ below (zs_Q F post s.heap.size) av.toArray s rm.cells rm.slots (zs_fr F s.heap.size)) s.heap 0 0 0 (lv_args 0 av) []) : zs_Ct D E B l y cc nL ret rm av pre F post := by
  intro sz hB hF
  refine Met.ofW (cc := cc) (maxL := nL) (ret := ret) hy rfl ?_
  intro p e s m args below meth c s₁ Bd hml hv
  obtain ⟨rfl, hK, hp, rfl⟩ := hv
  have hts := atoms_spec (ws := Cond.code y cc nL ret :: aw) Bd.pre
  have hl := lv_entry av (n := nL) hlen
  rw [lg_entry_eq]
  exact body p e s m below meth c ⟨Bd.exec, Bd.bytes, hml, findClass_of_methodNamed Bd.named, fun w hw => hts w (List.mem_cons_of_mem _ hw), hK, Bd.notSynchronized, fun q h => h.elim (hF q) (fun h => Nat.le_trans hB h), fun q h => Or.inr h⟩ Bd.returns (fun h => ((name_of_methodNamed Bd.named Bd.method).1).trans h) hp _ [] hl va_S.rf
theorem zs_cx {D : va_G} {E : Nat → ClassId} {B : Nat} {l : Launch} {y : MethodName} {cc : ByteArray} {nL : Nat} {ret : Option FieldType} {rm : Room} {av : List Value} {pre : Heap → Prop} {F : Nat → Prop} {post : Option Value → Heap → Heap → Prop} {xpost : String → Heap → Heap → Prop} (hy : plainName y.cls = true) (hlen : (lg_sl av).length ≤ nL)
    (body : ∀ (p : Program) (e : Env) (s : State) (m : MethodId) (below : List Frame) (meth : Method) (c : Code), zs_E D E B (zs_fr F s.heap.size) s m av.toArray meth c p cc nL y.cls → meth.sig.returnType = ret → (∀ x ∈ c.exceptionTable.toList, False) → pre s.heap →
      zs_W (zs_fr F s.heap.size) p l e rm s m av.toArray below meth c nL (vx_MQ below (zs_Q F post s.heap.size) (zs_X F xpost s.heap.size) av.toArray s rm.cells rm.slots (zs_fr F s.heap.size)) s.heap 0 0 0 (lv_args 0 av) []) : zs_Cx D E B l y cc nL ret rm av pre F post xpost := by
  intro sz hB hF
  refine vx_ofW (cc := cc) (maxL := nL) (ret := ret) hy rfl ?_
  intro p e s m args below meth c s₁ Bd hml htab hv
  obtain ⟨rfl, hK, hp, rfl⟩ := hv
  have hts := atoms_spec (ws := Cond.code y cc nL ret :: aw) Bd.pre
  have hl := lv_entry av (n := nL) hlen
  rw [lg_entry_eq]
  exact body p e s m below meth c ⟨Bd.exec, Bd.bytes, hml, findClass_of_methodNamed Bd.named, fun w hw => hts w (List.mem_cons_of_mem _ hw), hK, Bd.notSynchronized, fun q h => h.elim (hF q) (fun h => Nat.le_trans hB h), fun q h => Or.inr h⟩ Bd.returns htab hp _ [] hl va_S.rf
section ZC
variable {D : va_G} {E : Nat → ClassId} {B : Nat} {A : Nat → Prop} {p : Program} {l : Launch} {e : Env} {R : Room} {s : State} {m : MethodId} {args : Array Value} {below : List Frame} {meth : Method} {c : Code} {nL : Nat} {Q : State → Prop} {H : Heap} {k n pc : Nat} {lo lo' : List (Nat × Value)} {st : List Value} {cc : ByteArray} {own : String}
variable {F : Nat → Prop} {post : Option Value → Heap → Heap → Prop} {xpost : String → Heap → Heap → Prop} {mc ms : Nat}

theorem zs_iret (hE : zs_E D E B (zs_fr F s.heap.size) s m args meth c p cc nL own) (hr : meth.sig.returnType = some .int) {v : Int32} (hp : post (some (.int v)) s.heap H) (hc : k ≤ mc) (hs : n ≤ ms) (hd : decode cc pc = .ok (.ireturn, 1)) : zs_W (zs_fr F s.heap.size) p l e R s m args below meth c nL (MQ below (zs_Q F post s.heap.size) args s mc ms (zs_fr F s.heap.size)) H k n (pc) lo ([.int v]) := fun ls locs h1 h2 => W.widen hc hs (W.iret (v := v) hE.1 hE.2.1 hr (fun t ht hW => ⟨_, rfl, by rw [ht]; exact hp, h2.F ht⟩) h2.2.2 hd hE.2.2.2.2.2.2.1)
theorem zs_zret (hE : zs_E D E B (zs_fr F s.heap.size) s m args meth c p cc nL own) {ty : FieldType} {v : Int32} (hr : meth.sig.returnType = some ty) (hn : narrow ty (.int v) = .int v) (hp : post (some (.int v)) s.heap H) (hc : k ≤ mc) (hs : n ≤ ms) (hd : decode cc pc = .ok (.ireturn, 1)) : zs_W (zs_fr F s.heap.size) p l e R s m args below meth c nL (MQ below (zs_Q F post s.heap.size) args s mc ms (zs_fr F s.heap.size)) H k n (pc) lo ([.int v]) := fun ls locs h1 h2 => W.widen hc hs (W.zret (v := v) (ty := ty) hE.1 hE.2.1 hr hn (fun t ht hW => ⟨_, rfl, by rw [ht]; exact hp, h2.F ht⟩) h2.2.2 hd hE.2.2.2.2.2.2.1)
theorem zs_lret (hE : zs_E D E B (zs_fr F s.heap.size) s m args meth c p cc nL own) (hr : meth.sig.returnType = some .long) {v : Int64} (hp : post (some (.long v)) s.heap H) (hc : k ≤ mc) (hs : n ≤ ms) (hd : decode cc pc = .ok (.lreturn, 1)) : zs_W (zs_fr F s.heap.size) p l e R s m args below meth c nL (MQ below (zs_Q F post s.heap.size) args s mc ms (zs_fr F s.heap.size)) H k n (pc) lo ([.long v]) := fun ls locs h1 h2 => W.widen hc hs (W.lret (v := v) hE.1 hE.2.1 hr (fun t ht hW => ⟨_, rfl, by rw [ht]; exact hp, h2.F ht⟩) h2.2.2 hd hE.2.2.2.2.2.2.1)
theorem zs_fret (hE : zs_E D E B (zs_fr F s.heap.size) s m args meth c p cc nL own) (hr : meth.sig.returnType = some .float) {v : UInt32} (hp : post (some (.float v)) s.heap H) (hc : k ≤ mc) (hs : n ≤ ms) (hd : decode cc pc = .ok (.freturn, 1)) : zs_W (zs_fr F s.heap.size) p l e R s m args below meth c nL (MQ below (zs_Q F post s.heap.size) args s mc ms (zs_fr F s.heap.size)) H k n (pc) lo ([.float v]) := fun ls locs h1 h2 => W.widen hc hs (W.fret (v := v) hE.1 hE.2.1 hr (fun t ht hW => ⟨_, rfl, by rw [ht]; exact hp, h2.F ht⟩) h2.2.2 hd hE.2.2.2.2.2.2.1)
theorem zs_dret (hE : zs_E D E B (zs_fr F s.heap.size) s m args meth c p cc nL own) (hr : meth.sig.returnType = some .double) {v : UInt64} (hp : post (some (.double v)) s.heap H) (hc : k ≤ mc) (hs : n ≤ ms) (hd : decode cc pc = .ok (.dreturn, 1)) : zs_W (zs_fr F s.heap.size) p l e R s m args below meth c nL (MQ below (zs_Q F post s.heap.size) args s mc ms (zs_fr F s.heap.size)) H k n (pc) lo ([.double v]) := fun ls locs h1 h2 => W.widen hc hs (W.dret (v := v) hE.1 hE.2.1 hr (fun t ht hW => ⟨_, rfl, by rw [ht]; exact hp, h2.F ht⟩) h2.2.2 hd hE.2.2.2.2.2.2.1)
theorem zs_aret (hE : zs_E D E B (zs_fr F s.heap.size) s m args meth c p cc nL own) {rt : FieldType} {x : Option Nat} (hr : meth.sig.returnType = some rt) (hrt : (∃ n, rt = .object n) ∨ ∃ t, rt = .array t) (hp : post (some (va_rf x)) s.heap H) (hc : k ≤ mc) (hs : n ≤ ms) (hd : decode cc pc = .ok (.areturn, 1)) : zs_W (zs_fr F s.heap.size) p l e R s m args below meth c nL (MQ below (zs_Q F post s.heap.size) args s mc ms (zs_fr F s.heap.size)) H k n (pc) lo ([va_rf x]) := fun ls locs h1 h2 => W.widen hc hs (W.aret (v := va_rf x) (rt := rt) hE.1 hE.2.1 hr hrt (by cases x; exact Or.inl rfl; exact Or.inr ⟨_, rfl⟩) (fun t ht hW => ⟨_, rfl, by rw [ht]; exact hp, h2.F ht⟩) h2.2.2 hd hE.2.2.2.2.2.2.1)
theorem zs_vret (hE : zs_E D E B (zs_fr F s.heap.size) s m args meth c p cc nL own) (hr : meth.sig.returnType = none) (hp : post (none) s.heap H) (hc : k ≤ mc) (hs : n ≤ ms) (hd : decode cc pc = .ok (.return_, 1)) : zs_W (zs_fr F s.heap.size) p l e R s m args below meth c nL (MQ below (zs_Q F post s.heap.size) args s mc ms (zs_fr F s.heap.size)) H k n (pc) lo ([]) := fun ls locs h1 h2 => W.widen hc hs (W.vret hE.1 hE.2.1 hr (fun t ht hW => ⟨_, rfl, by rw [ht]; exact hp, h2.F ht⟩) h2.2.2 hd hE.2.2.2.2.2.2.1)
theorem zs_iretX (hE : zs_E D E B (zs_fr F s.heap.size) s m args meth c p cc nL own) (hr : meth.sig.returnType = some .int) {v : Int32} (hp : post (some (.int v)) s.heap H) (hc : k ≤ mc) (hs : n ≤ ms) (hd : decode cc pc = .ok (.ireturn, 1)) : zs_W (zs_fr F s.heap.size) p l e R s m args below meth c nL (vx_MQ below (zs_Q F post s.heap.size) (zs_X F xpost s.heap.size) args s mc ms (zs_fr F s.heap.size)) H k n (pc) lo ([.int v]) := fun ls locs h1 h2 => W.widen hc hs (vx_ret (W.iret (v := v) hE.1 hE.2.1 hr (fun t ht hW => ⟨_, rfl, by rw [ht]; exact hp, h2.F ht⟩) h2.2.2 hd hE.2.2.2.2.2.2.1))
theorem zs_zretX (hE : zs_E D E B (zs_fr F s.heap.size) s m args meth c p cc nL own) {ty : FieldType} {v : Int32} (hr : meth.sig.returnType = some ty) (hn : narrow ty (.int v) = .int v) (hp : post (some (.int v)) s.heap H) (hc : k ≤ mc) (hs : n ≤ ms) (hd : decode cc pc = .ok (.ireturn, 1)) : zs_W (zs_fr F s.heap.size) p l e R s m args below meth c nL (vx_MQ below (zs_Q F post s.heap.size) (zs_X F xpost s.heap.size) args s mc ms (zs_fr F s.heap.size)) H k n (pc) lo ([.int v]) := fun ls locs h1 h2 => W.widen hc hs (vx_ret (W.zret (v := v) (ty := ty) hE.1 hE.2.1 hr hn (fun t ht hW => ⟨_, rfl, by rw [ht]; exact hp, h2.F ht⟩) h2.2.2 hd hE.2.2.2.2.2.2.1))
theorem zs_lretX (hE : zs_E D E B (zs_fr F s.heap.size) s m args meth c p cc nL own) (hr : meth.sig.returnType = some .long) {v : Int64} (hp : post (some (.long v)) s.heap H) (hc : k ≤ mc) (hs : n ≤ ms) (hd : decode cc pc = .ok (.lreturn, 1)) : zs_W (zs_fr F s.heap.size) p l e R s m args below meth c nL (vx_MQ below (zs_Q F post s.heap.size) (zs_X F xpost s.heap.size) args s mc ms (zs_fr F s.heap.size)) H k n (pc) lo ([.long v]) := fun ls locs h1 h2 => W.widen hc hs (vx_ret (W.lret (v := v) hE.1 hE.2.1 hr (fun t ht hW => ⟨_, rfl, by rw [ht]; exact hp, h2.F ht⟩) h2.2.2 hd hE.2.2.2.2.2.2.1))
theorem zs_fretX (hE : zs_E D E B (zs_fr F s.heap.size) s m args meth c p cc nL own) (hr : meth.sig.returnType = some .float) {v : UInt32} (hp : post (some (.float v)) s.heap H) (hc : k ≤ mc) (hs : n ≤ ms) (hd : decode cc pc = .ok (.freturn, 1)) : zs_W (zs_fr F s.heap.size) p l e R s m args below meth c nL (vx_MQ below (zs_Q F post s.heap.size) (zs_X F xpost s.heap.size) args s mc ms (zs_fr F s.heap.size)) H k n (pc) lo ([.float v]) := fun ls locs h1 h2 => W.widen hc hs (vx_ret (W.fret (v := v) hE.1 hE.2.1 hr (fun t ht hW => ⟨_, rfl, by rw [ht]; exact hp, h2.F ht⟩) h2.2.2 hd hE.2.2.2.2.2.2.1))
theorem zs_dretX (hE : zs_E D E B (zs_fr F s.heap.size) s m args meth c p cc nL own) (hr : meth.sig.returnType = some .double) {v : UInt64} (hp : post (some (.double v)) s.heap H) (hc : k ≤ mc) (hs : n ≤ ms) (hd : decode cc pc = .ok (.dreturn, 1)) : zs_W (zs_fr F s.heap.size) p l e R s m args below meth c nL (vx_MQ below (zs_Q F post s.heap.size) (zs_X F xpost s.heap.size) args s mc ms (zs_fr F s.heap.size)) H k n (pc) lo ([.double v]) := fun ls locs h1 h2 => W.widen hc hs (vx_ret (W.dret (v := v) hE.1 hE.2.1 hr (fun t ht hW => ⟨_, rfl, by rw [ht]; exact hp, h2.F ht⟩) h2.2.2 hd hE.2.2.2.2.2.2.1))
theorem zs_aretX (hE : zs_E D E B (zs_fr F s.heap.size) s m args meth c p cc nL own) {rt : FieldType} {x : Option Nat} (hr : meth.sig.returnType = some rt) (hrt : (∃ n, rt = .object n) ∨ ∃ t, rt = .array t) (hp : post (some (va_rf x)) s.heap H) (hc : k ≤ mc) (hs : n ≤ ms) (hd : decode cc pc = .ok (.areturn, 1)) : zs_W (zs_fr F s.heap.size) p l e R s m args below meth c nL (vx_MQ below (zs_Q F post s.heap.size) (zs_X F xpost s.heap.size) args s mc ms (zs_fr F s.heap.size)) H k n (pc) lo ([va_rf x]) := fun ls locs h1 h2 => W.widen hc hs (vx_ret (W.aret (v := va_rf x) (rt := rt) hE.1 hE.2.1 hr hrt (by cases x; exact Or.inl rfl; exact Or.inr ⟨_, rfl⟩) (fun t ht hW => ⟨_, rfl, by rw [ht]; exact hp, h2.F ht⟩) h2.2.2 hd hE.2.2.2.2.2.2.1))
theorem zs_vretX (hE : zs_E D E B (zs_fr F s.heap.size) s m args meth c p cc nL own) (hr : meth.sig.returnType = none) (hp : post (none) s.heap H) (hc : k ≤ mc) (hs : n ≤ ms) (hd : decode cc pc = .ok (.return_, 1)) : zs_W (zs_fr F s.heap.size) p l e R s m args below meth c nL (vx_MQ below (zs_Q F post s.heap.size) (zs_X F xpost s.heap.size) args s mc ms (zs_fr F s.heap.size)) H k n (pc) lo ([]) := fun ls locs h1 h2 => W.widen hc hs (vx_ret (W.vret hE.1 hE.2.1 hr (fun t ht hW => ⟨_, rfl, by rw [ht]; exact hp, h2.F ht⟩) h2.2.2 hd hE.2.2.2.2.2.2.1))
theorem zs_after {F1 : Nat → Prop} {post1 : Option Value → Heap → Heap → Prop} {ls : Array Slot} {locs : List Loc} {st0 : List Value} {a : Array Value} (hr : va_Run p l e R s m args below meth c H locs k n mc ms (F0 m pc ls st0) st (zs_Q F1 post1 H.size a) (zs_fr F1 H.size)) (hS : va_S A s.heap H locs) (hF : ∀ q, F1 q → A q) (hA : ∀ q, s.heap.size ≤ q → A q)
    (K : ∀ (v : Option Value) (H1 : Heap), post1 v H H1 → H.size ≤ H1.size → (∀ q, q < H.size → ¬ F1 q → H1[q]? = H[q]?) → ∀ locs1, va_S A s.heap H1 locs1 → W p l e R s m args below meth c H1 locs1 (k + mc) (n + ms) Q (F0 m (pc + 3) ls (v.toList ++ st))) : W p l e R s m args below meth c H locs k n Q (F0 m pc ls st0) := by
  intro T hT X
  obtain ⟨v, st₀, t, T', L, h0, X', hL, e1, e2, ⟨v', hv, hp, hz, hk⟩, sg⟩ := hr T hT X
  cases hv
  rw [h0] at hp hz hk
  rw [← e1] at hp hz hk
  have hfA : ∀ q, zs_fr F1 H.size q → A q := fun q h => h.elim (hF q) (fun h => hA q (Nat.le_trans hS.1 h))
  obtain ⟨t2, a1, b1⟩ := K v T'.heap hp hz (fun q h1 h2 => hk q h1 (fun h => h.elim h2 (fun h => by omega))) (locs ++ L)
    ⟨Nat.le_trans hS.1 hz, fun q h1 h2 => by rw [hk q (Nat.lt_of_lt_of_le h1 hS.1) (fun z => h2 (hfA q z))]; exact hS.2.1 q h1 h2, fun q hq => by
      rcases List.mem_append.mp hq with h | h
      · exact hS.2.2 q h
      · exact hfA _ (hL q h)⟩ T' rfl X'
  exact ⟨t2, sg t2 a1, b1⟩
/-- a static call's site; a virtual call's; a constructor's; the same through the nest -/
def zs_sS (own : String) (idx : Nat) (y : MethodName) (bytes : ByteArray) (nL : Nat) (ret : Option FieldType) (n : Nat) : Prop := Cond.methodLink own idx y ∈ aw ∧ Cond.static y ∈ aw ∧ Cond.initialized y.cls ∈ aw ∧ Cond.code y bytes nL ret ∈ aw ∧ (y.cls ≠ "java/lang/invoke/MethodHandle" ∧ y.cls ≠ "java/lang/invoke/VarHandle" ∧ (parseMethodDescriptor y.desc).map (fun d => d.parameters.length) = some n)
def zs_sV (own : String) (idx : Nat) (y : MethodName) (bytes : ByteArray) (nL : Nat) (ret : Option FieldType) (n : Nat) : Prop := Cond.methodLink own idx y ∈ aw ∧ Cond.instanceMethod y ∈ aw ∧ Cond.selects y.cls y y ∈ aw ∧ Cond.initialized y.cls ∈ aw ∧ Cond.code y bytes nL ret ∈ aw ∧ (y.cls ≠ "java/lang/invoke/MethodHandle" ∧ y.cls ≠ "java/lang/invoke/VarHandle" ∧ (parseMethodDescriptor y.desc).map (fun d => d.parameters.length) = some n)
def zs_sI (own : String) (idx : Nat) (y : MethodName) (bytes : ByteArray) (nL : Nat) (n : Nat) : Prop := Cond.methodLink own idx y ∈ aw ∧ Cond.instanceMethod y ∈ aw ∧ Cond.initialized y.cls ∈ aw ∧ Cond.code y bytes nL none ∈ aw ∧ y.name = "<init>" ∧ (y.cls ≠ "java/lang/invoke/MethodHandle" ∧ y.cls ≠ "java/lang/invoke/VarHandle" ∧ (parseMethodDescriptor y.desc).map (fun d => d.parameters.length) = some n)
def zs_sSN (own : String) (idx : Nat) (y : MethodName) (host : String) (bytes : ByteArray) (nL : Nat) (ret : Option FieldType) (n : Nat) : Prop := Cond.methodLinkNest own idx y host ∈ zs_nw ∧ Cond.static y ∈ aw ∧ Cond.initialized y.cls ∈ aw ∧ Cond.code y bytes nL ret ∈ aw ∧ (y.cls ≠ "java/lang/invoke/MethodHandle" ∧ y.cls ≠ "java/lang/invoke/VarHandle" ∧ (parseMethodDescriptor y.desc).map (fun d => d.parameters.length) = some n)
def zs_sIN (own : String) (idx : Nat) (y : MethodName) (host : String) (bytes : ByteArray) (nL : Nat) (n : Nat) : Prop := Cond.methodLinkNest own idx y host ∈ zs_nw ∧ Cond.instanceMethod y ∈ aw ∧ Cond.initialized y.cls ∈ aw ∧ Cond.code y bytes nL none ∈ aw ∧ y.name = "<init>" ∧ (y.cls ≠ "java/lang/invoke/MethodHandle" ∧ y.cls ≠ "java/lang/invoke/VarHandle" ∧ (parseMethodDescriptor y.desc).map (fun d => d.parameters.length) = some n)
theorem zs_gS {own : String} {idx : Nat} {y : MethodName} {w0 : Cond} (h1 : Cond.methodLink own idx y ∈ aw) (h2 : Cond.static y ∈ aw) (h3 : Cond.initialized y.cls ∈ aw) (h4 : w0 ∈ aw) : GoodIn aw (va_wsS own idx y (w0 :: aw)) := aw_gc h1 (aw_gc h2 (aw_gc h3 (aw_gi w0 h4)))
theorem zs_gV {own : String} {idx : Nat} {y : MethodName} {w0 : Cond} (h1 : Cond.methodLink own idx y ∈ aw) (h2 : Cond.instanceMethod y ∈ aw) (h5 : Cond.selects y.cls y y ∈ aw) (h3 : Cond.initialized y.cls ∈ aw) (h4 : w0 ∈ aw) : GoodIn aw (wsV own idx y.cls y (w0 :: aw)) := aw_gc h1 (aw_gc h2 (aw_gc h5 (aw_gc h3 (aw_gi w0 h4))))

theorem zs_callS (hE : zs_E D E B A s m args meth c p cc nL own) {y : MethodName} {bytes : ByteArray} {nL2 idx : Nat} {ret : Option FieldType} {rm : Room} {av : List Value} {pre : Heap → Prop} {F1 : Nat → Prop} {post1 : Option Value → Heap → Heap → Prop} (hM : zs_Ct D E B l y bytes nL2 ret rm av pre F1 post1) (hs : zs_sS own idx y bytes nL2 ret av.length) (hpre : pre H) (hR : rm.frames + 1 ≤ R.frames ∧ 8 + (nL2 + 11) + rm.locals ≤ R.locals) (hcell : k + rm.cells ≤ R.cells ∧ n + rm.slots ≤ R.slots) (hF : ∀ q, F1 q → A q) (hst : (st.map fun v => v.category).sum ≤ 8) (hd : decode cc pc = .ok (.invokestatic idx, 3)) (K : ∀ (v : Option Value) (H1 : Heap), post1 v H H1 → H.size ≤ H1.size → (∀ q, q < H.size → ¬ F1 q → H1[q]? = H[q]?) → zs_W A p l e R s m args below meth c nL Q H1 (k + rm.cells) (n + rm.slots) (pc + 3) lo (v.toList ++ st)) : zs_W A p l e R s m args below meth c nL Q H k n (pc) lo (av.reverse ++ st) := fun ls locs h1 h2 => by
  have hts := hE.2.2.2.2.1
  have hK := hE.2.2.2.2.2.1
  have hAB := hE.2.2.2.2.2.2.2.1
  have hAs := hE.2.2.2.2.2.2.2.2
  have hM := hM H.size (Nat.le_trans hK.2.2.2.1 h2.1) (fun q h => hAB q (hF q h))
  have hpc : FrameBlind (zs_P D E B av pre H.size) ∧ ∀ U : State, U.heap = H → s.WarmedH U.vm → zs_P D E B av pre H.size (av).toArray U := ⟨zs_blind D E B _ pre _, fun U hU hW => zs_hold hK hAB h2 hpre hU hW⟩
  obtain ⟨s1, s2, s3, s4, s5⟩ := hs
  have hr := va_runS (e := e) (below := below) (meth := meth) (locs := locs) (As := av) (rest := st) (g := F0 m pc ls (av.reverse ++ st)) ⟨hE.1, hE.2.1, hE.2.2.1, hE.2.2.2.1, hts⟩ hM (va_cwS av.length hts (zs_gS s1 s2 s3 s4) rfl rfl rfl s5 hR) hpc rfl rfl h1.1 rfl (lv_room hst) hd hcell
  exact zs_after hr h2 hF hAs (fun v H1 a1 a2 a3 locs1 a4 => K v H1 a1 a2 a3 ls locs1 h1 a4)
theorem zs_callV (hE : zs_E D E B A s m args meth c p cc nL own) {y : MethodName} {bytes : ByteArray} {nL2 idx : Nat} {ret : Option FieldType} {rm : Room} {av : List Value} {pre : Heap → Prop} {F1 : Nat → Prop} {post1 : Option Value → Heap → Heap → Prop} {b ci : Nat} {fs : List Value} {r : vw_C} (hM : zs_Ct D E B l y bytes nL2 ret rm (.ref b :: av) pre F1 post1) (hs : zs_sV own idx y bytes nL2 ret av.length) (hrecv : zs_pt D b (.inr (ci, fs)) H) (hci : zs_C[ci]? = some r) (hrn : r.1 = y.cls) (hpre : pre H) (hR : rm.frames + 1 ≤ R.frames ∧ 8 + (nL2 + 11) + rm.locals ≤ R.locals) (hcell : k + rm.cells ≤ R.cells ∧ n + rm.slots ≤ R.slots) (hF : ∀ q, F1 q → A q) (hst : (st.map fun v => v.category).sum ≤ 8) (hd : decode cc pc = .ok (.invokevirtual idx, 3)) (K : ∀ (v : Option Value) (H1 : Heap), post1 v H H1 → H.size ≤ H1.size → (∀ q, q < H.size → ¬ F1 q → H1[q]? = H[q]?) → zs_W A p l e R s m args below meth c nL Q H1 (k + rm.cells) (n + rm.slots) (pc + 3) lo (v.toList ++ st)) : zs_W A p l e R s m args below meth c nL Q H k n (pc) lo (av.reverse ++ .ref b :: st) := fun ls locs h1 h2 => by
  have hts := hE.2.2.2.2.1
  have hK := hE.2.2.2.2.2.1
  have hAB := hE.2.2.2.2.2.2.2.1
  have hAs := hE.2.2.2.2.2.2.2.2
  have hM := hM H.size (Nat.le_trans hK.2.2.2.1 h2.1) (fun q h => hAB q (hF q h))
  have hpc : FrameBlind (zs_P D E B (.ref b :: av) pre H.size) ∧ ∀ U : State, U.heap = H → s.WarmedH U.vm → zs_P D E B (.ref b :: av) pre H.size (Value.ref b :: av).toArray U := ⟨zs_blind D E B _ pre _, fun U hU hW => zs_hold hK hAB h2 hpre hU hW⟩
  obtain ⟨s1, s2, s3, s4, s5, s6⟩ := hs
  have hrc := va_recv hK.1 hrecv.P (q0 := 0) hci rfl
  rw [hrn] at hrc
  have hr := va_runV (e := e) (below := below) (meth := meth) (locs := locs) (As := av) (rest := st) (g := F0 m pc ls (av.reverse ++ .ref b :: st)) ⟨hE.1, hE.2.1, hE.2.2.1, hE.2.2.2.1, hts⟩ hM (cwV av.length hts (zs_gV s1 s2 s3 s4 s5) rfl rfl rfl ⟨rfl, s6⟩ hR) ⟨hpc.1, hrc, hpc.2⟩ rfl rfl h1.1 rfl (lv_room hst) hd hcell
  exact zs_after hr h2 hF hAs (fun v H1 a1 a2 a3 locs1 a4 => K v H1 a1 a2 a3 ls locs1 h1 a4)
theorem zs_callI (hE : zs_E D E B A s m args meth c p cc nL own) {y : MethodName} {bytes : ByteArray} {nL2 idx : Nat} {ret : Option FieldType} {rm : Room} {av : List Value} {pre : Heap → Prop} {F1 : Nat → Prop} {post1 : Option Value → Heap → Heap → Prop} {b : Nat} (hM : zs_Ct D E B l y bytes nL2 none rm (.ref b :: av) pre F1 post1) (hs : zs_sI own idx y bytes nL2 av.length) (hpre : pre H) (hR : rm.frames + 1 ≤ R.frames ∧ 8 + (nL2 + 11) + rm.locals ≤ R.locals) (hcell : k + rm.cells ≤ R.cells ∧ n + rm.slots ≤ R.slots) (hF : ∀ q, F1 q → A q) (hst : (st.map fun v => v.category).sum ≤ 8) (hd : decode cc pc = .ok (.invokespecial idx, 3)) (K : ∀ (v : Option Value) (H1 : Heap), post1 v H H1 → H.size ≤ H1.size → (∀ q, q < H.size → ¬ F1 q → H1[q]? = H[q]?) → zs_W A p l e R s m args below meth c nL Q H1 (k + rm.cells) (n + rm.slots) (pc + 3) lo (v.toList ++ st)) : zs_W A p l e R s m args below meth c nL Q H k n (pc) lo (av.reverse ++ .ref b :: st) := fun ls locs h1 h2 => by
  have hts := hE.2.2.2.2.1
  have hK := hE.2.2.2.2.2.1
  have hAB := hE.2.2.2.2.2.2.2.1
  have hAs := hE.2.2.2.2.2.2.2.2
  have hM := hM H.size (Nat.le_trans hK.2.2.2.1 h2.1) (fun q h => hAB q (hF q h))
  have hpc : FrameBlind (zs_P D E B (.ref b :: av) pre H.size) ∧ ∀ U : State, U.heap = H → s.WarmedH U.vm → zs_P D E B (.ref b :: av) pre H.size (Value.ref b :: av).toArray U := ⟨zs_blind D E B _ pre _, fun U hU hW => zs_hold hK hAB h2 hpre hU hW⟩
  obtain ⟨s1, s2, s3, s4, s5, s6⟩ := hs
  have hr := va_runI (e := e) (below := below) (meth := meth) (locs := locs) (As := av) (rest := st) (g := F0 m pc ls (av.reverse ++ .ref b :: st)) ⟨hE.1, hE.2.1, hE.2.2.1, hE.2.2.2.1, hts⟩ hM (cwI av.length hts (aw_gi _ s4) rfl rfl rfl (hts _ s3) (hts _ s1) (hts _ s2) s5 s6 hR) hpc rfl rfl h1.1 rfl (lv_room hst) hd hcell
  exact zs_after hr h2 hF hAs (fun v H1 a1 a2 a3 locs1 a4 => K v H1 a1 a2 a3 ls locs1 h1 a4)
theorem zs_callSN (hE : zs_E D E B A s m args meth c p cc nL own) {y : MethodName} {bytes : ByteArray} {nL2 idx : Nat} {ret : Option FieldType} {rm : Room} {av : List Value} {pre : Heap → Prop} {F1 : Nat → Prop} {post1 : Option Value → Heap → Heap → Prop} {host : String} (hM : zs_Ct D E B l y bytes nL2 ret rm av pre F1 post1) (hs : zs_sSN own idx y host bytes nL2 ret av.length) (hpre : pre H) (hR : rm.frames + 1 ≤ R.frames ∧ 8 + (nL2 + 11) + rm.locals ≤ R.locals) (hcell : k + rm.cells ≤ R.cells ∧ n + rm.slots ≤ R.slots) (hF : ∀ q, F1 q → A q) (hst : (st.map fun v => v.category).sum ≤ 8) (hd : decode cc pc = .ok (.invokestatic idx, 3)) (K : ∀ (v : Option Value) (H1 : Heap), post1 v H H1 → H.size ≤ H1.size → (∀ q, q < H.size → ¬ F1 q → H1[q]? = H[q]?) → zs_W A p l e R s m args below meth c nL Q H1 (k + rm.cells) (n + rm.slots) (pc + 3) lo (v.toList ++ st)) : zs_W A p l e R s m args below meth c nL Q H k n (pc) lo (av.reverse ++ st) := fun ls locs h1 h2 => by
  have hts := hE.2.2.2.2.1
  have hK := hE.2.2.2.2.2.1
  have hAB := hE.2.2.2.2.2.2.2.1
  have hAs := hE.2.2.2.2.2.2.2.2
  have hM := hM H.size (Nat.le_trans hK.2.2.2.1 h2.1) (fun q h => hAB q (hF q h))
  have hpc : FrameBlind (zs_P D E B av pre H.size) ∧ ∀ U : State, U.heap = H → s.WarmedH U.vm → zs_P D E B av pre H.size (av).toArray U := ⟨zs_blind D E B _ pre _, fun U hU hW => zs_hold hK hAB h2 hpre hU hW⟩
  obtain ⟨s1, s2, s3, s4, s5⟩ := hs
  have hr := va_runSN (e := e) (below := below) (meth := meth) (locs := locs) (As := av) (rest := st) (g := F0 m pc ls (av.reverse ++ st)) ⟨hE.1, hE.2.1, hE.2.2.1, hE.2.2.2.1, hts⟩ hM ⟨va_cnB (host := host) av.length hts (aw_gi _ s4) rfl rfl rfl (hK.2.2.1 _ s1) (hts _ s3) s5 hR, hts _ s2, trivial⟩ hpc rfl rfl h1.1 rfl (lv_room hst) hd hcell
  exact zs_after hr h2 hF hAs (fun v H1 a1 a2 a3 locs1 a4 => K v H1 a1 a2 a3 ls locs1 h1 a4)
theorem zs_callIN (hE : zs_E D E B A s m args meth c p cc nL own) {y : MethodName} {bytes : ByteArray} {nL2 idx : Nat} {ret : Option FieldType} {rm : Room} {av : List Value} {pre : Heap → Prop} {F1 : Nat → Prop} {post1 : Option Value → Heap → Heap → Prop} {host : String} {b : Nat} (hM : zs_Ct D E B l y bytes nL2 none rm (.ref b :: av) pre F1 post1) (hs : zs_sIN own idx y host bytes nL2 av.length) (hpre : pre H) (hR : rm.frames + 1 ≤ R.frames ∧ 8 + (nL2 + 11) + rm.locals ≤ R.locals) (hcell : k + rm.cells ≤ R.cells ∧ n + rm.slots ≤ R.slots) (hF : ∀ q, F1 q → A q) (hst : (st.map fun v => v.category).sum ≤ 8) (hd : decode cc pc = .ok (.invokespecial idx, 3)) (K : ∀ (v : Option Value) (H1 : Heap), post1 v H H1 → H.size ≤ H1.size → (∀ q, q < H.size → ¬ F1 q → H1[q]? = H[q]?) → zs_W A p l e R s m args below meth c nL Q H1 (k + rm.cells) (n + rm.slots) (pc + 3) lo (v.toList ++ st)) : zs_W A p l e R s m args below meth c nL Q H k n (pc) lo (av.reverse ++ .ref b :: st) := fun ls locs h1 h2 => by
  have hts := hE.2.2.2.2.1
  have hK := hE.2.2.2.2.2.1
  have hAB := hE.2.2.2.2.2.2.2.1
  have hAs := hE.2.2.2.2.2.2.2.2
  have hM := hM H.size (Nat.le_trans hK.2.2.2.1 h2.1) (fun q h => hAB q (hF q h))
  have hpc : FrameBlind (zs_P D E B (.ref b :: av) pre H.size) ∧ ∀ U : State, U.heap = H → s.WarmedH U.vm → zs_P D E B (.ref b :: av) pre H.size (Value.ref b :: av).toArray U := ⟨zs_blind D E B _ pre _, fun U hU hW => zs_hold hK hAB h2 hpre hU hW⟩
  obtain ⟨s1, s2, s3, s4, s5, s6⟩ := hs
  have hr := va_runIN (e := e) (below := below) (meth := meth) (locs := locs) (As := av) (rest := st) (g := F0 m pc ls (av.reverse ++ .ref b :: st)) ⟨hE.1, hE.2.1, hE.2.2.1, hE.2.2.2.1, hts⟩ hM ⟨va_cnB (host := host) av.length hts (aw_gi _ s4) rfl rfl rfl (hK.2.2.1 _ s1) (hts _ s3) s6 hR, s5, hts _ s2⟩ hpc rfl rfl h1.1 rfl (lv_room hst) hd hcell
  exact zs_after hr h2 hF hAs (fun v H1 a1 a2 a3 locs1 a4 => K v H1 a1 a2 a3 ls locs1 h1 a4)
abbrev zs_ro (val : Value) : Option Value → Heap → Heap → Prop := fun v H H1 => v = some val ∧ H1 = H
abbrev zs_N : Nat → Prop := fun _ => False
theorem zs_F0 {A : Nat → Prop} : ∀ q, zs_N q → A q := fun _ h => h.elim
theorem zs_callSR (hE : zs_E D E B A s m args meth c p cc nL own) {y : MethodName} {bytes : ByteArray} {nL2 idx : Nat} {ret : Option FieldType} {rm : Room} {av : List Value} {pre : Heap → Prop} {val : Value} (hM : zs_Ct D E B l y bytes nL2 ret rm av pre zs_N (zs_ro val)) (h0 : rm.cells = 0) (h00 : rm.slots = 0) (hs : zs_sS own idx y bytes nL2 ret av.length) (hpre : pre H) (hR : rm.frames + 1 ≤ R.frames ∧ 8 + (nL2 + 11) + rm.locals ≤ R.locals) (hcell : k ≤ R.cells ∧ n ≤ R.slots) (hst : (st.map fun v => v.category).sum ≤ 8) (hd : decode cc pc = .ok (.invokestatic idx, 3)) (K : zs_W A p l e R s m args below meth c nL Q H k n (pc + 3) lo (val :: st)) : zs_W A p l e R s m args below meth c nL Q H k n (pc) lo (av.reverse ++ st) := zs_callS hE hM hs hpre hR (by rw [h0, h00]; exact hcell) zs_F0 hst hd (fun v H1 q _ _ => by obtain ⟨rfl, rfl⟩ := q; rw [h0, h00]; exact K)
theorem zs_callVR (hE : zs_E D E B A s m args meth c p cc nL own) {y : MethodName} {bytes : ByteArray} {nL2 idx : Nat} {ret : Option FieldType} {rm : Room} {av : List Value} {pre : Heap → Prop} {val : Value} {b ci : Nat} {fs : List Value} {r : vw_C} (hM : zs_Ct D E B l y bytes nL2 ret rm (.ref b :: av) pre zs_N (zs_ro val)) (h0 : rm.cells = 0) (h00 : rm.slots = 0) (hs : zs_sV own idx y bytes nL2 ret av.length) (hrecv : zs_pt D b (.inr (ci, fs)) H) (hci : zs_C[ci]? = some r) (hrn : r.1 = y.cls) (hpre : pre H) (hR : rm.frames + 1 ≤ R.frames ∧ 8 + (nL2 + 11) + rm.locals ≤ R.locals) (hcell : k ≤ R.cells ∧ n ≤ R.slots) (hst : (st.map fun v => v.category).sum ≤ 8) (hd : decode cc pc = .ok (.invokevirtual idx, 3)) (K : zs_W A p l e R s m args below meth c nL Q H k n (pc + 3) lo (val :: st)) : zs_W A p l e R s m args below meth c nL Q H k n (pc) lo (av.reverse ++ .ref b :: st) := zs_callV hE hM hs hrecv hci hrn hpre hR (by rw [h0, h00]; exact hcell) zs_F0 hst hd (fun v H1 q _ _ => by obtain ⟨rfl, rfl⟩ := q; rw [h0, h00]; exact K)
theorem zs_callSNR (hE : zs_E D E B A s m args meth c p cc nL own) {y : MethodName} {bytes : ByteArray} {nL2 idx : Nat} {ret : Option FieldType} {rm : Room} {av : List Value} {pre : Heap → Prop} {val : Value} {host : String} (hM : zs_Ct D E B l y bytes nL2 ret rm av pre zs_N (zs_ro val)) (h0 : rm.cells = 0) (h00 : rm.slots = 0) (hs : zs_sSN own idx y host bytes nL2 ret av.length) (hpre : pre H) (hR : rm.frames + 1 ≤ R.frames ∧ 8 + (nL2 + 11) + rm.locals ≤ R.locals) (hcell : k ≤ R.cells ∧ n ≤ R.slots) (hst : (st.map fun v => v.category).sum ≤ 8) (hd : decode cc pc = .ok (.invokestatic idx, 3)) (K : zs_W A p l e R s m args below meth c nL Q H k n (pc + 3) lo (val :: st)) : zs_W A p l e R s m args below meth c nL Q H k n (pc) lo (av.reverse ++ st) := zs_callSN hE hM hs hpre hR (by rw [h0, h00]; exact hcell) zs_F0 hst hd (fun v H1 q _ _ => by obtain ⟨rfl, rfl⟩ := q; rw [h0, h00]; exact K)
/-- a throw's site: the class, its pool entries, what the tables say -/
def zs_thr (own cls text : String) (names : List String) (ik is ic : Nat) : Prop := Bundle.fit cls = true ∧ (∀ n ∈ names, Bundle.fit n = true) ∧ Cond.classLink own ik cls ∈ aw ∧ Cond.initialized cls ∈ aw ∧ (is, text) ∈ zs_str ∧ own = RX6 ∧ (∀ w ∈ (vx_atS own ic cls names).filter goodWord, w ∈ aw) ∧ (∀ w ∈ (vx_atS own ic cls names).filter (fun w => !goodWord w), w ∈ zs_nw) ∧ (∀ w ∈ Cond.classLink own ik cls :: Cond.initialized cls :: vx_atS own ic cls names, vx_ot w = true)
theorem zs_throw (hE : zs_E D E B (zs_fr F s.heap.size) s m args meth c p cc nL own) {cls text : String} {names : List String} {ik is ic : Nat} (hl : l.stackTraces = false) (htab : ∀ x ∈ c.exceptionTable.toList, False) (hs : zs_thr own cls text names ik is ic)
    (d0 : decode cc pc = .ok (.new ik, 3)) (d3 : decode cc (pc + 3) = .ok (.dup, 1)) (d4 : decode cc (pc + 4) = .ok (.ldc is, 2)) (d6 : decode cc (pc + 6) = .ok (.invokespecial ic, 3)) (d9 : decode cc (pc + 9) = .ok (.athrow, 1))
    (hRf : names.length + 3 < R.frames) (hRl : (st.map fun v => v.category).sum + (13 * (names.length + 1) + 43) ≤ R.locals) (hRc : k + 1 ≤ R.cells) (hRs : n + 6 ≤ R.slots)
    (hx : ∀ H1 : Heap, H.size ≤ H1.size → (∀ q, q < H.size → H1[q]? = H[q]?) → xpost cls s.heap H1) (hc : k + 1 ≤ mc) (hm : n + 6 ≤ ms) : zs_W (zs_fr F s.heap.size) p l e R s m args below meth c nL (vx_MQ below (zs_Q F post s.heap.size) (zs_X F xpost s.heap.size) args s mc ms (zs_fr F s.heap.size)) H k n (pc) lo (st) := fun ls locs h1 h2 => by
  have hts := hE.2.2.2.2.1
  have hK := hE.2.2.2.2.2.1
  obtain ⟨f1, f2, f3, f4, f5, f6, f7, f8, f9⟩ := hs
  subst f6
  obtain ⟨sa, hsa⟩ := hK.2.1 _ f5
  refine vx_throwS (names := names) (cls := cls) (text := text) (sa := sa) (A := zs_fr F s.heap.size) hE.1 hE.2.1 hl hE.2.2.2.1 f1 f2 (hts _ f3) (hts _ f4) hsa (fun w hw => ?_) f9 (vx_Zq.narrow hK.2.2.2.2.1 hE.2.2.2.2.2.2.2.1) (vx_Zq.narrow hK.2.2.2.2.2.1 hE.2.2.2.2.2.2.2.1) h2 (h1.1.trans hE.2.2.1.symm) d0 d3 d4 d6 d9 (fun x hx => (htab x hx).elim) hRf hRl hRc hRs hE.2.2.2.2.2.2.1 (fun t _ z o => ⟨hx t.heap z o, ?_⟩) h2.2.2 hc hm
  · by_cases g : goodWord w = true
    · exact hts _ (f7 w (List.mem_filter.mpr ⟨hw, g⟩))
    · have g2 : w ∈ zs_nw := f8 w (List.mem_filter.mpr ⟨hw, by simpa using g⟩)
      have g3 := hK.2.2.1 w g2
      have g4 := zs_nw_ok w g2
      cases w <;> first | (simp [zs_nok] at g4; done) | exact va_Nw.use rfl g3
  · exact ⟨Nat.le_trans h2.1 z, fun q q1 q2 => (o q (Nat.lt_of_lt_of_le q1 h2.1)).trans (h2.2.1 q q1 q2)⟩
theorem zs_throwW (hE : zs_E D E B (zs_fr F s.heap.size) s m args meth c p cc nL own) {cls text : String} {names : List String} {ik is ic : Nat} (hl : l.stackTraces = false) (htab : ∀ x ∈ c.exceptionTable.toList, False) (hs : zs_thr own cls text names ik is ic)
    (d0 : decode cc pc = .ok (.new ik, 3)) (d3 : decode cc (pc + 3) = .ok (.dup, 1)) (d4 : decode cc (pc + 4) = .ok (.ldc_w is, 3)) (d6 : decode cc (pc + 7) = .ok (.invokespecial ic, 3)) (d9 : decode cc (pc + 10) = .ok (.athrow, 1))
    (hRf : names.length + 3 < R.frames) (hRl : (st.map fun v => v.category).sum + (13 * (names.length + 1) + 43) ≤ R.locals) (hRc : k + 1 ≤ R.cells) (hRs : n + 6 ≤ R.slots)
    (hx : ∀ H1 : Heap, H.size ≤ H1.size → (∀ q, q < H.size → H1[q]? = H[q]?) → xpost cls s.heap H1) (hc : k + 1 ≤ mc) (hm : n + 6 ≤ ms) : zs_W (zs_fr F s.heap.size) p l e R s m args below meth c nL (vx_MQ below (zs_Q F post s.heap.size) (zs_X F xpost s.heap.size) args s mc ms (zs_fr F s.heap.size)) H k n (pc) lo (st) := fun ls locs h1 h2 => by
  have hts := hE.2.2.2.2.1
  have hK := hE.2.2.2.2.2.1
  obtain ⟨f1, f2, f3, f4, f5, f6, f7, f8, f9⟩ := hs
  subst f6
  obtain ⟨sa, hsa⟩ := hK.2.1 _ f5
  refine vx_throwSW (names := names) (cls := cls) (text := text) (sa := sa) (A := zs_fr F s.heap.size) hE.1 hE.2.1 hl hE.2.2.2.1 f1 f2 (hts _ f3) (hts _ f4) hsa (fun w hw => ?_) f9 (vx_Zq.narrow hK.2.2.2.2.1 hE.2.2.2.2.2.2.2.1) (vx_Zq.narrow hK.2.2.2.2.2.1 hE.2.2.2.2.2.2.2.1) h2 (h1.1.trans hE.2.2.1.symm) d0 d3 d4 d6 d9 (fun x hx => (htab x hx).elim) hRf hRl hRc hRs hE.2.2.2.2.2.2.1 (fun t _ z o => ⟨hx t.heap z o, ?_⟩) h2.2.2 hc hm
  · by_cases g : goodWord w = true
    · exact hts _ (f7 w (List.mem_filter.mpr ⟨hw, g⟩))
    · have g2 : w ∈ zs_nw := f8 w (List.mem_filter.mpr ⟨hw, by simpa using g⟩)
      have g3 := hK.2.2.1 w g2
      have g4 := zs_nw_ok w g2
      cases w <;> first | (simp [zs_nok] at g4; done) | exact va_Nw.use rfl g3
  · exact ⟨Nat.le_trans h2.1 z, fun q q1 q2 => (o q (Nat.lt_of_lt_of_le q1 h2.1)).trans (h2.2.1 q q1 q2)⟩
end ZC
end
section
theorem uin_X0 : ∀ w ∈ u_ws RX0 TX0 3, w ∈ aw := by decide +kernel
theorem uin_X1 : ∀ w ∈ u_ws RX1 TX1 3, w ∈ aw := by decide +kernel
theorem uin_X2 : ∀ w ∈ u_ws RX2 TX2 3, w ∈ aw := by decide +kernel
theorem uin_X3 : ∀ w ∈ u_ws RX3 TX3 2, w ∈ aw := by decide +kernel
theorem uin_X4 : ∀ w ∈ u_ws RX4 TX4 2, w ∈ aw := by decide +kernel
theorem uin_X5 : ∀ w ∈ u_ws RX5 TX5 5, w ∈ aw := by decide +kernel
theorem uin_X6 : ∀ w ∈ u_ws RX6 TX6 9, w ∈ aw := by decide +kernel
theorem uin_X7 : ∀ w ∈ u_ws RX7 TX7 21, w ∈ aw := by decide +kernel
theorem q_objI : Cond.instanceMethod Lib.objectInit ∈ aw := aw_i 78 (by decide +kernel) (by decide +kernel)
theorem q_objC : Cond.code Lib.objectInit ⟨#[0xb1]⟩ 1 none ∈ aw := aw_i 79 (by decide +kernel) (by decide +kernel)
theorem q_arr_int : Cond.arrayClass .int ∈ aw := aw_i 116 (by decide +kernel) (by decide +kernel)
theorem q_arr_char : Cond.arrayClass .char ∈ aw := aw_i 407 (by decide +kernel) (by decide +kernel)
theorem q_arr_boolean : Cond.arrayClass .boolean ∈ aw := aw_i 966 (by decide +kernel) (by decide +kernel)
theorem q_arr_long : Cond.arrayClass .long ∈ aw := aw_i 1216 (by decide +kernel) (by decide +kernel)
theorem q_arr_double : Cond.arrayClass .double ∈ aw := aw_i 1217 (by decide +kernel) (by decide +kernel)
theorem ol_X7_1 : Cond.methodLink RX7 1 Lib.objectInit ∈ aw := aw_i 900 (by decide +kernel) (by decide +kernel)
theorem fl_X7_7 : zs_fl RX7 7 7 0 (.int) false := ⟨_, _, _, tyX7, rfl, by decide, uin_X7, aw_i 902 (by decide +kernel) (by decide +kernel), tyX7_ok, nmX7, rfl, rfl⟩
theorem fl_X7_13 : zs_fl RX7 13 7 1 (.int) false := ⟨_, _, _, tyX7, rfl, by decide, uin_X7, aw_i 903 (by decide +kernel) (by decide +kernel), tyX7_ok, nmX7, rfl, rfl⟩
theorem fl_X7_16 : zs_fl RX7 16 7 2 (.int) false := ⟨_, _, _, tyX7, rfl, by decide, uin_X7, aw_i 904 (by decide +kernel) (by decide +kernel), tyX7_ok, nmX7, rfl, rfl⟩
theorem fl_X7_19 : zs_fl RX7 19 7 3 (.int) false := ⟨_, _, _, tyX7, rfl, by decide, uin_X7, aw_i 905 (by decide +kernel) (by decide +kernel), tyX7_ok, nmX7, rfl, rfl⟩
theorem fl_X7_22 : zs_fl RX7 22 7 4 (.int) false := ⟨_, _, _, tyX7, rfl, by decide, uin_X7, aw_i 906 (by decide +kernel) (by decide +kernel), tyX7_ok, nmX7, rfl, rfl⟩
theorem fl_X7_25 : zs_fl RX7 25 7 5 (.array (.int)) true := ⟨_, _, _, tyX7, rfl, by decide, uin_X7, aw_i 907 (by decide +kernel) (by decide +kernel), tyX7_ok, nmX7, rfl, rfl⟩
theorem fl_X7_29 : zs_fl RX7 29 7 6 (.array (.int)) true := ⟨_, _, _, tyX7, rfl, by decide, uin_X7, aw_i 908 (by decide +kernel) (by decide +kernel), tyX7_ok, nmX7, rfl, rfl⟩
theorem fl_X7_32 : zs_fl RX7 32 7 7 (.array (.int)) true := ⟨_, _, _, tyX7, rfl, by decide, uin_X7, aw_i 909 (by decide +kernel) (by decide +kernel), tyX7_ok, nmX7, rfl, rfl⟩
theorem fl_X7_35 : zs_fl RX7 35 7 8 (.array (.char)) true := ⟨_, _, _, tyX7, rfl, by decide, uin_X7, aw_i 910 (by decide +kernel) (by decide +kernel), tyX7_ok, nmX7, rfl, rfl⟩
theorem fl_X7_39 : zs_fl RX7 39 7 9 (.array (.int)) true := ⟨_, _, _, tyX7, rfl, by decide, uin_X7, aw_i 911 (by decide +kernel) (by decide +kernel), tyX7_ok, nmX7, rfl, rfl⟩
theorem fl_X7_42 : zs_fl RX7 42 7 10 (.array (.int)) true := ⟨_, _, _, tyX7, rfl, by decide, uin_X7, aw_i 912 (by decide +kernel) (by decide +kernel), tyX7_ok, nmX7, rfl, rfl⟩
theorem fl_X7_45 : zs_fl RX7 45 7 11 (.array (.int)) true := ⟨_, _, _, tyX7, rfl, by decide, uin_X7, aw_i 913 (by decide +kernel) (by decide +kernel), tyX7_ok, nmX7, rfl, rfl⟩
theorem k_X7_48 : Cond.constant RX7 48 (52480 : Int32) ∈ aw := aw_i 901 (by decide +kernel) (by decide +kernel)
theorem fl_X7_49 : zs_fl RX7 49 7 12 (.array (.int)) true := ⟨_, _, _, tyX7, rfl, by decide, uin_X7, aw_i 914 (by decide +kernel) (by decide +kernel), tyX7_ok, nmX7, rfl, rfl⟩
theorem fl_X7_52 : zs_fl RX7 52 7 13 (.array (.int)) true := ⟨_, _, _, tyX7, rfl, by decide, uin_X7, aw_i 915 (by decide +kernel) (by decide +kernel), tyX7_ok, nmX7, rfl, rfl⟩
theorem fl_X7_55 : zs_fl RX7 55 7 14 (.array (.int)) true := ⟨_, _, _, tyX7, rfl, by decide, uin_X7, aw_i 916 (by decide +kernel) (by decide +kernel), tyX7_ok, nmX7, rfl, rfl⟩
theorem fl_X7_58 : zs_fl RX7 58 7 15 (.array (.int)) true := ⟨_, _, _, tyX7, rfl, by decide, uin_X7, aw_i 917 (by decide +kernel) (by decide +kernel), tyX7_ok, nmX7, rfl, rfl⟩
theorem fl_X7_61 : zs_fl RX7 61 7 16 (.array (.boolean)) true := ⟨_, _, _, tyX7, rfl, by decide, uin_X7, aw_i 918 (by decide +kernel) (by decide +kernel), tyX7_ok, nmX7, rfl, rfl⟩
theorem fl_X7_65 : zs_fl RX7 65 7 17 (.array (.boolean)) true := ⟨_, _, _, tyX7, rfl, by decide, uin_X7, aw_i 919 (by decide +kernel) (by decide +kernel), tyX7_ok, nmX7, rfl, rfl⟩
theorem fl_X7_68 : zs_fl RX7 68 7 18 (.array (.int)) true := ⟨_, _, _, tyX7, rfl, by decide, uin_X7, aw_i 920 (by decide +kernel) (by decide +kernel), tyX7_ok, nmX7, rfl, rfl⟩
theorem fl_X7_71 : zs_fl RX7 71 7 19 (.array (.int)) true := ⟨_, _, _, tyX7, rfl, by decide, uin_X7, aw_i 921 (by decide +kernel) (by decide +kernel), tyX7_ok, nmX7, rfl, rfl⟩
theorem fl_X7_74 : zs_fl RX7 74 7 20 (.array (.int)) true := ⟨_, _, _, tyX7, rfl, by decide, uin_X7, aw_i 922 (by decide +kernel) (by decide +kernel), tyX7_ok, nmX7, rfl, rfl⟩
theorem sS_X7_77 : zs_sS RX7 77 yX7_in cX7_in 3 (some .boolean) 3 := ⟨aw_i 975 (by decide +kernel) (by decide +kernel), aw_i 976 (by decide +kernel) (by decide +kernel), aw_i 51 (by decide +kernel) (by decide +kernel), aw_i 977 (by decide +kernel) (by decide +kernel), ⟨by decide +kernel, by decide +kernel, by decide +kernel⟩⟩
theorem sV_X7_81 : zs_sV RX7 81 yX7_fails cX7_fails 2 (some .int) 1 := ⟨aw_i 978 (by decide +kernel) (by decide +kernel), aw_i 980 (by decide +kernel) (by decide +kernel), aw_i 22 (by decide +kernel) (by decide +kernel), aw_i 51 (by decide +kernel) (by decide +kernel), aw_i 981 (by decide +kernel) (by decide +kernel), ⟨by decide +kernel, by decide +kernel, by decide +kernel⟩⟩
theorem sV_X7_85 : zs_sV RX7 85 yX7_adds cX7_adds 4 (some .int) 3 := ⟨aw_i 982 (by decide +kernel) (by decide +kernel), aw_i 984 (by decide +kernel) (by decide +kernel), aw_i 23 (by decide +kernel) (by decide +kernel), aw_i 51 (by decide +kernel) (by decide +kernel), aw_i 985 (by decide +kernel) (by decide +kernel), ⟨by decide +kernel, by decide +kernel, by decide +kernel⟩⟩
theorem sV_X7_89 : zs_sV RX7 89 yX7_sheafAt cX7_sheafAt 3 (some .int) 2 := ⟨aw_i 986 (by decide +kernel) (by decide +kernel), aw_i 988 (by decide +kernel) (by decide +kernel), aw_i 24 (by decide +kernel) (by decide +kernel), aw_i 51 (by decide +kernel) (by decide +kernel), aw_i 989 (by decide +kernel) (by decide +kernel), ⟨by decide +kernel, by decide +kernel, by decide +kernel⟩⟩
theorem sV_X7_93 : zs_sV RX7 93 yX7_tells cX7_tells 2 (some .int) 1 := ⟨aw_i 990 (by decide +kernel) (by decide +kernel), aw_i 992 (by decide +kernel) (by decide +kernel), aw_i 25 (by decide +kernel) (by decide +kernel), aw_i 51 (by decide +kernel) (by decide +kernel), aw_i 993 (by decide +kernel) (by decide +kernel), ⟨by decide +kernel, by decide +kernel, by decide +kernel⟩⟩
theorem sV_X7_96 : zs_sV RX7 96 yX7_isPiece cX7_isPiece 2 (some .boolean) 1 := ⟨aw_i 998 (by decide +kernel) (by decide +kernel), aw_i 1000 (by decide +kernel) (by decide +kernel), aw_i 26 (by decide +kernel) (by decide +kernel), aw_i 51 (by decide +kernel) (by decide +kernel), aw_i 1001 (by decide +kernel) (by decide +kernel), ⟨by decide +kernel, by decide +kernel, by decide +kernel⟩⟩
theorem sV_X7_100 : zs_sV RX7 100 yX7_isVersion cX7_isVersion 2 (some .boolean) 1 := ⟨aw_i 1006 (by decide +kernel) (by decide +kernel), aw_i 1008 (by decide +kernel) (by decide +kernel), aw_i 27 (by decide +kernel) (by decide +kernel), aw_i 51 (by decide +kernel) (by decide +kernel), aw_i 1009 (by decide +kernel) (by decide +kernel), ⟨by decide +kernel, by decide +kernel, by decide +kernel⟩⟩
theorem sV_X7_103 : zs_sV RX7 103 yX7_isSheaf cX7_isSheaf 4 (some .boolean) 3 := ⟨aw_i 1022 (by decide +kernel) (by decide +kernel), aw_i 1024 (by decide +kernel) (by decide +kernel), aw_i 28 (by decide +kernel) (by decide +kernel), aw_i 51 (by decide +kernel) (by decide +kernel), aw_i 1025 (by decide +kernel) (by decide +kernel), ⟨by decide +kernel, by decide +kernel, by decide +kernel⟩⟩
theorem sV_X7_106 : zs_sV RX7 106 yX7_size cX7_size 2 (some .int) 1 := ⟨aw_i 1026 (by decide +kernel) (by decide +kernel), aw_i 1028 (by decide +kernel) (by decide +kernel), aw_i 29 (by decide +kernel) (by decide +kernel), aw_i 51 (by decide +kernel) (by decide +kernel), aw_i 1029 (by decide +kernel) (by decide +kernel), ⟨by decide +kernel, by decide +kernel, by decide +kernel⟩⟩
theorem sV_X7_109 : zs_sV RX7 109 yX7_copies cX7_copies 4 (none : Option Jvm.ClassFile.FieldType) 2 := ⟨aw_i 1030 (by decide +kernel) (by decide +kernel), aw_i 1032 (by decide +kernel) (by decide +kernel), aw_i 30 (by decide +kernel) (by decide +kernel), aw_i 51 (by decide +kernel) (by decide +kernel), aw_i 1033 (by decide +kernel) (by decide +kernel), ⟨by decide +kernel, by decide +kernel, by decide +kernel⟩⟩
theorem sV_X7_113 : zs_sV RX7 113 yX7_at cX7_at 4 (some .int) 3 := ⟨aw_i 1034 (by decide +kernel) (by decide +kernel), aw_i 1036 (by decide +kernel) (by decide +kernel), aw_i 31 (by decide +kernel) (by decide +kernel), aw_i 51 (by decide +kernel) (by decide +kernel), aw_i 1037 (by decide +kernel) (by decide +kernel), ⟨by decide +kernel, by decide +kernel, by decide +kernel⟩⟩
theorem sV_X7_116 : zs_sV RX7 116 yX7_isAboveOf cX7_isAboveOf 4 (some .boolean) 2 := ⟨aw_i 1046 (by decide +kernel) (by decide +kernel), aw_i 1048 (by decide +kernel) (by decide +kernel), aw_i 32 (by decide +kernel) (by decide +kernel), aw_i 51 (by decide +kernel) (by decide +kernel), aw_i 1049 (by decide +kernel) (by decide +kernel), ⟨by decide +kernel, by decide +kernel, by decide +kernel⟩⟩
theorem sV_X7_120 : zs_sV RX7 120 yX7_areRows cX7_areRows 5 (some .boolean) 2 := ⟨aw_i 1058 (by decide +kernel) (by decide +kernel), aw_i 1060 (by decide +kernel) (by decide +kernel), aw_i 35 (by decide +kernel) (by decide +kernel), aw_i 51 (by decide +kernel) (by decide +kernel), aw_i 1061 (by decide +kernel) (by decide +kernel), ⟨by decide +kernel, by decide +kernel, by decide +kernel⟩⟩
theorem sV_X7_123 : zs_sV RX7 123 yX7_baseOf cX7_baseOf 5 (some .int) 2 := ⟨aw_i 1050 (by decide +kernel) (by decide +kernel), aw_i 1052 (by decide +kernel) (by decide +kernel), aw_i 33 (by decide +kernel) (by decide +kernel), aw_i 51 (by decide +kernel) (by decide +kernel), aw_i 1053 (by decide +kernel) (by decide +kernel), ⟨by decide +kernel, by decide +kernel, by decide +kernel⟩⟩
theorem sV_X7_126 : zs_sV RX7 126 yX7_areAlike cX7_areAlike 5 (some .boolean) 2 := ⟨aw_i 1054 (by decide +kernel) (by decide +kernel), aw_i 1056 (by decide +kernel) (by decide +kernel), aw_i 34 (by decide +kernel) (by decide +kernel), aw_i 51 (by decide +kernel) (by decide +kernel), aw_i 1057 (by decide +kernel) (by decide +kernel), ⟨by decide +kernel, by decide +kernel, by decide +kernel⟩⟩
theorem sV_X7_129 : zs_sV RX7 129 yX7_notesOf cX7_notesOf 4 (some .int) 1 := ⟨aw_i 1062 (by decide +kernel) (by decide +kernel), aw_i 1064 (by decide +kernel) (by decide +kernel), aw_i 36 (by decide +kernel) (by decide +kernel), aw_i 51 (by decide +kernel) (by decide +kernel), aw_i 1065 (by decide +kernel) (by decide +kernel), ⟨by decide +kernel, by decide +kernel, by decide +kernel⟩⟩
theorem sV_X7_132 : zs_sV RX7 132 yX7_joins cX7_joins 6 (none : Option Jvm.ClassFile.FieldType) 2 := ⟨aw_i 1066 (by decide +kernel) (by decide +kernel), aw_i 1068 (by decide +kernel) (by decide +kernel), aw_i 37 (by decide +kernel) (by decide +kernel), aw_i 51 (by decide +kernel) (by decide +kernel), aw_i 1069 (by decide +kernel) (by decide +kernel), ⟨by decide +kernel, by decide +kernel, by decide +kernel⟩⟩
theorem sV_X7_135 : zs_sV RX7 135 yX7_asksAgain cX7_asksAgain 7 (none : Option Jvm.ClassFile.FieldType) 2 := ⟨aw_i 1070 (by decide +kernel) (by decide +kernel), aw_i 1072 (by decide +kernel) (by decide +kernel), aw_i 38 (by decide +kernel) (by decide +kernel), aw_i 51 (by decide +kernel) (by decide +kernel), aw_i 1073 (by decide +kernel) (by decide +kernel), ⟨by decide +kernel, by decide +kernel, by decide +kernel⟩⟩
theorem sV_X7_138 : zs_sV RX7 138 yX7_unlikeOf cX7_unlikeOf 5 (some .int) 2 := ⟨aw_i 1074 (by decide +kernel) (by decide +kernel), aw_i 1076 (by decide +kernel) (by decide +kernel), aw_i 39 (by decide +kernel) (by decide +kernel), aw_i 51 (by decide +kernel) (by decide +kernel), aw_i 1077 (by decide +kernel) (by decide +kernel), ⟨by decide +kernel, by decide +kernel, by decide +kernel⟩⟩
theorem sS_X7_141 : zs_sS RX7 141 yX7_isRound cX7_isRound 1 (some .boolean) 1 := ⟨aw_i 1110 (by decide +kernel) (by decide +kernel), aw_i 1111 (by decide +kernel) (by decide +kernel), aw_i 51 (by decide +kernel) (by decide +kernel), aw_i 1112 (by decide +kernel) (by decide +kernel), ⟨by decide +kernel, by decide +kernel, by decide +kernel⟩⟩
theorem sV_X7_144 : zs_sV RX7 144 yX7_isMark cX7_isMark 4 (some .boolean) 3 := ⟨aw_i 1117 (by decide +kernel) (by decide +kernel), aw_i 1119 (by decide +kernel) (by decide +kernel), aw_i 40 (by decide +kernel) (by decide +kernel), aw_i 51 (by decide +kernel) (by decide +kernel), aw_i 1120 (by decide +kernel) (by decide +kernel), ⟨by decide +kernel, by decide +kernel, by decide +kernel⟩⟩
theorem sV_X7_147 : zs_sV RX7 147 yX7_counted cX7_counted 5 (some .int) 3 := ⟨aw_i 1141 (by decide +kernel) (by decide +kernel), aw_i 1143 (by decide +kernel) (by decide +kernel), aw_i 43 (by decide +kernel) (by decide +kernel), aw_i 51 (by decide +kernel) (by decide +kernel), aw_i 1144 (by decide +kernel) (by decide +kernel), ⟨by decide +kernel, by decide +kernel, by decide +kernel⟩⟩
theorem sV_X7_150 : zs_sV RX7 150 yX7_fallen cX7_fallen 7 (some .int) 3 := ⟨aw_i 1137 (by decide +kernel) (by decide +kernel), aw_i 1139 (by decide +kernel) (by decide +kernel), aw_i 42 (by decide +kernel) (by decide +kernel), aw_i 51 (by decide +kernel) (by decide +kernel), aw_i 1140 (by decide +kernel) (by decide +kernel), ⟨by decide +kernel, by decide +kernel, by decide +kernel⟩⟩
theorem sV_X7_153 : zs_sV RX7 153 yX7_pointsOf cX7_pointsOf 7 (some .int) 2 := ⟨aw_i 1133 (by decide +kernel) (by decide +kernel), aw_i 1135 (by decide +kernel) (by decide +kernel), aw_i 41 (by decide +kernel) (by decide +kernel), aw_i 51 (by decide +kernel) (by decide +kernel), aw_i 1136 (by decide +kernel) (by decide +kernel), ⟨by decide +kernel, by decide +kernel, by decide +kernel⟩⟩
theorem sV_X7_156 : zs_sV RX7 156 yX7_openOf cX7_openOf 2 (some .int) 1 := ⟨aw_i 1157 (by decide +kernel) (by decide +kernel), aw_i 1159 (by decide +kernel) (by decide +kernel), aw_i 46 (by decide +kernel) (by decide +kernel), aw_i 51 (by decide +kernel) (by decide +kernel), aw_i 1160 (by decide +kernel) (by decide +kernel), ⟨by decide +kernel, by decide +kernel, by decide +kernel⟩⟩
theorem sV_X7_159 : zs_sV RX7 159 yX7_isAhead cX7_isAhead 6 (some .boolean) 2 := ⟨aw_i 1153 (by decide +kernel) (by decide +kernel), aw_i 1155 (by decide +kernel) (by decide +kernel), aw_i 45 (by decide +kernel) (by decide +kernel), aw_i 51 (by decide +kernel) (by decide +kernel), aw_i 1156 (by decide +kernel) (by decide +kernel), ⟨by decide +kernel, by decide +kernel, by decide +kernel⟩⟩
theorem sV_X7_162 : zs_sV RX7 162 yX7_rankedOf cX7_rankedOf 5 (some .int) 1 := ⟨aw_i 1149 (by decide +kernel) (by decide +kernel), aw_i 1151 (by decide +kernel) (by decide +kernel), aw_i 44 (by decide +kernel) (by decide +kernel), aw_i 51 (by decide +kernel) (by decide +kernel), aw_i 1152 (by decide +kernel) (by decide +kernel), ⟨by decide +kernel, by decide +kernel, by decide +kernel⟩⟩
theorem sV_X7_165 : zs_sV RX7 165 yX7_partsOfAll cX7_partsOfAll 8 (some .int) 2 := ⟨aw_i 1169 (by decide +kernel) (by decide +kernel), aw_i 1171 (by decide +kernel) (by decide +kernel), aw_i 47 (by decide +kernel) (by decide +kernel), aw_i 51 (by decide +kernel) (by decide +kernel), aw_i 1172 (by decide +kernel) (by decide +kernel), ⟨by decide +kernel, by decide +kernel, by decide +kernel⟩⟩
theorem sV_X7_168 : zs_sV RX7 168 yX7_marksThere cX7_marksThere 4 (some .int) 1 := ⟨aw_i 1197 (by decide +kernel) (by decide +kernel), aw_i 1199 (by decide +kernel) (by decide +kernel), aw_i 48 (by decide +kernel) (by decide +kernel), aw_i 51 (by decide +kernel) (by decide +kernel), aw_i 1200 (by decide +kernel) (by decide +kernel), ⟨by decide +kernel, by decide +kernel, by decide +kernel⟩⟩
theorem k_X7_172 : Cond.constantLong RX7 172 (7 : Int64) ∈ aw := aw_i 1209 (by decide +kernel) (by decide +kernel)
theorem k_X7_174 : Cond.constantLong RX7 174 (31 : Int64) ∈ aw := aw_i 1210 (by decide +kernel) (by decide +kernel)
theorem k_X7_176 : Cond.constantLong RX7 176 (100 : Int64) ∈ aw := aw_i 1211 (by decide +kernel) (by decide +kernel)
theorem ol_X0_3 : Cond.methodLink RX0 3 Lib.objectInit ∈ aw := aw_i 412 (by decide +kernel) (by decide +kernel)
theorem fl_X0_9 : zs_fl RX0 9 0 0 (.int) false := ⟨_, _, _, tyX0, rfl, by decide, uin_X0, aw_i 416 (by decide +kernel) (by decide +kernel), tyX0_ok, nmX0, rfl, rfl⟩
theorem fl_X0_15 : zs_fl RX0 15 0 1 (.array (.int)) true := ⟨_, _, _, tyX0, rfl, by decide, uin_X0, aw_i 418 (by decide +kernel) (by decide +kernel), tyX0_ok, nmX0, rfl, rfl⟩
theorem fl_X0_19 : zs_fl RX0 19 0 2 (.array (.int)) true := ⟨_, _, _, tyX0, rfl, by decide, uin_X0, aw_i 420 (by decide +kernel) (by decide +kernel), tyX0_ok, nmX0, rfl, rfl⟩
theorem sS_X0_22 : zs_sS RX0 22 yJ7_fill_53178 cJ7_fill_53178 4 (none : Option Jvm.ClassFile.FieldType) 2 := ⟨aw_i 413 (by decide +kernel) (by decide +kernel), aw_i 414 (by decide +kernel) (by decide +kernel), aw_i 62 (by decide +kernel) (by decide +kernel), aw_i 415 (by decide +kernel) (by decide +kernel), ⟨by decide +kernel, by decide +kernel, by decide +kernel⟩⟩
theorem ol_X1_3 : Cond.methodLink RX1 3 Lib.objectInit ∈ aw := aw_i 393 (by decide +kernel) (by decide +kernel)
theorem fl_X1_9 : zs_fl RX1 9 1 2 (.array (.char)) true := ⟨_, _, _, tyX1, rfl, by decide, uin_X1, aw_i 397 (by decide +kernel) (by decide +kernel), tyX1_ok, nmX1, rfl, rfl⟩
theorem fl_X1_15 : zs_fl RX1 15 1 0 (.int) true := ⟨_, _, _, tyX1, rfl, by decide, uin_X1, aw_i 394 (by decide +kernel) (by decide +kernel), tyX1_ok, nmX1, rfl, rfl⟩
theorem fl_X1_19 : zs_fl RX1 19 1 1 (.int) true := ⟨_, _, _, tyX1, rfl, by decide, uin_X1, aw_i 396 (by decide +kernel) (by decide +kernel), tyX1_ok, nmX1, rfl, rfl⟩
theorem ol_X2_3 : Cond.methodLink RX2 3 Lib.objectInit ∈ aw := aw_i 778 (by decide +kernel) (by decide +kernel)
theorem fl_X2_9 : zs_fl RX2 9 2 2 (.array (.int)) true := ⟨_, _, _, tyX2, rfl, by decide, uin_X2, aw_i 783 (by decide +kernel) (by decide +kernel), tyX2_ok, nmX2, rfl, rfl⟩
theorem fl_X2_15 : zs_fl RX2 15 2 0 (.int) true := ⟨_, _, _, tyX2, rfl, by decide, uin_X2, aw_i 779 (by decide +kernel) (by decide +kernel), tyX2_ok, nmX2, rfl, rfl⟩
theorem fl_X2_19 : zs_fl RX2 19 2 1 (.int) true := ⟨_, _, _, tyX2, rfl, by decide, uin_X2, aw_i 781 (by decide +kernel) (by decide +kernel), tyX2_ok, nmX2, rfl, rfl⟩
theorem sV_X2_22 : zs_sV RX2 22 yX5_partsBy cX5_partsBy 7 (some .int) 1 := ⟨aw_i 796 (by decide +kernel) (by decide +kernel), aw_i 797 (by decide +kernel) (by decide +kernel), aw_i 798 (by decide +kernel) (by decide +kernel), aw_i 57 (by decide +kernel) (by decide +kernel), aw_i 799 (by decide +kernel) (by decide +kernel), ⟨by decide +kernel, by decide +kernel, by decide +kernel⟩⟩
theorem sS_X2_28 : zs_sS RX2 28 yX2_greatestOf cX2_greatestOf 3 (some .int) 1 := ⟨aw_i 801 (by decide +kernel) (by decide +kernel), aw_i 802 (by decide +kernel) (by decide +kernel), aw_i 70 (by decide +kernel) (by decide +kernel), aw_i 803 (by decide +kernel) (by decide +kernel), ⟨by decide +kernel, by decide +kernel, by decide +kernel⟩⟩
theorem ol_X3_1 : Cond.methodLink RX3 1 Lib.objectInit ∈ aw := aw_i 351 (by decide +kernel) (by decide +kernel)
theorem fl_X3_7 : zs_fl RX3 7 3 0 (.int) true := ⟨_, _, _, tyX3, rfl, by decide, uin_X3, aw_i 352 (by decide +kernel) (by decide +kernel), tyX3_ok, nmX3, rfl, rfl⟩
theorem fl_X3_13 : zs_fl RX3 13 3 1 (.array (.int)) true := ⟨_, _, _, tyX3, rfl, by decide, uin_X3, aw_i 354 (by decide +kernel) (by decide +kernel), tyX3_ok, nmX3, rfl, rfl⟩
theorem k_X3_17 : Cond.constantLong RX3 17 (31 : Int64) ∈ aw := aw_i 893 (by decide +kernel) (by decide +kernel)
theorem k_X3_19 : Cond.constantLong RX3 19 (100 : Int64) ∈ aw := aw_i 894 (by decide +kernel) (by decide +kernel)
theorem ol_X4_3 : Cond.methodLink RX4 3 Lib.objectInit ∈ aw := aw_i 369 (by decide +kernel) (by decide +kernel)
theorem al_X4_9 : Cond.classLink RX4 9 RX3 ∈ aw := aw_i 370 (by decide +kernel) (by decide +kernel)
theorem fl_X4_11 : zs_fl RX4 11 4 0 (.array (.object "ScoreSheaf$Row")) true := ⟨_, _, _, tyX4, rfl, by decide, uin_X4, aw_i 372 (by decide +kernel) (by decide +kernel), tyX4_ok, nmX4, rfl, rfl⟩
theorem fl_X4_17 : zs_fl RX4 17 4 1 (.int) false := ⟨_, _, _, tyX4, rfl, by decide, uin_X4, aw_i 373 (by decide +kernel) (by decide +kernel), tyX4_ok, nmX4, rfl, rfl⟩
theorem sV_X4_21 : zs_sV RX4 21 yX4_rowAt cX4_rowAt 2 (some (.object "ScoreSheaf$Row")) 1 := ⟨aw_i 174 (by decide +kernel) (by decide +kernel), aw_i 175 (by decide +kernel) (by decide +kernel), aw_i 176 (by decide +kernel) (by decide +kernel), aw_i 59 (by decide +kernel) (by decide +kernel), aw_i 177 (by decide +kernel) (by decide +kernel), ⟨by decide +kernel, by decide +kernel, by decide +kernel⟩⟩
theorem sV_X4_25 : zs_sV RX4 25 yX4_hasLike cX4_hasLike 4 (some .boolean) 1 := ⟨aw_i 613 (by decide +kernel) (by decide +kernel), aw_i 614 (by decide +kernel) (by decide +kernel), aw_i 615 (by decide +kernel) (by decide +kernel), aw_i 59 (by decide +kernel) (by decide +kernel), aw_i 616 (by decide +kernel) (by decide +kernel), ⟨by decide +kernel, by decide +kernel, by decide +kernel⟩⟩
theorem sV_X4_29 : zs_sV RX4 29 yX4_take cX4_take 2 (none : Option Jvm.ClassFile.FieldType) 1 := ⟨aw_i 617 (by decide +kernel) (by decide +kernel), aw_i 382 (by decide +kernel) (by decide +kernel), aw_i 383 (by decide +kernel) (by decide +kernel), aw_i 59 (by decide +kernel) (by decide +kernel), aw_i 384 (by decide +kernel) (by decide +kernel), ⟨by decide +kernel, by decide +kernel, by decide +kernel⟩⟩
theorem sV_X4_33 : zs_sV RX4 33 yX3_isLike cX3_isLike 3 (some .boolean) 1 := ⟨aw_i 178 (by decide +kernel) (by decide +kernel), aw_i 179 (by decide +kernel) (by decide +kernel), aw_i 180 (by decide +kernel) (by decide +kernel), aw_i 58 (by decide +kernel) (by decide +kernel), aw_i 181 (by decide +kernel) (by decide +kernel), ⟨by decide +kernel, by decide +kernel, by decide +kernel⟩⟩
theorem sV_X4_36 : zs_sV RX4 36 yX4_partsBy cX4_partsBy 5 (some .int) 1 := ⟨aw_i 595 (by decide +kernel) (by decide +kernel), aw_i 596 (by decide +kernel) (by decide +kernel), aw_i 597 (by decide +kernel) (by decide +kernel), aw_i 59 (by decide +kernel) (by decide +kernel), aw_i 598 (by decide +kernel) (by decide +kernel), ⟨by decide +kernel, by decide +kernel, by decide +kernel⟩⟩
theorem sV_X4_40 : zs_sV RX4 40 yX3_partsBy cX3_partsBy 2 (some .int) 1 := ⟨aw_i 599 (by decide +kernel) (by decide +kernel), aw_i 600 (by decide +kernel) (by decide +kernel), aw_i 601 (by decide +kernel) (by decide +kernel), aw_i 58 (by decide +kernel) (by decide +kernel), aw_i 602 (by decide +kernel) (by decide +kernel), ⟨by decide +kernel, by decide +kernel, by decide +kernel⟩⟩
theorem sV_X4_41 : zs_sV RX4 41 yX3_sumOnto cX3_sumOnto 9 (some .long) 1 := ⟨aw_i 889 (by decide +kernel) (by decide +kernel), aw_i 890 (by decide +kernel) (by decide +kernel), aw_i 891 (by decide +kernel) (by decide +kernel), aw_i 58 (by decide +kernel) (by decide +kernel), aw_i 892 (by decide +kernel) (by decide +kernel), ⟨by decide +kernel, by decide +kernel, by decide +kernel⟩⟩
theorem ol_X5_3 : Cond.methodLink RX5 3 Lib.objectInit ∈ aw := aw_i 319 (by decide +kernel) (by decide +kernel)
theorem al_X5_9 : Cond.classLink RX5 9 RX4 ∈ aw := aw_i 320 (by decide +kernel) (by decide +kernel)
theorem fl_X5_11 : zs_fl RX5 11 5 4 (.array (.object "ScoreSheaf$Sheaf")) true := ⟨_, _, _, tyX5, rfl, by decide, uin_X5, aw_i 330 (by decide +kernel) (by decide +kernel), tyX5_ok, nmX5, rfl, rfl⟩
theorem fl_X5_17 : zs_fl RX5 17 5 0 (.int) true := ⟨_, _, _, tyX5, rfl, by decide, uin_X5, aw_i 322 (by decide +kernel) (by decide +kernel), tyX5_ok, nmX5, rfl, rfl⟩
theorem fl_X5_21 : zs_fl RX5 21 5 1 (.int) true := ⟨_, _, _, tyX5, rfl, by decide, uin_X5, aw_i 324 (by decide +kernel) (by decide +kernel), tyX5_ok, nmX5, rfl, rfl⟩
theorem fl_X5_24 : zs_fl RX5 24 5 2 (.long) true := ⟨_, _, _, tyX5, rfl, by decide, uin_X5, aw_i 326 (by decide +kernel) (by decide +kernel), tyX5_ok, nmX5, rfl, rfl⟩
theorem fl_X5_28 : zs_fl RX5 28 5 3 (.int) true := ⟨_, _, _, tyX5, rfl, by decide, uin_X5, aw_i 328 (by decide +kernel) (by decide +kernel), tyX5_ok, nmX5, rfl, rfl⟩
theorem nl_X5_31 : zs_nl RX5 31 3 2 tyX3 := ⟨_, _, rfl, uin_X3, tyX3_ok, aw_i 346 (by decide +kernel) (by decide +kernel), aw_i 347 (by decide +kernel) (by decide +kernel), aw_i 58 (by decide +kernel) (by decide +kernel)⟩
theorem sI_X5_33 : zs_sI RX5 33 yX3_init cX3_init 3 2 := ⟨aw_i 348 (by decide +kernel) (by decide +kernel), aw_i 349 (by decide +kernel) (by decide +kernel), aw_i 58 (by decide +kernel) (by decide +kernel), aw_i 350 (by decide +kernel) (by decide +kernel), rfl, ⟨by decide +kernel, by decide +kernel, by decide +kernel⟩⟩
theorem sSN_X5_36 : zs_sSN RX5 36 yX6_sheafOf "ScoreSheaf" cX6_sheafOf 2 (some (.object "ScoreSheaf$Sheaf")) 1 := ⟨(by decide +kernel), aw_i 362 (by decide +kernel) (by decide +kernel), aw_i 50 (by decide +kernel) (by decide +kernel), aw_i 363 (by decide +kernel) (by decide +kernel), ⟨by decide +kernel, by decide +kernel, by decide +kernel⟩⟩
theorem sV_X5_40 : zs_sV RX5 40 yX5_put cX5_put 3 (none : Option Jvm.ClassFile.FieldType) 2 := ⟨aw_i 385 (by decide +kernel) (by decide +kernel), aw_i 386 (by decide +kernel) (by decide +kernel), aw_i 387 (by decide +kernel) (by decide +kernel), aw_i 57 (by decide +kernel) (by decide +kernel), aw_i 388 (by decide +kernel) (by decide +kernel), ⟨by decide +kernel, by decide +kernel, by decide +kernel⟩⟩
theorem fl_X5_44 : zs_fl RX5 44 1 2 (.array (.char)) true := ⟨_, _, _, tyX1, rfl, by decide, uin_X1, aw_i 398 (by decide +kernel) (by decide +kernel), tyX1_ok, nmX1, rfl, rfl⟩
theorem sSN_X5_50 : zs_sSN RX5 50 yX6_areAlike "ScoreSheaf" cX6_areAlike 2 (some .boolean) 2 := ⟨(by decide +kernel), aw_i 168 (by decide +kernel) (by decide +kernel), aw_i 50 (by decide +kernel) (by decide +kernel), aw_i 169 (by decide +kernel) (by decide +kernel), ⟨by decide +kernel, by decide +kernel, by decide +kernel⟩⟩
theorem sS_X5_54 : zs_sS RX5 54 yX5_fuller cX5_fuller 2 (some (.object "ScoreSheaf$Sheaf")) 2 := ⟨aw_i 588 (by decide +kernel) (by decide +kernel), aw_i 589 (by decide +kernel) (by decide +kernel), aw_i 57 (by decide +kernel) (by decide +kernel), aw_i 590 (by decide +kernel) (by decide +kernel), ⟨by decide +kernel, by decide +kernel, by decide +kernel⟩⟩
theorem sS_X5_58 : zs_sS RX5 58 yX5_both cX5_both 4 (some (.object "ScoreSheaf$Sheaf")) 2 := ⟨aw_i 603 (by decide +kernel) (by decide +kernel), aw_i 604 (by decide +kernel) (by decide +kernel), aw_i 57 (by decide +kernel) (by decide +kernel), aw_i 605 (by decide +kernel) (by decide +kernel), ⟨by decide +kernel, by decide +kernel, by decide +kernel⟩⟩
theorem sV_X5_61 : zs_sV RX5 61 yX4_notesInAll cX4_notesInAll 1 (some .int) 0 := ⟨aw_i 591 (by decide +kernel) (by decide +kernel), aw_i 592 (by decide +kernel) (by decide +kernel), aw_i 593 (by decide +kernel) (by decide +kernel), aw_i 59 (by decide +kernel) (by decide +kernel), aw_i 594 (by decide +kernel) (by decide +kernel), ⟨by decide +kernel, by decide +kernel, by decide +kernel⟩⟩
theorem nl_X5_9 : zs_nl RX5 9 4 2 tyX4 := ⟨_, _, rfl, uin_X4, tyX4_ok, aw_i 320 (by decide +kernel) (by decide +kernel), aw_i 365 (by decide +kernel) (by decide +kernel), aw_i 59 (by decide +kernel) (by decide +kernel)⟩
theorem sIN_X5_65 : zs_sIN RX5 65 yX4_init "ScoreSheaf" cX4_init 1 0 := ⟨(by decide +kernel), aw_i 367 (by decide +kernel) (by decide +kernel), aw_i 59 (by decide +kernel) (by decide +kernel), aw_i 368 (by decide +kernel) (by decide +kernel), rfl, ⟨by decide +kernel, by decide +kernel, by decide +kernel⟩⟩
theorem fl_X5_66 : zs_fl RX5 66 4 1 (.int) false := ⟨_, _, _, tyX4, rfl, by decide, uin_X4, aw_i 374 (by decide +kernel) (by decide +kernel), tyX4_ok, nmX4, rfl, rfl⟩
theorem sV_X5_69 : zs_sV RX5 69 yX4_rowAt cX4_rowAt 2 (some (.object "ScoreSheaf$Row")) 1 := ⟨aw_i 607 (by decide +kernel) (by decide +kernel), aw_i 175 (by decide +kernel) (by decide +kernel), aw_i 176 (by decide +kernel) (by decide +kernel), aw_i 59 (by decide +kernel) (by decide +kernel), aw_i 177 (by decide +kernel) (by decide +kernel), ⟨by decide +kernel, by decide +kernel, by decide +kernel⟩⟩
theorem sV_X5_73 : zs_sV RX5 73 yX4_take cX4_take 2 (none : Option Jvm.ClassFile.FieldType) 1 := ⟨aw_i 608 (by decide +kernel) (by decide +kernel), aw_i 382 (by decide +kernel) (by decide +kernel), aw_i 383 (by decide +kernel) (by decide +kernel), aw_i 59 (by decide +kernel) (by decide +kernel), aw_i 384 (by decide +kernel) (by decide +kernel), ⟨by decide +kernel, by decide +kernel, by decide +kernel⟩⟩
theorem sV_X5_77 : zs_sV RX5 77 yX4_takeUnlike cX4_takeUnlike 4 (none : Option Jvm.ClassFile.FieldType) 1 := ⟨aw_i 609 (by decide +kernel) (by decide +kernel), aw_i 610 (by decide +kernel) (by decide +kernel), aw_i 611 (by decide +kernel) (by decide +kernel), aw_i 59 (by decide +kernel) (by decide +kernel), aw_i 612 (by decide +kernel) (by decide +kernel), ⟨by decide +kernel, by decide +kernel, by decide +kernel⟩⟩
theorem sV_X5_81 : zs_sV RX5 81 yX4_partsBy cX4_partsBy 5 (some .int) 1 := ⟨aw_i 800 (by decide +kernel) (by decide +kernel), aw_i 596 (by decide +kernel) (by decide +kernel), aw_i 597 (by decide +kernel) (by decide +kernel), aw_i 59 (by decide +kernel) (by decide +kernel), aw_i 598 (by decide +kernel) (by decide +kernel), ⟨by decide +kernel, by decide +kernel, by decide +kernel⟩⟩
theorem k_X5_85 : Cond.constantLong RX5 85 (7 : Int64) ∈ aw := aw_i 884 (by decide +kernel) (by decide +kernel)
theorem sV_X5_87 : zs_sV RX5 87 yX4_sumOnto cX4_sumOnto 7 (some .long) 1 := ⟨aw_i 885 (by decide +kernel) (by decide +kernel), aw_i 886 (by decide +kernel) (by decide +kernel), aw_i 887 (by decide +kernel) (by decide +kernel), aw_i 59 (by decide +kernel) (by decide +kernel), aw_i 888 (by decide +kernel) (by decide +kernel), ⟨by decide +kernel, by decide +kernel, by decide +kernel⟩⟩
theorem ol_X6_3 : Cond.methodLink RX6 3 Lib.objectInit ∈ aw := aw_i 77 (by decide +kernel) (by decide +kernel)
theorem al_X6_9 : Cond.classLink RX6 9 RX1 ∈ aw := aw_i 80 (by decide +kernel) (by decide +kernel)
theorem fl_X6_11 : zs_fl RX6 11 6 0 (.array (.object "ScoreSheaf$Piece")) true := ⟨_, _, _, tyX6, rfl, by decide, uin_X6, aw_i 88 (by decide +kernel) (by decide +kernel), tyX6_ok, nmX6, rfl, rfl⟩
theorem al_X6_15 : Cond.classLink RX6 15 RX5 ∈ aw := aw_i 82 (by decide +kernel) (by decide +kernel)
theorem fl_X6_17 : zs_fl RX6 17 6 2 (.array (.object "ScoreSheaf$Version")) true := ⟨_, _, _, tyX6, rfl, by decide, uin_X6, aw_i 90 (by decide +kernel) (by decide +kernel), tyX6_ok, nmX6, rfl, rfl⟩
theorem al_X6_21 : Cond.classLink RX6 21 RX0 ∈ aw := aw_i 84 (by decide +kernel) (by decide +kernel)
theorem fl_X6_23 : zs_fl RX6 23 6 4 (.array (.object "ScoreSheaf$Hearing")) true := ⟨_, _, _, tyX6, rfl, by decide, uin_X6, aw_i 92 (by decide +kernel) (by decide +kernel), tyX6_ok, nmX6, rfl, rfl⟩
theorem al_X6_27 : Cond.classLink RX6 27 RX2 ∈ aw := aw_i 86 (by decide +kernel) (by decide +kernel)
theorem fl_X6_29 : zs_fl RX6 29 6 5 (.array (.object "ScoreSheaf$Prize")) true := ⟨_, _, _, tyX6, rfl, by decide, uin_X6, aw_i 93 (by decide +kernel) (by decide +kernel), tyX6_ok, nmX6, rfl, rfl⟩
theorem fl_X6_33 : zs_fl RX6 33 6 7 (.array (.int)) true := ⟨_, _, _, tyX6, rfl, by decide, uin_X6, aw_i 95 (by decide +kernel) (by decide +kernel), tyX6_ok, nmX6, rfl, rfl⟩
theorem fl_X6_44 : zs_fl RX6 44 6 1 (.int) false := ⟨_, _, _, tyX6, rfl, by decide, uin_X6, aw_i 89 (by decide +kernel) (by decide +kernel), tyX6_ok, nmX6, rfl, rfl⟩
theorem fl_X6_48 : zs_fl RX6 48 6 3 (.int) false := ⟨_, _, _, tyX6, rfl, by decide, uin_X6, aw_i 91 (by decide +kernel) (by decide +kernel), tyX6_ok, nmX6, rfl, rfl⟩
theorem nl_X6_15 : zs_nl RX6 15 5 5 tyX5 := ⟨_, _, rfl, uin_X5, tyX5_ok, aw_i 82 (by decide +kernel) (by decide +kernel), aw_i 315 (by decide +kernel) (by decide +kernel), aw_i 57 (by decide +kernel) (by decide +kernel)⟩
theorem sI_X6_56 : zs_sI RX6 56 yX5_init cX5_init 6 4 := ⟨aw_i 316 (by decide +kernel) (by decide +kernel), aw_i 317 (by decide +kernel) (by decide +kernel), aw_i 57 (by decide +kernel) (by decide +kernel), aw_i 318 (by decide +kernel) (by decide +kernel), rfl, ⟨by decide +kernel, by decide +kernel, by decide +kernel⟩⟩
theorem sV_X6_59 : zs_sV RX6 59 yX5_fillEmpty cX5_fillEmpty 6 (none : Option Jvm.ClassFile.FieldType) 2 := ⟨aw_i 342 (by decide +kernel) (by decide +kernel), aw_i 343 (by decide +kernel) (by decide +kernel), aw_i 344 (by decide +kernel) (by decide +kernel), aw_i 57 (by decide +kernel) (by decide +kernel), aw_i 345 (by decide +kernel) (by decide +kernel), ⟨by decide +kernel, by decide +kernel, by decide +kernel⟩⟩
theorem nl_X6_9 : zs_nl RX6 9 1 3 tyX1 := ⟨_, _, rfl, uin_X1, tyX1_ok, aw_i 80 (by decide +kernel) (by decide +kernel), aw_i 389 (by decide +kernel) (by decide +kernel), aw_i 60 (by decide +kernel) (by decide +kernel)⟩
theorem sI_X6_63 : zs_sI RX6 63 yX1_init cX1_init 4 2 := ⟨aw_i 390 (by decide +kernel) (by decide +kernel), aw_i 391 (by decide +kernel) (by decide +kernel), aw_i 60 (by decide +kernel) (by decide +kernel), aw_i 392 (by decide +kernel) (by decide +kernel), rfl, ⟨by decide +kernel, by decide +kernel, by decide +kernel⟩⟩
theorem nl_X6_21 : zs_nl RX6 21 0 3 tyX0 := ⟨_, _, rfl, uin_X0, tyX0_ok, aw_i 84 (by decide +kernel) (by decide +kernel), aw_i 408 (by decide +kernel) (by decide +kernel), aw_i 61 (by decide +kernel) (by decide +kernel)⟩
theorem sI_X6_65 : zs_sI RX6 65 yX0_init cX0_init 1 0 := ⟨aw_i 409 (by decide +kernel) (by decide +kernel), aw_i 410 (by decide +kernel) (by decide +kernel), aw_i 61 (by decide +kernel) (by decide +kernel), aw_i 411 (by decide +kernel) (by decide +kernel), rfl, ⟨by decide +kernel, by decide +kernel, by decide +kernel⟩⟩
theorem sV_X6_66 : zs_sV RX6 66 yX6_keep cX6_keep 2 (none : Option Jvm.ClassFile.FieldType) 1 := ⟨aw_i 429 (by decide +kernel) (by decide +kernel), aw_i 431 (by decide +kernel) (by decide +kernel), aw_i 14 (by decide +kernel) (by decide +kernel), aw_i 50 (by decide +kernel) (by decide +kernel), aw_i 432 (by decide +kernel) (by decide +kernel), ⟨by decide +kernel, by decide +kernel, by decide +kernel⟩⟩
theorem th_X6_37_39_41 : zs_thr RX6 "java/lang/IllegalArgumentException" "a piece has 1 to 8 bars and 1 to 4 parts" ["java/lang/RuntimeException", "java/lang/Exception"] 37 39 41 := ⟨by decide +kernel, by decide +kernel, aw_i 227 (by decide +kernel) (by decide +kernel), aw_i 55 (by decide +kernel) (by decide +kernel), by decide +kernel, rfl, by decide +kernel, by decide +kernel, by decide +kernel⟩
theorem th_X6_51_53_55 : zs_thr RX6 "java/lang/IllegalStateException" "no further piece or version" ["java/lang/RuntimeException", "java/lang/Exception"] 51 53 55 := ⟨by decide +kernel, by decide +kernel, aw_i 299 (by decide +kernel) (by decide +kernel), aw_i 56 (by decide +kernel) (by decide +kernel), by decide +kernel, rfl, by decide +kernel, by decide +kernel, by decide +kernel⟩
theorem sV_X6_70 : zs_sV RX6 70 yX6_pieceAt cX6_pieceAt 2 (some (.object "ScoreSheaf$Piece")) 1 := ⟨aw_i 464 (by decide +kernel) (by decide +kernel), aw_i 466 (by decide +kernel) (by decide +kernel), aw_i 15 (by decide +kernel) (by decide +kernel), aw_i 50 (by decide +kernel) (by decide +kernel), aw_i 467 (by decide +kernel) (by decide +kernel), ⟨by decide +kernel, by decide +kernel, by decide +kernel⟩⟩
theorem fl_X6_79 : zs_fl RX6 79 1 0 (.int) true := ⟨_, _, _, tyX1, rfl, by decide, uin_X1, aw_i 395 (by decide +kernel) (by decide +kernel), tyX1_ok, nmX1, rfl, rfl⟩
theorem th_X6_74_76_78 : zs_thr RX6 "java/lang/IndexOutOfBoundsException" "no such piece" ["java/lang/RuntimeException", "java/lang/Exception"] 74 76 78 := ⟨by decide +kernel, by decide +kernel, aw_i 468 (by decide +kernel) (by decide +kernel), aw_i 63 (by decide +kernel) (by decide +kernel), by decide +kernel, rfl, by decide +kernel, by decide +kernel, by decide +kernel⟩
theorem sV_X6_82 : zs_sV RX6 82 yX6_versionAt cX6_versionAt 2 (some (.object "ScoreSheaf$Version")) 1 := ⟨aw_i 159 (by decide +kernel) (by decide +kernel), aw_i 161 (by decide +kernel) (by decide +kernel), aw_i 5 (by decide +kernel) (by decide +kernel), aw_i 50 (by decide +kernel) (by decide +kernel), aw_i 162 (by decide +kernel) (by decide +kernel), ⟨by decide +kernel, by decide +kernel, by decide +kernel⟩⟩
theorem fl_X6_88 : zs_fl RX6 88 5 1 (.int) true := ⟨_, _, _, tyX5, rfl, by decide, uin_X5, aw_i 325 (by decide +kernel) (by decide +kernel), tyX5_ok, nmX5, rfl, rfl⟩
theorem th_X6_74_86_78 : zs_thr RX6 "java/lang/IndexOutOfBoundsException" "no such version" ["java/lang/RuntimeException", "java/lang/Exception"] 74 86 78 := ⟨by decide +kernel, by decide +kernel, aw_i 468 (by decide +kernel) (by decide +kernel), aw_i 63 (by decide +kernel) (by decide +kernel), by decide +kernel, rfl, by decide +kernel, by decide +kernel, by decide +kernel⟩
theorem fl_X6_93 : zs_fl RX6 93 6 8 (.int) false := ⟨_, _, _, tyX6, rfl, by decide, uin_X6, aw_i 96 (by decide +kernel) (by decide +kernel), tyX6_ok, nmX6, rfl, rfl⟩
theorem th_X6_37_91_41 : zs_thr RX6 "java/lang/IllegalArgumentException" "a note is 0 to 99" ["java/lang/RuntimeException", "java/lang/Exception"] 37 91 41 := ⟨by decide +kernel, by decide +kernel, aw_i 227 (by decide +kernel) (by decide +kernel), aw_i 55 (by decide +kernel) (by decide +kernel), by decide +kernel, rfl, by decide +kernel, by decide +kernel, by decide +kernel⟩
theorem th_X6_51_96_55 : zs_thr RX6 "java/lang/IllegalStateException" "the row has 8 notes" ["java/lang/RuntimeException", "java/lang/Exception"] 51 96 55 := ⟨by decide +kernel, by decide +kernel, aw_i 299 (by decide +kernel) (by decide +kernel), aw_i 56 (by decide +kernel) (by decide +kernel), by decide +kernel, rfl, by decide +kernel, by decide +kernel, by decide +kernel⟩
theorem sV_X6_98 : zs_sV RX6 98 yX5_sheafAt cX5_sheafAt 3 (some (.object "ScoreSheaf$Sheaf")) 2 := ⟨aw_i 505 (by decide +kernel) (by decide +kernel), aw_i 506 (by decide +kernel) (by decide +kernel), aw_i 507 (by decide +kernel) (by decide +kernel), aw_i 57 (by decide +kernel) (by decide +kernel), aw_i 508 (by decide +kernel) (by decide +kernel), ⟨by decide +kernel, by decide +kernel, by decide +kernel⟩⟩
theorem sS_X6_104 : zs_sS RX6 104 yX6_isEditor cX6_isEditor 1 (some .boolean) 1 := ⟨aw_i 510 (by decide +kernel) (by decide +kernel), aw_i 511 (by decide +kernel) (by decide +kernel), aw_i 50 (by decide +kernel) (by decide +kernel), aw_i 512 (by decide +kernel) (by decide +kernel), ⟨by decide +kernel, by decide +kernel, by decide +kernel⟩⟩
theorem fl_X6_112 : zs_fl RX6 112 5 2 (.long) true := ⟨_, _, _, tyX5, rfl, by decide, uin_X5, aw_i 327 (by decide +kernel) (by decide +kernel), tyX5_ok, nmX5, rfl, rfl⟩
theorem fl_X6_116 : zs_fl RX6 116 5 0 (.int) true := ⟨_, _, _, tyX5, rfl, by decide, uin_X5, aw_i 323 (by decide +kernel) (by decide +kernel), tyX5_ok, nmX5, rfl, rfl⟩
theorem sV_X6_119 : zs_sV RX6 119 yX5_copySheaves cX5_copySheaves 3 (none : Option Jvm.ClassFile.FieldType) 1 := ⟨aw_i 515 (by decide +kernel) (by decide +kernel), aw_i 516 (by decide +kernel) (by decide +kernel), aw_i 517 (by decide +kernel) (by decide +kernel), aw_i 57 (by decide +kernel) (by decide +kernel), aw_i 518 (by decide +kernel) (by decide +kernel), ⟨by decide +kernel, by decide +kernel, by decide +kernel⟩⟩
theorem nl_X6_122 : zs_nl RX6 122 3 2 tyX3 := ⟨_, _, rfl, uin_X3, tyX3_ok, aw_i 519 (by decide +kernel) (by decide +kernel), aw_i 347 (by decide +kernel) (by decide +kernel), aw_i 58 (by decide +kernel) (by decide +kernel)⟩
theorem sS_X6_124 : zs_sS RX6 124 yJ7_copyOf_59c91 cJ7_copyOf_59c91 3 (some (.array .int)) 2 := ⟨aw_i 520 (by decide +kernel) (by decide +kernel), aw_i 521 (by decide +kernel) (by decide +kernel), aw_i 62 (by decide +kernel) (by decide +kernel), aw_i 522 (by decide +kernel) (by decide +kernel), ⟨by decide +kernel, by decide +kernel, by decide +kernel⟩⟩
theorem sI_X6_130 : zs_sI RX6 130 yX3_init cX3_init 3 2 := ⟨aw_i 536 (by decide +kernel) (by decide +kernel), aw_i 349 (by decide +kernel) (by decide +kernel), aw_i 58 (by decide +kernel) (by decide +kernel), aw_i 350 (by decide +kernel) (by decide +kernel), rfl, ⟨by decide +kernel, by decide +kernel, by decide +kernel⟩⟩
theorem sS_X6_133 : zs_sS RX6 133 yX6_sheafOf cX6_sheafOf 2 (some (.object "ScoreSheaf$Sheaf")) 1 := ⟨aw_i 537 (by decide +kernel) (by decide +kernel), aw_i 362 (by decide +kernel) (by decide +kernel), aw_i 50 (by decide +kernel) (by decide +kernel), aw_i 363 (by decide +kernel) (by decide +kernel), ⟨by decide +kernel, by decide +kernel, by decide +kernel⟩⟩
theorem sV_X6_137 : zs_sV RX6 137 yX5_put cX5_put 3 (none : Option Jvm.ClassFile.FieldType) 2 := ⟨aw_i 538 (by decide +kernel) (by decide +kernel), aw_i 386 (by decide +kernel) (by decide +kernel), aw_i 387 (by decide +kernel) (by decide +kernel), aw_i 57 (by decide +kernel) (by decide +kernel), aw_i 388 (by decide +kernel) (by decide +kernel), ⟨by decide +kernel, by decide +kernel, by decide +kernel⟩⟩
theorem th_X6_74_102_78 : zs_thr RX6 "java/lang/IndexOutOfBoundsException" "no such version, bar or part" ["java/lang/RuntimeException", "java/lang/Exception"] 74 102 78 := ⟨by decide +kernel, by decide +kernel, aw_i 468 (by decide +kernel) (by decide +kernel), aw_i 63 (by decide +kernel) (by decide +kernel), by decide +kernel, rfl, by decide +kernel, by decide +kernel, by decide +kernel⟩
theorem th_X6_37_108_41 : zs_thr RX6 "java/lang/IllegalArgumentException" "an editor is 0 to 5" ["java/lang/RuntimeException", "java/lang/Exception"] 37 108 41 := ⟨by decide +kernel, by decide +kernel, aw_i 227 (by decide +kernel) (by decide +kernel), aw_i 55 (by decide +kernel) (by decide +kernel), by decide +kernel, rfl, by decide +kernel, by decide +kernel, by decide +kernel⟩
theorem th_X6_51_110_55 : zs_thr RX6 "java/lang/IllegalStateException" "there are 40 versions" ["java/lang/RuntimeException", "java/lang/Exception"] 51 110 55 := ⟨by decide +kernel, by decide +kernel, aw_i 299 (by decide +kernel) (by decide +kernel), aw_i 56 (by decide +kernel) (by decide +kernel), by decide +kernel, rfl, by decide +kernel, by decide +kernel, by decide +kernel⟩
theorem sV_X6_141 : zs_sV RX6 141 yX1_hasPart cX1_hasPart 2 (some .boolean) 1 := ⟨aw_i 546 (by decide +kernel) (by decide +kernel), aw_i 547 (by decide +kernel) (by decide +kernel), aw_i 548 (by decide +kernel) (by decide +kernel), aw_i 60 (by decide +kernel) (by decide +kernel), aw_i 549 (by decide +kernel) (by decide +kernel), ⟨by decide +kernel, by decide +kernel, by decide +kernel⟩⟩
theorem fl_X6_148 : zs_fl RX6 148 1 2 (.array (.char)) true := ⟨_, _, _, tyX1, rfl, by decide, uin_X1, aw_i 399 (by decide +kernel) (by decide +kernel), tyX1_ok, nmX1, rfl, rfl⟩
theorem th_X6_74_144_78 : zs_thr RX6 "java/lang/IndexOutOfBoundsException" "no such piece or part" ["java/lang/RuntimeException", "java/lang/Exception"] 74 144 78 := ⟨by decide +kernel, by decide +kernel, aw_i 468 (by decide +kernel) (by decide +kernel), aw_i 63 (by decide +kernel) (by decide +kernel), by decide +kernel, rfl, by decide +kernel, by decide +kernel, by decide +kernel⟩
theorem th_X6_37_146_41 : zs_thr RX6 "java/lang/IllegalArgumentException" "a rule is l, n or b" ["java/lang/RuntimeException", "java/lang/Exception"] 37 146 41 := ⟨by decide +kernel, by decide +kernel, aw_i 227 (by decide +kernel) (by decide +kernel), aw_i 55 (by decide +kernel) (by decide +kernel), by decide +kernel, rfl, by decide +kernel, by decide +kernel, by decide +kernel⟩
theorem sV_X6_152 : zs_sV RX6 152 yX6_baseOf cX6_baseOf 6 (some .int) 2 := ⟨aw_i 560 (by decide +kernel) (by decide +kernel), aw_i 562 (by decide +kernel) (by decide +kernel), aw_i 16 (by decide +kernel) (by decide +kernel), aw_i 50 (by decide +kernel) (by decide +kernel), aw_i 563 (by decide +kernel) (by decide +kernel), ⟨by decide +kernel, by decide +kernel, by decide +kernel⟩⟩
theorem sV_X6_156 : zs_sV RX6 156 yX5_isUnder cX5_isUnder 2 (some .boolean) 1 := ⟨aw_i 564 (by decide +kernel) (by decide +kernel), aw_i 565 (by decide +kernel) (by decide +kernel), aw_i 566 (by decide +kernel) (by decide +kernel), aw_i 57 (by decide +kernel) (by decide +kernel), aw_i 567 (by decide +kernel) (by decide +kernel), ⟨by decide +kernel, by decide +kernel, by decide +kernel⟩⟩
theorem sV_X6_165 : zs_sV RX6 165 yX5_mergeSheaves cX5_mergeSheaves 9 (none : Option Jvm.ClassFile.FieldType) 4 := ⟨aw_i 584 (by decide +kernel) (by decide +kernel), aw_i 585 (by decide +kernel) (by decide +kernel), aw_i 586 (by decide +kernel) (by decide +kernel), aw_i 57 (by decide +kernel) (by decide +kernel), aw_i 587 (by decide +kernel) (by decide +kernel), ⟨by decide +kernel, by decide +kernel, by decide +kernel⟩⟩
theorem sV_X6_169 : zs_sV RX6 169 yX6_askAgain cX6_askAgain 5 (none : Option Jvm.ClassFile.FieldType) 2 := ⟨aw_i 618 (by decide +kernel) (by decide +kernel), aw_i 620 (by decide +kernel) (by decide +kernel), aw_i 17 (by decide +kernel) (by decide +kernel), aw_i 50 (by decide +kernel) (by decide +kernel), aw_i 621 (by decide +kernel) (by decide +kernel), ⟨by decide +kernel, by decide +kernel, by decide +kernel⟩⟩
theorem th_X6_160_162_164 : zs_thr RX6 "java/lang/UnsupportedOperationException" "unlike pieces, or one above the other" ["java/lang/RuntimeException", "java/lang/Exception"] 160 162 164 := ⟨by decide +kernel, by decide +kernel, aw_i 568 (by decide +kernel) (by decide +kernel), aw_i 68 (by decide +kernel) (by decide +kernel), by decide +kernel, rfl, by decide +kernel, by decide +kernel, by decide +kernel⟩
theorem th_X6_160_173_164 : zs_thr RX6 "java/lang/UnsupportedOperationException" "unlike pieces" ["java/lang/RuntimeException", "java/lang/Exception"] 160 173 164 := ⟨by decide +kernel, by decide +kernel, aw_i 568 (by decide +kernel) (by decide +kernel), aw_i 68 (by decide +kernel) (by decide +kernel), by decide +kernel, rfl, by decide +kernel, by decide +kernel, by decide +kernel⟩
theorem sV_X6_175 : zs_sV RX6 175 yX6_sheafAt cX6_sheafAt 5 (some (.object "ScoreSheaf$Sheaf")) 3 := ⟨aw_i 645 (by decide +kernel) (by decide +kernel), aw_i 647 (by decide +kernel) (by decide +kernel), aw_i 18 (by decide +kernel) (by decide +kernel), aw_i 50 (by decide +kernel) (by decide +kernel), aw_i 648 (by decide +kernel) (by decide +kernel), ⟨by decide +kernel, by decide +kernel, by decide +kernel⟩⟩
theorem fl_X6_178 : zs_fl RX6 178 4 1 (.int) false := ⟨_, _, _, tyX4, rfl, by decide, uin_X4, aw_i 375 (by decide +kernel) (by decide +kernel), tyX4_ok, nmX4, rfl, rfl⟩
theorem sV_X6_183 : zs_sV RX6 183 yX4_rowAt cX4_rowAt 2 (some (.object "ScoreSheaf$Row")) 1 := ⟨aw_i 657 (by decide +kernel) (by decide +kernel), aw_i 175 (by decide +kernel) (by decide +kernel), aw_i 176 (by decide +kernel) (by decide +kernel), aw_i 59 (by decide +kernel) (by decide +kernel), aw_i 177 (by decide +kernel) (by decide +kernel), ⟨by decide +kernel, by decide +kernel, by decide +kernel⟩⟩
theorem fl_X6_187 : zs_fl RX6 187 3 1 (.array (.int)) true := ⟨_, _, _, tyX3, rfl, by decide, uin_X3, aw_i 355 (by decide +kernel) (by decide +kernel), tyX3_ok, nmX3, rfl, rfl⟩
theorem fl_X6_197 : zs_fl RX6 197 3 0 (.int) true := ⟨_, _, _, tyX3, rfl, by decide, uin_X3, aw_i 353 (by decide +kernel) (by decide +kernel), tyX3_ok, nmX3, rfl, rfl⟩
theorem sV_X6_200 : zs_sV RX6 200 yX5_sheavesInDoubt cX5_sheavesInDoubt 6 (some .int) 0 := ⟨aw_i 689 (by decide +kernel) (by decide +kernel), aw_i 690 (by decide +kernel) (by decide +kernel), aw_i 691 (by decide +kernel) (by decide +kernel), aw_i 57 (by decide +kernel) (by decide +kernel), aw_i 692 (by decide +kernel) (by decide +kernel), ⟨by decide +kernel, by decide +kernel, by decide +kernel⟩⟩
theorem sV_X6_204 : zs_sV RX6 204 yX5_sheavesUnlike cX5_sheavesUnlike 4 (some .int) 1 := ⟨aw_i 163 (by decide +kernel) (by decide +kernel), aw_i 164 (by decide +kernel) (by decide +kernel), aw_i 165 (by decide +kernel) (by decide +kernel), aw_i 57 (by decide +kernel) (by decide +kernel), aw_i 166 (by decide +kernel) (by decide +kernel), ⟨by decide +kernel, by decide +kernel, by decide +kernel⟩⟩
theorem sV_X6_208 : zs_sV RX6 208 yX6_hearingAt cX6_hearingAt 3 (some (.object "ScoreSheaf$Hearing")) 2 := ⟨aw_i 202 (by decide +kernel) (by decide +kernel), aw_i 204 (by decide +kernel) (by decide +kernel), aw_i 11 (by decide +kernel) (by decide +kernel), aw_i 50 (by decide +kernel) (by decide +kernel), aw_i 205 (by decide +kernel) (by decide +kernel), ⟨by decide +kernel, by decide +kernel, by decide +kernel⟩⟩
theorem fl_X6_214 : zs_fl RX6 214 0 0 (.int) false := ⟨_, _, _, tyX0, rfl, by decide, uin_X0, aw_i 417 (by decide +kernel) (by decide +kernel), tyX0_ok, nmX0, rfl, rfl⟩
theorem sV_X6_217 : zs_sV RX6 217 yX0_startWith cX0_startWith 2 (none : Option Jvm.ClassFile.FieldType) 1 := ⟨aw_i 708 (by decide +kernel) (by decide +kernel), aw_i 709 (by decide +kernel) (by decide +kernel), aw_i 710 (by decide +kernel) (by decide +kernel), aw_i 61 (by decide +kernel) (by decide +kernel), aw_i 711 (by decide +kernel) (by decide +kernel), ⟨by decide +kernel, by decide +kernel, by decide +kernel⟩⟩
theorem th_X6_74_212_78 : zs_thr RX6 "java/lang/IndexOutOfBoundsException" "no such round or version" ["java/lang/RuntimeException", "java/lang/Exception"] 74 212 78 := ⟨by decide +kernel, by decide +kernel, aw_i 468 (by decide +kernel) (by decide +kernel), aw_i 63 (by decide +kernel) (by decide +kernel), by decide +kernel, rfl, by decide +kernel, by decide +kernel, by decide +kernel⟩
theorem sS_X6_221 : zs_sS RX6 221 yX6_isJuror cX6_isJuror 1 (some .boolean) 1 := ⟨aw_i 719 (by decide +kernel) (by decide +kernel), aw_i 720 (by decide +kernel) (by decide +kernel), aw_i 50 (by decide +kernel) (by decide +kernel), aw_i 721 (by decide +kernel) (by decide +kernel), ⟨by decide +kernel, by decide +kernel, by decide +kernel⟩⟩
theorem fl_X6_230 : zs_fl RX6 230 0 1 (.array (.int)) true := ⟨_, _, _, tyX0, rfl, by decide, uin_X0, aw_i 419 (by decide +kernel) (by decide +kernel), tyX0_ok, nmX0, rfl, rfl⟩
theorem fl_X6_233 : zs_fl RX6 233 0 2 (.array (.int)) true := ⟨_, _, _, tyX0, rfl, by decide, uin_X0, aw_i 421 (by decide +kernel) (by decide +kernel), tyX0_ok, nmX0, rfl, rfl⟩
theorem th_X6_74_224_78 : zs_thr RX6 "java/lang/IndexOutOfBoundsException" "no such juror, round or piece" ["java/lang/RuntimeException", "java/lang/Exception"] 74 224 78 := ⟨by decide +kernel, by decide +kernel, aw_i 468 (by decide +kernel) (by decide +kernel), aw_i 63 (by decide +kernel) (by decide +kernel), by decide +kernel, rfl, by decide +kernel, by decide +kernel, by decide +kernel⟩
theorem th_X6_37_226_41 : zs_thr RX6 "java/lang/IllegalArgumentException" "a mark is 0 to 20" ["java/lang/RuntimeException", "java/lang/Exception"] 37 226 41 := ⟨by decide +kernel, by decide +kernel, aw_i 227 (by decide +kernel) (by decide +kernel), aw_i 55 (by decide +kernel) (by decide +kernel), by decide +kernel, rfl, by decide +kernel, by decide +kernel, by decide +kernel⟩
theorem th_X6_160_228_164 : zs_thr RX6 "java/lang/UnsupportedOperationException" "the piece was not heard in this round" ["java/lang/RuntimeException", "java/lang/Exception"] 160 228 164 := ⟨by decide +kernel, by decide +kernel, aw_i 568 (by decide +kernel) (by decide +kernel), aw_i 68 (by decide +kernel) (by decide +kernel), by decide +kernel, rfl, by decide +kernel, by decide +kernel, by decide +kernel⟩
theorem sV_X6_238 : zs_sV RX6 238 yX6_marksTold cX6_marksTold 4 (some .int) 0 := ⟨aw_i 125 (by decide +kernel) (by decide +kernel), aw_i 127 (by decide +kernel) (by decide +kernel), aw_i 0 (by decide +kernel) (by decide +kernel), aw_i 50 (by decide +kernel) (by decide +kernel), aw_i 128 (by decide +kernel) (by decide +kernel), ⟨by decide +kernel, by decide +kernel, by decide +kernel⟩⟩
theorem sV_X6_241 : zs_sV RX6 241 yX6_marksCounted cX6_marksCounted 4 (some .int) 0 := ⟨aw_i 132 (by decide +kernel) (by decide +kernel), aw_i 134 (by decide +kernel) (by decide +kernel), aw_i 1 (by decide +kernel) (by decide +kernel), aw_i 50 (by decide +kernel) (by decide +kernel), aw_i 135 (by decide +kernel) (by decide +kernel), ⟨by decide +kernel, by decide +kernel, by decide +kernel⟩⟩
theorem sV_X6_246 : zs_sV RX6 246 yX0_score cX0_score 9 (some .int) 0 := ⟨aw_i 206 (by decide +kernel) (by decide +kernel), aw_i 207 (by decide +kernel) (by decide +kernel), aw_i 208 (by decide +kernel) (by decide +kernel), aw_i 61 (by decide +kernel) (by decide +kernel), aw_i 209 (by decide +kernel) (by decide +kernel), ⟨by decide +kernel, by decide +kernel, by decide +kernel⟩⟩
theorem th_X6_74_244_78 : zs_thr RX6 "java/lang/IndexOutOfBoundsException" "no such round or piece" ["java/lang/RuntimeException", "java/lang/Exception"] 74 244 78 := ⟨by decide +kernel, by decide +kernel, aw_i 468 (by decide +kernel) (by decide +kernel), aw_i 63 (by decide +kernel) (by decide +kernel), by decide +kernel, rfl, by decide +kernel, by decide +kernel, by decide +kernel⟩
theorem sV_X6_249 : zs_sV RX6 249 yX6_pieceWithRank cX6_pieceWithRank 3 (some .int) 1 := ⟨aw_i 748 (by decide +kernel) (by decide +kernel), aw_i 750 (by decide +kernel) (by decide +kernel), aw_i 19 (by decide +kernel) (by decide +kernel), aw_i 50 (by decide +kernel) (by decide +kernel), aw_i 751 (by decide +kernel) (by decide +kernel), ⟨by decide +kernel, by decide +kernel, by decide +kernel⟩⟩
theorem th_X6_74_253_78 : zs_thr RX6 "java/lang/IndexOutOfBoundsException" "no such rank" ["java/lang/RuntimeException", "java/lang/Exception"] 74 253 78 := ⟨by decide +kernel, by decide +kernel, aw_i 468 (by decide +kernel) (by decide +kernel), aw_i 63 (by decide +kernel) (by decide +kernel), by decide +kernel, rfl, by decide +kernel, by decide +kernel, by decide +kernel⟩
theorem sV_X6_255 : zs_sV RX6 255 yX6_openScore cX6_openScore 4 (some .int) 1 := ⟨aw_i 194 (by decide +kernel) (by decide +kernel), aw_i 196 (by decide +kernel) (by decide +kernel), aw_i 9 (by decide +kernel) (by decide +kernel), aw_i 50 (by decide +kernel) (by decide +kernel), aw_i 197 (by decide +kernel) (by decide +kernel), ⟨by decide +kernel, by decide +kernel, by decide +kernel⟩⟩
theorem sV_X6_260 : zs_sV RX6 260 yX6_lastHeard cX6_lastHeard 4 (some .int) 1 := ⟨aw_i 768 (by decide +kernel) (by decide +kernel), aw_i 770 (by decide +kernel) (by decide +kernel), aw_i 20 (by decide +kernel) (by decide +kernel), aw_i 50 (by decide +kernel) (by decide +kernel), aw_i 771 (by decide +kernel) (by decide +kernel), ⟨by decide +kernel, by decide +kernel, by decide +kernel⟩⟩
theorem fl_X6_265 : zs_fl RX6 265 6 6 (.int) false := ⟨_, _, _, tyX6, rfl, by decide, uin_X6, aw_i 94 (by decide +kernel) (by decide +kernel), tyX6_ok, nmX6, rfl, rfl⟩
theorem nl_X6_27 : zs_nl RX6 27 2 3 tyX2 := ⟨_, _, rfl, uin_X2, tyX2_ok, aw_i 86 (by decide +kernel) (by decide +kernel), aw_i 774 (by decide +kernel) (by decide +kernel), aw_i 70 (by decide +kernel) (by decide +kernel)⟩
theorem sI_X6_270 : zs_sI RX6 270 yX2_init cX2_init 3 2 := ⟨aw_i 775 (by decide +kernel) (by decide +kernel), aw_i 776 (by decide +kernel) (by decide +kernel), aw_i 70 (by decide +kernel) (by decide +kernel), aw_i 777 (by decide +kernel) (by decide +kernel), rfl, ⟨by decide +kernel, by decide +kernel, by decide +kernel⟩⟩
theorem sV_X6_271 : zs_sV RX6 271 yX2_shareOut cX2_shareOut 7 (none : Option Jvm.ClassFile.FieldType) 1 := ⟨aw_i 792 (by decide +kernel) (by decide +kernel), aw_i 793 (by decide +kernel) (by decide +kernel), aw_i 794 (by decide +kernel) (by decide +kernel), aw_i 70 (by decide +kernel) (by decide +kernel), aw_i 795 (by decide +kernel) (by decide +kernel), ⟨by decide +kernel, by decide +kernel, by decide +kernel⟩⟩
theorem th_X6_37_258_41 : zs_thr RX6 "java/lang/IllegalArgumentException" "a prize has 1 to 9999 coins" ["java/lang/RuntimeException", "java/lang/Exception"] 37 258 41 := ⟨by decide +kernel, by decide +kernel, aw_i 227 (by decide +kernel) (by decide +kernel), aw_i 55 (by decide +kernel) (by decide +kernel), by decide +kernel, rfl, by decide +kernel, by decide +kernel, by decide +kernel⟩
theorem th_X6_160_263_164 : zs_thr RX6 "java/lang/UnsupportedOperationException" "the piece was never heard" ["java/lang/RuntimeException", "java/lang/Exception"] 160 263 164 := ⟨by decide +kernel, by decide +kernel, aw_i 568 (by decide +kernel) (by decide +kernel), aw_i 68 (by decide +kernel) (by decide +kernel), by decide +kernel, rfl, by decide +kernel, by decide +kernel, by decide +kernel⟩
theorem th_X6_51_268_55 : zs_thr RX6 "java/lang/IllegalStateException" "there are 12 prizes" ["java/lang/RuntimeException", "java/lang/Exception"] 51 268 55 := ⟨by decide +kernel, by decide +kernel, aw_i 299 (by decide +kernel) (by decide +kernel), aw_i 56 (by decide +kernel) (by decide +kernel), by decide +kernel, rfl, by decide +kernel, by decide +kernel, by decide +kernel⟩
theorem sV_X6_274 : zs_sV RX6 274 yX6_prizeAt cX6_prizeAt 2 (some (.object "ScoreSheaf$Prize")) 1 := ⟨aw_i 148 (by decide +kernel) (by decide +kernel), aw_i 150 (by decide +kernel) (by decide +kernel), aw_i 3 (by decide +kernel) (by decide +kernel), aw_i 50 (by decide +kernel) (by decide +kernel), aw_i 151 (by decide +kernel) (by decide +kernel), ⟨by decide +kernel, by decide +kernel, by decide +kernel⟩⟩
theorem fl_X6_280 : zs_fl RX6 280 2 0 (.int) true := ⟨_, _, _, tyX2, rfl, by decide, uin_X2, aw_i 780 (by decide +kernel) (by decide +kernel), tyX2_ok, nmX2, rfl, rfl⟩
theorem th_X6_74_278_78 : zs_thr RX6 "java/lang/IndexOutOfBoundsException" "no such prize" ["java/lang/RuntimeException", "java/lang/Exception"] 74 278 78 := ⟨by decide +kernel, by decide +kernel, aw_i 468 (by decide +kernel) (by decide +kernel), aw_i 63 (by decide +kernel) (by decide +kernel), by decide +kernel, rfl, by decide +kernel, by decide +kernel, by decide +kernel⟩
theorem fl_X6_283 : zs_fl RX6 283 2 2 (.array (.int)) true := ⟨_, _, _, tyX2, rfl, by decide, uin_X2, aw_i 784 (by decide +kernel) (by decide +kernel), tyX2_ok, nmX2, rfl, rfl⟩
theorem th_X6_74_281_78 : zs_thr RX6 "java/lang/IndexOutOfBoundsException" "no such prize or editor" ["java/lang/RuntimeException", "java/lang/Exception"] 74 281 78 := ⟨by decide +kernel, by decide +kernel, aw_i 468 (by decide +kernel) (by decide +kernel), aw_i 63 (by decide +kernel) (by decide +kernel), by decide +kernel, rfl, by decide +kernel, by decide +kernel, by decide +kernel⟩
theorem th_X6_74_286_78 : zs_thr RX6 "java/lang/IndexOutOfBoundsException" "no such editor" ["java/lang/RuntimeException", "java/lang/Exception"] 74 286 78 := ⟨by decide +kernel, by decide +kernel, aw_i 468 (by decide +kernel) (by decide +kernel), aw_i 63 (by decide +kernel) (by decide +kernel), by decide +kernel, rfl, by decide +kernel, by decide +kernel, by decide +kernel⟩
theorem sV_X6_290 : zs_sV RX6 290 yX5_partsBy cX5_partsBy 7 (some .int) 1 := ⟨aw_i 836 (by decide +kernel) (by decide +kernel), aw_i 797 (by decide +kernel) (by decide +kernel), aw_i 798 (by decide +kernel) (by decide +kernel), aw_i 57 (by decide +kernel) (by decide +kernel), aw_i 799 (by decide +kernel) (by decide +kernel), ⟨by decide +kernel, by decide +kernel, by decide +kernel⟩⟩
theorem th_X6_37_288_41 : zs_thr RX6 "java/lang/IllegalArgumentException" "editors are bits 0 to 5" ["java/lang/RuntimeException", "java/lang/Exception"] 37 288 41 := ⟨by decide +kernel, by decide +kernel, aw_i 227 (by decide +kernel) (by decide +kernel), aw_i 55 (by decide +kernel) (by decide +kernel), by decide +kernel, rfl, by decide +kernel, by decide +kernel, by decide +kernel⟩
theorem th_X6_293_295_297 : zs_thr RX6 "java/lang/ArithmeticException" "there are no marks" ["java/lang/RuntimeException", "java/lang/Exception"] 293 295 297 := ⟨by decide +kernel, by decide +kernel, aw_i 858 (by decide +kernel) (by decide +kernel), aw_i 71 (by decide +kernel) (by decide +kernel), by decide +kernel, rfl, by decide +kernel, by decide +kernel, by decide +kernel⟩
theorem sV_X6_300 : zs_sV RX6 300 yX6_sumCounted cX6_sumCounted 4 (some .int) 0 := ⟨aw_i 869 (by decide +kernel) (by decide +kernel), aw_i 871 (by decide +kernel) (by decide +kernel), aw_i 21 (by decide +kernel) (by decide +kernel), aw_i 50 (by decide +kernel) (by decide +kernel), aw_i 872 (by decide +kernel) (by decide +kernel), ⟨by decide +kernel, by decide +kernel, by decide +kernel⟩⟩
theorem th_X6_293_298_297 : zs_thr RX6 "java/lang/ArithmeticException" "no marks count" ["java/lang/RuntimeException", "java/lang/Exception"] 293 298 297 := ⟨by decide +kernel, by decide +kernel, aw_i 858 (by decide +kernel) (by decide +kernel), aw_i 71 (by decide +kernel) (by decide +kernel), by decide +kernel, rfl, by decide +kernel, by decide +kernel, by decide +kernel⟩
theorem sV_X6_303 : zs_sV RX6 303 yX5_sum cX5_sum 7 (some .long) 0 := ⟨aw_i 880 (by decide +kernel) (by decide +kernel), aw_i 881 (by decide +kernel) (by decide +kernel), aw_i 882 (by decide +kernel) (by decide +kernel), aw_i 57 (by decide +kernel) (by decide +kernel), aw_i 883 (by decide +kernel) (by decide +kernel), ⟨by decide +kernel, by decide +kernel, by decide +kernel⟩⟩
theorem sV_X6_307 : zs_sV RX6 307 yX6_prizesAreShared cX6_prizesAreShared 3 (some .boolean) 0 := ⟨aw_i 144 (by decide +kernel) (by decide +kernel), aw_i 146 (by decide +kernel) (by decide +kernel), aw_i 2 (by decide +kernel) (by decide +kernel), aw_i 50 (by decide +kernel) (by decide +kernel), aw_i 147 (by decide +kernel) (by decide +kernel), ⟨by decide +kernel, by decide +kernel, by decide +kernel⟩⟩
theorem sV_X6_311 : zs_sV RX6 311 yX6_writtenAreNear cX6_writtenAreNear 4 (some .boolean) 0 := ⟨aw_i 155 (by decide +kernel) (by decide +kernel), aw_i 157 (by decide +kernel) (by decide +kernel), aw_i 4 (by decide +kernel) (by decide +kernel), aw_i 50 (by decide +kernel) (by decide +kernel), aw_i 158 (by decide +kernel) (by decide +kernel), ⟨by decide +kernel, by decide +kernel, by decide +kernel⟩⟩
theorem sV_X6_314 : zs_sV RX6 314 yX6_ranksAreOwn cX6_ranksAreOwn 4 (some .boolean) 0 := ⟨aw_i 182 (by decide +kernel) (by decide +kernel), aw_i 184 (by decide +kernel) (by decide +kernel), aw_i 6 (by decide +kernel) (by decide +kernel), aw_i 50 (by decide +kernel) (by decide +kernel), aw_i 185 (by decide +kernel) (by decide +kernel), ⟨by decide +kernel, by decide +kernel, by decide +kernel⟩⟩
theorem sS_X6_317 : zs_sS RX6 317 yJ7_fill_53178 cJ7_fill_53178 4 (none : Option Jvm.ClassFile.FieldType) 2 := ⟨aw_i 622 (by decide +kernel) (by decide +kernel), aw_i 414 (by decide +kernel) (by decide +kernel), aw_i 62 (by decide +kernel) (by decide +kernel), aw_i 415 (by decide +kernel) (by decide +kernel), ⟨by decide +kernel, by decide +kernel, by decide +kernel⟩⟩
theorem sS_X6_321 : zs_sS RX6 321 yX6_countOf cX6_countOf 6 (some .int) 1 := ⟨aw_i 129 (by decide +kernel) (by decide +kernel), aw_i 130 (by decide +kernel) (by decide +kernel), aw_i 50 (by decide +kernel) (by decide +kernel), aw_i 131 (by decide +kernel) (by decide +kernel), ⟨by decide +kernel, by decide +kernel, by decide +kernel⟩⟩
theorem sS_X6_325 : zs_sS RX6 325 yX6_sumOf cX6_sumOf 6 (some .int) 1 := ⟨aw_i 152 (by decide +kernel) (by decide +kernel), aw_i 153 (by decide +kernel) (by decide +kernel), aw_i 50 (by decide +kernel) (by decide +kernel), aw_i 154 (by decide +kernel) (by decide +kernel), ⟨by decide +kernel, by decide +kernel, by decide +kernel⟩⟩
theorem sV_X6_328 : zs_sV RX6 328 yX6_scoreIn cX6_scoreIn 4 (some .int) 2 := ⟨aw_i 198 (by decide +kernel) (by decide +kernel), aw_i 200 (by decide +kernel) (by decide +kernel), aw_i 10 (by decide +kernel) (by decide +kernel), aw_i 50 (by decide +kernel) (by decide +kernel), aw_i 201 (by decide +kernel) (by decide +kernel), ⟨by decide +kernel, by decide +kernel, by decide +kernel⟩⟩
theorem sV_X6_332 : zs_sV RX6 332 yX0_fallingMarks cX0_fallingMarks 7 (some .long) 0 := ⟨aw_i 214 (by decide +kernel) (by decide +kernel), aw_i 215 (by decide +kernel) (by decide +kernel), aw_i 216 (by decide +kernel) (by decide +kernel), aw_i 61 (by decide +kernel) (by decide +kernel), aw_i 217 (by decide +kernel) (by decide +kernel), ⟨by decide +kernel, by decide +kernel, by decide +kernel⟩⟩
theorem sV_X6_335 : zs_sV RX6 335 yX6_fallingMarksIn cX6_fallingMarksIn 4 (some .long) 2 := ⟨aw_i 210 (by decide +kernel) (by decide +kernel), aw_i 212 (by decide +kernel) (by decide +kernel), aw_i 12 (by decide +kernel) (by decide +kernel), aw_i 50 (by decide +kernel) (by decide +kernel), aw_i 213 (by decide +kernel) (by decide +kernel), ⟨by decide +kernel, by decide +kernel, by decide +kernel⟩⟩
theorem sV_X6_339 : zs_sV RX6 339 yX6_isAhead cX6_isAhead 10 (some .boolean) 2 := ⟨aw_i 190 (by decide +kernel) (by decide +kernel), aw_i 192 (by decide +kernel) (by decide +kernel), aw_i 8 (by decide +kernel) (by decide +kernel), aw_i 50 (by decide +kernel) (by decide +kernel), aw_i 193 (by decide +kernel) (by decide +kernel), ⟨by decide +kernel, by decide +kernel, by decide +kernel⟩⟩
theorem sV_X6_343 : zs_sV RX6 343 yX6_rankOf cX6_rankOf 4 (some .int) 1 := ⟨aw_i 186 (by decide +kernel) (by decide +kernel), aw_i 188 (by decide +kernel) (by decide +kernel), aw_i 7 (by decide +kernel) (by decide +kernel), aw_i 50 (by decide +kernel) (by decide +kernel), aw_i 189 (by decide +kernel) (by decide +kernel), ⟨by decide +kernel, by decide +kernel, by decide +kernel⟩⟩
theorem fl_X6_346 : zs_fl RX6 346 2 1 (.int) true := ⟨_, _, _, tyX2, rfl, by decide, uin_X2, aw_i 782 (by decide +kernel) (by decide +kernel), tyX2_ok, nmX2, rfl, rfl⟩
theorem fl_X6_349 : zs_fl RX6 349 5 3 (.int) true := ⟨_, _, _, tyX5, rfl, by decide, uin_X5, aw_i 329 (by decide +kernel) (by decide +kernel), tyX5_ok, nmX5, rfl, rfl⟩
theorem nl_X6_179 : zs_nl RX6 179 4 2 tyX4 := ⟨_, _, rfl, uin_X4, tyX4_ok, aw_i 364 (by decide +kernel) (by decide +kernel), aw_i 365 (by decide +kernel) (by decide +kernel), aw_i 59 (by decide +kernel) (by decide +kernel)⟩
theorem sIN_X6_352 : zs_sIN RX6 352 yX4_init "ScoreSheaf" cX4_init 1 0 := ⟨(by decide +kernel), aw_i 367 (by decide +kernel) (by decide +kernel), aw_i 59 (by decide +kernel) (by decide +kernel), aw_i 368 (by decide +kernel) (by decide +kernel), rfl, ⟨by decide +kernel, by decide +kernel, by decide +kernel⟩⟩
theorem sV_X6_353 : zs_sV RX6 353 yX4_take cX4_take 2 (none : Option Jvm.ClassFile.FieldType) 1 := ⟨aw_i 381 (by decide +kernel) (by decide +kernel), aw_i 382 (by decide +kernel) (by decide +kernel), aw_i 383 (by decide +kernel) (by decide +kernel), aw_i 59 (by decide +kernel) (by decide +kernel), aw_i 384 (by decide +kernel) (by decide +kernel), ⟨by decide +kernel, by decide +kernel, by decide +kernel⟩⟩
theorem sV_X6_357 : zs_sV RX6 357 yX4_isLike cX4_isLike 4 (some .boolean) 1 := ⟨aw_i 170 (by decide +kernel) (by decide +kernel), aw_i 171 (by decide +kernel) (by decide +kernel), aw_i 172 (by decide +kernel) (by decide +kernel), aw_i 59 (by decide +kernel) (by decide +kernel), aw_i 173 (by decide +kernel) (by decide +kernel), ⟨by decide +kernel, by decide +kernel, by decide +kernel⟩⟩
theorem sS_J7_304 : zs_sS RJ7 304 yJ9_min_7cf53 cJ9_min_7cf53 2 (some .int) 2 := ⟨aw_i 530 (by decide +kernel) (by decide +kernel), aw_i 531 (by decide +kernel) (by decide +kernel), aw_i 66 (by decide +kernel) (by decide +kernel), aw_i 532 (by decide +kernel) (by decide +kernel), ⟨by decide +kernel, by decide +kernel, by decide +kernel⟩⟩
end
section
/-! pure words: sums, folds, rows and sheaves -/
def sm (f : Nat → Nat) : Nat → Nat
  | 0 => 0
  | n + 1 => sm f n + f n
theorem sm_congr {f g : Nat → Nat} : ∀ {n : Nat}, (∀ j, j < n → f j = g j) → sm f n = sm g n
  | 0, _ => rfl
  | n + 1, h => by
    show sm f n + f n = sm g n + g n
    rw [sm_congr (fun j hj => h j (Nat.lt_succ_of_lt hj)), h n (Nat.lt_succ_self n)]
theorem sm_le {f : Nat → Nat} {c : Nat} : ∀ {n : Nat}, (∀ j, j < n → f j ≤ c) → sm f n ≤ c * n
  | 0, _ => Nat.le_refl _
  | n + 1, h => by
    have h1 := sm_le (f := f) (c := c) (n := n) (fun j hj => h j (Nat.lt_succ_of_lt hj))
    have h2 := h n (Nat.lt_succ_self n)
    show sm f n + f n ≤ c * (n + 1)
    rw [Nat.mul_succ]
    omega
theorem sm_mono {f : Nat → Nat} {m : Nat} : ∀ {n : Nat}, m ≤ n → sm f m ≤ sm f n
  | 0, h => by rw [Nat.le_zero.mp h]; exact Nat.le_refl _
  | n + 1, h => by
    rcases Nat.lt_or_ge m (n + 1) with q | q
    · exact Nat.le_trans (sm_mono (Nat.le_of_lt_succ q)) (Nat.le_add_right _ _)
    · rw [Nat.le_antisymm h q]; exact Nat.le_refl _
/-- the greatest below n with p -/
noncomputable def gr (p : Nat → Prop) : Nat → Option Nat
  | 0 => none
  | n + 1 => @ite (Option Nat) (p n) (Classical.propDecidable _) (some n) (gr p n)
theorem gr_t {p : Nat → Prop} {n : Nat} (h : p n) : gr p (n + 1) = some n := @if_pos _ (Classical.propDecidable _) h _ _ _
theorem gr_f {p : Nat → Prop} {n : Nat} (h : ¬ p n) : gr p (n + 1) = gr p n := @if_neg _ (Classical.propDecidable _) h _ _ _
theorem gr_spec {p : Nat → Prop} : ∀ {n k : Nat}, gr p n = some k ↔ (k < n ∧ p k ∧ ∀ j, k < j → j < n → ¬ p j)
  | 0, k => by simp [gr]
  | n + 1, k => by
    by_cases h : p n
    · rw [gr_t h]
      constructor
      · intro q; cases q; exact ⟨Nat.lt_succ_self _, h, fun j h1 h2 => by omega⟩
      · rintro ⟨h1, h2, h3⟩
        rcases Nat.lt_or_ge k n with q | q
        · exact absurd h (h3 n q (Nat.lt_succ_self _))
        · rw [show k = n by omega]
    · rw [gr_f h, gr_spec]
      constructor
      · rintro ⟨h1, h2, h3⟩
        exact ⟨by omega, h2, fun j q1 q2 => by
          rcases Nat.lt_or_ge j n with z | z
          · exact h3 j q1 z
          · rw [show j = n by omega]; exact h⟩
      · rintro ⟨h1, h2, h3⟩
        have : k ≠ n := fun e => h (e ▸ h2)
        exact ⟨by omega, h2, fun j q1 q2 => h3 j q1 (by omega)⟩
theorem gr_none {p : Nat → Prop} : ∀ {n : Nat}, gr p n = none ↔ ∀ j, j < n → ¬ p j
  | 0 => by simp [gr]
  | n + 1 => by
    by_cases h : p n
    · rw [gr_t h]
      constructor
      · intro q; cases q
      · intro q; exact absurd h (q n (Nat.lt_succ_self _))
    · rw [gr_f h, gr_none]
      constructor
      · intro q j hj
        rcases Nat.lt_or_ge j n with z | z
        · exact q j z
        · rw [show j = n by omega]; exact h
      · intro q j hj; exact q j (by omega)
theorem gr_congr {p q : Nat → Prop} : ∀ {n : Nat}, (∀ j, j < n → (p j ↔ q j)) → gr p n = gr q n
  | 0, _ => rfl
  | n + 1, h => by
    have ih := gr_congr (p := p) (q := q) (n := n) (fun j hj => h j (by omega))
    by_cases z : p n
    · rw [gr_t z, gr_t ((h n (by omega)).mp z)]
    · rw [gr_f z, gr_f (fun y => z ((h n (by omega)).mpr y)), ih]
/-- a fold over the numbers below n -/
def itn {σ : Type} (f : Nat → σ → σ) : Nat → σ → σ
  | 0, s => s
  | n + 1, s => f n (itn f n s)
theorem itn_congr {σ : Type} {f g : Nat → σ → σ} : ∀ {n : Nat} {s : σ}, (∀ j, j < n → ∀ x, f j x = g j x) → itn f n s = itn g n s
  | 0, _, _ => rfl
  | n + 1, s, h => by
    show f n (itn f n s) = g n (itn g n s)
    rw [itn_congr (g := g) (fun j hj => h j (Nat.lt_succ_of_lt hj)), h n (Nat.lt_succ_self n)]
theorem itn_add {σ : Type} {f : Nat → σ → σ} (m : Nat) : ∀ (n : Nat) (s : σ), itn f (m + n) s = itn (fun k => f (m + k)) n (itn f m s)
  | 0, _ => rfl
  | n + 1, s => by
    show f (m + n) (itn f (m + n) s) = f (m + n) (itn (fun k => f (m + k)) n (itn f m s))
    rw [itn_add m n s]
theorem sm_itn (f : Nat → Nat) : ∀ n : Nat, sm f n = itn (fun k x => x + f k) n 0
  | 0 => rfl
  | n + 1 => by
    show sm f n + f n = itn (fun k x => x + f k) n 0 + f n
    rw [sm_itn f n]
/-- the slots of a version, four to a bar, against the sheaves of a piece of b bars of q parts, one behind another -/
theorem itn_slots {σ : Type} (g : Nat → σ → σ) {b q : Nat} (hb : b ≤ 8) (hq : q ≤ 4) (s : σ) :
    itn (fun j x => if j / 4 < b ∧ j % 4 < q then g (q * (j / 4) + j % 4) x else x) 32 s = itn g (b * q) s := by
  have h4 : ∀ i : Nat, ∀ x : σ, itn (fun j y => if j / 4 < b ∧ j % 4 < q then g (q * (j / 4) + j % 4) y else y) (4 * i) x = itn g (min i b * q) x := by
    intro i
    induction i with
    | zero => intro x; simp [itn]
    | succ i ih =>
      intro x
      have hm : itn g (min (i + 1) b * q) x = if i < b then itn (fun k => g (q * i + k)) q (itn g (min i b * q) x) else itn g (min i b * q) x := by
        by_cases h : i < b
        · rw [if_pos h, show min (i + 1) b = i + 1 by omega, show min i b = i by omega, Nat.succ_mul, itn_add, Nat.mul_comm i q]
        · rw [if_neg h, show min (i + 1) b = min i b by omega]
      rw [Nat.mul_succ, itn_add, ih x, hm]
      generalize itn g (min i b * q) x = y
      have e1 : (4 * i) / 4 = i := by omega
      have e2 : (4 * i + 1) / 4 = i := by omega
      have e3 : (4 * i + 2) / 4 = i := by omega
      have e4 : (4 * i + 3) / 4 = i := by omega
      have f1 : (4 * i) % 4 = 0 := by omega
      have f2 : (4 * i + 1) % 4 = 1 := by omega
      have f3 : (4 * i + 2) % 4 = 2 := by omega
      have f4 : (4 * i + 3) % 4 = 3 := by omega
      simp only [itn, Nat.add_zero, e1, e2, e3, e4, f1, f2, f3, f4]
      by_cases h : i < b
      · rcases (show q = 0 ∨ q = 1 ∨ q = 2 ∨ q = 3 ∨ q = 4 by omega) with rfl | rfl | rfl | rfl | rfl <;> simp [itn, h]
      · simp [h]
  have h8 := h4 8 s
  rw [show min 8 b = b by omega] at h8
  exact h8
end
section
theorem zs_ind1 {σ1 : Type} {A : Nat → Prop} {p : Program} {l : Launch} {e : Env} {R : Room} {s : State} {m : MethodId} {args : Array Value} {below : List Frame} {meth : Method} {c : Code} {nL : Nat} {Q : State → Prop} {pc : Nat} (Hs : σ1 → Heap) (ks ns : σ1 → Nat) (los : σ1 → List (Nat × Value)) (I : σ1 → Prop) (μ : σ1 → Nat) (x1 : σ1) (h0 : I x1) (hb : ∀ (a1 : σ1), I a1 → (∀ (b1 : σ1), I b1 → μ b1 < μ a1 → zs_W A p l e R s m args below meth c nL Q (Hs b1) (ks b1) (ns b1) pc (los b1) []) → zs_W A p l e R s m args below meth c nL Q (Hs a1) (ks a1) (ns a1) pc (los a1) []) : zs_W A p l e R s m args below meth c nL Q (Hs x1) (ks x1) (ns x1) pc (los x1) [] := by
  have key : ∀ (t : Nat) (a1 : σ1), μ a1 < t → I a1 → zs_W A p l e R s m args below meth c nL Q (Hs a1) (ks a1) (ns a1) pc (los a1) [] := by
    intro t
    induction t with
    | zero => intro a1 h; exact absurd h (Nat.not_lt_zero _)
    | succ t ih => intro a1 h hi; exact hb a1 hi (fun b1 h1 h2 => ih b1 (Nat.lt_of_lt_of_le h2 (Nat.le_of_lt_succ h)) h1)
  exact key _ x1 (Nat.lt_succ_self _) h0
theorem zs_ind2 {σ1 σ2 : Type} {A : Nat → Prop} {p : Program} {l : Launch} {e : Env} {R : Room} {s : State} {m : MethodId} {args : Array Value} {below : List Frame} {meth : Method} {c : Code} {nL : Nat} {Q : State → Prop} {pc : Nat} (Hs : σ1 → σ2 → Heap) (ks ns : σ1 → σ2 → Nat) (los : σ1 → σ2 → List (Nat × Value)) (I : σ1 → σ2 → Prop) (μ : σ1 → σ2 → Nat) (x1 : σ1) (x2 : σ2) (h0 : I x1 x2) (hb : ∀ (a1 : σ1) (a2 : σ2), I a1 a2 → (∀ (b1 : σ1) (b2 : σ2), I b1 b2 → μ b1 b2 < μ a1 a2 → zs_W A p l e R s m args below meth c nL Q (Hs b1 b2) (ks b1 b2) (ns b1 b2) pc (los b1 b2) []) → zs_W A p l e R s m args below meth c nL Q (Hs a1 a2) (ks a1 a2) (ns a1 a2) pc (los a1 a2) []) : zs_W A p l e R s m args below meth c nL Q (Hs x1 x2) (ks x1 x2) (ns x1 x2) pc (los x1 x2) [] := by
  have key : ∀ (t : Nat) (a1 : σ1) (a2 : σ2), μ a1 a2 < t → I a1 a2 → zs_W A p l e R s m args below meth c nL Q (Hs a1 a2) (ks a1 a2) (ns a1 a2) pc (los a1 a2) [] := by
    intro t
    induction t with
    | zero => intro a1 a2 h; exact absurd h (Nat.not_lt_zero _)
    | succ t ih => intro a1 a2 h hi; exact hb a1 a2 hi (fun b1 b2 h1 h2 => ih b1 b2 (Nat.lt_of_lt_of_le h2 (Nat.le_of_lt_succ h)) h1)
  exact key _ x1 x2 (Nat.lt_succ_self _) h0
theorem zs_ind3 {σ1 σ2 σ3 : Type} {A : Nat → Prop} {p : Program} {l : Launch} {e : Env} {R : Room} {s : State} {m : MethodId} {args : Array Value} {below : List Frame} {meth : Method} {c : Code} {nL : Nat} {Q : State → Prop} {pc : Nat} (Hs : σ1 → σ2 → σ3 → Heap) (ks ns : σ1 → σ2 → σ3 → Nat) (los : σ1 → σ2 → σ3 → List (Nat × Value)) (I : σ1 → σ2 → σ3 → Prop) (μ : σ1 → σ2 → σ3 → Nat) (x1 : σ1) (x2 : σ2) (x3 : σ3) (h0 : I x1 x2 x3) (hb : ∀ (a1 : σ1) (a2 : σ2) (a3 : σ3), I a1 a2 a3 → (∀ (b1 : σ1) (b2 : σ2) (b3 : σ3), I b1 b2 b3 → μ b1 b2 b3 < μ a1 a2 a3 → zs_W A p l e R s m args below meth c nL Q (Hs b1 b2 b3) (ks b1 b2 b3) (ns b1 b2 b3) pc (los b1 b2 b3) []) → zs_W A p l e R s m args below meth c nL Q (Hs a1 a2 a3) (ks a1 a2 a3) (ns a1 a2 a3) pc (los a1 a2 a3) []) : zs_W A p l e R s m args below meth c nL Q (Hs x1 x2 x3) (ks x1 x2 x3) (ns x1 x2 x3) pc (los x1 x2 x3) [] := by
  have key : ∀ (t : Nat) (a1 : σ1) (a2 : σ2) (a3 : σ3), μ a1 a2 a3 < t → I a1 a2 a3 → zs_W A p l e R s m args below meth c nL Q (Hs a1 a2 a3) (ks a1 a2 a3) (ns a1 a2 a3) pc (los a1 a2 a3) [] := by
    intro t
    induction t with
    | zero => intro a1 a2 a3 h; exact absurd h (Nat.not_lt_zero _)
    | succ t ih => intro a1 a2 a3 h hi; exact hb a1 a2 a3 hi (fun b1 b2 b3 h1 h2 => ih b1 b2 b3 (Nat.lt_of_lt_of_le h2 (Nat.le_of_lt_succ h)) h1)
  exact key _ x1 x2 x3 (Nat.lt_succ_self _) h0
theorem zs_ind4 {σ1 σ2 σ3 σ4 : Type} {A : Nat → Prop} {p : Program} {l : Launch} {e : Env} {R : Room} {s : State} {m : MethodId} {args : Array Value} {below : List Frame} {meth : Method} {c : Code} {nL : Nat} {Q : State → Prop} {pc : Nat} (Hs : σ1 → σ2 → σ3 → σ4 → Heap) (ks ns : σ1 → σ2 → σ3 → σ4 → Nat) (los : σ1 → σ2 → σ3 → σ4 → List (Nat × Value)) (I : σ1 → σ2 → σ3 → σ4 → Prop) (μ : σ1 → σ2 → σ3 → σ4 → Nat) (x1 : σ1) (x2 : σ2) (x3 : σ3) (x4 : σ4) (h0 : I x1 x2 x3 x4) (hb : ∀ (a1 : σ1) (a2 : σ2) (a3 : σ3) (a4 : σ4), I a1 a2 a3 a4 → (∀ (b1 : σ1) (b2 : σ2) (b3 : σ3) (b4 : σ4), I b1 b2 b3 b4 → μ b1 b2 b3 b4 < μ a1 a2 a3 a4 → zs_W A p l e R s m args below meth c nL Q (Hs b1 b2 b3 b4) (ks b1 b2 b3 b4) (ns b1 b2 b3 b4) pc (los b1 b2 b3 b4) []) → zs_W A p l e R s m args below meth c nL Q (Hs a1 a2 a3 a4) (ks a1 a2 a3 a4) (ns a1 a2 a3 a4) pc (los a1 a2 a3 a4) []) : zs_W A p l e R s m args below meth c nL Q (Hs x1 x2 x3 x4) (ks x1 x2 x3 x4) (ns x1 x2 x3 x4) pc (los x1 x2 x3 x4) [] := by
  have key : ∀ (t : Nat) (a1 : σ1) (a2 : σ2) (a3 : σ3) (a4 : σ4), μ a1 a2 a3 a4 < t → I a1 a2 a3 a4 → zs_W A p l e R s m args below meth c nL Q (Hs a1 a2 a3 a4) (ks a1 a2 a3 a4) (ns a1 a2 a3 a4) pc (los a1 a2 a3 a4) [] := by
    intro t
    induction t with
    | zero => intro a1 a2 a3 a4 h; exact absurd h (Nat.not_lt_zero _)
    | succ t ih => intro a1 a2 a3 a4 h hi; exact hb a1 a2 a3 a4 hi (fun b1 b2 b3 b4 h1 h2 => ih b1 b2 b3 b4 (Nat.lt_of_lt_of_le h2 (Nat.le_of_lt_succ h)) h1)
  exact key _ x1 x2 x3 x4 (Nat.lt_succ_self _) h0
theorem zs_ind5 {σ1 σ2 σ3 σ4 σ5 : Type} {A : Nat → Prop} {p : Program} {l : Launch} {e : Env} {R : Room} {s : State} {m : MethodId} {args : Array Value} {below : List Frame} {meth : Method} {c : Code} {nL : Nat} {Q : State → Prop} {pc : Nat} (Hs : σ1 → σ2 → σ3 → σ4 → σ5 → Heap) (ks ns : σ1 → σ2 → σ3 → σ4 → σ5 → Nat) (los : σ1 → σ2 → σ3 → σ4 → σ5 → List (Nat × Value)) (I : σ1 → σ2 → σ3 → σ4 → σ5 → Prop) (μ : σ1 → σ2 → σ3 → σ4 → σ5 → Nat) (x1 : σ1) (x2 : σ2) (x3 : σ3) (x4 : σ4) (x5 : σ5) (h0 : I x1 x2 x3 x4 x5) (hb : ∀ (a1 : σ1) (a2 : σ2) (a3 : σ3) (a4 : σ4) (a5 : σ5), I a1 a2 a3 a4 a5 → (∀ (b1 : σ1) (b2 : σ2) (b3 : σ3) (b4 : σ4) (b5 : σ5), I b1 b2 b3 b4 b5 → μ b1 b2 b3 b4 b5 < μ a1 a2 a3 a4 a5 → zs_W A p l e R s m args below meth c nL Q (Hs b1 b2 b3 b4 b5) (ks b1 b2 b3 b4 b5) (ns b1 b2 b3 b4 b5) pc (los b1 b2 b3 b4 b5) []) → zs_W A p l e R s m args below meth c nL Q (Hs a1 a2 a3 a4 a5) (ks a1 a2 a3 a4 a5) (ns a1 a2 a3 a4 a5) pc (los a1 a2 a3 a4 a5) []) : zs_W A p l e R s m args below meth c nL Q (Hs x1 x2 x3 x4 x5) (ks x1 x2 x3 x4 x5) (ns x1 x2 x3 x4 x5) pc (los x1 x2 x3 x4 x5) [] := by
  have key : ∀ (t : Nat) (a1 : σ1) (a2 : σ2) (a3 : σ3) (a4 : σ4) (a5 : σ5), μ a1 a2 a3 a4 a5 < t → I a1 a2 a3 a4 a5 → zs_W A p l e R s m args below meth c nL Q (Hs a1 a2 a3 a4 a5) (ks a1 a2 a3 a4 a5) (ns a1 a2 a3 a4 a5) pc (los a1 a2 a3 a4 a5) [] := by
    intro t
    induction t with
    | zero => intro a1 a2 a3 a4 a5 h; exact absurd h (Nat.not_lt_zero _)
    | succ t ih => intro a1 a2 a3 a4 a5 h hi; exact hb a1 a2 a3 a4 a5 hi (fun b1 b2 b3 b4 b5 h1 h2 => ih b1 b2 b3 b4 b5 (Nat.lt_of_lt_of_le h2 (Nat.le_of_lt_succ h)) h1)
  exact key _ x1 x2 x3 x4 x5 (Nat.lt_succ_self _) h0
theorem zs_ind6 {σ1 σ2 σ3 σ4 σ5 σ6 : Type} {A : Nat → Prop} {p : Program} {l : Launch} {e : Env} {R : Room} {s : State} {m : MethodId} {args : Array Value} {below : List Frame} {meth : Method} {c : Code} {nL : Nat} {Q : State → Prop} {pc : Nat} (Hs : σ1 → σ2 → σ3 → σ4 → σ5 → σ6 → Heap) (ks ns : σ1 → σ2 → σ3 → σ4 → σ5 → σ6 → Nat) (los : σ1 → σ2 → σ3 → σ4 → σ5 → σ6 → List (Nat × Value)) (I : σ1 → σ2 → σ3 → σ4 → σ5 → σ6 → Prop) (μ : σ1 → σ2 → σ3 → σ4 → σ5 → σ6 → Nat) (x1 : σ1) (x2 : σ2) (x3 : σ3) (x4 : σ4) (x5 : σ5) (x6 : σ6) (h0 : I x1 x2 x3 x4 x5 x6) (hb : ∀ (a1 : σ1) (a2 : σ2) (a3 : σ3) (a4 : σ4) (a5 : σ5) (a6 : σ6), I a1 a2 a3 a4 a5 a6 → (∀ (b1 : σ1) (b2 : σ2) (b3 : σ3) (b4 : σ4) (b5 : σ5) (b6 : σ6), I b1 b2 b3 b4 b5 b6 → μ b1 b2 b3 b4 b5 b6 < μ a1 a2 a3 a4 a5 a6 → zs_W A p l e R s m args below meth c nL Q (Hs b1 b2 b3 b4 b5 b6) (ks b1 b2 b3 b4 b5 b6) (ns b1 b2 b3 b4 b5 b6) pc (los b1 b2 b3 b4 b5 b6) []) → zs_W A p l e R s m args below meth c nL Q (Hs a1 a2 a3 a4 a5 a6) (ks a1 a2 a3 a4 a5 a6) (ns a1 a2 a3 a4 a5 a6) pc (los a1 a2 a3 a4 a5 a6) []) : zs_W A p l e R s m args below meth c nL Q (Hs x1 x2 x3 x4 x5 x6) (ks x1 x2 x3 x4 x5 x6) (ns x1 x2 x3 x4 x5 x6) pc (los x1 x2 x3 x4 x5 x6) [] := by
  have key : ∀ (t : Nat) (a1 : σ1) (a2 : σ2) (a3 : σ3) (a4 : σ4) (a5 : σ5) (a6 : σ6), μ a1 a2 a3 a4 a5 a6 < t → I a1 a2 a3 a4 a5 a6 → zs_W A p l e R s m args below meth c nL Q (Hs a1 a2 a3 a4 a5 a6) (ks a1 a2 a3 a4 a5 a6) (ns a1 a2 a3 a4 a5 a6) pc (los a1 a2 a3 a4 a5 a6) [] := by
    intro t
    induction t with
    | zero => intro a1 a2 a3 a4 a5 a6 h; exact absurd h (Nat.not_lt_zero _)
    | succ t ih => intro a1 a2 a3 a4 a5 a6 h hi; exact hb a1 a2 a3 a4 a5 a6 hi (fun b1 b2 b3 b4 b5 b6 h1 h2 => ih b1 b2 b3 b4 b5 b6 (Nat.lt_of_lt_of_le h2 (Nat.le_of_lt_succ h)) h1)
  exact key _ x1 x2 x3 x4 x5 x6 (Nat.lt_succ_self _) h0
end
section
/-! rows and sheaves of the class: what the cells hold; κ a = 0: a cell that stays as it is -/
abbrev sp_R : Type := Nat × List Nat
abbrev sp_Sh : Type := List sp_R
def sp_rok (r : sp_R) : Prop := r.1 < 6 ∧ r.2.length ≤ 8 ∧ ∀ x ∈ r.2, x ≤ 99
abbrev sp_d0 : sp_R := (0, [])
def cs_row (D : va_G) (E : Nat → ClassId) (κ : Nat → Nat) (H : Heap) (a : Nat) (r : sp_R) : Prop := sp_rok r ∧ κ a = 0 ∧ ∃ na : Nat, κ na = 0 ∧ zs_pt D a (.inr (3, [.int (nI r.1), .ref na])) H ∧ zs_pt D na (.inl (E 0, r.2.length, .inl (fun j => nI (r.2.getD j 0)))) H
def cs_sh (D : va_G) (E : Nat → ClassId) (κ : Nat → Nat) (H : Heap) (a : Nat) (rs : sp_Sh) : Prop := rs.length ≤ 4 ∧ κ a = 0 ∧ ∃ (ha : Nat) (f : Nat → Option Nat), κ ha = 0 ∧ zs_pt D a (.inr (4, [.ref ha, .int (nI rs.length)])) H ∧ zs_pt D ha (.inl (E 10, 4, .inr (.inr (.inr (.inr f))))) H ∧ ∀ j, j < rs.length → ∃ b : Nat, f j = some b ∧ cs_row D E κ H b (rs.getD j sp_d0)
/-- the cells that stay as they are, stay -/
def cs_kp (κ : Nat → Nat) (H H1 : Heap) : Prop := ∀ q, q < H.size → κ q = 0 → H1[q]? = H[q]?
theorem cs_row.kept {D : va_G} {E : Nat → ClassId} {κ : Nat → Nat} {H H1 : Heap} {a : Nat} {r : sp_R} (h : cs_row D E κ H a r) (hk : cs_kp κ H H1) : cs_row D E κ H1 a r := by
  obtain ⟨h0, h1, na, h2, h3, h4⟩ := h
  exact ⟨h0, h1, na, h2, h3.kept (hk _ h3.lt h1), h4.kept (hk _ h4.lt h2)⟩
theorem cs_sh.kept {D : va_G} {E : Nat → ClassId} {κ : Nat → Nat} {H H1 : Heap} {a : Nat} {rs : sp_Sh} (h : cs_sh D E κ H a rs) (hk : cs_kp κ H H1) : cs_sh D E κ H1 a rs := by
  obtain ⟨h0, h1, ha, f, h2, h3, h4, h5⟩ := h
  exact ⟨h0, h1, ha, f, h2, h3.kept (hk _ h3.lt h1), h4.kept (hk _ h4.lt h2), fun j hj => (h5 j hj).imp fun b q => ⟨q.1, q.2.kept hk⟩⟩
theorem gd_out {α : Type} {l : List α} {j : Nat} {d : α} (h : l.length ≤ j) : l.getD j d = d := by simp [List.getD, List.getElem?_eq_none h]
theorem gd_mem {α : Type} {l : List α} {j : Nat} {d : α} (h : j < l.length) : l.getD j d ∈ l := by
  simp [List.getD, List.getElem?_eq_getElem h]
theorem gd_ext {α : Type} {l l' : List α} (d : α) (h : l.length = l'.length) (hj : ∀ j, j < l.length → l.getD j d = l'.getD j d) : l = l' := by
  apply List.ext_getElem? 
  intro j
  rcases Nat.lt_or_ge j l.length with q | q
  · have := hj j q
    simp [List.getD, List.getElem?_eq_getElem q, List.getElem?_eq_getElem (h ▸ q)] at this
    rw [List.getElem?_eq_getElem q, List.getElem?_eq_getElem (h ▸ q), this]
  · rw [List.getElem?_eq_none q, List.getElem?_eq_none (by omega)]
theorem gd_gt {l : List Nat} {c : Nat} (h : ∀ x ∈ l, x ≤ c) (j : Nat) : l.getD j 0 ≤ c := by
  rcases Nat.lt_or_ge j l.length with q | q
  · exact h _ (gd_mem q)
  · rw [gd_out q]; exact Nat.zero_le _
/-- the sum over a row -/
def sp_ns (l : List Nat) (s : Int64) : Nat → Int64
  | 0 => s
  | k + 1 => 31 * sp_ns l s k + lN (l.getD k 0)
def sp_rs (r : sp_R) (s : Int64) : Int64 := 31 * sp_ns r.2 (31 * s + lN r.1) r.2.length + 100
/-- the parts of a row, for some editors (as bits) -/
def sp_rp (ed : Nat) (r : sp_R) : Nat := if ed / 2 ^ r.1 % 2 = 1 then r.2.length + 1 else 0
theorem sp_bit0 : ∀ ed : Nat, ed < 64 → ∀ e : Nat, e < 6 → (nI ed >>> (nI e &&& 31)) &&& nI 1 = nI (ed / 2 ^ e % 2) := by decide +kernel
/-- an argument that is one of the numbers below n -/
def sp_i (x : Int32) (n : Nat) : Option Nat := if 0 ≤ x.toInt ∧ x.toInt < n then some x.toInt.toNat else none
theorem sp_i_in {j n : Nat} (h : j < n) (hn : n < 2 ^ 31) : sp_i (nI j) n = some j := by
  have e : (nI j).toInt = (j : Int) := nI_toInt (by omega)
  unfold sp_i
  rw [e, if_pos ⟨by omega, by omega⟩]
  simp
theorem sp_i_lo {x : Int32} {n : Nat} (h : x < 0) : sp_i x n = none := by
  have h2 : x.toInt < 0 := Int32.lt_iff_toInt_lt.mp h
  unfold sp_i
  rw [if_neg (by omega)]
theorem sp_i_hi {x : Int32} {n : Nat} (hn : n < 2 ^ 31) (h : nI n ≤ x) : sp_i x n = none := by
  have h2 := Int32.le_iff_toInt_le.mp h
  rw [nI_toInt hn] at h2
  unfold sp_i
  rw [if_neg (by omega)]
theorem sp_dec {x : Int32} {n : Nat} (hn : n < 2 ^ 31) (h1 : ¬ x < 0) (h2 : x < nI n) : ∃ j : Nat, j < n ∧ x = nI j := by
  rcases pk_ix x hn with h | h | h
  · exact absurd h h1
  · have := Int32.le_iff_toInt_le.mp h
    have := Int32.lt_iff_toInt_lt.mp h2
    omega
  · exact h
theorem sp_le_lt {x y : Int32} (h : ¬ y ≤ x) : x < y := by
  have : ¬ y.toInt ≤ x.toInt := fun q => h (Int32.le_iff_toInt_le.mpr q)
  exact Int32.lt_iff_toInt_lt.mpr (by omega)
theorem sp_nlt_le {x y : Int32} (h : ¬ x < y) : y ≤ x := by
  have : ¬ x.toInt < y.toInt := fun q => h (Int32.lt_iff_toInt_lt.mpr q)
  exact Int32.le_iff_toInt_le.mpr (by omega)
def sp_at (x : Int32) (n : Nat) (f : Nat → Option Nat) : Option Nat := (sp_i x n).bind f
/-- the sum over a sheaf, its parts, its notes -/
def sp_ss (rs : sp_Sh) (s : Int64) : Nat → Int64
  | 0 => s
  | k + 1 => sp_rs (rs.getD k sp_d0) (sp_ss rs s k)
def sp_sp (ed : Nat) (rs : sp_Sh) : Nat := sm (fun k => sp_rp ed (rs.getD k sp_d0)) rs.length
def sp_no (rs : sp_Sh) : Nat := sm (fun k => (rs.getD k sp_d0).2.length) rs.length
/-- rows alike, sheaves alike -/
def sp_al (a b : sp_Sh) : Prop := a.length = b.length ∧ ∀ j, j < a.length → (a.getD j sp_d0).2 = (b.getD j sp_d0).2
def sp_has (rs : sp_Sh) (r : sp_R) : Prop := ∃ j, j < rs.length ∧ (rs.getD j sp_d0).2 = r.2

set_option maxHeartbeats 4000000 in
set_option maxRecDepth 100000 in
theorem m_X3_init (D : va_G) (E : Nat → ClassId) (B : Nat) (l : Launch) (a na : Nat) (x : Int32) : zs_Ct D E B l yX3_init cX3_init 3 none ({ frames := 1, cells := 0, slots := 0, locals := 40 } : Room) [.ref a, .int x, .ref na] (fun H => zs_pt D a (.inr (3, [.int 0, .null])) H) (fun q => q = a) (fun v H H1 => v = none ∧ zs_pt D a (.inr (3, [.int x, .ref na])) H1 ∧ H1.size = H.size) := by
  refine zs_ct (by decide) (Nat.le_of_ble_eq_true rfl) (fun p e s m below meth c hE hr hin hp => ?_)
  refine zs_lo (lo' := [(0, .ref a), (1, .int x), (2, .ref na)]) rfl ?_
  refine zs_aload_n hE 0 dX3_init_0 rfl rfl ?_
  refine zs_objInit hE ol_X3_1 q_objI q_objC dX3_init_1 (by decide) (Nat.le_of_ble_eq_true rfl) (by decide) ?_
  refine zs_aload_n hE 0 dX3_init_4 rfl rfl ?_
  refine zs_iload_n hE 1 dX3_init_5 rfl rfl ?_
  refine zs_putF (v := .int x) hE (hin rfl) fl_X3_7 ⟨_, _, _, rfl, rfl⟩ hp (Or.inl rfl) (rfl) (rfl) (Nat.le_of_ble_eq_true rfl) dX3_init_6 (fun H1 hp1 hz1 ho1 => ?_)
  have hp1 : zs_pt D a (.inr (3, [.int x, .null])) H1 := hp1
  refine zs_aload_n hE 0 dX3_init_9 rfl rfl ?_
  refine zs_aload_n hE 2 dX3_init_10 rfl rfl ?_
  refine zs_putF (v := .ref na) hE (hin rfl) fl_X3_13 ⟨_, _, _, rfl, rfl⟩ hp1 (Or.inl rfl) (rfl) (rfl) (Nat.le_of_ble_eq_true rfl) dX3_init_11 (fun H2 hp2 hz2 ho2 => ?_)
  have hp2 : zs_pt D a (.inr (3, [.int x, .ref na])) H2 := hp2
  exact zs_vret hE hr (⟨rfl, hp2, hz2.trans hz1⟩) (by decide) (by decide) dX3_init_14

set_option maxHeartbeats 4000000 in
set_option maxRecDepth 100000 in
theorem m_X3_isLike (D : va_G) (E : Nat → ClassId) (B : Nat) (l : Launch) (κ : Nat → Nat) (a b : Nat) (r t : sp_R) : zs_Ct D E B l yX3_isLike cX3_isLike 3 (some .boolean) ({ frames := 0, cells := 0, slots := 0, locals := 0 } : Room) [.ref a, .ref b] (fun H => cs_row D E κ H a r ∧ cs_row D E κ H b t) (zs_N) (zs_ro (.int (zs_b (r.2 = t.2)))) := by
  refine zs_ct (by decide) (Nat.le_of_ble_eq_true rfl) (fun p e s m below meth c hE hr hin hp => ?_)
  refine zs_lo (lo' := [(0, .ref a), (1, .ref b)]) rfl ?_
  obtain ⟨ra, rb⟩ := hp
  obtain ⟨⟨x0, x1, x2⟩, x3, xn, x4, x5, x6⟩ := ra
  obtain ⟨⟨y0, y1, y2⟩, y3, yn, y4, y5, y6⟩ := rb
  refine zs_aload_n hE 1 dX3_isLike_0 rfl rfl ?_
  refine zs_ifnullR hE dX3_isLike_1 ?_
  refine zs_aload_n hE 1 dX3_isLike_4 rfl rfl ?_
  refine zs_get hE fl_X3_13 y5 rfl dX3_isLike_5 ?_
  refine zs_alen hE y6 rfl dX3_isLike_8 ?_
  refine zs_aload_n hE 0 dX3_isLike_9 rfl rfl ?_
  refine zs_get hE fl_X3_13 x5 rfl dX3_isLike_10 ?_
  refine zs_alen hE x6 rfl dX3_isLike_13 ?_
  refine zs_icmp_eqN (tgt := 19) hE (by omega) (by omega) dX3_isLike_14 (by decide) (fun h => ?_) (fun h => ?_)
  · refine zs_iconst (v := (nI 0)) hE dX3_isLike_19 (by decide) ?_
    refine zs_istore_n (lo' := [(2, .int (nI 0)), (0, .ref a), (1, .ref b)]) hE dX3_isLike_20 rfl (by decide) rfl ?_
    refine zs_sub (lo' := [(2, .int (nI 0)), (0, .ref a), (1, .ref b)]) [0, 1, 2] rfl ?_
    refine zs_ind1 (Hs := fun (i : Nat) => s.heap) (ks := fun (i : Nat) => 0) (ns := fun (i : Nat) => 0) (los := fun (i : Nat) => [(2, .int (nI i)), (0, .ref a), (1, .ref b)]) (I := fun (i : Nat) => i ≤ r.2.length ∧ ∀ j, j < i → r.2.getD j 0 = t.2.getD j 0) (μ := fun (i : Nat) => r.2.length - i) 0 (⟨Nat.zero_le _, fun j hj => absurd hj (Nat.not_lt_zero _)⟩) (fun i hi ih => ?_)
    try dsimp only at hi ih ⊢
    refine zs_iload_n hE 0 dX3_isLike_21 rfl rfl ?_
    refine zs_aload_n hE 1 dX3_isLike_22 rfl rfl ?_
    refine zs_get hE fl_X3_13 x5 rfl dX3_isLike_23 ?_
    refine zs_alen hE x6 rfl dX3_isLike_26 ?_
    refine zs_icmp_geN (tgt := 53) hE (by omega) (by omega) dX3_isLike_27 (by decide) (fun h2 => ?_) (fun h2 => ?_)
    · refine zs_iconst (v := (nI 1)) hE dX3_isLike_53 (by decide) ?_
      refine zs_top (v' := .int (zs_b (r.2 = t.2))) (by rw [zs_b1 (gd_ext 0 h.symm (fun j hj => hi.2 j (by omega)))]; rfl) ?_
      exact zs_zret hE hr (zs_bnar _) (⟨rfl, rfl⟩) (by decide) (by decide) dX3_isLike_54
    · have hn : t.2.length = r.2.length := h
      refine zs_aload_n hE 1 dX3_isLike_30 rfl rfl ?_
      refine zs_get hE fl_X3_13 x5 rfl dX3_isLike_31 ?_
      refine zs_iload_n hE 0 dX3_isLike_34 rfl rfl ?_
      refine zs_iald hE x6 (by omega) (by omega) dX3_isLike_35 ?_
      refine zs_aload_n hE 2 dX3_isLike_36 rfl rfl ?_
      refine zs_get hE fl_X3_13 y5 rfl dX3_isLike_37 ?_
      refine zs_iload_n hE 0 dX3_isLike_40 rfl rfl ?_
      refine zs_iald hE y6 (by omega) (by omega) dX3_isLike_41 ?_
      refine zs_icmp_eqN (tgt := 47) hE (Nat.lt_of_le_of_lt (gd_gt x2 i) (by decide)) (Nat.lt_of_le_of_lt (gd_gt y2 i) (by decide)) dX3_isLike_42 (by decide) (fun h3 => ?_) (fun h3 => ?_)
      · refine zs_iincN (lo' := [(2, .int (nI (i + 1))), (0, .ref a), (1, .ref b)]) hE 0 dX3_isLike_47 rfl (by decide) rfl ?_
        refine zs_goto (tgt := 21) hE dX3_isLike_50 (by decide) ?_
        refine zs_sub (lo' := [(2, .int (nI (i + 1))), (0, .ref a), (1, .ref b)]) [0, 1, 2] rfl ?_
        exact ih (i + 1) (⟨by omega, fun j hj => by rcases Nat.lt_or_ge j i with q | q; exact hi.2 j q; rw [show j = i by omega]; exact h3⟩) (by omega)
      · refine zs_iconst (v := (nI 0)) hE dX3_isLike_45 (by decide) ?_
        refine zs_top (v' := .int (zs_b (r.2 = t.2))) (by rw [zs_b0 (fun e => h3 (by rw [e]))]; rfl) ?_
        exact zs_zret hE hr (zs_bnar _) (⟨rfl, rfl⟩) (by decide) (by decide) dX3_isLike_46
  · refine zs_iconst (v := (nI 0)) hE dX3_isLike_17 (by decide) ?_
    refine zs_top (v' := .int (zs_b (r.2 = t.2))) (by rw [zs_b0 (fun e => h (by rw [e]))]; rfl) ?_
    exact zs_zret hE hr (zs_bnar _) (⟨rfl, rfl⟩) (by decide) (by decide) dX3_isLike_18

set_option maxHeartbeats 4000000 in
set_option maxRecDepth 100000 in
theorem m_X3_partsBy (D : va_G) (E : Nat → ClassId) (B : Nat) (l : Launch) (κ : Nat → Nat) (a ed : Nat) (r : sp_R) (hed : ed < 64) : zs_Ct D E B l yX3_partsBy cX3_partsBy 2 (some .int) ({ frames := 0, cells := 0, slots := 0, locals := 0 } : Room) [.ref a, .int (nI ed)] (fun H => cs_row D E κ H a r) (zs_N) (zs_ro (.int (nI (sp_rp ed r)))) := by
  refine zs_ct (by decide) (Nat.le_of_ble_eq_true rfl) (fun p e s m below meth c hE hr hin hp => ?_)
  refine zs_lo (lo' := [(0, .ref a), (1, .int (nI ed))]) rfl ?_
  obtain ⟨⟨x0, x1, x2⟩, x3, xn, x4, x5, x6⟩ := hp
  refine zs_iload_n hE 1 dX3_partsBy_0 rfl rfl ?_
  refine zs_aload_n hE 0 dX3_partsBy_1 rfl rfl ?_
  refine zs_get hE fl_X3_7 x5 rfl dX3_partsBy_2 ?_
  refine zs_ishr hE dX3_partsBy_5 ?_
  refine zs_iconst (v := (nI 1)) hE dX3_partsBy_6 (by decide) ?_
  refine zs_iand hE dX3_partsBy_7 ?_
  refine zs_top (v' := .int (nI (ed / 2 ^ r.1 % 2))) (by rw [sp_bit0 ed hed r.1 x0]) ?_
  refine zs_iconst (v := (nI 1)) hE dX3_partsBy_8 (by decide) ?_
  refine zs_icmp_neN (tgt := 22) hE (Nat.lt_trans (Nat.mod_lt _ (by decide)) (by decide)) (by decide) dX3_partsBy_9 (by decide) (fun h => ?_) (fun h => ?_)
  · refine zs_iconst (v := (nI 0)) hE dX3_partsBy_22 (by decide) ?_
    refine zs_top (v' := .int (nI (sp_rp ed r))) (by rw [sp_rp, if_neg (fun e => h e)]) ?_
    exact zs_iret hE hr (⟨rfl, rfl⟩) (by decide) (by decide) dX3_partsBy_23
  · refine zs_aload_n hE 0 dX3_partsBy_12 rfl rfl ?_
    refine zs_get hE fl_X3_13 x5 rfl dX3_partsBy_13 ?_
    refine zs_alen hE x6 rfl dX3_partsBy_16 ?_
    refine zs_iconst (v := (nI 1)) hE dX3_partsBy_17 (by decide) ?_
    refine zs_iaddN hE dX3_partsBy_18 ?_
    refine zs_goto (tgt := 23) hE dX3_partsBy_19 (by decide) ?_
    refine zs_top (v' := .int (nI (sp_rp ed r))) (by rw [sp_rp, if_pos h]) ?_
    exact zs_iret hE hr (⟨rfl, rfl⟩) (by decide) (by decide) dX3_partsBy_23

set_option maxHeartbeats 4000000 in
set_option maxRecDepth 100000 in
theorem m_X3_sumOnto (D : va_G) (E : Nat → ClassId) (B : Nat) (l : Launch) (κ : Nat → Nat) (a : Nat) (x : Int64) (r : sp_R) : zs_Ct D E B l yX3_sumOnto cX3_sumOnto 9 (some .long) ({ frames := 0, cells := 0, slots := 0, locals := 0 } : Room) [.ref a, .long x] (fun H => cs_row D E κ H a r) (zs_N) (zs_ro (.long (sp_rs r x))) := by
  refine zs_ct (by decide) (Nat.le_of_ble_eq_true rfl) (fun p e s m below meth c hE hr hin hp => ?_)
  refine zs_lo (lo' := [(0, .ref a), (1, .long x)]) rfl ?_
  obtain ⟨⟨x0, x1, x2⟩, x3, xn, x4, x5, x6⟩ := hp
  refine zs_ldc2 hE k_X3_17 dX3_sumOnto_0 ?_
  refine zs_lload_n hE 1 dX3_sumOnto_3 rfl rfl ?_
  refine zs_lmul hE dX3_sumOnto_4 ?_
  refine zs_aload_n hE 0 dX3_sumOnto_5 rfl rfl ?_
  refine zs_get hE fl_X3_7 x5 rfl dX3_sumOnto_6 ?_
  refine zs_i2l hE dX3_sumOnto_9 ?_
  refine zs_top (v' := .long (lN r.1)) (by rw [nI_l (by omega)]) ?_
  refine zs_ladd hE dX3_sumOnto_10 ?_
  refine zs_lstore_n (lo' := [(3, .long (((31 : Int64) * x) + (lN r.1))), (0, .ref a), (1, .long x)]) hE dX3_sumOnto_11 rfl (by decide) rfl ?_
  refine zs_aload_n hE 1 dX3_sumOnto_12 rfl rfl ?_
  refine zs_get hE fl_X3_13 x5 rfl dX3_sumOnto_13 ?_
  refine zs_astore (lo' := [(5, .ref xn), (3, .long (((31 : Int64) * x) + (lN r.1))), (0, .ref a), (1, .long x)]) hE dX3_sumOnto_16 (by decide) rfl ?_
  refine zs_aload hE 0 dX3_sumOnto_18 rfl ?_
  refine zs_alen hE x6 rfl dX3_sumOnto_20 ?_
  refine zs_istore (lo' := [(6, .int (nI r.2.length)), (5, .ref xn), (3, .long (((31 : Int64) * x) + (lN r.1))), (0, .ref a), (1, .long x)]) hE dX3_sumOnto_21 (by decide) rfl ?_
  refine zs_iconst (v := (nI 0)) hE dX3_sumOnto_23 (by decide) ?_
  refine zs_istore (lo' := [(7, .int (nI 0)), (6, .int (nI r.2.length)), (5, .ref xn), (3, .long (((31 : Int64) * x) + (lN r.1))), (0, .ref a), (1, .long x)]) hE dX3_sumOnto_24 (by decide) rfl ?_
  refine zs_sub (lo' := [(7, .int (nI 0)), (6, .int (nI r.2.length)), (5, .ref xn), (3, .long (((31 : Int64) * x) + (lN r.1))), (0, .ref a)]) [0, 1, 2, 3, 4] rfl ?_
  refine zs_ind1 (Hs := fun (i : Nat) => s.heap) (ks := fun (i : Nat) => 0) (ns := fun (i : Nat) => 0) (los := fun (i : Nat) => [(7, .int (nI i)), (6, .int (nI r.2.length)), (5, .ref xn), (3, .long (sp_ns r.2 (31 * x + lN r.1) i)), (0, .ref a)]) (I := fun (i : Nat) => i ≤ r.2.length) (μ := fun (i : Nat) => r.2.length - i) 0 (Nat.zero_le _) (fun i hi ih => ?_)
  try dsimp only at hi ih ⊢
  refine zs_iload hE 0 dX3_sumOnto_26 rfl ?_
  refine zs_iload hE 1 dX3_sumOnto_28 rfl ?_
  refine zs_icmp_geN (tgt := 56) hE (by omega) (by omega) dX3_sumOnto_30 (by decide) (fun h => ?_) (fun h => ?_)
  · refine zs_ldc2 hE k_X3_17 dX3_sumOnto_56 ?_
    refine zs_lload_n hE 3 dX3_sumOnto_59 rfl rfl ?_
    refine zs_lmul hE dX3_sumOnto_60 ?_
    refine zs_ldc2 hE k_X3_19 dX3_sumOnto_61 ?_
    refine zs_ladd hE dX3_sumOnto_64 ?_
    refine zs_top (v' := .long (sp_rs r x)) (by rw [show i = r.2.length by omega]; rfl) ?_
    exact zs_lret hE hr (⟨rfl, rfl⟩) (by decide) (by decide) dX3_sumOnto_65
  · refine zs_aload hE 2 dX3_sumOnto_33 rfl ?_
    refine zs_iload hE 0 dX3_sumOnto_35 rfl ?_
    refine zs_iald hE x6 (by omega) (by omega) dX3_sumOnto_37 ?_
    refine zs_istore (lo' := [(8, .int (nI (r.2.getD i 0))), (7, .int (nI i)), (6, .int (nI r.2.length)), (5, .ref xn), (3, .long (sp_ns r.2 (31 * x + lN r.1) i)), (0, .ref a)]) hE dX3_sumOnto_38 (by decide) rfl ?_
    refine zs_ldc2 hE k_X3_17 dX3_sumOnto_40 ?_
    refine zs_lload_n hE 4 dX3_sumOnto_43 rfl rfl ?_
    refine zs_lmul hE dX3_sumOnto_44 ?_
    refine zs_iload hE 0 dX3_sumOnto_45 rfl ?_
    refine zs_i2l hE dX3_sumOnto_47 ?_
    refine zs_top (v' := .long (lN (r.2.getD i 0))) (by rw [nI_l (Nat.lt_of_le_of_lt (gd_gt x2 i) (by decide))]) ?_
    refine zs_ladd hE dX3_sumOnto_48 ?_
    refine zs_top (v' := .long (sp_ns r.2 (31 * x + lN r.1) (i + 1))) (rfl) ?_
    refine zs_lstore_n (lo' := [(3, .long (sp_ns r.2 (31 * x + lN r.1) (i + 1))), (8, .int (nI (r.2.getD i 0))), (7, .int (nI i)), (6, .int (nI r.2.length)), (5, .ref xn), (0, .ref a)]) hE dX3_sumOnto_49 rfl (by decide) rfl ?_
    refine zs_iincN (lo' := [(7, .int (nI (i + 1))), (3, .long (sp_ns r.2 (31 * x + lN r.1) (i + 1))), (8, .int (nI (r.2.getD i 0))), (6, .int (nI r.2.length)), (5, .ref xn), (0, .ref a)]) hE 2 dX3_sumOnto_50 rfl (by decide) rfl ?_
    refine zs_goto (tgt := 26) hE dX3_sumOnto_53 (by decide) ?_
    refine zs_sub (lo' := [(7, .int (nI (i + 1))), (6, .int (nI r.2.length)), (5, .ref xn), (3, .long (sp_ns r.2 (31 * x + lN r.1) (i + 1))), (0, .ref a)]) [0, 3, 4, 1, 5] rfl ?_
    exact ih (i + 1) (by omega) (by omega)

set_option maxHeartbeats 4000000 in
set_option maxRecDepth 100000 in
theorem m_X4_init (D : va_G) (E : Nat → ClassId) (B : Nat) (l : Launch) (a : Nat) : zs_Ct D E B l yX4_init cX4_init 1 none ({ frames := 1, cells := 1, slots := 4, locals := 40 } : Room) [.ref a] (fun H => zs_pt D a (.inr (4, [.null, .int 0])) H) (fun q => q = a) (fun v H H1 => v = none ∧ ∃ ha : Nat, H.size = ha ∧ H1.size = ha + 1 ∧ zs_pt D a (.inr (4, [.ref ha, .int (nI 0)])) H1 ∧ zs_pt D ha (.inl (E 10, 4, .inr (.inr (.inr (.inr (fun _ => none)))))) H1) := by
  refine zs_ct (by decide) (Nat.le_of_ble_eq_true rfl) (fun p e s m below meth c hE hr hin hp => ?_)
  refine zs_lo (lo' := [(0, .ref a)]) rfl ?_
  refine zs_aload_n hE 0 dX4_init_0 rfl rfl ?_
  refine zs_objInit hE ol_X4_3 q_objI q_objC dX4_init_1 (by decide) (Nat.le_of_ble_eq_true rfl) (by decide) ?_
  refine zs_aload_n hE 0 dX4_init_4 rfl rfl ?_
  refine zs_iconst (v := (nI 4)) hE dX4_init_5 (by decide) ?_
  refine zs_newq (t := 10) hE al_X4_9 rfl (by decide) (by decide) (by decide) (by decide) dX4_init_6 (fun q1 H1 hq1 hp1 hz1 ho1 => ?_)
  refine zs_widen (k' := 1) (n' := 4) (by omega) (by omega) ?_
  have ne2 : a ≠ q1 := by have := zs_pt.lt hp; omega
  have hp := zs_pt.kept hp (ho1 _ (zs_pt.lt hp))
  refine zs_putF (v := .ref q1) hE (hin rfl) fl_X4_11 ⟨_, _, _, rfl, rfl⟩ hp (Or.inl rfl) (rfl) (rfl) (Nat.le_of_ble_eq_true rfl) dX4_init_9 (fun H3 hp3 hz3 ho3 => ?_)
  have hp1 := zs_pt.kept hp1 (ho3 _ ne2.symm)
  have hp3 : zs_pt D a (.inr (4, [.ref q1, .int 0])) H3 := hp3
  exact zs_vret hE hr (⟨rfl, q1, hq1.symm, by omega, hp3, hp1⟩) (by decide) (by decide) dX4_init_12
end
section
/-! sheaves -/
noncomputable def pI {α : Type} (P : Prop) (a b : α) : α := @ite α P (Classical.propDecidable P) a b
theorem pI_t {α : Type} {P : Prop} {a b : α} (h : P) : pI P a b = a := @if_pos _ (Classical.propDecidable P) h _ _ _
theorem pI_f {α : Type} {P : Prop} {a b : α} (h : ¬ P) : pI P a b = b := @if_neg _ (Classical.propDecidable P) h _ _ _
theorem sp_at_in {j n b : Nat} {f : Nat → Option Nat} (h : j < n) (hn : n < 2 ^ 31) (hb : f j = some b) : va_rf (sp_at (nI j) n f) = .ref b := by
  rw [sp_at, sp_i_in h hn, Option.bind_some, hb]; rfl
def cs_s0 (D : va_G) (E : Nat → ClassId) (κ : Nat → Nat) (H : Heap) (a ha : Nat) (f : Nat → Option Nat) (rs : sp_Sh) : Prop := rs.length ≤ 4 ∧ zs_pt D a (.inr (4, [.ref ha, .int (nI rs.length)])) H ∧ zs_pt D ha (.inl (E 10, 4, .inr (.inr (.inr (.inr f))))) H ∧ ∀ j, j < rs.length → ∃ b : Nat, f j = some b ∧ cs_row D E κ H b (rs.getD j sp_d0)
theorem cs_sh.s0 {D : va_G} {E : Nat → ClassId} {κ : Nat → Nat} {H : Heap} {a : Nat} {rs : sp_Sh} (h : cs_sh D E κ H a rs) : ∃ (ha : Nat) (f : Nat → Option Nat), cs_s0 D E κ H a ha f rs := by
  obtain ⟨h0, h1, ha, f, h2, h3, h4, h5⟩ := h
  exact ⟨ha, f, h0, h3, h4, h5⟩
theorem gd_app {rs : sp_Sh} {r : sp_R} {j : Nat} (h : j < rs.length) : (rs ++ [r]).getD j sp_d0 = rs.getD j sp_d0 := by
  simp [List.getD, List.getElem?_append_left h]
theorem gd_app2 {rs : sp_Sh} {r : sp_R} : (rs ++ [r]).getD rs.length sp_d0 = r := by simp [List.getD]
/-- a sheaf that is being made: its rows stood in H0 -/
def cs_mk (D : va_G) (E : Nat → ClassId) (κ : Nat → Nat) (H0 H : Heap) (a ha : Nat) (rs : sp_Sh) : Prop := rs.length ≤ 4 ∧ zs_pt D a (.inr (4, [.ref ha, .int (nI rs.length)])) H ∧ ∃ f : Nat → Option Nat, zs_pt D ha (.inl (E 10, 4, .inr (.inr (.inr (.inr f))))) H ∧ ∀ j, j < rs.length → ∃ b : Nat, f j = some b ∧ cs_row D E κ H0 b (rs.getD j sp_d0)
theorem cs_mk.sh {D : va_G} {E : Nat → ClassId} {κ : Nat → Nat} {H0 H : Heap} {a ha : Nat} {rs : sp_Sh} (h : cs_mk D E κ H0 H a ha rs) (h1 : κ a = 0) (h2 : κ ha = 0) (hk : cs_kp κ H0 H) : cs_sh D E κ H a rs := by
  obtain ⟨q0, q1, f, q2, q3⟩ := h
  exact ⟨q0, h1, ha, f, h2, q1, q2, fun j hj => (q3 j hj).imp fun b z => ⟨z.1, z.2.kept hk⟩⟩
/-- the rows of one sheaf behind those of another, that aren't there by then, four at most -/
noncomputable def sp_jn (rs ts : sp_Sh) : Nat → sp_Sh
  | 0 => rs
  | k + 1 => pI (sp_has (sp_jn rs ts k) (ts.getD k sp_d0) ∨ 4 ≤ (sp_jn rs ts k).length) (sp_jn rs ts k) (sp_jn rs ts k ++ [ts.getD k sp_d0])
theorem sp_jn_len {rs ts : sp_Sh} (h : rs.length ≤ 4) : ∀ k, (sp_jn rs ts k).length ≤ 4
  | 0 => h
  | k + 1 => by
    show (pI _ _ _ : sp_Sh).length ≤ 4
    by_cases q : sp_has (sp_jn rs ts k) (ts.getD k sp_d0) ∨ 4 ≤ (sp_jn rs ts k).length
    · rw [pI_t q]; exact sp_jn_len h k
    · rw [pI_f q, List.length_append]
      show _ + 1 ≤ 4
      have := fun z => q (Or.inr z)
      omega

set_option maxHeartbeats 4000000 in
set_option maxRecDepth 100000 in
theorem m_X4_rowAt (D : va_G) (E : Nat → ClassId) (B : Nat) (l : Launch) (a ha n : Nat) (f : Nat → Option Nat) (x : Int32) (hn : n ≤ 4) : zs_Ct D E B l yX4_rowAt cX4_rowAt 2 (some (.object "ScoreSheaf$Row")) ({ frames := 0, cells := 0, slots := 0, locals := 0 } : Room) [.ref a, .int x] (fun H => zs_pt D a (.inr (4, [.ref ha, .int (nI n)])) H ∧ zs_pt D ha (.inl (E 10, 4, .inr (.inr (.inr (.inr f))))) H) (zs_N) (zs_ro (va_rf (sp_at x n f))) := by
  refine zs_ct (by decide) (Nat.le_of_ble_eq_true rfl) (fun p e s m below meth c hE hr hin hp => ?_)
  refine zs_lo (lo' := [(0, .ref a), (1, .int x)]) rfl ?_
  obtain ⟨q1, q2⟩ := hp
  refine zs_iload_n hE 1 dX4_rowAt_0 rfl rfl ?_
  refine zs_if_lt (tgt := 12) hE dX4_rowAt_1 (by decide) (fun h => ?_) (fun h => ?_)
  · refine zs_nullq hE dX4_rowAt_12 ?_
    refine zs_goto (tgt := 22) hE dX4_rowAt_13 (by decide) ?_
    refine zs_top (v' := va_rf (sp_at x n f)) (by rw [sp_at, sp_i_lo h]; rfl) ?_
    exact zs_aret hE hr (by first | exact Or.inl ⟨_, rfl⟩ | exact Or.inr ⟨_, rfl⟩) (⟨rfl, rfl⟩) (by decide) (by decide) dX4_rowAt_22
  · refine zs_iload_n hE 1 dX4_rowAt_4 rfl rfl ?_
    refine zs_aload_n hE 0 dX4_rowAt_5 rfl rfl ?_
    refine zs_get hE fl_X4_17 q1 rfl dX4_rowAt_6 ?_
    refine zs_icmp_lt (tgt := 16) hE dX4_rowAt_9 (by decide) (fun h2 => ?_) (fun h2 => ?_)
    · obtain ⟨j, hj, rfl⟩ := sp_dec (by omega) h h2
      refine zs_aload_n hE 0 dX4_rowAt_16 rfl rfl ?_
      refine zs_get hE fl_X4_11 q1 rfl dX4_rowAt_17 ?_
      refine zs_iload_n hE 1 dX4_rowAt_20 rfl rfl ?_
      refine zs_aald hE q2 rfl (by omega) (by decide) dX4_rowAt_21 ?_
      refine zs_top (v' := va_rf (sp_at (nI j) n f)) (by rw [sp_at, sp_i_in hj (by omega)]; rfl) ?_
      exact zs_aret hE hr (by first | exact Or.inl ⟨_, rfl⟩ | exact Or.inr ⟨_, rfl⟩) (⟨rfl, rfl⟩) (by decide) (by decide) dX4_rowAt_22
    · refine zs_nullq hE dX4_rowAt_12 ?_
      refine zs_goto (tgt := 22) hE dX4_rowAt_13 (by decide) ?_
      refine zs_top (v' := va_rf (sp_at x n f)) (by rw [sp_at, sp_i_hi (by omega) (sp_nlt_le h2)]; rfl) ?_
      exact zs_aret hE hr (by first | exact Or.inl ⟨_, rfl⟩ | exact Or.inr ⟨_, rfl⟩) (⟨rfl, rfl⟩) (by decide) (by decide) dX4_rowAt_22

set_option maxHeartbeats 4000000 in
set_option maxRecDepth 100000 in
theorem m_X4_take (D : va_G) (E : Nat → ClassId) (B : Nat) (l : Launch) (a ha n b : Nat) (f : Nat → Option Nat) (vs : List Value) (hn : n ≤ 4) (hne : ha ≠ a) : zs_Ct D E B l yX4_take cX4_take 2 none ({ frames := 0, cells := 0, slots := 0, locals := 0 } : Room) [.ref a, .ref b] (fun H => zs_pt D a (.inr (4, [.ref ha, .int (nI n)])) H ∧ zs_pt D ha (.inl (E 10, 4, .inr (.inr (.inr (.inr f))))) H ∧ zs_pt D b (.inr (3, vs)) H) (fun q => q = a ∨ q = ha) (fun v H H1 => v = none ∧ H1.size = H.size ∧ (n = 4 → H1 = H) ∧ (n < 4 → zs_pt D a (.inr (4, [.ref ha, .int (nI (n + 1))])) H1 ∧ zs_pt D ha (.inl (E 10, 4, .inr (.inr (.inr (.inr (va_up f n (some b))))))) H1)) := by
  refine zs_ct (by decide) (Nat.le_of_ble_eq_true rfl) (fun p e s m below meth c hE hr hin hp => ?_)
  refine zs_lo (lo' := [(0, .ref a), (1, .ref b)]) rfl ?_
  obtain ⟨q1, q2, q3⟩ := hp
  refine zs_aload_n hE 1 dX4_take_0 rfl rfl ?_
  refine zs_ifnullR hE dX4_take_1 ?_
  refine zs_aload_n hE 0 dX4_take_4 rfl rfl ?_
  refine zs_get hE fl_X4_17 q1 rfl dX4_take_5 ?_
  refine zs_iconst (v := (nI 4)) hE dX4_take_8 (by decide) ?_
  refine zs_icmp_geN (tgt := 32) hE (by omega) (by decide) dX4_take_9 (by decide) (fun h => ?_) (fun h => ?_)
  · exact zs_vret hE hr (⟨rfl, rfl, fun _ => rfl, fun q => absurd q (by omega)⟩) (by decide) (by decide) dX4_take_32
  · refine zs_aload_n hE 0 dX4_take_12 rfl rfl ?_
    refine zs_get hE fl_X4_11 q1 rfl dX4_take_13 ?_
    refine zs_aload_n hE 0 dX4_take_16 rfl rfl ?_
    refine zs_get hE fl_X4_17 q1 rfl dX4_take_17 ?_
    refine zs_aload_n hE 1 dX4_take_20 rfl rfl ?_
    refine zs_aast hE q2 rfl q3 rfl (Or.inl (Or.inr rfl)) (by omega) (by decide) dX4_take_21 (fun H1 hp1 hz1 ho1 => ?_)
    have q1 := zs_pt.kept q1 (ho1 _ hne.symm)
    refine zs_aload_n hE 0 dX4_take_22 rfl rfl ?_
    refine zs_dup hE dX4_take_23 rfl ?_
    refine zs_get hE fl_X4_17 q1 rfl dX4_take_24 ?_
    refine zs_iconst (v := (nI 1)) hE dX4_take_27 (by decide) ?_
    refine zs_iaddN hE dX4_take_28 ?_
    refine zs_put (v := .int (nI (n + 1))) hE fl_X4_17 q1 (Or.inl (Or.inl rfl)) (rfl) (rfl) (Nat.le_of_ble_eq_true rfl) dX4_take_29 (fun H2 hp2 hz2 ho2 => ?_)
    have hp1 := zs_pt.kept hp1 (ho2 _ hne)
    have hp2 : zs_pt D a (.inr (4, [.ref ha, .int (nI (n + 1))])) H2 := hp2
    exact zs_vret hE hr (⟨rfl, hz2.trans hz1, fun q => absurd q (by omega), fun _ => ⟨hp2, hp1⟩⟩) (by decide) (by decide) dX4_take_32

set_option maxHeartbeats 4000000 in
set_option maxRecDepth 100000 in
theorem m_X4_hasLike (D : va_G) (E : Nat → ClassId) (B : Nat) (l : Launch) (κ : Nat → Nat) (a ha b : Nat) (f : Nat → Option Nat) (rs : sp_Sh) (r : sp_R) : zs_Ct D E B l yX4_hasLike cX4_hasLike 4 (some .boolean) ({ frames := 1, cells := 0, slots := 0, locals := 22 } : Room) [.ref a, .ref b] (fun H => cs_s0 D E κ H a ha f rs ∧ cs_row D E κ H b r) (zs_N) (zs_ro (.int (zs_b (sp_has rs r)))) := by
  refine zs_ct (by decide) (Nat.le_of_ble_eq_true rfl) (fun p e s m below meth c hE hr hin hp => ?_)
  refine zs_lo (lo' := [(0, .ref a), (1, .ref b)]) rfl ?_
  obtain ⟨hs, rb⟩ := hp
  obtain ⟨x0, x1, x2, x3⟩ := hs
  refine zs_iconst (v := (nI 0)) hE dX4_hasLike_0 (by decide) ?_
  refine zs_istore_n (lo' := [(2, .int (nI 0)), (0, .ref a), (1, .ref b)]) hE dX4_hasLike_1 rfl (by decide) rfl ?_
  refine zs_sub (lo' := [(2, .int (nI 0)), (0, .ref a), (1, .ref b)]) [0, 1, 2] rfl ?_
  refine zs_ind1 (Hs := fun (i : Nat) => s.heap) (ks := fun (i : Nat) => 0) (ns := fun (i : Nat) => 0) (los := fun (i : Nat) => [(2, .int (nI i)), (0, .ref a), (1, .ref b)]) (I := fun (i : Nat) => i ≤ rs.length ∧ ∀ j, j < i → ¬ (rs.getD j sp_d0).2 = r.2) (μ := fun (i : Nat) => rs.length - i) 0 (⟨Nat.zero_le _, fun j hj => absurd hj (Nat.not_lt_zero _)⟩) (fun i hi ih => ?_)
  try dsimp only at hi ih ⊢
  refine zs_iload_n hE 0 dX4_hasLike_2 rfl rfl ?_
  refine zs_aload_n hE 1 dX4_hasLike_3 rfl rfl ?_
  refine zs_get hE fl_X4_17 x1 rfl dX4_hasLike_4 ?_
  refine zs_icmp_geN (tgt := 36) hE (by omega) (by omega) dX4_hasLike_7 (by decide) (fun h => ?_) (fun h => ?_)
  · refine zs_iconst (v := (nI 0)) hE dX4_hasLike_36 (by decide) ?_
    refine zs_top (v' := .int (zs_b (sp_has rs r))) (by rw [zs_b0 (fun ⟨j, h1, h2⟩ => hi.2 j (by omega) h2)]; rfl) ?_
    exact zs_zret hE hr (zs_bnar _) (⟨rfl, rfl⟩) (by decide) (by decide) dX4_hasLike_37
  · refine zs_aload_n hE 1 dX4_hasLike_10 rfl rfl ?_
    refine zs_iload_n hE 0 dX4_hasLike_11 rfl rfl ?_
    refine zs_callVR (av := [.int (nI i)]) (st := []) (b := a) hE (m_X4_rowAt D E B l a ha rs.length f (nI i) x0) rfl rfl sV_X4_21 x1 rfl rfl (⟨x1, x2⟩) ⟨by decide, by decide⟩ ⟨by decide, by decide⟩ (Nat.le_of_ble_eq_true rfl) dX4_hasLike_12 ?_
    obtain ⟨b2, b2e, b2r⟩ := x3 i (by omega)
    refine zs_top (v' := .ref b2) (sp_at_in (by omega) (by omega) b2e) ?_
    obtain ⟨-, -, b2n, -, b2p, -⟩ := id b2r
    refine zs_astore_n (lo' := [(3, .ref b2), (2, .int (nI i)), (0, .ref a), (1, .ref b)]) hE dX4_hasLike_15 rfl (by decide) rfl ?_
    refine zs_aload_n hE 0 dX4_hasLike_16 rfl rfl ?_
    refine zs_ifnullR hE dX4_hasLike_17 ?_
    refine zs_aload_n hE 0 dX4_hasLike_20 rfl rfl ?_
    refine zs_aload_n hE 3 dX4_hasLike_21 rfl rfl ?_
    refine zs_callVR (av := [.ref b]) (st := []) (b := b2) hE (m_X3_isLike D E B l κ b2 b (rs.getD i sp_d0) r) rfl rfl sV_X4_33 b2p rfl rfl (⟨b2r, rb⟩) ⟨by decide, by decide⟩ ⟨by decide, by decide⟩ (Nat.le_of_ble_eq_true rfl) dX4_hasLike_22 ?_
    refine zs_if_eqB (tgt := 30) hE dX4_hasLike_25 (by decide) (fun h2 => ?_) (fun h2 => ?_)
    · refine zs_iincN (lo' := [(2, .int (nI (i + 1))), (3, .ref b2), (0, .ref a), (1, .ref b)]) hE 1 dX4_hasLike_30 rfl (by decide) rfl ?_
      refine zs_goto (tgt := 2) hE dX4_hasLike_33 (by decide) ?_
      refine zs_sub (lo' := [(2, .int (nI (i + 1))), (0, .ref a), (1, .ref b)]) [0, 2, 3] rfl ?_
      exact ih (i + 1) (⟨by omega, fun j hj => by rcases Nat.lt_or_ge j i with q | q; exact hi.2 j q; rw [show j = i by omega]; exact h2⟩) (by omega)
    · refine zs_iconst (v := (nI 1)) hE dX4_hasLike_28 (by decide) ?_
      refine zs_top (v' := .int (zs_b (sp_has rs r))) (by rw [zs_b1 ⟨i, by omega, h2⟩]; rfl) ?_
      exact zs_zret hE hr (zs_bnar _) (⟨rfl, rfl⟩) (by decide) (by decide) dX4_hasLike_29

set_option maxHeartbeats 4000000 in
set_option maxRecDepth 100000 in
theorem m_X4_isLike (D : va_G) (E : Nat → ClassId) (B : Nat) (l : Launch) (κ : Nat → Nat) (a b : Nat) (rs ts : sp_Sh) : zs_Ct D E B l yX4_isLike cX4_isLike 4 (some .boolean) ({ frames := 1, cells := 0, slots := 0, locals := 22 } : Room) [.ref a, .ref b] (fun H => cs_sh D E κ H a rs ∧ cs_sh D E κ H b ts) (zs_N) (zs_ro (.int (zs_b (sp_al rs ts)))) := by
  refine zs_ct (by decide) (Nat.le_of_ble_eq_true rfl) (fun p e s m below meth c hE hr hin hp => ?_)
  refine zs_lo (lo' := [(0, .ref a), (1, .ref b)]) rfl ?_
  obtain ⟨hs, ht⟩ := hp
  obtain ⟨xh, xf, x0, x1, x2, x3⟩ := cs_sh.s0 hs
  obtain ⟨yh, yf, y0, y1, y2, y3⟩ := cs_sh.s0 ht
  refine zs_aload_n hE 1 dX4_isLike_0 rfl rfl ?_
  refine zs_ifnullR hE dX4_isLike_1 ?_
  refine zs_aload_n hE 1 dX4_isLike_4 rfl rfl ?_
  refine zs_get hE fl_X4_17 y1 rfl dX4_isLike_5 ?_
  refine zs_aload_n hE 0 dX4_isLike_8 rfl rfl ?_
  refine zs_get hE fl_X4_17 x1 rfl dX4_isLike_9 ?_
  refine zs_icmp_eqN (tgt := 17) hE (by omega) (by omega) dX4_isLike_12 (by decide) (fun h => ?_) (fun h => ?_)
  · have hn : ts.length = rs.length := h
    refine zs_iconst (v := (nI 0)) hE dX4_isLike_17 (by decide) ?_
    refine zs_istore_n (lo' := [(2, .int (nI 0)), (0, .ref a), (1, .ref b)]) hE dX4_isLike_18 rfl (by decide) rfl ?_
    refine zs_sub (lo' := [(2, .int (nI 0)), (0, .ref a), (1, .ref b)]) [0, 1, 2] rfl ?_
    refine zs_ind1 (Hs := fun (i : Nat) => s.heap) (ks := fun (i : Nat) => 0) (ns := fun (i : Nat) => 0) (los := fun (i : Nat) => [(2, .int (nI i)), (0, .ref a), (1, .ref b)]) (I := fun (i : Nat) => i ≤ rs.length ∧ ∀ j, j < i → (rs.getD j sp_d0).2 = (ts.getD j sp_d0).2) (μ := fun (i : Nat) => rs.length - i) 0 (⟨Nat.zero_le _, fun j hj => absurd hj (Nat.not_lt_zero _)⟩) (fun i hi ih => ?_)
    try dsimp only at hi ih ⊢
    refine zs_iload_n hE 0 dX4_isLike_19 rfl rfl ?_
    refine zs_aload_n hE 1 dX4_isLike_20 rfl rfl ?_
    refine zs_get hE fl_X4_17 x1 rfl dX4_isLike_21 ?_
    refine zs_icmp_geN (tgt := 57) hE (by omega) (by omega) dX4_isLike_24 (by decide) (fun h3 => ?_) (fun h3 => ?_)
    · refine zs_iconst (v := (nI 1)) hE dX4_isLike_57 (by decide) ?_
      refine zs_top (v' := .int (zs_b (sp_al rs ts))) (by rw [zs_b1 ⟨hn.symm, fun j hj => hi.2 j (by omega)⟩]; rfl) ?_
      exact zs_zret hE hr (zs_bnar _) (⟨rfl, rfl⟩) (by decide) (by decide) dX4_isLike_58
    · refine zs_aload_n hE 1 dX4_isLike_27 rfl rfl ?_
      refine zs_iload_n hE 0 dX4_isLike_28 rfl rfl ?_
      refine zs_callVR (av := [.int (nI i)]) (st := []) (b := a) hE (m_X4_rowAt D E B l a xh rs.length xf (nI i) x0) rfl rfl sV_X4_21 x1 rfl rfl (⟨x1, x2⟩) ⟨by decide, by decide⟩ ⟨by decide, by decide⟩ (Nat.le_of_ble_eq_true rfl) dX4_isLike_29 ?_
      obtain ⟨b2, b2e, b2r⟩ := x3 i (by omega)
      refine zs_top (v' := .ref b2) (sp_at_in (by omega) (by omega) b2e) ?_
      obtain ⟨-, -, b2n, -, b2p, -⟩ := id b2r
      refine zs_astore_n (lo' := [(3, .ref b2), (2, .int (nI i)), (0, .ref a), (1, .ref b)]) hE dX4_isLike_32 rfl (by decide) rfl ?_
      refine zs_aload_n hE 0 dX4_isLike_33 rfl rfl ?_
      refine zs_ifnullR hE dX4_isLike_34 ?_
      refine zs_aload_n hE 0 dX4_isLike_37 rfl rfl ?_
      refine zs_aload_n hE 3 dX4_isLike_38 rfl rfl ?_
      refine zs_iload_n hE 1 dX4_isLike_39 rfl rfl ?_
      refine zs_callVR (av := [.int (nI i)]) (st := [.ref b2]) (b := b) hE (m_X4_rowAt D E B l b yh ts.length yf (nI i) y0) rfl rfl sV_X4_21 y1 rfl rfl (⟨y1, y2⟩) ⟨by decide, by decide⟩ ⟨by decide, by decide⟩ (Nat.le_of_ble_eq_true rfl) dX4_isLike_40 ?_
      obtain ⟨b3, b3e, b3r⟩ := y3 i (by omega)
      refine zs_top (v' := .ref b3) (sp_at_in (by omega) (by omega) b3e) ?_
      obtain ⟨-, -, b3n, -, b3p, -⟩ := id b3r
      refine zs_callVR (av := [.ref b3]) (st := []) (b := b2) hE (m_X3_isLike D E B l κ b2 b3 (rs.getD i sp_d0) (ts.getD i sp_d0)) rfl rfl sV_X4_33 b2p rfl rfl (⟨b2r, b3r⟩) ⟨by decide, by decide⟩ ⟨by decide, by decide⟩ (Nat.le_of_ble_eq_true rfl) dX4_isLike_43 ?_
      refine zs_if_neB (tgt := 51) hE dX4_isLike_46 (by decide) (fun h2 => ?_) (fun h2 => ?_)
      · refine zs_iincN (lo' := [(2, .int (nI (i + 1))), (3, .ref b2), (0, .ref a), (1, .ref b)]) hE 1 dX4_isLike_51 rfl (by decide) rfl ?_
        refine zs_goto (tgt := 19) hE dX4_isLike_54 (by decide) ?_
        refine zs_sub (lo' := [(2, .int (nI (i + 1))), (0, .ref a), (1, .ref b)]) [0, 2, 3] rfl ?_
        exact ih (i + 1) (⟨by omega, fun j hj => by rcases Nat.lt_or_ge j i with q | q; exact hi.2 j q; rw [show j = i by omega]; exact h2⟩) (by omega)
      · refine zs_iconst (v := (nI 0)) hE dX4_isLike_49 (by decide) ?_
        refine zs_top (v' := .int (zs_b (sp_al rs ts))) (by rw [zs_b0 (fun e => h2 (e.2 i (by omega)))]; rfl) ?_
        exact zs_zret hE hr (zs_bnar _) (⟨rfl, rfl⟩) (by decide) (by decide) dX4_isLike_50
  · refine zs_iconst (v := (nI 0)) hE dX4_isLike_15 (by decide) ?_
    refine zs_top (v' := .int (zs_b (sp_al rs ts))) (by rw [zs_b0 (fun e => h e.1.symm)]; rfl) ?_
    exact zs_zret hE hr (zs_bnar _) (⟨rfl, rfl⟩) (by decide) (by decide) dX4_isLike_16

set_option maxHeartbeats 4000000 in
set_option maxRecDepth 100000 in
theorem m_X4_partsBy (D : va_G) (E : Nat → ClassId) (B : Nat) (l : Launch) (κ : Nat → Nat) (a ed : Nat) (rs : sp_Sh) (hed : ed < 64) : zs_Ct D E B l yX4_partsBy cX4_partsBy 5 (some .int) ({ frames := 1, cells := 0, slots := 0, locals := 21 } : Room) [.ref a, .int (nI ed)] (fun H => cs_sh D E κ H a rs) (zs_N) (zs_ro (.int (nI (sp_sp ed rs)))) := by
  refine zs_ct (by decide) (Nat.le_of_ble_eq_true rfl) (fun p e s m below meth c hE hr hin hp => ?_)
  refine zs_lo (lo' := [(0, .ref a), (1, .int (nI ed))]) rfl ?_
  obtain ⟨xh, xf, x0, x1, x2, x3⟩ := cs_sh.s0 hp
  refine zs_iconst (v := (nI 0)) hE dX4_partsBy_0 (by decide) ?_
  refine zs_istore_n (lo' := [(2, .int (nI 0)), (0, .ref a), (1, .int (nI ed))]) hE dX4_partsBy_1 rfl (by decide) rfl ?_
  refine zs_iconst (v := (nI 0)) hE dX4_partsBy_2 (by decide) ?_
  refine zs_istore_n (lo' := [(3, .int (nI 0)), (2, .int (nI 0)), (0, .ref a), (1, .int (nI ed))]) hE dX4_partsBy_3 rfl (by decide) rfl ?_
  refine zs_sub (lo' := [(3, .int (nI 0)), (2, .int (nI 0)), (0, .ref a), (1, .int (nI ed))]) [0, 1, 2, 3] rfl ?_
  refine zs_ind1 (Hs := fun (i : Nat) => s.heap) (ks := fun (i : Nat) => 0) (ns := fun (i : Nat) => 0) (los := fun (i : Nat) => [(3, .int (nI i)), (2, .int (nI (sm (fun k => sp_rp ed (rs.getD k sp_d0)) i))), (0, .ref a), (1, .int (nI ed))]) (I := fun (i : Nat) => i ≤ rs.length) (μ := fun (i : Nat) => rs.length - i) 0 (Nat.zero_le _) (fun i hi ih => ?_)
  try dsimp only at hi ih ⊢
  refine zs_iload_n hE 0 dX4_partsBy_4 rfl rfl ?_
  refine zs_aload_n hE 2 dX4_partsBy_5 rfl rfl ?_
  refine zs_get hE fl_X4_17 x1 rfl dX4_partsBy_6 ?_
  refine zs_icmp_geN (tgt := 39) hE (by omega) (by omega) dX4_partsBy_9 (by decide) (fun h => ?_) (fun h => ?_)
  · refine zs_iload_n hE 1 dX4_partsBy_39 rfl rfl ?_
    refine zs_top (v' := .int (nI (sp_sp ed rs))) (by rw [show i = rs.length by omega]; rfl) ?_
    exact zs_iret hE hr (⟨rfl, rfl⟩) (by decide) (by decide) dX4_partsBy_40
  · refine zs_aload_n hE 2 dX4_partsBy_12 rfl rfl ?_
    refine zs_iload_n hE 0 dX4_partsBy_13 rfl rfl ?_
    refine zs_callVR (av := [.int (nI i)]) (st := []) (b := a) hE (m_X4_rowAt D E B l a xh rs.length xf (nI i) x0) rfl rfl sV_X4_21 x1 rfl rfl (⟨x1, x2⟩) ⟨by decide, by decide⟩ ⟨by decide, by decide⟩ (Nat.le_of_ble_eq_true rfl) dX4_partsBy_14 ?_
    obtain ⟨b2, b2e, b2r⟩ := x3 i (by omega)
    refine zs_top (v' := .ref b2) (sp_at_in (by omega) (by omega) b2e) ?_
    obtain ⟨-, -, b2n, -, b2p, -⟩ := id b2r
    refine zs_astore (lo' := [(4, .ref b2), (3, .int (nI i)), (2, .int (nI (sm (fun k => sp_rp ed (rs.getD k sp_d0)) i))), (0, .ref a), (1, .int (nI ed))]) hE dX4_partsBy_17 (by decide) rfl ?_
    refine zs_aload hE 0 dX4_partsBy_19 rfl ?_
    refine zs_ifnullR hE dX4_partsBy_21 ?_
    refine zs_iload_n hE 2 dX4_partsBy_24 rfl rfl ?_
    refine zs_aload hE 0 dX4_partsBy_25 rfl ?_
    refine zs_iload_n hE 4 dX4_partsBy_27 rfl rfl ?_
    refine zs_callVR (av := [.int (nI ed)]) (st := [.int (nI (sm (fun k => sp_rp ed (rs.getD k sp_d0)) i))]) (b := b2) hE (m_X3_partsBy D E B l κ b2 ed (rs.getD i sp_d0) hed) rfl rfl sV_X4_40 b2p rfl rfl (b2r) ⟨by decide, by decide⟩ ⟨by decide, by decide⟩ (Nat.le_of_ble_eq_true rfl) dX4_partsBy_28 ?_
    refine zs_iaddN hE dX4_partsBy_31 ?_
    refine zs_istore_n (lo' := [(2, .int (nI (sm (fun k => sp_rp ed (rs.getD k sp_d0)) i + (sp_rp ed (rs.getD i sp_d0))))), (4, .ref b2), (3, .int (nI i)), (0, .ref a), (1, .int (nI ed))]) hE dX4_partsBy_32 rfl (by decide) rfl ?_
    refine zs_iincN (lo' := [(3, .int (nI (i + 1))), (2, .int (nI (sm (fun k => sp_rp ed (rs.getD k sp_d0)) i + (sp_rp ed (rs.getD i sp_d0))))), (4, .ref b2), (0, .ref a), (1, .int (nI ed))]) hE 2 dX4_partsBy_33 rfl (by decide) rfl ?_
    refine zs_goto (tgt := 4) hE dX4_partsBy_36 (by decide) ?_
    refine zs_sub (lo' := [(3, .int (nI (i + 1))), (2, .int (nI (sm (fun k => sp_rp ed (rs.getD k sp_d0)) i + (sp_rp ed (rs.getD i sp_d0))))), (0, .ref a), (1, .int (nI ed))]) [0, 1, 3, 4] rfl ?_
    exact ih (i + 1) (by omega) (by omega)

set_option maxHeartbeats 4000000 in
set_option maxRecDepth 100000 in
theorem m_X4_sumOnto (D : va_G) (E : Nat → ClassId) (B : Nat) (l : Launch) (κ : Nat → Nat) (a : Nat) (x : Int64) (rs : sp_Sh) : zs_Ct D E B l yX4_sumOnto cX4_sumOnto 7 (some .long) ({ frames := 1, cells := 0, slots := 0, locals := 28 } : Room) [.ref a, .long x] (fun H => cs_sh D E κ H a rs) (zs_N) (zs_ro (.long (sp_ss rs x rs.length))) := by
  refine zs_ct (by decide) (Nat.le_of_ble_eq_true rfl) (fun p e s m below meth c hE hr hin hp => ?_)
  refine zs_lo (lo' := [(0, .ref a), (1, .long x)]) rfl ?_
  obtain ⟨xh, xf, x0, x1, x2, x3⟩ := cs_sh.s0 hp
  refine zs_lload_n hE 1 dX4_sumOnto_0 rfl rfl ?_
  refine zs_lstore_n (lo' := [(3, .long x), (0, .ref a), (1, .long x)]) hE dX4_sumOnto_1 rfl (by decide) rfl ?_
  refine zs_iconst (v := (nI 0)) hE dX4_sumOnto_2 (by decide) ?_
  refine zs_istore (lo' := [(5, .int (nI 0)), (3, .long x), (0, .ref a), (1, .long x)]) hE dX4_sumOnto_3 (by decide) rfl ?_
  refine zs_sub (lo' := [(5, .int (nI 0)), (3, .long x), (0, .ref a)]) [0, 1, 2] rfl ?_
  refine zs_ind1 (Hs := fun (i : Nat) => s.heap) (ks := fun (i : Nat) => 0) (ns := fun (i : Nat) => 0) (los := fun (i : Nat) => [(5, .int (nI i)), (3, .long (sp_ss rs x i)), (0, .ref a)]) (I := fun (i : Nat) => i ≤ rs.length) (μ := fun (i : Nat) => rs.length - i) 0 (Nat.zero_le _) (fun i hi ih => ?_)
  try dsimp only at hi ih ⊢
  refine zs_iload hE 0 dX4_sumOnto_5 rfl ?_
  refine zs_aload_n hE 2 dX4_sumOnto_7 rfl rfl ?_
  refine zs_get hE fl_X4_17 x1 rfl dX4_sumOnto_8 ?_
  refine zs_icmp_geN (tgt := 40) hE (by omega) (by omega) dX4_sumOnto_11 (by decide) (fun h => ?_) (fun h => ?_)
  · refine zs_lload_n hE 1 dX4_sumOnto_40 rfl rfl ?_
    refine zs_top (v' := .long (sp_ss rs x rs.length)) (by rw [show i = rs.length by omega]) ?_
    exact zs_lret hE hr (⟨rfl, rfl⟩) (by decide) (by decide) dX4_sumOnto_41
  · refine zs_aload_n hE 2 dX4_sumOnto_14 rfl rfl ?_
    refine zs_iload hE 0 dX4_sumOnto_15 rfl ?_
    refine zs_callVR (av := [.int (nI i)]) (st := []) (b := a) hE (m_X4_rowAt D E B l a xh rs.length xf (nI i) x0) rfl rfl sV_X4_21 x1 rfl rfl (⟨x1, x2⟩) ⟨by decide, by decide⟩ ⟨by decide, by decide⟩ (Nat.le_of_ble_eq_true rfl) dX4_sumOnto_17 ?_
    obtain ⟨b2, b2e, b2r⟩ := x3 i (by omega)
    refine zs_top (v' := .ref b2) (sp_at_in (by omega) (by omega) b2e) ?_
    obtain ⟨-, -, b2n, -, b2p, -⟩ := id b2r
    refine zs_astore (lo' := [(6, .ref b2), (5, .int (nI i)), (3, .long (sp_ss rs x i)), (0, .ref a)]) hE dX4_sumOnto_20 (by decide) rfl ?_
    refine zs_aload hE 0 dX4_sumOnto_22 rfl ?_
    refine zs_ifnullR hE dX4_sumOnto_24 ?_
    refine zs_aload hE 0 dX4_sumOnto_27 rfl ?_
    refine zs_lload_n hE 2 dX4_sumOnto_29 rfl rfl ?_
    refine zs_callVR (av := [.long (sp_ss rs x i)]) (st := []) (b := b2) hE (m_X3_sumOnto D E B l κ b2 (sp_ss rs x i) (rs.getD i sp_d0)) rfl rfl sV_X4_41 b2p rfl rfl (b2r) ⟨by decide, by decide⟩ ⟨by decide, by decide⟩ (Nat.le_of_ble_eq_true rfl) dX4_sumOnto_30 ?_
    refine zs_lstore_n (lo' := [(3, .long (sp_ss rs x (i + 1))), (6, .ref b2), (5, .int (nI i)), (0, .ref a)]) hE dX4_sumOnto_33 rfl (by decide) rfl ?_
    refine zs_iincN (lo' := [(5, .int (nI (i + 1))), (3, .long (sp_ss rs x (i + 1))), (6, .ref b2), (0, .ref a)]) hE 2 dX4_sumOnto_34 rfl (by decide) rfl ?_
    refine zs_goto (tgt := 5) hE dX4_sumOnto_37 (by decide) ?_
    refine zs_sub (lo' := [(5, .int (nI (i + 1))), (3, .long (sp_ss rs x (i + 1))), (0, .ref a)]) [0, 1, 3] rfl ?_
    exact ih (i + 1) (by omega) (by omega)

theorem sp_sp63 {rs : sp_Sh} : ∀ n, (∀ j, j < n → (rs.getD j sp_d0).1 < 6) → sm (fun k => sp_rp 63 (rs.getD k sp_d0)) n = sm (fun k => (rs.getD k sp_d0).2.length) n + n
  | 0, _ => rfl
  | n + 1, h => by
    show sm _ n + sp_rp 63 _ = sm _ n + (rs.getD n sp_d0).2.length + (n + 1)
    have h1 := h n (by omega)
    have h2 : 63 / 2 ^ (rs.getD n sp_d0).1 % 2 = 1 := by
      revert h1
      generalize (rs.getD n sp_d0).1 = e
      intro h1
      rcases (show e = 0 ∨ e = 1 ∨ e = 2 ∨ e = 3 ∨ e = 4 ∨ e = 5 by omega) with rfl | rfl | rfl | rfl | rfl | rfl <;> rfl
    rw [sp_sp63 n (fun j hj => h j (by omega)), sp_rp, if_pos h2]
    omega
set_option maxHeartbeats 4000000 in
set_option maxRecDepth 100000 in
theorem m_X4_notesInAll (D : va_G) (E : Nat → ClassId) (B : Nat) (l : Launch) (κ : Nat → Nat) (a : Nat) (rs : sp_Sh) : zs_Ct D E B l yX4_notesInAll cX4_notesInAll 1 (some .int) ({ frames := 2, cells := 0, slots := 0, locals := 45 } : Room) [.ref a] (fun H => cs_sh D E κ H a rs) (zs_N) (zs_ro (.int (nI (sp_no rs)))) := by
  refine zs_ct (by decide) (Nat.le_of_ble_eq_true rfl) (fun p e s m below meth c hE hr hin hp => ?_)
  refine zs_lo (lo' := [(0, .ref a)]) rfl ?_
  have hs := hp
  obtain ⟨xh, xf, x0, x1, x2, x3⟩ := cs_sh.s0 hp
  refine zs_aload_n hE 0 dX4_notesInAll_0 rfl rfl ?_
  refine zs_bipush (v := (nI 63)) hE dX4_notesInAll_1 (by decide) ?_
  refine zs_callVR (av := [.int (nI 63)]) (st := []) (b := a) hE (m_X4_partsBy D E B l κ a 63 rs (by decide)) rfl rfl sV_X4_36 x1 rfl rfl (hs) ⟨by decide, by decide⟩ ⟨by decide, by decide⟩ (Nat.le_of_ble_eq_true rfl) dX4_notesInAll_3 ?_
  have e63 : sp_sp 63 rs = sp_no rs + rs.length := sp_sp63 rs.length (fun j hj => by obtain ⟨b, -, q, -⟩ := x3 j hj; exact q.1)
  refine zs_aload_n hE 0 dX4_notesInAll_6 rfl rfl ?_
  refine zs_get hE fl_X4_17 x1 rfl dX4_notesInAll_7 ?_
  refine zs_isubN hE (by omega) dX4_notesInAll_10 ?_
  refine zs_top (v' := .int (nI (sp_no rs))) (by rw [e63, Nat.add_sub_cancel]) ?_
  exact zs_iret hE hr (⟨rfl, rfl⟩) (by decide) (by decide) dX4_notesInAll_11

set_option maxHeartbeats 4000000 in
set_option maxRecDepth 100000 in
theorem m_X4_takeUnlike (D : va_G) (E : Nat → ClassId) (B : Nat) (l : Launch) (κ : Nat → Nat) (H0 : Heap) (a ha g : Nat) (rs ts : sp_Sh) (hne : ha ≠ a) (h1 : H0.size ≤ a) (h2 : H0.size ≤ ha) : zs_Ct D E B l yX4_takeUnlike cX4_takeUnlike 4 none ({ frames := 2, cells := 0, slots := 0, locals := 45 } : Room) [.ref a, .ref g] (fun H => cs_mk D E κ H0 H a ha rs ∧ cs_sh D E κ H0 g ts ∧ H0.size ≤ H.size ∧ ∀ q, q < H0.size → H[q]? = H0[q]?) (fun q => q = a ∨ q = ha) (fun v H H1 => v = none ∧ H1.size = H.size ∧ cs_mk D E κ H0 H1 a ha (sp_jn rs ts ts.length)) := by
  refine zs_ct (by decide) (Nat.le_of_ble_eq_true rfl) (fun p e s m below meth c hE hr hin hp => ?_)
  refine zs_lo (lo' := [(0, .ref a), (1, .ref g)]) rfl ?_
  obtain ⟨hmk, hc, hz, ho⟩ := hp
  have hl4 : rs.length ≤ 4 := hmk.1
  obtain ⟨yh, yf, y0, y1, y2, y3⟩ := cs_sh.s0 hc
  refine zs_iconst (v := (nI 0)) hE dX4_takeUnlike_0 (by decide) ?_
  refine zs_istore_n (lo' := [(2, .int (nI 0)), (0, .ref a), (1, .ref g)]) hE dX4_takeUnlike_1 rfl (by decide) rfl ?_
  refine zs_sub (lo' := [(2, .int (nI 0)), (0, .ref a), (1, .ref g)]) [0, 1, 2] rfl ?_
  refine zs_ind2 (Hs := fun (i : Nat) (K : Heap) => K) (ks := fun (i : Nat) (K : Heap) => 0) (ns := fun (i : Nat) (K : Heap) => 0) (los := fun (i : Nat) (K : Heap) => [(2, .int (nI i)), (0, .ref a), (1, .ref g)]) (I := fun (i : Nat) (K : Heap) => i ≤ ts.length ∧ cs_mk D E κ H0 K a ha (sp_jn rs ts i) ∧ K.size = s.heap.size ∧ ∀ q, q < H0.size → K[q]? = H0[q]?) (μ := fun (i : Nat) (K : Heap) => ts.length - i) 0 s.heap (⟨Nat.zero_le _, hmk, rfl, ho⟩) (fun i K hi ih => ?_)
  try dsimp only at hi ih ⊢
  have hmk := hi.2.1
  have hoK : ∀ q, q < H0.size → K[q]? = H0[q]? := hi.2.2.2
  have hzK : K.size = s.heap.size := hi.2.2.1
  have y1 := y1.kept (hoK _ y1.lt)
  have y2 := y2.kept (hoK _ y2.lt)
  refine zs_iload_n hE 0 dX4_takeUnlike_2 rfl rfl ?_
  refine zs_aload_n hE 2 dX4_takeUnlike_3 rfl rfl ?_
  refine zs_get hE fl_X4_17 y1 rfl dX4_takeUnlike_4 ?_
  refine zs_icmp_geN (tgt := 35) hE (by omega) (by omega) dX4_takeUnlike_7 (by decide) (fun h3 => ?_) (fun h3 => ?_)
  · exact zs_vret hE hr (⟨rfl, hzK, by rw [show ts.length = i by omega]; exact hmk⟩) (by decide) (by decide) dX4_takeUnlike_35
  · refine zs_aload_n hE 2 dX4_takeUnlike_10 rfl rfl ?_
    refine zs_iload_n hE 0 dX4_takeUnlike_11 rfl rfl ?_
    refine zs_callVR (av := [.int (nI i)]) (st := []) (b := g) hE (m_X4_rowAt D E B l g yh ts.length yf (nI i) y0) rfl rfl sV_X4_21 y1 rfl rfl (⟨y1, y2⟩) ⟨by decide, by decide⟩ ⟨by decide, by decide⟩ (Nat.le_of_ble_eq_true rfl) dX4_takeUnlike_12 ?_
    obtain ⟨b2, b2e, b2r⟩ := y3 i (by omega)
    refine zs_top (v' := .ref b2) (sp_at_in (by omega) (by omega) b2e) ?_
    obtain ⟨-, -, b2n, -, b2p, -⟩ := id b2r
    have b2r1 := b2r.kept (H1 := K) (fun q z _ => hoK q z)
    have b2p := b2p.kept (hoK _ b2p.lt)
    obtain ⟨k0, k1, f, k2, k3⟩ := id hmk
    have hs0 : cs_s0 D E κ K a ha f (sp_jn rs ts i) := ⟨k0, k1, k2, fun j hj => (k3 j hj).imp fun b z => ⟨z.1, z.2.kept (fun q z _ => hoK q z)⟩⟩
    refine zs_astore_n (lo' := [(3, .ref b2), (2, .int (nI i)), (0, .ref a), (1, .ref g)]) hE dX4_takeUnlike_15 rfl (by decide) rfl ?_
    refine zs_aload_n hE 2 dX4_takeUnlike_16 rfl rfl ?_
    refine zs_aload_n hE 0 dX4_takeUnlike_17 rfl rfl ?_
    refine zs_callVR (av := [.ref b2]) (st := []) (b := a) hE (m_X4_hasLike D E B l κ a ha b2 f (sp_jn rs ts i) (ts.getD i sp_d0)) rfl rfl sV_X4_25 k1 rfl rfl (⟨hs0, b2r1⟩) ⟨by decide, by decide⟩ ⟨by decide, by decide⟩ (Nat.le_of_ble_eq_true rfl) dX4_takeUnlike_18 ?_
    refine zs_if_neB (tgt := 29) hE dX4_takeUnlike_21 (by decide) (fun h4 => ?_) (fun h4 => ?_)
    · refine zs_iincN (lo' := [(2, .int (nI (i + 1))), (3, .ref b2), (0, .ref a), (1, .ref g)]) hE 1 dX4_takeUnlike_29 rfl (by decide) rfl ?_
      refine zs_goto (tgt := 2) hE dX4_takeUnlike_32 (by decide) ?_
      refine zs_sub (lo' := [(2, .int (nI (i + 1))), (0, .ref a), (1, .ref g)]) [0, 2, 3] rfl ?_
      exact ih (i + 1) K (⟨by omega, by rw [show sp_jn rs ts (i + 1) = sp_jn rs ts i from pI_t (Or.inl h4)]; exact hmk, hzK, hoK⟩) (by omega)
    · refine zs_aload_n hE 2 dX4_takeUnlike_24 rfl rfl ?_
      refine zs_aload_n hE 0 dX4_takeUnlike_25 rfl rfl ?_
      refine zs_callV (av := [.ref b2]) (st := []) hE (m_X4_take D E B l a ha (sp_jn rs ts i).length b2 f _ k0 hne) sV_X4_29 k1 rfl rfl (⟨k1, k2, b2p⟩) ⟨by decide, by decide⟩ ⟨by decide, by decide⟩ (fun q h => Or.inl h) (Nat.le_of_ble_eq_true rfl) dX4_takeUnlike_26 (fun v1 H1 hv1 hz1 hk1 => ?_)
      obtain ⟨rfl, cz, c4, c5⟩ := hv1
      refine zs_widen (k' := 0) (n' := 0) (by decide) (by decide) ?_
      have hoo : ∀ q, q < H0.size → H1[q]? = H0[q]? := fun q z => (hk1 q (by omega) (fun w => by rcases w with w | w <;> omega)).trans (hoK q z)
      refine zs_iincN (lo' := [(2, .int (nI (i + 1))), (3, .ref b2), (0, .ref a), (1, .ref g)]) hE 1 dX4_takeUnlike_29 rfl (by decide) rfl ?_
      refine zs_goto (tgt := 2) hE dX4_takeUnlike_32 (by decide) ?_
      refine zs_sub (lo' := [(2, .int (nI (i + 1))), (0, .ref a), (1, .ref g)]) [0, 2, 3] rfl ?_
      exact ih (i + 1) H1 (⟨by omega, by
              rcases Nat.lt_or_ge (sp_jn rs ts i).length 4 with q | q
              · obtain ⟨d1, d2⟩ := c5 q
                rw [show sp_jn rs ts (i + 1) = sp_jn rs ts i ++ [ts.getD i sp_d0] from pI_f (fun z => z.elim h4 (fun z => by omega))]
                refine ⟨by rw [List.length_append]; exact q, by rw [List.length_append]; exact d1, _, d2, fun j hj => ?_⟩
                rw [List.length_append] at hj
                have hj : j < (sp_jn rs ts i).length + 1 := hj
                rcases Nat.lt_or_ge j (sp_jn rs ts i).length with z | z
                · obtain ⟨b, e1, e2⟩ := k3 j z
                  exact ⟨b, by rw [va_up, if_neg (by omega)]; exact e1, by rw [gd_app z]; exact e2⟩
                · rw [show j = (sp_jn rs ts i).length by omega, gd_app2]
                  exact ⟨b2, by rw [va_up, if_pos rfl], b2r⟩
              · have e := c4 (by omega)
                rw [show sp_jn rs ts (i + 1) = sp_jn rs ts i from pI_t (Or.inr q)]
                rw [e]; exact hmk, cz.trans hzK, hoo⟩) (by omega)
end
section
/-! versions -/
theorem vb1 {P : Prop} (h : P) : Value.int (nI 1) = .int (zs_b P) := by rw [zs_b1 h]; rfl
theorem vb0 {P : Prop} (h : ¬ P) : Value.int (nI 0) = .int (zs_b P) := by rw [zs_b0 h]; rfl
theorem lN_shr {n : Nat} (h : n < 2 ^ 63) (x : Int64) (k : Nat) (hs : (x.toBitVec.smod 64).toNat = k) : lN n >>> x = lN (n / 2 ^ k) := by
  apply Int64.toInt_inj.mp
  have h2 : n / 2 ^ k ≤ n := Nat.div_le_self _ _
  have e : (lN n >>> x).toInt = (lN n).toInt >>> k := by
    show ((lN n).toBitVec.sshiftRight (x.toBitVec.smod 64).toNat).toInt = _
    rw [hs, BitVec.toInt_sshiftRight]
    rfl
  rw [e, pk_lT h, pk_lT (by omega), Int.shiftRight_eq_div_pow]
  rfl
theorem lN_and (a b : Nat) : lN a &&& lN b = lN (a &&& b) := by
  apply Int64.toBitVec_inj.mp
  show BitVec.ofNat 64 a &&& BitVec.ofNat 64 b = BitVec.ofNat 64 (a &&& b)
  rw [BitVec.ofNat_and]
theorem lN_or (a b : Nat) : lN a ||| lN b = lN (a ||| b) := by
  apply Int64.toBitVec_inj.mp
  show BitVec.ofNat 64 a ||| BitVec.ofNat 64 b = BitVec.ofNat 64 (a ||| b)
  rw [BitVec.ofNat_or]
theorem lN_one (m : Nat) : lN m &&& 1 = lN (m % 2) := by
  rw [show (1 : Int64) = lN 1 from rfl, lN_and, Nat.and_one_is_mod]
theorem lN_bit0 : ∀ v : Nat, v < 40 → (((nI v).toInt64 &&& 63).toBitVec.smod 64).toNat = v := by decide +kernel
theorem lN_bit {m v : Nat} (hm : m < 2 ^ 40) (hv : v < 40) : (lN m >>> ((nI v).toInt64 &&& 63)) &&& 1 = lN (m / 2 ^ v % 2) := by
  rw [lN_shr (by omega) _ v (lN_bit0 v hv), lN_one]
theorem lN_pow : ∀ v : Nat, v < 40 → (1 : Int64) <<< ((nI v).toInt64 &&& 63) = lN (2 ^ v) := by decide +kernel
theorem lg_cmp_lN {a b : Nat} (ha : a < 2 ^ 63) (hb : b < 2 ^ 63) : lg_cmp (lN a) (lN b) = if a = b then 0 else if b < a then 1 else -1 := by
  unfold lg_cmp
  by_cases h : b < a
  · rw [if_pos ((pk_lLT hb ha).mpr h), if_neg (by omega), if_pos h]
  · rw [if_neg (fun q => h ((pk_lLT hb ha).mp q))]
    by_cases h2 : a = b
    · rw [if_pos ((pk_lEQ ha hb).mpr h2), if_pos h2]
    · rw [if_neg (fun q => h2 ((pk_lEQ ha hb).mp q)), if_neg h2, if_neg h]
/-- what a cell holds is one thing -/
theorem pt_arr {D : va_G} {cA cB : ClassId} {a n n' : Nat} {f g : Nat → Int32} {H : Heap} (h : zs_pt D a (.inl (cA, n, .inl f)) H) (h' : zs_pt D a (.inl (cB, n', .inl g)) H) : n = n' ∧ ∀ j, j < n → f j = g j := by
  have e : vp_cell cA (n, .inl f) = vp_cell cB (n', .inl g) := Option.some.inj (Eq.trans (Eq.symm h) h')
  rw [vp_cell_i, vp_cell_i] at e
  have hn : n = n' := by rw [← arrV_size cA n (fun j => .int (f j)), ← arrV_size cB n' (fun j => .int (g j)), e]
  subst hn
  refine ⟨rfl, fun j hj => ?_⟩
  have e1 := arrV_read cA (fun j => .int (f j)) hj
  rw [e, arrV_read cB _ hj] at e1
  exact (Value.int.inj (Option.some.inj e1)).symm
theorem pt_arrq {D : va_G} {cA cB : ClassId} {a n n' : Nat} {f g : Nat → Option Nat} {H : Heap} (h : zs_pt D a (.inl (cA, n, .inr (.inr (.inr (.inr f))))) H) (h' : zs_pt D a (.inl (cB, n', .inr (.inr (.inr (.inr g))))) H) : n = n' ∧ ∀ j, j < n → f j = g j := by
  have e : vp_cell cA (n, .inr (.inr (.inr (.inr f)))) = vp_cell cB (n', .inr (.inr (.inr (.inr g)))) := Option.some.inj (Eq.trans (Eq.symm h) h')
  rw [vp_cell_q, vp_cell_q] at e
  have hn : n = n' := by rw [← arrV_size cA n (fun j => va_rf (f j)), ← arrV_size cB n' (fun j => va_rf (g j)), e]
  subst hn
  refine ⟨rfl, fun j hj => ?_⟩
  have e1 := arrV_read cA (fun j => va_rf (f j)) hj
  rw [e, arrV_read cB _ hj] at e1
  have e2 := Option.some.inj e1
  revert e2
  cases f j <;> cases g j <;> intro e2 <;> first | rfl | (cases e2; done) | (cases e2; rfl)
theorem pt_obj {D : va_G} {a ci : Nat} {fs gs : List Value} {H : Heap} {r : vw_C} (hc : zs_C[ci]? = some r) (h : zs_pt D a (.inr (ci, fs)) H) (h' : zs_pt D a (.inr (ci, gs)) H) : ∀ k, k < r.2.2 → vp_V fs k = vp_V gs k := by
  obtain ⟨r1, e1, cell, q1, q2, q3, q4⟩ := h
  obtain ⟨r2, e2, cell', p1, p2, p3, p4⟩ := h'
  cases Option.some.inj (e1.symm.trans hc)
  cases Option.some.inj (e2.symm.trans hc)
  cases Option.some.inj (q1.symm.trans p1)
  intro k hk
  exact Option.some.inj ((q4 k hk).symm.trans (p4 k hk))
theorem cs_row.inj {D : va_G} {E : Nat → ClassId} {κ : Nat → Nat} {H : Heap} {a : Nat} {r t : sp_R} (h : cs_row D E κ H a r) (h' : cs_row D E κ H a t) : r = t := by
  obtain ⟨⟨h0, h1, h2⟩, -, n, -, h3, h4⟩ := h
  obtain ⟨⟨g0, g1, g2⟩, -, n', -, g3, g4⟩ := h'
  have e := pt_obj (r := (RX3, TX3, 2)) rfl h3 g3
  have e0 : (Value.int (nI r.1)) = .int (nI t.1) := e 0 (by decide)
  have e1 : (Value.ref n) = .ref n' := e 1 (by decide)
  cases e1
  have e2 : nI r.1 = nI t.1 := Value.int.inj e0
  obtain ⟨l1, l2⟩ := pt_arr h4 g4
  refine Prod.ext ((nI_eq (by omega) (by omega)).mp e2) (gd_ext 0 l1 (fun j hj => ?_))
  exact (nI_eq (Nat.lt_of_le_of_lt (gd_gt h2 j) (by decide)) (Nat.lt_of_le_of_lt (gd_gt g2 j) (by decide))).mp (l2 j hj)
theorem cs_sh.inj {D : va_G} {E : Nat → ClassId} {κ : Nat → Nat} {H : Heap} {a : Nat} {rs ts : sp_Sh} (h : cs_sh D E κ H a rs) (h' : cs_sh D E κ H a ts) : rs = ts := by
  obtain ⟨n, f, h1, h2, h3, h4⟩ := h.s0
  obtain ⟨n', g, g1, g2, g3, g4⟩ := h'.s0
  have e := pt_obj (r := (RX4, TX4, 2)) rfl h2 g2
  have e0 : (Value.ref n) = .ref n' := e 0 (by decide)
  have e1 : (Value.int (nI rs.length)) = .int (nI ts.length) := e 1 (by decide)
  cases e0
  have e2 : nI rs.length = nI ts.length := Value.int.inj e1
  have hl := (nI_eq (by omega) (by omega)).mp e2
  refine gd_ext sp_d0 hl (fun j hj => ?_)
  obtain ⟨b, q1, q2⟩ := h4 j hj
  obtain ⟨b', p1, p2⟩ := g4 j (by omega)
  have := (pt_arrq h3 g3).2 j (by omega)
  rw [q1, p1] at this
  cases this
  exact q2.inj p2
theorem sp_al_rf (a : sp_Sh) : sp_al a a := ⟨rfl, fun _ _ => rfl⟩
theorem sp_al_sy {a b : sp_Sh} (h : sp_al a b) : sp_al b a := ⟨h.1.symm, fun j hj => (h.2 j (by rw [h.1]; exact hj)).symm⟩
theorem sp_al_tr {a b c : sp_Sh} (h : sp_al a b) (h2 : sp_al b c) : sp_al a c := ⟨h.1.trans h2.1, fun j hj => (h.2 j hj).trans (h2.2 j (by rw [← h.1]; exact hj))⟩
/-- a slot: no sheaf, or one -/
def cs_os (D : va_G) (E : Nat → ClassId) (κ : Nat → Nat) (H : Heap) (o : Option Nat) (s : Option sp_Sh) : Prop := (s = none → o = none) ∧ ∀ rs, s = some rs → ∃ a : Nat, o = some a ∧ cs_sh D E κ H a rs
theorem cs_os.kept {D : va_G} {E : Nat → ClassId} {κ : Nat → Nat} {H H1 : Heap} {o : Option Nat} {t : Option sp_Sh} (h : cs_os D E κ H o t) (hk : cs_kp κ H H1) : cs_os D E κ H1 o t := ⟨h.1, fun rs q => (h.2 rs q).imp fun a z => ⟨z.1, z.2.kept hk⟩⟩
def sp_oal (x y : Option sp_Sh) : Prop := ∀ a b, x = some a → y = some b → sp_al a b
def cs_vs (D : va_G) (E : Nat → ClassId) (κ : Nat → Nat) (H : Heap) (f : Nat → Option Nat) (sl : Nat → Option sp_Sh) : Prop := ∀ j, j < 32 → cs_os D E κ H (f j) (sl j)
theorem cs_vs.kept {D : va_G} {E : Nat → ClassId} {κ : Nat → Nat} {H H1 : Heap} {f : Nat → Option Nat} {sl : Nat → Option sp_Sh} (h : cs_vs D E κ H f sl) (hk : cs_kp κ H H1) : cs_vs D E κ H1 f sl := fun j hj => (h j hj).kept hk
/-- a version's cells; its number, piece, the versions above (bits), what it was written from -/
def cs_v0 (D : va_G) (E : Nat → ClassId) (H : Heap) (a h num pn am : Nat) (wf : Int32) (f : Nat → Option Nat) : Prop := zs_pt D a (.inr (5, [.int (nI num), .int (nI pn), .long (lN am), .int wf, .ref h])) H ∧ zs_pt D h (.inl (E 9, 32, .inr (.inr (.inr (.inr f))))) H
def cs_ver (D : va_G) (E : Nat → ClassId) (κ : Nat → Nat) (H : Heap) (a num pn am : Nat) (wf : Int32) (sl : Nat → Option sp_Sh) : Prop := κ a = 0 ∧ num < 40 ∧ pn < 6 ∧ am < 2 ^ 40 ∧ ∃ (h : Nat) (f : Nat → Option Nat), κ h = 0 ∧ cs_v0 D E H a h num pn am wf f ∧ cs_vs D E κ H f sl
theorem cs_ver.kept {D : va_G} {E : Nat → ClassId} {κ : Nat → Nat} {H H1 : Heap} {a num pn am : Nat} {wf : Int32} {sl : Nat → Option sp_Sh} (h : cs_ver D E κ H a num pn am wf sl) (hk : cs_kp κ H H1) : cs_ver D E κ H1 a num pn am wf sl := by
  obtain ⟨h1, h2, h3, h4, h5, f, h6, ⟨h7, h8⟩, h9⟩ := h
  exact ⟨h1, h2, h3, h4, h5, f, h6, ⟨h7.kept (hk _ h7.lt h1), h8.kept (hk _ h8.lt h6)⟩, h9.kept hk⟩

set_option maxHeartbeats 4000000 in
set_option maxRecDepth 100000 in
theorem m_X6_sheafOf (D : va_G) (E : Nat → ClassId) (B : Nat) (l : Launch) (κ : Nat → Nat) (b : Nat) (r : sp_R) : zs_Ct D E B l yX6_sheafOf cX6_sheafOf 2 (some (.object "ScoreSheaf$Sheaf")) ({ frames := 2, cells := 2, slots := 6, locals := 60 } : Room) [.ref b] (fun H => cs_row D E κ H b r ∧ ∀ q, H.size ≤ q → κ q = 0) (zs_N) (fun v H H1 => ∃ q : Nat, v = some (.ref q) ∧ H.size ≤ q ∧ cs_sh D E κ H1 q [r]) := by
  refine zs_ct (by decide) (Nat.le_of_ble_eq_true rfl) (fun p e s m below meth c hE hr hin hp => ?_)
  refine zs_lo (lo' := [(0, .ref b)]) rfl ?_
  obtain ⟨rb, hκ⟩ := hp
  have rb0 : cs_row D E κ s.heap b ([r].getD 0 sp_d0) := rb
  obtain ⟨-, -, bn, -, bp, -⟩ := id rb
  refine zs_new (fs := [.null, .int 0]) hE nl_X6_179 (fun j hj => by rcases (show j = 0 ∨ j = 1 by omega) with rfl | rfl <;> rfl) (by decide) (by decide) dX6_sheafOf_0 (fun q1 H1 hq1 hp1 hz1 ho1 => ?_)
  refine zs_widen (k' := 1) (n' := 2) (by omega) (by omega) ?_
  have ne2 : b ≠ q1 := by have := zs_pt.lt bp; omega
  have bp := zs_pt.kept bp (ho1 _ (zs_pt.lt bp))
  refine zs_dup hE dX6_sheafOf_3 rfl ?_
  refine zs_callIN (ret := none) (av := []) (st := [.ref q1]) hE (m_X4_init D E B l q1) sIN_X6_352 (hp1) ⟨by decide, by decide⟩ ⟨by decide, by decide⟩ (fun q h => Or.inr (by omega)) (Nat.le_of_ble_eq_true rfl) dX6_sheafOf_4 (fun v3 H3 hv3 hz3 hk3 => ?_)
  obtain ⟨rfl, ha, cz, cs, c1, c2⟩ := hv3
  refine zs_widen (k' := 2) (n' := 6) (by decide) (by decide) ?_
  have hoo : ∀ q, q < s.heap.size → H3[q]? = s.heap[q]? := fun q z => (hk3 q (by omega) (fun w => by omega)).trans (ho1 q z)
  have rb := rb.kept (H1 := H3) (fun q z _ => hoo q z)
  obtain ⟨-, -, bn, -, bp, -⟩ := id rb
  refine zs_astore_n (lo' := [(1, .ref q1), (0, .ref b)]) hE dX6_sheafOf_7 rfl (by decide) rfl ?_
  refine zs_aload_n hE 0 dX6_sheafOf_8 rfl rfl ?_
  refine zs_aload_n hE 1 dX6_sheafOf_9 rfl rfl ?_
  refine zs_callV (av := [.ref b]) (st := []) hE (m_X4_take D E B l q1 ha 0 b (fun _ => none) _ (by omega) (by omega)) sV_X6_353 c1 rfl rfl (⟨c1, c2, bp⟩) ⟨by decide, by decide⟩ ⟨by decide, by decide⟩ (fun q h => Or.inr (by rcases h with h | h <;> omega)) (Nat.le_of_ble_eq_true rfl) dX6_sheafOf_10 (fun v4 H4 hv4 hz4 hk4 => ?_)
  obtain ⟨rfl, dz, -, d0⟩ := hv4
  refine zs_widen (k' := 2) (n' := 6) (by decide) (by decide) ?_
  obtain ⟨d1, d2⟩ := d0 (by decide)
  refine zs_aload_n hE 0 dX6_sheafOf_13 rfl rfl ?_
  have hoo2 : ∀ q, q < s.heap.size → H4[q]? = H3[q]? := fun q z => hk4 q (by omega) (fun w => by rcases w with w | w <;> omega)
  refine zs_top (v' := va_rf (some q1)) rfl ?_
  exact zs_aret hE hr (by first | exact Or.inl ⟨_, rfl⟩ | exact Or.inr ⟨_, rfl⟩) (⟨q1, rfl, by omega, Nat.le_of_ble_eq_true rfl, hκ _ (by omega), ha, _, hκ _ (by omega), d1, d2, fun j hj => ⟨b, by rw [show j = 0 from Nat.lt_one_iff.mp hj]; rfl, by rw [show j = 0 from Nat.lt_one_iff.mp hj]; exact rb0.kept (H1 := H4) (fun q z _ => (hoo2 q z).trans (hoo q z))⟩⟩) (by decide) (by decide) dX6_sheafOf_14

set_option maxHeartbeats 4000000 in
set_option maxRecDepth 100000 in
theorem m_X6_areAlike (D : va_G) (E : Nat → ClassId) (B : Nat) (l : Launch) (κ : Nat → Nat) (x y : Option Nat) (rs ts : Option sp_Sh) (hst : rs = none ↔ ts = none) : zs_Ct D E B l yX6_areAlike cX6_areAlike 2 (some .boolean) ({ frames := 2, cells := 0, slots := 0, locals := 45 } : Room) [va_rf x, va_rf y] (fun H => cs_os D E κ H x rs ∧ cs_os D E κ H y ts) (zs_N) (zs_ro (.int (zs_b (sp_oal rs ts)))) := by
  refine zs_ct (by decide) (by cases x <;> cases y <;> exact Nat.le_of_ble_eq_true rfl) (fun p e s m below meth c hE hr hin hp => ?_)
  refine zs_lo (lo' := [(0, va_rf x), (1, va_rf y)]) (by cases x <;> cases y <;> rfl) ?_
  obtain ⟨hx, hy⟩ := hp
  refine zs_aload_nq hE 0 dX6_areAlike_0 rfl rfl ?_
  refine zs_aload_nq hE 1 dX6_areAlike_1 rfl rfl ?_
  refine zs_acmp_eq (tgt := 17) hE dX6_areAlike_2 (by decide) (fun h => ?_) (fun h => ?_)
  · refine zs_iconst (v := (nI 1)) hE dX6_areAlike_17 (by decide) ?_
    refine zs_goto (tgt := 22) hE dX6_areAlike_18 (by decide) ?_
    refine zs_top (v' := .int (zs_b (sp_oal rs ts))) (by
          refine vb1 (fun a b ha hb => ?_)
          obtain ⟨q, e1, e2⟩ := hx.2 a ha
          obtain ⟨q2, e3, e4⟩ := hy.2 b hb
          rw [h, e3] at e1
          cases e1
          rw [e2.inj e4]
          exact sp_al_rf b) ?_
    exact zs_zret hE hr (zs_bnar _) (⟨rfl, rfl⟩) (by decide) (by decide) dX6_areAlike_22
  · refine zs_aload_nq hE 0 dX6_areAlike_5 rfl rfl ?_
    obtain ⟨a, b, rfl, rfl⟩ : ∃ a b, rs = some a ∧ ts = some b := by
          cases rs with
          | none =>
            exact absurd ((hx.1 rfl).trans (hy.1 (hst.mp rfl)).symm) h
          | some a =>
            cases ts with
            | none => exact absurd (hst.mpr rfl) (by simp)
            | some b => exact ⟨a, b, rfl, rfl⟩
    obtain ⟨a1, rfl, e1⟩ := hx.2 a rfl
    obtain ⟨b1, rfl, e2⟩ := hy.2 b rfl
    refine zs_lo (lo' := [(0, .ref a1), (1, .ref b1)]) rfl ?_
    refine zs_top (v' := .ref a1) rfl ?_
    refine zs_ifnullR hE dX6_areAlike_6 ?_
    refine zs_aload_n hE 0 dX6_areAlike_9 rfl rfl ?_
    refine zs_aload_n hE 1 dX6_areAlike_10 rfl rfl ?_
    obtain ⟨a2, af, -, a3, -⟩ := e1.s0
    refine zs_callVR (av := [.ref b1]) (st := []) (b := a1) hE (m_X4_isLike D E B l κ a1 b1 a b) rfl rfl sV_X6_357 a3 rfl rfl (⟨e1, e2⟩) ⟨by decide, by decide⟩ ⟨by decide, by decide⟩ (Nat.le_of_ble_eq_true rfl) dX6_areAlike_11 ?_
    refine zs_if_eqB (tgt := 21) hE dX6_areAlike_14 (by decide) (fun h2 => ?_) (fun h2 => ?_)
    · refine zs_iconst (v := (nI 0)) hE dX6_areAlike_21 (by decide) ?_
      refine zs_top (v' := .int (zs_b (sp_oal (some a) (some b)))) (by rw [zs_b0 (fun z => h2 (z a b rfl rfl))]; rfl) ?_
      exact zs_zret hE hr (zs_bnar _) (⟨rfl, rfl⟩) (by decide) (by decide) dX6_areAlike_22
    · refine zs_iconst (v := (nI 1)) hE dX6_areAlike_17 (by decide) ?_
      refine zs_goto (tgt := 22) hE dX6_areAlike_18 (by decide) ?_
      refine zs_top (v' := .int (zs_b (sp_oal (some a) (some b)))) (vb1 (fun a' b' ha hb => by cases ha; cases hb; exact h2)) ?_
      exact zs_zret hE hr (zs_bnar _) (⟨rfl, rfl⟩) (by decide) (by decide) dX6_areAlike_22

set_option maxHeartbeats 4000000 in
set_option maxRecDepth 100000 in
theorem m_X5_init (D : va_G) (E : Nat → ClassId) (B : Nat) (l : Launch) (a num pn am : Nat) (wf : Int32) (hn : num < 40) : zs_Ct D E B l yX5_init cX5_init 6 none ({ frames := 1, cells := 1, slots := 32, locals := 40 } : Room) [.ref a, .int (nI num), .int (nI pn), .long (lN am), .int wf] (fun H => zs_pt D a (.inr (5, [.int 0, .int 0, .long 0, .int 0, .null])) H) (fun q => q = a) (fun v H H1 => v = none ∧ ∃ h : Nat, h = H.size ∧ H1.size = h + 1 ∧ cs_v0 D E H1 a h num pn (am ||| 2 ^ num) wf (fun _ => none)) := by
  refine zs_ct (by decide) (Nat.le_of_ble_eq_true rfl) (fun p e s m below meth c hE hr hin hp => ?_)
  refine zs_lo (lo' := [(0, .ref a), (1, .int (nI num)), (2, .int (nI pn)), (3, .long (lN am)), (5, .int wf)]) rfl ?_
  refine zs_aload_n hE 0 dX5_init_0 rfl rfl ?_
  refine zs_objInit hE ol_X5_3 q_objI q_objC dX5_init_1 (by decide) (Nat.le_of_ble_eq_true rfl) (by decide) ?_
  refine zs_aload_n hE 0 dX5_init_4 rfl rfl ?_
  refine zs_bipush (v := (nI 32)) hE dX5_init_5 (by decide) ?_
  refine zs_newq (t := 9) hE al_X5_9 rfl (by decide) (by decide) (by decide) (by decide) dX5_init_7 (fun q1 H1 hq1 hp1 hz1 ho1 => ?_)
  refine zs_widen (k' := 1) (n' := 32) (by omega) (by omega) ?_
  have ne2 : a ≠ q1 := by have := zs_pt.lt hp; omega
  have hp := zs_pt.kept hp (ho1 _ (zs_pt.lt hp))
  refine zs_putF (v := .ref q1) hE (hin rfl) fl_X5_11 ⟨_, _, _, rfl, rfl⟩ hp (Or.inl rfl) (rfl) (rfl) (Nat.le_of_ble_eq_true rfl) dX5_init_10 (fun H3 hp3 hz3 ho3 => ?_)
  have hp1 := zs_pt.kept hp1 (ho3 _ ne2.symm)
  have hp3 : zs_pt D a (.inr (5, [.int 0, .int 0, .long 0, .int 0, .ref q1])) H3 := hp3
  refine zs_aload_n hE 0 dX5_init_13 rfl rfl ?_
  refine zs_iload_n hE 1 dX5_init_14 rfl rfl ?_
  refine zs_putF (v := .int (nI num)) hE (hin rfl) fl_X5_17 ⟨_, _, _, rfl, rfl⟩ hp3 (Or.inl rfl) (rfl) (rfl) (Nat.le_of_ble_eq_true rfl) dX5_init_15 (fun H4 hp4 hz4 ho4 => ?_)
  have hp1 := zs_pt.kept hp1 (ho4 _ ne2.symm)
  have hp4 : zs_pt D a (.inr (5, [.int (nI num), .int 0, .long 0, .int 0, .ref q1])) H4 := hp4
  refine zs_aload_n hE 0 dX5_init_18 rfl rfl ?_
  refine zs_iload_n hE 2 dX5_init_19 rfl rfl ?_
  refine zs_putF (v := .int (nI pn)) hE (hin rfl) fl_X5_21 ⟨_, _, _, rfl, rfl⟩ hp4 (Or.inl rfl) (rfl) (rfl) (Nat.le_of_ble_eq_true rfl) dX5_init_20 (fun H5 hp5 hz5 ho5 => ?_)
  have hp1 := zs_pt.kept hp1 (ho5 _ ne2.symm)
  have hp5 : zs_pt D a (.inr (5, [.int (nI num), .int (nI pn), .long 0, .int 0, .ref q1])) H5 := hp5
  refine zs_aload_n hE 0 dX5_init_23 rfl rfl ?_
  refine zs_lload_n hE 3 dX5_init_24 rfl rfl ?_
  refine zs_lconst (v := (1 : Int64)) hE dX5_init_25 (by decide) ?_
  refine zs_iload_n hE 1 dX5_init_26 rfl rfl ?_
  refine zs_lshl hE dX5_init_27 ?_
  refine zs_top (v' := .long (lN (2 ^ num))) (by rw [lN_pow num hn]) ?_
  refine zs_lor hE dX5_init_28 ?_
  refine zs_top (v' := .long (lN (am ||| 2 ^ num))) (by rw [lN_or]) ?_
  refine zs_putF (v := .long (lN (am ||| 2 ^ num))) hE (hin rfl) fl_X5_24 ⟨_, _, _, rfl, rfl⟩ hp5 (Or.inl rfl) (rfl) (rfl) (Nat.le_of_ble_eq_true rfl) dX5_init_29 (fun H6 hp6 hz6 ho6 => ?_)
  have hp1 := zs_pt.kept hp1 (ho6 _ ne2.symm)
  have hp6 : zs_pt D a (.inr (5, [.int (nI num), .int (nI pn), .long (lN (am ||| 2 ^ num)), .int 0, .ref q1])) H6 := hp6
  refine zs_aload_n hE 0 dX5_init_32 rfl rfl ?_
  refine zs_iload hE 4 dX5_init_33 rfl ?_
  refine zs_putF (v := .int wf) hE (hin rfl) fl_X5_28 ⟨_, _, _, rfl, rfl⟩ hp6 (Or.inl rfl) (rfl) (rfl) (Nat.le_of_ble_eq_true rfl) dX5_init_35 (fun H7 hp7 hz7 ho7 => ?_)
  have hp1 := zs_pt.kept hp1 (ho7 _ ne2.symm)
  have hp7 : zs_pt D a (.inr (5, [.int (nI num), .int (nI pn), .long (lN (am ||| 2 ^ num)), .int wf, .ref q1])) H7 := hp7
  exact zs_vret hE hr (⟨rfl, q1, hq1, by omega, hp7, hp1⟩) (by decide) (by decide) dX5_init_38

def sp_at2 (x y : Int32) (f : Nat → Option Nat) : Option Nat := (sp_i x 8).bind (fun b => (sp_i y 4).bind (fun q => f (b * 4 + q)))
set_option maxHeartbeats 4000000 in
set_option maxRecDepth 100000 in
theorem m_X5_sheafAt (D : va_G) (E : Nat → ClassId) (B : Nat) (l : Launch) (a h num pn am : Nat) (wf : Int32) (f : Nat → Option Nat) (x y : Int32) : zs_Ct D E B l yX5_sheafAt cX5_sheafAt 3 (some (.object "ScoreSheaf$Sheaf")) ({ frames := 0, cells := 0, slots := 0, locals := 0 } : Room) [.ref a, .int x, .int y] (fun H => cs_v0 D E H a h num pn am wf f) (zs_N) (zs_ro (va_rf (sp_at2 x y f))) := by
  refine zs_ct (by decide) (Nat.le_of_ble_eq_true rfl) (fun p e s m below meth c hE hr hin hp => ?_)
  refine zs_lo (lo' := [(0, .ref a), (1, .int x), (2, .int y)]) rfl ?_
  obtain ⟨x5, x6⟩ := hp
  refine zs_iload_n hE 1 dX5_sheafAt_0 rfl rfl ?_
  refine zs_if_lt (tgt := 19) hE dX5_sheafAt_1 (by decide) (fun h1 => ?_) (fun h1 => ?_)
  · refine zs_nullq hE dX5_sheafAt_19 ?_
    refine zs_top (v' := va_rf (sp_at2 x y f)) (by rw [sp_at2, sp_i_lo h1]; rfl) ?_
    exact zs_aret hE hr (by first | exact Or.inl ⟨_, rfl⟩ | exact Or.inr ⟨_, rfl⟩) (⟨rfl, rfl⟩) (by decide) (by decide) dX5_sheafAt_20
  · refine zs_iload_n hE 1 dX5_sheafAt_4 rfl rfl ?_
    refine zs_bipush (v := (nI 8)) hE dX5_sheafAt_5 (by decide) ?_
    refine zs_icmp_ge (tgt := 19) hE dX5_sheafAt_7 (by decide) (fun h2 => ?_) (fun h2 => ?_)
    · refine zs_nullq hE dX5_sheafAt_19 ?_
      refine zs_top (v' := va_rf (sp_at2 x y f)) (by rw [sp_at2, sp_i_hi (by decide) h2]; rfl) ?_
      exact zs_aret hE hr (by first | exact Or.inl ⟨_, rfl⟩ | exact Or.inr ⟨_, rfl⟩) (⟨rfl, rfl⟩) (by decide) (by decide) dX5_sheafAt_20
    · obtain ⟨b, hb, rfl⟩ := sp_dec (n := 8) (by decide) h1 (sp_le_lt h2)
      refine zs_iload_n hE 2 dX5_sheafAt_10 rfl rfl ?_
      refine zs_if_lt (tgt := 19) hE dX5_sheafAt_11 (by decide) (fun h3 => ?_) (fun h3 => ?_)
      · refine zs_nullq hE dX5_sheafAt_19 ?_
        refine zs_top (v' := va_rf (sp_at2 (nI b) y f)) (by rw [sp_at2, sp_i_in hb (by decide), Option.bind_some, sp_i_lo h3]; rfl) ?_
        exact zs_aret hE hr (by first | exact Or.inl ⟨_, rfl⟩ | exact Or.inr ⟨_, rfl⟩) (⟨rfl, rfl⟩) (by decide) (by decide) dX5_sheafAt_20
      · refine zs_iload_n hE 2 dX5_sheafAt_14 rfl rfl ?_
        refine zs_iconst (v := (nI 4)) hE dX5_sheafAt_15 (by decide) ?_
        refine zs_icmp_lt (tgt := 21) hE dX5_sheafAt_16 (by decide) (fun h4 => ?_) (fun h4 => ?_)
        · obtain ⟨q, hq, rfl⟩ := sp_dec (n := 4) (by decide) h3 h4
          refine zs_aload_n hE 0 dX5_sheafAt_21 rfl rfl ?_
          refine zs_get hE fl_X5_11 x5 rfl dX5_sheafAt_22 ?_
          refine zs_iload_n hE 1 dX5_sheafAt_25 rfl rfl ?_
          refine zs_iconst (v := (nI 4)) hE dX5_sheafAt_26 (by decide) ?_
          refine zs_imulN hE dX5_sheafAt_27 ?_
          refine zs_iload_n hE 2 dX5_sheafAt_28 rfl rfl ?_
          refine zs_iaddN hE dX5_sheafAt_29 ?_
          refine zs_aald hE x6 rfl (by omega) (by decide) dX5_sheafAt_30 ?_
          refine zs_top (v' := va_rf (sp_at2 (nI b) (nI q) f)) (by rw [sp_at2, sp_i_in hb (by decide), Option.bind_some, sp_i_in hq (by decide), Option.bind_some]) ?_
          exact zs_aret hE hr (by first | exact Or.inl ⟨_, rfl⟩ | exact Or.inr ⟨_, rfl⟩) (⟨rfl, rfl⟩) (by decide) (by decide) dX5_sheafAt_31
        · refine zs_nullq hE dX5_sheafAt_19 ?_
          refine zs_top (v' := va_rf (sp_at2 (nI b) y f)) (by rw [sp_at2, sp_i_in hb (by decide), Option.bind_some, sp_i_hi (by decide) (sp_nlt_le h4)]; rfl) ?_
          exact zs_aret hE hr (by first | exact Or.inl ⟨_, rfl⟩ | exact Or.inr ⟨_, rfl⟩) (⟨rfl, rfl⟩) (by decide) (by decide) dX5_sheafAt_20

set_option maxHeartbeats 4000000 in
set_option maxRecDepth 100000 in
theorem m_X5_put (D : va_G) (E : Nat → ClassId) (B : Nat) (l : Launch) (a h num pn am j b : Nat) (wf : Int32) (f : Nat → Option Nat) (vs : List Value) (hj : j < 32) (hne : a ≠ h) : zs_Ct D E B l yX5_put cX5_put 3 none ({ frames := 0, cells := 0, slots := 0, locals := 0 } : Room) [.ref a, .int (nI j), .ref b] (fun H => cs_v0 D E H a h num pn am wf f ∧ zs_pt D b (.inr (4, vs)) H) (fun q => q = h) (fun v H H1 => v = none ∧ H1.size = H.size ∧ cs_v0 D E H1 a h num pn am wf (va_up f j (some b))) := by
  refine zs_ct (by decide) (Nat.le_of_ble_eq_true rfl) (fun p e s m below meth c hE hr hin hp => ?_)
  refine zs_lo (lo' := [(0, .ref a), (1, .int (nI j)), (2, .ref b)]) rfl ?_
  obtain ⟨⟨x5, x6⟩, hb⟩ := hp
  refine zs_iload_n hE 1 dX5_put_0 rfl rfl ?_
  refine zs_if_ltN (tgt := 17) hE (by omega) dX5_put_1 (by decide) ?_
  refine zs_iload_n hE 1 dX5_put_4 rfl rfl ?_
  refine zs_bipush (v := (nI 32)) hE dX5_put_5 (by decide) ?_
  refine zs_icmp_geN (tgt := 17) hE (by omega) (by decide) dX5_put_7 (by decide) (fun h1 => ?_) (fun h1 => ?_)
  · exact absurd h1 (by omega)
  · refine zs_aload_n hE 0 dX5_put_10 rfl rfl ?_
    refine zs_get hE fl_X5_11 x5 rfl dX5_put_11 ?_
    refine zs_iload_n hE 1 dX5_put_14 rfl rfl ?_
    refine zs_aload_n hE 2 dX5_put_15 rfl rfl ?_
    refine zs_aast hE x6 rfl hb rfl (Or.inl rfl) (by omega) (by decide) dX5_put_16 (fun H1 hp1 hz1 ho1 => ?_)
    have x5 := zs_pt.kept x5 (ho1 _ hne)
    exact zs_vret hE hr (⟨rfl, hz1, x5, hp1⟩) (by decide) (by decide) dX5_put_17

theorem tb_iff (a k : Nat) : a.testBit k = true ↔ a / 2 ^ k % 2 = 1 := by
  rw [Nat.testBit_eq_decide_div_mod_eq]
  simp
set_option maxHeartbeats 4000000 in
set_option maxRecDepth 100000 in
theorem m_X5_isUnder (D : va_G) (E : Nat → ClassId) (B : Nat) (l : Launch) (a b h1 h2 n1 p1 a1 n2 p2 a2 : Nat) (w1 w2 : Int32) (ha : a1 < 2 ^ 40) (hn : n2 < 40) : zs_Ct D E B l yX5_isUnder cX5_isUnder 2 (some .boolean) ({ frames := 0, cells := 0, slots := 0, locals := 0 } : Room) [.ref a, .ref b] (fun H => zs_pt D a (.inr (5, [.int (nI n1), .int (nI p1), .long (lN a1), .int w1, .ref h1])) H ∧ zs_pt D b (.inr (5, [.int (nI n2), .int (nI p2), .long (lN a2), .int w2, .ref h2])) H) (zs_N) (zs_ro (.int (zs_b (a1.testBit n2 = true)))) := by
  refine zs_ct (by decide) (Nat.le_of_ble_eq_true rfl) (fun p e s m below meth c hE hr hin hp => ?_)
  refine zs_lo (lo' := [(0, .ref a), (1, .ref b)]) rfl ?_
  obtain ⟨x5, y5⟩ := hp
  refine zs_aload_n hE 0 dX5_isUnder_0 rfl rfl ?_
  refine zs_get hE fl_X5_24 x5 rfl dX5_isUnder_1 ?_
  refine zs_aload_n hE 1 dX5_isUnder_4 rfl rfl ?_
  refine zs_get hE fl_X5_17 y5 rfl dX5_isUnder_5 ?_
  refine zs_lshr hE dX5_isUnder_8 ?_
  refine zs_lconst (v := (1 : Int64)) hE dX5_isUnder_9 (by decide) ?_
  refine zs_land hE dX5_isUnder_10 ?_
  refine zs_top (v' := .long (lN (a1 / 2 ^ n2 % 2))) (by rw [← lN_bit ha hn]) ?_
  refine zs_lconst (v := (1 : Int64)) hE dX5_isUnder_11 (by decide) ?_
  refine zs_lcmp hE dX5_isUnder_12 ?_
  refine zs_top (v' := .int (if a1 / 2 ^ n2 % 2 = 1 then (0 : Int32) else if 1 < a1 / 2 ^ n2 % 2 then 1 else -1)) (by rw [show (1 : Int64) = lN 1 from rfl, lg_cmp_lN (by omega) (by decide)]) ?_
  refine zs_if_ne (tgt := 20) hE dX5_isUnder_13 (by decide) (fun h => ?_) (fun h => ?_)
  · refine zs_iconst (v := (nI 0)) hE dX5_isUnder_20 (by decide) ?_
    refine zs_top (v' := .int (zs_b (a1.testBit n2 = true))) (vb0 (fun z => h (if_pos ((tb_iff _ _).mp z)))) ?_
    exact zs_zret hE hr (zs_bnar _) (⟨rfl, rfl⟩) (by decide) (by decide) dX5_isUnder_21
  · refine zs_iconst (v := (nI 1)) hE dX5_isUnder_16 (by decide) ?_
    refine zs_goto (tgt := 21) hE dX5_isUnder_17 (by decide) ?_
    refine zs_top (v' := .int (zs_b (a1.testBit n2 = true))) (vb1 ((tb_iff _ _).mpr (by by_cases z : a1 / 2 ^ n2 % 2 = 1; exact z; rw [if_neg z, if_neg (by omega)] at h; exact absurd h (by decide)))) ?_
    exact zs_zret hE hr (zs_bnar _) (⟨rfl, rfl⟩) (by decide) (by decide) dX5_isUnder_21

/-- how many slots are unlike -/
noncomputable def sp_un (x y : Nat → Option sp_Sh) : Nat → Nat := sm (fun j => pI (sp_oal (x j) (y j)) 0 1)
set_option maxHeartbeats 4000000 in
set_option maxRecDepth 100000 in
theorem m_X5_sheavesUnlike (D : va_G) (E : Nat → ClassId) (B : Nat) (l : Launch) (κ : Nat → Nat) (a b n1 p1 a1 n2 p2 a2 : Nat) (w1 w2 : Int32) (x y : Nat → Option sp_Sh) (hst : ∀ j, j < 32 → (x j = none ↔ y j = none)) : zs_Ct D E B l yX5_sheavesUnlike cX5_sheavesUnlike 4 (some .int) ({ frames := 3, cells := 0, slots := 0, locals := 66 } : Room) [.ref a, .ref b] (fun H => cs_ver D E κ H a n1 p1 a1 w1 x ∧ cs_ver D E κ H b n2 p2 a2 w2 y) (zs_N) (zs_ro (.int (nI (sp_un x y 32)))) := by
  refine zs_ct (by decide) (Nat.le_of_ble_eq_true rfl) (fun p e s m below meth c hE hr hin hp => ?_)
  refine zs_lo (lo' := [(0, .ref a), (1, .ref b)]) rfl ?_
  obtain ⟨h1, h2⟩ := hp
  obtain ⟨x0, x1, x2, x3, xh, xf, x4, ⟨x5, x6⟩, x7⟩ := h1
  obtain ⟨y0, y1, y2, y3, yh, yf, y4, ⟨y5, y6⟩, y7⟩ := h2
  refine zs_iconst (v := (nI 0)) hE dX5_sheavesUnlike_0 (by decide) ?_
  refine zs_istore_n (lo' := [(2, .int (nI 0)), (0, .ref a), (1, .ref b)]) hE dX5_sheavesUnlike_1 rfl (by decide) rfl ?_
  refine zs_iconst (v := (nI 0)) hE dX5_sheavesUnlike_2 (by decide) ?_
  refine zs_istore_n (lo' := [(3, .int (nI 0)), (2, .int (nI 0)), (0, .ref a), (1, .ref b)]) hE dX5_sheavesUnlike_3 rfl (by decide) rfl ?_
  refine zs_sub (lo' := [(3, .int (nI 0)), (2, .int (nI 0)), (0, .ref a), (1, .ref b)]) [0, 1, 2, 3] rfl ?_
  refine zs_ind1 (Hs := fun (i : Nat) => s.heap) (ks := fun (i : Nat) => 0) (ns := fun (i : Nat) => 0) (los := fun (i : Nat) => [(3, .int (nI i)), (2, .int (nI (sp_un x y i))), (0, .ref a), (1, .ref b)]) (I := fun (i : Nat) => i ≤ 32) (μ := fun (i : Nat) => 32 - i) 0 (Nat.zero_le _) (fun i hi ih => ?_)
  try dsimp only at hi ih ⊢
  refine zs_iload_n hE 0 dX5_sheavesUnlike_4 rfl rfl ?_
  refine zs_bipush (v := (nI 32)) hE dX5_sheavesUnlike_5 (by decide) ?_
  refine zs_icmp_geN (tgt := 37) hE (by omega) (by decide) dX5_sheavesUnlike_7 (by decide) (fun h => ?_) (fun h => ?_)
  · refine zs_iload_n hE 1 dX5_sheavesUnlike_37 rfl rfl ?_
    refine zs_top (v' := .int (nI (sp_un x y 32))) (by rw [show i = 32 by omega]) ?_
    exact zs_iret hE hr (⟨rfl, rfl⟩) (by decide) (by decide) dX5_sheavesUnlike_38
  · refine zs_aload_n hE 2 dX5_sheavesUnlike_10 rfl rfl ?_
    refine zs_get hE fl_X5_11 x5 rfl dX5_sheavesUnlike_11 ?_
    refine zs_iload_n hE 0 dX5_sheavesUnlike_14 rfl rfl ?_
    refine zs_aald hE x6 rfl (by omega) (by decide) dX5_sheavesUnlike_15 ?_
    refine zs_aload_n hE 3 dX5_sheavesUnlike_16 rfl rfl ?_
    refine zs_get hE fl_X5_11 y5 rfl dX5_sheavesUnlike_17 ?_
    refine zs_iload_n hE 0 dX5_sheavesUnlike_20 rfl rfl ?_
    refine zs_aald hE y6 rfl (by omega) (by decide) dX5_sheavesUnlike_21 ?_
    refine zs_callSNR (av := [va_rf (xf i), va_rf (yf i)]) (st := []) hE (m_X6_areAlike D E B l κ (xf i) (yf i) (x i) (y i) (hst i h)) rfl rfl sSN_X5_50 (⟨x7 i h, y7 i h⟩) ⟨by decide, by decide⟩ ⟨by decide, by decide⟩ (Nat.le_of_ble_eq_true rfl) dX5_sheavesUnlike_22 ?_
    refine zs_if_neB (tgt := 31) hE dX5_sheavesUnlike_25 (by decide) (fun h2 => ?_) (fun h2 => ?_)
    · refine zs_iincN (lo' := [(3, .int (nI (i + 1))), (2, .int (nI (sp_un x y i))), (0, .ref a), (1, .ref b)]) hE 0 dX5_sheavesUnlike_31 rfl (by decide) rfl ?_
      refine zs_goto (tgt := 4) hE dX5_sheavesUnlike_34 (by decide) ?_
      refine zs_lo (lo' := [(3, .int (nI (i + 1))), (2, .int (nI (sp_un x y (i + 1)))), (0, .ref a), (1, .ref b)]) (by rw [show sp_un x y (i + 1) = sp_un x y i + pI (sp_oal (x i) (y i)) 0 1 from rfl, pI_t h2]; rfl) ?_
      refine zs_sub (lo' := [(3, .int (nI (i + 1))), (2, .int (nI (sp_un x y (i + 1)))), (0, .ref a), (1, .ref b)]) [0, 1, 2, 3] rfl ?_
      exact ih (i + 1) (by omega) (by omega)
    · refine zs_iincN (lo' := [(2, .int (nI (sp_un x y i + 1))), (3, .int (nI i)), (0, .ref a), (1, .ref b)]) hE 1 dX5_sheavesUnlike_28 rfl (by decide) rfl ?_
      refine zs_iincN (lo' := [(3, .int (nI (i + 1))), (2, .int (nI (sp_un x y i + 1))), (0, .ref a), (1, .ref b)]) hE 1 dX5_sheavesUnlike_31 rfl (by decide) rfl ?_
      refine zs_goto (tgt := 4) hE dX5_sheavesUnlike_34 (by decide) ?_
      refine zs_lo (lo' := [(3, .int (nI (i + 1))), (2, .int (nI (sp_un x y (i + 1)))), (0, .ref a), (1, .ref b)]) (by rw [show sp_un x y (i + 1) = sp_un x y i + pI (sp_oal (x i) (y i)) 0 1 from rfl, pI_f h2]) ?_
      refine zs_sub (lo' := [(3, .int (nI (i + 1))), (2, .int (nI (sp_un x y (i + 1)))), (0, .ref a), (1, .ref b)]) [0, 1, 2, 3] rfl ?_
      exact ih (i + 1) (by omega) (by omega)

/-- a fold over the slots that are there -/
def sp_f {σ : Type} (sl : Nat → Option sp_Sh) (g : sp_Sh → σ → σ) : Nat → σ → σ := itn (fun j t => match sl j with | none => t | some rs => g rs t)
theorem sp_f0 {σ : Type} {sl : Nat → Option sp_Sh} {g : sp_Sh → σ → σ} {j : Nat} {t : σ} (h : sl j = none) : sp_f sl g (j + 1) t = sp_f sl g j t := by
  show (match sl j with | none => _ | some rs => _) = _
  rw [h]; rfl
theorem sp_f1 {σ : Type} {sl : Nat → Option sp_Sh} {g : sp_Sh → σ → σ} {j : Nat} {t : σ} {rs : sp_Sh} (h : sl j = some rs) : sp_f sl g (j + 1) t = g rs (sp_f sl g j t) := by
  show (match sl j with | none => _ | some rs => _) = _
  rw [h]; rfl
theorem cs_os.no {D : va_G} {E : Nat → ClassId} {κ : Nat → Nat} {H : Heap} {t : Option sp_Sh} (h : cs_os D E κ H none t) : t = none := by
  cases t with
  | none => rfl
  | some rs => obtain ⟨a, e, -⟩ := h.2 rs rfl; cases e
theorem cs_os.so {D : va_G} {E : Nat → ClassId} {κ : Nat → Nat} {H : Heap} {a : Nat} {t : Option sp_Sh} (h : cs_os D E κ H (some a) t) : ∃ rs, t = some rs ∧ cs_sh D E κ H a rs := by
  cases t with
  | none => exact absurd (h.1 rfl) (by simp)
  | some rs => obtain ⟨a', e, q⟩ := h.2 rs rfl; cases e; exact ⟨rs, rfl, q⟩
set_option maxHeartbeats 4000000 in
set_option maxRecDepth 100000 in
theorem m_X5_sheavesInDoubt (D : va_G) (E : Nat → ClassId) (B : Nat) (l : Launch) (κ : Nat → Nat) (a num pn am : Nat) (wf : Int32) (sl : Nat → Option sp_Sh) : zs_Ct D E B l yX5_sheavesInDoubt cX5_sheavesInDoubt 6 (some .int) ({ frames := 0, cells := 0, slots := 0, locals := 0 } : Room) [.ref a] (fun H => cs_ver D E κ H a num pn am wf sl) (zs_N) (zs_ro (.int (nI (sp_f sl (fun rs t => t + (if 1 < rs.length then 1 else 0)) 32 0)))) := by
  refine zs_ct (by decide) (Nat.le_of_ble_eq_true rfl) (fun p e s m below meth c hE hr hin hp => ?_)
  refine zs_lo (lo' := [(0, .ref a)]) rfl ?_
  obtain ⟨x0, x1, x2, x3, xh, xf, x4, ⟨x5, x6⟩, x7⟩ := hp
  refine zs_iconst (v := (nI 0)) hE dX5_sheavesInDoubt_0 (by decide) ?_
  refine zs_istore_n (lo' := [(1, .int (nI 0)), (0, .ref a)]) hE dX5_sheavesInDoubt_1 rfl (by decide) rfl ?_
  refine zs_aload_n hE 1 dX5_sheavesInDoubt_2 rfl rfl ?_
  refine zs_get hE fl_X5_11 x5 rfl dX5_sheavesInDoubt_3 ?_
  refine zs_astore_n (lo' := [(2, .ref xh), (1, .int (nI 0)), (0, .ref a)]) hE dX5_sheavesInDoubt_6 rfl (by decide) rfl ?_
  refine zs_aload_n hE 0 dX5_sheavesInDoubt_7 rfl rfl ?_
  refine zs_alen hE x6 rfl dX5_sheavesInDoubt_8 ?_
  refine zs_istore_n (lo' := [(3, .int (nI 32)), (2, .ref xh), (1, .int (nI 0)), (0, .ref a)]) hE dX5_sheavesInDoubt_9 rfl (by decide) rfl ?_
  refine zs_iconst (v := (nI 0)) hE dX5_sheavesInDoubt_10 (by decide) ?_
  refine zs_istore (lo' := [(4, .int (nI 0)), (3, .int (nI 32)), (2, .ref xh), (1, .int (nI 0)), (0, .ref a)]) hE dX5_sheavesInDoubt_11 (by decide) rfl ?_
  refine zs_sub (lo' := [(4, .int (nI 0)), (1, .int (nI 0)), (2, .ref xh), (3, .int (nI 32))]) [0, 3, 2, 1] rfl ?_
  refine zs_ind1 (Hs := fun (i : Nat) => s.heap) (ks := fun (i : Nat) => 0) (ns := fun (i : Nat) => 0) (los := fun (i : Nat) => [(4, .int (nI i)), (1, .int (nI (sp_f sl (fun rs t => t + (if 1 < rs.length then 1 else 0)) i 0))), (2, .ref xh), (3, .int (nI 32))]) (I := fun (i : Nat) => i ≤ 32) (μ := fun (i : Nat) => 32 - i) 0 (Nat.zero_le _) (fun i hi ih => ?_)
  try dsimp only at hi ih ⊢
  refine zs_iload hE 0 dX5_sheavesInDoubt_13 rfl ?_
  refine zs_iload_n hE 3 dX5_sheavesInDoubt_15 rfl rfl ?_
  refine zs_icmp_geN (tgt := 48) hE (by omega) (by decide) dX5_sheavesInDoubt_16 (by decide) (fun h => ?_) (fun h => ?_)
  · refine zs_iload_n hE 1 dX5_sheavesInDoubt_48 rfl rfl ?_
    refine zs_top (v' := .int (nI (sp_f sl (fun rs t => t + (if 1 < rs.length then 1 else 0)) 32 0))) (by rw [show i = 32 by omega]) ?_
    exact zs_iret hE hr (⟨rfl, rfl⟩) (by decide) (by decide) dX5_sheavesInDoubt_49
  · refine zs_aload_n hE 2 dX5_sheavesInDoubt_19 rfl rfl ?_
    refine zs_iload hE 0 dX5_sheavesInDoubt_20 rfl ?_
    refine zs_aald hE x6 rfl (by omega) (by decide) dX5_sheavesInDoubt_22 ?_
    refine zs_astoreq (lo' := [(5, va_rf (xf i)), (4, .int (nI i)), (1, .int (nI (sp_f sl (fun rs t => t + (if 1 < rs.length then 1 else 0)) i 0))), (2, .ref xh), (3, .int (nI 32))]) hE dX5_sheavesInDoubt_23 (by decide) rfl ?_
    refine zs_aloadq hE 0 dX5_sheavesInDoubt_25 rfl ?_
    have ho := x7 i h
    refine zs_ifnull (tgt := 42) hE dX5_sheavesInDoubt_27 (by decide) (fun h2 => ?_) (fun o h2 => ?_)
    · rw [h2] at ho
      refine zs_iincN (lo' := [(4, .int (nI (i + 1))), (5, va_rf (xf i)), (1, .int (nI (sp_f sl (fun rs t => t + (if 1 < rs.length then 1 else 0)) i 0))), (2, .ref xh), (3, .int (nI 32))]) hE 1 dX5_sheavesInDoubt_42 rfl (by decide) rfl ?_
      refine zs_goto (tgt := 13) hE dX5_sheavesInDoubt_45 (by decide) ?_
      refine zs_sub (lo' := [(4, .int (nI (i + 1))), (1, .int (nI (sp_f sl (fun rs t => t + (if 1 < rs.length then 1 else 0)) i 0))), (2, .ref xh), (3, .int (nI 32))]) [0, 2, 3, 4] rfl ?_
      refine zs_lo (lo' := [(4, .int (nI (i + 1))), (1, .int (nI (sp_f sl (fun rs t => t + (if 1 < rs.length then 1 else 0)) (i + 1) 0))), (2, .ref xh), (3, .int (nI 32))]) (by rw [sp_f0 ho.no]) ?_
      refine zs_sub (lo' := [(4, .int (nI (i + 1))), (1, .int (nI (sp_f sl (fun rs t => t + (if 1 < rs.length then 1 else 0)) (i + 1) 0))), (2, .ref xh), (3, .int (nI 32))]) [0, 1, 2, 3] rfl ?_
      exact ih (i + 1) (by omega) (by omega)
    · rw [h2] at ho
      obtain ⟨rs, e1, e2⟩ := ho.so
      obtain ⟨b, bf, c0, c1, -⟩ := e2.s0
      refine zs_lo (lo' := [(5, .ref o), (4, .int (nI i)), (1, .int (nI (sp_f sl (fun rs t => t + (if 1 < rs.length then 1 else 0)) i 0))), (2, .ref xh), (3, .int (nI 32))]) (by rw [h2]; rfl) ?_
      refine zs_aload hE 0 dX5_sheavesInDoubt_30 rfl ?_
      refine zs_get hE fl_X5_66 c1 rfl dX5_sheavesInDoubt_32 ?_
      refine zs_iconst (v := (nI 1)) hE dX5_sheavesInDoubt_35 (by decide) ?_
      refine zs_icmp_leN (tgt := 42) hE (by omega) (by decide) dX5_sheavesInDoubt_36 (by decide) (fun h3 => ?_) (fun h3 => ?_)
      · refine zs_iincN (lo' := [(4, .int (nI (i + 1))), (5, .ref o), (1, .int (nI (sp_f sl (fun rs t => t + (if 1 < rs.length then 1 else 0)) i 0))), (2, .ref xh), (3, .int (nI 32))]) hE 1 dX5_sheavesInDoubt_42 rfl (by decide) rfl ?_
        refine zs_goto (tgt := 13) hE dX5_sheavesInDoubt_45 (by decide) ?_
        refine zs_sub (lo' := [(4, .int (nI (i + 1))), (1, .int (nI (sp_f sl (fun rs t => t + (if 1 < rs.length then 1 else 0)) i 0))), (2, .ref xh), (3, .int (nI 32))]) [0, 2, 3, 4] rfl ?_
        refine zs_lo (lo' := [(4, .int (nI (i + 1))), (1, .int (nI (sp_f sl (fun rs t => t + (if 1 < rs.length then 1 else 0)) (i + 1) 0))), (2, .ref xh), (3, .int (nI 32))]) (by rw [sp_f1 e1, if_neg (by omega)]; rfl) ?_
        refine zs_sub (lo' := [(4, .int (nI (i + 1))), (1, .int (nI (sp_f sl (fun rs t => t + (if 1 < rs.length then 1 else 0)) (i + 1) 0))), (2, .ref xh), (3, .int (nI 32))]) [0, 1, 2, 3] rfl ?_
        exact ih (i + 1) (by omega) (by omega)
      · refine zs_iincN (lo' := [(1, .int (nI (sp_f sl (fun rs t => t + (if 1 < rs.length then 1 else 0)) i 0 + 1))), (5, .ref o), (4, .int (nI i)), (2, .ref xh), (3, .int (nI 32))]) hE 2 dX5_sheavesInDoubt_39 rfl (by decide) rfl ?_
        refine zs_iincN (lo' := [(4, .int (nI (i + 1))), (1, .int (nI (sp_f sl (fun rs t => t + (if 1 < rs.length then 1 else 0)) i 0 + 1))), (5, .ref o), (2, .ref xh), (3, .int (nI 32))]) hE 2 dX5_sheavesInDoubt_42 rfl (by decide) rfl ?_
        refine zs_goto (tgt := 13) hE dX5_sheavesInDoubt_45 (by decide) ?_
        refine zs_sub (lo' := [(4, .int (nI (i + 1))), (1, .int (nI (sp_f sl (fun rs t => t + (if 1 < rs.length then 1 else 0)) i 0 + 1))), (2, .ref xh), (3, .int (nI 32))]) [0, 1, 3, 4] rfl ?_
        refine zs_lo (lo' := [(4, .int (nI (i + 1))), (1, .int (nI (sp_f sl (fun rs t => t + (if 1 < rs.length then 1 else 0)) (i + 1) 0))), (2, .ref xh), (3, .int (nI 32))]) (by rw [sp_f1 e1, if_pos (by omega)]) ?_
        refine zs_sub (lo' := [(4, .int (nI (i + 1))), (1, .int (nI (sp_f sl (fun rs t => t + (if 1 < rs.length then 1 else 0)) (i + 1) 0))), (2, .ref xh), (3, .int (nI 32))]) [0, 1, 2, 3] rfl ?_
        exact ih (i + 1) (by omega) (by omega)

set_option maxHeartbeats 4000000 in
set_option maxRecDepth 100000 in
theorem m_X5_partsBy (D : va_G) (E : Nat → ClassId) (B : Nat) (l : Launch) (κ : Nat → Nat) (a num pn am ed : Nat) (wf : Int32) (sl : Nat → Option sp_Sh) (hed : ed < 64) : zs_Ct D E B l yX5_partsBy cX5_partsBy 7 (some .int) ({ frames := 2, cells := 0, slots := 0, locals := 45 } : Room) [.ref a, .int (nI ed)] (fun H => cs_ver D E κ H a num pn am wf sl) (zs_N) (zs_ro (.int (nI (sp_f sl (fun rs t => t + sp_sp ed rs) 32 0)))) := by
  refine zs_ct (by decide) (Nat.le_of_ble_eq_true rfl) (fun p e s m below meth c hE hr hin hp => ?_)
  refine zs_lo (lo' := [(0, .ref a), (1, .int (nI ed))]) rfl ?_
  obtain ⟨x0, x1, x2, x3, xh, xf, x4, ⟨x5, x6⟩, x7⟩ := hp
  refine zs_iconst (v := (nI 0)) hE dX5_partsBy_0 (by decide) ?_
  refine zs_istore_n (lo' := [(2, .int (nI 0)), (0, .ref a), (1, .int (nI ed))]) hE dX5_partsBy_1 rfl (by decide) rfl ?_
  refine zs_aload_n hE 1 dX5_partsBy_2 rfl rfl ?_
  refine zs_get hE fl_X5_11 x5 rfl dX5_partsBy_3 ?_
  refine zs_astore_n (lo' := [(3, .ref xh), (2, .int (nI 0)), (0, .ref a), (1, .int (nI ed))]) hE dX5_partsBy_6 rfl (by decide) rfl ?_
  refine zs_aload_n hE 0 dX5_partsBy_7 rfl rfl ?_
  refine zs_alen hE x6 rfl dX5_partsBy_8 ?_
  refine zs_istore (lo' := [(4, .int (nI 32)), (3, .ref xh), (2, .int (nI 0)), (0, .ref a), (1, .int (nI ed))]) hE dX5_partsBy_9 (by decide) rfl ?_
  refine zs_iconst (v := (nI 0)) hE dX5_partsBy_11 (by decide) ?_
  refine zs_istore (lo' := [(5, .int (nI 0)), (4, .int (nI 32)), (3, .ref xh), (2, .int (nI 0)), (0, .ref a), (1, .int (nI ed))]) hE dX5_partsBy_12 (by decide) rfl ?_
  refine zs_sub (lo' := [(5, .int (nI 0)), (2, .int (nI 0)), (3, .ref xh), (4, .int (nI 32)), (1, .int (nI ed))]) [0, 3, 2, 1, 5] rfl ?_
  refine zs_ind1 (Hs := fun (i : Nat) => s.heap) (ks := fun (i : Nat) => 0) (ns := fun (i : Nat) => 0) (los := fun (i : Nat) => [(5, .int (nI i)), (2, .int (nI (sp_f sl (fun rs t => t + sp_sp ed rs) i 0))), (3, .ref xh), (4, .int (nI 32)), (1, .int (nI ed))]) (I := fun (i : Nat) => i ≤ 32) (μ := fun (i : Nat) => 32 - i) 0 (Nat.zero_le _) (fun i hi ih => ?_)
  try dsimp only at hi ih ⊢
  refine zs_iload hE 0 dX5_partsBy_14 rfl ?_
  refine zs_iload hE 3 dX5_partsBy_16 rfl ?_
  refine zs_icmp_geN (tgt := 47) hE (by omega) (by decide) dX5_partsBy_18 (by decide) (fun h => ?_) (fun h => ?_)
  · refine zs_iload_n hE 1 dX5_partsBy_47 rfl rfl ?_
    refine zs_top (v' := .int (nI (sp_f sl (fun rs t => t + sp_sp ed rs) 32 0))) (by rw [show i = 32 by omega]) ?_
    exact zs_iret hE hr (⟨rfl, rfl⟩) (by decide) (by decide) dX5_partsBy_48
  · refine zs_aload_n hE 2 dX5_partsBy_21 rfl rfl ?_
    refine zs_iload hE 0 dX5_partsBy_22 rfl ?_
    refine zs_aald hE x6 rfl (by omega) (by decide) dX5_partsBy_24 ?_
    refine zs_astoreq (lo' := [(6, va_rf (xf i)), (5, .int (nI i)), (2, .int (nI (sp_f sl (fun rs t => t + sp_sp ed rs) i 0))), (3, .ref xh), (4, .int (nI 32)), (1, .int (nI ed))]) hE dX5_partsBy_25 (by decide) rfl ?_
    refine zs_aloadq hE 0 dX5_partsBy_27 rfl ?_
    have ho := x7 i h
    refine zs_ifnull (tgt := 41) hE dX5_partsBy_29 (by decide) (fun h2 => ?_) (fun o h2 => ?_)
    · rw [h2] at ho
      refine zs_iincN (lo' := [(5, .int (nI (i + 1))), (6, va_rf (xf i)), (2, .int (nI (sp_f sl (fun rs t => t + sp_sp ed rs) i 0))), (3, .ref xh), (4, .int (nI 32)), (1, .int (nI ed))]) hE 1 dX5_partsBy_41 rfl (by decide) rfl ?_
      refine zs_goto (tgt := 14) hE dX5_partsBy_44 (by decide) ?_
      refine zs_sub (lo' := [(5, .int (nI (i + 1))), (2, .int (nI (sp_f sl (fun rs t => t + sp_sp ed rs) i 0))), (3, .ref xh), (4, .int (nI 32)), (1, .int (nI ed))]) [0, 2, 3, 4, 5] rfl ?_
      refine zs_lo (lo' := [(5, .int (nI (i + 1))), (2, .int (nI (sp_f sl (fun rs t => t + sp_sp ed rs) (i + 1) 0))), (3, .ref xh), (4, .int (nI 32)), (1, .int (nI ed))]) (by rw [sp_f0 ho.no]) ?_
      refine zs_sub (lo' := [(5, .int (nI (i + 1))), (2, .int (nI (sp_f sl (fun rs t => t + sp_sp ed rs) (i + 1) 0))), (3, .ref xh), (4, .int (nI 32)), (1, .int (nI ed))]) [0, 1, 2, 3, 4] rfl ?_
      exact ih (i + 1) (by omega) (by omega)
    · rw [h2] at ho
      obtain ⟨rs, e1, e2⟩ := ho.so
      obtain ⟨b, bf, c0, c1, -⟩ := e2.s0
      refine zs_lo (lo' := [(6, .ref o), (5, .int (nI i)), (2, .int (nI (sp_f sl (fun rs t => t + sp_sp ed rs) i 0))), (3, .ref xh), (4, .int (nI 32)), (1, .int (nI ed))]) (by rw [h2]; rfl) ?_
      refine zs_iload_n hE 2 dX5_partsBy_32 rfl rfl ?_
      refine zs_aload hE 0 dX5_partsBy_33 rfl ?_
      refine zs_iload_n hE 5 dX5_partsBy_35 rfl rfl ?_
      refine zs_callVR (av := [.int (nI ed)]) (st := [.int (nI (sp_f sl (fun rs t => t + sp_sp ed rs) i 0))]) (b := o) hE (m_X4_partsBy D E B l κ o ed rs hed) rfl rfl sV_X5_81 c1 rfl rfl (e2) ⟨by decide, by decide⟩ ⟨by decide, by decide⟩ (Nat.le_of_ble_eq_true rfl) dX5_partsBy_36 ?_
      refine zs_iaddN hE dX5_partsBy_39 ?_
      refine zs_istore_n (lo' := [(2, .int (nI (sp_f sl (fun rs t => t + sp_sp ed rs) i 0 + (sp_sp ed rs)))), (6, .ref o), (5, .int (nI i)), (3, .ref xh), (4, .int (nI 32)), (1, .int (nI ed))]) hE dX5_partsBy_40 rfl (by decide) rfl ?_
      refine zs_iincN (lo' := [(5, .int (nI (i + 1))), (2, .int (nI (sp_f sl (fun rs t => t + sp_sp ed rs) i 0 + (sp_sp ed rs)))), (6, .ref o), (3, .ref xh), (4, .int (nI 32)), (1, .int (nI ed))]) hE 2 dX5_partsBy_41 rfl (by decide) rfl ?_
      refine zs_goto (tgt := 14) hE dX5_partsBy_44 (by decide) ?_
      refine zs_sub (lo' := [(5, .int (nI (i + 1))), (2, .int (nI (sp_f sl (fun rs t => t + sp_sp ed rs) i 0 + (sp_sp ed rs)))), (3, .ref xh), (4, .int (nI 32)), (1, .int (nI ed))]) [0, 1, 3, 4, 5] rfl ?_
      refine zs_lo (lo' := [(5, .int (nI (i + 1))), (2, .int (nI (sp_f sl (fun rs t => t + sp_sp ed rs) (i + 1) 0))), (3, .ref xh), (4, .int (nI 32)), (1, .int (nI ed))]) (by rw [sp_f1 e1]) ?_
      refine zs_sub (lo' := [(5, .int (nI (i + 1))), (2, .int (nI (sp_f sl (fun rs t => t + sp_sp ed rs) (i + 1) 0))), (3, .ref xh), (4, .int (nI 32)), (1, .int (nI ed))]) [0, 1, 2, 3, 4] rfl ?_
      exact ih (i + 1) (by omega) (by omega)

set_option maxHeartbeats 4000000 in
set_option maxRecDepth 100000 in
theorem m_X5_sum (D : va_G) (E : Nat → ClassId) (B : Nat) (l : Launch) (κ : Nat → Nat) (a num pn am : Nat) (wf : Int32) (sl : Nat → Option sp_Sh) : zs_Ct D E B l yX5_sum cX5_sum 7 (some .long) ({ frames := 2, cells := 0, slots := 0, locals := 54 } : Room) [.ref a] (fun H => cs_ver D E κ H a num pn am wf sl) (zs_N) (zs_ro (.long (sp_f sl (fun rs t => sp_ss rs t rs.length) 32 7))) := by
  refine zs_ct (by decide) (Nat.le_of_ble_eq_true rfl) (fun p e s m below meth c hE hr hin hp => ?_)
  refine zs_lo (lo' := [(0, .ref a)]) rfl ?_
  obtain ⟨x0, x1, x2, x3, xh, xf, x4, ⟨x5, x6⟩, x7⟩ := hp
  refine zs_ldc2 hE k_X5_85 dX5_sum_0 ?_
  refine zs_lstore_n (lo' := [(1, .long (7 : Int64)), (0, .ref a)]) hE dX5_sum_3 rfl (by decide) rfl ?_
  refine zs_aload_n hE 1 dX5_sum_4 rfl rfl ?_
  refine zs_get hE fl_X5_11 x5 rfl dX5_sum_5 ?_
  refine zs_astore_n (lo' := [(3, .ref xh), (1, .long (7 : Int64)), (0, .ref a)]) hE dX5_sum_8 rfl (by decide) rfl ?_
  refine zs_aload_n hE 0 dX5_sum_9 rfl rfl ?_
  refine zs_alen hE x6 rfl dX5_sum_10 ?_
  refine zs_istore (lo' := [(4, .int (nI 32)), (3, .ref xh), (1, .long (7 : Int64)), (0, .ref a)]) hE dX5_sum_11 (by decide) rfl ?_
  refine zs_iconst (v := (nI 0)) hE dX5_sum_13 (by decide) ?_
  refine zs_istore (lo' := [(5, .int (nI 0)), (4, .int (nI 32)), (3, .ref xh), (1, .long (7 : Int64)), (0, .ref a)]) hE dX5_sum_14 (by decide) rfl ?_
  refine zs_sub (lo' := [(5, .int (nI 0)), (1, .long (7 : Int64)), (3, .ref xh), (4, .int (nI 32))]) [0, 3, 2, 1] rfl ?_
  refine zs_ind1 (Hs := fun (i : Nat) => s.heap) (ks := fun (i : Nat) => 0) (ns := fun (i : Nat) => 0) (los := fun (i : Nat) => [(5, .int (nI i)), (1, .long (sp_f sl (fun rs t => sp_ss rs t rs.length) i 7)), (3, .ref xh), (4, .int (nI 32))]) (I := fun (i : Nat) => i ≤ 32) (μ := fun (i : Nat) => 32 - i) 0 (Nat.zero_le _) (fun i hi ih => ?_)
  try dsimp only at hi ih ⊢
  refine zs_iload hE 0 dX5_sum_16 rfl ?_
  refine zs_iload hE 3 dX5_sum_18 rfl ?_
  refine zs_icmp_geN (tgt := 47) hE (by omega) (by decide) dX5_sum_20 (by decide) (fun h => ?_) (fun h => ?_)
  · refine zs_lload_n hE 1 dX5_sum_47 rfl rfl ?_
    refine zs_top (v' := .long (sp_f sl (fun rs t => sp_ss rs t rs.length) 32 7)) (by rw [show i = 32 by omega]) ?_
    exact zs_lret hE hr (⟨rfl, rfl⟩) (by decide) (by decide) dX5_sum_48
  · refine zs_aload_n hE 2 dX5_sum_23 rfl rfl ?_
    refine zs_iload hE 0 dX5_sum_24 rfl ?_
    refine zs_aald hE x6 rfl (by omega) (by decide) dX5_sum_26 ?_
    refine zs_astoreq (lo' := [(6, va_rf (xf i)), (5, .int (nI i)), (1, .long (sp_f sl (fun rs t => sp_ss rs t rs.length) i 7)), (3, .ref xh), (4, .int (nI 32))]) hE dX5_sum_27 (by decide) rfl ?_
    refine zs_aloadq hE 0 dX5_sum_29 rfl ?_
    have ho := x7 i h
    refine zs_ifnull (tgt := 41) hE dX5_sum_31 (by decide) (fun h2 => ?_) (fun o h2 => ?_)
    · rw [h2] at ho
      refine zs_iincN (lo' := [(5, .int (nI (i + 1))), (6, va_rf (xf i)), (1, .long (sp_f sl (fun rs t => sp_ss rs t rs.length) i 7)), (3, .ref xh), (4, .int (nI 32))]) hE 1 dX5_sum_41 rfl (by decide) rfl ?_
      refine zs_goto (tgt := 16) hE dX5_sum_44 (by decide) ?_
      refine zs_sub (lo' := [(5, .int (nI (i + 1))), (1, .long (sp_f sl (fun rs t => sp_ss rs t rs.length) i 7)), (3, .ref xh), (4, .int (nI 32))]) [0, 2, 3, 4] rfl ?_
      refine zs_lo (lo' := [(5, .int (nI (i + 1))), (1, .long (sp_f sl (fun rs t => sp_ss rs t rs.length) (i + 1) 7)), (3, .ref xh), (4, .int (nI 32))]) (by rw [sp_f0 ho.no]) ?_
      refine zs_sub (lo' := [(5, .int (nI (i + 1))), (1, .long (sp_f sl (fun rs t => sp_ss rs t rs.length) (i + 1) 7)), (3, .ref xh), (4, .int (nI 32))]) [0, 1, 2, 3] rfl ?_
      exact ih (i + 1) (by omega) (by omega)
    · rw [h2] at ho
      obtain ⟨rs, e1, e2⟩ := ho.so
      obtain ⟨b, bf, c0, c1, -⟩ := e2.s0
      refine zs_lo (lo' := [(6, .ref o), (5, .int (nI i)), (1, .long (sp_f sl (fun rs t => sp_ss rs t rs.length) i 7)), (3, .ref xh), (4, .int (nI 32))]) (by rw [h2]; rfl) ?_
      refine zs_aload hE 0 dX5_sum_34 rfl ?_
      refine zs_lload_n hE 2 dX5_sum_36 rfl rfl ?_
      refine zs_callVR (av := [.long (sp_f sl (fun rs t => sp_ss rs t rs.length) i 7)]) (st := []) (b := o) hE (m_X4_sumOnto D E B l κ o (sp_f sl (fun rs t => sp_ss rs t rs.length) i 7) rs) rfl rfl sV_X5_87 c1 rfl rfl (e2) ⟨by decide, by decide⟩ ⟨by decide, by decide⟩ (Nat.le_of_ble_eq_true rfl) dX5_sum_37 ?_
      refine zs_lstore_n (lo' := [(1, .long (sp_ss rs (sp_f sl (fun rs t => sp_ss rs t rs.length) i 7) rs.length)), (6, .ref o), (5, .int (nI i)), (3, .ref xh), (4, .int (nI 32))]) hE dX5_sum_40 rfl (by decide) rfl ?_
      refine zs_iincN (lo' := [(5, .int (nI (i + 1))), (1, .long (sp_ss rs (sp_f sl (fun rs t => sp_ss rs t rs.length) i 7) rs.length)), (6, .ref o), (3, .ref xh), (4, .int (nI 32))]) hE 2 dX5_sum_41 rfl (by decide) rfl ?_
      refine zs_goto (tgt := 16) hE dX5_sum_44 (by decide) ?_
      refine zs_sub (lo' := [(5, .int (nI (i + 1))), (1, .long (sp_ss rs (sp_f sl (fun rs t => sp_ss rs t rs.length) i 7) rs.length)), (3, .ref xh), (4, .int (nI 32))]) [0, 1, 3, 4] rfl ?_
      refine zs_lo (lo' := [(5, .int (nI (i + 1))), (1, .long (sp_f sl (fun rs t => sp_ss rs t rs.length) (i + 1) 7)), (3, .ref xh), (4, .int (nI 32))]) (by rw [sp_f1 e1]) ?_
      refine zs_sub (lo' := [(5, .int (nI (i + 1))), (1, .long (sp_f sl (fun rs t => sp_ss rs t rs.length) (i + 1) 7)), (3, .ref xh), (4, .int (nI 32))]) [0, 1, 2, 3] rfl ?_
      exact ih (i + 1) (by omega) (by omega)
end
section
/-! making versions -/
section ZO
variable {D : va_G} {E : Nat → ClassId} {B : Nat} {A : Nat → Prop} {p : Program} {l : Launch} {e : Env} {R : Room} {s : State} {m : MethodId} {args : Array Value} {below : List Frame} {meth : Method} {c : Code} {nL : Nat} {Q : State → Prop} {H : Heap} {k n pc : Nat} {lo lo' : List (Nat × Value)} {st : List Value} {cc : ByteArray} {own : String}
theorem zs_aastO (hE : zs_E D E B A s m args meth c p cc nL own) {a t N j ci : Nat} {x : Option Nat} {r : vw_C} {f : Nat → Option Nat} (hp : zs_pt D a (.inl (E t, N, .inr (.inr (.inr (.inr f))))) H) (ht : (zs_T E)[t]? = some (E t, .object r.1)) (hv : ∀ v, x = some v → ∃ vs, zs_pt D v (.inr (ci, vs)) H) (hc : zs_C[ci]? = some r) (hA : A a) (hj : j < N) (hN : N < 2 ^ 31) (hd : decode cc pc = .ok (.aastore, 1)) (K : ∀ H1 : Heap, zs_pt D a (.inl (E t, N, .inr (.inr (.inr (.inr (va_up f j x)))))) H1 → H1.size = H.size → (∀ q, q ≠ a → H1[q]? = H[q]?) → zs_W A p l e R s m args below meth c nL Q H1 k n (pc + 1) lo st) : zs_W A p l e R s m args below meth c nL Q H k n pc lo (va_rf x :: .int (nI j) :: .ref a :: st) := by
  cases x with
  | none => exact zs_aastN hE hp ht hA hj hN hd K
  | some v =>
    obtain ⟨vs, hv⟩ := hv v rfl
    exact zs_aast hE hp ht hv hc hA hj hN hd K
end ZO
theorem cs_row.kap {D : va_G} {E : Nat → ClassId} {κ κ' : Nat → Nat} {H : Heap} {a : Nat} {r : sp_R} (h : cs_row D E κ H a r) (hk : ∀ q, q < H.size → κ q = 0 → κ' q = 0) : cs_row D E κ' H a r := by
  obtain ⟨h0, h1, n, h2, h3, h4⟩ := h
  exact ⟨h0, hk _ h3.lt h1, n, hk _ h4.lt h2, h3, h4⟩
theorem cs_sh.kap {D : va_G} {E : Nat → ClassId} {κ κ' : Nat → Nat} {H : Heap} {a : Nat} {r : sp_Sh} (h : cs_sh D E κ H a r) (hk : ∀ q, q < H.size → κ q = 0 → κ' q = 0) : cs_sh D E κ' H a r := by
  obtain ⟨h0, h1, n, f, h2, h3, h4, h5⟩ := h
  exact ⟨h0, hk _ h3.lt h1, n, f, hk _ h4.lt h2, h3, h4, fun j hj => (h5 j hj).imp fun b z => ⟨z.1, z.2.kap hk⟩⟩
theorem cs_os.kap {D : va_G} {E : Nat → ClassId} {κ κ' : Nat → Nat} {H : Heap} {o : Option Nat} {t : Option sp_Sh} (h : cs_os D E κ H o t) (hk : ∀ q, q < H.size → κ q = 0 → κ' q = 0) : cs_os D E κ' H o t := ⟨h.1, fun rs q => (h.2 rs q).imp fun a z => ⟨z.1, z.2.kap hk⟩⟩
theorem cs_vs.kap {D : va_G} {E : Nat → ClassId} {κ κ' : Nat → Nat} {H : Heap} {f : Nat → Option Nat} {t : Nat → Option sp_Sh} (h : cs_vs D E κ H f t) (hk : ∀ q, q < H.size → κ q = 0 → κ' q = 0) : cs_vs D E κ' H f t := fun j hj => (h j hj).kap hk
theorem ifc {α : Type} {P Q : Prop} {hP : Decidable P} {hQ : Decidable Q} {x y : α} (h : P ↔ Q) : @ite α P hP x y = @ite α Q hQ x y := by
  by_cases q : P
  · rw [if_pos q, if_pos (h.mp q)]
  · rw [if_neg q, if_neg (fun z => q (h.mpr z))]
theorem hk_all {F : Nat → Prop} {H H1 : Heap} (hz : H1.size = H.size) (hk : ∀ q, q < H.size → ¬ F q → H1[q]? = H[q]?) : ∀ q, ¬ F q → H1[q]? = H[q]? := fun q hq => by
  rcases Nat.lt_or_ge q H.size with h | h
  · exact hk q h hq
  · rw [Array.getElem?_eq_none (by omega), Array.getElem?_eq_none h]
theorem cs_os.ob {D : va_G} {E : Nat → ClassId} {κ : Nat → Nat} {H : Heap} {o : Option Nat} {t : Option sp_Sh} (h : cs_os D E κ H o t) : ∀ v, o = some v → ∃ vs, zs_pt D v (.inr (4, vs)) H := by
  intro v e
  subst e
  obtain ⟨rs, -, q⟩ := h.so
  obtain ⟨x, f, -, q1, -⟩ := q.s0
  exact ⟨_, q1⟩

set_option maxHeartbeats 4000000 in
set_option maxRecDepth 100000 in
theorem m_X5_both (D : va_G) (E : Nat → ClassId) (B : Nat) (l : Launch) (κ : Nat → Nat) (a b : Nat) (rs ts : sp_Sh) : zs_Ct D E B l yX5_both cX5_both 4 (some (.object "ScoreSheaf$Sheaf")) ({ frames := 3, cells := 2, slots := 6, locals := 68 } : Room) [.ref a, .ref b] (fun H => cs_sh D E κ H a rs ∧ cs_sh D E κ H b ts ∧ ∀ q, H.size ≤ q → κ q = 0) (zs_N) (fun v H H1 => ∃ q : Nat, v = some (.ref q) ∧ H.size ≤ q ∧ H1.size = H.size + 2 ∧ cs_sh D E κ H1 q (sp_jn rs ts ts.length)) := by
  refine zs_ct (by decide) (Nat.le_of_ble_eq_true rfl) (fun p e s m below meth c hE hr hin hp => ?_)
  refine zs_lo (lo' := [(0, .ref a), (1, .ref b)]) rfl ?_
  obtain ⟨ha, hb, hκ⟩ := hp
  obtain ⟨xh, xf, x0, x1, x2, x3⟩ := ha.s0
  refine zs_aload_n hE 0 dX5_both_0 rfl rfl ?_
  refine zs_ifnullR hE dX5_both_1 ?_
  refine zs_aload_n hE 1 dX5_both_4 rfl rfl ?_
  refine zs_ifnonnullR (tgt := 10) hE dX5_both_5 (by decide) ?_
  refine zs_new (fs := [.null, .int 0]) hE nl_X5_9 (fun j hj => by rcases (show j = 0 ∨ j = 1 by omega) with rfl | rfl <;> rfl) (by decide) (by decide) dX5_both_10 (fun q1 H1 hq1 hp1 hz1 ho1 => ?_)
  refine zs_widen (k' := 1) (n' := 2) (by omega) (by omega) ?_
  refine zs_dup hE dX5_both_13 rfl ?_
  refine zs_callIN (ret := none) (av := []) (st := [.ref q1]) hE (m_X4_init D E B l q1) sIN_X5_65 (hp1) ⟨by decide, by decide⟩ ⟨by decide, by decide⟩ (fun q h => Or.inr (by omega)) (Nat.le_of_ble_eq_true rfl) dX5_both_14 (fun v2 H2 hv2 hz2 hk2 => ?_)
  obtain ⟨rfl, g, cz, cs, c1, c2⟩ := hv2
  refine zs_widen (k' := 2) (n' := 6) (by decide) (by decide) ?_
  have hoo : ∀ q, q < s.heap.size → H2[q]? = s.heap[q]? := fun q z => (hk2 q (by omega) (fun w => by omega)).trans (ho1 q z)
  refine zs_astore_n (lo' := [(2, .ref q1), (0, .ref a), (1, .ref b)]) hE dX5_both_17 rfl (by decide) rfl ?_
  refine zs_iconst (v := (nI 0)) hE dX5_both_18 (by decide) ?_
  refine zs_istore_n (lo' := [(3, .int (nI 0)), (2, .ref q1), (0, .ref a), (1, .ref b)]) hE dX5_both_19 rfl (by decide) rfl ?_
  refine zs_sub (lo' := [(3, .int (nI 0)), (0, .ref a), (1, .ref b), (2, .ref q1)]) [0, 2, 3, 1] rfl ?_
  refine zs_ind3 (Hs := fun (i : Nat) (K : Heap) (f : Nat → Option Nat) => K) (ks := fun (i : Nat) (K : Heap) (f : Nat → Option Nat) => 2) (ns := fun (i : Nat) (K : Heap) (f : Nat → Option Nat) => 6) (los := fun (i : Nat) (K : Heap) (f : Nat → Option Nat) => [(3, .int (nI i)), (0, .ref a), (1, .ref b), (2, .ref q1)]) (I := fun (i : Nat) (K : Heap) (f : Nat → Option Nat) => i ≤ rs.length ∧ zs_pt D q1 (.inr (4, [.ref g, .int (nI i)])) K ∧ zs_pt D g (.inl (E 10, 4, .inr (.inr (.inr (.inr f))))) K ∧ (∀ j, j < i → f j = xf j) ∧ K.size = s.heap.size + 2 ∧ ∀ q, q < s.heap.size → K[q]? = s.heap[q]?) (μ := fun (i : Nat) (K : Heap) (f : Nat → Option Nat) => rs.length - i) 0 H2 (fun _ => none) (⟨Nat.zero_le _, c1, c2, fun j hj => absurd hj (Nat.not_lt_zero _), by omega, hoo⟩) (fun i K f hi ih => ?_)
  try dsimp only at hi ih ⊢
  obtain ⟨hi0, k1, k2, k3, hz, hoK⟩ := hi
  have x1 := x1.kept (hoK _ x1.lt)
  have x2 := x2.kept (hoK _ x2.lt)
  refine zs_iload_n hE 0 dX5_both_20 rfl rfl ?_
  refine zs_aload_n hE 1 dX5_both_21 rfl rfl ?_
  refine zs_get hE fl_X5_66 x1 rfl dX5_both_22 ?_
  refine zs_icmp_geN (tgt := 43) hE (by omega) (by omega) dX5_both_25 (by decide) (fun h3 => ?_) (fun h3 => ?_)
  · have e : i = rs.length := by omega
    subst e
    have hmk : cs_mk D E κ s.heap K q1 g rs := ⟨x0, k1, f, k2, fun j hj => by rw [k3 j hj]; exact x3 j hj⟩
    refine zs_aload_n hE 3 dX5_both_43 rfl rfl ?_
    refine zs_aload_n hE 2 dX5_both_44 rfl rfl ?_
    refine zs_callV (av := [.ref b]) (st := []) hE (m_X4_takeUnlike D E B l κ s.heap q1 g b rs ts (by omega) (by omega) (by omega)) sV_X5_77 k1 rfl rfl (⟨hmk, hb, by omega, hoK⟩) ⟨by decide, by decide⟩ ⟨by decide, by decide⟩ (fun q h => Or.inr (by rcases h with h | h <;> omega)) (Nat.le_of_ble_eq_true rfl) dX5_both_45 (fun v3 H3 hv3 hz3 hk3 => ?_)
    obtain ⟨rfl, dz, d0⟩ := hv3
    refine zs_widen (k' := 2) (n' := 6) (by decide) (by decide) ?_
    refine zs_aload_n hE 3 dX5_both_48 rfl rfl ?_
    refine zs_top (v' := va_rf (some q1)) rfl ?_
    exact zs_aret hE hr (by first | exact Or.inl ⟨_, rfl⟩ | exact Or.inr ⟨_, rfl⟩) (⟨q1, rfl, by omega, by omega, d0.sh (hκ _ (by omega)) (hκ _ (by omega)) (fun q z _ => (hk3 q (by omega) (fun w => by rcases w with w | w <;> omega)).trans (hoK q z))⟩) (by decide) (by decide) dX5_both_49
  · refine zs_aload_n hE 3 dX5_both_28 rfl rfl ?_
    refine zs_aload_n hE 1 dX5_both_29 rfl rfl ?_
    refine zs_iload_n hE 0 dX5_both_30 rfl rfl ?_
    refine zs_callVR (av := [.int (nI i)]) (st := [.ref q1]) (b := a) hE (m_X4_rowAt D E B l a xh rs.length xf (nI i) x0) rfl rfl sV_X5_69 x1 rfl rfl (⟨x1, x2⟩) ⟨by decide, by decide⟩ ⟨by decide, by decide⟩ (Nat.le_of_ble_eq_true rfl) dX5_both_31 ?_
    obtain ⟨b2, b2e, b2r⟩ := x3 i (by omega)
    refine zs_top (v' := .ref b2) (sp_at_in (by omega) (by omega) b2e) ?_
    obtain ⟨-, -, b2n, -, b2p, -⟩ := id b2r
    have b2p := b2p.kept (hoK _ b2p.lt)
    refine zs_callV (av := [.ref b2]) (st := []) hE (m_X4_take D E B l q1 g i b2 f _ (by omega) (by omega)) sV_X5_73 k1 rfl rfl (⟨k1, k2, b2p⟩) ⟨by decide, by decide⟩ ⟨by decide, by decide⟩ (fun q h => Or.inr (by rcases h with h | h <;> omega)) (Nat.le_of_ble_eq_true rfl) dX5_both_34 (fun v4 H4 hv4 hz4 hk4 => ?_)
    obtain ⟨rfl, dz, -, d0⟩ := hv4
    refine zs_widen (k' := 2) (n' := 6) (by decide) (by decide) ?_
    obtain ⟨d1, d2⟩ := d0 (by omega)
    refine zs_iincN (lo' := [(3, .int (nI (i + 1))), (0, .ref a), (1, .ref b), (2, .ref q1)]) hE 0 dX5_both_37 rfl (by decide) rfl ?_
    refine zs_goto (tgt := 20) hE dX5_both_40 (by decide) ?_
    refine zs_sub (lo' := [(3, .int (nI (i + 1))), (0, .ref a), (1, .ref b), (2, .ref q1)]) [0, 1, 2, 3] rfl ?_
    exact ih (i + 1) H4 (va_up f i (some b2)) (⟨by omega, d1, d2, fun j hj => by rcases Nat.lt_or_ge j i with z | z; rw [va_up, if_neg (by omega)]; exact k3 j z; rw [show j = i by omega, va_up, if_pos rfl, b2e], by omega, fun q z => (hk4 q (by omega) (fun w => by rcases w with w | w <;> omega)).trans (hoK q z)⟩) (by omega)

theorem cs_sh.nol {D : va_G} {E : Nat → ClassId} {κ : Nat → Nat} {H : Heap} {a : Nat} {rs : sp_Sh} (h : cs_sh D E κ H a rs) : sp_no rs ≤ 32 := by
  obtain ⟨n, f, h1, -, -, h4⟩ := h.s0
  have := sm_le (f := fun k => (rs.getD k sp_d0).2.length) (c := 8) (n := rs.length) (fun j hj => by obtain ⟨b, -, ⟨-, q, -⟩, -⟩ := h4 j hj; exact q)
  show sm _ _ ≤ 32
  omega
set_option maxHeartbeats 4000000 in
set_option maxRecDepth 100000 in
theorem m_X5_fuller (D : va_G) (E : Nat → ClassId) (B : Nat) (l : Launch) (κ : Nat → Nat) (a b : Nat) (rs ts : sp_Sh) : zs_Ct D E B l yX5_fuller cX5_fuller 2 (some (.object "ScoreSheaf$Sheaf")) ({ frames := 3, cells := 0, slots := 0, locals := 65 } : Room) [.ref a, .ref b] (fun H => cs_sh D E κ H a rs ∧ cs_sh D E κ H b ts) (zs_N) (zs_ro (va_rf (if sp_no rs < sp_no ts then some b else some a))) := by
  refine zs_ct (by decide) (Nat.le_of_ble_eq_true rfl) (fun p e s m below meth c hE hr hin hp => ?_)
  refine zs_lo (lo' := [(0, .ref a), (1, .ref b)]) rfl ?_
  obtain ⟨ha, hb⟩ := hp
  obtain ⟨xh, xf, x0, x1, x2, x3⟩ := ha.s0
  obtain ⟨yh, yf, y0, y1, y2, y3⟩ := hb.s0
  have bx := cs_sh.nol ha
  have bx2 := cs_sh.nol hb
  refine zs_aload_n hE 0 dX5_fuller_0 rfl rfl ?_
  refine zs_ifnullR hE dX5_fuller_1 ?_
  refine zs_aload_n hE 1 dX5_fuller_4 rfl rfl ?_
  refine zs_ifnonnullR (tgt := 10) hE dX5_fuller_5 (by decide) ?_
  refine zs_aload_n hE 1 dX5_fuller_10 rfl rfl ?_
  refine zs_callVR (av := []) (st := []) (b := b) hE (m_X4_notesInAll D E B l κ b ts) rfl rfl sV_X5_61 y1 rfl rfl (hb) ⟨by decide, by decide⟩ ⟨by decide, by decide⟩ (Nat.le_of_ble_eq_true rfl) dX5_fuller_11 ?_
  refine zs_aload_n hE 0 dX5_fuller_14 rfl rfl ?_
  refine zs_callVR (av := []) (st := [.int (nI (sp_no ts))]) (b := a) hE (m_X4_notesInAll D E B l κ a rs) rfl rfl sV_X5_61 x1 rfl rfl (ha) ⟨by decide, by decide⟩ ⟨by decide, by decide⟩ (Nat.le_of_ble_eq_true rfl) dX5_fuller_15 ?_
  refine zs_icmp_leN (tgt := 25) hE (by omega) (by omega) dX5_fuller_18 (by decide) (fun h => ?_) (fun h => ?_)
  · refine zs_aload_n hE 0 dX5_fuller_25 rfl rfl ?_
    refine zs_top (v' := va_rf (if sp_no rs < sp_no ts then some b else some a)) (by rw [if_neg (by omega)]; rfl) ?_
    exact zs_aret hE hr (by first | exact Or.inl ⟨_, rfl⟩ | exact Or.inr ⟨_, rfl⟩) (⟨rfl, rfl⟩) (by decide) (by decide) dX5_fuller_26
  · refine zs_aload_n hE 1 dX5_fuller_21 rfl rfl ?_
    refine zs_goto (tgt := 26) hE dX5_fuller_22 (by decide) ?_
    refine zs_top (v' := va_rf (if sp_no rs < sp_no ts then some b else some a)) (by rw [if_pos h]; rfl) ?_
    exact zs_aret hE hr (by first | exact Or.inl ⟨_, rfl⟩ | exact Or.inr ⟨_, rfl⟩) (⟨rfl, rfl⟩) (by decide) (by decide) dX5_fuller_26

set_option maxHeartbeats 4000000 in
set_option maxRecDepth 100000 in
theorem m_X5_copySheaves (D : va_G) (E : Nat → ClassId) (B : Nat) (l : Launch) (a h b g n1 p1 a1 n2 p2 a2 : Nat) (w1 w2 : Int32) (f0 f : Nat → Option Nat) (hah : a ≠ h) (hbh : b ≠ h) (hgh : g ≠ h) : zs_Ct D E B l yX5_copySheaves cX5_copySheaves 3 none ({ frames := 0, cells := 0, slots := 0, locals := 0 } : Room) [.ref a, .ref b] (fun H => cs_v0 D E H a h n1 p1 a1 w1 f0 ∧ cs_v0 D E H b g n2 p2 a2 w2 f ∧ ∀ j, j < 32 → ∀ v, f j = some v → v ≠ h ∧ ∃ vs, zs_pt D v (.inr (4, vs)) H) (fun q => q = h) (fun v H H1 => v = none ∧ H1.size = H.size ∧ ∃ f1, (∀ j, j < 32 → f1 j = f j) ∧ cs_v0 D E H1 a h n1 p1 a1 w1 f1) := by
  refine zs_ct (by decide) (Nat.le_of_ble_eq_true rfl) (fun p e s m below meth c hE hr hin hp => ?_)
  refine zs_lo (lo' := [(0, .ref a), (1, .ref b)]) rfl ?_
  obtain ⟨⟨x5, x6⟩, ⟨y5, y6⟩, hf⟩ := hp
  refine zs_iconst (v := (nI 0)) hE dX5_copySheaves_0 (by decide) ?_
  refine zs_istore_n (lo' := [(2, .int (nI 0)), (0, .ref a), (1, .ref b)]) hE dX5_copySheaves_1 rfl (by decide) rfl ?_
  refine zs_sub (lo' := [(2, .int (nI 0)), (0, .ref a), (1, .ref b)]) [0, 1, 2] rfl ?_
  refine zs_ind3 (Hs := fun (i : Nat) (K : Heap) (f1 : Nat → Option Nat) => K) (ks := fun (i : Nat) (K : Heap) (f1 : Nat → Option Nat) => 0) (ns := fun (i : Nat) (K : Heap) (f1 : Nat → Option Nat) => 0) (los := fun (i : Nat) (K : Heap) (f1 : Nat → Option Nat) => [(2, .int (nI i)), (0, .ref a), (1, .ref b)]) (I := fun (i : Nat) (K : Heap) (f1 : Nat → Option Nat) => i ≤ 32 ∧ K.size = s.heap.size ∧ (∀ q, q ≠ h → K[q]? = s.heap[q]?) ∧ zs_pt D h (.inl (E 9, 32, .inr (.inr (.inr (.inr f1))))) K ∧ ∀ j, j < i → f1 j = f j) (μ := fun (i : Nat) (K : Heap) (f1 : Nat → Option Nat) => 32 - i) 0 s.heap f0 (⟨Nat.zero_le _, rfl, fun _ _ => rfl, x6, fun j hj => absurd hj (Nat.not_lt_zero _)⟩) (fun i K f1 hi ih => ?_)
  try dsimp only at hi ih ⊢
  obtain ⟨i32, hz, hoK, k6, k7⟩ := hi
  have x5 := x5.kept (hoK _ hah)
  have y5 := y5.kept (hoK _ hbh)
  have y6 := y6.kept (hoK _ hgh)
  refine zs_iload_n hE 0 dX5_copySheaves_2 rfl rfl ?_
  refine zs_bipush (v := (nI 32)) hE dX5_copySheaves_3 (by decide) ?_
  refine zs_icmp_geN (tgt := 26) hE (by omega) (by decide) dX5_copySheaves_5 (by decide) (fun h4 => ?_) (fun h3 => ?_)
  · exact zs_vret hE hr (⟨rfl, hz, f1, fun j hj => k7 j (by omega), x5, k6⟩) (by decide) (by decide) dX5_copySheaves_26
  · refine zs_aload_n hE 1 dX5_copySheaves_8 rfl rfl ?_
    refine zs_get hE fl_X5_11 x5 rfl dX5_copySheaves_9 ?_
    refine zs_iload_n hE 0 dX5_copySheaves_12 rfl rfl ?_
    refine zs_aload_n hE 2 dX5_copySheaves_13 rfl rfl ?_
    refine zs_get hE fl_X5_11 y5 rfl dX5_copySheaves_14 ?_
    refine zs_iload_n hE 0 dX5_copySheaves_17 rfl rfl ?_
    refine zs_aald hE y6 rfl (by omega) (by decide) dX5_copySheaves_18 ?_
    refine zs_aastO (ci := 4) (r := _) hE k6 rfl (fun v z => (hf i h3 v z).2.imp fun vs z2 => z2.kept (hoK _ (hf i h3 v z).1)) rfl (Or.inl rfl) (by omega) (by decide) dX5_copySheaves_19 (fun H1 hp1 hz1 ho1 => ?_)
    have x5 := zs_pt.kept x5 (ho1 _ hah)
    have y5 := zs_pt.kept y5 (ho1 _ hbh)
    have y6 := zs_pt.kept y6 (ho1 _ hgh)
    refine zs_iincN (lo' := [(2, .int (nI (i + 1))), (0, .ref a), (1, .ref b)]) hE 0 dX5_copySheaves_20 rfl (by decide) rfl ?_
    refine zs_goto (tgt := 2) hE dX5_copySheaves_23 (by decide) ?_
    refine zs_sub (lo' := [(2, .int (nI (i + 1))), (0, .ref a), (1, .ref b)]) [0, 1, 2] rfl ?_
    exact ih (i + 1) H1 (va_up f1 i (f i)) (⟨by omega, hz1.trans hz, fun q z => (ho1 q z).trans (hoK q z), hp1, fun j hj => by rcases Nat.lt_or_ge j i with z | z; rw [va_up, if_neg (by omega)]; exact k7 j z; rw [show j = i by omega, va_up, if_pos rfl]⟩) (by omega)

theorem zs_pt.congA {D : va_G} {a n : Nat} {cA : ClassId} {f g : Nat → Int32} {H : Heap} (h : zs_pt D a (.inl (cA, n, .inl f)) H) (e : ∀ j, j < n → f j = g j) : zs_pt D a (.inl (cA, n, .inl g)) H := by
  show H[a]? = some (vp_cell cA (n, .inl g))
  have h0 : H[a]? = some (vp_cell cA (n, .inl f)) := h
  rw [h0, vp_cell_i, vp_cell_i]
  congr 1
  unfold arrV
  congr 1
  apply Array.ext
  · simp
  · intro i h1 h2
    have h3 : i < n := by simpa using h1
    simp [e i h3]
theorem zs_pt.cong0 {D : va_G} {a : Nat} {cA : ClassId} {f g : Nat → Int32} {H : Heap} (h : zs_pt D a (.inl (cA, 0, .inl f)) H) : zs_pt D a (.inl (cA, 0, .inl g)) H := h.congA (fun j hj => absurd hj (Nat.not_lt_zero _))
set_option maxHeartbeats 4000000 in
set_option maxRecDepth 100000 in
theorem m_X5_fillEmpty (D : va_G) (E : Nat → ClassId) (B : Nat) (l : Launch) (κ : Nat → Nat) (a h n1 p1 a1 b q : Nat) (w1 : Int32) (hb : b ≤ 8) (hq : q ≤ 4) (hah : a ≠ h) : zs_Ct D E B l yX5_fillEmpty cX5_fillEmpty 6 none ({ frames := 3, cells := 4, slots := 8, locals := 81 } : Room) [.ref a, .int (nI b), .int (nI q)] (fun H => cs_v0 D E H a h n1 p1 a1 w1 (fun _ => none) ∧ ∀ q, H.size ≤ q → κ q = 0) (fun q => q = h) (fun v H H1 => v = none ∧ ∃ f, cs_v0 D E H1 a h n1 p1 a1 w1 f ∧ cs_vs D E κ H1 f (fun j => if j / 4 < b ∧ j % 4 < q then some [(0, [])] else none)) := by
  refine zs_ct (by decide) (Nat.le_of_ble_eq_true rfl) (fun p e s m below meth c hE hr hin hp => ?_)
  refine zs_lo (lo' := [(0, .ref a), (1, .int (nI b)), (2, .int (nI q))]) rfl ?_
  obtain ⟨⟨x5, x6⟩, hκ⟩ := hp
  refine zs_new (fs := [.int 0, .null]) hE nl_X5_31 (fun j hj => by rcases (show j = 0 ∨ j = 1 by omega) with rfl | rfl <;> rfl) (by decide) (by decide) dX5_fillEmpty_0 (fun q1 H1 hq1 hp1 hz1 ho1 => ?_)
  refine zs_widen (k' := 1) (n' := 2) (by omega) (by omega) ?_
  have ne2 : a ≠ q1 := by have := zs_pt.lt x5; omega
  have x5 := zs_pt.kept x5 (ho1 _ (zs_pt.lt x5))
  have ne3 : h ≠ q1 := by have := zs_pt.lt x6; omega
  have x6 := zs_pt.kept x6 (ho1 _ (zs_pt.lt x6))
  refine zs_dup hE dX5_fillEmpty_3 rfl ?_
  refine zs_iconst (v := (nI 0)) hE dX5_fillEmpty_4 (by decide) ?_
  refine zs_iconst (v := (nI 0)) hE dX5_fillEmpty_5 (by decide) ?_
  refine zs_newi hE q_arr_int (by decide) (by decide) (by decide) dX5_fillEmpty_6 (fun q4 H4 hq4 hp4 hz4 ho4 => ?_)
  refine zs_widen (k' := 2) (n' := 2) (by omega) (by omega) ?_
  have ne5 : a ≠ q4 := by have := zs_pt.lt x5; omega
  have x5 := zs_pt.kept x5 (ho4 _ (zs_pt.lt x5))
  have ne6 : h ≠ q4 := by have := zs_pt.lt x6; omega
  have x6 := zs_pt.kept x6 (ho4 _ (zs_pt.lt x6))
  have ne7 : q1 ≠ q4 := by have := zs_pt.lt hp1; omega
  have hp1 := zs_pt.kept hp1 (ho4 _ (zs_pt.lt hp1))
  refine zs_callI (ret := none) (av := [.int (nI 0), .ref q4]) (st := [.ref q1]) hE (m_X3_init D E B l q1 q4 (nI 0)) sI_X5_33 (hp1) ⟨by decide, by decide⟩ ⟨by decide, by decide⟩ (fun q h => Or.inr (by omega)) (Nat.le_of_ble_eq_true rfl) dX5_fillEmpty_8 (fun v8 H8 hv8 hz8 hk8 => ?_)
  obtain ⟨rfl, c1, cz⟩ := hv8
  refine zs_widen (k' := 2) (n' := 2) (by decide) (by decide) ?_
  have x5 := zs_pt.kept x5 (hk8 _ (zs_pt.lt x5) (fun w => by omega))
  have x6 := zs_pt.kept x6 (hk8 _ (zs_pt.lt x6) (fun w => by omega))
  have hp4 := zs_pt.kept hp4 (hk8 _ (zs_pt.lt hp4) (fun w => by omega))
  have hx := hp4
  have hκ2 : ∀ q, H8.size ≤ q → (va_up κ h 1) q = 0 := fun q z => by rw [va_up, if_neg (by have := x6.lt; omega)]; exact hκ q (by omega)
  have hlt := x6.lt
  have hrow1 : cs_row D E (va_up κ h 1) H8 q1 (0, []) := ⟨⟨by decide, by decide, fun x hx => by cases hx⟩, by rw [va_up, if_neg (by omega)]; exact hκ _ (by omega), q4, by rw [va_up, if_neg (by omega)]; exact hκ _ (by omega), c1, zs_pt.cong0 hp4⟩
  refine zs_callSN (av := [.ref q1]) (st := []) hE (m_X6_sheafOf D E B l (va_up κ h 1) q1 (0, [])) sSN_X5_36 (⟨hrow1, hκ2⟩) ⟨by decide, by decide⟩ ⟨by decide, by decide⟩ (fun _ w => w.elim) (Nat.le_of_ble_eq_true rfl) dX5_fillEmpty_11 (fun v9 H9 hv9 hz9 hk9 => ?_)
  obtain ⟨qs, rfl, qz, hsh⟩ := hv9
  refine zs_widen (k' := 4) (n' := 8) (by decide) (by decide) ?_
  have x5 := zs_pt.kept x5 (hk9 _ (zs_pt.lt x5) (fun w => w.elim))
  have x6 := zs_pt.kept x6 (hk9 _ (zs_pt.lt x6) (fun w => w.elim))
  refine zs_astore_n (lo' := [(3, .ref qs), (0, .ref a), (1, .int (nI b)), (2, .int (nI q))]) hE dX5_fillEmpty_14 rfl (by decide) rfl ?_
  refine zs_iconst (v := (nI 0)) hE dX5_fillEmpty_15 (by decide) ?_
  refine zs_istore (lo' := [(4, .int (nI 0)), (3, .ref qs), (0, .ref a), (1, .int (nI b)), (2, .int (nI q))]) hE dX5_fillEmpty_16 (by decide) rfl ?_
  refine zs_sub (lo' := [(4, .int (nI 0)), (0, .ref a), (1, .int (nI b)), (2, .int (nI q)), (3, .ref qs)]) [0, 2, 3, 4, 1] rfl ?_
  refine zs_ind3 (Hs := fun (i : Nat) (K : Heap) (f1 : Nat → Option Nat) => K) (ks := fun (i : Nat) (K : Heap) (f1 : Nat → Option Nat) => 4) (ns := fun (i : Nat) (K : Heap) (f1 : Nat → Option Nat) => 8) (los := fun (i : Nat) (K : Heap) (f1 : Nat → Option Nat) => [(4, .int (nI i)), (0, .ref a), (1, .int (nI b)), (2, .int (nI q)), (3, .ref qs)]) (I := fun (i : Nat) (K : Heap) (f1 : Nat → Option Nat) => i ≤ b ∧ K.size = H9.size ∧ (∀ q, q ≠ h → K[q]? = H9[q]?) ∧ zs_pt D h (.inl (E 9, 32, .inr (.inr (.inr (.inr f1))))) K ∧ ∀ j, j < 32 → cs_os D E (va_up κ h 1) K (f1 j) (if j / 4 < i ∧ j % 4 < q then some [(0, [])] else none)) (μ := fun (i : Nat) (K : Heap) (f1 : Nat → Option Nat) => b - i) 0 H9 (fun _ => none) (⟨Nat.zero_le _, rfl, fun _ _ => rfl, x6, fun j hj => by rw [if_neg (by omega)]; exact ⟨fun _ => rfl, fun rs z => by cases z⟩⟩) (fun i K f1 hi ih => ?_)
  try dsimp only at hi ih ⊢
  obtain ⟨i0, hzK, hoK, k6, k7⟩ := hi
  refine zs_iload hE 0 dX5_fillEmpty_18 rfl ?_
  refine zs_iload_n hE 2 dX5_fillEmpty_20 rfl rfl ?_
  refine zs_icmp_geN (tgt := 57) hE (by omega) (by omega) dX5_fillEmpty_21 (by decide) (fun h4 => ?_) (fun h4 => ?_)
  · exact zs_vret hE hr (⟨rfl, f1, ⟨x5.kept (hoK _ hah), k6⟩, fun j hj => (show i = b by omega) ▸ (k7 j hj).kap (fun q _ z => by rcases Nat.decEq q h with e | e; rw [va_up, if_neg e] at z; exact z; rw [va_up, if_pos e] at z; cases z)⟩) (by decide) (by decide) dX5_fillEmpty_57
  · refine zs_iconst (v := (nI 0)) hE dX5_fillEmpty_24 (by decide) ?_
    refine zs_istore (lo' := [(5, .int (nI 0)), (4, .int (nI i)), (0, .ref a), (1, .int (nI b)), (2, .int (nI q)), (3, .ref qs)]) hE dX5_fillEmpty_25 (by decide) rfl ?_
    have ih0 := ih
    refine zs_sub (lo' := [(5, .int (nI 0)), (0, .ref a), (1, .int (nI b)), (2, .int (nI q)), (3, .ref qs), (4, .int (nI i))]) [0, 2, 3, 4, 5, 1] rfl ?_
    refine zs_ind3 (Hs := fun (u : Nat) (K2 : Heap) (f2 : Nat → Option Nat) => K2) (ks := fun (u : Nat) (K2 : Heap) (f2 : Nat → Option Nat) => 4) (ns := fun (u : Nat) (K2 : Heap) (f2 : Nat → Option Nat) => 8) (los := fun (u : Nat) (K2 : Heap) (f2 : Nat → Option Nat) => [(5, .int (nI u)), (0, .ref a), (1, .int (nI b)), (2, .int (nI q)), (3, .ref qs), (4, .int (nI i))]) (I := fun (u : Nat) (K2 : Heap) (f2 : Nat → Option Nat) => u ≤ q ∧ K2.size = H9.size ∧ (∀ q, q ≠ h → K2[q]? = H9[q]?) ∧ zs_pt D h (.inl (E 9, 32, .inr (.inr (.inr (.inr f2))))) K2 ∧ ∀ j, j < 32 → cs_os D E (va_up κ h 1) K2 (f2 j) (if (j / 4 < i ∧ j % 4 < q) ∨ (j / 4 = i ∧ j % 4 < u) then some [(0, [])] else none)) (μ := fun (u : Nat) (K2 : Heap) (f2 : Nat → Option Nat) => q - u) 0 K f1 (⟨Nat.zero_le _, hzK, hoK, k6, fun j hj => by
            have := k7 j hj
            rw [ifc (show j / 4 < i ∧ j % 4 < q ∨ j / 4 = i ∧ j % 4 < 0 ↔ j / 4 < i ∧ j % 4 < q by omega)]
            exact this⟩) (fun u K2 f2 hi ih => ?_)
    try dsimp only at hi ih ⊢
    obtain ⟨u0, hzJ, hoJ, j6, j7⟩ := hi
    refine zs_iload hE 0 dX5_fillEmpty_27 rfl ?_
    refine zs_iload_n hE 3 dX5_fillEmpty_29 rfl rfl ?_
    refine zs_icmp_geN (tgt := 51) hE (by omega) (by omega) dX5_fillEmpty_30 (by decide) (fun h5 => ?_) (fun h5 => ?_)
    · refine zs_iincN (lo' := [(4, .int (nI (i + 1))), (5, .int (nI u)), (0, .ref a), (1, .int (nI b)), (2, .int (nI q)), (3, .ref qs)]) hE 5 dX5_fillEmpty_51 rfl (by decide) rfl ?_
      refine zs_goto (tgt := 18) hE dX5_fillEmpty_54 (by decide) ?_
      refine zs_sub (lo' := [(4, .int (nI (i + 1))), (0, .ref a), (1, .int (nI b)), (2, .int (nI q)), (3, .ref qs)]) [0, 2, 3, 4, 5] rfl ?_
      exact ih0 (i + 1) K2 f2 (⟨by omega, hzJ, hoJ, j6, fun j hj => by
                have := j7 j hj
                rw [ifc (show j / 4 < i + 1 ∧ j % 4 < q ↔ j / 4 < i ∧ j % 4 < q ∨ j / 4 = i ∧ j % 4 < u by omega)]
                exact this⟩) (by omega)
    · refine zs_aload_n hE 1 dX5_fillEmpty_33 rfl rfl ?_
      refine zs_iload hE 5 dX5_fillEmpty_34 rfl ?_
      refine zs_iconst (v := (nI 4)) hE dX5_fillEmpty_36 (by decide) ?_
      refine zs_imulN hE dX5_fillEmpty_37 ?_
      refine zs_iload hE 0 dX5_fillEmpty_38 rfl ?_
      refine zs_iaddN hE dX5_fillEmpty_40 ?_
      refine zs_aload_n hE 4 dX5_fillEmpty_41 rfl rfl ?_
      have hshJ := hsh.kept (H1 := K2) (fun q z1 z2 => hoJ q (fun e => by rw [e, va_up, if_pos rfl] at z2; cases z2))
      obtain ⟨g1, g2, -, g3, -⟩ := hshJ.s0
      have x5J := x5.kept (hoJ _ hah)
      refine zs_callV (av := [.int (nI (i * 4 + u)), .ref qs]) (st := []) hE (m_X5_put D E B l a h n1 p1 a1 (i * 4 + u) qs w1 f2 _ (by omega) hah) sV_X5_40 x5J rfl rfl (⟨⟨x5J, j6⟩, g3⟩) ⟨by decide, by decide⟩ ⟨by decide, by decide⟩ (fun q w => Or.inl w) (Nat.le_of_ble_eq_true rfl) dX5_fillEmpty_42 (fun v10 H10 hv10 hz10 hk10 => ?_)
      obtain ⟨rfl, dz, d0⟩ := hv10
      refine zs_widen (k' := 4) (n' := 8) (by decide) (by decide) ?_
      refine zs_iincN (lo' := [(5, .int (nI (u + 1))), (0, .ref a), (1, .int (nI b)), (2, .int (nI q)), (3, .ref qs), (4, .int (nI i))]) hE 0 dX5_fillEmpty_45 rfl (by decide) rfl ?_
      refine zs_goto (tgt := 27) hE dX5_fillEmpty_48 (by decide) ?_
      refine zs_sub (lo' := [(5, .int (nI (u + 1))), (0, .ref a), (1, .int (nI b)), (2, .int (nI q)), (3, .ref qs), (4, .int (nI i))]) [0, 1, 2, 3, 4, 5] rfl ?_
      exact ih (u + 1) H10 (va_up f2 (i * 4 + u) (some qs)) (⟨by omega, by omega, fun q w => (hk_all dz hk10 q w).trans (hoJ q w), d0.2, fun j hj => by
              by_cases ej : j = i * 4 + u
              · subst ej
                rw [va_up, if_pos rfl, if_pos (Or.inr ⟨by omega, by omega⟩)]
                exact ⟨fun z => (by cases z), fun rs z => by cases z; exact ⟨qs, rfl, hsh.kept (fun q z1 z2 => (hk_all dz hk10 q (fun e => by rw [e, va_up, if_pos rfl] at z2; cases z2)).trans (hoJ q (fun e => by rw [e, va_up, if_pos rfl] at z2; cases z2)))⟩⟩
              · rw [va_up, if_neg ej, ifc (show j / 4 < i ∧ j % 4 < q ∨ j / 4 = i ∧ j % 4 < u + 1 ↔ j / 4 < i ∧ j % 4 < q ∨ j / 4 = i ∧ j % 4 < u by omega)]
                exact (j7 j hj).kept (fun q z1 z2 => hk_all dz hk10 q (fun e => by rw [e, va_up, if_pos rfl] at z2; cases z2))⟩) (by omega)

/-- one sheaf merged, by the part's rule: r, the rule; gt, whether the first has the greater number -/
noncomputable def sp_m1 (r : Nat) (gt : Prop) (a b z : sp_Sh) : sp_Sh := pI (sp_al a b ∨ sp_al b z) a (pI (sp_al a z) b (pI (r = 108) (pI gt a b) (pI (r = 110) (if sp_no a < sp_no b then b else a) (sp_jn a b b.length))))
noncomputable def sp_mo (r : Nat) (gt : Prop) : Option sp_Sh → Option sp_Sh → Option sp_Sh → Option sp_Sh
  | some a, some b, some z => some (sp_m1 r gt a b z)
  | _, _, _ => none
theorem cs_os.none {D : va_G} {E : Nat → ClassId} {κ : Nat → Nat} {H : Heap} : cs_os D E κ H none none := ⟨fun _ => rfl, fun rs z => by cases z⟩
theorem cs_os.some {D : va_G} {E : Nat → ClassId} {κ : Nat → Nat} {H : Heap} {a : Nat} {rs : sp_Sh} (h : cs_sh D E κ H a rs) : cs_os D E κ H (some a) (some rs) := ⟨fun z => (by cases z), fun t z => by cases z; exact ⟨a, rfl, h⟩⟩
theorem sp_oal_n {y : Option sp_Sh} : sp_oal none y := fun _ _ h => by cases h
theorem sp_oal_s {a b : sp_Sh} : sp_oal (some a) (some b) ↔ sp_al a b := ⟨fun h => h a b rfl rfl, fun h x y h1 h2 => by cases h1; cases h2; exact h⟩
set_option maxHeartbeats 4000000 in
set_option maxRecDepth 100000 in
theorem m_X5_mergeSheaves (D : va_G) (E : Nat → ClassId) (B : Nat) (l : Launch) (κ : Nat → Nat) (H0 : Heap) (a h n0 p0 a0 b1 n1 p1 a1 b2 n2 p2 a2 b3 n3 p3 a3 pc2 ra : Nat) (w0 w1 w2 w3 : Int32) (f0 : Nat → Option Nat) (x y z : Nat → Option sp_Sh) (vp1 vp2 : Value) (ru : Nat → Nat) (hah : a ≠ h) (hrh : ra ≠ h) (hph : pc2 ≠ h) (hH : H0.size ≤ h) (hxy : ∀ j, j < 32 → (x j = none ↔ y j = none)) (hxz : ∀ j, j < 32 → (x j = none ↔ z j = none)) (hn1 : n1 < 40) (hn2 : n2 < 40) (hru : ∀ q, ru q < 65536) : zs_Ct D E B l yX5_mergeSheaves cX5_mergeSheaves 9 none ({ frames := 4, cells := 64, slots := 192, locals := 91 } : Room) [.ref a, .ref b1, .ref b2, .ref b3, .ref pc2] (fun H => cs_v0 D E H a h n0 p0 a0 w0 f0 ∧ cs_ver D E κ H0 b1 n1 p1 a1 w1 x ∧ cs_ver D E κ H0 b2 n2 p2 a2 w2 y ∧ cs_ver D E κ H0 b3 n3 p3 a3 w3 z ∧ zs_pt D pc2 (.inr (1, [vp1, vp2, .ref ra])) H ∧ zs_pt D ra (.inl (E 1, 4, .inl (fun j => nI (ru j)))) H ∧ (∀ q, H.size ≤ q → κ q = 0) ∧ H0.size ≤ H.size ∧ ∀ q, q < H0.size → H[q]? = H0[q]?) (fun q => q = h) (fun v H H1 => v = none ∧ ∃ f, cs_v0 D E H1 a h n0 p0 a0 w0 f ∧ cs_vs D E κ H1 f (fun j => sp_mo (ru (j % 4)) (n2 < n1) (x j) (y j) (z j))) := by
  refine zs_ct (by decide) (Nat.le_of_ble_eq_true rfl) (fun p e s m below meth c hE hr hin hp => ?_)
  refine zs_lo (lo' := [(0, .ref a), (1, .ref b1), (2, .ref b2), (3, .ref b3), (4, .ref pc2)]) rfl ?_
  obtain ⟨⟨x5, x6⟩, v1, v2, v3, r5, r6, hκ, hzz, hoo⟩ := hp
  have hlt := x6.lt
  have hκ1 : ∀ q, s.heap.size ≤ q → (va_up κ h 1) q = 0 := fun q z => by rw [va_up, if_neg (by omega)]; exact hκ q z
  have hkk : ∀ q, q < H0.size → κ q = 0 → (va_up κ h 1) q = 0 := fun q z1 z2 => by rw [va_up, if_neg (by omega)]; exact z2
  obtain ⟨y0, y1, y2, y3, yh, yf, y4, ⟨y5, y6⟩, y7⟩ := v1
  obtain ⟨z0, z1, z2, z3, zh, zf, z4, ⟨z5, z6⟩, z7⟩ := v2
  obtain ⟨u0, u1, u2, u3, uh, uf, u4, ⟨u5, u6⟩, u7⟩ := v3
  refine zs_iconst (v := (nI 0)) hE dX5_mergeSheaves_0 (by decide) ?_
  refine zs_istore (lo' := [(5, .int (nI 0)), (0, .ref a), (1, .ref b1), (2, .ref b2), (3, .ref b3), (4, .ref pc2)]) hE dX5_mergeSheaves_1 (by decide) rfl ?_
  have ny5 : b1 ≠ h := by have := zs_pt.lt y5; omega
  have ny6 : yh ≠ h := by have := zs_pt.lt y6; omega
  have nz5 : b2 ≠ h := by have := zs_pt.lt z5; omega
  have nz6 : zh ≠ h := by have := zs_pt.lt z6; omega
  have nu5 : b3 ≠ h := by have := zs_pt.lt u5; omega
  have nu6 : uh ≠ h := by have := zs_pt.lt u6; omega
  refine zs_sub (lo' := [(5, .int (nI 0)), (0, .ref a), (1, .ref b1), (2, .ref b2), (3, .ref b3), (4, .ref pc2)]) [0, 1, 2, 3, 4, 5] rfl ?_
  refine zs_ind3 (Hs := fun (i : Nat) (K : Heap) (f : Nat → Option Nat) => K) (ks := fun (i : Nat) (K : Heap) (f : Nat → Option Nat) => 2 * i) (ns := fun (i : Nat) (K : Heap) (f : Nat → Option Nat) => 6 * i) (los := fun (i : Nat) (K : Heap) (f : Nat → Option Nat) => [(5, .int (nI i)), (0, .ref a), (1, .ref b1), (2, .ref b2), (3, .ref b3), (4, .ref pc2)]) (I := fun (i : Nat) (K : Heap) (f : Nat → Option Nat) => i ≤ 32 ∧ K.size ≤ s.heap.size + 2 * i ∧ (∀ q, q < s.heap.size → q ≠ h → K[q]? = s.heap[q]?) ∧ zs_pt D h (.inl (E 9, 32, .inr (.inr (.inr (.inr f))))) K ∧ (∀ j, j < i → cs_os D E (va_up κ h 1) K (f j) (sp_mo (ru (j % 4)) (n2 < n1) (x j) (y j) (z j))) ∧ s.heap.size ≤ K.size ∧ True) (μ := fun (i : Nat) (K : Heap) (f : Nat → Option Nat) => 32 - i) 0 s.heap f0 (⟨Nat.zero_le _, by omega, fun _ _ _ => rfl, x6, fun j hj => absurd hj (Nat.not_lt_zero _), Nat.le_refl _, trivial⟩) (fun i K f hi ih => ?_)
  try dsimp only at hi ih ⊢
  obtain ⟨i32, hzK, hoK, k6, k7, k8, hκK⟩ := hi
  have hoK0 : ∀ q, q < H0.size → K[q]? = H0[q]? := fun q w => (hoK q (by omega) (by omega)).trans (hoo q w)
  have y5 := zs_pt.kept y5 (hoK0 _ (zs_pt.lt y5))
  have y6 := zs_pt.kept y6 (hoK0 _ (zs_pt.lt y6))
  have z5 := zs_pt.kept z5 (hoK0 _ (zs_pt.lt z5))
  have z6 := zs_pt.kept z6 (hoK0 _ (zs_pt.lt z6))
  have u5 := zs_pt.kept u5 (hoK0 _ (zs_pt.lt u5))
  have u6 := zs_pt.kept u6 (hoK0 _ (zs_pt.lt u6))
  have r6lt := r6.lt
  have r5lt := r5.lt
  have x5lt := x5.lt
  have x5 := x5.kept (hoK _ x5lt hah)
  have r5 := r5.kept (hoK _ r5lt hph)
  have r6 := r6.kept (hoK _ r6lt hrh)
  refine zs_iload hE 0 dX5_mergeSheaves_3 rfl ?_
  refine zs_bipush (v := (nI 32)) hE dX5_mergeSheaves_5 (by decide) ?_
  refine zs_icmp_geN (tgt := 176) hE (by omega) (by decide) dX5_mergeSheaves_7 (by decide) (fun h5 => ?_) (fun h4 => ?_)
  · refine zs_widen (k' := 64) (n' := 192) (by omega) (by omega) ?_
    exact zs_vret hE hr (⟨rfl, f, ⟨x5, k6⟩, fun j hj => (k7 j (by omega)).kap (fun q _ w => by rcases Nat.decEq q h with e | e; rw [va_up, if_neg e] at w; exact w; rw [va_up, if_pos e] at w; cases w)⟩) (by decide) (by decide) dX5_mergeSheaves_176
  · refine zs_aload hE 5 dX5_mergeSheaves_10 rfl ?_
    refine zs_get hE fl_X5_44 r5 rfl dX5_mergeSheaves_12 ?_
    refine zs_iload hE 0 dX5_mergeSheaves_15 rfl ?_
    refine zs_iconst (v := (nI 4)) hE dX5_mergeSheaves_17 (by decide) ?_
    refine zs_irem hE dX5_mergeSheaves_18 (by decide) ?_
    refine zs_top (v' := .int (nI (i % 4))) (by rw [pk_rem (by omega) (by decide) (by decide)]) ?_
    refine zs_cald hE r6 (Nat.mod_lt _ (by decide)) (by decide) dX5_mergeSheaves_19 ?_
    refine zs_istore (lo' := [(6, .int (nI (ru (i % 4)))), (5, .int (nI i)), (0, .ref a), (1, .ref b1), (2, .ref b2), (3, .ref b3), (4, .ref pc2)]) hE dX5_mergeSheaves_20 (by decide) rfl ?_
    refine zs_aload_n hE 3 dX5_mergeSheaves_22 rfl rfl ?_
    refine zs_get hE fl_X5_11 y5 rfl dX5_mergeSheaves_23 ?_
    refine zs_iload hE 1 dX5_mergeSheaves_26 rfl ?_
    refine zs_aald hE y6 rfl (by omega) (by decide) dX5_mergeSheaves_28 ?_
    refine zs_astoreq (lo' := [(7, va_rf (yf i)), (6, .int (nI (ru (i % 4)))), (5, .int (nI i)), (0, .ref a), (1, .ref b1), (2, .ref b2), (3, .ref b3), (4, .ref pc2)]) hE dX5_mergeSheaves_29 (by decide) rfl ?_
    refine zs_aload_n hE 5 dX5_mergeSheaves_31 rfl rfl ?_
    refine zs_get hE fl_X5_11 z5 rfl dX5_mergeSheaves_32 ?_
    refine zs_iload hE 2 dX5_mergeSheaves_35 rfl ?_
    refine zs_aald hE z6 rfl (by omega) (by decide) dX5_mergeSheaves_37 ?_
    refine zs_astoreq (lo' := [(8, va_rf (zf i)), (7, va_rf (yf i)), (6, .int (nI (ru (i % 4)))), (5, .int (nI i)), (0, .ref a), (1, .ref b1), (2, .ref b2), (3, .ref b3), (4, .ref pc2)]) hE dX5_mergeSheaves_38 (by decide) (by generalize yf i = o9; cases o9 <;> rfl) ?_
    refine zs_aloadq hE 1 dX5_mergeSheaves_40 rfl ?_
    refine zs_aloadq hE 0 dX5_mergeSheaves_42 rfl ?_
    have oy := ((y7 i h4).kap hkk).kept (H1 := K) (fun q w _ => hoK0 q w)
    have oz := ((z7 i h4).kap hkk).kept (H1 := K) (fun q w _ => hoK0 q w)
    have ou := ((u7 i h4).kap hkk).kept (H1 := K) (fun q w _ => hoK0 q w)
    refine zs_callSNR (av := [va_rf (yf i), va_rf (zf i)]) (st := []) hE (m_X6_areAlike D E B l (va_up κ h 1) (yf i) (zf i) (x i) (y i) (hxy i h4)) rfl rfl sSN_X5_50 (⟨oy, oz⟩) ⟨by decide, by decide⟩ ⟨show 2 * i ≤ 64 by omega, show 6 * i ≤ 192 by omega⟩ (Nat.le_of_ble_eq_true rfl) dX5_mergeSheaves_44 ?_
    refine zs_if_neB (tgt := 65) hE dX5_mergeSheaves_47 (by decide) (fun c1 => ?_) (fun c1 => ?_)
    · have hoKc := hoK
      have k7c := k7
      refine zs_aload_n hE 4 dX5_mergeSheaves_65 rfl rfl ?_
      refine zs_get hE fl_X5_11 x5 rfl dX5_mergeSheaves_66 ?_
      refine zs_iload hE 3 dX5_mergeSheaves_69 rfl ?_
      refine zs_aloadq hE 1 dX5_mergeSheaves_71 rfl ?_
      have hnew : cs_os D E (va_up κ h 1) K (yf i) (sp_mo (ru (i % 4)) (n2 < n1) (x i) (y i) (z i)) := by
                  cases hx : x i with
                  | none =>
                    rw [hx] at oy
                    show cs_os D E (va_up κ h 1) _ _ (sp_mo _ _ none _ _)
                    exact oy
                  | some va =>
                    cases hy : y i with
                    | none => rw [(hxy i h4).mpr hy] at hx; cases hx
                    | some vb =>
                      cases hz : z i with
                      | none => rw [(hxz i h4).mpr hz] at hx; cases hx
                      | some vz =>
                        rw [hx, hy] at c1
                        rw [hx] at oy
                        show cs_os D E (va_up κ h 1) _ _ (some (sp_m1 _ _ _ _ _))
                        rw [sp_m1, pI_t (Or.inl (sp_oal_s.mp c1))]
                        exact oy
      refine zs_aastO (ci := 4) (r := _) hE k6 rfl (hnew.ob) rfl (Or.inl rfl) (by omega) (by decide) dX5_mergeSheaves_73 (fun H1 hp1 hz1 ho1 => ?_)
      have x5 := zs_pt.kept x5 (ho1 _ hah)
      have y5 := zs_pt.kept y5 (ho1 _ ny5)
      have y6 := zs_pt.kept y6 (ho1 _ ny6)
      have z5 := zs_pt.kept z5 (ho1 _ nz5)
      have z6 := zs_pt.kept z6 (ho1 _ nz6)
      have u5 := zs_pt.kept u5 (ho1 _ nu5)
      have u6 := zs_pt.kept u6 (ho1 _ nu6)
      have r5 := zs_pt.kept r5 (ho1 _ hph)
      have r6 := zs_pt.kept r6 (ho1 _ hrh)
      refine zs_goto (tgt := 170) hE dX5_mergeSheaves_74 (by decide) ?_
      refine zs_iincN (lo' := [(5, .int (nI (i + 1))), (8, va_rf (zf i)), (7, va_rf (yf i)), (6, .int (nI (ru (i % 4)))), (0, .ref a), (1, .ref b1), (2, .ref b2), (3, .ref b3), (4, .ref pc2)]) hE 3 dX5_mergeSheaves_170 rfl (by decide) rfl ?_
      refine zs_goto (tgt := 3) hE dX5_mergeSheaves_173 (by decide) ?_
      refine zs_widen (k' := 2 * (i + 1)) (n' := 6 * (i + 1)) (by omega) (by omega) ?_
      refine zs_sub (lo' := [(5, .int (nI (i + 1))), (0, .ref a), (1, .ref b1), (2, .ref b2), (3, .ref b3), (4, .ref pc2)]) [0, 4, 5, 6, 7, 8] rfl ?_
      exact ih (i + 1) H1 (va_up f i (yf i)) (⟨by omega, by omega, fun q w1 w2 => (ho1 q w2).trans (hoKc q w1 w2), hp1, fun j hj => by
              rcases Nat.lt_or_ge j i with w | w
              · rw [va_up, if_neg (by omega)]
                exact (k7c j w).kept (fun q _ w2 => ho1 q (fun e => by rw [e, va_up, if_pos rfl] at w2; cases w2))
              · rw [show j = i by omega, va_up, if_pos rfl]
                exact hnew.kept (fun q _ w2 => ho1 q (fun e => by rw [e, va_up, if_pos rfl] at w2; cases w2)), by omega, by omega⟩) (by omega)
    · refine zs_aloadq hE 0 dX5_mergeSheaves_50 rfl ?_
      refine zs_aload_n hE 7 dX5_mergeSheaves_52 rfl rfl ?_
      refine zs_get hE fl_X5_11 u5 rfl dX5_mergeSheaves_53 ?_
      refine zs_iload hE 3 dX5_mergeSheaves_56 rfl ?_
      refine zs_aald hE u6 rfl (by omega) (by decide) dX5_mergeSheaves_58 ?_
      refine zs_callSNR (av := [va_rf (zf i), va_rf (uf i)]) (st := []) hE (m_X6_areAlike D E B l (va_up κ h 1) (zf i) (uf i) (y i) (z i) ((hxy i h4).symm.trans (hxz i h4))) rfl rfl sSN_X5_50 (⟨oz, ou⟩) ⟨by decide, by decide⟩ ⟨show 2 * i ≤ 64 by omega, show 6 * i ≤ 192 by omega⟩ (Nat.le_of_ble_eq_true rfl) dX5_mergeSheaves_59 ?_
      refine zs_if_eqB (tgt := 77) hE dX5_mergeSheaves_62 (by decide) (fun c2 => ?_) (fun c2 => ?_)
      · obtain ⟨va, vb, vz, ea, eb, ez⟩ : ∃ va vb vz, x i = some va ∧ y i = some vb ∧ z i = some vz := by
                  cases hx : x i with
                  | none => rw [hx] at c1; exact absurd sp_oal_n c1
                  | some va =>
                    cases hy : y i with
                    | none => rw [(hxy i h4).mpr hy] at hx; cases hx
                    | some vb =>
                      cases hz : z i with
                      | none => rw [(hxz i h4).mpr hz] at hx; cases hx
                      | some vz => exact ⟨va, vb, vz, rfl, rfl, rfl⟩
        rw [ea] at c1 oy
        rw [eb] at c1 c2 oz
        rw [ez] at c2 ou
        have d1 : ¬ (sp_al va vb ∨ sp_al vb vz) := fun w => w.elim (fun w => c1 (sp_oal_s.mpr w)) (fun w => c2 (sp_oal_s.mpr w))
        refine zs_aloadq hE 1 dX5_mergeSheaves_77 rfl ?_
        refine zs_aload_n hE 7 dX5_mergeSheaves_79 rfl rfl ?_
        refine zs_get hE fl_X5_11 u5 rfl dX5_mergeSheaves_80 ?_
        refine zs_iload hE 3 dX5_mergeSheaves_83 rfl ?_
        refine zs_aald hE u6 rfl (by omega) (by decide) dX5_mergeSheaves_85 ?_
        refine zs_callSNR (av := [va_rf (yf i), va_rf (uf i)]) (st := []) hE (m_X6_areAlike D E B l (va_up κ h 1) (yf i) (uf i) (some va) (some vz) (by simp)) rfl rfl sSN_X5_50 (⟨oy, ou⟩) ⟨by decide, by decide⟩ ⟨show 2 * i ≤ 64 by omega, show 6 * i ≤ 192 by omega⟩ (Nat.le_of_ble_eq_true rfl) dX5_mergeSheaves_86 ?_
        refine zs_if_eqB (tgt := 104) hE dX5_mergeSheaves_89 (by decide) (fun c3 => ?_) (fun c3 => ?_)
        · have d2 : ¬ sp_al va vz := fun w => c3 (sp_oal_s.mpr w)
          refine zs_iload hE 2 dX5_mergeSheaves_104 rfl ?_
          refine zs_bipush (v := (nI 108)) hE dX5_mergeSheaves_106 (by decide) ?_
          refine zs_icmp_neN (tgt := 139) hE (Nat.lt_trans (hru _) (by decide)) (by decide) dX5_mergeSheaves_108 (by decide) (fun c4 => ?_) (fun c4 => ?_)
          · obtain ⟨oa, ea1, sa⟩ := oy.2 va rfl
            obtain ⟨ob, eb1, sb⟩ := oz.2 vb rfl
            refine zs_aload_n hE 4 dX5_mergeSheaves_139 rfl rfl ?_
            refine zs_get hE fl_X5_11 x5 rfl dX5_mergeSheaves_140 ?_
            refine zs_iload hE 3 dX5_mergeSheaves_143 rfl ?_
            refine zs_iload hE 2 dX5_mergeSheaves_145 rfl ?_
            refine zs_bipush (v := (nI 110)) hE dX5_mergeSheaves_147 (by decide) ?_
            refine zs_icmp_neN (tgt := 162) hE (Nat.lt_trans (hru _) (by decide)) (by decide) dX5_mergeSheaves_149 (by decide) (fun c6 => ?_) (fun c6 => ?_)
            · refine zs_lo (lo' := [(8, .ref ob), (7, .ref oa), (6, .int (nI (ru (i % 4)))), (5, .int (nI i)), (0, .ref a), (1, .ref b1), (2, .ref b2), (3, .ref b3), (4, .ref pc2)]) (by rw [ea1, eb1]; rfl) ?_
              refine zs_aload hE 1 dX5_mergeSheaves_162 rfl ?_
              refine zs_aload hE 0 dX5_mergeSheaves_164 rfl ?_
              have hκK2 : ∀ q, K.size ≤ q → (va_up κ h 1) q = 0 := fun q w => hκ1 q (by omega)
              refine zs_callS (av := [.ref oa, .ref ob]) (st := [.int (nI i), .ref h]) hE (m_X5_both D E B l (va_up κ h 1) oa ob va vb) sS_X5_58 (⟨sa, sb, hκK2⟩) ⟨by decide, by decide⟩ ⟨show 2 * i + 2 ≤ 64 by omega, show 6 * i + 6 ≤ 192 by omega⟩ (fun _ w => w.elim) (Nat.le_of_ble_eq_true rfl) dX5_mergeSheaves_166 (fun v2 H2 hv2 hz2 hk2 => ?_)
              obtain ⟨qj, rfl, gz, gs, hj⟩ := hv2
              refine zs_widen (k' := 2 * i + 2) (n' := 6 * i + 6) (show 2 * i + 2 ≤ 2 * i + 2 by omega) (show 6 * i + 6 ≤ 6 * i + 6 by omega) ?_
              have x5 := zs_pt.kept x5 (hk2 _ (zs_pt.lt x5) (fun w => w.elim))
              have k6 := zs_pt.kept k6 (hk2 _ (zs_pt.lt k6) (fun w => w.elim))
              have hoKc : ∀ q, q < s.heap.size → q ≠ h → H2[q]? = s.heap[q]? := fun q w1 w2 => (hk2 q (by omega) (fun w => w.elim)).trans (hoK q w1 w2)
              have k7c := fun j hj => (k7 j hj).kept (H1 := H2) (fun q w _ => hk2 q w (fun w => w.elim))
              have hnew : cs_os D E (va_up κ h 1) H2 (some qj) (sp_mo (ru (i % 4)) (n2 < n1) (x i) (y i) (z i)) := by rw [ea, eb, ez]; show cs_os D E (va_up κ h 1) _ _ (some (sp_m1 _ _ _ _ _)); rw [sp_m1, pI_f d1, pI_f d2, pI_f c4, pI_f c6]; exact cs_os.some hj
              refine zs_top (v' := va_rf (some qj)) (rfl) ?_
              refine zs_aastO (ci := 4) (r := _) hE k6 rfl (hnew.ob) rfl (Or.inl rfl) (by omega) (by decide) dX5_mergeSheaves_169 (fun H3 hp3 hz3 ho3 => ?_)
              have x5 := zs_pt.kept x5 (ho3 _ hah)
              refine zs_iincN (lo' := [(5, .int (nI (i + 1))), (8, .ref ob), (7, .ref oa), (6, .int (nI (ru (i % 4)))), (0, .ref a), (1, .ref b1), (2, .ref b2), (3, .ref b3), (4, .ref pc2)]) hE 3 dX5_mergeSheaves_170 rfl (by decide) rfl ?_
              refine zs_goto (tgt := 3) hE dX5_mergeSheaves_173 (by decide) ?_
              refine zs_widen (k' := 2 * (i + 1)) (n' := 6 * (i + 1)) (by omega) (by omega) ?_
              refine zs_sub (lo' := [(5, .int (nI (i + 1))), (0, .ref a), (1, .ref b1), (2, .ref b2), (3, .ref b3), (4, .ref pc2)]) [0, 4, 5, 6, 7, 8] rfl ?_
              exact ih (i + 1) H3 (va_up f i (some qj)) (⟨by omega, by omega, fun q w1 w2 => (ho3 q w2).trans (hoKc q w1 w2), hp3, fun j hj => by
                              rcases Nat.lt_or_ge j i with w | w
                              · rw [va_up, if_neg (by omega)]
                                exact (k7c j w).kept (fun q _ w2 => ho3 q (fun e => by rw [e, va_up, if_pos rfl] at w2; cases w2))
                              · rw [show j = i by omega, va_up, if_pos rfl]
                                exact hnew.kept (fun q _ w2 => ho3 q (fun e => by rw [e, va_up, if_pos rfl] at w2; cases w2)), by omega, by omega⟩) (by omega)
            · refine zs_lo (lo' := [(8, .ref ob), (7, .ref oa), (6, .int (nI (ru (i % 4)))), (5, .int (nI i)), (0, .ref a), (1, .ref b1), (2, .ref b2), (3, .ref b3), (4, .ref pc2)]) (by rw [ea1, eb1]; rfl) ?_
              have hoKc := hoK
              have k7c := k7
              refine zs_aload hE 1 dX5_mergeSheaves_152 rfl ?_
              refine zs_aload hE 0 dX5_mergeSheaves_154 rfl ?_
              refine zs_callSR (av := [.ref oa, .ref ob]) (st := [.int (nI i), .ref h]) hE (m_X5_fuller D E B l (va_up κ h 1) oa ob va vb) rfl rfl sS_X5_54 (⟨sa, sb⟩) ⟨by decide, by decide⟩ ⟨show 2 * i ≤ 64 by omega, show 6 * i ≤ 192 by omega⟩ (Nat.le_of_ble_eq_true rfl) dX5_mergeSheaves_156 ?_
              refine zs_goto (tgt := 169) hE dX5_mergeSheaves_159 (by decide) ?_
              have hnew : cs_os D E (va_up κ h 1) K (if sp_no va < sp_no vb then some ob else some oa) (sp_mo (ru (i % 4)) (n2 < n1) (x i) (y i) (z i)) := by rw [ea, eb, ez]; show cs_os D E (va_up κ h 1) _ _ (some (sp_m1 _ _ _ _ _)); rw [sp_m1, pI_f d1, pI_f d2, pI_f c4, pI_t c6]; by_cases w : sp_no va < sp_no vb; rw [if_pos w, if_pos w]; exact cs_os.some sb; rw [if_neg w, if_neg w]; exact cs_os.some sa
              refine zs_aastO (ci := 4) (r := _) hE k6 rfl (hnew.ob) rfl (Or.inl rfl) (by omega) (by decide) dX5_mergeSheaves_169 (fun H4 hp4 hz4 ho4 => ?_)
              have x5 := zs_pt.kept x5 (ho4 _ hah)
              have y5 := zs_pt.kept y5 (ho4 _ ny5)
              have y6 := zs_pt.kept y6 (ho4 _ ny6)
              have z5 := zs_pt.kept z5 (ho4 _ nz5)
              have z6 := zs_pt.kept z6 (ho4 _ nz6)
              have u5 := zs_pt.kept u5 (ho4 _ nu5)
              have u6 := zs_pt.kept u6 (ho4 _ nu6)
              have r5 := zs_pt.kept r5 (ho4 _ hph)
              have r6 := zs_pt.kept r6 (ho4 _ hrh)
              refine zs_iincN (lo' := [(5, .int (nI (i + 1))), (8, .ref ob), (7, .ref oa), (6, .int (nI (ru (i % 4)))), (0, .ref a), (1, .ref b1), (2, .ref b2), (3, .ref b3), (4, .ref pc2)]) hE 3 dX5_mergeSheaves_170 rfl (by decide) rfl ?_
              refine zs_goto (tgt := 3) hE dX5_mergeSheaves_173 (by decide) ?_
              refine zs_widen (k' := 2 * (i + 1)) (n' := 6 * (i + 1)) (by omega) (by omega) ?_
              refine zs_sub (lo' := [(5, .int (nI (i + 1))), (0, .ref a), (1, .ref b1), (2, .ref b2), (3, .ref b3), (4, .ref pc2)]) [0, 4, 5, 6, 7, 8] rfl ?_
              exact ih (i + 1) H4 (va_up f i (if sp_no va < sp_no vb then some ob else some oa)) (⟨by omega, by omega, fun q w1 w2 => (ho4 q w2).trans (hoKc q w1 w2), hp4, fun j hj => by
                              rcases Nat.lt_or_ge j i with w | w
                              · rw [va_up, if_neg (by omega)]
                                exact (k7c j w).kept (fun q _ w2 => ho4 q (fun e => by rw [e, va_up, if_pos rfl] at w2; cases w2))
                              · rw [show j = i by omega, va_up, if_pos rfl]
                                exact hnew.kept (fun q _ w2 => ho4 q (fun e => by rw [e, va_up, if_pos rfl] at w2; cases w2)), by omega, by omega⟩) (by omega)
          · refine zs_aload_n hE 4 dX5_mergeSheaves_111 rfl rfl ?_
            refine zs_get hE fl_X5_11 x5 rfl dX5_mergeSheaves_112 ?_
            refine zs_iload hE 3 dX5_mergeSheaves_115 rfl ?_
            refine zs_aload_n hE 5 dX5_mergeSheaves_117 rfl rfl ?_
            refine zs_get hE fl_X5_17 y5 rfl dX5_mergeSheaves_118 ?_
            refine zs_aload_n hE 6 dX5_mergeSheaves_121 rfl rfl ?_
            refine zs_get hE fl_X5_17 z5 rfl dX5_mergeSheaves_122 ?_
            refine zs_icmp_leN (tgt := 133) hE (by omega) (by omega) dX5_mergeSheaves_125 (by decide) (fun c5 => ?_) (fun c5 => ?_)
            · have hoKc := hoK
              have k7c := k7
              refine zs_aloadq hE 0 dX5_mergeSheaves_133 rfl ?_
              have hnew : cs_os D E (va_up κ h 1) K (zf i) (sp_mo (ru (i % 4)) (n2 < n1) (x i) (y i) (z i)) := by rw [ea, eb, ez]; show cs_os D E (va_up κ h 1) _ _ (some (sp_m1 _ _ _ _ _)); rw [sp_m1, pI_f d1, pI_f d2, pI_t c4, pI_f (by omega)]; exact oz
              refine zs_aastO (ci := 4) (r := _) hE k6 rfl (hnew.ob) rfl (Or.inl rfl) (by omega) (by decide) dX5_mergeSheaves_135 (fun H5 hp5 hz5 ho5 => ?_)
              have x5 := zs_pt.kept x5 (ho5 _ hah)
              have y5 := zs_pt.kept y5 (ho5 _ ny5)
              have y6 := zs_pt.kept y6 (ho5 _ ny6)
              have z5 := zs_pt.kept z5 (ho5 _ nz5)
              have z6 := zs_pt.kept z6 (ho5 _ nz6)
              have u5 := zs_pt.kept u5 (ho5 _ nu5)
              have u6 := zs_pt.kept u6 (ho5 _ nu6)
              have r5 := zs_pt.kept r5 (ho5 _ hph)
              have r6 := zs_pt.kept r6 (ho5 _ hrh)
              refine zs_goto (tgt := 170) hE dX5_mergeSheaves_136 (by decide) ?_
              refine zs_iincN (lo' := [(5, .int (nI (i + 1))), (8, va_rf (zf i)), (7, va_rf (yf i)), (6, .int (nI (ru (i % 4)))), (0, .ref a), (1, .ref b1), (2, .ref b2), (3, .ref b3), (4, .ref pc2)]) hE 3 dX5_mergeSheaves_170 rfl (by decide) rfl ?_
              refine zs_goto (tgt := 3) hE dX5_mergeSheaves_173 (by decide) ?_
              refine zs_widen (k' := 2 * (i + 1)) (n' := 6 * (i + 1)) (by omega) (by omega) ?_
              refine zs_sub (lo' := [(5, .int (nI (i + 1))), (0, .ref a), (1, .ref b1), (2, .ref b2), (3, .ref b3), (4, .ref pc2)]) [0, 4, 5, 6, 7, 8] rfl ?_
              exact ih (i + 1) H5 (va_up f i (zf i)) (⟨by omega, by omega, fun q w1 w2 => (ho5 q w2).trans (hoKc q w1 w2), hp5, fun j hj => by
                              rcases Nat.lt_or_ge j i with w | w
                              · rw [va_up, if_neg (by omega)]
                                exact (k7c j w).kept (fun q _ w2 => ho5 q (fun e => by rw [e, va_up, if_pos rfl] at w2; cases w2))
                              · rw [show j = i by omega, va_up, if_pos rfl]
                                exact hnew.kept (fun q _ w2 => ho5 q (fun e => by rw [e, va_up, if_pos rfl] at w2; cases w2)), by omega, by omega⟩) (by omega)
            · have hoKc := hoK
              have k7c := k7
              refine zs_aloadq hE 1 dX5_mergeSheaves_128 rfl ?_
              refine zs_goto (tgt := 135) hE dX5_mergeSheaves_130 (by decide) ?_
              have hnew : cs_os D E (va_up κ h 1) K (yf i) (sp_mo (ru (i % 4)) (n2 < n1) (x i) (y i) (z i)) := by rw [ea, eb, ez]; show cs_os D E (va_up κ h 1) _ _ (some (sp_m1 _ _ _ _ _)); rw [sp_m1, pI_f d1, pI_f d2, pI_t c4, pI_t c5]; exact oy
              refine zs_aastO (ci := 4) (r := _) hE k6 rfl (hnew.ob) rfl (Or.inl rfl) (by omega) (by decide) dX5_mergeSheaves_135 (fun H6 hp6 hz6 ho6 => ?_)
              have x5 := zs_pt.kept x5 (ho6 _ hah)
              have y5 := zs_pt.kept y5 (ho6 _ ny5)
              have y6 := zs_pt.kept y6 (ho6 _ ny6)
              have z5 := zs_pt.kept z5 (ho6 _ nz5)
              have z6 := zs_pt.kept z6 (ho6 _ nz6)
              have u5 := zs_pt.kept u5 (ho6 _ nu5)
              have u6 := zs_pt.kept u6 (ho6 _ nu6)
              have r5 := zs_pt.kept r5 (ho6 _ hph)
              have r6 := zs_pt.kept r6 (ho6 _ hrh)
              refine zs_goto (tgt := 170) hE dX5_mergeSheaves_136 (by decide) ?_
              refine zs_iincN (lo' := [(5, .int (nI (i + 1))), (8, va_rf (zf i)), (7, va_rf (yf i)), (6, .int (nI (ru (i % 4)))), (0, .ref a), (1, .ref b1), (2, .ref b2), (3, .ref b3), (4, .ref pc2)]) hE 3 dX5_mergeSheaves_170 rfl (by decide) rfl ?_
              refine zs_goto (tgt := 3) hE dX5_mergeSheaves_173 (by decide) ?_
              refine zs_widen (k' := 2 * (i + 1)) (n' := 6 * (i + 1)) (by omega) (by omega) ?_
              refine zs_sub (lo' := [(5, .int (nI (i + 1))), (0, .ref a), (1, .ref b1), (2, .ref b2), (3, .ref b3), (4, .ref pc2)]) [0, 4, 5, 6, 7, 8] rfl ?_
              exact ih (i + 1) H6 (va_up f i (yf i)) (⟨by omega, by omega, fun q w1 w2 => (ho6 q w2).trans (hoKc q w1 w2), hp6, fun j hj => by
                              rcases Nat.lt_or_ge j i with w | w
                              · rw [va_up, if_neg (by omega)]
                                exact (k7c j w).kept (fun q _ w2 => ho6 q (fun e => by rw [e, va_up, if_pos rfl] at w2; cases w2))
                              · rw [show j = i by omega, va_up, if_pos rfl]
                                exact hnew.kept (fun q _ w2 => ho6 q (fun e => by rw [e, va_up, if_pos rfl] at w2; cases w2)), by omega, by omega⟩) (by omega)
        · have hoKc := hoK
          have k7c := k7
          refine zs_aload_n hE 4 dX5_mergeSheaves_92 rfl rfl ?_
          refine zs_get hE fl_X5_11 x5 rfl dX5_mergeSheaves_93 ?_
          refine zs_iload hE 3 dX5_mergeSheaves_96 rfl ?_
          refine zs_aloadq hE 0 dX5_mergeSheaves_98 rfl ?_
          have hnew : cs_os D E (va_up κ h 1) K (zf i) (sp_mo (ru (i % 4)) (n2 < n1) (x i) (y i) (z i)) := by rw [ea, eb, ez]; show cs_os D E (va_up κ h 1) _ _ (some (sp_m1 _ _ _ _ _)); rw [sp_m1, pI_f d1, pI_t (sp_oal_s.mp c3)]; exact oz
          refine zs_aastO (ci := 4) (r := _) hE k6 rfl (hnew.ob) rfl (Or.inl rfl) (by omega) (by decide) dX5_mergeSheaves_100 (fun H7 hp7 hz7 ho7 => ?_)
          have x5 := zs_pt.kept x5 (ho7 _ hah)
          have y5 := zs_pt.kept y5 (ho7 _ ny5)
          have y6 := zs_pt.kept y6 (ho7 _ ny6)
          have z5 := zs_pt.kept z5 (ho7 _ nz5)
          have z6 := zs_pt.kept z6 (ho7 _ nz6)
          have u5 := zs_pt.kept u5 (ho7 _ nu5)
          have u6 := zs_pt.kept u6 (ho7 _ nu6)
          have r5 := zs_pt.kept r5 (ho7 _ hph)
          have r6 := zs_pt.kept r6 (ho7 _ hrh)
          refine zs_goto (tgt := 170) hE dX5_mergeSheaves_101 (by decide) ?_
          refine zs_iincN (lo' := [(5, .int (nI (i + 1))), (8, va_rf (zf i)), (7, va_rf (yf i)), (6, .int (nI (ru (i % 4)))), (0, .ref a), (1, .ref b1), (2, .ref b2), (3, .ref b3), (4, .ref pc2)]) hE 3 dX5_mergeSheaves_170 rfl (by decide) rfl ?_
          refine zs_goto (tgt := 3) hE dX5_mergeSheaves_173 (by decide) ?_
          refine zs_widen (k' := 2 * (i + 1)) (n' := 6 * (i + 1)) (by omega) (by omega) ?_
          refine zs_sub (lo' := [(5, .int (nI (i + 1))), (0, .ref a), (1, .ref b1), (2, .ref b2), (3, .ref b3), (4, .ref pc2)]) [0, 4, 5, 6, 7, 8] rfl ?_
          exact ih (i + 1) H7 (va_up f i (zf i)) (⟨by omega, by omega, fun q w1 w2 => (ho7 q w2).trans (hoKc q w1 w2), hp7, fun j hj => by
                      rcases Nat.lt_or_ge j i with w | w
                      · rw [va_up, if_neg (by omega)]
                        exact (k7c j w).kept (fun q _ w2 => ho7 q (fun e => by rw [e, va_up, if_pos rfl] at w2; cases w2))
                      · rw [show j = i by omega, va_up, if_pos rfl]
                        exact hnew.kept (fun q _ w2 => ho7 q (fun e => by rw [e, va_up, if_pos rfl] at w2; cases w2)), by omega, by omega⟩) (by omega)
      · have hoKc := hoK
        have k7c := k7
        refine zs_aload_n hE 4 dX5_mergeSheaves_65 rfl rfl ?_
        refine zs_get hE fl_X5_11 x5 rfl dX5_mergeSheaves_66 ?_
        refine zs_iload hE 3 dX5_mergeSheaves_69 rfl ?_
        refine zs_aloadq hE 1 dX5_mergeSheaves_71 rfl ?_
        have hnew : cs_os D E (va_up κ h 1) K (yf i) (sp_mo (ru (i % 4)) (n2 < n1) (x i) (y i) (z i)) := by
                      cases hx : x i with
                      | none => rw [hx] at c1; exact absurd sp_oal_n c1
                      | some va =>
                        cases hy : y i with
                        | none => rw [(hxy i h4).mpr hy] at hx; cases hx
                        | some vb =>
                          cases hz : z i with
                          | none => rw [(hxz i h4).mpr hz] at hx; cases hx
                          | some vz =>
                            rw [hy, hz] at c2
                            rw [hx] at oy
                            show cs_os D E (va_up κ h 1) _ _ (some (sp_m1 _ _ _ _ _))
                            rw [sp_m1, pI_t (Or.inr (sp_oal_s.mp c2))]
                            exact oy
        refine zs_aastO (ci := 4) (r := _) hE k6 rfl (hnew.ob) rfl (Or.inl rfl) (by omega) (by decide) dX5_mergeSheaves_73 (fun H8 hp8 hz8 ho8 => ?_)
        have x5 := zs_pt.kept x5 (ho8 _ hah)
        have y5 := zs_pt.kept y5 (ho8 _ ny5)
        have y6 := zs_pt.kept y6 (ho8 _ ny6)
        have z5 := zs_pt.kept z5 (ho8 _ nz5)
        have z6 := zs_pt.kept z6 (ho8 _ nz6)
        have u5 := zs_pt.kept u5 (ho8 _ nu5)
        have u6 := zs_pt.kept u6 (ho8 _ nu6)
        have r5 := zs_pt.kept r5 (ho8 _ hph)
        have r6 := zs_pt.kept r6 (ho8 _ hrh)
        refine zs_goto (tgt := 170) hE dX5_mergeSheaves_74 (by decide) ?_
        refine zs_iincN (lo' := [(5, .int (nI (i + 1))), (8, va_rf (zf i)), (7, va_rf (yf i)), (6, .int (nI (ru (i % 4)))), (0, .ref a), (1, .ref b1), (2, .ref b2), (3, .ref b3), (4, .ref pc2)]) hE 3 dX5_mergeSheaves_170 rfl (by decide) rfl ?_
        refine zs_goto (tgt := 3) hE dX5_mergeSheaves_173 (by decide) ?_
        refine zs_widen (k' := 2 * (i + 1)) (n' := 6 * (i + 1)) (by omega) (by omega) ?_
        refine zs_sub (lo' := [(5, .int (nI (i + 1))), (0, .ref a), (1, .ref b1), (2, .ref b2), (3, .ref b3), (4, .ref pc2)]) [0, 4, 5, 6, 7, 8] rfl ?_
        exact ih (i + 1) H8 (va_up f i (yf i)) (⟨by omega, by omega, fun q w1 w2 => (ho8 q w2).trans (hoKc q w1 w2), hp8, fun j hj => by
                  rcases Nat.lt_or_ge j i with w | w
                  · rw [va_up, if_neg (by omega)]
                    exact (k7c j w).kept (fun q _ w2 => ho8 q (fun e => by rw [e, va_up, if_pos rfl] at w2; cases w2))
                  · rw [show j = i by omega, va_up, if_pos rfl]
                    exact hnew.kept (fun q _ w2 => ho8 q (fun e => by rw [e, va_up, if_pos rfl] at w2; cases w2)), by omega, by omega⟩) (by omega)
end
